/-! the reference: what it writes -/
def LR (f : Nat → Int32) (O : List Nat) : Prop := ∀ k, k < O.length → f k = nI (O.getD k 0)
theorem LR.app {f : Nat → Int32} {O : List Nat} {c : Nat} (h : LR f O) : LR (upd f O.length (nI c)) (O ++ [c]) := fun k hk => by
  have hl : (O ++ [c]).length = O.length + 1 := by simp
  simp only [upd]
  by_cases c9 : k = O.length
  · rw [if_pos c9, c9, List.getD_eq_getElem?_getD, List.getElem?_append_right (Nat.le_refl _)]; simp
  · rw [if_neg c9, List.getD_eq_getElem?_getD, List.getElem?_append_left (by omega), ← List.getD_eq_getElem?_getD]; exact h k (by omega)
set_option maxRecDepth 100000 in
set_option maxHeartbeats 4000000 in
theorem c_X13_writes {g : zGT} {w : zW} {b : Nat} {th ch ea fa sv tn po en kn wr dg : Int32} {fv fb fs fp fh ft fl fi : Nat → Int32} {O : List Nat} {c : Nat} (h0 : zG0 g) (h : Mx g w b th ch ea fa sv tn po en (nI O.length) kn wr dg fv fb fs fp fh ft fl fi) (hO : LR fl O) (hlt : O.length < 1200) : zCt g mX13_writes (zR 0 0) [.ref (za g b), .int (nI (c))] w (fun o w' => o = .inl none ∧ zFr w w' b (b + 11) ∧ ∃ f', Mx g w' b th ch ea fa sv tn po en (nI (O ++ [c]).length) kn wr dg fv fb fs fp fh ft (f') fi ∧ LR f' (O ++ [c])) := by
  have hb := h.1
  refine zCt_of (by decide +kernel) h0 [(0, .ref (za g b)), (1, .int (nI (c)))] rfl (Nat.le_of_ble_eq_true rfl) ?_
  refine z_aload_n dX13_writes_0 rfl ?_
  refine z_getf (j := b) dX13_writes_1 kF_RX13_35 rfl (by omega) h.ce rfl ?_
  refine z_aload_n dX13_writes_4 rfl ?_
  refine z_getf (j := b) dX13_writes_5 kF_RX13_175 rfl (by omega) h.ce rfl ?_
  refine z_iload_n dX13_writes_8 rfl ?_
  refine z_iast_n (j := b + 7) (N := 1200) (a := O.length) (f := fl) dX13_writes_9 (by omega) h.r7 (by omega) (by omega) ?_
  obtain ⟨w1, ew2⟩ : ∃ wz : zW, wz = va_up w (b + 7) (zI g 1200 (upd (fl) (O.length) ((nI (c))))) := ⟨_, rfl⟩
  refine z_weq (w' := w1) ew2.symm ?_
  have hf3 : zFr w w1 (b + 7) (b + 7 + 1) := by rw [ew2]; exact zFr.up (by omega)
  have hw4 : w1 (b + 7) = zI g 1200 (upd (fl) (O.length) ((nI (c)))) := by rw [ew2, zup_s]
  have hx5 := h.setL hf3 hw4
  refine z_aload_n dX13_writes_10 rfl ?_
  refine z_dup dX13_writes_11 rfl ?_
  refine z_getf (j := b) dX13_writes_12 kF_RX13_175 rfl (by omega) hx5.ce rfl ?_
  refine z_iconst (v := nI 1) dX13_writes_15 rfl ?_
  refine z_iadd_n (a := O.length) (b := 1) dX13_writes_16 ?_
  refine z_putf (j := b) dX13_writes_17 kF_RX13_175 zt_12_18 rfl (by omega) hx5.ce rfl rfl (Nat.le_of_ble_eq_true rfl) ?_
  obtain ⟨w6, ew7⟩ : ∃ wz : zW, wz = va_up w1 (b) (zO 12 [.int (th), .int (ch), .int (ea), .int (fa), .int (sv), .ref (za g (b + 1)), .ref (za g (b + 2)), .ref (za g (b + 3)), .ref (za g (b + 4)), .ref (za g (b + 5)), .ref (za g (b + 6)), .ref (za g (b + 7)), .ref (za g (b + 8)), .ref (za g (b + 9)), .ref (za g (b + 10)), .int (tn), .int (po), .int (en), .int (nI ((O.length) + (1))), .int (kn), .int (wr), .int (dg)]) := ⟨_, rfl⟩
  refine z_weq (w' := w6) ew7.symm ?_
  have hf8 : zFr w1 w6 (b) (b + 1) := by rw [ew7]; exact zFr.up (by omega)
  have hw9 : w6 (b) = zO 12 [.int (th), .int (ch), .int (ea), .int (fa), .int (sv), .ref (za g (b + 1)), .ref (za g (b + 2)), .ref (za g (b + 3)), .ref (za g (b + 4)), .ref (za g (b + 5)), .ref (za g (b + 6)), .ref (za g (b + 7)), .ref (za g (b + 8)), .ref (za g (b + 9)), .ref (za g (b + 10)), .int (tn), .int (po), .int (en), .int (nI ((O.length) + (1))), .int (kn), .int (wr), .int (dg)] := by rw [ew7, zup_s]
  have hx10 := hx5.setC hf8 hw9
  refine z_vret dX13_writes_20 rfl (by decide) (by decide) ?_
  have hll : (O ++ [c]).length = O.length + 1 := by simp
  exact ⟨rfl, ((hf3.wk (by omega) (by omega)).tr (hf8.wk (by omega) (by omega))), _, by rw [hll]; exact hx10, hO.app⟩
theorem dig3_2 {x : Nat} (h : 10 ≤ x) (h2 : x < 100) : dig3 x = [48 + x / 10] ++ [48 + x % 10] := by
  unfold dig3; rw [if_neg (by omega), if_pos h, show x / 10 % 10 = x / 10 by omega]; rfl
theorem dig3_3 {x : Nat} (h : 100 ≤ x) (h2 : x < 1000) : dig3 x = [48 + x / 100] ++ [48 + x / 10 % 10] ++ [48 + x % 10] := by
  unfold dig3; rw [if_pos h, if_pos (by omega)]; rfl
set_option maxRecDepth 100000 in
set_option maxHeartbeats 4000000 in
theorem c_X13_writesNumber_1 {g : zGT} {w : zW} {b : Nat} {th ch ea fa sv tn po en kn wr dg : Int32} {fv fb fs fp fh ft fl fi : Nat → Int32} {O : List Nat} {n : Nat} (h0 : zG0 g) (h : Mx g w b th ch ea fa sv tn po en (nI O.length) kn wr dg fv fb fs fp fh ft fl fi) (hO : LR fl O) (hlt : O.length + 3 < 1200) (h8 : 0 ≤ n) (h9 : n < 10) : zCt g mX13_writesNumber (zR 1 0) [.ref (za g b), .int (nI (n))] w (fun o w' => o = .inl none ∧ zFr w w' b (b + 11) ∧ ∃ f', Mx g w' b th ch ea fa sv tn po en (nI (O ++ dig3 n).length) kn wr dg fv fb fs fp fh ft (f') fi ∧ LR f' (O ++ dig3 n)) := by
  have hb := h.1
  refine zCt_of (by decide +kernel) h0 [(0, .ref (za g b)), (1, .int (nI (n)))] rfl (Nat.le_of_ble_eq_true rfl) ?_
  refine z_iconst (v := nI 1) dX13_writesNumber_0 rfl ?_
  refine z_istore_n (lv' := [(0, .ref (za g b)), (1, .int (nI (n))), (2, .int (nI (1)))]) dX13_writesNumber_1 (by decide) rfl ?_
  refine z_iload_n dX13_writesNumber_2 rfl ?_
  refine z_iload_n dX13_writesNumber_3 rfl ?_
  refine z_idiv_n (a := n) (b := 1) dX13_writesNumber_4 (by omega) (by omega) (by omega) ?_
  refine z_bipush (v := nI 10) dX13_writesNumber_5 rfl ?_
  refine z_icmp_lt_n (a := (n) / (1)) (b := 10) (tgt := 18) dX13_writesNumber_7 (by decide) (by omega) (by omega) (fun h_7_1 => ?_) (fun h_7_1 => ?_)
  · refine z_iload_n dX13_writesNumber_18 rfl ?_
    refine z_if_le_n (a := 1) (tgt := 43) dX13_writesNumber_19 (by decide) (by omega) (fun h_19_2 => ?_) (fun h_19_2 => ?_)
    · exact absurd h_19_2 (by decide)
    · refine z_aload_n dX13_writesNumber_22 rfl ?_
      refine z_bipush (v := nI 48) dX13_writesNumber_23 rfl ?_
      refine z_iload_n dX13_writesNumber_25 rfl ?_
      refine z_iload_n dX13_writesNumber_26 rfl ?_
      refine z_idiv_n (a := n) (b := 1) dX13_writesNumber_27 (by omega) (by omega) (by omega) ?_
      refine z_bipush (v := nI 10) dX13_writesNumber_28 rfl ?_
      refine z_irem_n (a := (n) / (1)) (b := 10) dX13_writesNumber_30 (by omega) (by omega) (by omega) ?_
      refine z_iadd_n (a := 48) (b := ((n) / (1)) % (10)) dX13_writesNumber_31 ?_
      refine z_callR (As := [.int (nI ((48) + (((n) / (1)) % (10))))]) (rest := []) (b := b) (ci := 12) (v := none) (R2 := zR 0 0) dX13_writesNumber_32 kV_RX13_178 rfl ⟨⟨by decide, by decide⟩, by decide, by decide⟩ (by omega) h.ce rfl rfl rfl (Nat.le_of_ble_eq_true rfl) rfl (c_X13_writes (c := (48) + (((n) / (1)) % (10))) (O := O) h0 h hO (by (try simp only [List.length_append, List.length_cons, List.length_nil]); omega)) (fun w3 pw3 => ?_)
      obtain ⟨hf4, g5, hx6, hO7⟩ := pw3
      refine z_iload_n dX13_writesNumber_35 rfl ?_
      refine z_bipush (v := nI 10) dX13_writesNumber_36 rfl ?_
      refine z_idiv_n (a := 1) (b := 10) dX13_writesNumber_38 (by omega) (by omega) (by omega) ?_
      refine z_istore_n (lv' := [(0, .ref (za g b)), (1, .int (nI (n))), (2, .int (nI ((1) / (10))))]) dX13_writesNumber_39 (by decide) rfl ?_
      refine z_goto (tgt := 18) dX13_writesNumber_40 (by decide) ?_
      refine z_eq (lv' := [(0, .ref (za g b)), (1, .int (nI (n))), (2, .int (nI (0)))]) rfl rfl rfl ?_
      refine z_iload_n dX13_writesNumber_18 rfl ?_
      refine z_if_le_n (a := 0) (tgt := 43) dX13_writesNumber_19 (by decide) (by omega) (fun h_19_8 => ?_) (fun h_19_8 => ?_)
      · refine z_vret dX13_writesNumber_43 rfl (by decide) (by decide) ?_
        have eO : (O ++ [(48) + (((n) / (1)) % (10))]) = O ++ dig3 n := by rw [dig3_1 h9, show (48) + (((n) / (1)) % (10)) = 48 + n by omega]
        refine ⟨rfl, hf4, g5, ?_, ?_⟩
        · rw [← eO]; exact hx6
        · rw [← eO]; exact hO7
      · exact absurd h_19_8 (by decide)
  · (exfalso; omega)
set_option maxRecDepth 100000 in
set_option maxHeartbeats 4000000 in
theorem c_X13_writesNumber_2 {g : zGT} {w : zW} {b : Nat} {th ch ea fa sv tn po en kn wr dg : Int32} {fv fb fs fp fh ft fl fi : Nat → Int32} {O : List Nat} {n : Nat} (h0 : zG0 g) (h : Mx g w b th ch ea fa sv tn po en (nI O.length) kn wr dg fv fb fs fp fh ft fl fi) (hO : LR fl O) (hlt : O.length + 3 < 1200) (h8 : 10 ≤ n) (h9 : n < 100) : zCt g mX13_writesNumber (zR 1 0) [.ref (za g b), .int (nI (n))] w (fun o w' => o = .inl none ∧ zFr w w' b (b + 11) ∧ ∃ f', Mx g w' b th ch ea fa sv tn po en (nI (O ++ dig3 n).length) kn wr dg fv fb fs fp fh ft (f') fi ∧ LR f' (O ++ dig3 n)) := by
  have hb := h.1
  refine zCt_of (by decide +kernel) h0 [(0, .ref (za g b)), (1, .int (nI (n)))] rfl (Nat.le_of_ble_eq_true rfl) ?_
  refine z_iconst (v := nI 1) dX13_writesNumber_0 rfl ?_
  refine z_istore_n (lv' := [(0, .ref (za g b)), (1, .int (nI (n))), (2, .int (nI (1)))]) dX13_writesNumber_1 (by decide) rfl ?_
  refine z_iload_n dX13_writesNumber_2 rfl ?_
  refine z_iload_n dX13_writesNumber_3 rfl ?_
  refine z_idiv_n (a := n) (b := 1) dX13_writesNumber_4 (by omega) (by omega) (by omega) ?_
  refine z_bipush (v := nI 10) dX13_writesNumber_5 rfl ?_
  refine z_icmp_lt_n (a := (n) / (1)) (b := 10) (tgt := 18) dX13_writesNumber_7 (by decide) (by omega) (by omega) (fun h_7_1 => ?_) (fun h_7_1 => ?_)
  · (exfalso; omega)
  · refine z_iload_n dX13_writesNumber_10 rfl ?_
    refine z_bipush (v := nI 10) dX13_writesNumber_11 rfl ?_
    refine z_imul_n (a := 1) (b := 10) dX13_writesNumber_13 ?_
    refine z_istore_n (lv' := [(0, .ref (za g b)), (1, .int (nI (n))), (2, .int (nI ((1) * (10))))]) dX13_writesNumber_14 (by decide) rfl ?_
    refine z_goto (tgt := 2) dX13_writesNumber_15 (by decide) ?_
    refine z_eq (lv' := [(0, .ref (za g b)), (1, .int (nI (n))), (2, .int (nI (10)))]) rfl rfl rfl ?_
    refine z_iload_n dX13_writesNumber_2 rfl ?_
    refine z_iload_n dX13_writesNumber_3 rfl ?_
    refine z_idiv_n (a := n) (b := 10) dX13_writesNumber_4 (by omega) (by omega) (by omega) ?_
    refine z_bipush (v := nI 10) dX13_writesNumber_5 rfl ?_
    refine z_icmp_lt_n (a := (n) / (10)) (b := 10) (tgt := 18) dX13_writesNumber_7 (by decide) (by omega) (by omega) (fun h_7_2 => ?_) (fun h_7_2 => ?_)
    · refine z_iload_n dX13_writesNumber_18 rfl ?_
      refine z_if_le_n (a := 10) (tgt := 43) dX13_writesNumber_19 (by decide) (by omega) (fun h_19_3 => ?_) (fun h_19_3 => ?_)
      · exact absurd h_19_3 (by decide)
      · refine z_aload_n dX13_writesNumber_22 rfl ?_
        refine z_bipush (v := nI 48) dX13_writesNumber_23 rfl ?_
        refine z_iload_n dX13_writesNumber_25 rfl ?_
        refine z_iload_n dX13_writesNumber_26 rfl ?_
        refine z_idiv_n (a := n) (b := 10) dX13_writesNumber_27 (by omega) (by omega) (by omega) ?_
        refine z_bipush (v := nI 10) dX13_writesNumber_28 rfl ?_
        refine z_irem_n (a := (n) / (10)) (b := 10) dX13_writesNumber_30 (by omega) (by omega) (by omega) ?_
        refine z_iadd_n (a := 48) (b := ((n) / (10)) % (10)) dX13_writesNumber_31 ?_
        refine z_callR (As := [.int (nI ((48) + (((n) / (10)) % (10))))]) (rest := []) (b := b) (ci := 12) (v := none) (R2 := zR 0 0) dX13_writesNumber_32 kV_RX13_178 rfl ⟨⟨by decide, by decide⟩, by decide, by decide⟩ (by omega) h.ce rfl rfl rfl (Nat.le_of_ble_eq_true rfl) rfl (c_X13_writes (c := (48) + (((n) / (10)) % (10))) (O := O) h0 h hO (by (try simp only [List.length_append, List.length_cons, List.length_nil]); omega)) (fun w4 pw4 => ?_)
        obtain ⟨hf5, g6, hx7, hO8⟩ := pw4
        refine z_iload_n dX13_writesNumber_35 rfl ?_
        refine z_bipush (v := nI 10) dX13_writesNumber_36 rfl ?_
        refine z_idiv_n (a := 10) (b := 10) dX13_writesNumber_38 (by omega) (by omega) (by omega) ?_
        refine z_istore_n (lv' := [(0, .ref (za g b)), (1, .int (nI (n))), (2, .int (nI ((10) / (10))))]) dX13_writesNumber_39 (by decide) rfl ?_
        refine z_goto (tgt := 18) dX13_writesNumber_40 (by decide) ?_
        refine z_eq (lv' := [(0, .ref (za g b)), (1, .int (nI (n))), (2, .int (nI (1)))]) rfl rfl rfl ?_
        refine z_iload_n dX13_writesNumber_18 rfl ?_
        refine z_if_le_n (a := 1) (tgt := 43) dX13_writesNumber_19 (by decide) (by omega) (fun h_19_9 => ?_) (fun h_19_9 => ?_)
        · exact absurd h_19_9 (by decide)
        · refine z_aload_n dX13_writesNumber_22 rfl ?_
          refine z_bipush (v := nI 48) dX13_writesNumber_23 rfl ?_
          refine z_iload_n dX13_writesNumber_25 rfl ?_
          refine z_iload_n dX13_writesNumber_26 rfl ?_
          refine z_idiv_n (a := n) (b := 1) dX13_writesNumber_27 (by omega) (by omega) (by omega) ?_
          refine z_bipush (v := nI 10) dX13_writesNumber_28 rfl ?_
          refine z_irem_n (a := (n) / (1)) (b := 10) dX13_writesNumber_30 (by omega) (by omega) (by omega) ?_
          refine z_iadd_n (a := 48) (b := ((n) / (1)) % (10)) dX13_writesNumber_31 ?_
          refine z_callR (As := [.int (nI ((48) + (((n) / (1)) % (10))))]) (rest := []) (b := b) (ci := 12) (v := none) (R2 := zR 0 0) dX13_writesNumber_32 kV_RX13_178 rfl ⟨⟨by decide, by decide⟩, by decide, by decide⟩ (by omega) hx7.ce rfl rfl rfl (Nat.le_of_ble_eq_true rfl) rfl (c_X13_writes (c := (48) + (((n) / (1)) % (10))) (O := (O ++ [(48) + (((n) / (10)) % (10))])) h0 hx7 hO8 (by (try simp only [List.length_append, List.length_cons, List.length_nil]); omega)) (fun w10 pw10 => ?_)
          obtain ⟨hf11, g12, hx13, hO14⟩ := pw10
          refine z_iload_n dX13_writesNumber_35 rfl ?_
          refine z_bipush (v := nI 10) dX13_writesNumber_36 rfl ?_
          refine z_idiv_n (a := 1) (b := 10) dX13_writesNumber_38 (by omega) (by omega) (by omega) ?_
          refine z_istore_n (lv' := [(0, .ref (za g b)), (1, .int (nI (n))), (2, .int (nI ((1) / (10))))]) dX13_writesNumber_39 (by decide) rfl ?_
          refine z_goto (tgt := 18) dX13_writesNumber_40 (by decide) ?_
          refine z_eq (lv' := [(0, .ref (za g b)), (1, .int (nI (n))), (2, .int (nI (0)))]) rfl rfl rfl ?_
          refine z_iload_n dX13_writesNumber_18 rfl ?_
          refine z_if_le_n (a := 0) (tgt := 43) dX13_writesNumber_19 (by decide) (by omega) (fun h_19_15 => ?_) (fun h_19_15 => ?_)
          · refine z_vret dX13_writesNumber_43 rfl (by decide) (by decide) ?_
            have eO : ((O ++ [(48) + (((n) / (10)) % (10))]) ++ [(48) + (((n) / (1)) % (10))]) = O ++ dig3 n := by rw [dig3_2 h8 h9, show (48) + (((n) / (10)) % (10)) = 48 + n / 10 by omega, show (48) + (((n) / (1)) % (10)) = 48 + n % 10 by omega]; simp only [List.append_assoc]
            refine ⟨rfl, (hf5.tr hf11), g12, ?_, ?_⟩
            · rw [← eO]; exact hx13
            · rw [← eO]; exact hO14
          · exact absurd h_19_15 (by decide)
    · (exfalso; omega)
set_option maxRecDepth 100000 in
set_option maxHeartbeats 4000000 in
theorem c_X13_writesNumber_3 {g : zGT} {w : zW} {b : Nat} {th ch ea fa sv tn po en kn wr dg : Int32} {fv fb fs fp fh ft fl fi : Nat → Int32} {O : List Nat} {n : Nat} (h0 : zG0 g) (h : Mx g w b th ch ea fa sv tn po en (nI O.length) kn wr dg fv fb fs fp fh ft fl fi) (hO : LR fl O) (hlt : O.length + 3 < 1200) (h8 : 100 ≤ n) (h9 : n < 1000) : zCt g mX13_writesNumber (zR 1 0) [.ref (za g b), .int (nI (n))] w (fun o w' => o = .inl none ∧ zFr w w' b (b + 11) ∧ ∃ f', Mx g w' b th ch ea fa sv tn po en (nI (O ++ dig3 n).length) kn wr dg fv fb fs fp fh ft (f') fi ∧ LR f' (O ++ dig3 n)) := by
  have hb := h.1
  refine zCt_of (by decide +kernel) h0 [(0, .ref (za g b)), (1, .int (nI (n)))] rfl (Nat.le_of_ble_eq_true rfl) ?_
  refine z_iconst (v := nI 1) dX13_writesNumber_0 rfl ?_
  refine z_istore_n (lv' := [(0, .ref (za g b)), (1, .int (nI (n))), (2, .int (nI (1)))]) dX13_writesNumber_1 (by decide) rfl ?_
  refine z_iload_n dX13_writesNumber_2 rfl ?_
  refine z_iload_n dX13_writesNumber_3 rfl ?_
  refine z_idiv_n (a := n) (b := 1) dX13_writesNumber_4 (by omega) (by omega) (by omega) ?_
  refine z_bipush (v := nI 10) dX13_writesNumber_5 rfl ?_
  refine z_icmp_lt_n (a := (n) / (1)) (b := 10) (tgt := 18) dX13_writesNumber_7 (by decide) (by omega) (by omega) (fun h_7_1 => ?_) (fun h_7_1 => ?_)
  · (exfalso; omega)
  · refine z_iload_n dX13_writesNumber_10 rfl ?_
    refine z_bipush (v := nI 10) dX13_writesNumber_11 rfl ?_
    refine z_imul_n (a := 1) (b := 10) dX13_writesNumber_13 ?_
    refine z_istore_n (lv' := [(0, .ref (za g b)), (1, .int (nI (n))), (2, .int (nI ((1) * (10))))]) dX13_writesNumber_14 (by decide) rfl ?_
    refine z_goto (tgt := 2) dX13_writesNumber_15 (by decide) ?_
    refine z_eq (lv' := [(0, .ref (za g b)), (1, .int (nI (n))), (2, .int (nI (10)))]) rfl rfl rfl ?_
    refine z_iload_n dX13_writesNumber_2 rfl ?_
    refine z_iload_n dX13_writesNumber_3 rfl ?_
    refine z_idiv_n (a := n) (b := 10) dX13_writesNumber_4 (by omega) (by omega) (by omega) ?_
    refine z_bipush (v := nI 10) dX13_writesNumber_5 rfl ?_
    refine z_icmp_lt_n (a := (n) / (10)) (b := 10) (tgt := 18) dX13_writesNumber_7 (by decide) (by omega) (by omega) (fun h_7_2 => ?_) (fun h_7_2 => ?_)
    · (exfalso; omega)
    · refine z_iload_n dX13_writesNumber_10 rfl ?_
      refine z_bipush (v := nI 10) dX13_writesNumber_11 rfl ?_
      refine z_imul_n (a := 10) (b := 10) dX13_writesNumber_13 ?_
      refine z_istore_n (lv' := [(0, .ref (za g b)), (1, .int (nI (n))), (2, .int (nI ((10) * (10))))]) dX13_writesNumber_14 (by decide) rfl ?_
      refine z_goto (tgt := 2) dX13_writesNumber_15 (by decide) ?_
      refine z_eq (lv' := [(0, .ref (za g b)), (1, .int (nI (n))), (2, .int (nI (100)))]) rfl rfl rfl ?_
      refine z_iload_n dX13_writesNumber_2 rfl ?_
      refine z_iload_n dX13_writesNumber_3 rfl ?_
      refine z_idiv_n (a := n) (b := 100) dX13_writesNumber_4 (by omega) (by omega) (by omega) ?_
      refine z_bipush (v := nI 10) dX13_writesNumber_5 rfl ?_
      refine z_icmp_lt_n (a := (n) / (100)) (b := 10) (tgt := 18) dX13_writesNumber_7 (by decide) (by omega) (by omega) (fun h_7_3 => ?_) (fun h_7_3 => ?_)
      · refine z_iload_n dX13_writesNumber_18 rfl ?_
        refine z_if_le_n (a := 100) (tgt := 43) dX13_writesNumber_19 (by decide) (by omega) (fun h_19_4 => ?_) (fun h_19_4 => ?_)
        · exact absurd h_19_4 (by decide)
        · refine z_aload_n dX13_writesNumber_22 rfl ?_
          refine z_bipush (v := nI 48) dX13_writesNumber_23 rfl ?_
          refine z_iload_n dX13_writesNumber_25 rfl ?_
          refine z_iload_n dX13_writesNumber_26 rfl ?_
          refine z_idiv_n (a := n) (b := 100) dX13_writesNumber_27 (by omega) (by omega) (by omega) ?_
          refine z_bipush (v := nI 10) dX13_writesNumber_28 rfl ?_
          refine z_irem_n (a := (n) / (100)) (b := 10) dX13_writesNumber_30 (by omega) (by omega) (by omega) ?_
          refine z_iadd_n (a := 48) (b := ((n) / (100)) % (10)) dX13_writesNumber_31 ?_
          refine z_callR (As := [.int (nI ((48) + (((n) / (100)) % (10))))]) (rest := []) (b := b) (ci := 12) (v := none) (R2 := zR 0 0) dX13_writesNumber_32 kV_RX13_178 rfl ⟨⟨by decide, by decide⟩, by decide, by decide⟩ (by omega) h.ce rfl rfl rfl (Nat.le_of_ble_eq_true rfl) rfl (c_X13_writes (c := (48) + (((n) / (100)) % (10))) (O := O) h0 h hO (by (try simp only [List.length_append, List.length_cons, List.length_nil]); omega)) (fun w5 pw5 => ?_)
          obtain ⟨hf6, g7, hx8, hO9⟩ := pw5
          refine z_iload_n dX13_writesNumber_35 rfl ?_
          refine z_bipush (v := nI 10) dX13_writesNumber_36 rfl ?_
          refine z_idiv_n (a := 100) (b := 10) dX13_writesNumber_38 (by omega) (by omega) (by omega) ?_
          refine z_istore_n (lv' := [(0, .ref (za g b)), (1, .int (nI (n))), (2, .int (nI ((100) / (10))))]) dX13_writesNumber_39 (by decide) rfl ?_
          refine z_goto (tgt := 18) dX13_writesNumber_40 (by decide) ?_
          refine z_eq (lv' := [(0, .ref (za g b)), (1, .int (nI (n))), (2, .int (nI (10)))]) rfl rfl rfl ?_
          refine z_iload_n dX13_writesNumber_18 rfl ?_
          refine z_if_le_n (a := 10) (tgt := 43) dX13_writesNumber_19 (by decide) (by omega) (fun h_19_10 => ?_) (fun h_19_10 => ?_)
          · exact absurd h_19_10 (by decide)
          · refine z_aload_n dX13_writesNumber_22 rfl ?_
            refine z_bipush (v := nI 48) dX13_writesNumber_23 rfl ?_
            refine z_iload_n dX13_writesNumber_25 rfl ?_
            refine z_iload_n dX13_writesNumber_26 rfl ?_
            refine z_idiv_n (a := n) (b := 10) dX13_writesNumber_27 (by omega) (by omega) (by omega) ?_
            refine z_bipush (v := nI 10) dX13_writesNumber_28 rfl ?_
            refine z_irem_n (a := (n) / (10)) (b := 10) dX13_writesNumber_30 (by omega) (by omega) (by omega) ?_
            refine z_iadd_n (a := 48) (b := ((n) / (10)) % (10)) dX13_writesNumber_31 ?_
            refine z_callR (As := [.int (nI ((48) + (((n) / (10)) % (10))))]) (rest := []) (b := b) (ci := 12) (v := none) (R2 := zR 0 0) dX13_writesNumber_32 kV_RX13_178 rfl ⟨⟨by decide, by decide⟩, by decide, by decide⟩ (by omega) hx8.ce rfl rfl rfl (Nat.le_of_ble_eq_true rfl) rfl (c_X13_writes (c := (48) + (((n) / (10)) % (10))) (O := (O ++ [(48) + (((n) / (100)) % (10))])) h0 hx8 hO9 (by (try simp only [List.length_append, List.length_cons, List.length_nil]); omega)) (fun w11 pw11 => ?_)
            obtain ⟨hf12, g13, hx14, hO15⟩ := pw11
            refine z_iload_n dX13_writesNumber_35 rfl ?_
            refine z_bipush (v := nI 10) dX13_writesNumber_36 rfl ?_
            refine z_idiv_n (a := 10) (b := 10) dX13_writesNumber_38 (by omega) (by omega) (by omega) ?_
            refine z_istore_n (lv' := [(0, .ref (za g b)), (1, .int (nI (n))), (2, .int (nI ((10) / (10))))]) dX13_writesNumber_39 (by decide) rfl ?_
            refine z_goto (tgt := 18) dX13_writesNumber_40 (by decide) ?_
            refine z_eq (lv' := [(0, .ref (za g b)), (1, .int (nI (n))), (2, .int (nI (1)))]) rfl rfl rfl ?_
            refine z_iload_n dX13_writesNumber_18 rfl ?_
            refine z_if_le_n (a := 1) (tgt := 43) dX13_writesNumber_19 (by decide) (by omega) (fun h_19_16 => ?_) (fun h_19_16 => ?_)
            · exact absurd h_19_16 (by decide)
            · refine z_aload_n dX13_writesNumber_22 rfl ?_
              refine z_bipush (v := nI 48) dX13_writesNumber_23 rfl ?_
              refine z_iload_n dX13_writesNumber_25 rfl ?_
              refine z_iload_n dX13_writesNumber_26 rfl ?_
              refine z_idiv_n (a := n) (b := 1) dX13_writesNumber_27 (by omega) (by omega) (by omega) ?_
              refine z_bipush (v := nI 10) dX13_writesNumber_28 rfl ?_
              refine z_irem_n (a := (n) / (1)) (b := 10) dX13_writesNumber_30 (by omega) (by omega) (by omega) ?_
              refine z_iadd_n (a := 48) (b := ((n) / (1)) % (10)) dX13_writesNumber_31 ?_
              refine z_callR (As := [.int (nI ((48) + (((n) / (1)) % (10))))]) (rest := []) (b := b) (ci := 12) (v := none) (R2 := zR 0 0) dX13_writesNumber_32 kV_RX13_178 rfl ⟨⟨by decide, by decide⟩, by decide, by decide⟩ (by omega) hx14.ce rfl rfl rfl (Nat.le_of_ble_eq_true rfl) rfl (c_X13_writes (c := (48) + (((n) / (1)) % (10))) (O := ((O ++ [(48) + (((n) / (100)) % (10))]) ++ [(48) + (((n) / (10)) % (10))])) h0 hx14 hO15 (by (try simp only [List.length_append, List.length_cons, List.length_nil]); omega)) (fun w17 pw17 => ?_)
              obtain ⟨hf18, g19, hx20, hO21⟩ := pw17
              refine z_iload_n dX13_writesNumber_35 rfl ?_
              refine z_bipush (v := nI 10) dX13_writesNumber_36 rfl ?_
              refine z_idiv_n (a := 1) (b := 10) dX13_writesNumber_38 (by omega) (by omega) (by omega) ?_
              refine z_istore_n (lv' := [(0, .ref (za g b)), (1, .int (nI (n))), (2, .int (nI ((1) / (10))))]) dX13_writesNumber_39 (by decide) rfl ?_
              refine z_goto (tgt := 18) dX13_writesNumber_40 (by decide) ?_
              refine z_eq (lv' := [(0, .ref (za g b)), (1, .int (nI (n))), (2, .int (nI (0)))]) rfl rfl rfl ?_
              refine z_iload_n dX13_writesNumber_18 rfl ?_
              refine z_if_le_n (a := 0) (tgt := 43) dX13_writesNumber_19 (by decide) (by omega) (fun h_19_22 => ?_) (fun h_19_22 => ?_)
              · refine z_vret dX13_writesNumber_43 rfl (by decide) (by decide) ?_
                have eO : (((O ++ [(48) + (((n) / (100)) % (10))]) ++ [(48) + (((n) / (10)) % (10))]) ++ [(48) + (((n) / (1)) % (10))]) = O ++ dig3 n := by rw [dig3_3 h8 h9, show (48) + (((n) / (100)) % (10)) = 48 + n / 100 by omega, show (48) + (((n) / (10)) % (10)) = 48 + n / 10 % 10 by omega, show (48) + (((n) / (1)) % (10)) = 48 + n % 10 by omega]; simp only [List.append_assoc]
                refine ⟨rfl, ((hf6.tr hf12).tr hf18), g19, ?_, ?_⟩
                · rw [← eO]; exact hx20
                · rw [← eO]; exact hO21
              · exact absurd h_19_22 (by decide)
      · (exfalso; omega)
theorem c_X13_writesNumber {g : zGT} {w : zW} {b : Nat} {th ch ea fa sv tn po en kn wr dg : Int32} {fv fb fs fp fh ft fl fi : Nat → Int32} {O : List Nat} {n : Nat} (h0 : zG0 g) (h : Mx g w b th ch ea fa sv tn po en (nI O.length) kn wr dg fv fb fs fp fh ft fl fi) (hO : LR fl O) (hlt : O.length + 3 < 1200) (h9 : n < 1000) : zCt g mX13_writesNumber (zR 1 0) [.ref (za g b), .int (nI n)] w (fun o w' => o = .inl none ∧ zFr w w' b (b + 11) ∧ ∃ f', Mx g w' b th ch ea fa sv tn po en (nI (O ++ dig3 n).length) kn wr dg fv fb fs fp fh ft (f') fi ∧ LR f' (O ++ dig3 n)) := by
  by_cases c1 : n < 10
  · exact c_X13_writesNumber_1 h0 h hO hlt (Nat.zero_le _) c1
  · by_cases c2 : n < 100
    · exact c_X13_writesNumber_2 h0 h hO hlt (by omega) c2
    · exact c_X13_writesNumber_3 h0 h hO hlt (by omega) h9
theorem barsT_lt {T : Nat → Nat} {L : List Nat} {n : Nat} (hT : ∀ k, T k ≤ 9) : ∀ {k : Nat}, ∀ z ∈ barsT T L n k, z < 128
  | 0, z, hz => absurd hz List.not_mem_nil
  | k + 1, z, hz => by
    rw [barsT] at hz
    rcases List.mem_append.mp hz with q | q
    · exact barsT_lt hT z q
    · rcases List.mem_append.mp q with q | q
      · split at q
        · have := List.mem_singleton.mp q; omega
        · exact absurd q List.not_mem_nil
      · split at q
        · rw [dig3_1 (by have := hT k; omega)] at q
          have := List.mem_singleton.mp q; have := hT k; omega
        · exact absurd q List.not_mem_nil
set_option maxRecDepth 100000 in
set_option maxHeartbeats 4000000 in
theorem c_X13_renderBars {g : zGT} {w : zW} {b : Nat} {S : zSt} {Hs : List zSt} {Sn : Option zSt} {I O : List Nat} {ep fc : Int32} {t : Nat}  (h0 : zG0 g) (hq : Mq g w b (S) (Hs) (Sn) (I) (O) (ep) (fc) (t)) : zCt g mX13_renderBars (zR 4 0) [.ref (za g b)] w (fun o w' => o = .inl (some (.int (nI (barsT (gT S.1) S.2.1 S.1.length (S.1.length + 1)).length))) ∧ zFr w w' b (b + 11) ∧ Mq g w' b (S) (Hs) (Sn) (I) ((barsT (gT S.1) S.2.1 S.1.length (S.1.length + 1))) (ep) (fc) (0)) := by
  obtain ⟨po, en, kn, wr, dg, fv, fb, fs, fp, fh, ft, fl, fi, h, hv, hp, hsn, htx, hou, hep⟩ := hq
  have hb := h.1
  have hl := hv.len
  refine zCt_of (by decide +kernel) h0 [(0, .ref (za g b))] rfl (Nat.le_of_ble_eq_true rfl) ?_
  have loop : ∀ (mm : Nat) (i : Nat) (wi : zW) (f9 : Nat → Int32), S.1.length + 2 - i < mm → (zFr w wi b (b + 11)) → (Mx g wi b (nI 0) (nI Hs.length) ep fc (nI (if Sn.isSome then 1 else 0)) (nI I.length) po en (nI (barsT (gT S.1) S.2.1 S.1.length i).length) kn wr dg fv fb fs fp fh ft f9 fi) → (LR f9 (barsT (gT S.1) S.2.1 S.1.length i)) → (i ≤ S.1.length + 1) → zTr g mX13_renderBars (zR 4 0) 0 0 12 [(0, .ref (za g b)), (1, .int (nI (i)))] [] wi (fun o w' => o = .inl (some (.int (nI (barsT (gT S.1) S.2.1 S.1.length (S.1.length + 1)).length))) ∧ zFr w w' b (b + 11) ∧ Mq g w' b (S) (Hs) (Sn) (I) ((barsT (gT S.1) S.2.1 S.1.length (S.1.length + 1))) (ep) (fc) (0)) := by
    intro mm
    induction mm with
    | zero => intros; omega
    | succ mm ih =>
      intro i wi f9 hm hfi hmi hO hin
      have hbl := barsT_l (T := (gT S.1)) (L := S.2.1) (n := S.1.length) (k := i)
      refine z_iload_n dX13_renderBars_12 rfl ?_
      refine z_aload_n dX13_renderBars_13 rfl ?_
      refine z_getf (j := b) dX13_renderBars_14 kF_RX13_16 rfl (by omega) hmi.ce rfl ?_
      refine z_iconst (v := nI 0) dX13_renderBars_17 rfl ?_
      refine z_iald_v (j := b + 1) (N := 410) (a := 0) (x := S.1.length) (f := fv) dX13_renderBars_18 (by omega) hmi.r1 (by omega) (by omega) (hv.dur) ?_
      refine z_icmp_gt_n (a := i) (b := S.1.length) (tgt := 61) dX13_renderBars_19 (by decide) (by omega) (by omega) (fun h_19_1 => ?_) (fun h_19_1 => ?_)
      · refine z_aload_n dX13_renderBars_61 rfl ?_
        refine z_getf (j := b) dX13_renderBars_62 kF_RX13_175 rfl (by omega) hmi.ce rfl ?_
        refine z_iret dX13_renderBars_65 rfl (by decide) (by decide) ?_
        have hi9 : i = S.1.length + 1 := by omega
        subst hi9
        exact ⟨rfl, hfi, _, _, _, _, _, _, _, _, _, _, _, _, _, hmi, hv, hp, hsn, htx, ⟨by have := barsT_l (T := (gT S.1)) (L := S.2.1) (n := S.1.length) (k := S.1.length + 1); omega, hO, fun z hz => by have := barsT_lt (fun k => hv.le k) z hz; omega⟩, hep⟩
      · refine z_aload_n dX13_renderBars_22 rfl ?_
        refine z_iload_n dX13_renderBars_23 rfl ?_
        refine z_callV (As := [.int (nI (i))]) (rest := []) (b := b) (ci := 12) (R2 := zR 0 0) dX13_renderBars_24 kV_RX13_90 rfl ⟨⟨by decide, by decide⟩, by decide, by decide⟩ (by omega) hmi.ce rfl rfl rfl (Nat.le_of_ble_eq_true rfl) rfl (c_X13_markerAt (x := nI i) h0 hmi hv) (fun E w1 h => by rcases h with ⟨-, ⟨e, -⟩ | ⟨r, -, e, -⟩⟩ <;> cases e) (fun v2 w3 h4 => ?_)
        rcases h4 with ⟨ew, ⟨ev, e9⟩ | ⟨d, hd, ev, e9, e8⟩⟩
        · subst ew
          cases ev
          have hmem : i ∉ S.2.1 := by have q9 := (lidx_mem2 (t := (nI i).toInt) (L := S.2.1) (by rw [nI_toInt (by omega)]; omega)).mp e9; rwa [nI_toInt (by omega), Int.toNat_natCast] at q9
          refine z_if_lt_z (tgt := 36) dX13_renderBars_27 (by decide) (fun h_27_5 => ?_) (fun h_27_5 => ?_)
          · refine z_iload_n dX13_renderBars_36 rfl ?_
            refine z_aload_n dX13_renderBars_37 rfl ?_
            refine z_getf (j := b) dX13_renderBars_38 kF_RX13_16 rfl (by omega) hmi.ce rfl ?_
            refine z_iconst (v := nI 0) dX13_renderBars_41 rfl ?_
            refine z_iald_v (j := b + 1) (N := 410) (a := 0) (x := S.1.length) (f := fv) dX13_renderBars_42 (by omega) hmi.r1 (by omega) (by omega) (hv.dur) ?_
            refine z_icmp_ge_n (a := i) (b := S.1.length) (tgt := 55) dX13_renderBars_43 (by decide) (by omega) (by omega) (fun h_43_6 => ?_) (fun h_43_6 => ?_)
            · refine z_iinc_n (n := 1) (a := i) (lv' := [(0, .ref (za g b)), (1, .int (nI (i + 1)))]) dX13_renderBars_55 rfl (by decide) rfl ?_
              refine z_goto (tgt := 12) dX13_renderBars_58 (by decide) ?_
              have eO : (barsT (gT S.1) S.2.1 S.1.length (i + 1)) = (barsT (gT S.1) S.2.1 S.1.length i) := by rw [barsT, if_neg hmem, if_neg (by omega)]; simp only [List.append_assoc, List.nil_append, List.append_nil]
              refine ih (i + 1) _ _ (by omega) hfi (by rw [eO]; exact hmi) (by rw [eO]; exact hO) (by omega)
            · refine z_aload_n dX13_renderBars_46 rfl ?_
              refine z_aload_n dX13_renderBars_47 rfl ?_
              refine z_iload_n dX13_renderBars_48 rfl ?_
              have hle7 := hv.le (i)
              refine z_callE (As := [.int (nI (i))]) (rest := [.ref (za g b)]) (b := b) (ci := 12) (v := some (.int (nI (gT S.1 (i))))) (R2 := zR 0 0) dX13_renderBars_49 kV_RX13_65 rfl ⟨⟨by decide, by decide⟩, by decide, by decide⟩ (by omega) hmi.ce rfl rfl rfl (Nat.le_of_ble_eq_true rfl) rfl (c_X13_level (t := i) (x := gT S.1 (i)) h0 hmi (by omega) (hv.tick (by omega))) ?_
              refine z_callR (As := [.int (nI (gT S.1 (i)))]) (rest := []) (b := b) (ci := 12) (v := none) (R2 := zR 1 0) dX13_renderBars_52 kV_RX13_181 rfl ⟨⟨by decide, by decide⟩, by decide, by decide⟩ (by omega) hmi.ce rfl rfl rfl (Nat.le_of_ble_eq_true rfl) rfl (c_X13_writesNumber (n := gT S.1 (i)) (O := (barsT (gT S.1) S.2.1 S.1.length i)) h0 hmi hO (by (try simp only [List.length_append, List.length_cons, List.length_nil]); omega) (by omega)) (fun w9 pw9 => ?_)
              obtain ⟨hf10, g11, hx12, hO13⟩ := pw9
              refine z_iinc_n (n := 1) (a := i) (lv' := [(0, .ref (za g b)), (1, .int (nI (i + 1)))]) dX13_renderBars_55 rfl (by decide) rfl ?_
              refine z_goto (tgt := 12) dX13_renderBars_58 (by decide) ?_
              have eO : (barsT (gT S.1) S.2.1 S.1.length (i + 1)) = ((barsT (gT S.1) S.2.1 S.1.length i) ++ dig3 (gT S.1 (i))) := by rw [barsT, if_neg hmem, if_pos (by omega)]; simp only [List.append_assoc, List.nil_append, List.append_nil]
              refine ih (i + 1) _ _ (by omega) (hfi.tr hf10) (by rw [eO]; exact hx12) (by rw [eO]; exact hO13) (by omega)
          · (have q9 := h_27_5; rw [show (-1 : Int32).toInt = -1 from rfl] at q9; omega)
        · subst ew
          cases ev
          rw [nI_toInt (by omega)] at e8
          have q9 : S.2.1.getD d 0 = i := Int.ofNat.inj e8
          have hmem : i ∈ S.2.1 := by rw [← q9]; exact get_mem hd
          refine z_if_lt_n (a := d) dX13_renderBars_27 36 (by decide) (by omega) ?_
          refine z_aload_n dX13_renderBars_30 rfl ?_
          refine z_bipush (v := nI 124) dX13_renderBars_31 rfl ?_
          refine z_callR (As := [.int (nI (124))]) (rest := []) (b := b) (ci := 12) (v := none) (R2 := zR 0 0) dX13_renderBars_33 kV_RX13_178 rfl ⟨⟨by decide, by decide⟩, by decide, by decide⟩ (by omega) hmi.ce rfl rfl rfl (Nat.le_of_ble_eq_true rfl) rfl (c_X13_writes (c := 124) (O := (barsT (gT S.1) S.2.1 S.1.length i)) h0 hmi hO (by (try simp only [List.length_append, List.length_cons, List.length_nil]); omega)) (fun w15 pw15 => ?_)
          obtain ⟨hf16, g17, hx18, hO19⟩ := pw15
          refine z_iload_n dX13_renderBars_36 rfl ?_
          refine z_aload_n dX13_renderBars_37 rfl ?_
          refine z_getf (j := b) dX13_renderBars_38 kF_RX13_16 rfl (by omega) hx18.ce rfl ?_
          refine z_iconst (v := nI 0) dX13_renderBars_41 rfl ?_
          refine z_iald_v (j := b + 1) (N := 410) (a := 0) (x := S.1.length) (f := fv) dX13_renderBars_42 (by omega) hx18.r1 (by omega) (by omega) (hv.dur) ?_
          refine z_icmp_ge_n (a := i) (b := S.1.length) (tgt := 55) dX13_renderBars_43 (by decide) (by omega) (by omega) (fun h_43_20 => ?_) (fun h_43_20 => ?_)
          · refine z_iinc_n (n := 1) (a := i) (lv' := [(0, .ref (za g b)), (1, .int (nI (i + 1)))]) dX13_renderBars_55 rfl (by decide) rfl ?_
            refine z_goto (tgt := 12) dX13_renderBars_58 (by decide) ?_
            have eO : (barsT (gT S.1) S.2.1 S.1.length (i + 1)) = ((barsT (gT S.1) S.2.1 S.1.length i) ++ [124]) := by rw [barsT, if_pos hmem, if_neg (by omega)]; simp only [List.append_assoc, List.nil_append, List.append_nil]
            refine ih (i + 1) _ _ (by omega) (hfi.tr hf16) (by rw [eO]; exact hx18) (by rw [eO]; exact hO19) (by omega)
          · refine z_aload_n dX13_renderBars_46 rfl ?_
            refine z_aload_n dX13_renderBars_47 rfl ?_
            refine z_iload_n dX13_renderBars_48 rfl ?_
            have hle21 := hv.le (i)
            refine z_callE (As := [.int (nI (i))]) (rest := [.ref (za g b)]) (b := b) (ci := 12) (v := some (.int (nI (gT S.1 (i))))) (R2 := zR 0 0) dX13_renderBars_49 kV_RX13_65 rfl ⟨⟨by decide, by decide⟩, by decide, by decide⟩ (by omega) hx18.ce rfl rfl rfl (Nat.le_of_ble_eq_true rfl) rfl (c_X13_level (t := i) (x := gT S.1 (i)) h0 hx18 (by omega) (hv.tick (by omega))) ?_
            refine z_callR (As := [.int (nI (gT S.1 (i)))]) (rest := []) (b := b) (ci := 12) (v := none) (R2 := zR 1 0) dX13_renderBars_52 kV_RX13_181 rfl ⟨⟨by decide, by decide⟩, by decide, by decide⟩ (by omega) hx18.ce rfl rfl rfl (Nat.le_of_ble_eq_true rfl) rfl (c_X13_writesNumber (n := gT S.1 (i)) (O := ((barsT (gT S.1) S.2.1 S.1.length i) ++ [124])) h0 hx18 hO19 (by (try simp only [List.length_append, List.length_cons, List.length_nil]); omega) (by omega)) (fun w23 pw23 => ?_)
            obtain ⟨hf24, g25, hx26, hO27⟩ := pw23
            refine z_iinc_n (n := 1) (a := i) (lv' := [(0, .ref (za g b)), (1, .int (nI (i + 1)))]) dX13_renderBars_55 rfl (by decide) rfl ?_
            refine z_goto (tgt := 12) dX13_renderBars_58 (by decide) ?_
            have eO : (barsT (gT S.1) S.2.1 S.1.length (i + 1)) = (((barsT (gT S.1) S.2.1 S.1.length i) ++ [124]) ++ dig3 (gT S.1 (i))) := by rw [barsT, if_pos hmem, if_pos (by omega)]; simp only [List.append_assoc, List.nil_append, List.append_nil]
            refine ih (i + 1) _ _ (by omega) ((hfi.tr hf16).tr hf24) (by rw [eO]; exact hx26) (by rw [eO]; exact hO27) (by omega)
  refine z_aload_n dX13_renderBars_0 rfl ?_
  refine z_iconst (v := nI 0) dX13_renderBars_1 rfl ?_
  refine z_putf (j := b) dX13_renderBars_2 kF_RX13_47 zt_12_0 rfl (by omega) h.ce rfl rfl (Nat.le_of_ble_eq_true rfl) ?_
  obtain ⟨w1, ew2⟩ : ∃ wz : zW, wz = va_up w (b) (zO 12 [.int (nI (0)), .int (nI (Hs.length)), .int (ep), .int (fc), .int (nI (if Sn.isSome then 1 else 0)), .ref (za g (b + 1)), .ref (za g (b + 2)), .ref (za g (b + 3)), .ref (za g (b + 4)), .ref (za g (b + 5)), .ref (za g (b + 6)), .ref (za g (b + 7)), .ref (za g (b + 8)), .ref (za g (b + 9)), .ref (za g (b + 10)), .int (nI (I.length)), .int (po), .int (en), .int (nI (O.length)), .int (kn), .int (wr), .int (dg)]) := ⟨_, rfl⟩
  refine z_weq (w' := w1) ew2.symm ?_
  have hf3 : zFr w w1 (b) (b + 1) := by rw [ew2]; exact zFr.up (by omega)
  have hw4 : w1 (b) = zO 12 [.int (nI (0)), .int (nI (Hs.length)), .int (ep), .int (fc), .int (nI (if Sn.isSome then 1 else 0)), .ref (za g (b + 1)), .ref (za g (b + 2)), .ref (za g (b + 3)), .ref (za g (b + 4)), .ref (za g (b + 5)), .ref (za g (b + 6)), .ref (za g (b + 7)), .ref (za g (b + 8)), .ref (za g (b + 9)), .ref (za g (b + 10)), .int (nI (I.length)), .int (po), .int (en), .int (nI (O.length)), .int (kn), .int (wr), .int (dg)] := by rw [ew2, zup_s]
  have hx5 := h.setC hf3 hw4
  refine z_aload_n dX13_renderBars_5 rfl ?_
  refine z_iconst (v := nI 0) dX13_renderBars_6 rfl ?_
  refine z_putf (j := b) dX13_renderBars_7 kF_RX13_175 zt_12_18 rfl (by omega) hx5.ce rfl rfl (Nat.le_of_ble_eq_true rfl) ?_
  obtain ⟨w6, ew7⟩ : ∃ wz : zW, wz = va_up w1 (b) (zO 12 [.int (nI (0)), .int (nI (Hs.length)), .int (ep), .int (fc), .int (nI (if Sn.isSome then 1 else 0)), .ref (za g (b + 1)), .ref (za g (b + 2)), .ref (za g (b + 3)), .ref (za g (b + 4)), .ref (za g (b + 5)), .ref (za g (b + 6)), .ref (za g (b + 7)), .ref (za g (b + 8)), .ref (za g (b + 9)), .ref (za g (b + 10)), .int (nI (I.length)), .int (po), .int (en), .int (nI (0)), .int (kn), .int (wr), .int (dg)]) := ⟨_, rfl⟩
  refine z_weq (w' := w6) ew7.symm ?_
  have hf8 : zFr w1 w6 (b) (b + 1) := by rw [ew7]; exact zFr.up (by omega)
  have hw9 : w6 (b) = zO 12 [.int (nI (0)), .int (nI (Hs.length)), .int (ep), .int (fc), .int (nI (if Sn.isSome then 1 else 0)), .ref (za g (b + 1)), .ref (za g (b + 2)), .ref (za g (b + 3)), .ref (za g (b + 4)), .ref (za g (b + 5)), .ref (za g (b + 6)), .ref (za g (b + 7)), .ref (za g (b + 8)), .ref (za g (b + 9)), .ref (za g (b + 10)), .int (nI (I.length)), .int (po), .int (en), .int (nI (0)), .int (kn), .int (wr), .int (dg)] := by rw [ew7, zup_s]
  have hx10 := hx5.setC hf8 hw9
  refine z_iconst (v := nI 0) dX13_renderBars_10 rfl ?_
  refine z_istore_n (lv' := [(0, .ref (za g b)), (1, .int (nI (0)))]) dX13_renderBars_11 (by decide) rfl ?_
  exact loop (S.1.length + 3) 0 _ _ (by omega) ((hf3.wk (by omega) (by omega)).tr (hf8.wk (by omega) (by omega))) hx10 (fun k hk => absurd hk (Nat.not_lt_zero k)) (Nat.zero_le _)
theorem nd_start {T : Nat → Nat} {n k : Nat} (h : stB T (k + 1) = true) (hk : k + 1 < n) : nd T n k = k + 1 := by
  have e : fidx (fun j => decide (k < j) && stB T j) n = ((k + 1 : Nat) : Int) := fidx_hit hk (fun j hj => by
    show (decide (k < j) && stB T j) = false
    rw [decide_eq_false (by omega), Bool.false_and]) (by show (decide (k < k + 1) && stB T (k + 1)) = true; rw [h, decide_eq_true (by omega)]; rfl)
  unfold nd
  rw [e, if_neg (by omega)]; rfl
theorem nd_same {T : Nat → Nat} {n k : Nat} (h : ¬ stB T (k + 1) = true) : nd T n (k + 1) = nd T n k := by
  have e : (fun j => decide (k + 1 < j) && stB T j) = (fun j => decide (k < j) && stB T j) := funext fun j => by
    by_cases c : j = k + 1
    · rw [c, Bool.eq_false_iff.mpr h, Bool.and_false, Bool.and_false]
    · by_cases c2 : k < j
      · rw [decide_eq_true c2, decide_eq_true (show k + 1 < j by omega)]
      · rw [decide_eq_false c2, decide_eq_false (show ¬ k + 1 < j by omega)]
  unfold nd; rw [e]
theorem nd_rng {T : Nat → Nat} {n k : Nat} (hk : k < n) : k < nd T n k ∧ nd T n k ≤ n := by
  unfold nd
  rcases fidx_cases (fun j => decide (k < j) && stB T j) n with ⟨e, -⟩ | ⟨i, h1, e, h2, -⟩
  · rw [e, if_pos (by decide)]; omega
  · rw [e, if_neg (by omega)]
    have h3 : (decide (k < i) && stB T i) = true := h2
    rw [Bool.and_eq_true] at h3
    have := of_decide_eq_true h3.1
    omega
theorem noteT_l {T : Nat → Nat} {n : Nat} (hT : ∀ k, T k ≤ 9) (hn : n ≤ 200) : ∀ {k : Nat}, k < n → (noteT T n (k + 1)).length ≤ 5 * nd T n k
  | 0, hk => by
    have hr := nd_rng (T := T) hk
    have h1 := noteR_l (v := T 0) (l := lenF T n 0) (hT 0) (by unfold lenF; omega) (by unfold lenF; omega)
    have hl : lenF T n 0 = nd T n 0 - 0 := rfl
    rw [noteT, noteT, if_pos (show stB T 0 = true from decide_eq_true (Or.inl rfl)), if_pos rfl]
    simp only [List.nil_append]
    omega
  | k + 1, hk => by
    have hr := nd_rng (T := T) hk
    have ih := noteT_l hT hn (k := k) (by omega)
    by_cases c : stB T (k + 1) = true
    · have h1 := noteR_l (v := T (k + 1)) (l := lenF T n (k + 1)) (hT _) (by unfold lenF; omega) (by unfold lenF; omega)
      have hl : lenF T n (k + 1) = nd T n (k + 1) - (k + 1) := rfl
      rw [nd_start c hk] at ih
      rw [noteT, if_pos c, if_neg (by omega), List.length_append, List.length_append]
      simp only [List.length_cons, List.length_nil]
      omega
    · rw [noteT, if_neg c, List.append_nil, nd_same c]; exact ih
theorem noteT_l2 {T : Nat → Nat} {n : Nat} (hT : ∀ k, T k ≤ 9) (hn : n ≤ 200) {k : Nat} (hk : k ≤ n) : (noteT T n k).length ≤ 1000 := by
  cases k with
  | zero => simp [noteT]
  | succ k => have := noteT_l hT hn (k := k) (by omega); have := nd_rng (T := T) (n := n) (k := k) (by omega); omega
theorem dig3_lt {x : Nat} (h : x < 1000) : ∀ z ∈ dig3 x, z < 128 := fun z hz => by
  unfold dig3 at hz
  rcases List.mem_append.mp hz with q | q
  · split at q
    · have := List.mem_singleton.mp q; omega
    · exact absurd q List.not_mem_nil
  · rcases List.mem_append.mp q with q | q
    · split at q
      · have := List.mem_singleton.mp q; omega
      · exact absurd q List.not_mem_nil
    · have := List.mem_singleton.mp q; omega
theorem noteT_lt {T : Nat → Nat} {n : Nat} (hT : ∀ k, T k ≤ 9) (hn : n ≤ 200) : ∀ {k : Nat}, ∀ z ∈ noteT T n k, z < 128
  | 0, z, hz => absurd hz List.not_mem_nil
  | k + 1, z, hz => by
    rw [noteT] at hz
    rcases List.mem_append.mp hz with q | q
    · exact noteT_lt hT hn z q
    · split at q
      · rcases List.mem_append.mp q with q | q
        · split at q
          · exact absurd q List.not_mem_nil
          · have := List.mem_singleton.mp q; omega
        · unfold noteR at q
          rcases List.mem_append.mp q with q | q
          · split at q
            · have := List.mem_singleton.mp q; omega
            · rcases List.mem_cons.mp q with q | q
              · omega
              · exact dig3_lt (by have := hT k; omega) z q
          · rcases List.mem_cons.mp q with q | q
            · omega
            · exact dig3_lt (by have := lenF_le (T := T) (n := n) (k := k); omega) z q
      · exact absurd q List.not_mem_nil
set_option maxRecDepth 100000 in
set_option maxHeartbeats 4000000 in
theorem c_X13_renderNotation {g : zGT} {w : zW} {b : Nat} {S : zSt} {Hs : List zSt} {Sn : Option zSt} {I O : List Nat} {ep fc : Int32} {t : Nat}  (h0 : zG0 g) (hq : Mq g w b (S) (Hs) (Sn) (I) (O) (ep) (fc) (t)) : zCt g mX13_renderNotation (zR 4 0) [.ref (za g b)] w (fun o w' => o = .inl (some (.int (nI (noteT (gT S.1) S.1.length S.1.length).length))) ∧ zFr w w' b (b + 11) ∧ Mq g w' b (S) (Hs) (Sn) (I) ((noteT (gT S.1) S.1.length S.1.length)) (ep) (fc) (0)) := by
  obtain ⟨po, en, kn, wr, dg, fv, fb, fs, fp, fh, ft, fl, fi, h, hv, hp, hsn, htx, hou, hep⟩ := hq
  have hb := h.1
  have hl := hv.len
  refine zCt_of (by decide +kernel) h0 [(0, .ref (za g b))] rfl (Nat.le_of_ble_eq_true rfl) ?_
  have loop : ∀ (mm : Nat) (i : Nat) (wi : zW) (f9 : Nat → Int32), S.1.length + 1 - i < mm → (zFr w wi b (b + 11)) → (Mx g wi b (nI 0) (nI Hs.length) ep fc (nI (if Sn.isSome then 1 else 0)) (nI I.length) po en (nI (noteT (gT S.1) S.1.length i).length) kn wr dg fv fb fs fp fh ft f9 fi) → (LR f9 (noteT (gT S.1) S.1.length i)) → (i ≤ S.1.length) → zTr g mX13_renderNotation (zR 4 0) 0 0 12 [(0, .ref (za g b)), (1, .int (nI (i)))] [] wi (fun o w' => o = .inl (some (.int (nI (noteT (gT S.1) S.1.length S.1.length).length))) ∧ zFr w w' b (b + 11) ∧ Mq g w' b (S) (Hs) (Sn) (I) ((noteT (gT S.1) S.1.length S.1.length)) (ep) (fc) (0)) := by
    intro mm
    induction mm with
    | zero => intros; omega
    | succ mm ih =>
      intro i wi f9 hm hfi hmi hO hin
      have hbl := noteT_l2 (T := (gT S.1)) (n := S.1.length) (fun k => hv.le k) hl.1 hin
      have hd1 := dig3_len (x := gT S.1 i)
      have hd2 := dig3_len (x := lenF (gT S.1) S.1.length i)
      refine z_iload_n dX13_renderNotation_12 rfl ?_
      refine z_aload_n dX13_renderNotation_13 rfl ?_
      refine z_getf (j := b) dX13_renderNotation_14 kF_RX13_16 rfl (by omega) hmi.ce rfl ?_
      refine z_iconst (v := nI 0) dX13_renderNotation_17 rfl ?_
      refine z_iald_v (j := b + 1) (N := 410) (a := 0) (x := S.1.length) (f := fv) dX13_renderNotation_18 (by omega) hmi.r1 (by omega) (by omega) (hv.dur) ?_
      refine z_icmp_ge_n (a := i) (b := S.1.length) (tgt := 100) dX13_renderNotation_19 (by decide) (by omega) (by omega) (fun h_19_1 => ?_) (fun h_19_1 => ?_)
      · refine z_aload_n dX13_renderNotation_100 rfl ?_
        refine z_getf (j := b) dX13_renderNotation_101 kF_RX13_175 rfl (by omega) hmi.ce rfl ?_
        refine z_iret dX13_renderNotation_104 rfl (by decide) (by decide) ?_
        have hi9 : i = S.1.length := by omega
        subst hi9
        exact ⟨rfl, hfi, _, _, _, _, _, _, _, _, _, _, _, _, _, hmi, hv, hp, hsn, htx, ⟨by omega, hO, fun z hz => by have := noteT_lt (fun k => hv.le k) hl.1 z hz; omega⟩, hep⟩
      · refine z_aload_n dX13_renderNotation_22 rfl ?_
        refine z_iload_n dX13_renderNotation_23 rfl ?_
        by_cases hc2 : stB (gT S.1) (i) = true
        · refine z_callE (As := [.int (nI (i))]) (rest := []) (b := b) (ci := 12) (v := some (.int (nI (1)))) (R2 := zR 1 0) dX13_renderNotation_24 kV_RX13_128 rfl ⟨⟨by decide, by decide⟩, by decide, by decide⟩ (by omega) hmi.ce rfl rfl rfl (Nat.le_of_ble_eq_true rfl) rfl (c_X13_isStart_y (k := i) h0 hmi hv (by omega) hc2) ?_
          refine z_if_ne_n (a := 1) (tgt := 33) dX13_renderNotation_27 (by decide) (by omega) (fun h_27_4 => ?_) (fun h_27_4 => ?_)
          · refine z_iload_n dX13_renderNotation_33 rfl ?_
            refine z_if_le_n (a := i) (tgt := 43) dX13_renderNotation_34 (by decide) (by omega) (fun h_34_5 => ?_) (fun h_34_5 => ?_)
            · refine z_aload_n dX13_renderNotation_43 rfl ?_
              refine z_aload_n dX13_renderNotation_44 rfl ?_
              refine z_iload_n dX13_renderNotation_45 rfl ?_
              have hle6 := hv.le (i)
              refine z_callE (As := [.int (nI (i))]) (rest := [.ref (za g b)]) (b := b) (ci := 12) (v := some (.int (nI (gT S.1 (i))))) (R2 := zR 0 0) dX13_renderNotation_46 kV_RX13_65 rfl ⟨⟨by decide, by decide⟩, by decide, by decide⟩ (by omega) hmi.ce rfl rfl rfl (Nat.le_of_ble_eq_true rfl) rfl (c_X13_level (t := i) (x := gT S.1 (i)) h0 hmi (by omega) (hv.tick (by omega))) ?_
              refine z_if_ne_n (a := gT S.1 (i)) (tgt := 57) dX13_renderNotation_49 (by decide) (by omega) (fun h_49_8 => ?_) (fun h_49_8 => ?_)
              · refine z_bipush (v := nI 104) dX13_renderNotation_57 rfl ?_
                refine z_callR (As := [.int (nI (104))]) (rest := []) (b := b) (ci := 12) (v := none) (R2 := zR 0 0) dX13_renderNotation_59 kV_RX13_178 rfl ⟨⟨by decide, by decide⟩, by decide, by decide⟩ (by omega) hmi.ce rfl rfl rfl (Nat.le_of_ble_eq_true rfl) rfl (c_X13_writes (c := 104) (O := (noteT (gT S.1) S.1.length i)) h0 hmi hO (by (try simp only [List.length_append, List.length_cons, List.length_nil]); omega)) (fun w9 pw9 => ?_)
                obtain ⟨hf10, g11, hx12, hO13⟩ := pw9
                refine z_aload_n dX13_renderNotation_62 rfl ?_
                refine z_iload_n dX13_renderNotation_63 rfl ?_
                have hle14 := hv.le (i)
                refine z_callE (As := [.int (nI (i))]) (rest := []) (b := b) (ci := 12) (v := some (.int (nI (gT S.1 (i))))) (R2 := zR 0 0) dX13_renderNotation_64 kV_RX13_65 rfl ⟨⟨by decide, by decide⟩, by decide, by decide⟩ (by omega) hx12.ce rfl rfl rfl (Nat.le_of_ble_eq_true rfl) rfl (c_X13_level (t := i) (x := gT S.1 (i)) h0 hx12 (by omega) (hv.tick (by omega))) ?_
                refine z_if_le_n (a := gT S.1 (i)) (tgt := 79) dX13_renderNotation_67 (by decide) (by omega) (fun h_67_16 => ?_) (fun h_67_16 => ?_)
                · (exfalso; omega)
                · refine z_aload_n dX13_renderNotation_70 rfl ?_
                  refine z_aload_n dX13_renderNotation_71 rfl ?_
                  refine z_iload_n dX13_renderNotation_72 rfl ?_
                  have hle17 := hv.le (i)
                  refine z_callE (As := [.int (nI (i))]) (rest := [.ref (za g b)]) (b := b) (ci := 12) (v := some (.int (nI (gT S.1 (i))))) (R2 := zR 0 0) dX13_renderNotation_73 kV_RX13_65 rfl ⟨⟨by decide, by decide⟩, by decide, by decide⟩ (by omega) hx12.ce rfl rfl rfl (Nat.le_of_ble_eq_true rfl) rfl (c_X13_level (t := i) (x := gT S.1 (i)) h0 hx12 (by omega) (hv.tick (by omega))) ?_
                  refine z_callR (As := [.int (nI (gT S.1 (i)))]) (rest := []) (b := b) (ci := 12) (v := none) (R2 := zR 1 0) dX13_renderNotation_76 kV_RX13_181 rfl ⟨⟨by decide, by decide⟩, by decide, by decide⟩ (by omega) hx12.ce rfl rfl rfl (Nat.le_of_ble_eq_true rfl) rfl (c_X13_writesNumber (n := gT S.1 (i)) (O := ((noteT (gT S.1) S.1.length i) ++ [104])) h0 hx12 hO13 (by (try simp only [List.length_append, List.length_cons, List.length_nil]); omega) (by omega)) (fun w19 pw19 => ?_)
                  obtain ⟨hf20, g21, hx22, hO23⟩ := pw19
                  refine z_aload_n dX13_renderNotation_79 rfl ?_
                  refine z_bipush (v := nI 58) dX13_renderNotation_80 rfl ?_
                  refine z_callR (As := [.int (nI (58))]) (rest := []) (b := b) (ci := 12) (v := none) (R2 := zR 0 0) dX13_renderNotation_82 kV_RX13_178 rfl ⟨⟨by decide, by decide⟩, by decide, by decide⟩ (by omega) hx22.ce rfl rfl rfl (Nat.le_of_ble_eq_true rfl) rfl (c_X13_writes (c := 58) (O := (((noteT (gT S.1) S.1.length i) ++ [104]) ++ dig3 (gT S.1 (i)))) h0 hx22 hO23 (by (try simp only [List.length_append, List.length_cons, List.length_nil]); omega)) (fun w24 pw24 => ?_)
                  obtain ⟨hf25, g26, hx27, hO28⟩ := pw24
                  refine z_aload_n dX13_renderNotation_85 rfl ?_
                  refine z_aload_n dX13_renderNotation_86 rfl ?_
                  refine z_iload_n dX13_renderNotation_87 rfl ?_
                  have hlf29 := lenF_le (T := gT S.1) (n := S.1.length) (k := i)
                  refine z_callE (As := [.int (nI (i))]) (rest := [.ref (za g b)]) (b := b) (ci := 12) (v := some (.int (nI (lenF (gT S.1) S.1.length (i))))) (R2 := zR 3 0) dX13_renderNotation_88 kV_RX13_138 rfl ⟨⟨by decide, by decide⟩, by decide, by decide⟩ (by omega) hx27.ce rfl rfl rfl (Nat.le_of_ble_eq_true rfl) rfl (c_X13_lengthFrom (k := i) h0 hx27 hv (by omega)) ?_
                  refine z_callR (As := [.int (nI (lenF (gT S.1) S.1.length (i)))]) (rest := []) (b := b) (ci := 12) (v := none) (R2 := zR 1 0) dX13_renderNotation_91 kV_RX13_181 rfl ⟨⟨by decide, by decide⟩, by decide, by decide⟩ (by omega) hx27.ce rfl rfl rfl (Nat.le_of_ble_eq_true rfl) rfl (c_X13_writesNumber (n := lenF (gT S.1) S.1.length (i)) (O := ((((noteT (gT S.1) S.1.length i) ++ [104]) ++ dig3 (gT S.1 (i))) ++ [58])) h0 hx27 hO28 (by (try simp only [List.length_append, List.length_cons, List.length_nil]); omega) (by omega)) (fun w31 pw31 => ?_)
                  obtain ⟨hf32, g33, hx34, hO35⟩ := pw31
                  refine z_iinc_n (n := 1) (a := i) (lv' := [(0, .ref (za g b)), (1, .int (nI (i + 1)))]) dX13_renderNotation_94 rfl (by decide) rfl ?_
                  refine z_goto (tgt := 12) dX13_renderNotation_97 (by decide) ?_
                  have eO : (noteT (gT S.1) S.1.length (i + 1)) = (((((noteT (gT S.1) S.1.length i) ++ [104]) ++ dig3 (gT S.1 (i))) ++ [58]) ++ dig3 (lenF (gT S.1) S.1.length (i))) := by rw [noteT, if_pos hc2, if_pos (by omega), noteR, if_neg (by omega)]; simp only [List.append_assoc, List.cons_append, List.nil_append]
                  refine ih (i + 1) _ _ (by omega) ((((hfi.tr hf10).tr hf20).tr hf25).tr hf32) (by rw [eO]; exact hx34) (by rw [eO]; exact hO35) (by omega)
              · refine z_bipush (v := nI 114) dX13_renderNotation_52 rfl ?_
                refine z_goto (tgt := 59) dX13_renderNotation_54 (by decide) ?_
                refine z_callR (As := [.int (nI (114))]) (rest := []) (b := b) (ci := 12) (v := none) (R2 := zR 0 0) dX13_renderNotation_59 kV_RX13_178 rfl ⟨⟨by decide, by decide⟩, by decide, by decide⟩ (by omega) hmi.ce rfl rfl rfl (Nat.le_of_ble_eq_true rfl) rfl (c_X13_writes (c := 114) (O := (noteT (gT S.1) S.1.length i)) h0 hmi hO (by (try simp only [List.length_append, List.length_cons, List.length_nil]); omega)) (fun w36 pw36 => ?_)
                obtain ⟨hf37, g38, hx39, hO40⟩ := pw36
                refine z_aload_n dX13_renderNotation_62 rfl ?_
                refine z_iload_n dX13_renderNotation_63 rfl ?_
                have hle41 := hv.le (i)
                refine z_callE (As := [.int (nI (i))]) (rest := []) (b := b) (ci := 12) (v := some (.int (nI (gT S.1 (i))))) (R2 := zR 0 0) dX13_renderNotation_64 kV_RX13_65 rfl ⟨⟨by decide, by decide⟩, by decide, by decide⟩ (by omega) hx39.ce rfl rfl rfl (Nat.le_of_ble_eq_true rfl) rfl (c_X13_level (t := i) (x := gT S.1 (i)) h0 hx39 (by omega) (hv.tick (by omega))) ?_
                refine z_if_le_n (a := gT S.1 (i)) (tgt := 79) dX13_renderNotation_67 (by decide) (by omega) (fun h_67_43 => ?_) (fun h_67_43 => ?_)
                · refine z_aload_n dX13_renderNotation_79 rfl ?_
                  refine z_bipush (v := nI 58) dX13_renderNotation_80 rfl ?_
                  refine z_callR (As := [.int (nI (58))]) (rest := []) (b := b) (ci := 12) (v := none) (R2 := zR 0 0) dX13_renderNotation_82 kV_RX13_178 rfl ⟨⟨by decide, by decide⟩, by decide, by decide⟩ (by omega) hx39.ce rfl rfl rfl (Nat.le_of_ble_eq_true rfl) rfl (c_X13_writes (c := 58) (O := ((noteT (gT S.1) S.1.length i) ++ [114])) h0 hx39 hO40 (by (try simp only [List.length_append, List.length_cons, List.length_nil]); omega)) (fun w44 pw44 => ?_)
                  obtain ⟨hf45, g46, hx47, hO48⟩ := pw44
                  refine z_aload_n dX13_renderNotation_85 rfl ?_
                  refine z_aload_n dX13_renderNotation_86 rfl ?_
                  refine z_iload_n dX13_renderNotation_87 rfl ?_
                  have hlf49 := lenF_le (T := gT S.1) (n := S.1.length) (k := i)
                  refine z_callE (As := [.int (nI (i))]) (rest := [.ref (za g b)]) (b := b) (ci := 12) (v := some (.int (nI (lenF (gT S.1) S.1.length (i))))) (R2 := zR 3 0) dX13_renderNotation_88 kV_RX13_138 rfl ⟨⟨by decide, by decide⟩, by decide, by decide⟩ (by omega) hx47.ce rfl rfl rfl (Nat.le_of_ble_eq_true rfl) rfl (c_X13_lengthFrom (k := i) h0 hx47 hv (by omega)) ?_
                  refine z_callR (As := [.int (nI (lenF (gT S.1) S.1.length (i)))]) (rest := []) (b := b) (ci := 12) (v := none) (R2 := zR 1 0) dX13_renderNotation_91 kV_RX13_181 rfl ⟨⟨by decide, by decide⟩, by decide, by decide⟩ (by omega) hx47.ce rfl rfl rfl (Nat.le_of_ble_eq_true rfl) rfl (c_X13_writesNumber (n := lenF (gT S.1) S.1.length (i)) (O := (((noteT (gT S.1) S.1.length i) ++ [114]) ++ [58])) h0 hx47 hO48 (by (try simp only [List.length_append, List.length_cons, List.length_nil]); omega) (by omega)) (fun w51 pw51 => ?_)
                  obtain ⟨hf52, g53, hx54, hO55⟩ := pw51
                  refine z_iinc_n (n := 1) (a := i) (lv' := [(0, .ref (za g b)), (1, .int (nI (i + 1)))]) dX13_renderNotation_94 rfl (by decide) rfl ?_
                  refine z_goto (tgt := 12) dX13_renderNotation_97 (by decide) ?_
                  have eO : (noteT (gT S.1) S.1.length (i + 1)) = ((((noteT (gT S.1) S.1.length i) ++ [114]) ++ [58]) ++ dig3 (lenF (gT S.1) S.1.length (i))) := by rw [noteT, if_pos hc2, if_pos (by omega), noteR, if_pos (by omega)]; simp only [List.append_assoc, List.cons_append, List.nil_append]
                  refine ih (i + 1) _ _ (by omega) (((hfi.tr hf37).tr hf45).tr hf52) (by rw [eO]; exact hx54) (by rw [eO]; exact hO55) (by omega)
                · (exfalso; omega)
            · refine z_aload_n dX13_renderNotation_37 rfl ?_
              refine z_bipush (v := nI 32) dX13_renderNotation_38 rfl ?_
              refine z_callR (As := [.int (nI (32))]) (rest := []) (b := b) (ci := 12) (v := none) (R2 := zR 0 0) dX13_renderNotation_40 kV_RX13_178 rfl ⟨⟨by decide, by decide⟩, by decide, by decide⟩ (by omega) hmi.ce rfl rfl rfl (Nat.le_of_ble_eq_true rfl) rfl (c_X13_writes (c := 32) (O := (noteT (gT S.1) S.1.length i)) h0 hmi hO (by (try simp only [List.length_append, List.length_cons, List.length_nil]); omega)) (fun w56 pw56 => ?_)
              obtain ⟨hf57, g58, hx59, hO60⟩ := pw56
              refine z_aload_n dX13_renderNotation_43 rfl ?_
              refine z_aload_n dX13_renderNotation_44 rfl ?_
              refine z_iload_n dX13_renderNotation_45 rfl ?_
              have hle61 := hv.le (i)
              refine z_callE (As := [.int (nI (i))]) (rest := [.ref (za g b)]) (b := b) (ci := 12) (v := some (.int (nI (gT S.1 (i))))) (R2 := zR 0 0) dX13_renderNotation_46 kV_RX13_65 rfl ⟨⟨by decide, by decide⟩, by decide, by decide⟩ (by omega) hx59.ce rfl rfl rfl (Nat.le_of_ble_eq_true rfl) rfl (c_X13_level (t := i) (x := gT S.1 (i)) h0 hx59 (by omega) (hv.tick (by omega))) ?_
              refine z_if_ne_n (a := gT S.1 (i)) (tgt := 57) dX13_renderNotation_49 (by decide) (by omega) (fun h_49_63 => ?_) (fun h_49_63 => ?_)
              · refine z_bipush (v := nI 104) dX13_renderNotation_57 rfl ?_
                refine z_callR (As := [.int (nI (104))]) (rest := []) (b := b) (ci := 12) (v := none) (R2 := zR 0 0) dX13_renderNotation_59 kV_RX13_178 rfl ⟨⟨by decide, by decide⟩, by decide, by decide⟩ (by omega) hx59.ce rfl rfl rfl (Nat.le_of_ble_eq_true rfl) rfl (c_X13_writes (c := 104) (O := ((noteT (gT S.1) S.1.length i) ++ [32])) h0 hx59 hO60 (by (try simp only [List.length_append, List.length_cons, List.length_nil]); omega)) (fun w64 pw64 => ?_)
                obtain ⟨hf65, g66, hx67, hO68⟩ := pw64
                refine z_aload_n dX13_renderNotation_62 rfl ?_
                refine z_iload_n dX13_renderNotation_63 rfl ?_
                have hle69 := hv.le (i)
                refine z_callE (As := [.int (nI (i))]) (rest := []) (b := b) (ci := 12) (v := some (.int (nI (gT S.1 (i))))) (R2 := zR 0 0) dX13_renderNotation_64 kV_RX13_65 rfl ⟨⟨by decide, by decide⟩, by decide, by decide⟩ (by omega) hx67.ce rfl rfl rfl (Nat.le_of_ble_eq_true rfl) rfl (c_X13_level (t := i) (x := gT S.1 (i)) h0 hx67 (by omega) (hv.tick (by omega))) ?_
                refine z_if_le_n (a := gT S.1 (i)) (tgt := 79) dX13_renderNotation_67 (by decide) (by omega) (fun h_67_71 => ?_) (fun h_67_71 => ?_)
                · (exfalso; omega)
                · refine z_aload_n dX13_renderNotation_70 rfl ?_
                  refine z_aload_n dX13_renderNotation_71 rfl ?_
                  refine z_iload_n dX13_renderNotation_72 rfl ?_
                  have hle72 := hv.le (i)
                  refine z_callE (As := [.int (nI (i))]) (rest := [.ref (za g b)]) (b := b) (ci := 12) (v := some (.int (nI (gT S.1 (i))))) (R2 := zR 0 0) dX13_renderNotation_73 kV_RX13_65 rfl ⟨⟨by decide, by decide⟩, by decide, by decide⟩ (by omega) hx67.ce rfl rfl rfl (Nat.le_of_ble_eq_true rfl) rfl (c_X13_level (t := i) (x := gT S.1 (i)) h0 hx67 (by omega) (hv.tick (by omega))) ?_
                  refine z_callR (As := [.int (nI (gT S.1 (i)))]) (rest := []) (b := b) (ci := 12) (v := none) (R2 := zR 1 0) dX13_renderNotation_76 kV_RX13_181 rfl ⟨⟨by decide, by decide⟩, by decide, by decide⟩ (by omega) hx67.ce rfl rfl rfl (Nat.le_of_ble_eq_true rfl) rfl (c_X13_writesNumber (n := gT S.1 (i)) (O := (((noteT (gT S.1) S.1.length i) ++ [32]) ++ [104])) h0 hx67 hO68 (by (try simp only [List.length_append, List.length_cons, List.length_nil]); omega) (by omega)) (fun w74 pw74 => ?_)
                  obtain ⟨hf75, g76, hx77, hO78⟩ := pw74
                  refine z_aload_n dX13_renderNotation_79 rfl ?_
                  refine z_bipush (v := nI 58) dX13_renderNotation_80 rfl ?_
                  refine z_callR (As := [.int (nI (58))]) (rest := []) (b := b) (ci := 12) (v := none) (R2 := zR 0 0) dX13_renderNotation_82 kV_RX13_178 rfl ⟨⟨by decide, by decide⟩, by decide, by decide⟩ (by omega) hx77.ce rfl rfl rfl (Nat.le_of_ble_eq_true rfl) rfl (c_X13_writes (c := 58) (O := ((((noteT (gT S.1) S.1.length i) ++ [32]) ++ [104]) ++ dig3 (gT S.1 (i)))) h0 hx77 hO78 (by (try simp only [List.length_append, List.length_cons, List.length_nil]); omega)) (fun w79 pw79 => ?_)
                  obtain ⟨hf80, g81, hx82, hO83⟩ := pw79
                  refine z_aload_n dX13_renderNotation_85 rfl ?_
                  refine z_aload_n dX13_renderNotation_86 rfl ?_
                  refine z_iload_n dX13_renderNotation_87 rfl ?_
                  have hlf84 := lenF_le (T := gT S.1) (n := S.1.length) (k := i)
                  refine z_callE (As := [.int (nI (i))]) (rest := [.ref (za g b)]) (b := b) (ci := 12) (v := some (.int (nI (lenF (gT S.1) S.1.length (i))))) (R2 := zR 3 0) dX13_renderNotation_88 kV_RX13_138 rfl ⟨⟨by decide, by decide⟩, by decide, by decide⟩ (by omega) hx82.ce rfl rfl rfl (Nat.le_of_ble_eq_true rfl) rfl (c_X13_lengthFrom (k := i) h0 hx82 hv (by omega)) ?_
                  refine z_callR (As := [.int (nI (lenF (gT S.1) S.1.length (i)))]) (rest := []) (b := b) (ci := 12) (v := none) (R2 := zR 1 0) dX13_renderNotation_91 kV_RX13_181 rfl ⟨⟨by decide, by decide⟩, by decide, by decide⟩ (by omega) hx82.ce rfl rfl rfl (Nat.le_of_ble_eq_true rfl) rfl (c_X13_writesNumber (n := lenF (gT S.1) S.1.length (i)) (O := (((((noteT (gT S.1) S.1.length i) ++ [32]) ++ [104]) ++ dig3 (gT S.1 (i))) ++ [58])) h0 hx82 hO83 (by (try simp only [List.length_append, List.length_cons, List.length_nil]); omega) (by omega)) (fun w86 pw86 => ?_)
                  obtain ⟨hf87, g88, hx89, hO90⟩ := pw86
                  refine z_iinc_n (n := 1) (a := i) (lv' := [(0, .ref (za g b)), (1, .int (nI (i + 1)))]) dX13_renderNotation_94 rfl (by decide) rfl ?_
                  refine z_goto (tgt := 12) dX13_renderNotation_97 (by decide) ?_
                  have eO : (noteT (gT S.1) S.1.length (i + 1)) = ((((((noteT (gT S.1) S.1.length i) ++ [32]) ++ [104]) ++ dig3 (gT S.1 (i))) ++ [58]) ++ dig3 (lenF (gT S.1) S.1.length (i))) := by rw [noteT, if_pos hc2, if_neg (by omega), noteR, if_neg (by omega)]; simp only [List.append_assoc, List.cons_append, List.nil_append]
                  refine ih (i + 1) _ _ (by omega) (((((hfi.tr hf57).tr hf65).tr hf75).tr hf80).tr hf87) (by rw [eO]; exact hx89) (by rw [eO]; exact hO90) (by omega)
              · refine z_bipush (v := nI 114) dX13_renderNotation_52 rfl ?_
                refine z_goto (tgt := 59) dX13_renderNotation_54 (by decide) ?_
                refine z_callR (As := [.int (nI (114))]) (rest := []) (b := b) (ci := 12) (v := none) (R2 := zR 0 0) dX13_renderNotation_59 kV_RX13_178 rfl ⟨⟨by decide, by decide⟩, by decide, by decide⟩ (by omega) hx59.ce rfl rfl rfl (Nat.le_of_ble_eq_true rfl) rfl (c_X13_writes (c := 114) (O := ((noteT (gT S.1) S.1.length i) ++ [32])) h0 hx59 hO60 (by (try simp only [List.length_append, List.length_cons, List.length_nil]); omega)) (fun w91 pw91 => ?_)
                obtain ⟨hf92, g93, hx94, hO95⟩ := pw91
                refine z_aload_n dX13_renderNotation_62 rfl ?_
                refine z_iload_n dX13_renderNotation_63 rfl ?_
                have hle96 := hv.le (i)
                refine z_callE (As := [.int (nI (i))]) (rest := []) (b := b) (ci := 12) (v := some (.int (nI (gT S.1 (i))))) (R2 := zR 0 0) dX13_renderNotation_64 kV_RX13_65 rfl ⟨⟨by decide, by decide⟩, by decide, by decide⟩ (by omega) hx94.ce rfl rfl rfl (Nat.le_of_ble_eq_true rfl) rfl (c_X13_level (t := i) (x := gT S.1 (i)) h0 hx94 (by omega) (hv.tick (by omega))) ?_
                refine z_if_le_n (a := gT S.1 (i)) (tgt := 79) dX13_renderNotation_67 (by decide) (by omega) (fun h_67_98 => ?_) (fun h_67_98 => ?_)
                · refine z_aload_n dX13_renderNotation_79 rfl ?_
                  refine z_bipush (v := nI 58) dX13_renderNotation_80 rfl ?_
                  refine z_callR (As := [.int (nI (58))]) (rest := []) (b := b) (ci := 12) (v := none) (R2 := zR 0 0) dX13_renderNotation_82 kV_RX13_178 rfl ⟨⟨by decide, by decide⟩, by decide, by decide⟩ (by omega) hx94.ce rfl rfl rfl (Nat.le_of_ble_eq_true rfl) rfl (c_X13_writes (c := 58) (O := (((noteT (gT S.1) S.1.length i) ++ [32]) ++ [114])) h0 hx94 hO95 (by (try simp only [List.length_append, List.length_cons, List.length_nil]); omega)) (fun w99 pw99 => ?_)
                  obtain ⟨hf100, g101, hx102, hO103⟩ := pw99
                  refine z_aload_n dX13_renderNotation_85 rfl ?_
                  refine z_aload_n dX13_renderNotation_86 rfl ?_
                  refine z_iload_n dX13_renderNotation_87 rfl ?_
                  have hlf104 := lenF_le (T := gT S.1) (n := S.1.length) (k := i)
                  refine z_callE (As := [.int (nI (i))]) (rest := [.ref (za g b)]) (b := b) (ci := 12) (v := some (.int (nI (lenF (gT S.1) S.1.length (i))))) (R2 := zR 3 0) dX13_renderNotation_88 kV_RX13_138 rfl ⟨⟨by decide, by decide⟩, by decide, by decide⟩ (by omega) hx102.ce rfl rfl rfl (Nat.le_of_ble_eq_true rfl) rfl (c_X13_lengthFrom (k := i) h0 hx102 hv (by omega)) ?_
                  refine z_callR (As := [.int (nI (lenF (gT S.1) S.1.length (i)))]) (rest := []) (b := b) (ci := 12) (v := none) (R2 := zR 1 0) dX13_renderNotation_91 kV_RX13_181 rfl ⟨⟨by decide, by decide⟩, by decide, by decide⟩ (by omega) hx102.ce rfl rfl rfl (Nat.le_of_ble_eq_true rfl) rfl (c_X13_writesNumber (n := lenF (gT S.1) S.1.length (i)) (O := ((((noteT (gT S.1) S.1.length i) ++ [32]) ++ [114]) ++ [58])) h0 hx102 hO103 (by (try simp only [List.length_append, List.length_cons, List.length_nil]); omega) (by omega)) (fun w106 pw106 => ?_)
                  obtain ⟨hf107, g108, hx109, hO110⟩ := pw106
                  refine z_iinc_n (n := 1) (a := i) (lv' := [(0, .ref (za g b)), (1, .int (nI (i + 1)))]) dX13_renderNotation_94 rfl (by decide) rfl ?_
                  refine z_goto (tgt := 12) dX13_renderNotation_97 (by decide) ?_
                  have eO : (noteT (gT S.1) S.1.length (i + 1)) = (((((noteT (gT S.1) S.1.length i) ++ [32]) ++ [114]) ++ [58]) ++ dig3 (lenF (gT S.1) S.1.length (i))) := by rw [noteT, if_pos hc2, if_neg (by omega), noteR, if_pos (by omega)]; simp only [List.append_assoc, List.cons_append, List.nil_append]
                  refine ih (i + 1) _ _ (by omega) ((((hfi.tr hf57).tr hf92).tr hf100).tr hf107) (by rw [eO]; exact hx109) (by rw [eO]; exact hO110) (by omega)
                · (exfalso; omega)
          · exact absurd h_27_4 (by decide)
        · refine z_callE (As := [.int (nI (i))]) (rest := []) (b := b) (ci := 12) (v := some (.int (nI (0)))) (R2 := zR 1 0) dX13_renderNotation_24 kV_RX13_128 rfl ⟨⟨by decide, by decide⟩, by decide, by decide⟩ (by omega) hmi.ce rfl rfl rfl (Nat.le_of_ble_eq_true rfl) rfl (c_X13_isStart_n (k := i) h0 hmi hv (by omega) hc2) ?_
          refine z_if_ne_n (a := 0) (tgt := 33) dX13_renderNotation_27 (by decide) (by omega) (fun h_27_112 => ?_) (fun h_27_112 => ?_)
          · exact absurd h_27_112 (by decide)
          · refine z_goto (tgt := 94) dX13_renderNotation_30 (by decide) ?_
            refine z_iinc_n (n := 1) (a := i) (lv' := [(0, .ref (za g b)), (1, .int (nI (i + 1)))]) dX13_renderNotation_94 rfl (by decide) rfl ?_
            refine z_goto (tgt := 12) dX13_renderNotation_97 (by decide) ?_
            have eO : (noteT (gT S.1) S.1.length (i + 1)) = (noteT (gT S.1) S.1.length i) := by rw [noteT, if_neg hc2, List.append_nil]
            refine ih (i + 1) _ _ (by omega) hfi (by rw [eO]; exact hmi) (by rw [eO]; exact hO) (by omega)
  refine z_aload_n dX13_renderNotation_0 rfl ?_
  refine z_iconst (v := nI 0) dX13_renderNotation_1 rfl ?_
  refine z_putf (j := b) dX13_renderNotation_2 kF_RX13_47 zt_12_0 rfl (by omega) h.ce rfl rfl (Nat.le_of_ble_eq_true rfl) ?_
  obtain ⟨w1, ew2⟩ : ∃ wz : zW, wz = va_up w (b) (zO 12 [.int (nI (0)), .int (nI (Hs.length)), .int (ep), .int (fc), .int (nI (if Sn.isSome then 1 else 0)), .ref (za g (b + 1)), .ref (za g (b + 2)), .ref (za g (b + 3)), .ref (za g (b + 4)), .ref (za g (b + 5)), .ref (za g (b + 6)), .ref (za g (b + 7)), .ref (za g (b + 8)), .ref (za g (b + 9)), .ref (za g (b + 10)), .int (nI (I.length)), .int (po), .int (en), .int (nI (O.length)), .int (kn), .int (wr), .int (dg)]) := ⟨_, rfl⟩
  refine z_weq (w' := w1) ew2.symm ?_
  have hf3 : zFr w w1 (b) (b + 1) := by rw [ew2]; exact zFr.up (by omega)
  have hw4 : w1 (b) = zO 12 [.int (nI (0)), .int (nI (Hs.length)), .int (ep), .int (fc), .int (nI (if Sn.isSome then 1 else 0)), .ref (za g (b + 1)), .ref (za g (b + 2)), .ref (za g (b + 3)), .ref (za g (b + 4)), .ref (za g (b + 5)), .ref (za g (b + 6)), .ref (za g (b + 7)), .ref (za g (b + 8)), .ref (za g (b + 9)), .ref (za g (b + 10)), .int (nI (I.length)), .int (po), .int (en), .int (nI (O.length)), .int (kn), .int (wr), .int (dg)] := by rw [ew2, zup_s]
  have hx5 := h.setC hf3 hw4
  refine z_aload_n dX13_renderNotation_5 rfl ?_
  refine z_iconst (v := nI 0) dX13_renderNotation_6 rfl ?_
  refine z_putf (j := b) dX13_renderNotation_7 kF_RX13_175 zt_12_18 rfl (by omega) hx5.ce rfl rfl (Nat.le_of_ble_eq_true rfl) ?_
  obtain ⟨w6, ew7⟩ : ∃ wz : zW, wz = va_up w1 (b) (zO 12 [.int (nI (0)), .int (nI (Hs.length)), .int (ep), .int (fc), .int (nI (if Sn.isSome then 1 else 0)), .ref (za g (b + 1)), .ref (za g (b + 2)), .ref (za g (b + 3)), .ref (za g (b + 4)), .ref (za g (b + 5)), .ref (za g (b + 6)), .ref (za g (b + 7)), .ref (za g (b + 8)), .ref (za g (b + 9)), .ref (za g (b + 10)), .int (nI (I.length)), .int (po), .int (en), .int (nI (0)), .int (kn), .int (wr), .int (dg)]) := ⟨_, rfl⟩
  refine z_weq (w' := w6) ew7.symm ?_
  have hf8 : zFr w1 w6 (b) (b + 1) := by rw [ew7]; exact zFr.up (by omega)
  have hw9 : w6 (b) = zO 12 [.int (nI (0)), .int (nI (Hs.length)), .int (ep), .int (fc), .int (nI (if Sn.isSome then 1 else 0)), .ref (za g (b + 1)), .ref (za g (b + 2)), .ref (za g (b + 3)), .ref (za g (b + 4)), .ref (za g (b + 5)), .ref (za g (b + 6)), .ref (za g (b + 7)), .ref (za g (b + 8)), .ref (za g (b + 9)), .ref (za g (b + 10)), .int (nI (I.length)), .int (po), .int (en), .int (nI (0)), .int (kn), .int (wr), .int (dg)] := by rw [ew7, zup_s]
  have hx10 := hx5.setC hf8 hw9
  refine z_iconst (v := nI 0) dX13_renderNotation_10 rfl ?_
  refine z_istore_n (lv' := [(0, .ref (za g b)), (1, .int (nI (0)))]) dX13_renderNotation_11 (by decide) rfl ?_
  exact loop (S.1.length + 2) 0 _ _ (by omega) ((hf3.wk (by omega) (by omega)).tr (hf8.wk (by omega) (by omega))) hx10 (fun k hk => absurd hk (Nat.not_lt_zero k)) (Nat.zero_le _)
