/-! the words of the verbs: length() and charAt(k) -/
theorem z_ishr {g : zGT} {M : zMD} {R : Room} {ce sl pc : Nat} {lv : List (Nat × Value)} {rest : List Value} {w : zW} {Post : zP} {x y : Int32} (d : decode M.2.1 pc = .ok (.ishr, 1)) (k : zTr g M R ce sl (pc + 1) lv (.int (x >>> (y &&& 31)) :: rest) w Post) : zTr g M R ce sl pc lv (.int y :: .int x :: rest) w Post :=
  fun p e s m args below meth c H locs ls C hW hS hl => lv_ishr C.1 C.2.1 d (k p e s m args below meth c H locs ls C hW hS hl)
theorem zwd_ok {i : Nat} (h : i < 11) : 1 ≤ (zwd i).length ∧ (zwd i).length ≤ 9 ∧ ∀ k, k < (zwd i).length → (zwd i).getD k 0 ≤ 122 ∧ 1 ≤ (zwd i).getD k 0 := by
  rcases (show i = 0 ∨ i = 1 ∨ i = 2 ∨ i = 3 ∨ i = 4 ∨ i = 5 ∨ i = 6 ∨ i = 7 ∨ i = 8 ∨ i = 9 ∨ i = 10 by omega) with h | h | h | h | h | h | h | h | h | h | h <;> subst h <;> decide +kernel
theorem zan255 {x : Nat} (h : x < 128) : nI x &&& nI 255 = nI x := by
  have : ∀ x : Fin 128, nI x.1 &&& nI 255 = nI x.1 := by decide +kernel
  exact this ⟨x, h⟩
set_option maxRecDepth 100000 in
set_option maxHeartbeats 4000000 in
theorem c_coder {g : zGT} {w : zW} {i : Nat} (h0 : zG0 g) (h1 : zST g) (hi : i < 11) : zCt g mJ0_coder_7d493 (zR 0 0) [.ref (ze g (40 + i))] w (fun o w' => o = .inl (some (.int (nI 0))) ∧ w' = w) := by
  refine zCt_of (by decide +kernel) h0 [(0, .ref (ze g (40 + i)))] rfl (Nat.le_of_ble_eq_true rfl) ?_
  refine z_gets dJ0_coder_7d493_0 kG_RJ0_38 rfl (h1.2.2.2.2.1.2.2.2.2.2) ?_
  refine z_if_eq_n (a := 1) (tgt := 13) dJ0_coder_7d493_3 (by decide) (by omega) (fun h_3_1 => ?_) (fun h_3_1 => ?_)
  · exact absurd h_3_1 (by decide)
  · refine z_aload_n dJ0_coder_7d493_6 rfl ?_
    refine z_getO dJ0_coder_7d493_7 kG_RJ0_15 rfl (h1.2.2.2.2.1.2.2.1 i hi) ?_
    refine z_goto (tgt := 14) dJ0_coder_7d493_10 (by decide) ?_
    refine z_zret (ty := .byte) dJ0_coder_7d493_14 rfl (by decide) (by decide) rfl ?_
    exact ⟨rfl, rfl⟩
set_option maxRecDepth 100000 in
set_option maxHeartbeats 4000000 in
theorem c_isLatin1 {g : zGT} {w : zW} {i : Nat} (h0 : zG0 g) (h1 : zST g) (hi : i < 11) : zCt g mJ0_isLatin1_aae02 (zR 0 0) [.ref (ze g (40 + i))] w (fun o w' => o = .inl (some (.int (nI 1))) ∧ w' = w) := by
  refine zCt_of (by decide +kernel) h0 [(0, .ref (ze g (40 + i)))] rfl (Nat.le_of_ble_eq_true rfl) ?_
  refine z_gets dJ0_isLatin1_aae02_0 kG_RJ0_38 rfl (h1.2.2.2.2.1.2.2.2.2.2) ?_
  refine z_if_eq_n (a := 1) (tgt := 17) dJ0_isLatin1_aae02_3 (by decide) (by omega) (fun h_3_1 => ?_) (fun h_3_1 => ?_)
  · exact absurd h_3_1 (by decide)
  · refine z_aload_n dJ0_isLatin1_aae02_6 rfl ?_
    refine z_getO dJ0_isLatin1_aae02_7 kG_RJ0_15 rfl (h1.2.2.2.2.1.2.2.1 i hi) ?_
    refine z_if_ne_n (a := 0) (tgt := 17) dJ0_isLatin1_aae02_10 (by decide) (by omega) (fun h_10_2 => ?_) (fun h_10_2 => ?_)
    · exact absurd h_10_2 (by decide)
    · refine z_iconst (v := nI 1) dJ0_isLatin1_aae02_13 rfl ?_
      refine z_goto (tgt := 18) dJ0_isLatin1_aae02_14 (by decide) ?_
      refine z_zret (ty := .boolean) dJ0_isLatin1_aae02_18 rfl (by decide) (by decide) rfl ?_
      exact ⟨rfl, rfl⟩
set_option maxRecDepth 100000 in
set_option maxHeartbeats 4000000 in
theorem c_strlen {g : zGT} {w : zW} {i : Nat} (h0 : zG0 g) (h1 : zST g) (hi : i < 11) : zCt g mJ0_length_8abf5 (zR 1 0) [.ref (ze g (40 + i))] w (fun o w' => o = .inl (some (.int (nI (zwd i).length))) ∧ w' = w) := by
  have hok := zwd_ok hi
  refine zCt_of (by decide +kernel) h0 [(0, .ref (ze g (40 + i)))] rfl (Nat.le_of_ble_eq_true rfl) ?_
  refine z_aload_n dJ0_length_8abf5_0 rfl ?_
  refine z_getO dJ0_length_8abf5_1 kG_RJ0_9 rfl (h1.2.2.2.2.1.2.1 i hi) ?_
  refine z_tabL (N := (zwd i).length) dJ0_length_8abf5_4 (h1.2.2.2.2.1.2.2.2.2.1 i hi) ?_
  refine z_aload_n dJ0_length_8abf5_5 rfl ?_
  refine z_callVO (As := []) (rest := [.int (nI ((zwd i).length))]) (v := some (.int (nI (0)))) (R2 := zR 0 0) dJ0_length_8abf5_6 kV_RJ0_335 rfl ⟨⟨by decide, by decide⟩, by decide, by decide⟩ (h1.2.2.2.2.1.2.2.2.1 i hi) rfl (Nat.le_of_ble_eq_true rfl) rfl (c_coder h0 h1 hi) ?_
  refine z_ishr dJ0_length_8abf5_9 ?_
  rw [show nI (zwd i).length >>> (nI 0 &&& 31) = nI (zwd i).length from sc_shr0 (show (zwd i).length < 2 ^ 31 by omega)]
  refine z_iret dJ0_length_8abf5_10 rfl (by decide) (by decide) ?_
  exact ⟨rfl, rfl⟩
set_option maxRecDepth 100000 in
set_option maxHeartbeats 4000000 in
theorem c_chk3N {g : zGT} {w : zW} {k n : Nat} (h0 : zG0 g) (hk : k < n) (hn : n < 2 ^ 31) : zCt g mJ3_checkIndex_8e157 (zR 0 0) [.int (nI (k)), .int (nI (n)), .null] w (fun o w' => o = .inl (some (.int (nI k))) ∧ w' = w) := by
  refine zCt_of (by decide +kernel) h0 [(0, .int (nI (k))), (1, .int (nI (n))), (2, .null)] rfl (Nat.le_of_ble_eq_true rfl) ?_
  refine z_iload_n dJ3_checkIndex_8e157_0 rfl ?_
  refine z_if_lt_n (a := k) dJ3_checkIndex_8e157_1 9 (by decide) (by omega) ?_
  refine z_iload_n dJ3_checkIndex_8e157_4 rfl ?_
  refine z_iload_n dJ3_checkIndex_8e157_5 rfl ?_
  refine z_icmp_lt_n (a := k) (b := n) (tgt := 16) dJ3_checkIndex_8e157_6 (by decide) (by omega) (by omega) (fun h_6_2 => ?_) (fun h_6_2 => ?_)
  · refine z_iload_n dJ3_checkIndex_8e157_16 rfl ?_
    refine z_iret dJ3_checkIndex_8e157_17 rfl (by decide) (by decide) ?_
    exact ⟨rfl, rfl⟩
  · exact absurd h_6_2 (by omega)
set_option maxRecDepth 100000 in
set_option maxHeartbeats 4000000 in
theorem c_chk3R {g : zGT} {w : zW} {k n t : Nat} (h0 : zG0 g) (hk : k < n) (hn : n < 2 ^ 31) : zCt g mJ3_checkIndex_8e157 (zR 0 0) [.int (nI (k)), .int (nI (n)), .ref (t)] w (fun o w' => o = .inl (some (.int (nI k))) ∧ w' = w) := by
  refine zCt_of (by decide +kernel) h0 [(0, .int (nI (k))), (1, .int (nI (n))), (2, .ref (t))] rfl (Nat.le_of_ble_eq_true rfl) ?_
  refine z_iload_n dJ3_checkIndex_8e157_0 rfl ?_
  refine z_if_lt_n (a := k) dJ3_checkIndex_8e157_1 9 (by decide) (by omega) ?_
  refine z_iload_n dJ3_checkIndex_8e157_4 rfl ?_
  refine z_iload_n dJ3_checkIndex_8e157_5 rfl ?_
  refine z_icmp_lt_n (a := k) (b := n) (tgt := 16) dJ3_checkIndex_8e157_6 (by decide) (by omega) (by omega) (fun h_6_2 => ?_) (fun h_6_2 => ?_)
  · refine z_iload_n dJ3_checkIndex_8e157_16 rfl ?_
    refine z_iret dJ3_checkIndex_8e157_17 rfl (by decide) (by decide) ?_
    exact ⟨rfl, rfl⟩
  · exact absurd h_6_2 (by omega)
set_option maxRecDepth 100000 in
set_option maxHeartbeats 4000000 in
theorem c_chk0 {g : zGT} {w : zW} {k n : Nat} (h0 : zG0 g) (h1 : zST g) (hk : k < n) (hn : n < 2 ^ 31) : zCt g mJ0_checkIndex_df160 (zR 1 0) [.int (nI (k)), .int (nI (n))] w (fun o w' => o = .inl none ∧ w' = w) := by
  refine zCt_of (by decide +kernel) h0 [(0, .int (nI (k))), (1, .int (nI (n)))] rfl (Nat.le_of_ble_eq_true rfl) ?_
  rcases h1.2.2.2.2.2.2.1 with hz | ⟨t, hz⟩
  · refine z_iload_n dJ0_checkIndex_df160_0 rfl ?_
    refine z_iload_n dJ0_checkIndex_df160_1 rfl ?_
    refine z_gets dJ0_checkIndex_df160_2 kG_RJ0_1053 rfl (hz) ?_
    refine z_callOE (As := [.int (nI (k)), .int (nI (n)), .null]) (rest := []) (v := some (.int (nI (k)))) (R2 := zR 0 0) dJ0_checkIndex_df160_5 kO_RJ0_1059 rfl ⟨⟨by decide, by decide⟩, by decide, by decide⟩ rfl (Nat.le_of_ble_eq_true rfl) rfl (c_chk3N h0 hk hn) ?_
    refine z_pop dJ0_checkIndex_df160_8 rfl ?_
    refine z_vret dJ0_checkIndex_df160_9 rfl (by decide) (by decide) ?_
    exact ⟨rfl, rfl⟩
  · refine z_iload_n dJ0_checkIndex_df160_0 rfl ?_
    refine z_iload_n dJ0_checkIndex_df160_1 rfl ?_
    refine z_gets dJ0_checkIndex_df160_2 kG_RJ0_1053 rfl (hz) ?_
    refine z_callOE (As := [.int (nI (k)), .int (nI (n)), .ref (t)]) (rest := []) (v := some (.int (nI (k)))) (R2 := zR 0 0) dJ0_checkIndex_df160_5 kO_RJ0_1059 rfl ⟨⟨by decide, by decide⟩, by decide, by decide⟩ rfl (Nat.le_of_ble_eq_true rfl) rfl (c_chk3R h0 hk hn) ?_
    refine z_pop dJ0_checkIndex_df160_8 rfl ?_
    refine z_vret dJ0_checkIndex_df160_9 rfl (by decide) (by decide) ?_
    exact ⟨rfl, rfl⟩
set_option maxRecDepth 100000 in
set_option maxHeartbeats 4000000 in
theorem c_charAt1 {g : zGT} {w : zW} {i k : Nat} (h0 : zG0 g) (h1 : zST g) (hi : i < 11) (hk : k < (zwd i).length) : zCt g mJ1_charAt_3b067 (zR 2 0) [.ref (ze g (60 + i)), .int (nI (k))] w (fun o w' => o = .inl (some (.int (nI ((zwd i).getD k 0)))) ∧ w' = w) := by
  have hok := zwd_ok hi
  have hck := hok.2.2 k hk
  refine zCt_of (by decide +kernel) h0 [(0, .ref (ze g (60 + i))), (1, .int (nI (k)))] rfl (Nat.le_of_ble_eq_true rfl) ?_
  refine z_iload_n dJ1_charAt_3b067_0 rfl ?_
  refine z_aload_n dJ1_charAt_3b067_1 rfl ?_
  refine z_tabL (N := (zwd i).length) dJ1_charAt_3b067_2 (h1.2.2.2.2.1.2.2.2.2.1 i hi) ?_
  refine z_callOE (As := [.int (nI (k)), .int (nI ((zwd i).length))]) (rest := []) (v := none) (R2 := zR 1 0) dJ1_charAt_3b067_3 kO_RJ1_9 rfl ⟨⟨by decide, by decide⟩, by decide, by decide⟩ rfl (Nat.le_of_ble_eq_true rfl) rfl (c_chk0 h0 h1 hk (by omega)) ?_
  refine z_aload_n dJ1_charAt_3b067_6 rfl ?_
  refine z_iload_n dJ1_charAt_3b067_7 rfl ?_
  refine z_tabB (a := k) (v := .int (nI ((zwd i).getD (k) 0))) dJ1_charAt_3b067_8 (h1.2.2.2.2.1.2.2.2.2.1 i hi) (by omega) (by omega) (by rfl) ?_
  refine z_sipush (v := nI 255) dJ1_charAt_3b067_9 rfl ?_
  refine z_iand dJ1_charAt_3b067_12 ?_
  refine z_eq (st' := [.int (nI ((zwd i).getD (k) 0))]) rfl (by rw [zan255 (by omega)]; rfl) rfl ?_
  refine z_i2c_n (a := (zwd i).getD (k) 0) dJ1_charAt_3b067_13 (by omega) ?_
  refine z_zret (ty := .char) dJ1_charAt_3b067_14 rfl (by decide) (by decide) (pk_charN (by omega)).1 ?_
  exact ⟨rfl, rfl⟩
set_option maxRecDepth 100000 in
set_option maxHeartbeats 4000000 in
theorem c_charAt {g : zGT} {w : zW} {i k : Nat} (h0 : zG0 g) (h1 : zST g) (hi : i < 11) (hk : k < (zwd i).length) : zCt g mJ0_charAt_5068e (zR 3 0) [.ref (ze g (40 + i)), .int (nI (k))] w (fun o w' => o = .inl (some (.int (nI ((zwd i).getD k 0)))) ∧ w' = w) := by
  have hok := zwd_ok hi
  have hck := hok.2.2 k hk
  refine zCt_of (by decide +kernel) h0 [(0, .ref (ze g (40 + i))), (1, .int (nI (k)))] rfl (Nat.le_of_ble_eq_true rfl) ?_
  refine z_aload_n dJ0_charAt_5068e_0 rfl ?_
  refine z_callVO (As := []) (rest := []) (v := some (.int (nI (1)))) (R2 := zR 0 0) dJ0_charAt_5068e_1 kV_RJ0_492 rfl ⟨⟨by decide, by decide⟩, by decide, by decide⟩ (h1.2.2.2.2.1.2.2.2.1 i hi) rfl (Nat.le_of_ble_eq_true rfl) rfl (c_isLatin1 h0 h1 hi) ?_
  refine z_if_eq_n (a := 1) (tgt := 16) dJ0_charAt_5068e_4 (by decide) (by omega) (fun h_4_2 => ?_) (fun h_4_2 => ?_)
  · exact absurd h_4_2 (by decide)
  · refine z_aload_n dJ0_charAt_5068e_7 rfl ?_
    refine z_getO dJ0_charAt_5068e_8 kG_RJ0_9 rfl (h1.2.2.2.2.1.2.1 i hi) ?_
    refine z_iload_n dJ0_charAt_5068e_11 rfl ?_
    refine z_callOE (As := [.ref (ze g (60 + i)), .int (nI (k))]) (rest := []) (v := some (.int (nI ((zwd i).getD (k) 0)))) (R2 := zR 2 0) dJ0_charAt_5068e_12 kO_RJ0_495 rfl ⟨⟨by decide, by decide⟩, by decide, by decide⟩ rfl (Nat.le_of_ble_eq_true rfl) rfl (c_charAt1 h0 h1 hi hk) ?_
    refine z_zret (ty := .char) dJ0_charAt_5068e_15 rfl (by decide) (by decide) (pk_charN (by omega)).1 ?_
    exact ⟨rfl, rfl⟩
