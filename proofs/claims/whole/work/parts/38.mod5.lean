/-! the reference: its editing calls -/
def TxR (f : Nat → Int32) (I : List Nat) : Prop := I.length ≤ 60 ∧ (∀ k, k < I.length → f k = nI (I.getD k 0)) ∧ ∀ x ∈ I, 32 ≤ x ∧ x ≤ 126
def OuR (f : Nat → Int32) (O : List Nat) : Prop := O.length ≤ 1000 ∧ (∀ k, k < O.length → f k = nI (O.getD k 0)) ∧ ∀ x ∈ O, x < 65536
/-- the reference holds what the class holds -/
def Mq (g : zGT) (w : zW) (b : Nat) (S : zSt) (Hs : List zSt) (Sn : Option zSt) (I O : List Nat) (ep fc : Int32) (t : Nat) : Prop := ∃ (po en kn wr dg : Int32) (fv fb fs fp fh ft fl fi : Nat → Int32), Mx g w b (nI t) (nI Hs.length) ep fc (nI (if Sn.isSome then 1 else 0)) (nI I.length) po en (nI O.length) kn wr dg fv fb fs fp fh ft fl fi ∧ VS fv S ∧ PS fp Hs ∧ (∀ Y, Sn = some Y → VS fs Y) ∧ TxR ft I ∧ OuR fl O ∧ (-1 ≤ ep.toInt ∧ -1 ≤ fc.toInt)
theorem plc_ne {i : Nat} {x y z : Int} {S : zSt} (h : spF i x y z S ≠ 0) : plc i (spF i x y z S) ≠ 0 ∧ plc i (spF i x y z S) < 100 := by
  have key : spF i x y z S < 10 ∧ (i = 0 → spF i x y z S ≠ 1) := by
    unfold spF
    split <;> refine ⟨?_, fun q => ?_⟩ <;> first | omega | (simp only [fPass, fRest, fIv, fMod, fRep, fPas, fMark]; (repeat' split) <;> omega) | (exact absurd q (by decide))
  unfold plc
  (repeat' split) <;> omega
theorem spA_bit {i : Nat} {x y z : Int} {S : zSt} (h : i = 4 ∨ i = 9 ∨ i = 10) : spA i x y z S ≤ 1 := by
  rcases h with rfl | rfl | rfl <;> simp only [spA] <;> split <;> omega

set_option maxRecDepth 100000 in
set_option maxHeartbeats 4000000 in
theorem c_X13_does_0 {g : zGT} {w : zW} {b : Nat} {th ch ea fa sv tn po en ln kn wr dg : Int32} {fv fb fs fp fh ft fl fi : Nat → Int32} {S : zSt} {x y z : Int32} (h0 : zG0 g) (h : Mx g w b th ch ea fa sv tn po en ln kn wr dg fv fb fs fp fh ft fl fi) (hv : VS fv S) : zCt g mX13_does (zR 3 0) [.ref (za g b), .int (nI (0)), .int (x), .int (y), .int (z)] w (fun o w' => ∃ th' f' r, o = .inl (some (.int r)) ∧ zFr w w' b (b + 11) ∧ Mx g w' b (th') ch ea fa sv tn po en ln kn wr dg (f') fb fs fp fh ft fl fi ∧ th' = (if spF 0 x.toInt y.toInt z.toInt S = 0 then th else nI (plc 0 (spF 0 x.toInt y.toInt z.toInt S))) ∧ VS f' (if spF 0 x.toInt y.toInt z.toInt S = 0 then spS 0 x.toInt y.toInt z.toInt S else S)) := by
  have hb := h.1
  have hl := hv.len
  refine zCt_of (by decide +kernel) h0 [(0, .ref (za g b)), (1, .int (nI (0))), (2, .int (x)), (3, .int (y)), (4, .int (z))] rfl (Nat.le_of_ble_eq_true rfl) ?_
  refine z_iload_n dX13_does_0 rfl ?_
  refine z_tableIn (off := 55) (tgt := 56) dX13_does_1 (by decide) (by decide) rfl (by decide) ?_
  refine z_aload_n dX13_does_56 rfl ?_
  refine z_iload_n dX13_does_57 rfl ?_
  refine z_iload_n dX13_does_58 rfl ?_
  refine z_iload dX13_does_59 rfl ?_
  refine z_callV (As := [.int (x), .int (y), .int (z)]) (rest := []) (b := b) (ci := 12) (R2 := zR 1 0) dX13_does_61 kV_RX13_71 rfl ⟨⟨by decide, by decide⟩, by decide, by decide⟩ (by omega) h.ce rfl rfl rfl (Nat.le_of_ble_eq_true rfl) rfl (c_X13_passes (x := (x)) (y := (y)) (z := (z)) h0 h hv) (fun E w1 h => by obtain ⟨_, _, _, e, _⟩ := h; cases e) (fun v9 w10 h11 => ?_)
  rcases h11 with ⟨th1, g2, r3, ho9, hf4, hx5, ht6, hv7, hr8⟩
  · cases ho9
    refine z_iret dX13_does_64 rfl (by decide) (by decide) ?_
    exact ⟨_, _, _, rfl, hf4, hx5, ht6, hv7⟩
set_option maxRecDepth 100000 in
set_option maxHeartbeats 4000000 in
theorem c_X13_does_1 {g : zGT} {w : zW} {b : Nat} {th ch ea fa sv tn po en ln kn wr dg : Int32} {fv fb fs fp fh ft fl fi : Nat → Int32} {S : zSt} {x y z : Int32} (h0 : zG0 g) (h : Mx g w b th ch ea fa sv tn po en ln kn wr dg fv fb fs fp fh ft fl fi) (hv : VS fv S) : zCt g mX13_does (zR 3 0) [.ref (za g b), .int (nI (1)), .int (x), .int (y), .int (z)] w (fun o w' => ∃ th' f' r, o = .inl (some (.int r)) ∧ zFr w w' b (b + 11) ∧ Mx g w' b (th') ch ea fa sv tn po en ln kn wr dg (f') fb fs fp fh ft fl fi ∧ th' = (if spF 1 x.toInt y.toInt z.toInt S = 0 then th else nI (plc 1 (spF 1 x.toInt y.toInt z.toInt S))) ∧ VS f' (if spF 1 x.toInt y.toInt z.toInt S = 0 then spS 1 x.toInt y.toInt z.toInt S else S)) := by
  have hb := h.1
  have hl := hv.len
  refine zCt_of (by decide +kernel) h0 [(0, .ref (za g b)), (1, .int (nI (1))), (2, .int (x)), (3, .int (y)), (4, .int (z))] rfl (Nat.le_of_ble_eq_true rfl) ?_
  refine z_iload_n dX13_does_0 rfl ?_
  refine z_tableIn (off := 64) (tgt := 65) dX13_does_1 (by decide) (by decide) rfl (by decide) ?_
  refine z_aload_n dX13_does_65 rfl ?_
  refine z_iload_n dX13_does_66 rfl ?_
  refine z_iload_n dX13_does_67 rfl ?_
  refine z_callV (As := [.int (x), .int (y)]) (rest := []) (b := b) (ci := 12) (R2 := zR 1 0) dX13_does_68 kV_RX13_82 rfl ⟨⟨by decide, by decide⟩, by decide, by decide⟩ (by omega) h.ce rfl rfl rfl (Nat.le_of_ble_eq_true rfl) rfl (c_X13_rests (x := (x)) (y := (y)) h0 h hv) (fun E w1 h => by obtain ⟨_, _, _, e, _⟩ := h; cases e) (fun v9 w10 h11 => ?_)
  rcases h11 with ⟨th1, g2, r3, ho9, hf4, hx5, ht6, hv7, hr8⟩
  · cases ho9
    refine z_iret dX13_does_71 rfl (by decide) (by decide) ?_
    exact ⟨_, _, _, rfl, hf4, hx5, ht6, hv7⟩
set_option maxRecDepth 100000 in
set_option maxHeartbeats 4000000 in
theorem c_X13_does_2 {g : zGT} {w : zW} {b : Nat} {th ch ea fa sv tn po en ln kn wr dg : Int32} {fv fb fs fp fh ft fl fi : Nat → Int32} {S : zSt} {x y z : Int32} (h0 : zG0 g) (h : Mx g w b th ch ea fa sv tn po en ln kn wr dg fv fb fs fp fh ft fl fi) (hv : VS fv S) : zCt g mX13_does (zR 3 0) [.ref (za g b), .int (nI (2)), .int (x), .int (y), .int (z)] w (fun o w' => ∃ th' f' r, o = .inl (some (.int r)) ∧ zFr w w' b (b + 11) ∧ Mx g w' b (th') ch ea fa sv tn po en ln kn wr dg (f') fb fs fp fh ft fl fi ∧ th' = (if spF 2 x.toInt y.toInt z.toInt S = 0 then th else nI (plc 2 (spF 2 x.toInt y.toInt z.toInt S))) ∧ VS f' (if spF 2 x.toInt y.toInt z.toInt S = 0 then spS 2 x.toInt y.toInt z.toInt S else S)) := by
  have hb := h.1
  have hl := hv.len
  refine zCt_of (by decide +kernel) h0 [(0, .ref (za g b)), (1, .int (nI (2))), (2, .int (x)), (3, .int (y)), (4, .int (z))] rfl (Nat.le_of_ble_eq_true rfl) ?_
  refine z_iload_n dX13_does_0 rfl ?_
  refine z_tableIn (off := 71) (tgt := 72) dX13_does_1 (by decide) (by decide) rfl (by decide) ?_
  refine z_aload_n dX13_does_72 rfl ?_
  refine z_iload_n dX13_does_73 rfl ?_
  refine z_iload_n dX13_does_74 rfl ?_
  refine z_callV (As := [.int (x), .int (y)]) (rest := []) (b := b) (ci := 12) (R2 := zR 1 0) dX13_does_75 kV_RX13_97 rfl ⟨⟨by decide, by decide⟩, by decide, by decide⟩ (by omega) h.ce rfl rfl rfl (Nat.le_of_ble_eq_true rfl) rfl (c_X13_removes (x := (x)) (y := (y)) h0 h hv) (fun E w1 h => by obtain ⟨_, _, _, e, _⟩ := h; cases e) (fun v9 w10 h11 => ?_)
  rcases h11 with ⟨th1, g2, r3, ho9, hf4, hx5, ht6, hv7, hr8⟩
  · cases ho9
    refine z_iret dX13_does_78 rfl (by decide) (by decide) ?_
    exact ⟨_, _, _, rfl, hf4, hx5, ht6, hv7⟩
set_option maxRecDepth 100000 in
set_option maxHeartbeats 4000000 in
theorem c_X13_does_3 {g : zGT} {w : zW} {b : Nat} {th ch ea fa sv tn po en ln kn wr dg : Int32} {fv fb fs fp fh ft fl fi : Nat → Int32} {S : zSt} {x y z : Int32} (h0 : zG0 g) (h : Mx g w b th ch ea fa sv tn po en ln kn wr dg fv fb fs fp fh ft fl fi) (hv : VS fv S) : zCt g mX13_does (zR 3 0) [.ref (za g b), .int (nI (3)), .int (x), .int (y), .int (z)] w (fun o w' => ∃ th' f' r, o = .inl (some (.int r)) ∧ zFr w w' b (b + 11) ∧ Mx g w' b (th') ch ea fa sv tn po en ln kn wr dg (f') fb fs fp fh ft fl fi ∧ th' = (if spF 3 x.toInt y.toInt z.toInt S = 0 then th else nI (plc 3 (spF 3 x.toInt y.toInt z.toInt S))) ∧ VS f' (if spF 3 x.toInt y.toInt z.toInt S = 0 then spS 3 x.toInt y.toInt z.toInt S else S)) := by
  have hb := h.1
  have hl := hv.len
  refine zCt_of (by decide +kernel) h0 [(0, .ref (za g b)), (1, .int (nI (3))), (2, .int (x)), (3, .int (y)), (4, .int (z))] rfl (Nat.le_of_ble_eq_true rfl) ?_
  refine z_iload_n dX13_does_0 rfl ?_
  refine z_tableIn (off := 78) (tgt := 79) dX13_does_1 (by decide) (by decide) rfl (by decide) ?_
  refine z_aload_n dX13_does_79 rfl ?_
  refine z_iload_n dX13_does_80 rfl ?_
  refine z_iload_n dX13_does_81 rfl ?_
  refine z_callV (As := [.int (x), .int (y)]) (rest := []) (b := b) (ci := 12) (R2 := zR 1 0) dX13_does_82 kV_RX13_100 rfl ⟨⟨by decide, by decide⟩, by decide, by decide⟩ (by omega) h.ce rfl rfl rfl (Nat.le_of_ble_eq_true rfl) rfl (c_X13_mutes (x := (x)) (y := (y)) h0 h hv) (fun E w1 h => by obtain ⟨_, _, _, e, _⟩ := h; cases e) (fun v9 w10 h11 => ?_)
  rcases h11 with ⟨th1, g2, r3, ho9, hf4, hx5, ht6, hv7, hr8⟩
  · cases ho9
    refine z_iret dX13_does_85 rfl (by decide) (by decide) ?_
    exact ⟨_, _, _, rfl, hf4, hx5, ht6, hv7⟩
set_option maxRecDepth 100000 in
set_option maxHeartbeats 4000000 in
theorem c_X13_does_4 {g : zGT} {w : zW} {b : Nat} {th ch ea fa sv tn po en ln kn wr dg : Int32} {fv fb fs fp fh ft fl fi : Nat → Int32} {S : zSt} {x y z : Int32} (h0 : zG0 g) (h : Mx g w b th ch ea fa sv tn po en ln kn wr dg fv fb fs fp fh ft fl fi) (hv : VS fv S) : zCt g mX13_does (zR 3 0) [.ref (za g b), .int (nI (4)), .int (x), .int (y), .int (z)] w (fun o w' => ∃ th' f' r, o = .inl (some (.int r)) ∧ zFr w w' b (b + 11) ∧ Mx g w' b (th') ch ea fa sv tn po en ln kn wr dg (f') fb fs fp fh ft fl fi ∧ th' = (if spF 4 x.toInt y.toInt z.toInt S = 0 then th else nI (plc 4 (spF 4 x.toInt y.toInt z.toInt S))) ∧ VS f' (if spF 4 x.toInt y.toInt z.toInt S = 0 then spS 4 x.toInt y.toInt z.toInt S else S)) := by
  have hb := h.1
  have hl := hv.len
  refine zCt_of (by decide +kernel) h0 [(0, .ref (za g b)), (1, .int (nI (4))), (2, .int (x)), (3, .int (y)), (4, .int (z))] rfl (Nat.le_of_ble_eq_true rfl) ?_
  refine z_iload_n dX13_does_0 rfl ?_
  refine z_tableIn (off := 85) (tgt := 86) dX13_does_1 (by decide) (by decide) rfl (by decide) ?_
  refine z_aload_n dX13_does_86 rfl ?_
  refine z_iload_n dX13_does_87 rfl ?_
  refine z_iload_n dX13_does_88 rfl ?_
  refine z_callV (As := [.int (x), .int (y)]) (rest := []) (b := b) (ci := 12) (R2 := zR 1 0) dX13_does_89 kV_RX13_106 rfl ⟨⟨by decide, by decide⟩, by decide, by decide⟩ (by omega) h.ce rfl rfl rfl (Nat.le_of_ble_eq_true rfl) rfl (c_X13_turns (x := (x)) (y := (y)) h0 h hv) (fun E w1 h => by obtain ⟨_, _, _, e, _⟩ := h; cases e) (fun v9 w10 h11 => ?_)
  rcases h11 with ⟨th1, g2, r3, ho9, hf4, hx5, ht6, hv7, hr8⟩
  · cases ho9
    refine z_iret dX13_does_92 rfl (by decide) (by decide) ?_
    exact ⟨_, _, _, rfl, hf4, hx5, ht6, hv7⟩
set_option maxRecDepth 100000 in
set_option maxHeartbeats 4000000 in
theorem c_X13_does_5 {g : zGT} {w : zW} {b : Nat} {th ch ea fa sv tn po en ln kn wr dg : Int32} {fv fb fs fp fh ft fl fi : Nat → Int32} {S : zSt} {x y z : Int32} (h0 : zG0 g) (h : Mx g w b th ch ea fa sv tn po en ln kn wr dg fv fb fs fp fh ft fl fi) (hv : VS fv S) : zCt g mX13_does (zR 3 0) [.ref (za g b), .int (nI (5)), .int (x), .int (y), .int (z)] w (fun o w' => ∃ th' f' r, o = .inl (some (.int r)) ∧ zFr w w' b (b + 11) ∧ Mx g w' b (th') ch ea fa sv tn po en ln kn wr dg (f') fb fs fp fh ft fl fi ∧ th' = (if spF 5 x.toInt y.toInt z.toInt S = 0 then th else nI (plc 5 (spF 5 x.toInt y.toInt z.toInt S))) ∧ VS f' (if spF 5 x.toInt y.toInt z.toInt S = 0 then spS 5 x.toInt y.toInt z.toInt S else S)) := by
  have hb := h.1
  have hl := hv.len
  refine zCt_of (by decide +kernel) h0 [(0, .ref (za g b)), (1, .int (nI (5))), (2, .int (x)), (3, .int (y)), (4, .int (z))] rfl (Nat.le_of_ble_eq_true rfl) ?_
  refine z_iload_n dX13_does_0 rfl ?_
  refine z_tableIn (off := 92) (tgt := 93) dX13_does_1 (by decide) (by decide) rfl (by decide) ?_
  refine z_aload_n dX13_does_93 rfl ?_
  refine z_iload_n dX13_does_94 rfl ?_
  refine z_iload_n dX13_does_95 rfl ?_
  refine z_callV (As := [.int (x), .int (y)]) (rest := []) (b := b) (ci := 12) (R2 := zR 1 0) dX13_does_96 kV_RX13_112 rfl ⟨⟨by decide, by decide⟩, by decide, by decide⟩ (by omega) h.ce rfl rfl rfl (Nat.le_of_ble_eq_true rfl) rfl (c_X13_copies (x := (x)) (y := (y)) h0 h hv) (fun E w1 h => by obtain ⟨_, _, _, e, _⟩ := h; cases e) (fun v9 w10 h11 => ?_)
  rcases h11 with ⟨th1, g2, r3, ho9, hf4, hx5, ht6, hv7, hr8⟩
  · cases ho9
    refine z_iret dX13_does_99 rfl (by decide) (by decide) ?_
    exact ⟨_, _, _, rfl, hf4, hx5, ht6, hv7⟩
set_option maxRecDepth 100000 in
set_option maxHeartbeats 4000000 in
theorem c_X13_does_6 {g : zGT} {w : zW} {b : Nat} {th ch ea fa sv tn po en ln kn wr dg : Int32} {fv fb fs fp fh ft fl fi : Nat → Int32} {S : zSt} {x y z : Int32} (h0 : zG0 g) (h : Mx g w b th ch ea fa sv tn po en ln kn wr dg fv fb fs fp fh ft fl fi) (hv : VS fv S) : zCt g mX13_does (zR 3 0) [.ref (za g b), .int (nI (6)), .int (x), .int (y), .int (z)] w (fun o w' => ∃ th' f' r, o = .inl (some (.int r)) ∧ zFr w w' b (b + 11) ∧ Mx g w' b (th') ch ea fa sv tn po en ln kn wr dg (f') fb fs fp fh ft fl fi ∧ th' = (if spF 6 x.toInt y.toInt z.toInt S = 0 then th else nI (plc 6 (spF 6 x.toInt y.toInt z.toInt S))) ∧ VS f' (if spF 6 x.toInt y.toInt z.toInt S = 0 then spS 6 x.toInt y.toInt z.toInt S else S)) := by
  have hb := h.1
  have hl := hv.len
  refine zCt_of (by decide +kernel) h0 [(0, .ref (za g b)), (1, .int (nI (6))), (2, .int (x)), (3, .int (y)), (4, .int (z))] rfl (Nat.le_of_ble_eq_true rfl) ?_
  refine z_iload_n dX13_does_0 rfl ?_
  refine z_tableIn (off := 99) (tgt := 100) dX13_does_1 (by decide) (by decide) rfl (by decide) ?_
  refine z_aload_n dX13_does_100 rfl ?_
  refine z_iload_n dX13_does_101 rfl ?_
  refine z_iload_n dX13_does_102 rfl ?_
  refine z_iload dX13_does_103 rfl ?_
  refine z_callV (As := [.int (x), .int (y), .int (z)]) (rest := []) (b := b) (ci := 12) (R2 := zR 1 0) dX13_does_105 kV_RX13_103 rfl ⟨⟨by decide, by decide⟩, by decide, by decide⟩ (by omega) h.ce rfl rfl rfl (Nat.le_of_ble_eq_true rfl) rfl (c_X13_shifts (x := (x)) (y := (y)) (z := (z)) h0 h hv) (fun E w1 h => by obtain ⟨_, _, _, e, _⟩ := h; cases e) (fun v9 w10 h11 => ?_)
  rcases h11 with ⟨th1, g2, r3, ho9, hf4, hx5, ht6, hv7, hr8⟩
  · cases ho9
    refine z_iret dX13_does_108 rfl (by decide) (by decide) ?_
    exact ⟨_, _, _, rfl, hf4, hx5, ht6, hv7⟩
set_option maxRecDepth 100000 in
set_option maxHeartbeats 4000000 in
theorem c_X13_does_7 {g : zGT} {w : zW} {b : Nat} {th ch ea fa sv tn po en ln kn wr dg : Int32} {fv fb fs fp fh ft fl fi : Nat → Int32} {S : zSt} {x y z : Int32} (h0 : zG0 g) (h : Mx g w b th ch ea fa sv tn po en ln kn wr dg fv fb fs fp fh ft fl fi) (hv : VS fv S) : zCt g mX13_does (zR 3 0) [.ref (za g b), .int (nI (7)), .int (x), .int (y), .int (z)] w (fun o w' => ∃ th' f' r, o = .inl (some (.int r)) ∧ zFr w w' b (b + 11) ∧ Mx g w' b (th') ch ea fa sv tn po en ln kn wr dg (f') fb fs fp fh ft fl fi ∧ th' = (if spF 7 x.toInt y.toInt z.toInt S = 0 then th else nI (plc 7 (spF 7 x.toInt y.toInt z.toInt S))) ∧ VS f' (if spF 7 x.toInt y.toInt z.toInt S = 0 then spS 7 x.toInt y.toInt z.toInt S else S)) := by
  have hb := h.1
  have hl := hv.len
  refine zCt_of (by decide +kernel) h0 [(0, .ref (za g b)), (1, .int (nI (7))), (2, .int (x)), (3, .int (y)), (4, .int (z))] rfl (Nat.le_of_ble_eq_true rfl) ?_
  refine z_iload_n dX13_does_0 rfl ?_
  refine z_tableIn (off := 108) (tgt := 109) dX13_does_1 (by decide) (by decide) rfl (by decide) ?_
  refine z_aload_n dX13_does_109 rfl ?_
  refine z_iload_n dX13_does_110 rfl ?_
  refine z_iload_n dX13_does_111 rfl ?_
  refine z_iload dX13_does_112 rfl ?_
  refine z_callV (As := [.int (x), .int (y), .int (z)]) (rest := []) (b := b) (ci := 12) (R2 := zR 2 0) dX13_does_114 kV_RX13_109 rfl ⟨⟨by decide, by decide⟩, by decide, by decide⟩ (by omega) h.ce rfl rfl rfl (Nat.le_of_ble_eq_true rfl) rfl (c_X13_repeats (x := (x)) (y := (y)) (z := (z)) h0 h hv) (fun E w1 h => by obtain ⟨_, _, _, e, _⟩ := h; cases e) (fun v9 w10 h11 => ?_)
  rcases h11 with ⟨th1, g2, r3, ho9, hf4, hx5, ht6, hv7, hr8⟩
  · cases ho9
    refine z_iret dX13_does_117 rfl (by decide) (by decide) ?_
    exact ⟨_, _, _, rfl, hf4, hx5, ht6, hv7⟩
set_option maxRecDepth 100000 in
set_option maxHeartbeats 4000000 in
theorem c_X13_does_8 {g : zGT} {w : zW} {b : Nat} {th ch ea fa sv tn po en ln kn wr dg : Int32} {fv fb fs fp fh ft fl fi : Nat → Int32} {S : zSt} {x y z : Int32} (h0 : zG0 g) (h : Mx g w b th ch ea fa sv tn po en ln kn wr dg fv fb fs fp fh ft fl fi) (hv : VS fv S) : zCt g mX13_does (zR 3 0) [.ref (za g b), .int (nI (8)), .int (x), .int (y), .int (z)] w (fun o w' => ∃ th' f' r, o = .inl (some (.int r)) ∧ zFr w w' b (b + 11) ∧ Mx g w' b (th') ch ea fa sv tn po en ln kn wr dg (f') fb fs fp fh ft fl fi ∧ th' = (if spF 8 x.toInt y.toInt z.toInt S = 0 then th else nI (plc 8 (spF 8 x.toInt y.toInt z.toInt S))) ∧ VS f' (if spF 8 x.toInt y.toInt z.toInt S = 0 then spS 8 x.toInt y.toInt z.toInt S else S)) := by
  have hb := h.1
  have hl := hv.len
  refine zCt_of (by decide +kernel) h0 [(0, .ref (za g b)), (1, .int (nI (8))), (2, .int (x)), (3, .int (y)), (4, .int (z))] rfl (Nat.le_of_ble_eq_true rfl) ?_
  refine z_iload_n dX13_does_0 rfl ?_
  refine z_tableIn (off := 117) (tgt := 118) dX13_does_1 (by decide) (by decide) rfl (by decide) ?_
  refine z_aload_n dX13_does_118 rfl ?_
  refine z_iload_n dX13_does_119 rfl ?_
  refine z_callV (As := [.int (x)]) (rest := []) (b := b) (ci := 12) (R2 := zR 2 0) dX13_does_120 kV_RX13_115 rfl ⟨⟨by decide, by decide⟩, by decide, by decide⟩ (by omega) h.ce rfl rfl rfl (Nat.le_of_ble_eq_true rfl) rfl (c_X13_pastes (x := (x)) h0 h hv) (fun E w1 h => by obtain ⟨_, _, _, e, _⟩ := h; cases e) (fun v9 w10 h11 => ?_)
  rcases h11 with ⟨th1, g2, r3, ho9, hf4, hx5, ht6, hv7, hr8⟩
  · cases ho9
    refine z_iret dX13_does_123 rfl (by decide) (by decide) ?_
    exact ⟨_, _, _, rfl, hf4, hx5, ht6, hv7⟩
set_option maxRecDepth 100000 in
set_option maxHeartbeats 4000000 in
theorem c_X13_does_9 {g : zGT} {w : zW} {b : Nat} {th ch ea fa sv tn po en ln kn wr dg : Int32} {fv fb fs fp fh ft fl fi : Nat → Int32} {S : zSt} {x y z : Int32} (h0 : zG0 g) (h : Mx g w b th ch ea fa sv tn po en ln kn wr dg fv fb fs fp fh ft fl fi) (hv : VS fv S) : zCt g mX13_does (zR 3 0) [.ref (za g b), .int (nI (9)), .int (x), .int (y), .int (z)] w (fun o w' => ∃ th' f' r, o = .inl (some (.int r)) ∧ zFr w w' b (b + 11) ∧ Mx g w' b (th') ch ea fa sv tn po en ln kn wr dg (f') fb fs fp fh ft fl fi ∧ th' = (if spF 9 x.toInt y.toInt z.toInt S = 0 then th else nI (plc 9 (spF 9 x.toInt y.toInt z.toInt S))) ∧ VS f' (if spF 9 x.toInt y.toInt z.toInt S = 0 then spS 9 x.toInt y.toInt z.toInt S else S)) := by
  have hb := h.1
  have hl := hv.len
  refine zCt_of (by decide +kernel) h0 [(0, .ref (za g b)), (1, .int (nI (9))), (2, .int (x)), (3, .int (y)), (4, .int (z))] rfl (Nat.le_of_ble_eq_true rfl) ?_
  refine z_iload_n dX13_does_0 rfl ?_
  refine z_tableIn (off := 123) (tgt := 124) dX13_does_1 (by decide) (by decide) rfl (by decide) ?_
  refine z_aload_n dX13_does_124 rfl ?_
  refine z_iload_n dX13_does_125 rfl ?_
  refine z_callV (As := [.int (x)]) (rest := []) (b := b) (ci := 12) (R2 := zR 1 0) dX13_does_126 kV_RX13_118 rfl ⟨⟨by decide, by decide⟩, by decide, by decide⟩ (by omega) h.ce rfl rfl rfl (Nat.le_of_ble_eq_true rfl) rfl (c_X13_marks (x := (x)) h0 h hv) (fun E w1 h => by obtain ⟨_, _, _, e, _⟩ := h; cases e) (fun v9 w10 h11 => ?_)
  rcases h11 with ⟨th1, g2, r3, ho9, hf4, hx5, ht6, hv7, hr8⟩
  · cases ho9
    refine z_iret dX13_does_129 rfl (by decide) (by decide) ?_
    exact ⟨_, _, _, rfl, hf4, hx5, ht6, hv7⟩
set_option maxRecDepth 100000 in
set_option maxHeartbeats 4000000 in
theorem c_X13_does_10 {g : zGT} {w : zW} {b : Nat} {th ch ea fa sv tn po en ln kn wr dg : Int32} {fv fb fs fp fh ft fl fi : Nat → Int32} {S : zSt} {x y z : Int32} (h0 : zG0 g) (h : Mx g w b th ch ea fa sv tn po en ln kn wr dg fv fb fs fp fh ft fl fi) (hv : VS fv S) : zCt g mX13_does (zR 3 0) [.ref (za g b), .int (nI (10)), .int (x), .int (y), .int (z)] w (fun o w' => ∃ th' f' r, o = .inl (some (.int r)) ∧ zFr w w' b (b + 11) ∧ Mx g w' b (th') ch ea fa sv tn po en ln kn wr dg (f') fb fs fp fh ft fl fi ∧ th' = (if spF 10 x.toInt y.toInt z.toInt S = 0 then th else nI (plc 10 (spF 10 x.toInt y.toInt z.toInt S))) ∧ VS f' (if spF 10 x.toInt y.toInt z.toInt S = 0 then spS 10 x.toInt y.toInt z.toInt S else S)) := by
  have hb := h.1
  have hl := hv.len
  refine zCt_of (by decide +kernel) h0 [(0, .ref (za g b)), (1, .int (nI (10))), (2, .int (x)), (3, .int (y)), (4, .int (z))] rfl (Nat.le_of_ble_eq_true rfl) ?_
  refine z_iload_n dX13_does_0 rfl ?_
  refine z_tableOut (tgt := 130) dX13_does_1 (by decide) (by decide) ?_
  refine z_aload_n dX13_does_130 rfl ?_
  refine z_iload_n dX13_does_131 rfl ?_
  refine z_callV (As := [.int (x)]) (rest := []) (b := b) (ci := 12) (R2 := zR 1 0) dX13_does_132 kV_RX13_121 rfl ⟨⟨by decide, by decide⟩, by decide, by decide⟩ (by omega) h.ce rfl rfl rfl (Nat.le_of_ble_eq_true rfl) rfl (c_X13_unmarks (x := (x)) h0 h hv) (fun E w1 h => by obtain ⟨_, _, _, e, _⟩ := h; cases e) (fun v9 w10 h11 => ?_)
  rcases h11 with ⟨th1, g2, r3, ho9, hf4, hx5, ht6, hv7, hr8⟩
  · cases ho9
    refine z_iret dX13_does_135 rfl (by decide) (by decide) ?_
    exact ⟨_, _, _, rfl, hf4, hx5, ht6, hv7⟩
theorem c_X13_does {g : zGT} {w : zW} {b : Nat} {th ch ea fa sv tn po en ln kn wr dg : Int32} {fv fb fs fp fh ft fl fi : Nat → Int32} {S : zSt} {i : Nat} {x y z : Int32} (h0 : zG0 g) (h : Mx g w b th ch ea fa sv tn po en ln kn wr dg fv fb fs fp fh ft fl fi) (hv : VS fv S) (hi : i < 11) : zCt g mX13_does (zR 3 0) [.ref (za g b), .int (nI i), .int x, .int y, .int z] w (fun o w' => ∃ th' f' r, o = .inl (some (.int r)) ∧ zFr w w' b (b + 11) ∧ Mx g w' b (th') ch ea fa sv tn po en ln kn wr dg (f') fb fs fp fh ft fl fi ∧ th' = (if spF i x.toInt y.toInt z.toInt S = 0 then th else nI (plc i (spF i x.toInt y.toInt z.toInt S))) ∧ VS f' (if spF i x.toInt y.toInt z.toInt S = 0 then spS i x.toInt y.toInt z.toInt S else S)) := by
  by_cases c0 : i = 0
  · subst c0; exact c_X13_does_0 h0 h hv
  by_cases c1 : i = 1
  · subst c1; exact c_X13_does_1 h0 h hv
  by_cases c2 : i = 2
  · subst c2; exact c_X13_does_2 h0 h hv
  by_cases c3 : i = 3
  · subst c3; exact c_X13_does_3 h0 h hv
  by_cases c4 : i = 4
  · subst c4; exact c_X13_does_4 h0 h hv
  by_cases c5 : i = 5
  · subst c5; exact c_X13_does_5 h0 h hv
  by_cases c6 : i = 6
  · subst c6; exact c_X13_does_6 h0 h hv
  by_cases c7 : i = 7
  · subst c7; exact c_X13_does_7 h0 h hv
  by_cases c8 : i = 8
  · subst c8; exact c_X13_does_8 h0 h hv
  by_cases c9 : i = 9
  · subst c9; exact c_X13_does_9 h0 h hv
  by_cases c10 : i = 10
  · subst c10; exact c_X13_does_10 h0 h hv
  omega
set_option maxRecDepth 100000 in
set_option maxHeartbeats 4000000 in
theorem c_X13_pass {g : zGT} {w : zW} {b : Nat} {S : zSt} {Hs : List zSt} {Sn : Option zSt} {I O : List Nat} {ep fc : Int32} {t : Nat} {x y z : Int32} (h0 : zG0 g) (hq : Mq g w b (S) (Hs) (Sn) (I) (O) (ep) (fc) (t)) : zCt g mX13_pass (zR 3 0) [.ref (za g b), .int (x), .int (y), .int (z)] w (fun o w' => ∃ r, o = .inl (some (.int r)) ∧ zFr w w' b (b + 11) ∧ Mq g w' b (if spF 0 x.toInt y.toInt z.toInt S = 0 then spS 0 x.toInt y.toInt z.toInt S else S) (if spF 0 x.toInt y.toInt z.toInt S = 0 then (S :: Hs).take 8 else Hs) (Sn) (I) (O) (ep) (fc) (plc 0 (spF 0 x.toInt y.toInt z.toInt S)) ∧ (spF 0 x.toInt y.toInt z.toInt S = 0 → r = nI (spA 0 x.toInt y.toInt z.toInt S))) := by
  obtain ⟨po, en, kn, wr, dg, fv, fb, fs, fp, fh, ft, fl, fi, h, hv, hp, hsn, htx, hou, hep⟩ := hq
  have hb := h.1
  have hl := hv.len
  refine zCt_of (by decide +kernel) h0 [(0, .ref (za g b)), (1, .int (x)), (2, .int (y)), (3, .int (z))] rfl (Nat.le_of_ble_eq_true rfl) ?_
  refine z_aload_n dX13_pass_0 rfl ?_
  refine z_callR (As := []) (rest := []) (b := b) (ci := 12) (v := none) (R2 := zR 1 0) dX13_pass_1 kV_RX13_68 rfl ⟨⟨by decide, by decide⟩, by decide, by decide⟩ (by omega) h.ce rfl rfl rfl (Nat.le_of_ble_eq_true rfl) rfl (c_X13_begins h0 h) (fun w1 pw1 => ?_)
  obtain ⟨hf2, g3, hx4, he5⟩ := pw1
  have hvb := hv.congr he5
  refine z_aload_n dX13_pass_4 rfl ?_
  refine z_aload_n dX13_pass_5 rfl ?_
  refine z_iload_n dX13_pass_6 rfl ?_
  refine z_iload_n dX13_pass_7 rfl ?_
  refine z_iload_n dX13_pass_8 rfl ?_
  refine z_callV (As := [.int (x), .int (y), .int (z)]) (rest := [.ref (za g b)]) (b := b) (ci := 12) (R2 := zR 1 0) dX13_pass_9 kV_RX13_71 rfl ⟨⟨by decide, by decide⟩, by decide, by decide⟩ (by omega) hx4.ce rfl rfl rfl (Nat.le_of_ble_eq_true rfl) rfl (c_X13_passes (x := (x)) (y := (y)) (z := (z)) h0 hx4 hv) (fun E w1 h => by obtain ⟨_, _, _, e, _⟩ := h; cases e) (fun v14 w15 h16 => ?_)
  rcases h16 with ⟨th6, g7, r8, ho9, hf9, hx10, ht11, hv12, hr13⟩
  · cases ho9
    by_cases hc17 : spF 0 x.toInt y.toInt z.toInt S = 0
    · refine z_callR (As := [.int (r8)]) (rest := []) (b := b) (ci := 12) (v := some (.int (r8))) (R2 := zR 1 0) dX13_pass_12 kV_RX13_75 rfl ⟨⟨by decide, by decide⟩, by decide, by decide⟩ (by omega) hx10.ce rfl rfl rfl (Nat.le_of_ble_eq_true rfl) rfl (c_X13_ends_y (th := nI 0) (ch := nI 0) (S := S) (Hs := Hs) h0 (by have q9 := hx10; rw [ht11, if_pos hc17] at q9; exact q9) hp hvb) (fun w18 pw18 => ?_)
      obtain ⟨hf19, g20, hx21, hp22⟩ := pw18
      rw [if_pos hc17] at hv12
      refine z_iret dX13_pass_15 rfl (by decide) (by decide) ?_
      refine ⟨_, rfl, ((hf2.tr hf9).tr hf19), ?_, fun _ => hr13 hc17⟩
      rw [hc17, if_pos rfl, if_pos rfl]
      exact ⟨_, _, _, _, _, _, _, _, _, _, _, _, _, hx21, hv12, hp22, hsn, htx, hou, hep⟩
    · refine z_callR (As := [.int (r8)]) (rest := []) (b := b) (ci := 12) (v := some (.int (nI (0)))) (R2 := zR 1 0) dX13_pass_12 kV_RX13_75 rfl ⟨⟨by decide, by decide⟩, by decide, by decide⟩ (by omega) hx10.ce rfl rfl rfl (Nat.le_of_ble_eq_true rfl) rfl (c_X13_ends_x (th := nI 0) (t := plc 0 (spF 0 x.toInt y.toInt z.toInt S)) h0 (by have q9 := hx10; rw [ht11, if_neg hc17] at q9; exact q9) (plc_ne hc17).1 (plc_ne hc17).2) (fun w23 pw23 => ?_)
      obtain ⟨hf24, g25, hx26, he27⟩ := pw23
      refine z_iret dX13_pass_15 rfl (by decide) (by decide) ?_
      refine ⟨_, rfl, ((hf2.tr hf9).tr hf24), ?_, fun q9 => absurd q9 hc17⟩
      rw [if_neg hc17, if_neg hc17]
      exact ⟨_, _, _, _, _, _, _, _, _, _, _, _, _, hx26, (hvb.congr he27), hp, hsn, htx, hou, hep⟩
set_option maxRecDepth 100000 in
set_option maxHeartbeats 4000000 in
theorem c_X13_insertRest {g : zGT} {w : zW} {b : Nat} {S : zSt} {Hs : List zSt} {Sn : Option zSt} {I O : List Nat} {ep fc : Int32} {t : Nat} {x y : Int32} (h0 : zG0 g) (hq : Mq g w b (S) (Hs) (Sn) (I) (O) (ep) (fc) (t)) : zCt g mX13_insertRest (zR 3 0) [.ref (za g b), .int (x), .int (y)] w (fun o w' => ∃ r, o = .inl (some (.int r)) ∧ zFr w w' b (b + 11) ∧ Mq g w' b (if spF 1 x.toInt y.toInt 0 S = 0 then spS 1 x.toInt y.toInt 0 S else S) (if spF 1 x.toInt y.toInt 0 S = 0 then (S :: Hs).take 8 else Hs) (Sn) (I) (O) (ep) (fc) (plc 1 (spF 1 x.toInt y.toInt 0 S)) ∧ (spF 1 x.toInt y.toInt 0 S = 0 → r = nI (spA 1 x.toInt y.toInt 0 S))) := by
  obtain ⟨po, en, kn, wr, dg, fv, fb, fs, fp, fh, ft, fl, fi, h, hv, hp, hsn, htx, hou, hep⟩ := hq
  have hb := h.1
  have hl := hv.len
  refine zCt_of (by decide +kernel) h0 [(0, .ref (za g b)), (1, .int (x)), (2, .int (y))] rfl (Nat.le_of_ble_eq_true rfl) ?_
  refine z_aload_n dX13_insertRest_0 rfl ?_
  refine z_callR (As := []) (rest := []) (b := b) (ci := 12) (v := none) (R2 := zR 1 0) dX13_insertRest_1 kV_RX13_68 rfl ⟨⟨by decide, by decide⟩, by decide, by decide⟩ (by omega) h.ce rfl rfl rfl (Nat.le_of_ble_eq_true rfl) rfl (c_X13_begins h0 h) (fun w1 pw1 => ?_)
  obtain ⟨hf2, g3, hx4, he5⟩ := pw1
  have hvb := hv.congr he5
  refine z_aload_n dX13_insertRest_4 rfl ?_
  refine z_aload_n dX13_insertRest_5 rfl ?_
  refine z_iload_n dX13_insertRest_6 rfl ?_
  refine z_iload_n dX13_insertRest_7 rfl ?_
  refine z_callV (As := [.int (x), .int (y)]) (rest := [.ref (za g b)]) (b := b) (ci := 12) (R2 := zR 1 0) dX13_insertRest_8 kV_RX13_82 rfl ⟨⟨by decide, by decide⟩, by decide, by decide⟩ (by omega) hx4.ce rfl rfl rfl (Nat.le_of_ble_eq_true rfl) rfl (c_X13_rests (x := (x)) (y := (y)) h0 hx4 hv) (fun E w1 h => by obtain ⟨_, _, _, e, _⟩ := h; cases e) (fun v14 w15 h16 => ?_)
  rcases h16 with ⟨th6, g7, r8, ho9, hf9, hx10, ht11, hv12, hr13⟩
  · cases ho9
    by_cases hc17 : spF 1 x.toInt y.toInt 0 S = 0
    · refine z_callR (As := [.int (r8)]) (rest := []) (b := b) (ci := 12) (v := some (.int (r8))) (R2 := zR 1 0) dX13_insertRest_11 kV_RX13_75 rfl ⟨⟨by decide, by decide⟩, by decide, by decide⟩ (by omega) hx10.ce rfl rfl rfl (Nat.le_of_ble_eq_true rfl) rfl (c_X13_ends_y (th := nI 0) (ch := nI 0) (S := S) (Hs := Hs) h0 (by have q9 := hx10; rw [ht11, if_pos hc17] at q9; exact q9) hp hvb) (fun w18 pw18 => ?_)
      obtain ⟨hf19, g20, hx21, hp22⟩ := pw18
      rw [if_pos hc17] at hv12
      refine z_iret dX13_insertRest_14 rfl (by decide) (by decide) ?_
      refine ⟨_, rfl, ((hf2.tr hf9).tr hf19), ?_, fun _ => hr13 hc17⟩
      rw [hc17, if_pos rfl, if_pos rfl]
      exact ⟨_, _, _, _, _, _, _, _, _, _, _, _, _, hx21, hv12, hp22, hsn, htx, hou, hep⟩
    · refine z_callR (As := [.int (r8)]) (rest := []) (b := b) (ci := 12) (v := some (.int (nI (0)))) (R2 := zR 1 0) dX13_insertRest_11 kV_RX13_75 rfl ⟨⟨by decide, by decide⟩, by decide, by decide⟩ (by omega) hx10.ce rfl rfl rfl (Nat.le_of_ble_eq_true rfl) rfl (c_X13_ends_x (th := nI 0) (t := plc 1 (spF 1 x.toInt y.toInt 0 S)) h0 (by have q9 := hx10; rw [ht11, if_neg hc17] at q9; exact q9) (plc_ne hc17).1 (plc_ne hc17).2) (fun w23 pw23 => ?_)
      obtain ⟨hf24, g25, hx26, he27⟩ := pw23
      refine z_iret dX13_insertRest_14 rfl (by decide) (by decide) ?_
      refine ⟨_, rfl, ((hf2.tr hf9).tr hf24), ?_, fun q9 => absurd q9 hc17⟩
      rw [if_neg hc17, if_neg hc17]
      exact ⟨_, _, _, _, _, _, _, _, _, _, _, _, _, hx26, (hvb.congr he27), hp, hsn, htx, hou, hep⟩
set_option maxRecDepth 100000 in
set_option maxHeartbeats 4000000 in
theorem c_X13_remove {g : zGT} {w : zW} {b : Nat} {S : zSt} {Hs : List zSt} {Sn : Option zSt} {I O : List Nat} {ep fc : Int32} {t : Nat} {x y : Int32} (h0 : zG0 g) (hq : Mq g w b (S) (Hs) (Sn) (I) (O) (ep) (fc) (t)) : zCt g mX13_remove (zR 3 0) [.ref (za g b), .int (x), .int (y)] w (fun o w' => ∃ r, o = .inl (some (.int r)) ∧ zFr w w' b (b + 11) ∧ Mq g w' b (if spF 2 x.toInt y.toInt 0 S = 0 then spS 2 x.toInt y.toInt 0 S else S) (if spF 2 x.toInt y.toInt 0 S = 0 then (S :: Hs).take 8 else Hs) (Sn) (I) (O) (ep) (fc) (plc 2 (spF 2 x.toInt y.toInt 0 S)) ∧ (spF 2 x.toInt y.toInt 0 S = 0 → r = nI (spA 2 x.toInt y.toInt 0 S))) := by
  obtain ⟨po, en, kn, wr, dg, fv, fb, fs, fp, fh, ft, fl, fi, h, hv, hp, hsn, htx, hou, hep⟩ := hq
  have hb := h.1
  have hl := hv.len
  refine zCt_of (by decide +kernel) h0 [(0, .ref (za g b)), (1, .int (x)), (2, .int (y))] rfl (Nat.le_of_ble_eq_true rfl) ?_
  refine z_aload_n dX13_remove_0 rfl ?_
  refine z_callR (As := []) (rest := []) (b := b) (ci := 12) (v := none) (R2 := zR 1 0) dX13_remove_1 kV_RX13_68 rfl ⟨⟨by decide, by decide⟩, by decide, by decide⟩ (by omega) h.ce rfl rfl rfl (Nat.le_of_ble_eq_true rfl) rfl (c_X13_begins h0 h) (fun w1 pw1 => ?_)
  obtain ⟨hf2, g3, hx4, he5⟩ := pw1
  have hvb := hv.congr he5
  refine z_aload_n dX13_remove_4 rfl ?_
  refine z_aload_n dX13_remove_5 rfl ?_
  refine z_iload_n dX13_remove_6 rfl ?_
  refine z_iload_n dX13_remove_7 rfl ?_
  refine z_callV (As := [.int (x), .int (y)]) (rest := [.ref (za g b)]) (b := b) (ci := 12) (R2 := zR 1 0) dX13_remove_8 kV_RX13_97 rfl ⟨⟨by decide, by decide⟩, by decide, by decide⟩ (by omega) hx4.ce rfl rfl rfl (Nat.le_of_ble_eq_true rfl) rfl (c_X13_removes (x := (x)) (y := (y)) h0 hx4 hv) (fun E w1 h => by obtain ⟨_, _, _, e, _⟩ := h; cases e) (fun v14 w15 h16 => ?_)
  rcases h16 with ⟨th6, g7, r8, ho9, hf9, hx10, ht11, hv12, hr13⟩
  · cases ho9
    by_cases hc17 : spF 2 x.toInt y.toInt 0 S = 0
    · refine z_callR (As := [.int (r8)]) (rest := []) (b := b) (ci := 12) (v := some (.int (r8))) (R2 := zR 1 0) dX13_remove_11 kV_RX13_75 rfl ⟨⟨by decide, by decide⟩, by decide, by decide⟩ (by omega) hx10.ce rfl rfl rfl (Nat.le_of_ble_eq_true rfl) rfl (c_X13_ends_y (th := nI 0) (ch := nI 0) (S := S) (Hs := Hs) h0 (by have q9 := hx10; rw [ht11, if_pos hc17] at q9; exact q9) hp hvb) (fun w18 pw18 => ?_)
      obtain ⟨hf19, g20, hx21, hp22⟩ := pw18
      rw [if_pos hc17] at hv12
      refine z_iret dX13_remove_14 rfl (by decide) (by decide) ?_
      refine ⟨_, rfl, ((hf2.tr hf9).tr hf19), ?_, fun _ => hr13 hc17⟩
      rw [hc17, if_pos rfl, if_pos rfl]
      exact ⟨_, _, _, _, _, _, _, _, _, _, _, _, _, hx21, hv12, hp22, hsn, htx, hou, hep⟩
    · refine z_callR (As := [.int (r8)]) (rest := []) (b := b) (ci := 12) (v := some (.int (nI (0)))) (R2 := zR 1 0) dX13_remove_11 kV_RX13_75 rfl ⟨⟨by decide, by decide⟩, by decide, by decide⟩ (by omega) hx10.ce rfl rfl rfl (Nat.le_of_ble_eq_true rfl) rfl (c_X13_ends_x (th := nI 0) (t := plc 2 (spF 2 x.toInt y.toInt 0 S)) h0 (by have q9 := hx10; rw [ht11, if_neg hc17] at q9; exact q9) (plc_ne hc17).1 (plc_ne hc17).2) (fun w23 pw23 => ?_)
      obtain ⟨hf24, g25, hx26, he27⟩ := pw23
      refine z_iret dX13_remove_14 rfl (by decide) (by decide) ?_
      refine ⟨_, rfl, ((hf2.tr hf9).tr hf24), ?_, fun q9 => absurd q9 hc17⟩
      rw [if_neg hc17, if_neg hc17]
      exact ⟨_, _, _, _, _, _, _, _, _, _, _, _, _, hx26, (hvb.congr he27), hp, hsn, htx, hou, hep⟩
set_option maxRecDepth 100000 in
set_option maxHeartbeats 4000000 in
theorem c_X13_mute {g : zGT} {w : zW} {b : Nat} {S : zSt} {Hs : List zSt} {Sn : Option zSt} {I O : List Nat} {ep fc : Int32} {t : Nat} {x y : Int32} (h0 : zG0 g) (hq : Mq g w b (S) (Hs) (Sn) (I) (O) (ep) (fc) (t)) : zCt g mX13_mute (zR 3 0) [.ref (za g b), .int (x), .int (y)] w (fun o w' => ∃ r, o = .inl (some (.int r)) ∧ zFr w w' b (b + 11) ∧ Mq g w' b (if spF 3 x.toInt y.toInt 0 S = 0 then spS 3 x.toInt y.toInt 0 S else S) (if spF 3 x.toInt y.toInt 0 S = 0 then (S :: Hs).take 8 else Hs) (Sn) (I) (O) (ep) (fc) (plc 3 (spF 3 x.toInt y.toInt 0 S)) ∧ (spF 3 x.toInt y.toInt 0 S = 0 → r = nI (spA 3 x.toInt y.toInt 0 S))) := by
  obtain ⟨po, en, kn, wr, dg, fv, fb, fs, fp, fh, ft, fl, fi, h, hv, hp, hsn, htx, hou, hep⟩ := hq
  have hb := h.1
  have hl := hv.len
  refine zCt_of (by decide +kernel) h0 [(0, .ref (za g b)), (1, .int (x)), (2, .int (y))] rfl (Nat.le_of_ble_eq_true rfl) ?_
  refine z_aload_n dX13_mute_0 rfl ?_
  refine z_callR (As := []) (rest := []) (b := b) (ci := 12) (v := none) (R2 := zR 1 0) dX13_mute_1 kV_RX13_68 rfl ⟨⟨by decide, by decide⟩, by decide, by decide⟩ (by omega) h.ce rfl rfl rfl (Nat.le_of_ble_eq_true rfl) rfl (c_X13_begins h0 h) (fun w1 pw1 => ?_)
  obtain ⟨hf2, g3, hx4, he5⟩ := pw1
  have hvb := hv.congr he5
  refine z_aload_n dX13_mute_4 rfl ?_
  refine z_aload_n dX13_mute_5 rfl ?_
  refine z_iload_n dX13_mute_6 rfl ?_
  refine z_iload_n dX13_mute_7 rfl ?_
  refine z_callV (As := [.int (x), .int (y)]) (rest := [.ref (za g b)]) (b := b) (ci := 12) (R2 := zR 1 0) dX13_mute_8 kV_RX13_100 rfl ⟨⟨by decide, by decide⟩, by decide, by decide⟩ (by omega) hx4.ce rfl rfl rfl (Nat.le_of_ble_eq_true rfl) rfl (c_X13_mutes (x := (x)) (y := (y)) h0 hx4 hv) (fun E w1 h => by obtain ⟨_, _, _, e, _⟩ := h; cases e) (fun v14 w15 h16 => ?_)
  rcases h16 with ⟨th6, g7, r8, ho9, hf9, hx10, ht11, hv12, hr13⟩
  · cases ho9
    by_cases hc17 : spF 3 x.toInt y.toInt 0 S = 0
    · refine z_callR (As := [.int (r8)]) (rest := []) (b := b) (ci := 12) (v := some (.int (r8))) (R2 := zR 1 0) dX13_mute_11 kV_RX13_75 rfl ⟨⟨by decide, by decide⟩, by decide, by decide⟩ (by omega) hx10.ce rfl rfl rfl (Nat.le_of_ble_eq_true rfl) rfl (c_X13_ends_y (th := nI 0) (ch := nI 0) (S := S) (Hs := Hs) h0 (by have q9 := hx10; rw [ht11, if_pos hc17] at q9; exact q9) hp hvb) (fun w18 pw18 => ?_)
      obtain ⟨hf19, g20, hx21, hp22⟩ := pw18
      rw [if_pos hc17] at hv12
      refine z_iret dX13_mute_14 rfl (by decide) (by decide) ?_
      refine ⟨_, rfl, ((hf2.tr hf9).tr hf19), ?_, fun _ => hr13 hc17⟩
      rw [hc17, if_pos rfl, if_pos rfl]
      exact ⟨_, _, _, _, _, _, _, _, _, _, _, _, _, hx21, hv12, hp22, hsn, htx, hou, hep⟩
    · refine z_callR (As := [.int (r8)]) (rest := []) (b := b) (ci := 12) (v := some (.int (nI (0)))) (R2 := zR 1 0) dX13_mute_11 kV_RX13_75 rfl ⟨⟨by decide, by decide⟩, by decide, by decide⟩ (by omega) hx10.ce rfl rfl rfl (Nat.le_of_ble_eq_true rfl) rfl (c_X13_ends_x (th := nI 0) (t := plc 3 (spF 3 x.toInt y.toInt 0 S)) h0 (by have q9 := hx10; rw [ht11, if_neg hc17] at q9; exact q9) (plc_ne hc17).1 (plc_ne hc17).2) (fun w23 pw23 => ?_)
      obtain ⟨hf24, g25, hx26, he27⟩ := pw23
      refine z_iret dX13_mute_14 rfl (by decide) (by decide) ?_
      refine ⟨_, rfl, ((hf2.tr hf9).tr hf24), ?_, fun q9 => absurd q9 hc17⟩
      rw [if_neg hc17, if_neg hc17]
      exact ⟨_, _, _, _, _, _, _, _, _, _, _, _, _, hx26, (hvb.congr he27), hp, hsn, htx, hou, hep⟩
set_option maxRecDepth 100000 in
set_option maxHeartbeats 4000000 in
theorem c_X13_reverse {g : zGT} {w : zW} {b : Nat} {S : zSt} {Hs : List zSt} {Sn : Option zSt} {I O : List Nat} {ep fc : Int32} {t : Nat} {x y : Int32} (h0 : zG0 g) (hq : Mq g w b (S) (Hs) (Sn) (I) (O) (ep) (fc) (t)) : zCt g mX13_reverse (zR 3 0) [.ref (za g b), .int (x), .int (y)] w (fun o w' => ∃ r, o = .inl (some (.int r)) ∧ zFr w w' b (b + 11) ∧ Mq g w' b (if spF 4 x.toInt y.toInt 0 S = 0 then spS 4 x.toInt y.toInt 0 S else S) (if spF 4 x.toInt y.toInt 0 S = 0 then (S :: Hs).take 8 else Hs) (Sn) (I) (O) (ep) (fc) (plc 4 (spF 4 x.toInt y.toInt 0 S)) ∧ (spF 4 x.toInt y.toInt 0 S = 0 → r = nI (spA 4 x.toInt y.toInt 0 S))) := by
  obtain ⟨po, en, kn, wr, dg, fv, fb, fs, fp, fh, ft, fl, fi, h, hv, hp, hsn, htx, hou, hep⟩ := hq
  have hb := h.1
  have hl := hv.len
  refine zCt_of (by decide +kernel) h0 [(0, .ref (za g b)), (1, .int (x)), (2, .int (y))] rfl (Nat.le_of_ble_eq_true rfl) ?_
  refine z_aload_n dX13_reverse_0 rfl ?_
  refine z_callR (As := []) (rest := []) (b := b) (ci := 12) (v := none) (R2 := zR 1 0) dX13_reverse_1 kV_RX13_68 rfl ⟨⟨by decide, by decide⟩, by decide, by decide⟩ (by omega) h.ce rfl rfl rfl (Nat.le_of_ble_eq_true rfl) rfl (c_X13_begins h0 h) (fun w1 pw1 => ?_)
  obtain ⟨hf2, g3, hx4, he5⟩ := pw1
  have hvb := hv.congr he5
  refine z_aload_n dX13_reverse_4 rfl ?_
  refine z_aload_n dX13_reverse_5 rfl ?_
  refine z_iload_n dX13_reverse_6 rfl ?_
  refine z_iload_n dX13_reverse_7 rfl ?_
  refine z_callV (As := [.int (x), .int (y)]) (rest := [.ref (za g b)]) (b := b) (ci := 12) (R2 := zR 1 0) dX13_reverse_8 kV_RX13_106 rfl ⟨⟨by decide, by decide⟩, by decide, by decide⟩ (by omega) hx4.ce rfl rfl rfl (Nat.le_of_ble_eq_true rfl) rfl (c_X13_turns (x := (x)) (y := (y)) h0 hx4 hv) (fun E w1 h => by obtain ⟨_, _, _, e, _⟩ := h; cases e) (fun v14 w15 h16 => ?_)
  rcases h16 with ⟨th6, g7, r8, ho9, hf9, hx10, ht11, hv12, hr13⟩
  · cases ho9
    by_cases hc17 : spF 4 x.toInt y.toInt 0 S = 0
    · refine z_callR (As := [.int (r8)]) (rest := []) (b := b) (ci := 12) (v := some (.int (r8))) (R2 := zR 1 0) dX13_reverse_11 kV_RX13_75 rfl ⟨⟨by decide, by decide⟩, by decide, by decide⟩ (by omega) hx10.ce rfl rfl rfl (Nat.le_of_ble_eq_true rfl) rfl (c_X13_ends_y (th := nI 0) (ch := nI 0) (S := S) (Hs := Hs) h0 (by have q9 := hx10; rw [ht11, if_pos hc17] at q9; exact q9) hp hvb) (fun w18 pw18 => ?_)
      obtain ⟨hf19, g20, hx21, hp22⟩ := pw18
      rw [if_pos hc17] at hv12
      obtain ⟨c9, hc9, hr9, hc8⟩ := hr13 hc17
      refine z_eq (st' := [.int (nI (c9))]) rfl (by rw [hr9]; rfl) rfl ?_
      refine z_if_le_n (a := c9) (tgt := 21) dX13_reverse_14 (by decide) (by omega) (fun h_14_23 => ?_) (fun h_14_23 => ?_)
      · refine z_iconst (v := nI 0) dX13_reverse_21 rfl ?_
        refine z_zret (ty := .boolean) dX13_reverse_22 rfl (by decide) (by decide) rfl ?_
        refine ⟨_, rfl, ((hf2.tr hf9).tr hf19), ?_, fun _ => by have q9 := spA_bit (i := 4) (x := x.toInt) (y := y.toInt) (z := 0) (S := S) (by decide); congr 1; omega⟩
        rw [hc17, if_pos rfl, if_pos rfl]
        exact ⟨_, _, _, _, _, _, _, _, _, _, _, _, _, hx21, hv12, hp22, hsn, htx, hou, hep⟩
      · refine z_iconst (v := nI 1) dX13_reverse_17 rfl ?_
        refine z_goto (tgt := 22) dX13_reverse_18 (by decide) ?_
        refine z_zret (ty := .boolean) dX13_reverse_22 rfl (by decide) (by decide) rfl ?_
        refine ⟨_, rfl, ((hf2.tr hf9).tr hf19), ?_, fun _ => by have q9 := spA_bit (i := 4) (x := x.toInt) (y := y.toInt) (z := 0) (S := S) (by decide); congr 1; omega⟩
        rw [hc17, if_pos rfl, if_pos rfl]
        exact ⟨_, _, _, _, _, _, _, _, _, _, _, _, _, hx21, hv12, hp22, hsn, htx, hou, hep⟩
    · refine z_callR (As := [.int (r8)]) (rest := []) (b := b) (ci := 12) (v := some (.int (nI (0)))) (R2 := zR 1 0) dX13_reverse_11 kV_RX13_75 rfl ⟨⟨by decide, by decide⟩, by decide, by decide⟩ (by omega) hx10.ce rfl rfl rfl (Nat.le_of_ble_eq_true rfl) rfl (c_X13_ends_x (th := nI 0) (t := plc 4 (spF 4 x.toInt y.toInt 0 S)) h0 (by have q9 := hx10; rw [ht11, if_neg hc17] at q9; exact q9) (plc_ne hc17).1 (plc_ne hc17).2) (fun w24 pw24 => ?_)
      obtain ⟨hf25, g26, hx27, he28⟩ := pw24
      refine z_if_le_n (a := 0) (tgt := 21) dX13_reverse_14 (by decide) (by omega) (fun h_14_29 => ?_) (fun h_14_29 => ?_)
      · refine z_iconst (v := nI 0) dX13_reverse_21 rfl ?_
        refine z_zret (ty := .boolean) dX13_reverse_22 rfl (by decide) (by decide) rfl ?_
        refine ⟨_, rfl, ((hf2.tr hf9).tr hf25), ?_, fun q9 => absurd q9 hc17⟩
        rw [if_neg hc17, if_neg hc17]
        exact ⟨_, _, _, _, _, _, _, _, _, _, _, _, _, hx27, (hvb.congr he28), hp, hsn, htx, hou, hep⟩
      · exact absurd h_14_29 (by decide)
set_option maxRecDepth 100000 in
set_option maxHeartbeats 4000000 in
theorem c_X13_copy {g : zGT} {w : zW} {b : Nat} {S : zSt} {Hs : List zSt} {Sn : Option zSt} {I O : List Nat} {ep fc : Int32} {t : Nat} {x y : Int32} (h0 : zG0 g) (hq : Mq g w b (S) (Hs) (Sn) (I) (O) (ep) (fc) (t)) : zCt g mX13_copy (zR 3 0) [.ref (za g b), .int (x), .int (y)] w (fun o w' => ∃ r, o = .inl (some (.int r)) ∧ zFr w w' b (b + 11) ∧ Mq g w' b (if spF 5 x.toInt y.toInt 0 S = 0 then spS 5 x.toInt y.toInt 0 S else S) (if spF 5 x.toInt y.toInt 0 S = 0 then (S :: Hs).take 8 else Hs) (Sn) (I) (O) (ep) (fc) (plc 5 (spF 5 x.toInt y.toInt 0 S)) ∧ (spF 5 x.toInt y.toInt 0 S = 0 → r = nI (spA 5 x.toInt y.toInt 0 S))) := by
  obtain ⟨po, en, kn, wr, dg, fv, fb, fs, fp, fh, ft, fl, fi, h, hv, hp, hsn, htx, hou, hep⟩ := hq
  have hb := h.1
  have hl := hv.len
  refine zCt_of (by decide +kernel) h0 [(0, .ref (za g b)), (1, .int (x)), (2, .int (y))] rfl (Nat.le_of_ble_eq_true rfl) ?_
  refine z_aload_n dX13_copy_0 rfl ?_
  refine z_callR (As := []) (rest := []) (b := b) (ci := 12) (v := none) (R2 := zR 1 0) dX13_copy_1 kV_RX13_68 rfl ⟨⟨by decide, by decide⟩, by decide, by decide⟩ (by omega) h.ce rfl rfl rfl (Nat.le_of_ble_eq_true rfl) rfl (c_X13_begins h0 h) (fun w1 pw1 => ?_)
  obtain ⟨hf2, g3, hx4, he5⟩ := pw1
  have hvb := hv.congr he5
  refine z_aload_n dX13_copy_4 rfl ?_
  refine z_aload_n dX13_copy_5 rfl ?_
  refine z_iload_n dX13_copy_6 rfl ?_
  refine z_iload_n dX13_copy_7 rfl ?_
  refine z_callV (As := [.int (x), .int (y)]) (rest := [.ref (za g b)]) (b := b) (ci := 12) (R2 := zR 1 0) dX13_copy_8 kV_RX13_112 rfl ⟨⟨by decide, by decide⟩, by decide, by decide⟩ (by omega) hx4.ce rfl rfl rfl (Nat.le_of_ble_eq_true rfl) rfl (c_X13_copies (x := (x)) (y := (y)) h0 hx4 hv) (fun E w1 h => by obtain ⟨_, _, _, e, _⟩ := h; cases e) (fun v14 w15 h16 => ?_)
  rcases h16 with ⟨th6, g7, r8, ho9, hf9, hx10, ht11, hv12, hr13⟩
  · cases ho9
    by_cases hc17 : spF 5 x.toInt y.toInt 0 S = 0
    · refine z_callR (As := [.int (r8)]) (rest := []) (b := b) (ci := 12) (v := some (.int (r8))) (R2 := zR 1 0) dX13_copy_11 kV_RX13_75 rfl ⟨⟨by decide, by decide⟩, by decide, by decide⟩ (by omega) hx10.ce rfl rfl rfl (Nat.le_of_ble_eq_true rfl) rfl (c_X13_ends_y (th := nI 0) (ch := nI 0) (S := S) (Hs := Hs) h0 (by have q9 := hx10; rw [ht11, if_pos hc17] at q9; exact q9) hp hvb) (fun w18 pw18 => ?_)
      obtain ⟨hf19, g20, hx21, hp22⟩ := pw18
      rw [if_pos hc17] at hv12
      refine z_iret dX13_copy_14 rfl (by decide) (by decide) ?_
      refine ⟨_, rfl, ((hf2.tr hf9).tr hf19), ?_, fun _ => hr13 hc17⟩
      rw [hc17, if_pos rfl, if_pos rfl]
      exact ⟨_, _, _, _, _, _, _, _, _, _, _, _, _, hx21, hv12, hp22, hsn, htx, hou, hep⟩
    · refine z_callR (As := [.int (r8)]) (rest := []) (b := b) (ci := 12) (v := some (.int (nI (0)))) (R2 := zR 1 0) dX13_copy_11 kV_RX13_75 rfl ⟨⟨by decide, by decide⟩, by decide, by decide⟩ (by omega) hx10.ce rfl rfl rfl (Nat.le_of_ble_eq_true rfl) rfl (c_X13_ends_x (th := nI 0) (t := plc 5 (spF 5 x.toInt y.toInt 0 S)) h0 (by have q9 := hx10; rw [ht11, if_neg hc17] at q9; exact q9) (plc_ne hc17).1 (plc_ne hc17).2) (fun w23 pw23 => ?_)
      obtain ⟨hf24, g25, hx26, he27⟩ := pw23
      refine z_iret dX13_copy_14 rfl (by decide) (by decide) ?_
      refine ⟨_, rfl, ((hf2.tr hf9).tr hf24), ?_, fun q9 => absurd q9 hc17⟩
      rw [if_neg hc17, if_neg hc17]
      exact ⟨_, _, _, _, _, _, _, _, _, _, _, _, _, hx26, (hvb.congr he27), hp, hsn, htx, hou, hep⟩
set_option maxRecDepth 100000 in
set_option maxHeartbeats 4000000 in
theorem c_X13_modulate {g : zGT} {w : zW} {b : Nat} {S : zSt} {Hs : List zSt} {Sn : Option zSt} {I O : List Nat} {ep fc : Int32} {t : Nat} {x y z : Int32} (h0 : zG0 g) (hq : Mq g w b (S) (Hs) (Sn) (I) (O) (ep) (fc) (t)) : zCt g mX13_modulate (zR 3 0) [.ref (za g b), .int (x), .int (y), .int (z)] w (fun o w' => ∃ r, o = .inl (some (.int r)) ∧ zFr w w' b (b + 11) ∧ Mq g w' b (if spF 6 x.toInt y.toInt z.toInt S = 0 then spS 6 x.toInt y.toInt z.toInt S else S) (if spF 6 x.toInt y.toInt z.toInt S = 0 then (S :: Hs).take 8 else Hs) (Sn) (I) (O) (ep) (fc) (plc 6 (spF 6 x.toInt y.toInt z.toInt S)) ∧ (spF 6 x.toInt y.toInt z.toInt S = 0 → r = nI (spA 6 x.toInt y.toInt z.toInt S))) := by
  obtain ⟨po, en, kn, wr, dg, fv, fb, fs, fp, fh, ft, fl, fi, h, hv, hp, hsn, htx, hou, hep⟩ := hq
  have hb := h.1
  have hl := hv.len
  refine zCt_of (by decide +kernel) h0 [(0, .ref (za g b)), (1, .int (x)), (2, .int (y)), (3, .int (z))] rfl (Nat.le_of_ble_eq_true rfl) ?_
  refine z_aload_n dX13_modulate_0 rfl ?_
  refine z_callR (As := []) (rest := []) (b := b) (ci := 12) (v := none) (R2 := zR 1 0) dX13_modulate_1 kV_RX13_68 rfl ⟨⟨by decide, by decide⟩, by decide, by decide⟩ (by omega) h.ce rfl rfl rfl (Nat.le_of_ble_eq_true rfl) rfl (c_X13_begins h0 h) (fun w1 pw1 => ?_)
  obtain ⟨hf2, g3, hx4, he5⟩ := pw1
  have hvb := hv.congr he5
  refine z_aload_n dX13_modulate_4 rfl ?_
  refine z_aload_n dX13_modulate_5 rfl ?_
  refine z_iload_n dX13_modulate_6 rfl ?_
  refine z_iload_n dX13_modulate_7 rfl ?_
  refine z_iload_n dX13_modulate_8 rfl ?_
  refine z_callV (As := [.int (x), .int (y), .int (z)]) (rest := [.ref (za g b)]) (b := b) (ci := 12) (R2 := zR 1 0) dX13_modulate_9 kV_RX13_103 rfl ⟨⟨by decide, by decide⟩, by decide, by decide⟩ (by omega) hx4.ce rfl rfl rfl (Nat.le_of_ble_eq_true rfl) rfl (c_X13_shifts (x := (x)) (y := (y)) (z := (z)) h0 hx4 hv) (fun E w1 h => by obtain ⟨_, _, _, e, _⟩ := h; cases e) (fun v14 w15 h16 => ?_)
  rcases h16 with ⟨th6, g7, r8, ho9, hf9, hx10, ht11, hv12, hr13⟩
  · cases ho9
    by_cases hc17 : spF 6 x.toInt y.toInt z.toInt S = 0
    · refine z_callR (As := [.int (r8)]) (rest := []) (b := b) (ci := 12) (v := some (.int (r8))) (R2 := zR 1 0) dX13_modulate_12 kV_RX13_75 rfl ⟨⟨by decide, by decide⟩, by decide, by decide⟩ (by omega) hx10.ce rfl rfl rfl (Nat.le_of_ble_eq_true rfl) rfl (c_X13_ends_y (th := nI 0) (ch := nI 0) (S := S) (Hs := Hs) h0 (by have q9 := hx10; rw [ht11, if_pos hc17] at q9; exact q9) hp hvb) (fun w18 pw18 => ?_)
      obtain ⟨hf19, g20, hx21, hp22⟩ := pw18
      rw [if_pos hc17] at hv12
      refine z_iret dX13_modulate_15 rfl (by decide) (by decide) ?_
      refine ⟨_, rfl, ((hf2.tr hf9).tr hf19), ?_, fun _ => hr13 hc17⟩
      rw [hc17, if_pos rfl, if_pos rfl]
      exact ⟨_, _, _, _, _, _, _, _, _, _, _, _, _, hx21, hv12, hp22, hsn, htx, hou, hep⟩
    · refine z_callR (As := [.int (r8)]) (rest := []) (b := b) (ci := 12) (v := some (.int (nI (0)))) (R2 := zR 1 0) dX13_modulate_12 kV_RX13_75 rfl ⟨⟨by decide, by decide⟩, by decide, by decide⟩ (by omega) hx10.ce rfl rfl rfl (Nat.le_of_ble_eq_true rfl) rfl (c_X13_ends_x (th := nI 0) (t := plc 6 (spF 6 x.toInt y.toInt z.toInt S)) h0 (by have q9 := hx10; rw [ht11, if_neg hc17] at q9; exact q9) (plc_ne hc17).1 (plc_ne hc17).2) (fun w23 pw23 => ?_)
      obtain ⟨hf24, g25, hx26, he27⟩ := pw23
      refine z_iret dX13_modulate_15 rfl (by decide) (by decide) ?_
      refine ⟨_, rfl, ((hf2.tr hf9).tr hf24), ?_, fun q9 => absurd q9 hc17⟩
      rw [if_neg hc17, if_neg hc17]
      exact ⟨_, _, _, _, _, _, _, _, _, _, _, _, _, hx26, (hvb.congr he27), hp, hsn, htx, hou, hep⟩
set_option maxRecDepth 100000 in
set_option maxHeartbeats 4000000 in
theorem c_X13_repeat {g : zGT} {w : zW} {b : Nat} {S : zSt} {Hs : List zSt} {Sn : Option zSt} {I O : List Nat} {ep fc : Int32} {t : Nat} {x y z : Int32} (h0 : zG0 g) (hq : Mq g w b (S) (Hs) (Sn) (I) (O) (ep) (fc) (t)) : zCt g mX13_repeat (zR 3 0) [.ref (za g b), .int (x), .int (y), .int (z)] w (fun o w' => ∃ r, o = .inl (some (.int r)) ∧ zFr w w' b (b + 11) ∧ Mq g w' b (if spF 7 x.toInt y.toInt z.toInt S = 0 then spS 7 x.toInt y.toInt z.toInt S else S) (if spF 7 x.toInt y.toInt z.toInt S = 0 then (S :: Hs).take 8 else Hs) (Sn) (I) (O) (ep) (fc) (plc 7 (spF 7 x.toInt y.toInt z.toInt S)) ∧ (spF 7 x.toInt y.toInt z.toInt S = 0 → r = nI (spA 7 x.toInt y.toInt z.toInt S))) := by
  obtain ⟨po, en, kn, wr, dg, fv, fb, fs, fp, fh, ft, fl, fi, h, hv, hp, hsn, htx, hou, hep⟩ := hq
  have hb := h.1
  have hl := hv.len
  refine zCt_of (by decide +kernel) h0 [(0, .ref (za g b)), (1, .int (x)), (2, .int (y)), (3, .int (z))] rfl (Nat.le_of_ble_eq_true rfl) ?_
  refine z_aload_n dX13_repeat_0 rfl ?_
  refine z_callR (As := []) (rest := []) (b := b) (ci := 12) (v := none) (R2 := zR 1 0) dX13_repeat_1 kV_RX13_68 rfl ⟨⟨by decide, by decide⟩, by decide, by decide⟩ (by omega) h.ce rfl rfl rfl (Nat.le_of_ble_eq_true rfl) rfl (c_X13_begins h0 h) (fun w1 pw1 => ?_)
  obtain ⟨hf2, g3, hx4, he5⟩ := pw1
  have hvb := hv.congr he5
  refine z_aload_n dX13_repeat_4 rfl ?_
  refine z_aload_n dX13_repeat_5 rfl ?_
  refine z_iload_n dX13_repeat_6 rfl ?_
  refine z_iload_n dX13_repeat_7 rfl ?_
  refine z_iload_n dX13_repeat_8 rfl ?_
  refine z_callV (As := [.int (x), .int (y), .int (z)]) (rest := [.ref (za g b)]) (b := b) (ci := 12) (R2 := zR 2 0) dX13_repeat_9 kV_RX13_109 rfl ⟨⟨by decide, by decide⟩, by decide, by decide⟩ (by omega) hx4.ce rfl rfl rfl (Nat.le_of_ble_eq_true rfl) rfl (c_X13_repeats (x := (x)) (y := (y)) (z := (z)) h0 hx4 hv) (fun E w1 h => by obtain ⟨_, _, _, e, _⟩ := h; cases e) (fun v14 w15 h16 => ?_)
  rcases h16 with ⟨th6, g7, r8, ho9, hf9, hx10, ht11, hv12, hr13⟩
  · cases ho9
    by_cases hc17 : spF 7 x.toInt y.toInt z.toInt S = 0
    · refine z_callR (As := [.int (r8)]) (rest := []) (b := b) (ci := 12) (v := some (.int (r8))) (R2 := zR 1 0) dX13_repeat_12 kV_RX13_75 rfl ⟨⟨by decide, by decide⟩, by decide, by decide⟩ (by omega) hx10.ce rfl rfl rfl (Nat.le_of_ble_eq_true rfl) rfl (c_X13_ends_y (th := nI 0) (ch := nI 0) (S := S) (Hs := Hs) h0 (by have q9 := hx10; rw [ht11, if_pos hc17] at q9; exact q9) hp hvb) (fun w18 pw18 => ?_)
      obtain ⟨hf19, g20, hx21, hp22⟩ := pw18
      rw [if_pos hc17] at hv12
      refine z_iret dX13_repeat_15 rfl (by decide) (by decide) ?_
      refine ⟨_, rfl, ((hf2.tr hf9).tr hf19), ?_, fun _ => hr13 hc17⟩
      rw [hc17, if_pos rfl, if_pos rfl]
      exact ⟨_, _, _, _, _, _, _, _, _, _, _, _, _, hx21, hv12, hp22, hsn, htx, hou, hep⟩
    · refine z_callR (As := [.int (r8)]) (rest := []) (b := b) (ci := 12) (v := some (.int (nI (0)))) (R2 := zR 1 0) dX13_repeat_12 kV_RX13_75 rfl ⟨⟨by decide, by decide⟩, by decide, by decide⟩ (by omega) hx10.ce rfl rfl rfl (Nat.le_of_ble_eq_true rfl) rfl (c_X13_ends_x (th := nI 0) (t := plc 7 (spF 7 x.toInt y.toInt z.toInt S)) h0 (by have q9 := hx10; rw [ht11, if_neg hc17] at q9; exact q9) (plc_ne hc17).1 (plc_ne hc17).2) (fun w23 pw23 => ?_)
      obtain ⟨hf24, g25, hx26, he27⟩ := pw23
      refine z_iret dX13_repeat_15 rfl (by decide) (by decide) ?_
      refine ⟨_, rfl, ((hf2.tr hf9).tr hf24), ?_, fun q9 => absurd q9 hc17⟩
      rw [if_neg hc17, if_neg hc17]
      exact ⟨_, _, _, _, _, _, _, _, _, _, _, _, _, hx26, (hvb.congr he27), hp, hsn, htx, hou, hep⟩
set_option maxRecDepth 100000 in
set_option maxHeartbeats 4000000 in
theorem c_X13_paste {g : zGT} {w : zW} {b : Nat} {S : zSt} {Hs : List zSt} {Sn : Option zSt} {I O : List Nat} {ep fc : Int32} {t : Nat} {x : Int32} (h0 : zG0 g) (hq : Mq g w b (S) (Hs) (Sn) (I) (O) (ep) (fc) (t)) : zCt g mX13_paste (zR 3 0) [.ref (za g b), .int (x)] w (fun o w' => ∃ r, o = .inl (some (.int r)) ∧ zFr w w' b (b + 11) ∧ Mq g w' b (if spF 8 x.toInt 0 0 S = 0 then spS 8 x.toInt 0 0 S else S) (if spF 8 x.toInt 0 0 S = 0 then (S :: Hs).take 8 else Hs) (Sn) (I) (O) (ep) (fc) (plc 8 (spF 8 x.toInt 0 0 S)) ∧ (spF 8 x.toInt 0 0 S = 0 → r = nI (spA 8 x.toInt 0 0 S))) := by
  obtain ⟨po, en, kn, wr, dg, fv, fb, fs, fp, fh, ft, fl, fi, h, hv, hp, hsn, htx, hou, hep⟩ := hq
  have hb := h.1
  have hl := hv.len
  refine zCt_of (by decide +kernel) h0 [(0, .ref (za g b)), (1, .int (x))] rfl (Nat.le_of_ble_eq_true rfl) ?_
  refine z_aload_n dX13_paste_0 rfl ?_
  refine z_callR (As := []) (rest := []) (b := b) (ci := 12) (v := none) (R2 := zR 1 0) dX13_paste_1 kV_RX13_68 rfl ⟨⟨by decide, by decide⟩, by decide, by decide⟩ (by omega) h.ce rfl rfl rfl (Nat.le_of_ble_eq_true rfl) rfl (c_X13_begins h0 h) (fun w1 pw1 => ?_)
  obtain ⟨hf2, g3, hx4, he5⟩ := pw1
  have hvb := hv.congr he5
  refine z_aload_n dX13_paste_4 rfl ?_
  refine z_aload_n dX13_paste_5 rfl ?_
  refine z_iload_n dX13_paste_6 rfl ?_
  refine z_callV (As := [.int (x)]) (rest := [.ref (za g b)]) (b := b) (ci := 12) (R2 := zR 2 0) dX13_paste_7 kV_RX13_115 rfl ⟨⟨by decide, by decide⟩, by decide, by decide⟩ (by omega) hx4.ce rfl rfl rfl (Nat.le_of_ble_eq_true rfl) rfl (c_X13_pastes (x := (x)) h0 hx4 hv) (fun E w1 h => by obtain ⟨_, _, _, e, _⟩ := h; cases e) (fun v14 w15 h16 => ?_)
  rcases h16 with ⟨th6, g7, r8, ho9, hf9, hx10, ht11, hv12, hr13⟩
  · cases ho9
    by_cases hc17 : spF 8 x.toInt 0 0 S = 0
    · refine z_callR (As := [.int (r8)]) (rest := []) (b := b) (ci := 12) (v := some (.int (r8))) (R2 := zR 1 0) dX13_paste_10 kV_RX13_75 rfl ⟨⟨by decide, by decide⟩, by decide, by decide⟩ (by omega) hx10.ce rfl rfl rfl (Nat.le_of_ble_eq_true rfl) rfl (c_X13_ends_y (th := nI 0) (ch := nI 0) (S := S) (Hs := Hs) h0 (by have q9 := hx10; rw [ht11, if_pos hc17] at q9; exact q9) hp hvb) (fun w18 pw18 => ?_)
      obtain ⟨hf19, g20, hx21, hp22⟩ := pw18
      rw [if_pos hc17] at hv12
      refine z_iret dX13_paste_13 rfl (by decide) (by decide) ?_
      refine ⟨_, rfl, ((hf2.tr hf9).tr hf19), ?_, fun _ => hr13 hc17⟩
      rw [hc17, if_pos rfl, if_pos rfl]
      exact ⟨_, _, _, _, _, _, _, _, _, _, _, _, _, hx21, hv12, hp22, hsn, htx, hou, hep⟩
    · refine z_callR (As := [.int (r8)]) (rest := []) (b := b) (ci := 12) (v := some (.int (nI (0)))) (R2 := zR 1 0) dX13_paste_10 kV_RX13_75 rfl ⟨⟨by decide, by decide⟩, by decide, by decide⟩ (by omega) hx10.ce rfl rfl rfl (Nat.le_of_ble_eq_true rfl) rfl (c_X13_ends_x (th := nI 0) (t := plc 8 (spF 8 x.toInt 0 0 S)) h0 (by have q9 := hx10; rw [ht11, if_neg hc17] at q9; exact q9) (plc_ne hc17).1 (plc_ne hc17).2) (fun w23 pw23 => ?_)
      obtain ⟨hf24, g25, hx26, he27⟩ := pw23
      refine z_iret dX13_paste_13 rfl (by decide) (by decide) ?_
      refine ⟨_, rfl, ((hf2.tr hf9).tr hf24), ?_, fun q9 => absurd q9 hc17⟩
      rw [if_neg hc17, if_neg hc17]
      exact ⟨_, _, _, _, _, _, _, _, _, _, _, _, _, hx26, (hvb.congr he27), hp, hsn, htx, hou, hep⟩
set_option maxRecDepth 100000 in
set_option maxHeartbeats 4000000 in
theorem c_X13_addMarker {g : zGT} {w : zW} {b : Nat} {S : zSt} {Hs : List zSt} {Sn : Option zSt} {I O : List Nat} {ep fc : Int32} {t : Nat} {x : Int32} (h0 : zG0 g) (hq : Mq g w b (S) (Hs) (Sn) (I) (O) (ep) (fc) (t)) : zCt g mX13_addMarker (zR 3 0) [.ref (za g b), .int (x)] w (fun o w' => ∃ r, o = .inl (some (.int r)) ∧ zFr w w' b (b + 11) ∧ Mq g w' b (if spF 9 x.toInt 0 0 S = 0 then spS 9 x.toInt 0 0 S else S) (if spF 9 x.toInt 0 0 S = 0 then (S :: Hs).take 8 else Hs) (Sn) (I) (O) (ep) (fc) (plc 9 (spF 9 x.toInt 0 0 S)) ∧ (spF 9 x.toInt 0 0 S = 0 → r = nI (spA 9 x.toInt 0 0 S))) := by
  obtain ⟨po, en, kn, wr, dg, fv, fb, fs, fp, fh, ft, fl, fi, h, hv, hp, hsn, htx, hou, hep⟩ := hq
  have hb := h.1
  have hl := hv.len
  refine zCt_of (by decide +kernel) h0 [(0, .ref (za g b)), (1, .int (x))] rfl (Nat.le_of_ble_eq_true rfl) ?_
  refine z_aload_n dX13_addMarker_0 rfl ?_
  refine z_callR (As := []) (rest := []) (b := b) (ci := 12) (v := none) (R2 := zR 1 0) dX13_addMarker_1 kV_RX13_68 rfl ⟨⟨by decide, by decide⟩, by decide, by decide⟩ (by omega) h.ce rfl rfl rfl (Nat.le_of_ble_eq_true rfl) rfl (c_X13_begins h0 h) (fun w1 pw1 => ?_)
  obtain ⟨hf2, g3, hx4, he5⟩ := pw1
  have hvb := hv.congr he5
  refine z_aload_n dX13_addMarker_4 rfl ?_
  refine z_aload_n dX13_addMarker_5 rfl ?_
  refine z_iload_n dX13_addMarker_6 rfl ?_
  refine z_callV (As := [.int (x)]) (rest := [.ref (za g b)]) (b := b) (ci := 12) (R2 := zR 1 0) dX13_addMarker_7 kV_RX13_118 rfl ⟨⟨by decide, by decide⟩, by decide, by decide⟩ (by omega) hx4.ce rfl rfl rfl (Nat.le_of_ble_eq_true rfl) rfl (c_X13_marks (x := (x)) h0 hx4 hv) (fun E w1 h => by obtain ⟨_, _, _, e, _⟩ := h; cases e) (fun v14 w15 h16 => ?_)
  rcases h16 with ⟨th6, g7, r8, ho9, hf9, hx10, ht11, hv12, hr13⟩
  · cases ho9
    by_cases hc17 : spF 9 x.toInt 0 0 S = 0
    · refine z_callR (As := [.int (r8)]) (rest := []) (b := b) (ci := 12) (v := some (.int (r8))) (R2 := zR 1 0) dX13_addMarker_10 kV_RX13_75 rfl ⟨⟨by decide, by decide⟩, by decide, by decide⟩ (by omega) hx10.ce rfl rfl rfl (Nat.le_of_ble_eq_true rfl) rfl (c_X13_ends_y (th := nI 0) (ch := nI 0) (S := S) (Hs := Hs) h0 (by have q9 := hx10; rw [ht11, if_pos hc17] at q9; exact q9) hp hvb) (fun w18 pw18 => ?_)
      obtain ⟨hf19, g20, hx21, hp22⟩ := pw18
      rw [if_pos hc17] at hv12
      have hbit := spA_bit (i := 9) (x := x.toInt) (y := 0) (z := 0) (S := S) (by decide)
      refine z_eq (st' := [.int (nI (spA 9 x.toInt 0 0 S))]) rfl (by rw [hr13 hc17]; rfl) rfl ?_
      refine z_iconst (v := nI 1) dX13_addMarker_13 rfl ?_
      refine z_icmp_ne_n (a := spA 9 x.toInt 0 0 S) (b := 1) (tgt := 21) dX13_addMarker_14 (by decide) (by omega) (by omega) (fun h_14_23 => ?_) (fun h_14_23 => ?_)
      · refine z_iconst (v := nI 0) dX13_addMarker_21 rfl ?_
        refine z_zret (ty := .boolean) dX13_addMarker_22 rfl (by decide) (by decide) rfl ?_
        refine ⟨_, rfl, ((hf2.tr hf9).tr hf19), ?_, fun _ => by have q9 := spA_bit (i := 9) (x := x.toInt) (y := 0) (z := 0) (S := S) (by decide); congr 1; omega⟩
        rw [hc17, if_pos rfl, if_pos rfl]
        exact ⟨_, _, _, _, _, _, _, _, _, _, _, _, _, hx21, hv12, hp22, hsn, htx, hou, hep⟩
      · refine z_iconst (v := nI 1) dX13_addMarker_17 rfl ?_
        refine z_goto (tgt := 22) dX13_addMarker_18 (by decide) ?_
        refine z_zret (ty := .boolean) dX13_addMarker_22 rfl (by decide) (by decide) rfl ?_
        refine ⟨_, rfl, ((hf2.tr hf9).tr hf19), ?_, fun _ => by have q9 := spA_bit (i := 9) (x := x.toInt) (y := 0) (z := 0) (S := S) (by decide); congr 1; omega⟩
        rw [hc17, if_pos rfl, if_pos rfl]
        exact ⟨_, _, _, _, _, _, _, _, _, _, _, _, _, hx21, hv12, hp22, hsn, htx, hou, hep⟩
    · refine z_callR (As := [.int (r8)]) (rest := []) (b := b) (ci := 12) (v := some (.int (nI (0)))) (R2 := zR 1 0) dX13_addMarker_10 kV_RX13_75 rfl ⟨⟨by decide, by decide⟩, by decide, by decide⟩ (by omega) hx10.ce rfl rfl rfl (Nat.le_of_ble_eq_true rfl) rfl (c_X13_ends_x (th := nI 0) (t := plc 9 (spF 9 x.toInt 0 0 S)) h0 (by have q9 := hx10; rw [ht11, if_neg hc17] at q9; exact q9) (plc_ne hc17).1 (plc_ne hc17).2) (fun w24 pw24 => ?_)
      obtain ⟨hf25, g26, hx27, he28⟩ := pw24
      refine z_iconst (v := nI 1) dX13_addMarker_13 rfl ?_
      refine z_icmp_ne_n (a := 0) (b := 1) (tgt := 21) dX13_addMarker_14 (by decide) (by omega) (by omega) (fun h_14_29 => ?_) (fun h_14_29 => ?_)
      · refine z_iconst (v := nI 0) dX13_addMarker_21 rfl ?_
        refine z_zret (ty := .boolean) dX13_addMarker_22 rfl (by decide) (by decide) rfl ?_
        refine ⟨_, rfl, ((hf2.tr hf9).tr hf25), ?_, fun q9 => absurd q9 hc17⟩
        rw [if_neg hc17, if_neg hc17]
        exact ⟨_, _, _, _, _, _, _, _, _, _, _, _, _, hx27, (hvb.congr he28), hp, hsn, htx, hou, hep⟩
      · exact absurd h_14_29 (by decide)
set_option maxRecDepth 100000 in
set_option maxHeartbeats 4000000 in
theorem c_X13_removeMarker {g : zGT} {w : zW} {b : Nat} {S : zSt} {Hs : List zSt} {Sn : Option zSt} {I O : List Nat} {ep fc : Int32} {t : Nat} {x : Int32} (h0 : zG0 g) (hq : Mq g w b (S) (Hs) (Sn) (I) (O) (ep) (fc) (t)) : zCt g mX13_removeMarker (zR 3 0) [.ref (za g b), .int (x)] w (fun o w' => ∃ r, o = .inl (some (.int r)) ∧ zFr w w' b (b + 11) ∧ Mq g w' b (if spF 10 x.toInt 0 0 S = 0 then spS 10 x.toInt 0 0 S else S) (if spF 10 x.toInt 0 0 S = 0 then (S :: Hs).take 8 else Hs) (Sn) (I) (O) (ep) (fc) (plc 10 (spF 10 x.toInt 0 0 S)) ∧ (spF 10 x.toInt 0 0 S = 0 → r = nI (spA 10 x.toInt 0 0 S))) := by
  obtain ⟨po, en, kn, wr, dg, fv, fb, fs, fp, fh, ft, fl, fi, h, hv, hp, hsn, htx, hou, hep⟩ := hq
  have hb := h.1
  have hl := hv.len
  refine zCt_of (by decide +kernel) h0 [(0, .ref (za g b)), (1, .int (x))] rfl (Nat.le_of_ble_eq_true rfl) ?_
  refine z_aload_n dX13_removeMarker_0 rfl ?_
  refine z_callR (As := []) (rest := []) (b := b) (ci := 12) (v := none) (R2 := zR 1 0) dX13_removeMarker_1 kV_RX13_68 rfl ⟨⟨by decide, by decide⟩, by decide, by decide⟩ (by omega) h.ce rfl rfl rfl (Nat.le_of_ble_eq_true rfl) rfl (c_X13_begins h0 h) (fun w1 pw1 => ?_)
  obtain ⟨hf2, g3, hx4, he5⟩ := pw1
  have hvb := hv.congr he5
  refine z_aload_n dX13_removeMarker_4 rfl ?_
  refine z_aload_n dX13_removeMarker_5 rfl ?_
  refine z_iload_n dX13_removeMarker_6 rfl ?_
  refine z_callV (As := [.int (x)]) (rest := [.ref (za g b)]) (b := b) (ci := 12) (R2 := zR 1 0) dX13_removeMarker_7 kV_RX13_121 rfl ⟨⟨by decide, by decide⟩, by decide, by decide⟩ (by omega) hx4.ce rfl rfl rfl (Nat.le_of_ble_eq_true rfl) rfl (c_X13_unmarks (x := (x)) h0 hx4 hv) (fun E w1 h => by obtain ⟨_, _, _, e, _⟩ := h; cases e) (fun v14 w15 h16 => ?_)
  rcases h16 with ⟨th6, g7, r8, ho9, hf9, hx10, ht11, hv12, hr13⟩
  · cases ho9
    by_cases hc17 : spF 10 x.toInt 0 0 S = 0
    · refine z_callR (As := [.int (r8)]) (rest := []) (b := b) (ci := 12) (v := some (.int (r8))) (R2 := zR 1 0) dX13_removeMarker_10 kV_RX13_75 rfl ⟨⟨by decide, by decide⟩, by decide, by decide⟩ (by omega) hx10.ce rfl rfl rfl (Nat.le_of_ble_eq_true rfl) rfl (c_X13_ends_y (th := nI 0) (ch := nI 0) (S := S) (Hs := Hs) h0 (by have q9 := hx10; rw [ht11, if_pos hc17] at q9; exact q9) hp hvb) (fun w18 pw18 => ?_)
      obtain ⟨hf19, g20, hx21, hp22⟩ := pw18
      rw [if_pos hc17] at hv12
      have hbit := spA_bit (i := 10) (x := x.toInt) (y := 0) (z := 0) (S := S) (by decide)
      refine z_eq (st' := [.int (nI (spA 10 x.toInt 0 0 S))]) rfl (by rw [hr13 hc17]; rfl) rfl ?_
      refine z_iconst (v := nI 1) dX13_removeMarker_13 rfl ?_
      refine z_icmp_ne_n (a := spA 10 x.toInt 0 0 S) (b := 1) (tgt := 21) dX13_removeMarker_14 (by decide) (by omega) (by omega) (fun h_14_23 => ?_) (fun h_14_23 => ?_)
      · refine z_iconst (v := nI 0) dX13_removeMarker_21 rfl ?_
        refine z_zret (ty := .boolean) dX13_removeMarker_22 rfl (by decide) (by decide) rfl ?_
        refine ⟨_, rfl, ((hf2.tr hf9).tr hf19), ?_, fun _ => by have q9 := spA_bit (i := 10) (x := x.toInt) (y := 0) (z := 0) (S := S) (by decide); congr 1; omega⟩
        rw [hc17, if_pos rfl, if_pos rfl]
        exact ⟨_, _, _, _, _, _, _, _, _, _, _, _, _, hx21, hv12, hp22, hsn, htx, hou, hep⟩
      · refine z_iconst (v := nI 1) dX13_removeMarker_17 rfl ?_
        refine z_goto (tgt := 22) dX13_removeMarker_18 (by decide) ?_
        refine z_zret (ty := .boolean) dX13_removeMarker_22 rfl (by decide) (by decide) rfl ?_
        refine ⟨_, rfl, ((hf2.tr hf9).tr hf19), ?_, fun _ => by have q9 := spA_bit (i := 10) (x := x.toInt) (y := 0) (z := 0) (S := S) (by decide); congr 1; omega⟩
        rw [hc17, if_pos rfl, if_pos rfl]
        exact ⟨_, _, _, _, _, _, _, _, _, _, _, _, _, hx21, hv12, hp22, hsn, htx, hou, hep⟩
    · refine z_callR (As := [.int (r8)]) (rest := []) (b := b) (ci := 12) (v := some (.int (nI (0)))) (R2 := zR 1 0) dX13_removeMarker_10 kV_RX13_75 rfl ⟨⟨by decide, by decide⟩, by decide, by decide⟩ (by omega) hx10.ce rfl rfl rfl (Nat.le_of_ble_eq_true rfl) rfl (c_X13_ends_x (th := nI 0) (t := plc 10 (spF 10 x.toInt 0 0 S)) h0 (by have q9 := hx10; rw [ht11, if_neg hc17] at q9; exact q9) (plc_ne hc17).1 (plc_ne hc17).2) (fun w24 pw24 => ?_)
      obtain ⟨hf25, g26, hx27, he28⟩ := pw24
      refine z_iconst (v := nI 1) dX13_removeMarker_13 rfl ?_
      refine z_icmp_ne_n (a := 0) (b := 1) (tgt := 21) dX13_removeMarker_14 (by decide) (by omega) (by omega) (fun h_14_29 => ?_) (fun h_14_29 => ?_)
      · refine z_iconst (v := nI 0) dX13_removeMarker_21 rfl ?_
        refine z_zret (ty := .boolean) dX13_removeMarker_22 rfl (by decide) (by decide) rfl ?_
        refine ⟨_, rfl, ((hf2.tr hf9).tr hf25), ?_, fun q9 => absurd q9 hc17⟩
        rw [if_neg hc17, if_neg hc17]
        exact ⟨_, _, _, _, _, _, _, _, _, _, _, _, _, hx27, (hvb.congr he28), hp, hsn, htx, hou, hep⟩
      · exact absurd h_14_29 (by decide)
