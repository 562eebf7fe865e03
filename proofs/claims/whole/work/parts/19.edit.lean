/-! the editing calls over whole states -/
abbrev zSt := List Nat × List Nat × List Nat × Nat
def Sx (g : zGT) (w : zW) (b : Nat) (S : zSt) : Prop := Sy g w b (gT S.1) S.1.length S.2.1 (gT S.2.2.1) S.2.2.1.length S.2.2.2 ∧ Mo S.2.1 S.1.length
theorem Sx.fr {g : zGT} {w w1 : zW} {b lo hi : Nat} {S : zSt} (h : Sx g w b S) (hf : zFr w w1 lo hi) (hd : b + 6 < lo ∨ hi ≤ b) : Sx g w1 b S := ⟨h.1.fr hf hd, h.2⟩
theorem Sx.cell {g : zGT} {w : zW} {b : Nat} {S : zSt} (h : Sx g w b S) : w b = zO 10 [.ref (za g (b + 1)), .ref (za g (b + 3)), .ref (za g (b + 5)), .int (nI S.2.2.2)] := h.1.2.1
theorem Sx.lt {g : zGT} {w : zW} {b : Nat} {S : zSt} (h : Sx g w b S) : b + 6 < zn g := h.1.1
theorem Sx.len {g : zGT} {w : zW} {b : Nat} {S : zSt} (h : Sx g w b S) : S.1.length ≤ 200 ∧ S.2.2.1.length ≤ 200 := ⟨h.1.2.2.1.len, h.1.2.2.2.2.len⟩
theorem Sx.mk {g : zGT} {w : zW} {b n tr : Nat} {F : Nat → Nat} {L C : List Nat} (h : Sy g w b F n L (gT C) C.length tr) (hm : Mo L n) : Sx g w b (ltab n F, L, C, tr) :=
  ⟨⟨h.1, h.2.1, h.2.2.1.tab, h.2.2.2⟩, by show Mo L (ltab n F).length; rw [ltab_len]; exact hm⟩
theorem Sx.mkC {g : zGT} {w : zW} {b c tr : Nat} {G : Nat → Nat} {T L : List Nat} (h : Sy g w b (gT T) T.length L G c tr) (hm : Mo L T.length) : Sx g w b (T, L, ltab c G, tr) :=
  ⟨⟨h.1, h.2.1, h.2.2.1, h.2.2.2.1, h.2.2.2.2.tab⟩, hm⟩
def spF (i : Nat) (x y z : Int) (S : zSt) : Nat := match i with
  | 0 => fPass x y z
  | 1 => fRest S.1.length x y
  | 2 => fIv S.1.length x y
  | 3 => fIv S.1.length x y
  | 4 => fIv S.1.length x y
  | 5 => fIv S.1.length x y
  | 6 => fMod S.1.length x y z
  | 7 => fRep S.1.length x y z
  | 8 => fPas S.1.length S.2.2.1.length x
  | 9 => fMark S.1.length S.2.1 x
  | _ => 0
def uidx (x : Int) (L : List Nat) : Int := lidx (fun j9 => decide ((j9 : Int) = x)) L 0
def spA (i : Nat) (x y z : Int) (S : zSt) : Nat := match i with
  | 0 => zcnt (fun k => decide (zext (gT S.1) S.1.length k < z.toNat)) x.toNat y.toNat
  | 1 => S.1.length + y.toNat
  | 2 => S.1.length - (y.toNat - x.toNat)
  | 3 => zcnt (fun k => decide (gT S.1 k ≠ 0)) x.toNat (y.toNat - x.toNat)
  | 4 => if ∀ k, k < y.toNat - x.toNat → gT S.1 (x.toNat + k) = gT S.1 (y.toNat - 1 - k) then 0 else 1
  | 5 => y.toNat - x.toNat
  | 6 => zcnt (fun k => decide (shf z (gT S.1 k) ≠ gT S.1 k)) x.toNat (y.toNat - x.toNat)
  | 7 => S.1.length + (y.toNat - x.toNat) * z.toNat
  | 8 => S.1.length + S.2.2.1.length
  | 9 => if x.toNat ∈ S.2.1 then 0 else 1
  | _ => if uidx x S.2.1 < 0 then 0 else 1
def spS (i : Nat) (x y z : Int) (S : zSt) : zSt := match i with
  | 0 => (ltab (max S.1.length (x.toNat + y.toNat)) (passF (gT S.1) S.1.length x.toNat y.toNat z.toNat), S.2.1, S.2.2.1, S.2.2.2 + 1)
  | 1 => (ltab (S.1.length + y.toNat) (insF (gT S.1) x.toNat y.toNat), S.2.1.map (insM x.toNat y.toNat), S.2.2)
  | 2 => (ltab (S.1.length - (y.toNat - x.toNat)) (cutF (gT S.1) x.toNat y.toNat), lclose x.toNat y.toNat S.2.1, S.2.2)
  | 3 => (ltab S.1.length (mutF (gT S.1) x.toNat y.toNat), S.2)
  | 4 => (ltab S.1.length (revF (gT S.1) x.toNat y.toNat), S.2)
  | 5 => (S.1, S.2.1, ltab (y.toNat - x.toNat) (fun k => gT S.1 (x.toNat + k)), S.2.2.2)
  | 6 => (ltab S.1.length (shfF (gT S.1) x.toNat y.toNat z), S.2)
  | 7 => (ltab (S.1.length + (y.toNat - x.toNat) * z.toNat) (repF (gT S.1) x.toNat y.toNat ((y.toNat - x.toNat) * z.toNat)), S.2.1.map (insM y.toNat ((y.toNat - x.toNat) * z.toNat)), S.2.2)
  | 8 => (ltab (S.1.length + S.2.2.1.length) (pasF (gT S.1) (gT S.2.2.1) S.2.2.1.length x.toNat), S.2.1.map (insM x.toNat S.2.2.1.length), S.2.2)
  | 9 => (S.1, if x.toNat ∈ S.2.1 then S.2.1 else lins x.toNat S.2.1, S.2.2)
  | _ => (S.1, if uidx x S.2.1 < 0 then S.2.1 else S.2.1.eraseIdx (uidx x S.2.1).toNat, S.2.2)
theorem fPass0 {t l v : Int} (h : fPass t l v = 0) : (0 ≤ t ∧ t < 200) ∧ (1 ≤ l ∧ l ≤ 50) ∧ (1 ≤ v ∧ v ≤ 9) ∧ t + l ≤ 200 := by unfold fPass at h; (repeat' split at h) <;> omega
theorem fRest0 {n : Nat} {t k : Int} (h : fRest n t k = 0) : (0 ≤ t ∧ t ≤ n) ∧ (1 ≤ k ∧ k ≤ 50) ∧ (n : Int) + k ≤ 200 := by unfold fRest at h; (repeat' split at h) <;> omega
theorem fIv0 {n : Nat} {p q : Int} (h : fIv n p q = 0) : 0 ≤ p ∧ p ≤ q ∧ q ≤ n := by unfold fIv at h; split at h <;> omega
theorem fMod0 {n : Nat} {p q s : Int} (h : fMod n p q s = 0) : (0 ≤ p ∧ p ≤ q ∧ q ≤ n) ∧ s ≠ 0 ∧ -8 ≤ s ∧ s ≤ 8 := by unfold fMod at h; (repeat' split at h) <;> omega
theorem fRep0 {n : Nat} {p q k : Int} (h : fRep n p q k = 0) : (0 ≤ p ∧ p ≤ q ∧ q ≤ n) ∧ (1 ≤ k ∧ k ≤ 9) ∧ (n : Int) + (q - p) * k ≤ 200 := by unfold fRep at h; (repeat' split at h) <;> omega
theorem fPas0 {n c : Nat} {t : Int} (h : fPas n c t = 0) : (0 ≤ t ∧ t ≤ n) ∧ c ≠ 0 ∧ n + c ≤ 200 := by unfold fPas at h; (repeat' split at h) <;> omega
theorem fMark0 {n : Nat} {L : List Nat} {t : Int} (h : fMark n L t = 0) : (0 ≤ t ∧ t ≤ n) ∧ (t.toNat ∉ L → L.length < 6) := by
  unfold fMark at h
  split at h
  · split at h
    · omega
    · rename_i h1 h2
      exact ⟨h1, fun q => by by_cases c : 6 ≤ L.length; exact absurd ⟨q, c⟩ h2; omega⟩
  · omega
theorem fRepN {p q k : Int} (h1 : 0 ≤ p) (h2 : p ≤ q) (h3 : 0 ≤ k) : (((q.toNat - p.toNat) * k.toNat : Nat) : Int) = (q - p) * k := by
  rw [Int.natCast_mul, show ((q.toNat - p.toNat : Nat) : Int) = q - p by omega, show ((k.toNat : Nat) : Int) = k by omega]
set_option maxRecDepth 100000 in
set_option maxHeartbeats 4000000 in
theorem c_X10_faultOf_0 {g : zGT} {w : zW} {b : Nat} {S : zSt} {x y z : Int32} (h0 : zG0 g) (h1 : zST g) (hS : Sx g w b S) : zCt g mX10_faultOf (zR 3 0) [.ref (za g b), .ref (ze g (10 + 0)), .int (x), .int (y), .int (z)] w (fun o w' => o = .inl (some (.ref (ze g (spF 0 x.toInt y.toInt z.toInt S)))) ∧ w' = w) := by
  have hb := hS.lt
  refine zCt_of (by decide +kernel) h0 [(0, .ref (za g b)), (1, .ref (ze g (10 + 0))), (2, .int (x)), (3, .int (y)), (4, .int (z))] rfl (Nat.le_of_ble_eq_true rfl) ?_
  refine z_gets dX10_faultOf_0 kG_RX10_42 rfl (h1.2.2.1.1) ?_
  refine z_aload_n dX10_faultOf_3 rfl ?_
  refine z_callUO (As := []) (rest := [.ref (ze g 31)]) (v := some (.int (nI (0)))) (R2 := zR 0 0) dX10_faultOf_4 kU_RX10_48 rfl ⟨⟨by decide, by decide⟩, by decide, by decide⟩ ((h1.2.1.1 0 (by decide)).2.1) rfl (Nat.le_of_ble_eq_true rfl) rfl (c_ord (i := 0) h0 h1 (by decide)) ?_
  refine z_tabI (a := 0) (v := .int (nI (1))) dX10_faultOf_7 (h1.2.2.1.2) (by omega) (by omega) (by rfl) ?_
  refine z_tableIn (off := 44) (tgt := 52) dX10_faultOf_8 (by decide) (by decide) rfl (by decide) ?_
  refine z_iload_n dX10_faultOf_52 rfl ?_
  refine z_iload_n dX10_faultOf_53 rfl ?_
  refine z_iload dX10_faultOf_54 rfl ?_
  refine z_callSE (As := [.int (x), .int (y), .int (z)]) (rest := []) (v := some (.ref (ze g (fPass x.toInt y.toInt z.toInt)))) (R2 := zR 0 0) dX10_faultOf_56 kS_RX10_54 rfl rfl ⟨⟨by decide, by decide⟩, by decide, by decide⟩ rfl (Nat.le_of_ble_eq_true rfl) rfl (c_X10_passFault h0 h1) ?_
  refine z_aret dX10_faultOf_59 rfl (by decide) (by decide) (Or.inl ⟨_, rfl⟩) (Or.inr ⟨_, rfl⟩) ?_
  exact ⟨rfl, rfl⟩
set_option maxRecDepth 100000 in
set_option maxHeartbeats 4000000 in
theorem c_X10_faultOf_1 {g : zGT} {w : zW} {b : Nat} {S : zSt} {x y z : Int32} (h0 : zG0 g) (h1 : zST g) (hS : Sx g w b S) : zCt g mX10_faultOf (zR 3 0) [.ref (za g b), .ref (ze g (10 + 1)), .int (x), .int (y), .int (z)] w (fun o w' => o = .inl (some (.ref (ze g (spF 1 x.toInt y.toInt z.toInt S)))) ∧ w' = w) := by
  have hb := hS.lt
  refine zCt_of (by decide +kernel) h0 [(0, .ref (za g b)), (1, .ref (ze g (10 + 1))), (2, .int (x)), (3, .int (y)), (4, .int (z))] rfl (Nat.le_of_ble_eq_true rfl) ?_
  refine z_gets dX10_faultOf_0 kG_RX10_42 rfl (h1.2.2.1.1) ?_
  refine z_aload_n dX10_faultOf_3 rfl ?_
  refine z_callUO (As := []) (rest := [.ref (ze g 31)]) (v := some (.int (nI (1)))) (R2 := zR 0 0) dX10_faultOf_4 kU_RX10_48 rfl ⟨⟨by decide, by decide⟩, by decide, by decide⟩ ((h1.2.1.1 1 (by decide)).2.1) rfl (Nat.le_of_ble_eq_true rfl) rfl (c_ord (i := 1) h0 h1 (by decide)) ?_
  refine z_tabI (a := 1) (v := .int (nI (2))) dX10_faultOf_7 (h1.2.2.1.2) (by omega) (by omega) (by rfl) ?_
  refine z_tableIn (off := 52) (tgt := 60) dX10_faultOf_8 (by decide) (by decide) rfl (by decide) ?_
  refine z_aload_n dX10_faultOf_60 rfl ?_
  refine z_iload_n dX10_faultOf_61 rfl ?_
  refine z_iload_n dX10_faultOf_62 rfl ?_
  refine z_callE (As := [.int (x), .int (y)]) (rest := []) (b := b) (ci := 10) (v := some (.ref (ze g (fRest S.1.length x.toInt y.toInt)))) (R2 := zR 2 0) dX10_faultOf_63 kV_RX10_58 rfl ⟨⟨by decide, by decide⟩, by decide, by decide⟩ (by omega) hS.cell rfl rfl rfl (Nat.le_of_ble_eq_true rfl) rfl (c_X10_restFault h0 h1 hS.1) ?_
  refine z_aret dX10_faultOf_66 rfl (by decide) (by decide) (Or.inl ⟨_, rfl⟩) (Or.inr ⟨_, rfl⟩) ?_
  exact ⟨rfl, rfl⟩
set_option maxRecDepth 100000 in
set_option maxHeartbeats 4000000 in
theorem c_X10_faultOf_2 {g : zGT} {w : zW} {b : Nat} {S : zSt} {x y z : Int32} (h0 : zG0 g) (h1 : zST g) (hS : Sx g w b S) : zCt g mX10_faultOf (zR 3 0) [.ref (za g b), .ref (ze g (10 + 2)), .int (x), .int (y), .int (z)] w (fun o w' => o = .inl (some (.ref (ze g (spF 2 x.toInt y.toInt z.toInt S)))) ∧ w' = w) := by
  have hb := hS.lt
  refine zCt_of (by decide +kernel) h0 [(0, .ref (za g b)), (1, .ref (ze g (10 + 2))), (2, .int (x)), (3, .int (y)), (4, .int (z))] rfl (Nat.le_of_ble_eq_true rfl) ?_
  refine z_gets dX10_faultOf_0 kG_RX10_42 rfl (h1.2.2.1.1) ?_
  refine z_aload_n dX10_faultOf_3 rfl ?_
  refine z_callUO (As := []) (rest := [.ref (ze g 31)]) (v := some (.int (nI (2)))) (R2 := zR 0 0) dX10_faultOf_4 kU_RX10_48 rfl ⟨⟨by decide, by decide⟩, by decide, by decide⟩ ((h1.2.1.1 2 (by decide)).2.1) rfl (Nat.le_of_ble_eq_true rfl) rfl (c_ord (i := 2) h0 h1 (by decide)) ?_
  refine z_tabI (a := 2) (v := .int (nI (8))) dX10_faultOf_7 (h1.2.2.1.2) (by omega) (by omega) (by rfl) ?_
  refine z_tableOut (tgt := 101) dX10_faultOf_8 (by decide) (by decide) ?_
  refine z_aload_n dX10_faultOf_101 rfl ?_
  refine z_iload_n dX10_faultOf_102 rfl ?_
  refine z_iload_n dX10_faultOf_103 rfl ?_
  refine z_callE (As := [.int (x), .int (y)]) (rest := []) (b := b) (ci := 10) (v := some (.ref (ze g (fIv S.1.length x.toInt y.toInt)))) (R2 := zR 2 0) dX10_faultOf_104 kV_RX10_81 rfl ⟨⟨by decide, by decide⟩, by decide, by decide⟩ (by omega) hS.cell rfl rfl rfl (Nat.le_of_ble_eq_true rfl) rfl (c_X10_intervalFault h0 h1 hS.1) ?_
  refine z_aret dX10_faultOf_107 rfl (by decide) (by decide) (Or.inl ⟨_, rfl⟩) (Or.inr ⟨_, rfl⟩) ?_
  exact ⟨rfl, rfl⟩
set_option maxRecDepth 100000 in
set_option maxHeartbeats 4000000 in
theorem c_X10_faultOf_3 {g : zGT} {w : zW} {b : Nat} {S : zSt} {x y z : Int32} (h0 : zG0 g) (h1 : zST g) (hS : Sx g w b S) : zCt g mX10_faultOf (zR 3 0) [.ref (za g b), .ref (ze g (10 + 3)), .int (x), .int (y), .int (z)] w (fun o w' => o = .inl (some (.ref (ze g (spF 3 x.toInt y.toInt z.toInt S)))) ∧ w' = w) := by
  have hb := hS.lt
  refine zCt_of (by decide +kernel) h0 [(0, .ref (za g b)), (1, .ref (ze g (10 + 3))), (2, .int (x)), (3, .int (y)), (4, .int (z))] rfl (Nat.le_of_ble_eq_true rfl) ?_
  refine z_gets dX10_faultOf_0 kG_RX10_42 rfl (h1.2.2.1.1) ?_
  refine z_aload_n dX10_faultOf_3 rfl ?_
  refine z_callUO (As := []) (rest := [.ref (ze g 31)]) (v := some (.int (nI (3)))) (R2 := zR 0 0) dX10_faultOf_4 kU_RX10_48 rfl ⟨⟨by decide, by decide⟩, by decide, by decide⟩ ((h1.2.1.1 3 (by decide)).2.1) rfl (Nat.le_of_ble_eq_true rfl) rfl (c_ord (i := 3) h0 h1 (by decide)) ?_
  refine z_tabI (a := 3) (v := .int (nI (9))) dX10_faultOf_7 (h1.2.2.1.2) (by omega) (by omega) (by rfl) ?_
  refine z_tableOut (tgt := 101) dX10_faultOf_8 (by decide) (by decide) ?_
  refine z_aload_n dX10_faultOf_101 rfl ?_
  refine z_iload_n dX10_faultOf_102 rfl ?_
  refine z_iload_n dX10_faultOf_103 rfl ?_
  refine z_callE (As := [.int (x), .int (y)]) (rest := []) (b := b) (ci := 10) (v := some (.ref (ze g (fIv S.1.length x.toInt y.toInt)))) (R2 := zR 2 0) dX10_faultOf_104 kV_RX10_81 rfl ⟨⟨by decide, by decide⟩, by decide, by decide⟩ (by omega) hS.cell rfl rfl rfl (Nat.le_of_ble_eq_true rfl) rfl (c_X10_intervalFault h0 h1 hS.1) ?_
  refine z_aret dX10_faultOf_107 rfl (by decide) (by decide) (Or.inl ⟨_, rfl⟩) (Or.inr ⟨_, rfl⟩) ?_
  exact ⟨rfl, rfl⟩
set_option maxRecDepth 100000 in
set_option maxHeartbeats 4000000 in
theorem c_X10_faultOf_4 {g : zGT} {w : zW} {b : Nat} {S : zSt} {x y z : Int32} (h0 : zG0 g) (h1 : zST g) (hS : Sx g w b S) : zCt g mX10_faultOf (zR 3 0) [.ref (za g b), .ref (ze g (10 + 4)), .int (x), .int (y), .int (z)] w (fun o w' => o = .inl (some (.ref (ze g (spF 4 x.toInt y.toInt z.toInt S)))) ∧ w' = w) := by
  have hb := hS.lt
  refine zCt_of (by decide +kernel) h0 [(0, .ref (za g b)), (1, .ref (ze g (10 + 4))), (2, .int (x)), (3, .int (y)), (4, .int (z))] rfl (Nat.le_of_ble_eq_true rfl) ?_
  refine z_gets dX10_faultOf_0 kG_RX10_42 rfl (h1.2.2.1.1) ?_
  refine z_aload_n dX10_faultOf_3 rfl ?_
  refine z_callUO (As := []) (rest := [.ref (ze g 31)]) (v := some (.int (nI (4)))) (R2 := zR 0 0) dX10_faultOf_4 kU_RX10_48 rfl ⟨⟨by decide, by decide⟩, by decide, by decide⟩ ((h1.2.1.1 4 (by decide)).2.1) rfl (Nat.le_of_ble_eq_true rfl) rfl (c_ord (i := 4) h0 h1 (by decide)) ?_
  refine z_tabI (a := 4) (v := .int (nI (10))) dX10_faultOf_7 (h1.2.2.1.2) (by omega) (by omega) (by rfl) ?_
  refine z_tableOut (tgt := 101) dX10_faultOf_8 (by decide) (by decide) ?_
  refine z_aload_n dX10_faultOf_101 rfl ?_
  refine z_iload_n dX10_faultOf_102 rfl ?_
  refine z_iload_n dX10_faultOf_103 rfl ?_
  refine z_callE (As := [.int (x), .int (y)]) (rest := []) (b := b) (ci := 10) (v := some (.ref (ze g (fIv S.1.length x.toInt y.toInt)))) (R2 := zR 2 0) dX10_faultOf_104 kV_RX10_81 rfl ⟨⟨by decide, by decide⟩, by decide, by decide⟩ (by omega) hS.cell rfl rfl rfl (Nat.le_of_ble_eq_true rfl) rfl (c_X10_intervalFault h0 h1 hS.1) ?_
  refine z_aret dX10_faultOf_107 rfl (by decide) (by decide) (Or.inl ⟨_, rfl⟩) (Or.inr ⟨_, rfl⟩) ?_
  exact ⟨rfl, rfl⟩
set_option maxRecDepth 100000 in
set_option maxHeartbeats 4000000 in
theorem c_X10_faultOf_5 {g : zGT} {w : zW} {b : Nat} {S : zSt} {x y z : Int32} (h0 : zG0 g) (h1 : zST g) (hS : Sx g w b S) : zCt g mX10_faultOf (zR 3 0) [.ref (za g b), .ref (ze g (10 + 5)), .int (x), .int (y), .int (z)] w (fun o w' => o = .inl (some (.ref (ze g (spF 5 x.toInt y.toInt z.toInt S)))) ∧ w' = w) := by
  have hb := hS.lt
  refine zCt_of (by decide +kernel) h0 [(0, .ref (za g b)), (1, .ref (ze g (10 + 5))), (2, .int (x)), (3, .int (y)), (4, .int (z))] rfl (Nat.le_of_ble_eq_true rfl) ?_
  refine z_gets dX10_faultOf_0 kG_RX10_42 rfl (h1.2.2.1.1) ?_
  refine z_aload_n dX10_faultOf_3 rfl ?_
  refine z_callUO (As := []) (rest := [.ref (ze g 31)]) (v := some (.int (nI (5)))) (R2 := zR 0 0) dX10_faultOf_4 kU_RX10_48 rfl ⟨⟨by decide, by decide⟩, by decide, by decide⟩ ((h1.2.1.1 5 (by decide)).2.1) rfl (Nat.le_of_ble_eq_true rfl) rfl (c_ord (i := 5) h0 h1 (by decide)) ?_
  refine z_tabI (a := 5) (v := .int (nI (11))) dX10_faultOf_7 (h1.2.2.1.2) (by omega) (by omega) (by rfl) ?_
  refine z_tableOut (tgt := 101) dX10_faultOf_8 (by decide) (by decide) ?_
  refine z_aload_n dX10_faultOf_101 rfl ?_
  refine z_iload_n dX10_faultOf_102 rfl ?_
  refine z_iload_n dX10_faultOf_103 rfl ?_
  refine z_callE (As := [.int (x), .int (y)]) (rest := []) (b := b) (ci := 10) (v := some (.ref (ze g (fIv S.1.length x.toInt y.toInt)))) (R2 := zR 2 0) dX10_faultOf_104 kV_RX10_81 rfl ⟨⟨by decide, by decide⟩, by decide, by decide⟩ (by omega) hS.cell rfl rfl rfl (Nat.le_of_ble_eq_true rfl) rfl (c_X10_intervalFault h0 h1 hS.1) ?_
  refine z_aret dX10_faultOf_107 rfl (by decide) (by decide) (Or.inl ⟨_, rfl⟩) (Or.inr ⟨_, rfl⟩) ?_
  exact ⟨rfl, rfl⟩
set_option maxRecDepth 100000 in
set_option maxHeartbeats 4000000 in
theorem c_X10_faultOf_6 {g : zGT} {w : zW} {b : Nat} {S : zSt} {x y z : Int32} (h0 : zG0 g) (h1 : zST g) (hS : Sx g w b S) : zCt g mX10_faultOf (zR 3 0) [.ref (za g b), .ref (ze g (10 + 6)), .int (x), .int (y), .int (z)] w (fun o w' => o = .inl (some (.ref (ze g (spF 6 x.toInt y.toInt z.toInt S)))) ∧ w' = w) := by
  have hb := hS.lt
  refine zCt_of (by decide +kernel) h0 [(0, .ref (za g b)), (1, .ref (ze g (10 + 6))), (2, .int (x)), (3, .int (y)), (4, .int (z))] rfl (Nat.le_of_ble_eq_true rfl) ?_
  refine z_gets dX10_faultOf_0 kG_RX10_42 rfl (h1.2.2.1.1) ?_
  refine z_aload_n dX10_faultOf_3 rfl ?_
  refine z_callUO (As := []) (rest := [.ref (ze g 31)]) (v := some (.int (nI (6)))) (R2 := zR 0 0) dX10_faultOf_4 kU_RX10_48 rfl ⟨⟨by decide, by decide⟩, by decide, by decide⟩ ((h1.2.1.1 6 (by decide)).2.1) rfl (Nat.le_of_ble_eq_true rfl) rfl (c_ord (i := 6) h0 h1 (by decide)) ?_
  refine z_tabI (a := 6) (v := .int (nI (3))) dX10_faultOf_7 (h1.2.2.1.2) (by omega) (by omega) (by rfl) ?_
  refine z_tableIn (off := 59) (tgt := 67) dX10_faultOf_8 (by decide) (by decide) rfl (by decide) ?_
  refine z_aload_n dX10_faultOf_67 rfl ?_
  refine z_iload_n dX10_faultOf_68 rfl ?_
  refine z_iload_n dX10_faultOf_69 rfl ?_
  refine z_iload dX10_faultOf_70 rfl ?_
  refine z_callE (As := [.int (x), .int (y), .int (z)]) (rest := []) (b := b) (ci := 10) (v := some (.ref (ze g (fMod S.1.length x.toInt y.toInt z.toInt)))) (R2 := zR 2 0) dX10_faultOf_72 kV_RX10_62 rfl ⟨⟨by decide, by decide⟩, by decide, by decide⟩ (by omega) hS.cell rfl rfl rfl (Nat.le_of_ble_eq_true rfl) rfl (c_X10_modulateFault h0 h1 hS.1) ?_
  refine z_aret dX10_faultOf_75 rfl (by decide) (by decide) (Or.inl ⟨_, rfl⟩) (Or.inr ⟨_, rfl⟩) ?_
  exact ⟨rfl, rfl⟩
set_option maxRecDepth 100000 in
set_option maxHeartbeats 4000000 in
theorem c_X10_faultOf_7 {g : zGT} {w : zW} {b : Nat} {S : zSt} {x y z : Int32} (h0 : zG0 g) (h1 : zST g) (hS : Sx g w b S) : zCt g mX10_faultOf (zR 3 0) [.ref (za g b), .ref (ze g (10 + 7)), .int (x), .int (y), .int (z)] w (fun o w' => o = .inl (some (.ref (ze g (spF 7 x.toInt y.toInt z.toInt S)))) ∧ w' = w) := by
  have hb := hS.lt
  refine zCt_of (by decide +kernel) h0 [(0, .ref (za g b)), (1, .ref (ze g (10 + 7))), (2, .int (x)), (3, .int (y)), (4, .int (z))] rfl (Nat.le_of_ble_eq_true rfl) ?_
  refine z_gets dX10_faultOf_0 kG_RX10_42 rfl (h1.2.2.1.1) ?_
  refine z_aload_n dX10_faultOf_3 rfl ?_
  refine z_callUO (As := []) (rest := [.ref (ze g 31)]) (v := some (.int (nI (7)))) (R2 := zR 0 0) dX10_faultOf_4 kU_RX10_48 rfl ⟨⟨by decide, by decide⟩, by decide, by decide⟩ ((h1.2.1.1 7 (by decide)).2.1) rfl (Nat.le_of_ble_eq_true rfl) rfl (c_ord (i := 7) h0 h1 (by decide)) ?_
  refine z_tabI (a := 7) (v := .int (nI (4))) dX10_faultOf_7 (h1.2.2.1.2) (by omega) (by omega) (by rfl) ?_
  refine z_tableIn (off := 68) (tgt := 76) dX10_faultOf_8 (by decide) (by decide) rfl (by decide) ?_
  refine z_aload_n dX10_faultOf_76 rfl ?_
  refine z_iload_n dX10_faultOf_77 rfl ?_
  refine z_iload_n dX10_faultOf_78 rfl ?_
  refine z_iload dX10_faultOf_79 rfl ?_
  refine z_callE (As := [.int (x), .int (y), .int (z)]) (rest := []) (b := b) (ci := 10) (v := some (.ref (ze g (fRep S.1.length x.toInt y.toInt z.toInt)))) (R2 := zR 2 0) dX10_faultOf_81 kV_RX10_65 rfl ⟨⟨by decide, by decide⟩, by decide, by decide⟩ (by omega) hS.cell rfl rfl rfl (Nat.le_of_ble_eq_true rfl) rfl (c_X10_repeatFault h0 h1 hS.1) ?_
  refine z_aret dX10_faultOf_84 rfl (by decide) (by decide) (Or.inl ⟨_, rfl⟩) (Or.inr ⟨_, rfl⟩) ?_
  exact ⟨rfl, rfl⟩
set_option maxRecDepth 100000 in
set_option maxHeartbeats 4000000 in
theorem c_X10_faultOf_8 {g : zGT} {w : zW} {b : Nat} {S : zSt} {x y z : Int32} (h0 : zG0 g) (h1 : zST g) (hS : Sx g w b S) : zCt g mX10_faultOf (zR 3 0) [.ref (za g b), .ref (ze g (10 + 8)), .int (x), .int (y), .int (z)] w (fun o w' => o = .inl (some (.ref (ze g (spF 8 x.toInt y.toInt z.toInt S)))) ∧ w' = w) := by
  have hb := hS.lt
  refine zCt_of (by decide +kernel) h0 [(0, .ref (za g b)), (1, .ref (ze g (10 + 8))), (2, .int (x)), (3, .int (y)), (4, .int (z))] rfl (Nat.le_of_ble_eq_true rfl) ?_
  refine z_gets dX10_faultOf_0 kG_RX10_42 rfl (h1.2.2.1.1) ?_
  refine z_aload_n dX10_faultOf_3 rfl ?_
  refine z_callUO (As := []) (rest := [.ref (ze g 31)]) (v := some (.int (nI (8)))) (R2 := zR 0 0) dX10_faultOf_4 kU_RX10_48 rfl ⟨⟨by decide, by decide⟩, by decide, by decide⟩ ((h1.2.1.1 8 (by decide)).2.1) rfl (Nat.le_of_ble_eq_true rfl) rfl (c_ord (i := 8) h0 h1 (by decide)) ?_
  refine z_tabI (a := 8) (v := .int (nI (5))) dX10_faultOf_7 (h1.2.2.1.2) (by omega) (by omega) (by rfl) ?_
  refine z_tableIn (off := 77) (tgt := 85) dX10_faultOf_8 (by decide) (by decide) rfl (by decide) ?_
  refine z_aload_n dX10_faultOf_85 rfl ?_
  refine z_iload_n dX10_faultOf_86 rfl ?_
  refine z_callE (As := [.int (x)]) (rest := []) (b := b) (ci := 10) (v := some (.ref (ze g (fPas S.1.length S.2.2.1.length x.toInt)))) (R2 := zR 2 0) dX10_faultOf_87 kV_RX10_68 rfl ⟨⟨by decide, by decide⟩, by decide, by decide⟩ (by omega) hS.cell rfl rfl rfl (Nat.le_of_ble_eq_true rfl) rfl (c_X10_pasteFault h0 h1 hS.1) ?_
  refine z_aret dX10_faultOf_90 rfl (by decide) (by decide) (Or.inl ⟨_, rfl⟩) (Or.inr ⟨_, rfl⟩) ?_
  exact ⟨rfl, rfl⟩
set_option maxRecDepth 100000 in
set_option maxHeartbeats 4000000 in
theorem c_X10_faultOf_9 {g : zGT} {w : zW} {b : Nat} {S : zSt} {x y z : Int32} (h0 : zG0 g) (h1 : zST g) (hS : Sx g w b S) : zCt g mX10_faultOf (zR 3 0) [.ref (za g b), .ref (ze g (10 + 9)), .int (x), .int (y), .int (z)] w (fun o w' => o = .inl (some (.ref (ze g (spF 9 x.toInt y.toInt z.toInt S)))) ∧ w' = w) := by
  have hb := hS.lt
  refine zCt_of (by decide +kernel) h0 [(0, .ref (za g b)), (1, .ref (ze g (10 + 9))), (2, .int (x)), (3, .int (y)), (4, .int (z))] rfl (Nat.le_of_ble_eq_true rfl) ?_
  refine z_gets dX10_faultOf_0 kG_RX10_42 rfl (h1.2.2.1.1) ?_
  refine z_aload_n dX10_faultOf_3 rfl ?_
  refine z_callUO (As := []) (rest := [.ref (ze g 31)]) (v := some (.int (nI (9)))) (R2 := zR 0 0) dX10_faultOf_4 kU_RX10_48 rfl ⟨⟨by decide, by decide⟩, by decide, by decide⟩ ((h1.2.1.1 9 (by decide)).2.1) rfl (Nat.le_of_ble_eq_true rfl) rfl (c_ord (i := 9) h0 h1 (by decide)) ?_
  refine z_tabI (a := 9) (v := .int (nI (6))) dX10_faultOf_7 (h1.2.2.1.2) (by omega) (by omega) (by rfl) ?_
  refine z_tableIn (off := 83) (tgt := 91) dX10_faultOf_8 (by decide) (by decide) rfl (by decide) ?_
  refine z_aload_n dX10_faultOf_91 rfl ?_
  refine z_iload_n dX10_faultOf_92 rfl ?_
  refine z_callE (As := [.int (x)]) (rest := []) (b := b) (ci := 10) (v := some (.ref (ze g (fMark S.1.length S.2.1 x.toInt)))) (R2 := zR 2 0) dX10_faultOf_93 kV_RX10_72 rfl ⟨⟨by decide, by decide⟩, by decide, by decide⟩ (by omega) hS.cell rfl rfl rfl (Nat.le_of_ble_eq_true rfl) rfl (c_X10_markFault h0 h1 hS.1) ?_
  refine z_aret dX10_faultOf_96 rfl (by decide) (by decide) (Or.inl ⟨_, rfl⟩) (Or.inr ⟨_, rfl⟩) ?_
  exact ⟨rfl, rfl⟩
set_option maxRecDepth 100000 in
set_option maxHeartbeats 4000000 in
theorem c_X10_faultOf_10 {g : zGT} {w : zW} {b : Nat} {S : zSt} {x y z : Int32} (h0 : zG0 g) (h1 : zST g) (hS : Sx g w b S) : zCt g mX10_faultOf (zR 3 0) [.ref (za g b), .ref (ze g (10 + 10)), .int (x), .int (y), .int (z)] w (fun o w' => o = .inl (some (.ref (ze g (spF 10 x.toInt y.toInt z.toInt S)))) ∧ w' = w) := by
  have hb := hS.lt
  refine zCt_of (by decide +kernel) h0 [(0, .ref (za g b)), (1, .ref (ze g (10 + 10))), (2, .int (x)), (3, .int (y)), (4, .int (z))] rfl (Nat.le_of_ble_eq_true rfl) ?_
  refine z_gets dX10_faultOf_0 kG_RX10_42 rfl (h1.2.2.1.1) ?_
  refine z_aload_n dX10_faultOf_3 rfl ?_
  refine z_callUO (As := []) (rest := [.ref (ze g 31)]) (v := some (.int (nI (10)))) (R2 := zR 0 0) dX10_faultOf_4 kU_RX10_48 rfl ⟨⟨by decide, by decide⟩, by decide, by decide⟩ ((h1.2.1.1 10 (by decide)).2.1) rfl (Nat.le_of_ble_eq_true rfl) rfl (c_ord (i := 10) h0 h1 (by decide)) ?_
  refine z_tabI (a := 10) (v := .int (nI (7))) dX10_faultOf_7 (h1.2.2.1.2) (by omega) (by omega) (by rfl) ?_
  refine z_tableIn (off := 89) (tgt := 97) dX10_faultOf_8 (by decide) (by decide) rfl (by decide) ?_
  refine z_gets dX10_faultOf_97 kG_RX10_75 rfl (h1.fl (i := 0) (by decide)) ?_
  refine z_aret dX10_faultOf_100 rfl (by decide) (by decide) (Or.inl ⟨_, rfl⟩) (Or.inr ⟨_, rfl⟩) ?_
  exact ⟨rfl, rfl⟩
theorem c_X10_faultOf {g : zGT} {w : zW} {b i : Nat} {S : zSt} {x y z : Int32} (h0 : zG0 g) (h1 : zST g) (hS : Sx g w b S) (hi : i < 11) : zCt g mX10_faultOf (zR 3 0) [.ref (za g b), .ref (ze g (10 + i)), .int x, .int y, .int z] w (fun o w' => o = .inl (some (.ref (ze g (spF i x.toInt y.toInt z.toInt S)))) ∧ w' = w) := by
  rcases (show i = 0 ∨ i = 1 ∨ i = 2 ∨ i = 3 ∨ i = 4 ∨ i = 5 ∨ i = 6 ∨ i = 7 ∨ i = 8 ∨ i = 9 ∨ i = 10 by omega) with h | h | h | h | h | h | h | h | h | h | h <;> subst h
  · exact c_X10_faultOf_0 h0 h1 hS
  · exact c_X10_faultOf_1 h0 h1 hS
  · exact c_X10_faultOf_2 h0 h1 hS
  · exact c_X10_faultOf_3 h0 h1 hS
  · exact c_X10_faultOf_4 h0 h1 hS
  · exact c_X10_faultOf_5 h0 h1 hS
  · exact c_X10_faultOf_6 h0 h1 hS
  · exact c_X10_faultOf_7 h0 h1 hS
  · exact c_X10_faultOf_8 h0 h1 hS
  · exact c_X10_faultOf_9 h0 h1 hS
  · exact c_X10_faultOf_10 h0 h1 hS
set_option maxRecDepth 100000 in
set_option maxHeartbeats 4000000 in
theorem c_X10_carryOut_0 {g : zGT} {w : zW} {b : Nat} {S : zSt} {x y z : Int32} (h0 : zG0 g) (h1 : zST g) (hS : Sx g w b S) (hF : spF 0 x.toInt y.toInt z.toInt S = 0) : zCt g mX10_carryOut (zR 4 0) [.ref (za g b), .ref (ze g (10 + 0)), .int (x), .int (y), .int (z)] w (fun o w' => o = .inl (some (.int (nI (spA 0 x.toInt y.toInt z.toInt S)))) ∧ zFr w w' b (b + 7) ∧ Sx g w' b (spS 0 x.toInt y.toInt z.toInt S)) := by
  have hb := hS.lt
  have hlen := hS.len
  have hF0 := fPass0 hF
  refine zCt_of (by decide +kernel) h0 [(0, .ref (za g b)), (1, .ref (ze g (10 + 0))), (2, .int (x)), (3, .int (y)), (4, .int (z))] rfl (Nat.le_of_ble_eq_true rfl) ?_
  refine z_eq (lv' := [(0, .ref (za g b)), (1, .ref (ze g (10 + 0))), (2, .int (nI (x.toInt.toNat))), (3, .int (nI (y.toInt.toNat))), (4, .int (nI (z.toInt.toNat)))]) rfl rfl (by rw [← i_nat (x := x) (by omega), ← i_nat (x := y) (by omega), ← i_nat (x := z) (by omega)]) ?_
  refine z_gets dX10_carryOut_0 kG_RX10_42 rfl (h1.2.2.1.1) ?_
  refine z_aload_n dX10_carryOut_3 rfl ?_
  refine z_callUO (As := []) (rest := [.ref (ze g 31)]) (v := some (.int (nI (0)))) (R2 := zR 0 0) dX10_carryOut_4 kU_RX10_48 rfl ⟨⟨by decide, by decide⟩, by decide, by decide⟩ ((h1.2.1.1 0 (by decide)).2.1) rfl (Nat.le_of_ble_eq_true rfl) rfl (c_ord (i := 0) h0 h1 (by decide)) ?_
  refine z_tabI (a := 0) (v := .int (nI (1))) dX10_carryOut_7 (h1.2.2.1.2) (by omega) (by omega) (by rfl) ?_
  refine z_tableIn (off := 60) (tgt := 68) dX10_carryOut_8 (by decide) (by decide) rfl (by decide) ?_
  refine z_aload_n dX10_carryOut_68 rfl ?_
  refine z_iload_n dX10_carryOut_69 rfl ?_
  refine z_iload_n dX10_carryOut_70 rfl ?_
  refine z_iload dX10_carryOut_71 rfl ?_
  refine z_callR (As := [.int (nI (x.toInt.toNat)), .int (nI (y.toInt.toNat)), .int (nI (z.toInt.toNat))]) (rest := []) (b := b) (ci := 10) (v := some (.int (nI (spA 0 x.toInt y.toInt z.toInt S)))) (R2 := zR 1 0) dX10_carryOut_73 kV_RX10_118 rfl ⟨⟨by decide, by decide⟩, by decide, by decide⟩ (by omega) hS.cell rfl rfl rfl (Nat.le_of_ble_eq_true rfl) rfl ((zCt_mono (c_X10_letTrainPass (t := x.toInt.toNat) (l := y.toInt.toNat) (v := z.toInt.toNat) h0 h1 hS.1 (by omega) (by omega) (by omega)) (fun o w' h9 => (⟨h9.1, h9.2.1, Sx.mk h9.2.2 (hS.2.up (by omega))⟩ : o = .inl (some (.int (nI (spA 0 x.toInt y.toInt z.toInt S)))) ∧ zFr w w' b (b + 7) ∧ Sx g w' b (spS 0 x.toInt y.toInt z.toInt S))))) (fun w2 pw2 => ?_)
  obtain ⟨hf1, hS1⟩ := pw2
  refine z_iret dX10_carryOut_76 rfl (by decide) (by decide) ?_
  exact ⟨rfl, hf1, hS1⟩
set_option maxRecDepth 100000 in
set_option maxHeartbeats 4000000 in
theorem c_X10_carryOut_1 {g : zGT} {w : zW} {b : Nat} {S : zSt} {x y z : Int32} (h0 : zG0 g) (h1 : zST g) (hS : Sx g w b S) (hF : spF 1 x.toInt y.toInt z.toInt S = 0) : zCt g mX10_carryOut (zR 4 0) [.ref (za g b), .ref (ze g (10 + 1)), .int (x), .int (y), .int (z)] w (fun o w' => o = .inl (some (.int (nI (spA 1 x.toInt y.toInt z.toInt S)))) ∧ zFr w w' b (b + 7) ∧ Sx g w' b (spS 1 x.toInt y.toInt z.toInt S)) := by
  have hb := hS.lt
  have hlen := hS.len
  have hF0 := fRest0 hF
  refine zCt_of (by decide +kernel) h0 [(0, .ref (za g b)), (1, .ref (ze g (10 + 1))), (2, .int (x)), (3, .int (y)), (4, .int (z))] rfl (Nat.le_of_ble_eq_true rfl) ?_
  refine z_eq (lv' := [(0, .ref (za g b)), (1, .ref (ze g (10 + 1))), (2, .int (nI (x.toInt.toNat))), (3, .int (nI (y.toInt.toNat))), (4, .int (z))]) rfl rfl (by rw [← i_nat (x := x) (by omega), ← i_nat (x := y) (by omega)]) ?_
  refine z_gets dX10_carryOut_0 kG_RX10_42 rfl (h1.2.2.1.1) ?_
  refine z_aload_n dX10_carryOut_3 rfl ?_
  refine z_callUO (As := []) (rest := [.ref (ze g 31)]) (v := some (.int (nI (1)))) (R2 := zR 0 0) dX10_carryOut_4 kU_RX10_48 rfl ⟨⟨by decide, by decide⟩, by decide, by decide⟩ ((h1.2.1.1 1 (by decide)).2.1) rfl (Nat.le_of_ble_eq_true rfl) rfl (c_ord (i := 1) h0 h1 (by decide)) ?_
  refine z_tabI (a := 1) (v := .int (nI (2))) dX10_carryOut_7 (h1.2.2.1.2) (by omega) (by omega) (by rfl) ?_
  refine z_tableIn (off := 69) (tgt := 77) dX10_carryOut_8 (by decide) (by decide) rfl (by decide) ?_
  refine z_aload_n dX10_carryOut_77 rfl ?_
  refine z_iload_n dX10_carryOut_78 rfl ?_
  refine z_iload_n dX10_carryOut_79 rfl ?_
  refine z_callR (As := [.int (nI (x.toInt.toNat)), .int (nI (y.toInt.toNat))]) (rest := []) (b := b) (ci := 10) (v := some (.int (nI (spA 1 x.toInt y.toInt z.toInt S)))) (R2 := zR 2 0) dX10_carryOut_80 kV_RX10_122 rfl ⟨⟨by decide, by decide⟩, by decide, by decide⟩ (by omega) hS.cell rfl rfl rfl (Nat.le_of_ble_eq_true rfl) rfl ((zCt_mono (c_X10_openTicks (p := x.toInt.toNat) (t := y.toInt.toNat) h0 h1 hS.1 hS.2 (by omega) (by omega)) (fun o w' h9 => (⟨h9.1, h9.2.1, Sx.mk h9.2.2 (hS.2.map (fun a b9 h => by unfold insM; (repeat' split) <;> omega) (fun a h => by unfold insM; split <;> omega))⟩ : o = .inl (some (.int (nI (spA 1 x.toInt y.toInt z.toInt S)))) ∧ zFr w w' b (b + 7) ∧ Sx g w' b (spS 1 x.toInt y.toInt z.toInt S))))) (fun w2 pw2 => ?_)
  obtain ⟨hf1, hS1⟩ := pw2
  refine z_iret dX10_carryOut_83 rfl (by decide) (by decide) ?_
  exact ⟨rfl, hf1, hS1⟩
set_option maxRecDepth 100000 in
set_option maxHeartbeats 4000000 in
theorem c_X10_carryOut_2 {g : zGT} {w : zW} {b : Nat} {S : zSt} {x y z : Int32} (h0 : zG0 g) (h1 : zST g) (hS : Sx g w b S) (hF : spF 2 x.toInt y.toInt z.toInt S = 0) : zCt g mX10_carryOut (zR 4 0) [.ref (za g b), .ref (ze g (10 + 2)), .int (x), .int (y), .int (z)] w (fun o w' => o = .inl (some (.int (nI (spA 2 x.toInt y.toInt z.toInt S)))) ∧ zFr w w' b (b + 7) ∧ Sx g w' b (spS 2 x.toInt y.toInt z.toInt S)) := by
  have hb := hS.lt
  have hlen := hS.len
  have hF0 := fIv0 hF
  refine zCt_of (by decide +kernel) h0 [(0, .ref (za g b)), (1, .ref (ze g (10 + 2))), (2, .int (x)), (3, .int (y)), (4, .int (z))] rfl (Nat.le_of_ble_eq_true rfl) ?_
  refine z_eq (lv' := [(0, .ref (za g b)), (1, .ref (ze g (10 + 2))), (2, .int (nI (x.toInt.toNat))), (3, .int (nI (y.toInt.toNat))), (4, .int (z))]) rfl rfl (by rw [← i_nat (x := x) (by omega), ← i_nat (x := y) (by omega)]) ?_
  refine z_gets dX10_carryOut_0 kG_RX10_42 rfl (h1.2.2.1.1) ?_
  refine z_aload_n dX10_carryOut_3 rfl ?_
  refine z_callUO (As := []) (rest := [.ref (ze g 31)]) (v := some (.int (nI (2)))) (R2 := zR 0 0) dX10_carryOut_4 kU_RX10_48 rfl ⟨⟨by decide, by decide⟩, by decide, by decide⟩ ((h1.2.1.1 2 (by decide)).2.1) rfl (Nat.le_of_ble_eq_true rfl) rfl (c_ord (i := 2) h0 h1 (by decide)) ?_
  refine z_tabI (a := 2) (v := .int (nI (8))) dX10_carryOut_7 (h1.2.2.1.2) (by omega) (by omega) (by rfl) ?_
  refine z_tableIn (off := 76) (tgt := 84) dX10_carryOut_8 (by decide) (by decide) rfl (by decide) ?_
  refine z_aload_n dX10_carryOut_84 rfl ?_
  refine z_iload_n dX10_carryOut_85 rfl ?_
  refine z_iload_n dX10_carryOut_86 rfl ?_
  refine z_callR (As := [.int (nI (x.toInt.toNat)), .int (nI (y.toInt.toNat))]) (rest := []) (b := b) (ci := 10) (v := some (.int (nI (spA 2 x.toInt y.toInt z.toInt S)))) (R2 := zR 3 0) dX10_carryOut_87 kV_RX10_126 rfl ⟨⟨by decide, by decide⟩, by decide, by decide⟩ (by omega) hS.cell rfl rfl rfl (Nat.le_of_ble_eq_true rfl) rfl ((zCt_mono (c_X10_cutOut (p := x.toInt.toNat) (q := y.toInt.toNat) h0 h1 hS.1 hS.2 (by omega) (by omega)) (fun o w' h9 => (⟨h9.1, h9.2.1, Sx.mk h9.2.2 (hS.2.close (by omega) (by omega))⟩ : o = .inl (some (.int (nI (spA 2 x.toInt y.toInt z.toInt S)))) ∧ zFr w w' b (b + 7) ∧ Sx g w' b (spS 2 x.toInt y.toInt z.toInt S))))) (fun w2 pw2 => ?_)
  obtain ⟨hf1, hS1⟩ := pw2
  refine z_iret dX10_carryOut_90 rfl (by decide) (by decide) ?_
  exact ⟨rfl, hf1, hS1⟩
set_option maxRecDepth 100000 in
set_option maxHeartbeats 4000000 in
theorem c_X10_carryOut_3 {g : zGT} {w : zW} {b : Nat} {S : zSt} {x y z : Int32} (h0 : zG0 g) (h1 : zST g) (hS : Sx g w b S) (hF : spF 3 x.toInt y.toInt z.toInt S = 0) : zCt g mX10_carryOut (zR 4 0) [.ref (za g b), .ref (ze g (10 + 3)), .int (x), .int (y), .int (z)] w (fun o w' => o = .inl (some (.int (nI (spA 3 x.toInt y.toInt z.toInt S)))) ∧ zFr w w' b (b + 7) ∧ Sx g w' b (spS 3 x.toInt y.toInt z.toInt S)) := by
  have hb := hS.lt
  have hlen := hS.len
  have hF0 := fIv0 hF
  refine zCt_of (by decide +kernel) h0 [(0, .ref (za g b)), (1, .ref (ze g (10 + 3))), (2, .int (x)), (3, .int (y)), (4, .int (z))] rfl (Nat.le_of_ble_eq_true rfl) ?_
  refine z_eq (lv' := [(0, .ref (za g b)), (1, .ref (ze g (10 + 3))), (2, .int (nI (x.toInt.toNat))), (3, .int (nI (y.toInt.toNat))), (4, .int (z))]) rfl rfl (by rw [← i_nat (x := x) (by omega), ← i_nat (x := y) (by omega)]) ?_
  refine z_gets dX10_carryOut_0 kG_RX10_42 rfl (h1.2.2.1.1) ?_
  refine z_aload_n dX10_carryOut_3 rfl ?_
  refine z_callUO (As := []) (rest := [.ref (ze g 31)]) (v := some (.int (nI (3)))) (R2 := zR 0 0) dX10_carryOut_4 kU_RX10_48 rfl ⟨⟨by decide, by decide⟩, by decide, by decide⟩ ((h1.2.1.1 3 (by decide)).2.1) rfl (Nat.le_of_ble_eq_true rfl) rfl (c_ord (i := 3) h0 h1 (by decide)) ?_
  refine z_tabI (a := 3) (v := .int (nI (9))) dX10_carryOut_7 (h1.2.2.1.2) (by omega) (by omega) (by rfl) ?_
  refine z_tableIn (off := 83) (tgt := 91) dX10_carryOut_8 (by decide) (by decide) rfl (by decide) ?_
  refine z_aload_n dX10_carryOut_91 rfl ?_
  refine z_iload_n dX10_carryOut_92 rfl ?_
  refine z_iload_n dX10_carryOut_93 rfl ?_
  refine z_callR (As := [.int (nI (x.toInt.toNat)), .int (nI (y.toInt.toNat))]) (rest := []) (b := b) (ci := 10) (v := some (.int (nI (spA 3 x.toInt y.toInt z.toInt S)))) (R2 := zR 2 0) dX10_carryOut_94 kV_RX10_129 rfl ⟨⟨by decide, by decide⟩, by decide, by decide⟩ (by omega) hS.cell rfl rfl rfl (Nat.le_of_ble_eq_true rfl) rfl ((zCt_mono (c_X10_silence (p := x.toInt.toNat) (q := y.toInt.toNat) h0 h1 hS.1 (by omega) (by omega)) (fun o w' h9 => (⟨h9.1, h9.2.1, Sx.mk h9.2.2 hS.2⟩ : o = .inl (some (.int (nI (spA 3 x.toInt y.toInt z.toInt S)))) ∧ zFr w w' b (b + 7) ∧ Sx g w' b (spS 3 x.toInt y.toInt z.toInt S))))) (fun w2 pw2 => ?_)
  obtain ⟨hf1, hS1⟩ := pw2
  refine z_iret dX10_carryOut_97 rfl (by decide) (by decide) ?_
  exact ⟨rfl, hf1, hS1⟩
set_option maxRecDepth 100000 in
set_option maxHeartbeats 4000000 in
theorem c_X10_carryOut_4 {g : zGT} {w : zW} {b : Nat} {S : zSt} {x y z : Int32} (h0 : zG0 g) (h1 : zST g) (hS : Sx g w b S) (hF : spF 4 x.toInt y.toInt z.toInt S = 0) : zCt g mX10_carryOut (zR 4 0) [.ref (za g b), .ref (ze g (10 + 4)), .int (x), .int (y), .int (z)] w (fun o w' => o = .inl (some (.int (nI (spA 4 x.toInt y.toInt z.toInt S)))) ∧ zFr w w' b (b + 7) ∧ Sx g w' b (spS 4 x.toInt y.toInt z.toInt S)) := by
  have hb := hS.lt
  have hlen := hS.len
  have hF0 := fIv0 hF
  refine zCt_of (by decide +kernel) h0 [(0, .ref (za g b)), (1, .ref (ze g (10 + 4))), (2, .int (x)), (3, .int (y)), (4, .int (z))] rfl (Nat.le_of_ble_eq_true rfl) ?_
  refine z_eq (lv' := [(0, .ref (za g b)), (1, .ref (ze g (10 + 4))), (2, .int (nI (x.toInt.toNat))), (3, .int (nI (y.toInt.toNat))), (4, .int (z))]) rfl rfl (by rw [← i_nat (x := x) (by omega), ← i_nat (x := y) (by omega)]) ?_
  refine z_gets dX10_carryOut_0 kG_RX10_42 rfl (h1.2.2.1.1) ?_
  refine z_aload_n dX10_carryOut_3 rfl ?_
  refine z_callUO (As := []) (rest := [.ref (ze g 31)]) (v := some (.int (nI (4)))) (R2 := zR 0 0) dX10_carryOut_4 kU_RX10_48 rfl ⟨⟨by decide, by decide⟩, by decide, by decide⟩ ((h1.2.1.1 4 (by decide)).2.1) rfl (Nat.le_of_ble_eq_true rfl) rfl (c_ord (i := 4) h0 h1 (by decide)) ?_
  refine z_tabI (a := 4) (v := .int (nI (10))) dX10_carryOut_7 (h1.2.2.1.2) (by omega) (by omega) (by rfl) ?_
  refine z_tableIn (off := 90) (tgt := 98) dX10_carryOut_8 (by decide) (by decide) rfl (by decide) ?_
  refine z_aload_n dX10_carryOut_98 rfl ?_
  refine z_iload_n dX10_carryOut_99 rfl ?_
  refine z_iload_n dX10_carryOut_100 rfl ?_
  refine z_callR (As := [.int (nI (x.toInt.toNat)), .int (nI (y.toInt.toNat))]) (rest := []) (b := b) (ci := 10) (v := some (.int (nI (spA 4 x.toInt y.toInt z.toInt S)))) (R2 := zR 1 0) dX10_carryOut_101 kV_RX10_132 rfl ⟨⟨by decide, by decide⟩, by decide, by decide⟩ (by omega) hS.cell rfl rfl rfl (Nat.le_of_ble_eq_true rfl) rfl ((zCt_mono (c_X10_turnRound (p := x.toInt.toNat) (q := y.toInt.toNat) h0 h1 hS.1 (by omega) (by omega)) (fun o w' h9 => (⟨h9.1, h9.2.1, Sx.mk h9.2.2 hS.2⟩ : o = .inl (some (.int (nI (spA 4 x.toInt y.toInt z.toInt S)))) ∧ zFr w w' b (b + 7) ∧ Sx g w' b (spS 4 x.toInt y.toInt z.toInt S))))) (fun w2 pw2 => ?_)
  obtain ⟨hf1, hS1⟩ := pw2
  refine z_iret dX10_carryOut_104 rfl (by decide) (by decide) ?_
  exact ⟨rfl, hf1, hS1⟩
set_option maxRecDepth 100000 in
set_option maxHeartbeats 4000000 in
theorem c_X10_carryOut_5 {g : zGT} {w : zW} {b : Nat} {S : zSt} {x y z : Int32} (h0 : zG0 g) (h1 : zST g) (hS : Sx g w b S) (hF : spF 5 x.toInt y.toInt z.toInt S = 0) : zCt g mX10_carryOut (zR 4 0) [.ref (za g b), .ref (ze g (10 + 5)), .int (x), .int (y), .int (z)] w (fun o w' => o = .inl (some (.int (nI (spA 5 x.toInt y.toInt z.toInt S)))) ∧ zFr w w' b (b + 7) ∧ Sx g w' b (spS 5 x.toInt y.toInt z.toInt S)) := by
  have hb := hS.lt
  have hlen := hS.len
  have hF0 := fIv0 hF
  refine zCt_of (by decide +kernel) h0 [(0, .ref (za g b)), (1, .ref (ze g (10 + 5))), (2, .int (x)), (3, .int (y)), (4, .int (z))] rfl (Nat.le_of_ble_eq_true rfl) ?_
  refine z_eq (lv' := [(0, .ref (za g b)), (1, .ref (ze g (10 + 5))), (2, .int (nI (x.toInt.toNat))), (3, .int (nI (y.toInt.toNat))), (4, .int (z))]) rfl rfl (by rw [← i_nat (x := x) (by omega), ← i_nat (x := y) (by omega)]) ?_
  refine z_gets dX10_carryOut_0 kG_RX10_42 rfl (h1.2.2.1.1) ?_
  refine z_aload_n dX10_carryOut_3 rfl ?_
  refine z_callUO (As := []) (rest := [.ref (ze g 31)]) (v := some (.int (nI (5)))) (R2 := zR 0 0) dX10_carryOut_4 kU_RX10_48 rfl ⟨⟨by decide, by decide⟩, by decide, by decide⟩ ((h1.2.1.1 5 (by decide)).2.1) rfl (Nat.le_of_ble_eq_true rfl) rfl (c_ord (i := 5) h0 h1 (by decide)) ?_
  refine z_tabI (a := 5) (v := .int (nI (11))) dX10_carryOut_7 (h1.2.2.1.2) (by omega) (by omega) (by rfl) ?_
  refine z_tableIn (off := 97) (tgt := 105) dX10_carryOut_8 (by decide) (by decide) rfl (by decide) ?_
  refine z_aload_n dX10_carryOut_105 rfl ?_
  refine z_iload_n dX10_carryOut_106 rfl ?_
  refine z_iload_n dX10_carryOut_107 rfl ?_
  refine z_callR (As := [.int (nI (x.toInt.toNat)), .int (nI (y.toInt.toNat))]) (rest := []) (b := b) (ci := 10) (v := some (.int (nI (spA 5 x.toInt y.toInt z.toInt S)))) (R2 := zR 2 0) dX10_carryOut_108 kV_RX10_135 rfl ⟨⟨by decide, by decide⟩, by decide, by decide⟩ (by omega) hS.cell rfl rfl rfl (Nat.le_of_ble_eq_true rfl) rfl ((zCt_mono (c_X10_fillClipboard (p := x.toInt.toNat) (q := y.toInt.toNat) h0 h1 hS.1 (by omega) (by omega)) (fun o w' h9 => (⟨h9.1, h9.2.1, Sx.mkC h9.2.2 hS.2⟩ : o = .inl (some (.int (nI (spA 5 x.toInt y.toInt z.toInt S)))) ∧ zFr w w' b (b + 7) ∧ Sx g w' b (spS 5 x.toInt y.toInt z.toInt S))))) (fun w2 pw2 => ?_)
  obtain ⟨hf1, hS1⟩ := pw2
  refine z_iret dX10_carryOut_111 rfl (by decide) (by decide) ?_
  exact ⟨rfl, hf1, hS1⟩
set_option maxRecDepth 100000 in
set_option maxHeartbeats 4000000 in
theorem c_X10_carryOut_6 {g : zGT} {w : zW} {b : Nat} {S : zSt} {x y z : Int32} (h0 : zG0 g) (h1 : zST g) (hS : Sx g w b S) (hF : spF 6 x.toInt y.toInt z.toInt S = 0) : zCt g mX10_carryOut (zR 4 0) [.ref (za g b), .ref (ze g (10 + 6)), .int (x), .int (y), .int (z)] w (fun o w' => o = .inl (some (.int (nI (spA 6 x.toInt y.toInt z.toInt S)))) ∧ zFr w w' b (b + 7) ∧ Sx g w' b (spS 6 x.toInt y.toInt z.toInt S)) := by
  have hb := hS.lt
  have hlen := hS.len
  have hF0 := fMod0 hF
  refine zCt_of (by decide +kernel) h0 [(0, .ref (za g b)), (1, .ref (ze g (10 + 6))), (2, .int (x)), (3, .int (y)), (4, .int (z))] rfl (Nat.le_of_ble_eq_true rfl) ?_
  refine z_eq (lv' := [(0, .ref (za g b)), (1, .ref (ze g (10 + 6))), (2, .int (nI (x.toInt.toNat))), (3, .int (nI (y.toInt.toNat))), (4, .int (z))]) rfl rfl (by rw [← i_nat (x := x) (by omega), ← i_nat (x := y) (by omega)]) ?_
  refine z_gets dX10_carryOut_0 kG_RX10_42 rfl (h1.2.2.1.1) ?_
  refine z_aload_n dX10_carryOut_3 rfl ?_
  refine z_callUO (As := []) (rest := [.ref (ze g 31)]) (v := some (.int (nI (6)))) (R2 := zR 0 0) dX10_carryOut_4 kU_RX10_48 rfl ⟨⟨by decide, by decide⟩, by decide, by decide⟩ ((h1.2.1.1 6 (by decide)).2.1) rfl (Nat.le_of_ble_eq_true rfl) rfl (c_ord (i := 6) h0 h1 (by decide)) ?_
  refine z_tabI (a := 6) (v := .int (nI (3))) dX10_carryOut_7 (h1.2.2.1.2) (by omega) (by omega) (by rfl) ?_
  refine z_tableIn (off := 104) (tgt := 112) dX10_carryOut_8 (by decide) (by decide) rfl (by decide) ?_
  refine z_aload_n dX10_carryOut_112 rfl ?_
  refine z_iload_n dX10_carryOut_113 rfl ?_
  refine z_iload_n dX10_carryOut_114 rfl ?_
  refine z_iload dX10_carryOut_115 rfl ?_
  refine z_callR (As := [.int (nI (x.toInt.toNat)), .int (nI (y.toInt.toNat)), .int (z)]) (rest := []) (b := b) (ci := 10) (v := some (.int (nI (spA 6 x.toInt y.toInt z.toInt S)))) (R2 := zR 1 0) dX10_carryOut_117 kV_RX10_138 rfl ⟨⟨by decide, by decide⟩, by decide, by decide⟩ (by omega) hS.cell rfl rfl rfl (Nat.le_of_ble_eq_true rfl) rfl ((zCt_mono (c_X10_shiftLevels (p := x.toInt.toNat) (q := y.toInt.toNat) (z := z) h0 h1 hS.1 (by omega) (by omega) (by omega)) (fun o w' h9 => (⟨h9.1, h9.2.1, Sx.mk h9.2.2 hS.2⟩ : o = .inl (some (.int (nI (spA 6 x.toInt y.toInt z.toInt S)))) ∧ zFr w w' b (b + 7) ∧ Sx g w' b (spS 6 x.toInt y.toInt z.toInt S))))) (fun w2 pw2 => ?_)
  obtain ⟨hf1, hS1⟩ := pw2
  refine z_iret dX10_carryOut_120 rfl (by decide) (by decide) ?_
  exact ⟨rfl, hf1, hS1⟩
set_option maxRecDepth 100000 in
set_option maxHeartbeats 4000000 in
theorem c_X10_carryOut_7 {g : zGT} {w : zW} {b : Nat} {S : zSt} {x y z : Int32} (h0 : zG0 g) (h1 : zST g) (hS : Sx g w b S) (hF : spF 7 x.toInt y.toInt z.toInt S = 0) : zCt g mX10_carryOut (zR 4 0) [.ref (za g b), .ref (ze g (10 + 7)), .int (x), .int (y), .int (z)] w (fun o w' => o = .inl (some (.int (nI (spA 7 x.toInt y.toInt z.toInt S)))) ∧ zFr w w' b (b + 7) ∧ Sx g w' b (spS 7 x.toInt y.toInt z.toInt S)) := by
  have hb := hS.lt
  have hlen := hS.len
  have hF0 := fRep0 hF
  have hN := fRepN (p := x.toInt) (q := y.toInt) (k := z.toInt) (by omega) (by omega) (by omega)
  refine zCt_of (by decide +kernel) h0 [(0, .ref (za g b)), (1, .ref (ze g (10 + 7))), (2, .int (x)), (3, .int (y)), (4, .int (z))] rfl (Nat.le_of_ble_eq_true rfl) ?_
  refine z_eq (lv' := [(0, .ref (za g b)), (1, .ref (ze g (10 + 7))), (2, .int (nI (x.toInt.toNat))), (3, .int (nI (y.toInt.toNat))), (4, .int (nI (z.toInt.toNat)))]) rfl rfl (by rw [← i_nat (x := x) (by omega), ← i_nat (x := y) (by omega), ← i_nat (x := z) (by omega)]) ?_
  refine z_gets dX10_carryOut_0 kG_RX10_42 rfl (h1.2.2.1.1) ?_
  refine z_aload_n dX10_carryOut_3 rfl ?_
  refine z_callUO (As := []) (rest := [.ref (ze g 31)]) (v := some (.int (nI (7)))) (R2 := zR 0 0) dX10_carryOut_4 kU_RX10_48 rfl ⟨⟨by decide, by decide⟩, by decide, by decide⟩ ((h1.2.1.1 7 (by decide)).2.1) rfl (Nat.le_of_ble_eq_true rfl) rfl (c_ord (i := 7) h0 h1 (by decide)) ?_
  refine z_tabI (a := 7) (v := .int (nI (4))) dX10_carryOut_7 (h1.2.2.1.2) (by omega) (by omega) (by rfl) ?_
  refine z_tableIn (off := 113) (tgt := 121) dX10_carryOut_8 (by decide) (by decide) rfl (by decide) ?_
  refine z_aload_n dX10_carryOut_121 rfl ?_
  refine z_iload_n dX10_carryOut_122 rfl ?_
  refine z_iload_n dX10_carryOut_123 rfl ?_
  refine z_iload dX10_carryOut_124 rfl ?_
  refine z_callR (As := [.int (nI (x.toInt.toNat)), .int (nI (y.toInt.toNat)), .int (nI (z.toInt.toNat))]) (rest := []) (b := b) (ci := 10) (v := some (.int (nI (spA 7 x.toInt y.toInt z.toInt S)))) (R2 := zR 3 0) dX10_carryOut_126 kV_RX10_141 rfl ⟨⟨by decide, by decide⟩, by decide, by decide⟩ (by omega) hS.cell rfl rfl rfl (Nat.le_of_ble_eq_true rfl) rfl ((zCt_mono (c_X10_insertCopies (p := x.toInt.toNat) (q := y.toInt.toNat) (r := z.toInt.toNat) h0 h1 hS.1 hS.2 (by omega) (by omega) rfl (by omega)) (fun o w' h9 => (⟨h9.1, h9.2.1, Sx.mk h9.2.2 (hS.2.map (fun a b9 h => by unfold insM; (repeat' split) <;> omega) (fun a h => by unfold insM; split <;> omega))⟩ : o = .inl (some (.int (nI (spA 7 x.toInt y.toInt z.toInt S)))) ∧ zFr w w' b (b + 7) ∧ Sx g w' b (spS 7 x.toInt y.toInt z.toInt S))))) (fun w2 pw2 => ?_)
  obtain ⟨hf1, hS1⟩ := pw2
  refine z_iret dX10_carryOut_129 rfl (by decide) (by decide) ?_
  exact ⟨rfl, hf1, hS1⟩
set_option maxRecDepth 100000 in
set_option maxHeartbeats 4000000 in
theorem c_X10_carryOut_8 {g : zGT} {w : zW} {b : Nat} {S : zSt} {x y z : Int32} (h0 : zG0 g) (h1 : zST g) (hS : Sx g w b S) (hF : spF 8 x.toInt y.toInt z.toInt S = 0) : zCt g mX10_carryOut (zR 4 0) [.ref (za g b), .ref (ze g (10 + 8)), .int (x), .int (y), .int (z)] w (fun o w' => o = .inl (some (.int (nI (spA 8 x.toInt y.toInt z.toInt S)))) ∧ zFr w w' b (b + 7) ∧ Sx g w' b (spS 8 x.toInt y.toInt z.toInt S)) := by
  have hb := hS.lt
  have hlen := hS.len
  have hF0 := fPas0 hF
  refine zCt_of (by decide +kernel) h0 [(0, .ref (za g b)), (1, .ref (ze g (10 + 8))), (2, .int (x)), (3, .int (y)), (4, .int (z))] rfl (Nat.le_of_ble_eq_true rfl) ?_
  refine z_eq (lv' := [(0, .ref (za g b)), (1, .ref (ze g (10 + 8))), (2, .int (nI (x.toInt.toNat))), (3, .int (y)), (4, .int (z))]) rfl rfl (by rw [← i_nat (x := x) (by omega)]) ?_
  refine z_gets dX10_carryOut_0 kG_RX10_42 rfl (h1.2.2.1.1) ?_
  refine z_aload_n dX10_carryOut_3 rfl ?_
  refine z_callUO (As := []) (rest := [.ref (ze g 31)]) (v := some (.int (nI (8)))) (R2 := zR 0 0) dX10_carryOut_4 kU_RX10_48 rfl ⟨⟨by decide, by decide⟩, by decide, by decide⟩ ((h1.2.1.1 8 (by decide)).2.1) rfl (Nat.le_of_ble_eq_true rfl) rfl (c_ord (i := 8) h0 h1 (by decide)) ?_
  refine z_tabI (a := 8) (v := .int (nI (5))) dX10_carryOut_7 (h1.2.2.1.2) (by omega) (by omega) (by rfl) ?_
  refine z_tableIn (off := 122) (tgt := 130) dX10_carryOut_8 (by decide) (by decide) rfl (by decide) ?_
  refine z_aload_n dX10_carryOut_130 rfl ?_
  refine z_iload_n dX10_carryOut_131 rfl ?_
  refine z_callR (As := [.int (nI (x.toInt.toNat))]) (rest := []) (b := b) (ci := 10) (v := some (.int (nI (spA 8 x.toInt y.toInt z.toInt S)))) (R2 := zR 3 0) dX10_carryOut_132 kV_RX10_144 rfl ⟨⟨by decide, by decide⟩, by decide, by decide⟩ (by omega) hS.cell rfl rfl rfl (Nat.le_of_ble_eq_true rfl) rfl ((zCt_mono (c_X10_insertClipboard (t := x.toInt.toNat) h0 h1 hS.1 hS.2 (by omega) (by omega)) (fun o w' h9 => (⟨h9.1, h9.2.1, Sx.mk h9.2.2 (hS.2.map (fun a b9 h => by unfold insM; (repeat' split) <;> omega) (fun a h => by unfold insM; split <;> omega))⟩ : o = .inl (some (.int (nI (spA 8 x.toInt y.toInt z.toInt S)))) ∧ zFr w w' b (b + 7) ∧ Sx g w' b (spS 8 x.toInt y.toInt z.toInt S))))) (fun w2 pw2 => ?_)
  obtain ⟨hf1, hS1⟩ := pw2
  refine z_iret dX10_carryOut_135 rfl (by decide) (by decide) ?_
  exact ⟨rfl, hf1, hS1⟩
set_option maxRecDepth 100000 in
set_option maxHeartbeats 4000000 in
theorem c_X10_carryOut_9 {g : zGT} {w : zW} {b : Nat} {S : zSt} {x y z : Int32} (h0 : zG0 g) (h1 : zST g) (hS : Sx g w b S) (hF : spF 9 x.toInt y.toInt z.toInt S = 0) : zCt g mX10_carryOut (zR 4 0) [.ref (za g b), .ref (ze g (10 + 9)), .int (x), .int (y), .int (z)] w (fun o w' => o = .inl (some (.int (nI (spA 9 x.toInt y.toInt z.toInt S)))) ∧ zFr w w' b (b + 7) ∧ Sx g w' b (spS 9 x.toInt y.toInt z.toInt S)) := by
  have hb := hS.lt
  have hlen := hS.len
  have hF0 := fMark0 hF
  refine zCt_of (by decide +kernel) h0 [(0, .ref (za g b)), (1, .ref (ze g (10 + 9))), (2, .int (x)), (3, .int (y)), (4, .int (z))] rfl (Nat.le_of_ble_eq_true rfl) ?_
  refine z_eq (lv' := [(0, .ref (za g b)), (1, .ref (ze g (10 + 9))), (2, .int (nI (x.toInt.toNat))), (3, .int (y)), (4, .int (z))]) rfl rfl (by rw [← i_nat (x := x) (by omega)]) ?_
  refine z_gets dX10_carryOut_0 kG_RX10_42 rfl (h1.2.2.1.1) ?_
  refine z_aload_n dX10_carryOut_3 rfl ?_
  refine z_callUO (As := []) (rest := [.ref (ze g 31)]) (v := some (.int (nI (9)))) (R2 := zR 0 0) dX10_carryOut_4 kU_RX10_48 rfl ⟨⟨by decide, by decide⟩, by decide, by decide⟩ ((h1.2.1.1 9 (by decide)).2.1) rfl (Nat.le_of_ble_eq_true rfl) rfl (c_ord (i := 9) h0 h1 (by decide)) ?_
  refine z_tabI (a := 9) (v := .int (nI (6))) dX10_carryOut_7 (h1.2.2.1.2) (by omega) (by omega) (by rfl) ?_
  refine z_tableIn (off := 128) (tgt := 136) dX10_carryOut_8 (by decide) (by decide) rfl (by decide) ?_
  refine z_aload_n dX10_carryOut_136 rfl ?_
  refine z_iload_n dX10_carryOut_137 rfl ?_
  refine z_callR (As := [.int (nI (x.toInt.toNat))]) (rest := []) (b := b) (ci := 10) (v := some (.int (nI (spA 9 x.toInt y.toInt z.toInt S)))) (R2 := zR 3 0) dX10_carryOut_138 kV_RX10_147 rfl ⟨⟨by decide, by decide⟩, by decide, by decide⟩ (by omega) hS.cell rfl rfl rfl (Nat.le_of_ble_eq_true rfl) rfl ((zCt_mono (c_X10_mark (t := x.toInt.toNat) h0 h1 hS.1 hS.2 (by omega) hF0.2) (fun o w' h9 => (⟨h9.1, h9.2.1, ⟨h9.2.2, by show Mo (if x.toInt.toNat ∈ S.2.1 then S.2.1 else lins x.toInt.toNat S.2.1) S.1.length; split; exact hS.2; rename_i q; exact hS.2.ins (by omega) q (hF0.2 q)⟩⟩ : o = .inl (some (.int (nI (spA 9 x.toInt y.toInt z.toInt S)))) ∧ zFr w w' b (b + 7) ∧ Sx g w' b (spS 9 x.toInt y.toInt z.toInt S))))) (fun w2 pw2 => ?_)
  obtain ⟨hf1, hS1⟩ := pw2
  refine z_iret dX10_carryOut_141 rfl (by decide) (by decide) ?_
  exact ⟨rfl, hf1, hS1⟩
set_option maxRecDepth 100000 in
set_option maxHeartbeats 4000000 in
theorem c_X10_carryOut_10 {g : zGT} {w : zW} {b : Nat} {S : zSt} {x y z : Int32} (h0 : zG0 g) (h1 : zST g) (hS : Sx g w b S) : zCt g mX10_carryOut (zR 4 0) [.ref (za g b), .ref (ze g (10 + 10)), .int (x), .int (y), .int (z)] w (fun o w' => o = .inl (some (.int (nI (spA 10 x.toInt y.toInt z.toInt S)))) ∧ zFr w w' b (b + 7) ∧ Sx g w' b (spS 10 x.toInt y.toInt z.toInt S)) := by
  have hb := hS.lt
  have hlen := hS.len
  refine zCt_of (by decide +kernel) h0 [(0, .ref (za g b)), (1, .ref (ze g (10 + 10))), (2, .int (x)), (3, .int (y)), (4, .int (z))] rfl (Nat.le_of_ble_eq_true rfl) ?_
  refine z_gets dX10_carryOut_0 kG_RX10_42 rfl (h1.2.2.1.1) ?_
  refine z_aload_n dX10_carryOut_3 rfl ?_
  refine z_callUO (As := []) (rest := [.ref (ze g 31)]) (v := some (.int (nI (10)))) (R2 := zR 0 0) dX10_carryOut_4 kU_RX10_48 rfl ⟨⟨by decide, by decide⟩, by decide, by decide⟩ ((h1.2.1.1 10 (by decide)).2.1) rfl (Nat.le_of_ble_eq_true rfl) rfl (c_ord (i := 10) h0 h1 (by decide)) ?_
  refine z_tabI (a := 10) (v := .int (nI (7))) dX10_carryOut_7 (h1.2.2.1.2) (by omega) (by omega) (by rfl) ?_
  refine z_tableIn (off := 134) (tgt := 142) dX10_carryOut_8 (by decide) (by decide) rfl (by decide) ?_
  refine z_aload_n dX10_carryOut_142 rfl ?_
  refine z_iload_n dX10_carryOut_143 rfl ?_
  refine z_callR (As := [.int (x)]) (rest := []) (b := b) (ci := 10) (v := some (.int (nI (spA 10 x.toInt y.toInt z.toInt S)))) (R2 := zR 2 0) dX10_carryOut_144 kV_RX10_150 rfl ⟨⟨by decide, by decide⟩, by decide, by decide⟩ (by omega) hS.cell rfl rfl rfl (Nat.le_of_ble_eq_true rfl) rfl ((zCt_mono (c_X10_unmark (x := x) h0 h1 hS.1) (fun o w' h9 => (⟨h9.1, h9.2.1, ⟨h9.2.2, by show Mo (if uidx x.toInt S.2.1 < 0 then S.2.1 else S.2.1.eraseIdx (uidx x.toInt S.2.1).toNat) S.1.length; split; exact hS.2; rename_i q; exact hS.2.erase (by unfold uidx at q ⊢; rcases lidx_cases (fun j9 => decide ((j9 : Int) = x.toInt)) S.2.1 with e | ⟨i9, e1, e2, -⟩ <;> omega)⟩⟩ : o = .inl (some (.int (nI (spA 10 x.toInt y.toInt z.toInt S)))) ∧ zFr w w' b (b + 7) ∧ Sx g w' b (spS 10 x.toInt y.toInt z.toInt S))))) (fun w2 pw2 => ?_)
  obtain ⟨hf1, hS1⟩ := pw2
  refine z_iret dX10_carryOut_147 rfl (by decide) (by decide) ?_
  exact ⟨rfl, hf1, hS1⟩
theorem c_X10_carryOut {g : zGT} {w : zW} {b i : Nat} {S : zSt} {x y z : Int32} (h0 : zG0 g) (h1 : zST g) (hS : Sx g w b S) (hi : i < 11) (hF : spF i x.toInt y.toInt z.toInt S = 0) : zCt g mX10_carryOut (zR 4 0) [.ref (za g b), .ref (ze g (10 + i)), .int x, .int y, .int z] w (fun o w' => o = .inl (some (.int (nI (spA i x.toInt y.toInt z.toInt S)))) ∧ zFr w w' b (b + 7) ∧ Sx g w' b (spS i x.toInt y.toInt z.toInt S)) := by
  rcases (show i = 0 ∨ i = 1 ∨ i = 2 ∨ i = 3 ∨ i = 4 ∨ i = 5 ∨ i = 6 ∨ i = 7 ∨ i = 8 ∨ i = 9 ∨ i = 10 by omega) with h | h | h | h | h | h | h | h | h | h | h <;> subst h
  · exact c_X10_carryOut_0 h0 h1 hS hF
  · exact c_X10_carryOut_1 h0 h1 hS hF
  · exact c_X10_carryOut_2 h0 h1 hS hF
  · exact c_X10_carryOut_3 h0 h1 hS hF
  · exact c_X10_carryOut_4 h0 h1 hS hF
  · exact c_X10_carryOut_5 h0 h1 hS hF
  · exact c_X10_carryOut_6 h0 h1 hS hF
  · exact c_X10_carryOut_7 h0 h1 hS hF
  · exact c_X10_carryOut_8 h0 h1 hS hF
  · exact c_X10_carryOut_9 h0 h1 hS hF
  · exact c_X10_carryOut_10 h0 h1 hS
