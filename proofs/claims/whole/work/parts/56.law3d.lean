set_option maxRecDepth 100000 in
set_option maxHeartbeats 4000000 in
theorem lw_case_24 {g : zGT} {w : zW} {S : zSt} {Hs : List zSt} {Sn : Option zSt} {I O : List Nat} {ep fc : Int32} {ar N i ce sl : Nat} {xs : Nat → Int32} {Post : zP} (h0 : zG0 g) (h1 : zST g) (hN : zNC g) (hT : va_T .int ar N (fun j => .int (xs j)) (zA g) (zs g) (zs g).heap) (hL : LwI g w S Hs Sn I O ep fc) (hi : i + 3 < N) (hN9 : N ≤ 2048) (hce : ce + 2 ≤ 603072) (hsl : sl + 12 ≤ 7207018) (kk : ∀ (w' : zW) (S' : zSt) (Hs' : List zSt) (Sn' : Option zSt) (I' O' : List Nat) (ep' fc' : Int32), LwI g w' S' Hs' Sn' I' O' ep' fc' → zTr g mL_law room_1 (ce + 2) (sl + 12) 2848 [(0, .ref ar), (1, .ref (za g 0)), (2, .ref (za g 101)), (3, .ref (za g 112)), (4, .ref (za g 113)), (5, .int (nI (i)))] [] w' Post) : zTr g mL_law room_1 ce sl 1511 [(0, .ref ar), (1, .ref (za g 0)), (2, .ref (za g 101)), (3, .ref (za g 112)), (4, .ref (za g 113)), (5, .int (nI (i)))] [] w Post := by
  obtain ⟨hz, hR0, ⟨t0, hM0⟩, ⟨fJ, hJ0⟩, ⟨fQ, hQ0⟩⟩ := hL
  refine z_aload_n dL_law_1511 rfl ?_
  refine z_aload_n dL_law_1512 rfl ?_
  refine z_iload dL_law_1513 rfl ?_
  refine z_iconst (v := nI 1) dL_law_1515 rfl ?_
  refine z_iadd_n (a := i) (b := 1) dL_law_1516 ?_
  refine z_tabI (a := i + 1) (v := .int (xs (i + 1))) dL_law_1517 hT (by omega) (by omega) rfl ?_
  refine z_aload_n dL_law_1518 rfl ?_
  refine z_iload dL_law_1519 rfl ?_
  refine z_iconst (v := nI 2) dL_law_1521 rfl ?_
  refine z_iadd_n (a := i) (b := 2) dL_law_1522 ?_
  refine z_tabI (a := i + 2) (v := .int (xs (i + 2))) dL_law_1523 hT (by omega) (by omega) rfl ?_
  refine z_aload_n dL_law_1524 rfl ?_
  have hc6 := c_L_isSilent (b := 0) (c9 := 112) h0 h1 hN hR0 (by omega) (by omega) hJ0 (x := (xs (i + 1))) (y := (xs (i + 2)))
  refine z_callSH (As := [.ref (za g 0), .int (xs (i + 1)), .int (xs (i + 2)), .ref (za g 112)]) (rest := []) (R2 := zR 9 2) dL_law_1525 kSH_238 rfl ⟨⟨by decide, by decide⟩, by show _ ≤ 603072; simp only [zR]; omega, by show _ ≤ 7207018; simp only [zR]; omega⟩ rfl (Nat.le_of_ble_eq_true rfl) rfl hc6 (fun E w1 hp => by obtain ⟨e, _⟩ := hp; cases e) (fun v w1 hp => ?_)
  obtain ⟨he2, hf3, hx4, hj5⟩ := hp
  cases he2
  have hm7 := hM0.eq (w1 := w1) (fun k h8 h9 => hf3 k (by omega) (by omega))
  have hq8 := (hf3 113 (by omega) (by omega)).trans hQ0
  by_cases hF : (fIv S.1.length (xs (i + 1)).toInt (xs (i + 2)).toInt) = 0
  · refine z_eq (st' := [.int (nI 0)]) rfl (by rw [hF]; rfl) rfl ?_
    (try rw [hF] at hx4)
    rw [hF] at hj5
    (try simp only [↓reduceIte] at hx4)
    simp only [↓reduceIte] at hj5
    refine z_istore (lv' := [(0, .ref ar), (1, .ref (za g 0)), (2, .ref (za g 101)), (3, .ref (za g 112)), (4, .ref (za g 113)), (5, .int (nI (i))), (6, .int (nI (0)))]) dL_law_1528 (by decide) rfl ?_
    refine z_aload_n dL_law_1530 rfl ?_
    refine z_aload_n dL_law_1531 rfl ?_
    refine z_iload dL_law_1532 rfl ?_
    refine z_iconst (v := nI 1) dL_law_1534 rfl ?_
    refine z_iadd_n (a := i) (b := 1) dL_law_1535 ?_
    refine z_tabI (a := i + 1) (v := .int (xs (i + 1))) dL_law_1536 hT (by omega) (by omega) rfl ?_
    refine z_aload_n dL_law_1537 rfl ?_
    refine z_iload dL_law_1538 rfl ?_
    refine z_iconst (v := nI 2) dL_law_1540 rfl ?_
    refine z_iadd_n (a := i) (b := 2) dL_law_1541 ?_
    refine z_tabI (a := i + 2) (v := .int (xs (i + 2))) dL_law_1542 hT (by omega) (by omega) rfl ?_
    have hc17 := c_X13_isSilent (b := 101) h0 hm7 (x := (xs (i + 1))) (y := (xs (i + 2)))
    obtain ⟨fs9, hfs10⟩ := hm7.cell
    refine z_callV (As := [.int (xs (i + 1)), .int (xs (i + 2))]) (rest := []) (b := 101) (ci := 12) (R2 := zR 4 0) dL_law_1543 kV_RL_240 rfl ⟨⟨by decide, by decide⟩, by show _ ≤ 603072; simp only [zR]; omega, by show _ ≤ 7207018; simp only [zR]; omega⟩ (by omega) hfs10 rfl rfl rfl (Nat.le_of_ble_eq_true rfl) rfl hc17 (fun E w1 hp => by obtain ⟨_, e, _⟩ := hp; cases e) (fun v w11 hp => ?_)
    obtain ⟨r12, he13, hf14, hm15, hr16⟩ := hp
    cases he13
    have hT0 : ((if 0 ≤ (xs (i + 1)).toInt ∧ (xs (i + 1)).toInt ≤ (xs (i + 2)).toInt ∧ (xs (i + 2)).toInt ≤ (S.1.length : Nat) then 0 else 1)) = 0 := by revert hF; (try simp only [spF, fPass, fRest, fIv, fMod, fRep, fPas, fMark, fWin, plc, rwP]); (repeat' split) <;> first | rfl | omega | (intro hF; omega) | contradiction | (intros; contradiction) | (simp; done) | (simp_all; done) | (intros; exfalso; simp_all; done)
    replace hr16 := hr16 (by first | exact hF | exact hT0 | (refine Decidable.byContradiction fun z => ?_; rw [if_neg z] at hT0; exact absurd hT0 (by decide)))
    rw [hT0] at hm15
    (try simp only [↓reduceIte] at hm15)
    have hx18 := hx4.fr hf14 (Or.inl (by omega))
    have hj19 := (hf14 112 (by omega)).trans hj5
    have hq20 := (hf14 113 (by omega)).trans hq8
    refine z_istore (lv' := [(0, .ref ar), (1, .ref (za g 0)), (2, .ref (za g 101)), (3, .ref (za g 112)), (4, .ref (za g 113)), (5, .int (nI (i))), (6, .int (nI (0))), (7, .int (r12))]) dL_law_1546 (by decide) rfl ?_
    refine z_aload_n dL_law_1548 rfl ?_
    obtain ⟨fs21, hfs22⟩ := hm15.cell
    refine z_callE (As := []) (rest := []) (b := 101) (ci := 12) (v := some (.int (nI (0)))) (R2 := zR 0 0) dL_law_1549 kV_RL_156 rfl ⟨⟨by decide, by decide⟩, by show _ ≤ 603072; simp only [zR]; omega, by show _ ≤ 7207018; simp only [zR]; omega⟩ (by omega) hfs22 rfl rfl rfl (Nat.le_of_ble_eq_true rfl) rfl (Mq.th h0 hm15) ?_
    refine z_iload dL_law_1552 rfl ?_
    refine z_icmp_eq_n (a := 0) (b := 0) (tgt := 1559) dL_law_1554 (by decide) (by omega) (by omega) (fun _ => ?_) (fun hq9 => absurd rfl hq9)
    refine z_iload dL_law_1559 rfl ?_
    refine z_if_ne_n (a := 0) (tgt := 1583) dL_law_1561 (by decide) (by decide) (fun hq9 => absurd rfl hq9) (fun _ => ?_)
    refine z_aload_n dL_law_1564 rfl ?_
    refine z_iconst (v := nI 0) dL_law_1565 rfl ?_
    refine z_lald (j := 112) (N := 1) (i := nI 0) dL_law_1566 (by omega) hj19 (vp_in_nI (by decide) (by decide)) ?_
    refine z_eq (st' := [.long ((if (if zcnt (fun k => decide (gT S.1 k ≠ 0)) (xs (i + 1)).toInt.toNat ((xs (i + 2)).toInt.toNat - (xs (i + 1)).toInt.toNat) = 0 then 1 else 0) = 0 then 0 else 1))]) rfl (by rw [nI_clamp (by decide)]; simp [vp_updL]) rfl ?_
    refine z_iload dL_law_1567 rfl ?_
    have hA : (if zcnt (fun k => decide (gT S.1 k ≠ 0)) (xs (i + 1)).toInt.toNat ((xs (i + 2)).toInt.toNat - (xs (i + 1)).toInt.toNat) = 0 then 1 else 0) = 0 ∨ (if zcnt (fun k => decide (gT S.1 k ≠ 0)) (xs (i + 1)).toInt.toNat ((xs (i + 2)).toInt.toNat - (xs (i + 1)).toInt.toNat) = 0 then 1 else 0) = 1 := by split <;> simp
    rcases hA with eA | eA
    · refine z_eq (st' := [.int (nI 0), .long 0]) rfl (by rw [hr16, eA]; rfl) rfl ?_
      refine z_if_eq_n (a := 0) (tgt := 1576) dL_law_1569 (by decide) (by decide) (fun _ => ?_) (fun hq9 => absurd rfl hq9)
      refine z_lconst (v := 0) dL_law_1576 rfl ?_
      refine z_lcmp dL_law_1577 ?_
      refine z_eq (st' := [.int (nI 0)]) rfl (by rw [lg_self]) rfl ?_
      refine z_if_eq_n (a := 0) (tgt := 1583) dL_law_1578 (by decide) (by decide) (fun _ => ?_) (fun hq9 => absurd rfl hq9)
      refine z_goto (tgt := 2848) dL_law_1583 (by decide) ?_
      refine z_sub (lv' := [(0, .ref ar), (1, .ref (za g 0)), (2, .ref (za g 101)), (3, .ref (za g 112)), (4, .ref (za g 113)), (5, .int (nI (i)))]) [0, 1, 2, 3, 4, 5] rfl ?_
      exact zTr_wd (by simp only [zR]; omega) (by simp only [zR]; omega) (kk _ _ _ _ _ _ _ _ ⟨hz, hx18, ⟨_, hm15⟩, ⟨_, hj19⟩, ⟨_, hq20⟩⟩)
    · refine z_eq (st' := [.int (nI 1), .long 1]) rfl (by rw [hr16, eA]; rfl) rfl ?_
      refine z_if_eq_n (a := 1) (tgt := 1576) dL_law_1569 (by decide) (by decide) (fun hq9 => absurd hq9 (by decide)) (fun _ => ?_)
      refine z_lconst (v := 1) dL_law_1572 rfl ?_
      refine z_goto (tgt := 1577) dL_law_1573 (by decide) ?_
      refine z_lcmp dL_law_1577 ?_
      refine z_eq (st' := [.int (nI 0)]) rfl (by rw [lg_self]) rfl ?_
      refine z_if_eq_n (a := 0) (tgt := 1583) dL_law_1578 (by decide) (by decide) (fun _ => ?_) (fun hq9 => absurd rfl hq9)
      refine z_goto (tgt := 2848) dL_law_1583 (by decide) ?_
      refine z_sub (lv' := [(0, .ref ar), (1, .ref (za g 0)), (2, .ref (za g 101)), (3, .ref (za g 112)), (4, .ref (za g 113)), (5, .int (nI (i)))]) [0, 1, 2, 3, 4, 5] rfl ?_
      exact zTr_wd (by simp only [zR]; omega) (by simp only [zR]; omega) (kk _ _ _ _ _ _ _ _ ⟨hz, hx18, ⟨_, hm15⟩, ⟨_, hj19⟩, ⟨_, hq20⟩⟩)
  · (first | rw [if_neg hF, if_neg hF] at hx4 | rw [if_neg hF] at hx4 | skip)
    rw [if_neg hF] at hj5
    have hk0 : rwP [1] (fIv S.1.length (xs (i + 1)).toInt (xs (i + 2)).toInt) ≠ 0 := by revert hF; (try simp only [spF, fPass, fRest, fIv, fMod, fRep, fPas, fMark, fWin, plc, rwP]); (repeat' split) <;> first | rfl | omega | (intro hF; omega) | contradiction | (intros; contradiction) | (simp; done) | (simp_all; done) | (intros; exfalso; simp_all; done)
    refine z_istore (lv' := [(0, .ref ar), (1, .ref (za g 0)), (2, .ref (za g 101)), (3, .ref (za g 112)), (4, .ref (za g 113)), (5, .int (nI (i))), (6, .int (nI (rwP [1] (fIv S.1.length (xs (i + 1)).toInt (xs (i + 2)).toInt))))]) dL_law_1528 (by decide) rfl ?_
    refine z_aload_n dL_law_1530 rfl ?_
    refine z_aload_n dL_law_1531 rfl ?_
    refine z_iload dL_law_1532 rfl ?_
    refine z_iconst (v := nI 1) dL_law_1534 rfl ?_
    refine z_iadd_n (a := i) (b := 1) dL_law_1535 ?_
    refine z_tabI (a := i + 1) (v := .int (xs (i + 1))) dL_law_1536 hT (by omega) (by omega) rfl ?_
    refine z_aload_n dL_law_1537 rfl ?_
    refine z_iload dL_law_1538 rfl ?_
    refine z_iconst (v := nI 2) dL_law_1540 rfl ?_
    refine z_iadd_n (a := i) (b := 2) dL_law_1541 ?_
    refine z_tabI (a := i + 2) (v := .int (xs (i + 2))) dL_law_1542 hT (by omega) (by omega) rfl ?_
    have hc31 := c_X13_isSilent (b := 101) h0 hm7 (x := (xs (i + 1))) (y := (xs (i + 2)))
    obtain ⟨fs23, hfs24⟩ := hm7.cell
    refine z_callV (As := [.int (xs (i + 1)), .int (xs (i + 2))]) (rest := []) (b := 101) (ci := 12) (R2 := zR 4 0) dL_law_1543 kV_RL_240 rfl ⟨⟨by decide, by decide⟩, by show _ ≤ 603072; simp only [zR]; omega, by show _ ≤ 7207018; simp only [zR]; omega⟩ (by omega) hfs24 rfl rfl rfl (Nat.le_of_ble_eq_true rfl) rfl hc31 (fun E w1 hp => by obtain ⟨_, e, _⟩ := hp; cases e) (fun v w25 hp => ?_)
    obtain ⟨r26, he27, hf28, hm29, hr30⟩ := hp
    cases he27
    have hT1 : ((if 0 ≤ (xs (i + 1)).toInt ∧ (xs (i + 1)).toInt ≤ (xs (i + 2)).toInt ∧ (xs (i + 2)).toInt ≤ (S.1.length : Nat) then 0 else 1)) = rwP [1] (fIv S.1.length (xs (i + 1)).toInt (xs (i + 2)).toInt) := by revert hF; (try simp only [spF, fPass, fRest, fIv, fMod, fRep, fPas, fMark, fWin, plc, rwP]); (repeat' split) <;> first | rfl | omega | (intro hF; omega) | contradiction | (intros; contradiction) | (simp; done) | (simp_all; done) | (intros; exfalso; simp_all; done)
    rw [hT1] at hm29
    (try rw [if_neg hk0] at hm29)
    have hx32 := hx4.fr hf28 (Or.inl (by omega))
    have hj33 := (hf28 112 (by omega)).trans hj5
    have hq34 := (hf28 113 (by omega)).trans hq8
    refine z_istore (lv' := [(0, .ref ar), (1, .ref (za g 0)), (2, .ref (za g 101)), (3, .ref (za g 112)), (4, .ref (za g 113)), (5, .int (nI (i))), (6, .int (nI (rwP [1] (fIv S.1.length (xs (i + 1)).toInt (xs (i + 2)).toInt)))), (7, .int (r26))]) dL_law_1546 (by decide) rfl ?_
    refine z_aload_n dL_law_1548 rfl ?_
    obtain ⟨fs35, hfs36⟩ := hm29.cell
    refine z_callE (As := []) (rest := []) (b := 101) (ci := 12) (v := some (.int (nI (rwP [1] (fIv S.1.length (xs (i + 1)).toInt (xs (i + 2)).toInt))))) (R2 := zR 0 0) dL_law_1549 kV_RL_156 rfl ⟨⟨by decide, by decide⟩, by show _ ≤ 603072; simp only [zR]; omega, by show _ ≤ 7207018; simp only [zR]; omega⟩ (by omega) hfs36 rfl rfl rfl (Nat.le_of_ble_eq_true rfl) rfl (Mq.th h0 hm29) ?_
    refine z_iload dL_law_1552 rfl ?_
    refine z_icmp_eq_n (a := rwP [1] (fIv S.1.length (xs (i + 1)).toInt (xs (i + 2)).toInt)) (b := rwP [1] (fIv S.1.length (xs (i + 1)).toInt (xs (i + 2)).toInt)) (tgt := 1559) dL_law_1554 (by decide) (by simp only [rwP]; (repeat' split) <;> omega) (by simp only [rwP]; (repeat' split) <;> omega) (fun _ => ?_) (fun hq9 => absurd rfl hq9)
    refine z_iload dL_law_1559 rfl ?_
    refine z_if_ne_n (a := rwP [1] (fIv S.1.length (xs (i + 1)).toInt (xs (i + 2)).toInt)) (tgt := 1583) dL_law_1561 (by decide) (by simp only [rwP]; (repeat' split) <;> omega) (fun _ => ?_) (fun hq9 => absurd hq9 hk0)
    refine z_goto (tgt := 2848) dL_law_1583 (by decide) ?_
    refine z_sub (lv' := [(0, .ref ar), (1, .ref (za g 0)), (2, .ref (za g 101)), (3, .ref (za g 112)), (4, .ref (za g 113)), (5, .int (nI (i)))]) [0, 1, 2, 3, 4, 5] rfl ?_
    exact zTr_wd (by simp only [zR]; omega) (by simp only [zR]; omega) (kk _ _ _ _ _ _ _ _ ⟨hz, hx32, ⟨_, hm29⟩, ⟨_, hj33⟩, ⟨_, hq34⟩⟩)
set_option maxRecDepth 100000 in
set_option maxHeartbeats 4000000 in
theorem lw_case_25 {g : zGT} {w : zW} {S : zSt} {Hs : List zSt} {Sn : Option zSt} {I O : List Nat} {ep fc : Int32} {ar N i ce sl : Nat} {xs : Nat → Int32} {Post : zP} (h0 : zG0 g) (h1 : zST g) (hN : zNC g) (hT : va_T .int ar N (fun j => .int (xs j)) (zA g) (zs g) (zs g).heap) (hL : LwI g w S Hs Sn I O ep fc) (hi : i + 3 < N) (hN9 : N ≤ 2048) (hce : ce + 2 ≤ 603072) (hsl : sl + 12 ≤ 7207018) (kk : ∀ (w' : zW) (S' : zSt) (Hs' : List zSt) (Sn' : Option zSt) (I' O' : List Nat) (ep' fc' : Int32), LwI g w' S' Hs' Sn' I' O' ep' fc' → zTr g mL_law room_1 (ce + 2) (sl + 12) 2848 [(0, .ref ar), (1, .ref (za g 0)), (2, .ref (za g 101)), (3, .ref (za g 112)), (4, .ref (za g 113)), (5, .int (nI (i)))] [] w' Post) : zTr g mL_law room_1 ce sl 1586 [(0, .ref ar), (1, .ref (za g 0)), (2, .ref (za g 101)), (3, .ref (za g 112)), (4, .ref (za g 113)), (5, .int (nI (i)))] [] w Post := by
  obtain ⟨hz, hR0, ⟨t0, hM0⟩, ⟨fJ, hJ0⟩, ⟨fQ, hQ0⟩⟩ := hL
  refine z_aload_n dL_law_1586 rfl ?_
  have hc9 := c_X12_peakLevel (b := 0) h0 h1 hR0
  refine z_callV (As := []) (rest := []) (b := 0) (ci := 11) (R2 := zR 1 0) dL_law_1587 kV_RL_241 rfl ⟨⟨by decide, by decide⟩, by show _ ≤ 603072; simp only [zR]; omega, by show _ ≤ 7207018; simp only [zR]; omega⟩ (by omega) hR0.ce rfl rfl rfl (Nat.le_of_ble_eq_true rfl) rfl hc9 (fun E w1 hp => by obtain ⟨e, _⟩ := hp; cases e) (fun v w3 hp => ?_)
  obtain ⟨he5, hf6, hr8⟩ := hp
  cases he5
  have hm10 := hM0.eq (w1 := w3) (fun k h8 h9 => hf6 k (by omega))
  have hj11 := (hf6 112 (by omega)).trans hJ0
  have hq12 := (hf6 113 (by omega)).trans hQ0
  refine z_aload_n dL_law_1590 rfl ?_
  have hc21 := c_X13_peakLevel (b := 101) h0 hm10
  obtain ⟨fs13, hfs14⟩ := hm10.cell
  refine z_callV (As := []) (rest := [.int ((nI (nmax (gT S.1) S.1.length)))]) (b := 101) (ci := 12) (R2 := zR 4 0) dL_law_1591 kV_RL_244 rfl ⟨⟨by decide, by decide⟩, by show _ ≤ 603072; simp only [zR]; omega, by show _ ≤ 7207018; simp only [zR]; omega⟩ (by omega) hfs14 rfl rfl rfl (Nat.le_of_ble_eq_true rfl) rfl hc21 (fun E w1 hp => by obtain ⟨e, _⟩ := hp; cases e) (fun v w15 hp => ?_)
  obtain ⟨he17, hf18, hm19⟩ := hp
  cases he17
  have hx22 := hr8.fr hf18 (Or.inl (by omega))
  have hj23 := (hf18 112 (by omega)).trans hj11
  have hq24 := (hf18 113 (by omega)).trans hq12
  refine z_icmp_eq (tgt := 2848) dL_law_1594 (by decide) (fun _ => ?_) (fun h9 => absurd rfl h9)
  exact zTr_wd (by simp only [zR]; omega) (by simp only [zR]; omega) (kk _ _ _ _ _ _ _ _ ⟨hz, hx22, ⟨_, hm19⟩, ⟨_, hj23⟩, ⟨_, hq24⟩⟩)
set_option maxRecDepth 100000 in
set_option maxHeartbeats 4000000 in
theorem lw_case_26 {g : zGT} {w : zW} {S : zSt} {Hs : List zSt} {Sn : Option zSt} {I O : List Nat} {ep fc : Int32} {ar N i ce sl : Nat} {xs : Nat → Int32} {Post : zP} (h0 : zG0 g) (h1 : zST g) (hN : zNC g) (hT : va_T .int ar N (fun j => .int (xs j)) (zA g) (zs g) (zs g).heap) (hL : LwI g w S Hs Sn I O ep fc) (hi : i + 3 < N) (hN9 : N ≤ 2048) (hce : ce + 2 ≤ 603072) (hsl : sl + 12 ≤ 7207018) (kk : ∀ (w' : zW) (S' : zSt) (Hs' : List zSt) (Sn' : Option zSt) (I' O' : List Nat) (ep' fc' : Int32), LwI g w' S' Hs' Sn' I' O' ep' fc' → zTr g mL_law room_1 (ce + 2) (sl + 12) 2848 [(0, .ref ar), (1, .ref (za g 0)), (2, .ref (za g 101)), (3, .ref (za g 112)), (4, .ref (za g 113)), (5, .int (nI (i)))] [] w' Post) : zTr g mL_law room_1 ce sl 1599 [(0, .ref ar), (1, .ref (za g 0)), (2, .ref (za g 101)), (3, .ref (za g 112)), (4, .ref (za g 113)), (5, .int (nI (i)))] [] w Post := by
  obtain ⟨hz, hR0, ⟨t0, hM0⟩, ⟨fJ, hJ0⟩, ⟨fQ, hQ0⟩⟩ := hL
  refine z_aload_n dL_law_1599 rfl ?_
  have hc9 := c_X12_restCount (b := 0) h0 h1 hR0
  refine z_callV (As := []) (rest := []) (b := 0) (ci := 11) (R2 := zR 3 0) dL_law_1600 kV_RL_245 rfl ⟨⟨by decide, by decide⟩, by show _ ≤ 603072; simp only [zR]; omega, by show _ ≤ 7207018; simp only [zR]; omega⟩ (by omega) hR0.ce rfl rfl rfl (Nat.le_of_ble_eq_true rfl) rfl hc9 (fun E w1 hp => by obtain ⟨e, _⟩ := hp; cases e) (fun v w3 hp => ?_)
  obtain ⟨he5, hf6, hr8⟩ := hp
  cases he5
  have hm10 := hM0.eq (w1 := w3) (fun k h8 h9 => hf6 k (by omega))
  have hj11 := (hf6 112 (by omega)).trans hJ0
  have hq12 := (hf6 113 (by omega)).trans hQ0
  refine z_aload_n dL_law_1603 rfl ?_
  have hc21 := c_X13_restCount (b := 101) h0 hm10
  obtain ⟨fs13, hfs14⟩ := hm10.cell
  refine z_callV (As := []) (rest := [.int ((nI (zcnt (rsB (gT S.1)) 0 S.1.length)))]) (b := 101) (ci := 12) (R2 := zR 4 0) dL_law_1604 kV_RL_248 rfl ⟨⟨by decide, by decide⟩, by show _ ≤ 603072; simp only [zR]; omega, by show _ ≤ 7207018; simp only [zR]; omega⟩ (by omega) hfs14 rfl rfl rfl (Nat.le_of_ble_eq_true rfl) rfl hc21 (fun E w1 hp => by obtain ⟨e, _⟩ := hp; cases e) (fun v w15 hp => ?_)
  obtain ⟨he17, hf18, hm19⟩ := hp
  cases he17
  have hx22 := hr8.fr hf18 (Or.inl (by omega))
  have hj23 := (hf18 112 (by omega)).trans hj11
  have hq24 := (hf18 113 (by omega)).trans hq12
  refine z_icmp_eq (tgt := 2848) dL_law_1607 (by decide) (fun _ => ?_) (fun h9 => absurd rfl h9)
  exact zTr_wd (by simp only [zR]; omega) (by simp only [zR]; omega) (kk _ _ _ _ _ _ _ _ ⟨hz, hx22, ⟨_, hm19⟩, ⟨_, hj23⟩, ⟨_, hq24⟩⟩)
set_option maxRecDepth 100000 in
set_option maxHeartbeats 4000000 in
theorem lw_case_27 {g : zGT} {w : zW} {S : zSt} {Hs : List zSt} {Sn : Option zSt} {I O : List Nat} {ep fc : Int32} {ar N i ce sl : Nat} {xs : Nat → Int32} {Post : zP} (h0 : zG0 g) (h1 : zST g) (hN : zNC g) (hT : va_T .int ar N (fun j => .int (xs j)) (zA g) (zs g) (zs g).heap) (hL : LwI g w S Hs Sn I O ep fc) (hi : i + 3 < N) (hN9 : N ≤ 2048) (hce : ce + 2 ≤ 603072) (hsl : sl + 12 ≤ 7207018) (kk : ∀ (w' : zW) (S' : zSt) (Hs' : List zSt) (Sn' : Option zSt) (I' O' : List Nat) (ep' fc' : Int32), LwI g w' S' Hs' Sn' I' O' ep' fc' → zTr g mL_law room_1 (ce + 2) (sl + 12) 2848 [(0, .ref ar), (1, .ref (za g 0)), (2, .ref (za g 101)), (3, .ref (za g 112)), (4, .ref (za g 113)), (5, .int (nI (i)))] [] w' Post) : zTr g mL_law room_1 ce sl 1612 [(0, .ref ar), (1, .ref (za g 0)), (2, .ref (za g 101)), (3, .ref (za g 112)), (4, .ref (za g 113)), (5, .int (nI (i)))] [] w Post := by
  obtain ⟨hz, hR0, ⟨t0, hM0⟩, ⟨fJ, hJ0⟩, ⟨fQ, hQ0⟩⟩ := hL
  refine z_aload_n dL_law_1612 rfl ?_
  refine z_aload_n dL_law_1613 rfl ?_
  refine z_iload dL_law_1614 rfl ?_
  refine z_iconst (v := nI 1) dL_law_1616 rfl ?_
  refine z_iadd_n (a := i) (b := 1) dL_law_1617 ?_
  refine z_tabI (a := i + 1) (v := .int (xs (i + 1))) dL_law_1618 hT (by omega) (by omega) rfl ?_
  refine z_aload_n dL_law_1619 rfl ?_
  have hc6 := c_L_restStartByLength (b := 0) (c9 := 112) h0 h1 hN hR0 (by omega) (by omega) hJ0 (x := (xs (i + 1)))
  refine z_callSH (As := [.ref (za g 0), .int (xs (i + 1)), .ref (za g 112)]) (rest := []) (R2 := zR 9 2) dL_law_1620 kSH_249 rfl ⟨⟨by decide, by decide⟩, by show _ ≤ 603072; simp only [zR]; omega, by show _ ≤ 7207018; simp only [zR]; omega⟩ rfl (Nat.le_of_ble_eq_true rfl) rfl hc6 (fun E w1 hp => by obtain ⟨e, _⟩ := hp; cases e) (fun v w1 hp => ?_)
  obtain ⟨he2, hf3, hx4, hj5⟩ := hp
  cases he2
  have hm7 := hM0.eq (w1 := w1) (fun k h8 h9 => hf3 k (by omega) (by omega))
  have hq8 := (hf3 113 (by omega) (by omega)).trans hQ0
  by_cases hF : (if spRank (gT S.1) S.1.length (xs (i + 1)).toInt < 0 then 4 else 0) = 0
  · refine z_eq (st' := [.int (nI 0)]) rfl (by rw [hF]; rfl) rfl ?_
    (try rw [hF] at hx4)
    rw [hF] at hj5
    (try simp only [↓reduceIte] at hx4)
    simp only [↓reduceIte] at hj5
    refine z_istore (lv' := [(0, .ref ar), (1, .ref (za g 0)), (2, .ref (za g 101)), (3, .ref (za g 112)), (4, .ref (za g 113)), (5, .int (nI (i))), (6, .int (nI (0)))]) dL_law_1623 (by decide) rfl ?_
    refine z_aload_n dL_law_1625 rfl ?_
    refine z_aload_n dL_law_1626 rfl ?_
    refine z_iload dL_law_1627 rfl ?_
    refine z_iconst (v := nI 1) dL_law_1629 rfl ?_
    refine z_iadd_n (a := i) (b := 1) dL_law_1630 ?_
    refine z_tabI (a := i + 1) (v := .int (xs (i + 1))) dL_law_1631 hT (by omega) (by omega) rfl ?_
    have hc17 := c_X13_restStartByLength (b := 101) h0 hm7 (x := (xs (i + 1)))
    obtain ⟨fs9, hfs10⟩ := hm7.cell
    refine z_callV (As := [.int (xs (i + 1))]) (rest := []) (b := 101) (ci := 12) (R2 := zR 5 0) dL_law_1632 kV_RL_251 rfl ⟨⟨by decide, by decide⟩, by show _ ≤ 603072; simp only [zR]; omega, by show _ ≤ 7207018; simp only [zR]; omega⟩ (by omega) hfs10 rfl rfl rfl (Nat.le_of_ble_eq_true rfl) rfl hc17 (fun E w1 hp => by obtain ⟨_, e, _⟩ := hp; cases e) (fun v w11 hp => ?_)
    obtain ⟨r12, he13, hf14, hm15, hr16⟩ := hp
    cases he13
    have hT0 : (((if spRank (gT S.1) S.1.length (xs (i + 1)).toInt < 0 then 1 else 0))) = 0 := by revert hF; (try simp only [spF, fPass, fRest, fIv, fMod, fRep, fPas, fMark, fWin, plc, rwP]); (repeat' split) <;> first | rfl | omega | (intro hF; omega) | contradiction | (intros; contradiction) | (simp; done) | (simp_all; done) | (intros; exfalso; simp_all; done)
    replace hr16 := hr16 (by first | exact hF | exact hT0 | (refine Decidable.byContradiction fun z => ?_; rw [if_neg z] at hT0; exact absurd hT0 (by decide)))
    rw [hT0] at hm15
    (try simp only [↓reduceIte] at hm15)
    have hx18 := hx4.fr hf14 (Or.inl (by omega))
    have hj19 := (hf14 112 (by omega)).trans hj5
    have hq20 := (hf14 113 (by omega)).trans hq8
    refine z_istore (lv' := [(0, .ref ar), (1, .ref (za g 0)), (2, .ref (za g 101)), (3, .ref (za g 112)), (4, .ref (za g 113)), (5, .int (nI (i))), (6, .int (nI (0))), (7, .int (r12))]) dL_law_1635 (by decide) rfl ?_
    refine z_aload_n dL_law_1637 rfl ?_
    obtain ⟨fs21, hfs22⟩ := hm15.cell
    refine z_callE (As := []) (rest := []) (b := 101) (ci := 12) (v := some (.int (nI (0)))) (R2 := zR 0 0) dL_law_1638 kV_RL_156 rfl ⟨⟨by decide, by decide⟩, by show _ ≤ 603072; simp only [zR]; omega, by show _ ≤ 7207018; simp only [zR]; omega⟩ (by omega) hfs22 rfl rfl rfl (Nat.le_of_ble_eq_true rfl) rfl (Mq.th h0 hm15) ?_
    refine z_iload dL_law_1641 rfl ?_
    refine z_icmp_eq_n (a := 0) (b := 0) (tgt := 1648) dL_law_1643 (by decide) (by omega) (by omega) (fun _ => ?_) (fun hq9 => absurd rfl hq9)
    refine z_iload dL_law_1648 rfl ?_
    refine z_if_ne_n (a := 0) (tgt := 1665) dL_law_1650 (by decide) (by decide) (fun hq9 => absurd rfl hq9) (fun _ => ?_)
    refine z_aload_n dL_law_1653 rfl ?_
    refine z_iconst (v := nI 0) dL_law_1654 rfl ?_
    refine z_lald (j := 112) (N := 1) (i := nI 0) dL_law_1655 (by omega) hj19 (vp_in_nI (by decide) (by decide)) ?_
    refine z_eq (st' := [.long ((nI (spRank (gT S.1) S.1.length (xs (i + 1)).toInt).toNat).toInt64)]) rfl (by rw [nI_clamp (by decide)]; simp [vp_updL]) rfl ?_
    refine z_iload dL_law_1656 rfl ?_
    refine z_i2l dL_law_1658 ?_
    refine z_lcmp dL_law_1659 ?_
    refine z_eq (st' := [.int (nI 0)]) rfl (by rw [hr16, lg_self]) rfl ?_
    refine z_if_eq_n (a := 0) (tgt := 1665) dL_law_1660 (by decide) (by decide) (fun _ => ?_) (fun hq9 => absurd rfl hq9)
    refine z_goto (tgt := 2848) dL_law_1665 (by decide) ?_
    refine z_sub (lv' := [(0, .ref ar), (1, .ref (za g 0)), (2, .ref (za g 101)), (3, .ref (za g 112)), (4, .ref (za g 113)), (5, .int (nI (i)))]) [0, 1, 2, 3, 4, 5] rfl ?_
    exact zTr_wd (by simp only [zR]; omega) (by simp only [zR]; omega) (kk _ _ _ _ _ _ _ _ ⟨hz, hx18, ⟨_, hm15⟩, ⟨_, hj19⟩, ⟨_, hq20⟩⟩)
  · (first | rw [if_neg hF, if_neg hF] at hx4 | rw [if_neg hF] at hx4 | skip)
    rw [if_neg hF] at hj5
    have hk0 : rwP [4] (if spRank (gT S.1) S.1.length (xs (i + 1)).toInt < 0 then 4 else 0) ≠ 0 := by revert hF; (try simp only [spF, fPass, fRest, fIv, fMod, fRep, fPas, fMark, fWin, plc, rwP]); (repeat' split) <;> first | rfl | omega | (intro hF; omega) | contradiction | (intros; contradiction) | (simp; done) | (simp_all; done) | (intros; exfalso; simp_all; done)
    refine z_istore (lv' := [(0, .ref ar), (1, .ref (za g 0)), (2, .ref (za g 101)), (3, .ref (za g 112)), (4, .ref (za g 113)), (5, .int (nI (i))), (6, .int (nI (rwP [4] (if spRank (gT S.1) S.1.length (xs (i + 1)).toInt < 0 then 4 else 0))))]) dL_law_1623 (by decide) rfl ?_
    refine z_aload_n dL_law_1625 rfl ?_
    refine z_aload_n dL_law_1626 rfl ?_
    refine z_iload dL_law_1627 rfl ?_
    refine z_iconst (v := nI 1) dL_law_1629 rfl ?_
    refine z_iadd_n (a := i) (b := 1) dL_law_1630 ?_
    refine z_tabI (a := i + 1) (v := .int (xs (i + 1))) dL_law_1631 hT (by omega) (by omega) rfl ?_
    have hc31 := c_X13_restStartByLength (b := 101) h0 hm7 (x := (xs (i + 1)))
    obtain ⟨fs23, hfs24⟩ := hm7.cell
    refine z_callV (As := [.int (xs (i + 1))]) (rest := []) (b := 101) (ci := 12) (R2 := zR 5 0) dL_law_1632 kV_RL_251 rfl ⟨⟨by decide, by decide⟩, by show _ ≤ 603072; simp only [zR]; omega, by show _ ≤ 7207018; simp only [zR]; omega⟩ (by omega) hfs24 rfl rfl rfl (Nat.le_of_ble_eq_true rfl) rfl hc31 (fun E w1 hp => by obtain ⟨_, e, _⟩ := hp; cases e) (fun v w25 hp => ?_)
    obtain ⟨r26, he27, hf28, hm29, hr30⟩ := hp
    cases he27
    have hT1 : (((if spRank (gT S.1) S.1.length (xs (i + 1)).toInt < 0 then 1 else 0))) = rwP [4] (if spRank (gT S.1) S.1.length (xs (i + 1)).toInt < 0 then 4 else 0) := by revert hF; (try simp only [spF, fPass, fRest, fIv, fMod, fRep, fPas, fMark, fWin, plc, rwP]); (repeat' split) <;> first | rfl | omega | (intro hF; omega) | contradiction | (intros; contradiction) | (simp; done) | (simp_all; done) | (intros; exfalso; simp_all; done)
    rw [hT1] at hm29
    (try rw [if_neg hk0] at hm29)
    have hx32 := hx4.fr hf28 (Or.inl (by omega))
    have hj33 := (hf28 112 (by omega)).trans hj5
    have hq34 := (hf28 113 (by omega)).trans hq8
    refine z_istore (lv' := [(0, .ref ar), (1, .ref (za g 0)), (2, .ref (za g 101)), (3, .ref (za g 112)), (4, .ref (za g 113)), (5, .int (nI (i))), (6, .int (nI (rwP [4] (if spRank (gT S.1) S.1.length (xs (i + 1)).toInt < 0 then 4 else 0)))), (7, .int (r26))]) dL_law_1635 (by decide) rfl ?_
    refine z_aload_n dL_law_1637 rfl ?_
    obtain ⟨fs35, hfs36⟩ := hm29.cell
    refine z_callE (As := []) (rest := []) (b := 101) (ci := 12) (v := some (.int (nI (rwP [4] (if spRank (gT S.1) S.1.length (xs (i + 1)).toInt < 0 then 4 else 0))))) (R2 := zR 0 0) dL_law_1638 kV_RL_156 rfl ⟨⟨by decide, by decide⟩, by show _ ≤ 603072; simp only [zR]; omega, by show _ ≤ 7207018; simp only [zR]; omega⟩ (by omega) hfs36 rfl rfl rfl (Nat.le_of_ble_eq_true rfl) rfl (Mq.th h0 hm29) ?_
    refine z_iload dL_law_1641 rfl ?_
    refine z_icmp_eq_n (a := rwP [4] (if spRank (gT S.1) S.1.length (xs (i + 1)).toInt < 0 then 4 else 0)) (b := rwP [4] (if spRank (gT S.1) S.1.length (xs (i + 1)).toInt < 0 then 4 else 0)) (tgt := 1648) dL_law_1643 (by decide) (by simp only [rwP]; (repeat' split) <;> omega) (by simp only [rwP]; (repeat' split) <;> omega) (fun _ => ?_) (fun hq9 => absurd rfl hq9)
    refine z_iload dL_law_1648 rfl ?_
    refine z_if_ne_n (a := rwP [4] (if spRank (gT S.1) S.1.length (xs (i + 1)).toInt < 0 then 4 else 0)) (tgt := 1665) dL_law_1650 (by decide) (by simp only [rwP]; (repeat' split) <;> omega) (fun _ => ?_) (fun hq9 => absurd hq9 hk0)
    refine z_goto (tgt := 2848) dL_law_1665 (by decide) ?_
    refine z_sub (lv' := [(0, .ref ar), (1, .ref (za g 0)), (2, .ref (za g 101)), (3, .ref (za g 112)), (4, .ref (za g 113)), (5, .int (nI (i)))]) [0, 1, 2, 3, 4, 5] rfl ?_
    exact zTr_wd (by simp only [zR]; omega) (by simp only [zR]; omega) (kk _ _ _ _ _ _ _ _ ⟨hz, hx32, ⟨_, hm29⟩, ⟨_, hj33⟩, ⟨_, hq34⟩⟩)
set_option maxRecDepth 100000 in
set_option maxHeartbeats 4000000 in
theorem lw_case_28 {g : zGT} {w : zW} {S : zSt} {Hs : List zSt} {Sn : Option zSt} {I O : List Nat} {ep fc : Int32} {ar N i ce sl : Nat} {xs : Nat → Int32} {Post : zP} (h0 : zG0 g) (h1 : zST g) (hN : zNC g) (hT : va_T .int ar N (fun j => .int (xs j)) (zA g) (zs g) (zs g).heap) (hL : LwI g w S Hs Sn I O ep fc) (hi : i + 3 < N) (hN9 : N ≤ 2048) (hce : ce + 2 ≤ 603072) (hsl : sl + 12 ≤ 7207018) (kk : ∀ (w' : zW) (S' : zSt) (Hs' : List zSt) (Sn' : Option zSt) (I' O' : List Nat) (ep' fc' : Int32), LwI g w' S' Hs' Sn' I' O' ep' fc' → zTr g mL_law room_1 (ce + 2) (sl + 12) 2848 [(0, .ref ar), (1, .ref (za g 0)), (2, .ref (za g 101)), (3, .ref (za g 112)), (4, .ref (za g 113)), (5, .int (nI (i)))] [] w' Post) : zTr g mL_law room_1 ce sl 1668 [(0, .ref ar), (1, .ref (za g 0)), (2, .ref (za g 101)), (3, .ref (za g 112)), (4, .ref (za g 113)), (5, .int (nI (i)))] [] w Post := by
  obtain ⟨hz, hR0, ⟨t0, hM0⟩, ⟨fJ, hJ0⟩, ⟨fQ, hQ0⟩⟩ := hL
  refine z_aload_n dL_law_1668 rfl ?_
  refine z_aload_n dL_law_1669 rfl ?_
  refine z_iload dL_law_1670 rfl ?_
  refine z_iconst (v := nI 1) dL_law_1672 rfl ?_
  refine z_iadd_n (a := i) (b := 1) dL_law_1673 ?_
  refine z_tabI (a := i + 1) (v := .int (xs (i + 1))) dL_law_1674 hT (by omega) (by omega) rfl ?_
  refine z_aload_n dL_law_1675 rfl ?_
  have hc6 := c_L_nextChange (b := 0) (c9 := 112) h0 h1 hN hR0 (by omega) (by omega) hJ0 (x := (xs (i + 1)))
  refine z_callSH (As := [.ref (za g 0), .int (xs (i + 1)), .ref (za g 112)]) (rest := []) (R2 := zR 9 2) dL_law_1676 kSH_252 rfl ⟨⟨by decide, by decide⟩, by show _ ≤ 603072; simp only [zR]; omega, by show _ ≤ 7207018; simp only [zR]; omega⟩ rfl (Nat.le_of_ble_eq_true rfl) rfl hc6 (fun E w1 hp => by obtain ⟨e, _⟩ := hp; cases e) (fun v w1 hp => ?_)
  obtain ⟨he2, hf3, hx4, hj5⟩ := hp
  cases he2
  have hm7 := hM0.eq (w1 := w1) (fun k h8 h9 => hf3 k (by omega) (by omega))
  have hq8 := (hf3 113 (by omega) (by omega)).trans hQ0
  by_cases hF : (if 0 ≤ (xs (i + 1)).toInt ∧ (xs (i + 1)).toInt < S.1.length then (if spNext (gT S.1) S.1.length (xs (i + 1)).toInt.toNat < 0 then 4 else 0) else 1) = 0
  · refine z_eq (st' := [.int (nI 0)]) rfl (by rw [hF]; rfl) rfl ?_
    (try rw [hF] at hx4)
    rw [hF] at hj5
    (try simp only [↓reduceIte] at hx4)
    simp only [↓reduceIte] at hj5
    refine z_istore (lv' := [(0, .ref ar), (1, .ref (za g 0)), (2, .ref (za g 101)), (3, .ref (za g 112)), (4, .ref (za g 113)), (5, .int (nI (i))), (6, .int (nI (0)))]) dL_law_1679 (by decide) rfl ?_
    refine z_aload_n dL_law_1681 rfl ?_
    refine z_aload_n dL_law_1682 rfl ?_
    refine z_iload dL_law_1683 rfl ?_
    refine z_iconst (v := nI 1) dL_law_1685 rfl ?_
    refine z_iadd_n (a := i) (b := 1) dL_law_1686 ?_
    refine z_tabI (a := i + 1) (v := .int (xs (i + 1))) dL_law_1687 hT (by omega) (by omega) rfl ?_
    have hc17 := c_X13_nextChange (b := 101) h0 hm7 (x := (xs (i + 1)))
    obtain ⟨fs9, hfs10⟩ := hm7.cell
    refine z_callV (As := [.int (xs (i + 1))]) (rest := []) (b := 101) (ci := 12) (R2 := zR 4 0) dL_law_1688 kV_RL_254 rfl ⟨⟨by decide, by decide⟩, by show _ ≤ 603072; simp only [zR]; omega, by show _ ≤ 7207018; simp only [zR]; omega⟩ (by omega) hfs10 rfl rfl rfl (Nat.le_of_ble_eq_true rfl) rfl hc17 (fun E w1 hp => by obtain ⟨_, e, _⟩ := hp; cases e) (fun v w11 hp => ?_)
    obtain ⟨r12, he13, hf14, hm15, hr16⟩ := hp
    cases he13
    have hT0 : (((if 0 ≤ (xs (i + 1)).toInt ∧ (xs (i + 1)).toInt < (S.1.length : Nat) then (if spNext (gT S.1) S.1.length (xs (i + 1)).toInt.toNat < 0 then 2 else 0) else 1))) = 0 := by revert hF; (try simp only [spF, fPass, fRest, fIv, fMod, fRep, fPas, fMark, fWin, plc, rwP]); (repeat' split) <;> first | rfl | omega | (intro hF; omega) | contradiction | (intros; contradiction) | (simp; done) | (simp_all; done) | (intros; exfalso; simp_all; done)
    replace hr16 := hr16 (by first | exact hF | exact hT0 | (refine Decidable.byContradiction fun z => ?_; rw [if_neg z] at hT0; exact absurd hT0 (by decide)))
    rw [hT0] at hm15
    (try simp only [↓reduceIte] at hm15)
    have hx18 := hx4.fr hf14 (Or.inl (by omega))
    have hj19 := (hf14 112 (by omega)).trans hj5
    have hq20 := (hf14 113 (by omega)).trans hq8
    refine z_istore (lv' := [(0, .ref ar), (1, .ref (za g 0)), (2, .ref (za g 101)), (3, .ref (za g 112)), (4, .ref (za g 113)), (5, .int (nI (i))), (6, .int (nI (0))), (7, .int (r12))]) dL_law_1691 (by decide) rfl ?_
    refine z_aload_n dL_law_1693 rfl ?_
    obtain ⟨fs21, hfs22⟩ := hm15.cell
    refine z_callE (As := []) (rest := []) (b := 101) (ci := 12) (v := some (.int (nI (0)))) (R2 := zR 0 0) dL_law_1694 kV_RL_156 rfl ⟨⟨by decide, by decide⟩, by show _ ≤ 603072; simp only [zR]; omega, by show _ ≤ 7207018; simp only [zR]; omega⟩ (by omega) hfs22 rfl rfl rfl (Nat.le_of_ble_eq_true rfl) rfl (Mq.th h0 hm15) ?_
    refine z_iload dL_law_1697 rfl ?_
    refine z_icmp_eq_n (a := 0) (b := 0) (tgt := 1704) dL_law_1699 (by decide) (by omega) (by omega) (fun _ => ?_) (fun hq9 => absurd rfl hq9)
    refine z_iload dL_law_1704 rfl ?_
    refine z_if_ne_n (a := 0) (tgt := 1721) dL_law_1706 (by decide) (by decide) (fun hq9 => absurd rfl hq9) (fun _ => ?_)
    refine z_aload_n dL_law_1709 rfl ?_
    refine z_iconst (v := nI 0) dL_law_1710 rfl ?_
    refine z_lald (j := 112) (N := 1) (i := nI 0) dL_law_1711 (by omega) hj19 (vp_in_nI (by decide) (by decide)) ?_
    refine z_eq (st' := [.long ((nI (spNext (gT S.1) S.1.length (xs (i + 1)).toInt.toNat).toNat).toInt64)]) rfl (by rw [nI_clamp (by decide)]; simp [vp_updL]) rfl ?_
    refine z_iload dL_law_1712 rfl ?_
    refine z_i2l dL_law_1714 ?_
    refine z_lcmp dL_law_1715 ?_
    refine z_eq (st' := [.int (nI 0)]) rfl (by rw [hr16, lg_self]) rfl ?_
    refine z_if_eq_n (a := 0) (tgt := 1721) dL_law_1716 (by decide) (by decide) (fun _ => ?_) (fun hq9 => absurd rfl hq9)
    refine z_goto (tgt := 2848) dL_law_1721 (by decide) ?_
    refine z_sub (lv' := [(0, .ref ar), (1, .ref (za g 0)), (2, .ref (za g 101)), (3, .ref (za g 112)), (4, .ref (za g 113)), (5, .int (nI (i)))]) [0, 1, 2, 3, 4, 5] rfl ?_
    exact zTr_wd (by simp only [zR]; omega) (by simp only [zR]; omega) (kk _ _ _ _ _ _ _ _ ⟨hz, hx18, ⟨_, hm15⟩, ⟨_, hj19⟩, ⟨_, hq20⟩⟩)
  · (first | rw [if_neg hF, if_neg hF] at hx4 | rw [if_neg hF] at hx4 | skip)
    rw [if_neg hF] at hj5
    have hk0 : rwP [1, 4] (if 0 ≤ (xs (i + 1)).toInt ∧ (xs (i + 1)).toInt < S.1.length then (if spNext (gT S.1) S.1.length (xs (i + 1)).toInt.toNat < 0 then 4 else 0) else 1) ≠ 0 := by revert hF; (try simp only [spF, fPass, fRest, fIv, fMod, fRep, fPas, fMark, fWin, plc, rwP]); (repeat' split) <;> first | rfl | omega | (intro hF; omega) | contradiction | (intros; contradiction) | (simp; done) | (simp_all; done) | (intros; exfalso; simp_all; done)
    refine z_istore (lv' := [(0, .ref ar), (1, .ref (za g 0)), (2, .ref (za g 101)), (3, .ref (za g 112)), (4, .ref (za g 113)), (5, .int (nI (i))), (6, .int (nI (rwP [1, 4] (if 0 ≤ (xs (i + 1)).toInt ∧ (xs (i + 1)).toInt < S.1.length then (if spNext (gT S.1) S.1.length (xs (i + 1)).toInt.toNat < 0 then 4 else 0) else 1))))]) dL_law_1679 (by decide) rfl ?_
    refine z_aload_n dL_law_1681 rfl ?_
    refine z_aload_n dL_law_1682 rfl ?_
    refine z_iload dL_law_1683 rfl ?_
    refine z_iconst (v := nI 1) dL_law_1685 rfl ?_
    refine z_iadd_n (a := i) (b := 1) dL_law_1686 ?_
    refine z_tabI (a := i + 1) (v := .int (xs (i + 1))) dL_law_1687 hT (by omega) (by omega) rfl ?_
    have hc31 := c_X13_nextChange (b := 101) h0 hm7 (x := (xs (i + 1)))
    obtain ⟨fs23, hfs24⟩ := hm7.cell
    refine z_callV (As := [.int (xs (i + 1))]) (rest := []) (b := 101) (ci := 12) (R2 := zR 4 0) dL_law_1688 kV_RL_254 rfl ⟨⟨by decide, by decide⟩, by show _ ≤ 603072; simp only [zR]; omega, by show _ ≤ 7207018; simp only [zR]; omega⟩ (by omega) hfs24 rfl rfl rfl (Nat.le_of_ble_eq_true rfl) rfl hc31 (fun E w1 hp => by obtain ⟨_, e, _⟩ := hp; cases e) (fun v w25 hp => ?_)
    obtain ⟨r26, he27, hf28, hm29, hr30⟩ := hp
    cases he27
    have hT1 : (((if 0 ≤ (xs (i + 1)).toInt ∧ (xs (i + 1)).toInt < (S.1.length : Nat) then (if spNext (gT S.1) S.1.length (xs (i + 1)).toInt.toNat < 0 then 2 else 0) else 1))) = rwP [1, 4] (if 0 ≤ (xs (i + 1)).toInt ∧ (xs (i + 1)).toInt < S.1.length then (if spNext (gT S.1) S.1.length (xs (i + 1)).toInt.toNat < 0 then 4 else 0) else 1) := by revert hF; (try simp only [spF, fPass, fRest, fIv, fMod, fRep, fPas, fMark, fWin, plc, rwP]); (repeat' split) <;> first | rfl | omega | (intro hF; omega) | contradiction | (intros; contradiction) | (simp; done) | (simp_all; done) | (intros; exfalso; simp_all; done)
    rw [hT1] at hm29
    (try rw [if_neg hk0] at hm29)
    have hx32 := hx4.fr hf28 (Or.inl (by omega))
    have hj33 := (hf28 112 (by omega)).trans hj5
    have hq34 := (hf28 113 (by omega)).trans hq8
    refine z_istore (lv' := [(0, .ref ar), (1, .ref (za g 0)), (2, .ref (za g 101)), (3, .ref (za g 112)), (4, .ref (za g 113)), (5, .int (nI (i))), (6, .int (nI (rwP [1, 4] (if 0 ≤ (xs (i + 1)).toInt ∧ (xs (i + 1)).toInt < S.1.length then (if spNext (gT S.1) S.1.length (xs (i + 1)).toInt.toNat < 0 then 4 else 0) else 1)))), (7, .int (r26))]) dL_law_1691 (by decide) rfl ?_
    refine z_aload_n dL_law_1693 rfl ?_
    obtain ⟨fs35, hfs36⟩ := hm29.cell
    refine z_callE (As := []) (rest := []) (b := 101) (ci := 12) (v := some (.int (nI (rwP [1, 4] (if 0 ≤ (xs (i + 1)).toInt ∧ (xs (i + 1)).toInt < S.1.length then (if spNext (gT S.1) S.1.length (xs (i + 1)).toInt.toNat < 0 then 4 else 0) else 1))))) (R2 := zR 0 0) dL_law_1694 kV_RL_156 rfl ⟨⟨by decide, by decide⟩, by show _ ≤ 603072; simp only [zR]; omega, by show _ ≤ 7207018; simp only [zR]; omega⟩ (by omega) hfs36 rfl rfl rfl (Nat.le_of_ble_eq_true rfl) rfl (Mq.th h0 hm29) ?_
    refine z_iload dL_law_1697 rfl ?_
    refine z_icmp_eq_n (a := rwP [1, 4] (if 0 ≤ (xs (i + 1)).toInt ∧ (xs (i + 1)).toInt < S.1.length then (if spNext (gT S.1) S.1.length (xs (i + 1)).toInt.toNat < 0 then 4 else 0) else 1)) (b := rwP [1, 4] (if 0 ≤ (xs (i + 1)).toInt ∧ (xs (i + 1)).toInt < S.1.length then (if spNext (gT S.1) S.1.length (xs (i + 1)).toInt.toNat < 0 then 4 else 0) else 1)) (tgt := 1704) dL_law_1699 (by decide) (by simp only [rwP]; (repeat' split) <;> omega) (by simp only [rwP]; (repeat' split) <;> omega) (fun _ => ?_) (fun hq9 => absurd rfl hq9)
    refine z_iload dL_law_1704 rfl ?_
    refine z_if_ne_n (a := rwP [1, 4] (if 0 ≤ (xs (i + 1)).toInt ∧ (xs (i + 1)).toInt < S.1.length then (if spNext (gT S.1) S.1.length (xs (i + 1)).toInt.toNat < 0 then 4 else 0) else 1)) (tgt := 1721) dL_law_1706 (by decide) (by simp only [rwP]; (repeat' split) <;> omega) (fun _ => ?_) (fun hq9 => absurd hq9 hk0)
    refine z_goto (tgt := 2848) dL_law_1721 (by decide) ?_
    refine z_sub (lv' := [(0, .ref ar), (1, .ref (za g 0)), (2, .ref (za g 101)), (3, .ref (za g 112)), (4, .ref (za g 113)), (5, .int (nI (i)))]) [0, 1, 2, 3, 4, 5] rfl ?_
    exact zTr_wd (by simp only [zR]; omega) (by simp only [zR]; omega) (kk _ _ _ _ _ _ _ _ ⟨hz, hx32, ⟨_, hm29⟩, ⟨_, hj33⟩, ⟨_, hq34⟩⟩)
set_option maxRecDepth 100000 in
set_option maxHeartbeats 4000000 in
theorem lw_case_29 {g : zGT} {w : zW} {S : zSt} {Hs : List zSt} {Sn : Option zSt} {I O : List Nat} {ep fc : Int32} {ar N i ce sl : Nat} {xs : Nat → Int32} {Post : zP} (h0 : zG0 g) (h1 : zST g) (hN : zNC g) (hT : va_T .int ar N (fun j => .int (xs j)) (zA g) (zs g) (zs g).heap) (hL : LwI g w S Hs Sn I O ep fc) (hi : i + 3 < N) (hN9 : N ≤ 2048) (hce : ce + 2 ≤ 603072) (hsl : sl + 12 ≤ 7207018) (kk : ∀ (w' : zW) (S' : zSt) (Hs' : List zSt) (Sn' : Option zSt) (I' O' : List Nat) (ep' fc' : Int32), LwI g w' S' Hs' Sn' I' O' ep' fc' → zTr g mL_law room_1 (ce + 2) (sl + 12) 2848 [(0, .ref ar), (1, .ref (za g 0)), (2, .ref (za g 101)), (3, .ref (za g 112)), (4, .ref (za g 113)), (5, .int (nI (i)))] [] w' Post) : zTr g mL_law room_1 ce sl 1724 [(0, .ref ar), (1, .ref (za g 0)), (2, .ref (za g 101)), (3, .ref (za g 112)), (4, .ref (za g 113)), (5, .int (nI (i)))] [] w Post := by
  obtain ⟨hz, hR0, ⟨t0, hM0⟩, ⟨fJ, hJ0⟩, ⟨fQ, hQ0⟩⟩ := hL
  refine z_aload_n dL_law_1724 rfl ?_
  refine z_aload_n dL_law_1725 rfl ?_
  refine z_iload dL_law_1726 rfl ?_
  refine z_iconst (v := nI 1) dL_law_1728 rfl ?_
  refine z_iadd_n (a := i) (b := 1) dL_law_1729 ?_
  refine z_tabI (a := i + 1) (v := .int (xs (i + 1))) dL_law_1730 hT (by omega) (by omega) rfl ?_
  refine z_aload_n dL_law_1731 rfl ?_
  refine z_iload dL_law_1732 rfl ?_
  refine z_iconst (v := nI 2) dL_law_1734 rfl ?_
  refine z_iadd_n (a := i) (b := 2) dL_law_1735 ?_
  refine z_tabI (a := i + 2) (v := .int (xs (i + 2))) dL_law_1736 hT (by omega) (by omega) rfl ?_
  refine z_aload_n dL_law_1737 rfl ?_
  have hc6 := c_L_findRun (b := 0) (c9 := 112) h0 h1 hN hR0 (by omega) (by omega) hJ0 (x := (xs (i + 1))) (y := (xs (i + 2)))
  refine z_callSH (As := [.ref (za g 0), .int (xs (i + 1)), .int (xs (i + 2)), .ref (za g 112)]) (rest := []) (R2 := zR 9 2) dL_law_1738 kSH_255 rfl ⟨⟨by decide, by decide⟩, by show _ ≤ 603072; simp only [zR]; omega, by show _ ≤ 7207018; simp only [zR]; omega⟩ rfl (Nat.le_of_ble_eq_true rfl) rfl hc6 (fun E w1 hp => by obtain ⟨e, _⟩ := hp; cases e) (fun v w1 hp => ?_)
  obtain ⟨he2, hf3, hx4, hj5⟩ := hp
  cases he2
  have hm7 := hM0.eq (w1 := w1) (fun k h8 h9 => hf3 k (by omega) (by omega))
  have hq8 := (hf3 113 (by omega) (by omega)).trans hQ0
  by_cases hF : (if (0 ≤ (xs (i + 1)).toInt ∧ (xs (i + 1)).toInt ≤ 9) ∧ 1 ≤ (xs (i + 2)).toInt then (if spFind (gT S.1) S.1.length (xs (i + 1)).toInt.toNat (xs (i + 2)).toInt < 0 then 4 else 0) else 2) = 0
  · refine z_eq (st' := [.int (nI 0)]) rfl (by rw [hF]; rfl) rfl ?_
    (try rw [hF] at hx4)
    rw [hF] at hj5
    (try simp only [↓reduceIte] at hx4)
    simp only [↓reduceIte] at hj5
    refine z_istore (lv' := [(0, .ref ar), (1, .ref (za g 0)), (2, .ref (za g 101)), (3, .ref (za g 112)), (4, .ref (za g 113)), (5, .int (nI (i))), (6, .int (nI (0)))]) dL_law_1741 (by decide) rfl ?_
    refine z_aload_n dL_law_1743 rfl ?_
    refine z_aload_n dL_law_1744 rfl ?_
    refine z_iload dL_law_1745 rfl ?_
    refine z_iconst (v := nI 1) dL_law_1747 rfl ?_
    refine z_iadd_n (a := i) (b := 1) dL_law_1748 ?_
    refine z_tabI (a := i + 1) (v := .int (xs (i + 1))) dL_law_1749 hT (by omega) (by omega) rfl ?_
    refine z_aload_n dL_law_1750 rfl ?_
    refine z_iload dL_law_1751 rfl ?_
    refine z_iconst (v := nI 2) dL_law_1753 rfl ?_
    refine z_iadd_n (a := i) (b := 2) dL_law_1754 ?_
    refine z_tabI (a := i + 2) (v := .int (xs (i + 2))) dL_law_1755 hT (by omega) (by omega) rfl ?_
    have hc17 := c_X13_findRun (b := 101) h0 hm7 (x := (xs (i + 1))) (y := (xs (i + 2)))
    obtain ⟨fs9, hfs10⟩ := hm7.cell
    refine z_callV (As := [.int (xs (i + 1)), .int (xs (i + 2))]) (rest := []) (b := 101) (ci := 12) (R2 := zR 4 0) dL_law_1756 kV_RL_257 rfl ⟨⟨by decide, by decide⟩, by show _ ≤ 603072; simp only [zR]; omega, by show _ ≤ 7207018; simp only [zR]; omega⟩ (by omega) hfs10 rfl rfl rfl (Nat.le_of_ble_eq_true rfl) rfl hc17 (fun E w1 hp => by obtain ⟨_, e, _⟩ := hp; cases e) (fun v w11 hp => ?_)
    obtain ⟨r12, he13, hf14, hm15, hr16⟩ := hp
    cases he13
    have hT0 : (((if (0 ≤ (xs (i + 1)).toInt ∧ (xs (i + 1)).toInt ≤ 9) ∧ 1 ≤ (xs (i + 2)).toInt then (if spFind (gT S.1) S.1.length (xs (i + 1)).toInt.toNat (xs (i + 2)).toInt < 0 then 2 else 0) else 1))) = 0 := by revert hF; (try simp only [spF, fPass, fRest, fIv, fMod, fRep, fPas, fMark, fWin, plc, rwP]); (repeat' split) <;> first | rfl | omega | (intro hF; omega) | contradiction | (intros; contradiction) | (simp; done) | (simp_all; done) | (intros; exfalso; simp_all; done)
    replace hr16 := hr16 (by first | exact hF | exact hT0 | (refine Decidable.byContradiction fun z => ?_; rw [if_neg z] at hT0; exact absurd hT0 (by decide)))
    rw [hT0] at hm15
    (try simp only [↓reduceIte] at hm15)
    have hx18 := hx4.fr hf14 (Or.inl (by omega))
    have hj19 := (hf14 112 (by omega)).trans hj5
    have hq20 := (hf14 113 (by omega)).trans hq8
    refine z_istore (lv' := [(0, .ref ar), (1, .ref (za g 0)), (2, .ref (za g 101)), (3, .ref (za g 112)), (4, .ref (za g 113)), (5, .int (nI (i))), (6, .int (nI (0))), (7, .int (r12))]) dL_law_1759 (by decide) rfl ?_
    refine z_aload_n dL_law_1761 rfl ?_
    obtain ⟨fs21, hfs22⟩ := hm15.cell
    refine z_callE (As := []) (rest := []) (b := 101) (ci := 12) (v := some (.int (nI (0)))) (R2 := zR 0 0) dL_law_1762 kV_RL_156 rfl ⟨⟨by decide, by decide⟩, by show _ ≤ 603072; simp only [zR]; omega, by show _ ≤ 7207018; simp only [zR]; omega⟩ (by omega) hfs22 rfl rfl rfl (Nat.le_of_ble_eq_true rfl) rfl (Mq.th h0 hm15) ?_
    refine z_iload dL_law_1765 rfl ?_
    refine z_icmp_eq_n (a := 0) (b := 0) (tgt := 1772) dL_law_1767 (by decide) (by omega) (by omega) (fun _ => ?_) (fun hq9 => absurd rfl hq9)
    refine z_iload dL_law_1772 rfl ?_
    refine z_if_ne_n (a := 0) (tgt := 1789) dL_law_1774 (by decide) (by decide) (fun hq9 => absurd rfl hq9) (fun _ => ?_)
    refine z_aload_n dL_law_1777 rfl ?_
    refine z_iconst (v := nI 0) dL_law_1778 rfl ?_
    refine z_lald (j := 112) (N := 1) (i := nI 0) dL_law_1779 (by omega) hj19 (vp_in_nI (by decide) (by decide)) ?_
    refine z_eq (st' := [.long ((nI (cS (gT S.1) (spFind (gT S.1) S.1.length (xs (i + 1)).toInt.toNat (xs (i + 2)).toInt).toNat)).toInt64)]) rfl (by rw [nI_clamp (by decide)]; simp [vp_updL]) rfl ?_
    refine z_iload dL_law_1780 rfl ?_
    refine z_i2l dL_law_1782 ?_
    refine z_lcmp dL_law_1783 ?_
    refine z_eq (st' := [.int (nI 0)]) rfl (by rw [hr16, lg_self]) rfl ?_
    refine z_if_eq_n (a := 0) (tgt := 1789) dL_law_1784 (by decide) (by decide) (fun _ => ?_) (fun hq9 => absurd rfl hq9)
    refine z_goto (tgt := 2848) dL_law_1789 (by decide) ?_
    refine z_sub (lv' := [(0, .ref ar), (1, .ref (za g 0)), (2, .ref (za g 101)), (3, .ref (za g 112)), (4, .ref (za g 113)), (5, .int (nI (i)))]) [0, 1, 2, 3, 4, 5] rfl ?_
    exact zTr_wd (by simp only [zR]; omega) (by simp only [zR]; omega) (kk _ _ _ _ _ _ _ _ ⟨hz, hx18, ⟨_, hm15⟩, ⟨_, hj19⟩, ⟨_, hq20⟩⟩)
  · (first | rw [if_neg hF, if_neg hF] at hx4 | rw [if_neg hF] at hx4 | skip)
    rw [if_neg hF] at hj5
    have hk0 : rwP [2, 4] (if (0 ≤ (xs (i + 1)).toInt ∧ (xs (i + 1)).toInt ≤ 9) ∧ 1 ≤ (xs (i + 2)).toInt then (if spFind (gT S.1) S.1.length (xs (i + 1)).toInt.toNat (xs (i + 2)).toInt < 0 then 4 else 0) else 2) ≠ 0 := by revert hF; (try simp only [spF, fPass, fRest, fIv, fMod, fRep, fPas, fMark, fWin, plc, rwP]); (repeat' split) <;> first | rfl | omega | (intro hF; omega) | contradiction | (intros; contradiction) | (simp; done) | (simp_all; done) | (intros; exfalso; simp_all; done)
    refine z_istore (lv' := [(0, .ref ar), (1, .ref (za g 0)), (2, .ref (za g 101)), (3, .ref (za g 112)), (4, .ref (za g 113)), (5, .int (nI (i))), (6, .int (nI (rwP [2, 4] (if (0 ≤ (xs (i + 1)).toInt ∧ (xs (i + 1)).toInt ≤ 9) ∧ 1 ≤ (xs (i + 2)).toInt then (if spFind (gT S.1) S.1.length (xs (i + 1)).toInt.toNat (xs (i + 2)).toInt < 0 then 4 else 0) else 2))))]) dL_law_1741 (by decide) rfl ?_
    refine z_aload_n dL_law_1743 rfl ?_
    refine z_aload_n dL_law_1744 rfl ?_
    refine z_iload dL_law_1745 rfl ?_
    refine z_iconst (v := nI 1) dL_law_1747 rfl ?_
    refine z_iadd_n (a := i) (b := 1) dL_law_1748 ?_
    refine z_tabI (a := i + 1) (v := .int (xs (i + 1))) dL_law_1749 hT (by omega) (by omega) rfl ?_
    refine z_aload_n dL_law_1750 rfl ?_
    refine z_iload dL_law_1751 rfl ?_
    refine z_iconst (v := nI 2) dL_law_1753 rfl ?_
    refine z_iadd_n (a := i) (b := 2) dL_law_1754 ?_
    refine z_tabI (a := i + 2) (v := .int (xs (i + 2))) dL_law_1755 hT (by omega) (by omega) rfl ?_
    have hc31 := c_X13_findRun (b := 101) h0 hm7 (x := (xs (i + 1))) (y := (xs (i + 2)))
    obtain ⟨fs23, hfs24⟩ := hm7.cell
    refine z_callV (As := [.int (xs (i + 1)), .int (xs (i + 2))]) (rest := []) (b := 101) (ci := 12) (R2 := zR 4 0) dL_law_1756 kV_RL_257 rfl ⟨⟨by decide, by decide⟩, by show _ ≤ 603072; simp only [zR]; omega, by show _ ≤ 7207018; simp only [zR]; omega⟩ (by omega) hfs24 rfl rfl rfl (Nat.le_of_ble_eq_true rfl) rfl hc31 (fun E w1 hp => by obtain ⟨_, e, _⟩ := hp; cases e) (fun v w25 hp => ?_)
    obtain ⟨r26, he27, hf28, hm29, hr30⟩ := hp
    cases he27
    have hT1 : (((if (0 ≤ (xs (i + 1)).toInt ∧ (xs (i + 1)).toInt ≤ 9) ∧ 1 ≤ (xs (i + 2)).toInt then (if spFind (gT S.1) S.1.length (xs (i + 1)).toInt.toNat (xs (i + 2)).toInt < 0 then 2 else 0) else 1))) = rwP [2, 4] (if (0 ≤ (xs (i + 1)).toInt ∧ (xs (i + 1)).toInt ≤ 9) ∧ 1 ≤ (xs (i + 2)).toInt then (if spFind (gT S.1) S.1.length (xs (i + 1)).toInt.toNat (xs (i + 2)).toInt < 0 then 4 else 0) else 2) := by revert hF; (try simp only [spF, fPass, fRest, fIv, fMod, fRep, fPas, fMark, fWin, plc, rwP]); (repeat' split) <;> first | rfl | omega | (intro hF; omega) | contradiction | (intros; contradiction) | (simp; done) | (simp_all; done) | (intros; exfalso; simp_all; done)
    rw [hT1] at hm29
    (try rw [if_neg hk0] at hm29)
    have hx32 := hx4.fr hf28 (Or.inl (by omega))
    have hj33 := (hf28 112 (by omega)).trans hj5
    have hq34 := (hf28 113 (by omega)).trans hq8
    refine z_istore (lv' := [(0, .ref ar), (1, .ref (za g 0)), (2, .ref (za g 101)), (3, .ref (za g 112)), (4, .ref (za g 113)), (5, .int (nI (i))), (6, .int (nI (rwP [2, 4] (if (0 ≤ (xs (i + 1)).toInt ∧ (xs (i + 1)).toInt ≤ 9) ∧ 1 ≤ (xs (i + 2)).toInt then (if spFind (gT S.1) S.1.length (xs (i + 1)).toInt.toNat (xs (i + 2)).toInt < 0 then 4 else 0) else 2)))), (7, .int (r26))]) dL_law_1759 (by decide) rfl ?_
    refine z_aload_n dL_law_1761 rfl ?_
    obtain ⟨fs35, hfs36⟩ := hm29.cell
    refine z_callE (As := []) (rest := []) (b := 101) (ci := 12) (v := some (.int (nI (rwP [2, 4] (if (0 ≤ (xs (i + 1)).toInt ∧ (xs (i + 1)).toInt ≤ 9) ∧ 1 ≤ (xs (i + 2)).toInt then (if spFind (gT S.1) S.1.length (xs (i + 1)).toInt.toNat (xs (i + 2)).toInt < 0 then 4 else 0) else 2))))) (R2 := zR 0 0) dL_law_1762 kV_RL_156 rfl ⟨⟨by decide, by decide⟩, by show _ ≤ 603072; simp only [zR]; omega, by show _ ≤ 7207018; simp only [zR]; omega⟩ (by omega) hfs36 rfl rfl rfl (Nat.le_of_ble_eq_true rfl) rfl (Mq.th h0 hm29) ?_
    refine z_iload dL_law_1765 rfl ?_
    refine z_icmp_eq_n (a := rwP [2, 4] (if (0 ≤ (xs (i + 1)).toInt ∧ (xs (i + 1)).toInt ≤ 9) ∧ 1 ≤ (xs (i + 2)).toInt then (if spFind (gT S.1) S.1.length (xs (i + 1)).toInt.toNat (xs (i + 2)).toInt < 0 then 4 else 0) else 2)) (b := rwP [2, 4] (if (0 ≤ (xs (i + 1)).toInt ∧ (xs (i + 1)).toInt ≤ 9) ∧ 1 ≤ (xs (i + 2)).toInt then (if spFind (gT S.1) S.1.length (xs (i + 1)).toInt.toNat (xs (i + 2)).toInt < 0 then 4 else 0) else 2)) (tgt := 1772) dL_law_1767 (by decide) (by simp only [rwP]; (repeat' split) <;> omega) (by simp only [rwP]; (repeat' split) <;> omega) (fun _ => ?_) (fun hq9 => absurd rfl hq9)
    refine z_iload dL_law_1772 rfl ?_
    refine z_if_ne_n (a := rwP [2, 4] (if (0 ≤ (xs (i + 1)).toInt ∧ (xs (i + 1)).toInt ≤ 9) ∧ 1 ≤ (xs (i + 2)).toInt then (if spFind (gT S.1) S.1.length (xs (i + 1)).toInt.toNat (xs (i + 2)).toInt < 0 then 4 else 0) else 2)) (tgt := 1789) dL_law_1774 (by decide) (by simp only [rwP]; (repeat' split) <;> omega) (fun _ => ?_) (fun hq9 => absurd hq9 hk0)
    refine z_goto (tgt := 2848) dL_law_1789 (by decide) ?_
    refine z_sub (lv' := [(0, .ref ar), (1, .ref (za g 0)), (2, .ref (za g 101)), (3, .ref (za g 112)), (4, .ref (za g 113)), (5, .int (nI (i)))]) [0, 1, 2, 3, 4, 5] rfl ?_
    exact zTr_wd (by simp only [zR]; omega) (by simp only [zR]; omega) (kk _ _ _ _ _ _ _ _ ⟨hz, hx32, ⟨_, hm29⟩, ⟨_, hj33⟩, ⟨_, hq34⟩⟩)
set_option maxRecDepth 100000 in
set_option maxHeartbeats 4000000 in
theorem lw_case_30 {g : zGT} {w : zW} {S : zSt} {Hs : List zSt} {Sn : Option zSt} {I O : List Nat} {ep fc : Int32} {ar N i ce sl : Nat} {xs : Nat → Int32} {Post : zP} (h0 : zG0 g) (h1 : zST g) (hN : zNC g) (hT : va_T .int ar N (fun j => .int (xs j)) (zA g) (zs g) (zs g).heap) (hL : LwI g w S Hs Sn I O ep fc) (hi : i + 3 < N) (hN9 : N ≤ 2048) (hce : ce + 2 ≤ 603072) (hsl : sl + 12 ≤ 7207018) (kk : ∀ (w' : zW) (S' : zSt) (Hs' : List zSt) (Sn' : Option zSt) (I' O' : List Nat) (ep' fc' : Int32), LwI g w' S' Hs' Sn' I' O' ep' fc' → zTr g mL_law room_1 (ce + 2) (sl + 12) 2848 [(0, .ref ar), (1, .ref (za g 0)), (2, .ref (za g 101)), (3, .ref (za g 112)), (4, .ref (za g 113)), (5, .int (nI (i)))] [] w' Post) : zTr g mL_law room_1 ce sl 1792 [(0, .ref ar), (1, .ref (za g 0)), (2, .ref (za g 101)), (3, .ref (za g 112)), (4, .ref (za g 113)), (5, .int (nI (i)))] [] w Post := by
  obtain ⟨hz, hR0, ⟨t0, hM0⟩, ⟨fJ, hJ0⟩, ⟨fQ, hQ0⟩⟩ := hL
  refine z_aload_n dL_law_1792 rfl ?_
  refine z_aload_n dL_law_1793 rfl ?_
  refine z_iload dL_law_1794 rfl ?_
  refine z_iconst (v := nI 1) dL_law_1796 rfl ?_
  refine z_iadd_n (a := i) (b := 1) dL_law_1797 ?_
  refine z_tabI (a := i + 1) (v := .int (xs (i + 1))) dL_law_1798 hT (by omega) (by omega) rfl ?_
  refine z_aload_n dL_law_1799 rfl ?_
  have hc6 := c_L_quietestWindow (b := 0) (c9 := 112) h0 h1 hN hR0 (by omega) (by omega) hJ0 (x := (xs (i + 1)))
  refine z_callSH (As := [.ref (za g 0), .int (xs (i + 1)), .ref (za g 112)]) (rest := []) (R2 := zR 9 2) dL_law_1800 kSH_258 rfl ⟨⟨by decide, by decide⟩, by show _ ≤ 603072; simp only [zR]; omega, by show _ ≤ 7207018; simp only [zR]; omega⟩ rfl (Nat.le_of_ble_eq_true rfl) rfl hc6 (fun E w1 hp => by obtain ⟨e, _⟩ := hp; cases e) (fun v w1 hp => ?_)
  obtain ⟨he2, hf3, hx4, hj5⟩ := hp
  cases he2
  have hm7 := hM0.eq (w1 := w1) (fun k h8 h9 => hf3 k (by omega) (by omega))
  have hq8 := (hf3 113 (by omega) (by omega)).trans hQ0
  by_cases hF : (fWin S.1.length (xs (i + 1)).toInt) = 0
  · refine z_eq (st' := [.int (nI 0)]) rfl (by rw [hF]; rfl) rfl ?_
    (try rw [hF] at hx4)
    rw [hF] at hj5
    (try simp only [↓reduceIte] at hx4)
    simp only [↓reduceIte] at hj5
    refine z_istore (lv' := [(0, .ref ar), (1, .ref (za g 0)), (2, .ref (za g 101)), (3, .ref (za g 112)), (4, .ref (za g 113)), (5, .int (nI (i))), (6, .int (nI (0)))]) dL_law_1803 (by decide) rfl ?_
    refine z_aload_n dL_law_1805 rfl ?_
    refine z_aload_n dL_law_1806 rfl ?_
    refine z_iload dL_law_1807 rfl ?_
    refine z_iconst (v := nI 1) dL_law_1809 rfl ?_
    refine z_iadd_n (a := i) (b := 1) dL_law_1810 ?_
    refine z_tabI (a := i + 1) (v := .int (xs (i + 1))) dL_law_1811 hT (by omega) (by omega) rfl ?_
    have hc17 := c_X13_quietestWindow (b := 101) h0 hm7 (x := (xs (i + 1)))
    obtain ⟨fs9, hfs10⟩ := hm7.cell
    refine z_callV (As := [.int (xs (i + 1))]) (rest := []) (b := 101) (ci := 12) (R2 := zR 4 0) dL_law_1812 kV_RL_260 rfl ⟨⟨by decide, by decide⟩, by show _ ≤ 603072; simp only [zR]; omega, by show _ ≤ 7207018; simp only [zR]; omega⟩ (by omega) hfs10 rfl rfl rfl (Nat.le_of_ble_eq_true rfl) rfl hc17 (fun E w1 hp => by obtain ⟨_, e, _⟩ := hp; cases e) (fun v w11 hp => ?_)
    obtain ⟨r12, he13, hf14, hm15, hr16⟩ := hp
    cases he13
    have hT0 : (((if (xs (i + 1)).toInt < 1 then 1 else if (S.1.length : Int) < (xs (i + 1)).toInt then 2 else 0))) = 0 := by revert hF; (try simp only [spF, fPass, fRest, fIv, fMod, fRep, fPas, fMark, fWin, plc, rwP]); (repeat' split) <;> first | rfl | omega | (intro hF; omega) | contradiction | (intros; contradiction) | (simp; done) | (simp_all; done) | (intros; exfalso; simp_all; done)
    replace hr16 := hr16 (by first | exact hF | exact hT0 | (refine Decidable.byContradiction fun z => ?_; rw [if_neg z] at hT0; exact absurd hT0 (by decide)))
    rw [hT0] at hm15
    (try simp only [↓reduceIte] at hm15)
    have hx18 := hx4.fr hf14 (Or.inl (by omega))
    have hj19 := (hf14 112 (by omega)).trans hj5
    have hq20 := (hf14 113 (by omega)).trans hq8
    refine z_istore (lv' := [(0, .ref ar), (1, .ref (za g 0)), (2, .ref (za g 101)), (3, .ref (za g 112)), (4, .ref (za g 113)), (5, .int (nI (i))), (6, .int (nI (0))), (7, .int (r12))]) dL_law_1815 (by decide) rfl ?_
    refine z_aload_n dL_law_1817 rfl ?_
    obtain ⟨fs21, hfs22⟩ := hm15.cell
    refine z_callE (As := []) (rest := []) (b := 101) (ci := 12) (v := some (.int (nI (0)))) (R2 := zR 0 0) dL_law_1818 kV_RL_156 rfl ⟨⟨by decide, by decide⟩, by show _ ≤ 603072; simp only [zR]; omega, by show _ ≤ 7207018; simp only [zR]; omega⟩ (by omega) hfs22 rfl rfl rfl (Nat.le_of_ble_eq_true rfl) rfl (Mq.th h0 hm15) ?_
    refine z_iload dL_law_1821 rfl ?_
    refine z_icmp_eq_n (a := 0) (b := 0) (tgt := 1828) dL_law_1823 (by decide) (by omega) (by omega) (fun _ => ?_) (fun hq9 => absurd rfl hq9)
    refine z_iload dL_law_1828 rfl ?_
    refine z_if_ne_n (a := 0) (tgt := 1845) dL_law_1830 (by decide) (by decide) (fun hq9 => absurd rfl hq9) (fun _ => ?_)
    refine z_aload_n dL_law_1833 rfl ?_
    refine z_iconst (v := nI 0) dL_law_1834 rfl ?_
    refine z_lald (j := 112) (N := 1) (i := nI 0) dL_law_1835 (by omega) hj19 (vp_in_nI (by decide) (by decide)) ?_
    refine z_eq (st' := [.long ((nI (winB (gT S.1) (xs (i + 1)).toInt.toNat (S.1.length - (xs (i + 1)).toInt.toNat))).toInt64)]) rfl (by rw [nI_clamp (by decide)]; simp [vp_updL]) rfl ?_
    refine z_iload dL_law_1836 rfl ?_
    refine z_i2l dL_law_1838 ?_
    refine z_lcmp dL_law_1839 ?_
    refine z_eq (st' := [.int (nI 0)]) rfl (by rw [hr16, lg_self]) rfl ?_
    refine z_if_eq_n (a := 0) (tgt := 1845) dL_law_1840 (by decide) (by decide) (fun _ => ?_) (fun hq9 => absurd rfl hq9)
    refine z_goto (tgt := 2848) dL_law_1845 (by decide) ?_
    refine z_sub (lv' := [(0, .ref ar), (1, .ref (za g 0)), (2, .ref (za g 101)), (3, .ref (za g 112)), (4, .ref (za g 113)), (5, .int (nI (i)))]) [0, 1, 2, 3, 4, 5] rfl ?_
    exact zTr_wd (by simp only [zR]; omega) (by simp only [zR]; omega) (kk _ _ _ _ _ _ _ _ ⟨hz, hx18, ⟨_, hm15⟩, ⟨_, hj19⟩, ⟨_, hq20⟩⟩)
  · (first | rw [if_neg hF, if_neg hF] at hx4 | rw [if_neg hF] at hx4 | skip)
    rw [if_neg hF] at hj5
    have hk0 : rwP [2, 4] (fWin S.1.length (xs (i + 1)).toInt) ≠ 0 := by revert hF; (try simp only [spF, fPass, fRest, fIv, fMod, fRep, fPas, fMark, fWin, plc, rwP]); (repeat' split) <;> first | rfl | omega | (intro hF; omega) | contradiction | (intros; contradiction) | (simp; done) | (simp_all; done) | (intros; exfalso; simp_all; done)
    refine z_istore (lv' := [(0, .ref ar), (1, .ref (za g 0)), (2, .ref (za g 101)), (3, .ref (za g 112)), (4, .ref (za g 113)), (5, .int (nI (i))), (6, .int (nI (rwP [2, 4] (fWin S.1.length (xs (i + 1)).toInt))))]) dL_law_1803 (by decide) rfl ?_
    refine z_aload_n dL_law_1805 rfl ?_
    refine z_aload_n dL_law_1806 rfl ?_
    refine z_iload dL_law_1807 rfl ?_
    refine z_iconst (v := nI 1) dL_law_1809 rfl ?_
    refine z_iadd_n (a := i) (b := 1) dL_law_1810 ?_
    refine z_tabI (a := i + 1) (v := .int (xs (i + 1))) dL_law_1811 hT (by omega) (by omega) rfl ?_
    have hc31 := c_X13_quietestWindow (b := 101) h0 hm7 (x := (xs (i + 1)))
    obtain ⟨fs23, hfs24⟩ := hm7.cell
    refine z_callV (As := [.int (xs (i + 1))]) (rest := []) (b := 101) (ci := 12) (R2 := zR 4 0) dL_law_1812 kV_RL_260 rfl ⟨⟨by decide, by decide⟩, by show _ ≤ 603072; simp only [zR]; omega, by show _ ≤ 7207018; simp only [zR]; omega⟩ (by omega) hfs24 rfl rfl rfl (Nat.le_of_ble_eq_true rfl) rfl hc31 (fun E w1 hp => by obtain ⟨_, e, _⟩ := hp; cases e) (fun v w25 hp => ?_)
    obtain ⟨r26, he27, hf28, hm29, hr30⟩ := hp
    cases he27
    have hT1 : (((if (xs (i + 1)).toInt < 1 then 1 else if (S.1.length : Int) < (xs (i + 1)).toInt then 2 else 0))) = rwP [2, 4] (fWin S.1.length (xs (i + 1)).toInt) := by revert hF; (try simp only [spF, fPass, fRest, fIv, fMod, fRep, fPas, fMark, fWin, plc, rwP]); (repeat' split) <;> first | rfl | omega | (intro hF; omega) | contradiction | (intros; contradiction) | (simp; done) | (simp_all; done) | (intros; exfalso; simp_all; done)
    rw [hT1] at hm29
    (try rw [if_neg hk0] at hm29)
    have hx32 := hx4.fr hf28 (Or.inl (by omega))
    have hj33 := (hf28 112 (by omega)).trans hj5
    have hq34 := (hf28 113 (by omega)).trans hq8
    refine z_istore (lv' := [(0, .ref ar), (1, .ref (za g 0)), (2, .ref (za g 101)), (3, .ref (za g 112)), (4, .ref (za g 113)), (5, .int (nI (i))), (6, .int (nI (rwP [2, 4] (fWin S.1.length (xs (i + 1)).toInt)))), (7, .int (r26))]) dL_law_1815 (by decide) rfl ?_
    refine z_aload_n dL_law_1817 rfl ?_
    obtain ⟨fs35, hfs36⟩ := hm29.cell
    refine z_callE (As := []) (rest := []) (b := 101) (ci := 12) (v := some (.int (nI (rwP [2, 4] (fWin S.1.length (xs (i + 1)).toInt))))) (R2 := zR 0 0) dL_law_1818 kV_RL_156 rfl ⟨⟨by decide, by decide⟩, by show _ ≤ 603072; simp only [zR]; omega, by show _ ≤ 7207018; simp only [zR]; omega⟩ (by omega) hfs36 rfl rfl rfl (Nat.le_of_ble_eq_true rfl) rfl (Mq.th h0 hm29) ?_
    refine z_iload dL_law_1821 rfl ?_
    refine z_icmp_eq_n (a := rwP [2, 4] (fWin S.1.length (xs (i + 1)).toInt)) (b := rwP [2, 4] (fWin S.1.length (xs (i + 1)).toInt)) (tgt := 1828) dL_law_1823 (by decide) (by simp only [rwP]; (repeat' split) <;> omega) (by simp only [rwP]; (repeat' split) <;> omega) (fun _ => ?_) (fun hq9 => absurd rfl hq9)
    refine z_iload dL_law_1828 rfl ?_
    refine z_if_ne_n (a := rwP [2, 4] (fWin S.1.length (xs (i + 1)).toInt)) (tgt := 1845) dL_law_1830 (by decide) (by simp only [rwP]; (repeat' split) <;> omega) (fun _ => ?_) (fun hq9 => absurd hq9 hk0)
    refine z_goto (tgt := 2848) dL_law_1845 (by decide) ?_
    refine z_sub (lv' := [(0, .ref ar), (1, .ref (za g 0)), (2, .ref (za g 101)), (3, .ref (za g 112)), (4, .ref (za g 113)), (5, .int (nI (i)))]) [0, 1, 2, 3, 4, 5] rfl ?_
    exact zTr_wd (by simp only [zR]; omega) (by simp only [zR]; omega) (kk _ _ _ _ _ _ _ _ ⟨hz, hx32, ⟨_, hm29⟩, ⟨_, hj33⟩, ⟨_, hq34⟩⟩)
set_option maxRecDepth 100000 in
set_option maxHeartbeats 4000000 in
theorem lw_case_31 {g : zGT} {w : zW} {S : zSt} {Hs : List zSt} {Sn : Option zSt} {I O : List Nat} {ep fc : Int32} {ar N i ce sl : Nat} {xs : Nat → Int32} {Post : zP} (h0 : zG0 g) (h1 : zST g) (hN : zNC g) (hT : va_T .int ar N (fun j => .int (xs j)) (zA g) (zs g) (zs g).heap) (hL : LwI g w S Hs Sn I O ep fc) (hi : i + 3 < N) (hN9 : N ≤ 2048) (hce : ce + 2 ≤ 603072) (hsl : sl + 12 ≤ 7207018) (kk : ∀ (w' : zW) (S' : zSt) (Hs' : List zSt) (Sn' : Option zSt) (I' O' : List Nat) (ep' fc' : Int32), LwI g w' S' Hs' Sn' I' O' ep' fc' → zTr g mL_law room_1 (ce + 2) (sl + 12) 2848 [(0, .ref ar), (1, .ref (za g 0)), (2, .ref (za g 101)), (3, .ref (za g 112)), (4, .ref (za g 113)), (5, .int (nI (i)))] [] w' Post) : zTr g mL_law room_1 ce sl 1848 [(0, .ref ar), (1, .ref (za g 0)), (2, .ref (za g 101)), (3, .ref (za g 112)), (4, .ref (za g 113)), (5, .int (nI (i)))] [] w Post := by
  obtain ⟨hz, hR0, ⟨t0, hM0⟩, ⟨fJ, hJ0⟩, ⟨fQ, hQ0⟩⟩ := hL
  refine z_aload_n dL_law_1848 rfl ?_
  refine z_aload_n dL_law_1849 rfl ?_
  refine z_iload dL_law_1850 rfl ?_
  refine z_iconst (v := nI 1) dL_law_1852 rfl ?_
  refine z_iadd_n (a := i) (b := 1) dL_law_1853 ?_
  refine z_tabI (a := i + 1) (v := .int (xs (i + 1))) dL_law_1854 hT (by omega) (by omega) rfl ?_
  refine z_aload_n dL_law_1855 rfl ?_
  have hc6 := c_L_quietestWindowByTrial (b := 0) (c9 := 112) h0 h1 hN hR0 (by omega) (by omega) hJ0 (x := (xs (i + 1)))
  refine z_callSH (As := [.ref (za g 0), .int (xs (i + 1)), .ref (za g 112)]) (rest := []) (R2 := zR 9 2) dL_law_1856 kSH_261 rfl ⟨⟨by decide, by decide⟩, by show _ ≤ 603072; simp only [zR]; omega, by show _ ≤ 7207018; simp only [zR]; omega⟩ rfl (Nat.le_of_ble_eq_true rfl) rfl hc6 (fun E w1 hp => by obtain ⟨e, _⟩ := hp; cases e) (fun v w1 hp => ?_)
  obtain ⟨he2, hf3, hx4, hj5⟩ := hp
  cases he2
  have hm7 := hM0.eq (w1 := w1) (fun k h8 h9 => hf3 k (by omega) (by omega))
  have hq8 := (hf3 113 (by omega) (by omega)).trans hQ0
  by_cases hF : (fWin S.1.length (xs (i + 1)).toInt) = 0
  · refine z_eq (st' := [.int (nI 0)]) rfl (by rw [hF]; rfl) rfl ?_
    (try rw [hF] at hx4)
    rw [hF] at hj5
    (try simp only [↓reduceIte] at hx4)
    simp only [↓reduceIte] at hj5
    refine z_istore (lv' := [(0, .ref ar), (1, .ref (za g 0)), (2, .ref (za g 101)), (3, .ref (za g 112)), (4, .ref (za g 113)), (5, .int (nI (i))), (6, .int (nI (0)))]) dL_law_1859 (by decide) rfl ?_
    refine z_aload_n dL_law_1861 rfl ?_
    refine z_aload_n dL_law_1862 rfl ?_
    refine z_iload dL_law_1863 rfl ?_
    refine z_iconst (v := nI 1) dL_law_1865 rfl ?_
    refine z_iadd_n (a := i) (b := 1) dL_law_1866 ?_
    refine z_tabI (a := i + 1) (v := .int (xs (i + 1))) dL_law_1867 hT (by omega) (by omega) rfl ?_
    have hc17 := c_X13_quietestWindowByTrial (b := 101) h0 hm7 (x := (xs (i + 1)))
    obtain ⟨fs9, hfs10⟩ := hm7.cell
    refine z_callV (As := [.int (xs (i + 1))]) (rest := []) (b := 101) (ci := 12) (R2 := zR 5 0) dL_law_1868 kV_RL_263 rfl ⟨⟨by decide, by decide⟩, by show _ ≤ 603072; simp only [zR]; omega, by show _ ≤ 7207018; simp only [zR]; omega⟩ (by omega) hfs10 rfl rfl rfl (Nat.le_of_ble_eq_true rfl) rfl hc17 (fun E w1 hp => by obtain ⟨_, e, _⟩ := hp; cases e) (fun v w11 hp => ?_)
    obtain ⟨r12, he13, hf14, hm15, hr16⟩ := hp
    cases he13
    have hT0 : (((if (xs (i + 1)).toInt < 1 then 1 else if (S.1.length : Int) < (xs (i + 1)).toInt then 2 else 0))) = 0 := by revert hF; (try simp only [spF, fPass, fRest, fIv, fMod, fRep, fPas, fMark, fWin, plc, rwP]); (repeat' split) <;> first | rfl | omega | (intro hF; omega) | contradiction | (intros; contradiction) | (simp; done) | (simp_all; done) | (intros; exfalso; simp_all; done)
    replace hr16 := hr16 (by first | exact hF | exact hT0 | (refine Decidable.byContradiction fun z => ?_; rw [if_neg z] at hT0; exact absurd hT0 (by decide)))
    rw [hT0] at hm15
    (try simp only [↓reduceIte] at hm15)
    have hx18 := hx4.fr hf14 (Or.inl (by omega))
    have hj19 := (hf14 112 (by omega)).trans hj5
    have hq20 := (hf14 113 (by omega)).trans hq8
    refine z_istore (lv' := [(0, .ref ar), (1, .ref (za g 0)), (2, .ref (za g 101)), (3, .ref (za g 112)), (4, .ref (za g 113)), (5, .int (nI (i))), (6, .int (nI (0))), (7, .int (r12))]) dL_law_1871 (by decide) rfl ?_
    refine z_aload_n dL_law_1873 rfl ?_
    obtain ⟨fs21, hfs22⟩ := hm15.cell
    refine z_callE (As := []) (rest := []) (b := 101) (ci := 12) (v := some (.int (nI (0)))) (R2 := zR 0 0) dL_law_1874 kV_RL_156 rfl ⟨⟨by decide, by decide⟩, by show _ ≤ 603072; simp only [zR]; omega, by show _ ≤ 7207018; simp only [zR]; omega⟩ (by omega) hfs22 rfl rfl rfl (Nat.le_of_ble_eq_true rfl) rfl (Mq.th h0 hm15) ?_
    refine z_iload dL_law_1877 rfl ?_
    refine z_icmp_eq_n (a := 0) (b := 0) (tgt := 1884) dL_law_1879 (by decide) (by omega) (by omega) (fun _ => ?_) (fun hq9 => absurd rfl hq9)
    refine z_iload dL_law_1884 rfl ?_
    refine z_if_ne_n (a := 0) (tgt := 1901) dL_law_1886 (by decide) (by decide) (fun hq9 => absurd rfl hq9) (fun _ => ?_)
    refine z_aload_n dL_law_1889 rfl ?_
    refine z_iconst (v := nI 0) dL_law_1890 rfl ?_
    refine z_lald (j := 112) (N := 1) (i := nI 0) dL_law_1891 (by omega) hj19 (vp_in_nI (by decide) (by decide)) ?_
    refine z_eq (st' := [.long ((nI (winB (gT S.1) (xs (i + 1)).toInt.toNat (S.1.length - (xs (i + 1)).toInt.toNat))).toInt64)]) rfl (by rw [nI_clamp (by decide)]; simp [vp_updL]) rfl ?_
    refine z_iload dL_law_1892 rfl ?_
    refine z_i2l dL_law_1894 ?_
    refine z_lcmp dL_law_1895 ?_
    refine z_eq (st' := [.int (nI 0)]) rfl (by rw [hr16, lg_self]) rfl ?_
    refine z_if_eq_n (a := 0) (tgt := 1901) dL_law_1896 (by decide) (by decide) (fun _ => ?_) (fun hq9 => absurd rfl hq9)
    refine z_goto (tgt := 2848) dL_law_1901 (by decide) ?_
    refine z_sub (lv' := [(0, .ref ar), (1, .ref (za g 0)), (2, .ref (za g 101)), (3, .ref (za g 112)), (4, .ref (za g 113)), (5, .int (nI (i)))]) [0, 1, 2, 3, 4, 5] rfl ?_
    exact zTr_wd (by simp only [zR]; omega) (by simp only [zR]; omega) (kk _ _ _ _ _ _ _ _ ⟨hz, hx18, ⟨_, hm15⟩, ⟨_, hj19⟩, ⟨_, hq20⟩⟩)
  · (first | rw [if_neg hF, if_neg hF] at hx4 | rw [if_neg hF] at hx4 | skip)
    rw [if_neg hF] at hj5
    have hk0 : rwP [2, 4] (fWin S.1.length (xs (i + 1)).toInt) ≠ 0 := by revert hF; (try simp only [spF, fPass, fRest, fIv, fMod, fRep, fPas, fMark, fWin, plc, rwP]); (repeat' split) <;> first | rfl | omega | (intro hF; omega) | contradiction | (intros; contradiction) | (simp; done) | (simp_all; done) | (intros; exfalso; simp_all; done)
    refine z_istore (lv' := [(0, .ref ar), (1, .ref (za g 0)), (2, .ref (za g 101)), (3, .ref (za g 112)), (4, .ref (za g 113)), (5, .int (nI (i))), (6, .int (nI (rwP [2, 4] (fWin S.1.length (xs (i + 1)).toInt))))]) dL_law_1859 (by decide) rfl ?_
    refine z_aload_n dL_law_1861 rfl ?_
    refine z_aload_n dL_law_1862 rfl ?_
    refine z_iload dL_law_1863 rfl ?_
    refine z_iconst (v := nI 1) dL_law_1865 rfl ?_
    refine z_iadd_n (a := i) (b := 1) dL_law_1866 ?_
    refine z_tabI (a := i + 1) (v := .int (xs (i + 1))) dL_law_1867 hT (by omega) (by omega) rfl ?_
    have hc31 := c_X13_quietestWindowByTrial (b := 101) h0 hm7 (x := (xs (i + 1)))
    obtain ⟨fs23, hfs24⟩ := hm7.cell
    refine z_callV (As := [.int (xs (i + 1))]) (rest := []) (b := 101) (ci := 12) (R2 := zR 5 0) dL_law_1868 kV_RL_263 rfl ⟨⟨by decide, by decide⟩, by show _ ≤ 603072; simp only [zR]; omega, by show _ ≤ 7207018; simp only [zR]; omega⟩ (by omega) hfs24 rfl rfl rfl (Nat.le_of_ble_eq_true rfl) rfl hc31 (fun E w1 hp => by obtain ⟨_, e, _⟩ := hp; cases e) (fun v w25 hp => ?_)
    obtain ⟨r26, he27, hf28, hm29, hr30⟩ := hp
    cases he27
    have hT1 : (((if (xs (i + 1)).toInt < 1 then 1 else if (S.1.length : Int) < (xs (i + 1)).toInt then 2 else 0))) = rwP [2, 4] (fWin S.1.length (xs (i + 1)).toInt) := by revert hF; (try simp only [spF, fPass, fRest, fIv, fMod, fRep, fPas, fMark, fWin, plc, rwP]); (repeat' split) <;> first | rfl | omega | (intro hF; omega) | contradiction | (intros; contradiction) | (simp; done) | (simp_all; done) | (intros; exfalso; simp_all; done)
    rw [hT1] at hm29
    (try rw [if_neg hk0] at hm29)
    have hx32 := hx4.fr hf28 (Or.inl (by omega))
    have hj33 := (hf28 112 (by omega)).trans hj5
    have hq34 := (hf28 113 (by omega)).trans hq8
    refine z_istore (lv' := [(0, .ref ar), (1, .ref (za g 0)), (2, .ref (za g 101)), (3, .ref (za g 112)), (4, .ref (za g 113)), (5, .int (nI (i))), (6, .int (nI (rwP [2, 4] (fWin S.1.length (xs (i + 1)).toInt)))), (7, .int (r26))]) dL_law_1871 (by decide) rfl ?_
    refine z_aload_n dL_law_1873 rfl ?_
    obtain ⟨fs35, hfs36⟩ := hm29.cell
    refine z_callE (As := []) (rest := []) (b := 101) (ci := 12) (v := some (.int (nI (rwP [2, 4] (fWin S.1.length (xs (i + 1)).toInt))))) (R2 := zR 0 0) dL_law_1874 kV_RL_156 rfl ⟨⟨by decide, by decide⟩, by show _ ≤ 603072; simp only [zR]; omega, by show _ ≤ 7207018; simp only [zR]; omega⟩ (by omega) hfs36 rfl rfl rfl (Nat.le_of_ble_eq_true rfl) rfl (Mq.th h0 hm29) ?_
    refine z_iload dL_law_1877 rfl ?_
    refine z_icmp_eq_n (a := rwP [2, 4] (fWin S.1.length (xs (i + 1)).toInt)) (b := rwP [2, 4] (fWin S.1.length (xs (i + 1)).toInt)) (tgt := 1884) dL_law_1879 (by decide) (by simp only [rwP]; (repeat' split) <;> omega) (by simp only [rwP]; (repeat' split) <;> omega) (fun _ => ?_) (fun hq9 => absurd rfl hq9)
    refine z_iload dL_law_1884 rfl ?_
    refine z_if_ne_n (a := rwP [2, 4] (fWin S.1.length (xs (i + 1)).toInt)) (tgt := 1901) dL_law_1886 (by decide) (by simp only [rwP]; (repeat' split) <;> omega) (fun _ => ?_) (fun hq9 => absurd hq9 hk0)
    refine z_goto (tgt := 2848) dL_law_1901 (by decide) ?_
    refine z_sub (lv' := [(0, .ref ar), (1, .ref (za g 0)), (2, .ref (za g 101)), (3, .ref (za g 112)), (4, .ref (za g 113)), (5, .int (nI (i)))]) [0, 1, 2, 3, 4, 5] rfl ?_
    exact zTr_wd (by simp only [zR]; omega) (by simp only [zR]; omega) (kk _ _ _ _ _ _ _ _ ⟨hz, hx32, ⟨_, hm29⟩, ⟨_, hj33⟩, ⟨_, hq34⟩⟩)
