theorem rwP23 {y : Nat} : rwP [2, 3] y = 2 ↔ y = 3 := by
  simp only [rwP]
  by_cases h2 : y = 2
  · subst h2; simp
  · by_cases h3 : y = 3
    · subst h3; simp
    · simp [h2, h3]
set_option maxRecDepth 100000 in
set_option maxHeartbeats 4000000 in
theorem lw_case_48 {g : zGT} {w : zW} {S : zSt} {Hs : List zSt} {Sn : Option zSt} {I O : List Nat} {ep fc : Int32} {ar N i ce sl : Nat} {xs : Nat → Int32} {Post : zP} (h0 : zG0 g) (h1 : zST g) (hN : zNC g) (hT : va_T .int ar N (fun j => .int (xs j)) (zA g) (zs g) (zs g).heap) (hL : LwI g w S Hs Sn I O ep fc) (hi : i + 3 < N) (hN9 : N ≤ 2048) (hce : ce + 2 ≤ 603072) (hsl : sl + 12 ≤ 7207018) (kk : ∀ (w' : zW) (S' : zSt) (Hs' : List zSt) (Sn' : Option zSt) (I' O' : List Nat) (ep' fc' : Int32), LwI g w' S' Hs' Sn' I' O' ep' fc' → zTr g mL_law room_1 (ce + 2) (sl + 12) 2848 [(0, .ref ar), (1, .ref (za g 0)), (2, .ref (za g 101)), (3, .ref (za g 112)), (4, .ref (za g 113)), (5, .int (nI (i)))] [] w' Post) : zTr g mL_law room_1 ce sl 2513 [(0, .ref ar), (1, .ref (za g 0)), (2, .ref (za g 101)), (3, .ref (za g 112)), (4, .ref (za g 113)), (5, .int (nI (i)))] [] w Post := by
  obtain ⟨hz, hR0, ⟨t0, hM0⟩, ⟨fJ, hJ0⟩, ⟨fQ, hQ0⟩⟩ := hL
  refine z_aload_n dL_law_2513 rfl ?_
  refine z_aload_n dL_law_2514 rfl ?_
  refine z_iload dL_law_2515 rfl ?_
  refine z_iconst (v := nI 1) dL_law_2517 rfl ?_
  refine z_iadd_n (a := i) (b := 1) dL_law_2518 ?_
  refine z_tabI (a := i + 1) (v := .int (xs (i + 1))) dL_law_2519 hT (by omega) (by omega) rfl ?_
  refine z_i2c dL_law_2520 ?_
  refine z_eq (st' := [.int (nI ((xs (i + 1)).toBitVec.toNat % 65536)), .ref (za g 0)]) rfl (by rw [pk_char] <;> rfl) rfl ?_
  refine z_aload_n dL_law_2521 rfl ?_
  have hc6 := c_L_type (b := 0) (c9 := 112) h0 h1 hN hR0 (by omega) (by omega) hJ0 (c := ((xs (i + 1)).toBitVec.toNat % 65536)) (by omega)
  refine z_callSH (As := [.ref (za g 0), .int (nI ((xs (i + 1)).toBitVec.toNat % 65536)), .ref (za g 112)]) (rest := []) (R2 := zR 9 2) dL_law_2522 kSH_322 rfl ⟨⟨by decide, by decide⟩, by show _ ≤ 603072; simp only [zR]; omega, by show _ ≤ 7207018; simp only [zR]; omega⟩ rfl (Nat.le_of_ble_eq_true rfl) rfl hc6 (fun E w1 hp => by obtain ⟨e, _⟩ := hp; cases e) (fun v w1 hp => ?_)
  obtain ⟨he2, hf3, hx4, hj5⟩ := hp
  cases he2
  have hm7 := hM0.eq (w1 := w1) (fun k h8 h9 => hf3 k (by omega) (by omega))
  have hq8 := (hf3 113 (by omega) (by omega)).trans hQ0
  by_cases hF : (if 32 ≤ ((xs (i + 1)).toBitVec.toNat % 65536) ∧ ((xs (i + 1)).toBitVec.toNat % 65536) ≤ 126 then (if I.length < 60 then 0 else 3) else 2) = 0
  · refine z_eq (st' := [.int (nI 0)]) rfl (by rw [hF]; rfl) rfl ?_
    (try rw [hF] at hx4)
    rw [hF] at hj5
    (try simp only [↓reduceIte] at hx4)
    simp only [↓reduceIte] at hj5
    refine z_istore (lv' := [(0, .ref ar), (1, .ref (za g 0)), (2, .ref (za g 101)), (3, .ref (za g 112)), (4, .ref (za g 113)), (5, .int (nI (i))), (6, .int (nI (0)))]) dL_law_2525 (by decide) rfl ?_
    refine z_aload_n dL_law_2527 rfl ?_
    refine z_aload_n dL_law_2528 rfl ?_
    refine z_iload dL_law_2529 rfl ?_
    refine z_iconst (v := nI 1) dL_law_2531 rfl ?_
    refine z_iadd_n (a := i) (b := 1) dL_law_2532 ?_
    refine z_tabI (a := i + 1) (v := .int (xs (i + 1))) dL_law_2533 hT (by omega) (by omega) rfl ?_
    refine z_i2c dL_law_2534 ?_
    refine z_eq (st' := [.int (nI ((xs (i + 1)).toBitVec.toNat % 65536)), .ref (za g 101)]) rfl (by rw [pk_char] <;> rfl) rfl ?_
    have hc17 := c_X13_type (b := 101) h0 hm7 (c := ((xs (i + 1)).toBitVec.toNat % 65536)) (by omega)
    obtain ⟨fs9, hfs10⟩ := hm7.cell
    refine z_callV (As := [.int (nI ((xs (i + 1)).toBitVec.toNat % 65536))]) (rest := []) (b := 101) (ci := 12) (R2 := zR 4 0) dL_law_2535 kV_RL_325 rfl ⟨⟨by decide, by decide⟩, by show _ ≤ 603072; simp only [zR]; omega, by show _ ≤ 7207018; simp only [zR]; omega⟩ (by omega) hfs10 rfl rfl rfl (Nat.le_of_ble_eq_true rfl) rfl hc17 (fun E w1 hp => by obtain ⟨_, e, _⟩ := hp; cases e) (fun v w11 hp => ?_)
    obtain ⟨r12, he13, hf14, hm15, hr16⟩ := hp
    cases he13
    have hT0 : (((if 32 ≤ ((xs (i + 1)).toBitVec.toNat % 65536) ∧ ((xs (i + 1)).toBitVec.toNat % 65536) ≤ 126 then (if I.length < 60 then 0 else 2) else 1))) = 0 := by revert hF; (try simp only [spF, fPass, fRest, fIv, fMod, fRep, fPas, fMark, fWin, plc, rwP]); (repeat' split) <;> first | rfl | omega | (intro hF; omega) | contradiction | (intros; contradiction) | (simp; done) | (simp_all; done) | (intros; exfalso; simp_all; done)
    replace hr16 := hr16 (by first | exact hF | exact hT0 | (refine Decidable.byContradiction fun z => ?_; rw [if_neg z] at hT0; exact absurd hT0 (by decide)))
    rw [hT0] at hm15
    (try simp only [↓reduceIte] at hm15)
    have hx18 := hx4.fr hf14 (Or.inl (by omega))
    have hj19 := (hf14 112 (by omega)).trans hj5
    have hq20 := (hf14 113 (by omega)).trans hq8
    refine z_istore (lv' := [(0, .ref ar), (1, .ref (za g 0)), (2, .ref (za g 101)), (3, .ref (za g 112)), (4, .ref (za g 113)), (5, .int (nI (i))), (6, .int (nI (0))), (7, .int (r12))]) dL_law_2538 (by decide) rfl ?_
    refine z_aload_n dL_law_2540 rfl ?_
    obtain ⟨fs21, hfs22⟩ := hm15.cell
    refine z_callE (As := []) (rest := []) (b := 101) (ci := 12) (v := some (.int (nI (0)))) (R2 := zR 0 0) dL_law_2541 kV_RL_156 rfl ⟨⟨by decide, by decide⟩, by show _ ≤ 603072; simp only [zR]; omega, by show _ ≤ 7207018; simp only [zR]; omega⟩ (by omega) hfs22 rfl rfl rfl (Nat.le_of_ble_eq_true rfl) rfl (Mq.th h0 hm15) ?_
    refine z_iload dL_law_2544 rfl ?_
    refine z_icmp_eq_n (a := 0) (b := 0) (tgt := 2551) dL_law_2546 (by decide) (by omega) (by omega) (fun _ => ?_) (fun hq9 => absurd rfl hq9)
    refine z_iload dL_law_2551 rfl ?_
    refine z_if_ne_n (a := 0) (tgt := 2568) dL_law_2553 (by decide) (by decide) (fun hq9 => absurd rfl hq9) (fun _ => ?_)
    refine z_aload_n dL_law_2556 rfl ?_
    refine z_iconst (v := nI 0) dL_law_2557 rfl ?_
    refine z_lald (j := 112) (N := 1) (i := nI 0) dL_law_2558 (by omega) hj19 (vp_in_nI (by decide) (by decide)) ?_
    refine z_eq (st' := [.long ((nI (I.length + 1)).toInt64)]) rfl (by rw [nI_clamp (by decide)]; simp [vp_updL]) rfl ?_
    refine z_iload dL_law_2559 rfl ?_
    refine z_i2l dL_law_2561 ?_
    refine z_lcmp dL_law_2562 ?_
    refine z_eq (st' := [.int (nI 0)]) rfl (by rw [hr16, lg_self]) rfl ?_
    refine z_if_eq_n (a := 0) (tgt := 2568) dL_law_2563 (by decide) (by decide) (fun _ => ?_) (fun hq9 => absurd rfl hq9)
    refine z_goto (tgt := 2848) dL_law_2568 (by decide) ?_
    refine z_sub (lv' := [(0, .ref ar), (1, .ref (za g 0)), (2, .ref (za g 101)), (3, .ref (za g 112)), (4, .ref (za g 113)), (5, .int (nI (i)))]) [0, 1, 2, 3, 4, 5] rfl ?_
    exact zTr_wd (by simp only [zR]; omega) (by simp only [zR]; omega) (kk _ _ _ _ _ _ _ _ ⟨hz, hx18, ⟨_, hm15⟩, ⟨_, hj19⟩, ⟨_, hq20⟩⟩)
  · (first | rw [if_neg hF, if_neg hF] at hx4 | rw [if_neg hF] at hx4 | skip)
    rw [if_neg hF] at hj5
    have hk0 : rwP [2, 3] (if 32 ≤ ((xs (i + 1)).toBitVec.toNat % 65536) ∧ ((xs (i + 1)).toBitVec.toNat % 65536) ≤ 126 then (if I.length < 60 then 0 else 3) else 2) ≠ 0 := by revert hF; (try simp only [spF, fPass, fRest, fIv, fMod, fRep, fPas, fMark, fWin, plc, rwP]); (repeat' split) <;> first | rfl | omega | (intro hF; omega) | contradiction | (intros; contradiction) | (simp; done) | (simp_all; done) | (intros; exfalso; simp_all; done)
    refine z_istore (lv' := [(0, .ref ar), (1, .ref (za g 0)), (2, .ref (za g 101)), (3, .ref (za g 112)), (4, .ref (za g 113)), (5, .int (nI (i))), (6, .int (nI (rwP [2, 3] (if 32 ≤ ((xs (i + 1)).toBitVec.toNat % 65536) ∧ ((xs (i + 1)).toBitVec.toNat % 65536) ≤ 126 then (if I.length < 60 then 0 else 3) else 2))))]) dL_law_2525 (by decide) rfl ?_
    refine z_aload_n dL_law_2527 rfl ?_
    refine z_aload_n dL_law_2528 rfl ?_
    refine z_iload dL_law_2529 rfl ?_
    refine z_iconst (v := nI 1) dL_law_2531 rfl ?_
    refine z_iadd_n (a := i) (b := 1) dL_law_2532 ?_
    refine z_tabI (a := i + 1) (v := .int (xs (i + 1))) dL_law_2533 hT (by omega) (by omega) rfl ?_
    refine z_i2c dL_law_2534 ?_
    refine z_eq (st' := [.int (nI ((xs (i + 1)).toBitVec.toNat % 65536)), .ref (za g 101)]) rfl (by rw [pk_char] <;> rfl) rfl ?_
    have hc31 := c_X13_type (b := 101) h0 hm7 (c := ((xs (i + 1)).toBitVec.toNat % 65536)) (by omega)
    obtain ⟨fs23, hfs24⟩ := hm7.cell
    refine z_callV (As := [.int (nI ((xs (i + 1)).toBitVec.toNat % 65536))]) (rest := []) (b := 101) (ci := 12) (R2 := zR 4 0) dL_law_2535 kV_RL_325 rfl ⟨⟨by decide, by decide⟩, by show _ ≤ 603072; simp only [zR]; omega, by show _ ≤ 7207018; simp only [zR]; omega⟩ (by omega) hfs24 rfl rfl rfl (Nat.le_of_ble_eq_true rfl) rfl hc31 (fun E w1 hp => by obtain ⟨_, e, _⟩ := hp; cases e) (fun v w25 hp => ?_)
    obtain ⟨r26, he27, hf28, hm29, hr30⟩ := hp
    cases he27
    have hT1 : (((if 32 ≤ ((xs (i + 1)).toBitVec.toNat % 65536) ∧ ((xs (i + 1)).toBitVec.toNat % 65536) ≤ 126 then (if I.length < 60 then 0 else 2) else 1))) = rwP [2, 3] (if 32 ≤ ((xs (i + 1)).toBitVec.toNat % 65536) ∧ ((xs (i + 1)).toBitVec.toNat % 65536) ≤ 126 then (if I.length < 60 then 0 else 3) else 2) := by revert hF; (try simp only [spF, fPass, fRest, fIv, fMod, fRep, fPas, fMark, fWin, plc, rwP]); (repeat' split) <;> first | rfl | omega | (intro hF; omega) | contradiction | (intros; contradiction) | (simp; done) | (simp_all; done) | (intros; exfalso; simp_all; done)
    rw [hT1] at hm29
    (try rw [if_neg hk0] at hm29)
    have hx32 := hx4.fr hf28 (Or.inl (by omega))
    have hj33 := (hf28 112 (by omega)).trans hj5
    have hq34 := (hf28 113 (by omega)).trans hq8
    refine z_istore (lv' := [(0, .ref ar), (1, .ref (za g 0)), (2, .ref (za g 101)), (3, .ref (za g 112)), (4, .ref (za g 113)), (5, .int (nI (i))), (6, .int (nI (rwP [2, 3] (if 32 ≤ ((xs (i + 1)).toBitVec.toNat % 65536) ∧ ((xs (i + 1)).toBitVec.toNat % 65536) ≤ 126 then (if I.length < 60 then 0 else 3) else 2)))), (7, .int (r26))]) dL_law_2538 (by decide) rfl ?_
    refine z_aload_n dL_law_2540 rfl ?_
    obtain ⟨fs35, hfs36⟩ := hm29.cell
    refine z_callE (As := []) (rest := []) (b := 101) (ci := 12) (v := some (.int (nI (rwP [2, 3] (if 32 ≤ ((xs (i + 1)).toBitVec.toNat % 65536) ∧ ((xs (i + 1)).toBitVec.toNat % 65536) ≤ 126 then (if I.length < 60 then 0 else 3) else 2))))) (R2 := zR 0 0) dL_law_2541 kV_RL_156 rfl ⟨⟨by decide, by decide⟩, by show _ ≤ 603072; simp only [zR]; omega, by show _ ≤ 7207018; simp only [zR]; omega⟩ (by omega) hfs36 rfl rfl rfl (Nat.le_of_ble_eq_true rfl) rfl (Mq.th h0 hm29) ?_
    refine z_iload dL_law_2544 rfl ?_
    refine z_icmp_eq_n (a := rwP [2, 3] (if 32 ≤ ((xs (i + 1)).toBitVec.toNat % 65536) ∧ ((xs (i + 1)).toBitVec.toNat % 65536) ≤ 126 then (if I.length < 60 then 0 else 3) else 2)) (b := rwP [2, 3] (if 32 ≤ ((xs (i + 1)).toBitVec.toNat % 65536) ∧ ((xs (i + 1)).toBitVec.toNat % 65536) ≤ 126 then (if I.length < 60 then 0 else 3) else 2)) (tgt := 2551) dL_law_2546 (by decide) (by simp only [rwP]; (repeat' split) <;> omega) (by simp only [rwP]; (repeat' split) <;> omega) (fun _ => ?_) (fun hq9 => absurd rfl hq9)
    refine z_iload dL_law_2551 rfl ?_
    refine z_if_ne_n (a := rwP [2, 3] (if 32 ≤ ((xs (i + 1)).toBitVec.toNat % 65536) ∧ ((xs (i + 1)).toBitVec.toNat % 65536) ≤ 126 then (if I.length < 60 then 0 else 3) else 2)) (tgt := 2568) dL_law_2553 (by decide) (by simp only [rwP]; (repeat' split) <;> omega) (fun _ => ?_) (fun hq9 => absurd hq9 hk0)
    refine z_goto (tgt := 2848) dL_law_2568 (by decide) ?_
    refine z_sub (lv' := [(0, .ref ar), (1, .ref (za g 0)), (2, .ref (za g 101)), (3, .ref (za g 112)), (4, .ref (za g 113)), (5, .int (nI (i)))]) [0, 1, 2, 3, 4, 5] rfl ?_
    exact zTr_wd (by simp only [zR]; omega) (by simp only [zR]; omega) (kk _ _ _ _ _ _ _ _ ⟨hz, hx32, ⟨_, hm29⟩, ⟨_, hj33⟩, ⟨_, hq34⟩⟩)
set_option maxRecDepth 100000 in
set_option maxHeartbeats 4000000 in
theorem lw_case_49 {g : zGT} {w : zW} {S : zSt} {Hs : List zSt} {Sn : Option zSt} {I O : List Nat} {ep fc : Int32} {ar N i ce sl : Nat} {xs : Nat → Int32} {Post : zP} (h0 : zG0 g) (h1 : zST g) (hN : zNC g) (hT : va_T .int ar N (fun j => .int (xs j)) (zA g) (zs g) (zs g).heap) (hL : LwI g w S Hs Sn I O ep fc) (hi : i + 3 < N) (hN9 : N ≤ 2048) (hce : ce + 2 ≤ 603072) (hsl : sl + 12 ≤ 7207018) (kk : ∀ (w' : zW) (S' : zSt) (Hs' : List zSt) (Sn' : Option zSt) (I' O' : List Nat) (ep' fc' : Int32), LwI g w' S' Hs' Sn' I' O' ep' fc' → zTr g mL_law room_1 (ce + 2) (sl + 12) 2848 [(0, .ref ar), (1, .ref (za g 0)), (2, .ref (za g 101)), (3, .ref (za g 112)), (4, .ref (za g 113)), (5, .int (nI (i)))] [] w' Post) : zTr g mL_law room_1 ce sl 2571 [(0, .ref ar), (1, .ref (za g 0)), (2, .ref (za g 101)), (3, .ref (za g 112)), (4, .ref (za g 113)), (5, .int (nI (i)))] [] w Post := by
  obtain ⟨hz, hR0, ⟨t0, hM0⟩, ⟨fJ, hJ0⟩, ⟨fQ, hQ0⟩⟩ := hL
  refine z_aload_n dL_law_2571 rfl ?_
  refine z_aload_n dL_law_2572 rfl ?_
  have hc6 := c_L_load (b := 0) (c9 := 112) h0 h1 hN hR0 (by omega) (by omega) hJ0
  refine z_callSH (As := [.ref (za g 0), .ref (za g 112)]) (rest := []) (R2 := zR 9 2) dL_law_2573 kSH_326 rfl ⟨⟨by decide, by decide⟩, by show _ ≤ 603072; simp only [zR]; omega, by show _ ≤ 7207018; simp only [zR]; omega⟩ rfl (Nat.le_of_ble_eq_true rfl) rfl hc6 (fun E w1 hp => by obtain ⟨e, _⟩ := hp; cases e) (fun v w1 hp => ?_)
  obtain ⟨he2, hf3, hx4, hj5⟩ := hp
  cases he2
  have hm7 := hM0.eq (w1 := w1) (fun k h8 h9 => hf3 k (by omega) (by omega))
  have hq8 := (hf3 113 (by omega) (by omega)).trans hQ0
  by_cases hF : (if (pNota I).2.2.2 = 0 then (if 200 < (pNota I).2.1 then 3 else 0) else 2) = 0
  · refine z_eq (st' := [.int (nI 0)]) rfl (by rw [hF]; rfl) rfl ?_
    (try rw [hF] at hx4)
    rw [hF] at hj5
    (try simp only [↓reduceIte] at hx4)
    simp only [↓reduceIte] at hj5
    refine z_istore (lv' := [(0, .ref ar), (1, .ref (za g 0)), (2, .ref (za g 101)), (3, .ref (za g 112)), (4, .ref (za g 113)), (5, .int (nI (i))), (6, .int (nI (0)))]) dL_law_2576 (by decide) rfl ?_
    refine z_aload_n dL_law_2578 rfl ?_
    have hc17 := c_X13_load (b := 101) h0 hm7
    obtain ⟨fs9, hfs10⟩ := hm7.cell
    refine z_callV (As := []) (rest := []) (b := 101) (ci := 12) (R2 := zR 3 0) dL_law_2579 kV_RL_328 rfl ⟨⟨by decide, by decide⟩, by show _ ≤ 603072; simp only [zR]; omega, by show _ ≤ 7207018; simp only [zR]; omega⟩ (by omega) hfs10 rfl rfl rfl (Nat.le_of_ble_eq_true rfl) rfl hc17 (fun E w1 hp => by obtain ⟨_, e, _⟩ := hp; cases e) (fun v w11 hp => ?_)
    obtain ⟨r12, he13, hf14, hm15, hr16⟩ := hp
    cases he13
    have hT0 : (((if (pNota I).2.2.2 = 0 then (if 200 < (pNota I).2.1 then 2 else 0) else 1))) = 0 := by revert hF; (try simp only [spF, fPass, fRest, fIv, fMod, fRep, fPas, fMark, fWin, plc, rwP]); (repeat' split) <;> first | rfl | omega | (intro hF; omega) | contradiction | (intros; contradiction) | (simp; done) | (simp_all; done) | (intros; exfalso; simp_all; done)
    replace hr16 := hr16 (by first | exact hF | exact hT0 | (refine Decidable.byContradiction fun z => ?_; rw [if_neg z] at hT0; exact absurd hT0 (by decide)))
    rw [hT0] at hm15
    rw [if_pos (by first | exact hF | exact hT0 | rfl), if_pos (by first | exact hF | exact hT0 | rfl)] at hm15
    have hx18 := hx4.fr hf14 (Or.inl (by omega))
    have hj19 := (hf14 112 (by omega)).trans hj5
    have hq20 := (hf14 113 (by omega)).trans hq8
    refine z_istore (lv' := [(0, .ref ar), (1, .ref (za g 0)), (2, .ref (za g 101)), (3, .ref (za g 112)), (4, .ref (za g 113)), (5, .int (nI (i))), (6, .int (nI (0))), (7, .int (r12))]) dL_law_2582 (by decide) rfl ?_
    refine z_aload_n dL_law_2584 rfl ?_
    obtain ⟨fs21, hfs22⟩ := hm15.cell
    refine z_callE (As := []) (rest := []) (b := 101) (ci := 12) (v := some (.int (nI (0)))) (R2 := zR 0 0) dL_law_2585 kV_RL_156 rfl ⟨⟨by decide, by decide⟩, by show _ ≤ 603072; simp only [zR]; omega, by show _ ≤ 7207018; simp only [zR]; omega⟩ (by omega) hfs22 rfl rfl rfl (Nat.le_of_ble_eq_true rfl) rfl (Mq.th h0 hm15) ?_
    refine z_iload dL_law_2588 rfl ?_
    refine z_icmp_eq_n (a := 0) (b := 0) (tgt := 2595) dL_law_2590 (by decide) (by omega) (by omega) (fun _ => ?_) (fun hq9 => absurd rfl hq9)
    refine z_iload dL_law_2595 rfl ?_
    refine z_if_ne_n (a := 0) (tgt := 2612) dL_law_2597 (by decide) (by decide) (fun hq9 => absurd rfl hq9) (fun _ => ?_)
    refine z_aload_n dL_law_2600 rfl ?_
    refine z_iconst (v := nI 0) dL_law_2601 rfl ?_
    refine z_lald (j := 112) (N := 1) (i := nI 0) dL_law_2602 (by omega) hj19 (vp_in_nI (by decide) (by decide)) ?_
    refine z_eq (st' := [.long ((nI (pNota I).1.length).toInt64)]) rfl (by rw [nI_clamp (by decide)]; simp [vp_updL]) rfl ?_
    refine z_iload dL_law_2603 rfl ?_
    refine z_i2l dL_law_2605 ?_
    refine z_lcmp dL_law_2606 ?_
    refine z_eq (st' := [.int (nI 0)]) rfl (by rw [hr16, lg_self]) rfl ?_
    refine z_if_eq_n (a := 0) (tgt := 2612) dL_law_2607 (by decide) (by decide) (fun _ => ?_) (fun hq9 => absurd rfl hq9)
    refine z_goto (tgt := 2848) dL_law_2612 (by decide) ?_
    refine z_sub (lv' := [(0, .ref ar), (1, .ref (za g 0)), (2, .ref (za g 101)), (3, .ref (za g 112)), (4, .ref (za g 113)), (5, .int (nI (i)))]) [0, 1, 2, 3, 4, 5] rfl ?_
    exact zTr_wd (by simp only [zR]; omega) (by simp only [zR]; omega) (kk _ _ _ _ _ _ _ _ ⟨hz, hx18, ⟨_, hm15⟩, ⟨_, hj19⟩, ⟨_, hq20⟩⟩)
  · (first | rw [if_neg hF, if_neg hF] at hx4 | rw [if_neg hF] at hx4 | skip)
    rw [if_neg hF] at hj5
    have hk0 : rwP [2, 3] (if (pNota I).2.2.2 = 0 then (if 200 < (pNota I).2.1 then 3 else 0) else 2) ≠ 0 := by revert hF; (try simp only [spF, fPass, fRest, fIv, fMod, fRep, fPas, fMark, fWin, plc, rwP]); (repeat' split) <;> first | rfl | omega | (intro hF; omega) | contradiction | (intros; contradiction) | (simp; done) | (simp_all; done) | (intros; exfalso; simp_all; done)
    refine z_istore (lv' := [(0, .ref ar), (1, .ref (za g 0)), (2, .ref (za g 101)), (3, .ref (za g 112)), (4, .ref (za g 113)), (5, .int (nI (i))), (6, .int (nI (rwP [2, 3] (if (pNota I).2.2.2 = 0 then (if 200 < (pNota I).2.1 then 3 else 0) else 2))))]) dL_law_2576 (by decide) rfl ?_
    refine z_aload_n dL_law_2578 rfl ?_
    have hc31 := c_X13_load (b := 101) h0 hm7
    obtain ⟨fs23, hfs24⟩ := hm7.cell
    refine z_callV (As := []) (rest := []) (b := 101) (ci := 12) (R2 := zR 3 0) dL_law_2579 kV_RL_328 rfl ⟨⟨by decide, by decide⟩, by show _ ≤ 603072; simp only [zR]; omega, by show _ ≤ 7207018; simp only [zR]; omega⟩ (by omega) hfs24 rfl rfl rfl (Nat.le_of_ble_eq_true rfl) rfl hc31 (fun E w1 hp => by obtain ⟨_, e, _⟩ := hp; cases e) (fun v w25 hp => ?_)
    obtain ⟨r26, he27, hf28, hm29, hr30⟩ := hp
    cases he27
    have hT1 : (((if (pNota I).2.2.2 = 0 then (if 200 < (pNota I).2.1 then 2 else 0) else 1))) = rwP [2, 3] (if (pNota I).2.2.2 = 0 then (if 200 < (pNota I).2.1 then 3 else 0) else 2) := by revert hF; (try simp only [spF, fPass, fRest, fIv, fMod, fRep, fPas, fMark, fWin, plc, rwP]); (repeat' split) <;> first | rfl | omega | (intro hF; omega) | contradiction | (intros; contradiction) | (simp; done) | (simp_all; done) | (intros; exfalso; simp_all; done)
    rw [hT1] at hm29
    first | rw [if_neg (fun z => hF z), if_neg (fun z => hF z)] at hm29 | rw [if_neg hk0, if_neg hk0] at hm29
    have hx32 := hx4.fr hf28 (Or.inl (by omega))
    have hj33 := (hf28 112 (by omega)).trans hj5
    have hq34 := (hf28 113 (by omega)).trans hq8
    refine z_istore (lv' := [(0, .ref ar), (1, .ref (za g 0)), (2, .ref (za g 101)), (3, .ref (za g 112)), (4, .ref (za g 113)), (5, .int (nI (i))), (6, .int (nI (rwP [2, 3] (if (pNota I).2.2.2 = 0 then (if 200 < (pNota I).2.1 then 3 else 0) else 2)))), (7, .int (r26))]) dL_law_2582 (by decide) rfl ?_
    refine z_aload_n dL_law_2584 rfl ?_
    obtain ⟨fs35, hfs36⟩ := hm29.cell
    refine z_callE (As := []) (rest := []) (b := 101) (ci := 12) (v := some (.int (nI (rwP [2, 3] (if (pNota I).2.2.2 = 0 then (if 200 < (pNota I).2.1 then 3 else 0) else 2))))) (R2 := zR 0 0) dL_law_2585 kV_RL_156 rfl ⟨⟨by decide, by decide⟩, by show _ ≤ 603072; simp only [zR]; omega, by show _ ≤ 7207018; simp only [zR]; omega⟩ (by omega) hfs36 rfl rfl rfl (Nat.le_of_ble_eq_true rfl) rfl (Mq.th h0 hm29) ?_
    refine z_iload dL_law_2588 rfl ?_
    refine z_icmp_eq_n (a := rwP [2, 3] (if (pNota I).2.2.2 = 0 then (if 200 < (pNota I).2.1 then 3 else 0) else 2)) (b := rwP [2, 3] (if (pNota I).2.2.2 = 0 then (if 200 < (pNota I).2.1 then 3 else 0) else 2)) (tgt := 2595) dL_law_2590 (by decide) (by simp only [rwP]; (repeat' split) <;> omega) (by simp only [rwP]; (repeat' split) <;> omega) (fun _ => ?_) (fun hq9 => absurd rfl hq9)
    refine z_iload dL_law_2595 rfl ?_
    refine z_if_ne_n (a := rwP [2, 3] (if (pNota I).2.2.2 = 0 then (if 200 < (pNota I).2.1 then 3 else 0) else 2)) (tgt := 2612) dL_law_2597 (by decide) (by simp only [rwP]; (repeat' split) <;> omega) (fun _ => ?_) (fun hq9 => absurd hq9 hk0)
    refine z_goto (tgt := 2848) dL_law_2612 (by decide) ?_
    refine z_sub (lv' := [(0, .ref ar), (1, .ref (za g 0)), (2, .ref (za g 101)), (3, .ref (za g 112)), (4, .ref (za g 113)), (5, .int (nI (i)))]) [0, 1, 2, 3, 4, 5] rfl ?_
    exact zTr_wd (by simp only [zR]; omega) (by simp only [zR]; omega) (kk _ _ _ _ _ _ _ _ ⟨hz, hx32, ⟨_, hm29⟩, ⟨_, hj33⟩, ⟨_, hq34⟩⟩)
set_option maxRecDepth 100000 in
set_option maxHeartbeats 4000000 in
theorem lw_case_50 {g : zGT} {w : zW} {S : zSt} {Hs : List zSt} {Sn : Option zSt} {I O : List Nat} {ep fc : Int32} {ar N i ce sl : Nat} {xs : Nat → Int32} {Post : zP} (h0 : zG0 g) (h1 : zST g) (hN : zNC g) (hT : va_T .int ar N (fun j => .int (xs j)) (zA g) (zs g) (zs g).heap) (hL : LwI g w S Hs Sn I O ep fc) (hi : i + 3 < N) (hN9 : N ≤ 2048) (hce : ce + 2 ≤ 603072) (hsl : sl + 12 ≤ 7207018) (kk : ∀ (w' : zW) (S' : zSt) (Hs' : List zSt) (Sn' : Option zSt) (I' O' : List Nat) (ep' fc' : Int32), LwI g w' S' Hs' Sn' I' O' ep' fc' → zTr g mL_law room_1 (ce + 2) (sl + 12) 2848 [(0, .ref ar), (1, .ref (za g 0)), (2, .ref (za g 101)), (3, .ref (za g 112)), (4, .ref (za g 113)), (5, .int (nI (i)))] [] w' Post) : zTr g mL_law room_1 ce sl 2615 [(0, .ref ar), (1, .ref (za g 0)), (2, .ref (za g 101)), (3, .ref (za g 112)), (4, .ref (za g 113)), (5, .int (nI (i)))] [] w Post := by
  obtain ⟨hz, hR0, ⟨t0, hM0⟩, ⟨fJ, hJ0⟩, ⟨fQ, hQ0⟩⟩ := hL
  refine z_aload_n dL_law_2615 rfl ?_
  refine z_aload_n dL_law_2616 rfl ?_
  have hc6 := c_L_runScript (b := 0) (c9 := 112) h0 h1 hN hR0 (by omega) (by omega) hJ0
  refine z_callSH (As := [.ref (za g 0), .ref (za g 112)]) (rest := []) (R2 := zR 9 2) dL_law_2617 kSH_329 rfl ⟨⟨by decide, by decide⟩, by show _ ≤ 603072; simp only [zR]; omega, by show _ ≤ 7207018; simp only [zR]; omega⟩ rfl (Nat.le_of_ble_eq_true rfl) rfl hc6 (fun E w1 hp => by obtain ⟨e, _⟩ := hp; cases e) (fun v w1 hp => ?_)
  obtain ⟨he2, hf3, hx4, hj5⟩ := hp
  cases he2
  have hm7 := hM0.eq (w1 := w1) (fun k h8 h9 => hf3 k (by omega) (by omega))
  have hq8 := (hf3 113 (by omega) (by omega)).trans hQ0
  by_cases hF : (if (pCmds I 60 0 []).2.2 = 0 then (if (scrGo (pCmds I 60 0 []).1 0 S).1 = -1 then 0 else 3) else 2) = 0
  · refine z_eq (st' := [.int (nI 0)]) rfl (by rw [hF]; rfl) rfl ?_
    (try rw [hF] at hx4)
    rw [hF] at hj5
    (try simp only [↓reduceIte] at hx4)
    simp only [↓reduceIte] at hj5
    refine z_istore (lv' := [(0, .ref ar), (1, .ref (za g 0)), (2, .ref (za g 101)), (3, .ref (za g 112)), (4, .ref (za g 113)), (5, .int (nI (i))), (6, .int (nI (0)))]) dL_law_2620 (by decide) rfl ?_
    refine z_aload_n dL_law_2622 rfl ?_
    have hc17 := c_X13_runScript (b := 101) h0 hm7
    obtain ⟨fs9, hfs10⟩ := hm7.cell
    refine z_callV (As := []) (rest := []) (b := 101) (ci := 12) (R2 := zR 6 0) dL_law_2623 kV_RL_331 rfl ⟨⟨by decide, by decide⟩, by show _ ≤ 603072; simp only [zR]; omega, by show _ ≤ 7207018; simp only [zR]; omega⟩ (by omega) hfs10 rfl rfl rfl (Nat.le_of_ble_eq_true rfl) rfl hc17 (fun E w1 hp => by obtain ⟨_, e, _⟩ := hp; cases e) (fun v w11 hp => ?_)
    obtain ⟨r12, he13, hf14, hm15, hr16⟩ := hp
    cases he13
    have hT0 : (((if (pCmds I 60 0 []).2.2 = 0 then (if (scrGo (pCmds I 60 0 []).1 0 S).1 = -1 then 0 else 2) else 1))) = 0 := by revert hF; (try simp only [spF, fPass, fRest, fIv, fMod, fRep, fPas, fMark, fWin, plc, rwP]); (repeat' split) <;> first | rfl | omega | (intro hF; omega) | contradiction | (intros; contradiction) | (simp; done) | (simp_all; done) | (intros; exfalso; simp_all; done)
    replace hr16 := hr16 (by first | exact hF | exact hT0 | (refine Decidable.byContradiction fun z => ?_; rw [if_neg z] at hT0; exact absurd hT0 (by decide)))
    rw [hT0] at hm15
    rw [if_pos (by first | exact hF | exact hT0 | rfl), if_pos (by first | exact hF | exact hT0 | rfl)] at hm15
    have hx18 := hx4.fr hf14 (Or.inl (by omega))
    have hj19 := (hf14 112 (by omega)).trans hj5
    have hq20 := (hf14 113 (by omega)).trans hq8
    refine z_istore (lv' := [(0, .ref ar), (1, .ref (za g 0)), (2, .ref (za g 101)), (3, .ref (za g 112)), (4, .ref (za g 113)), (5, .int (nI (i))), (6, .int (nI (0))), (7, .int (r12))]) dL_law_2626 (by decide) rfl ?_
    refine z_aload_n dL_law_2628 rfl ?_
    obtain ⟨fs21, hfs22⟩ := hm15.cell
    refine z_callE (As := []) (rest := []) (b := 101) (ci := 12) (v := some (.int (nI (0)))) (R2 := zR 0 0) dL_law_2629 kV_RL_156 rfl ⟨⟨by decide, by decide⟩, by show _ ≤ 603072; simp only [zR]; omega, by show _ ≤ 7207018; simp only [zR]; omega⟩ (by omega) hfs22 rfl rfl rfl (Nat.le_of_ble_eq_true rfl) rfl (Mq.th h0 hm15) ?_
    refine z_iload dL_law_2632 rfl ?_
    refine z_icmp_eq_n (a := 0) (b := 0) (tgt := 2639) dL_law_2634 (by decide) (by omega) (by omega) (fun _ => ?_) (fun hq9 => absurd rfl hq9)
    refine z_iload dL_law_2639 rfl ?_
    refine z_if_ne_n (a := 0) (tgt := 2656) dL_law_2641 (by decide) (by decide) (fun hq9 => absurd rfl hq9) (fun _ => ?_)
    refine z_aload_n dL_law_2644 rfl ?_
    refine z_iconst (v := nI 0) dL_law_2645 rfl ?_
    refine z_lald (j := 112) (N := 1) (i := nI 0) dL_law_2646 (by omega) hj19 (vp_in_nI (by decide) (by decide)) ?_
    refine z_eq (st' := [.long ((nI (pCmds I 60 0 []).1.length).toInt64)]) rfl (by rw [nI_clamp (by decide)]; simp [vp_updL]) rfl ?_
    refine z_iload dL_law_2647 rfl ?_
    refine z_i2l dL_law_2649 ?_
    refine z_lcmp dL_law_2650 ?_
    refine z_eq (st' := [.int (nI 0)]) rfl (by rw [hr16, lg_self]) rfl ?_
    refine z_if_eq_n (a := 0) (tgt := 2656) dL_law_2651 (by decide) (by decide) (fun _ => ?_) (fun hq9 => absurd rfl hq9)
    refine z_goto (tgt := 2848) dL_law_2656 (by decide) ?_
    refine z_sub (lv' := [(0, .ref ar), (1, .ref (za g 0)), (2, .ref (za g 101)), (3, .ref (za g 112)), (4, .ref (za g 113)), (5, .int (nI (i)))]) [0, 1, 2, 3, 4, 5] rfl ?_
    exact zTr_wd (by simp only [zR]; omega) (by simp only [zR]; omega) (kk _ _ _ _ _ _ _ _ ⟨hz, hx18, ⟨_, hm15⟩, ⟨_, hj19⟩, ⟨_, hq20⟩⟩)
  · (first | rw [if_neg hF, if_neg hF] at hx4 | rw [if_neg hF] at hx4 | skip)
    rw [if_neg hF] at hj5
    have hk0 : rwP [2, 3] (if (pCmds I 60 0 []).2.2 = 0 then (if (scrGo (pCmds I 60 0 []).1 0 S).1 = -1 then 0 else 3) else 2) ≠ 0 := by revert hF; (try simp only [spF, fPass, fRest, fIv, fMod, fRep, fPas, fMark, fWin, plc, rwP]); (repeat' split) <;> first | rfl | omega | (intro hF; omega) | contradiction | (intros; contradiction) | (simp; done) | (simp_all; done) | (intros; exfalso; simp_all; done)
    refine z_istore (lv' := [(0, .ref ar), (1, .ref (za g 0)), (2, .ref (za g 101)), (3, .ref (za g 112)), (4, .ref (za g 113)), (5, .int (nI (i))), (6, .int (nI (rwP [2, 3] (if (pCmds I 60 0 []).2.2 = 0 then (if (scrGo (pCmds I 60 0 []).1 0 S).1 = -1 then 0 else 3) else 2))))]) dL_law_2620 (by decide) rfl ?_
    refine z_aload_n dL_law_2622 rfl ?_
    have hc31 := c_X13_runScript (b := 101) h0 hm7
    obtain ⟨fs23, hfs24⟩ := hm7.cell
    refine z_callV (As := []) (rest := []) (b := 101) (ci := 12) (R2 := zR 6 0) dL_law_2623 kV_RL_331 rfl ⟨⟨by decide, by decide⟩, by show _ ≤ 603072; simp only [zR]; omega, by show _ ≤ 7207018; simp only [zR]; omega⟩ (by omega) hfs24 rfl rfl rfl (Nat.le_of_ble_eq_true rfl) rfl hc31 (fun E w1 hp => by obtain ⟨_, e, _⟩ := hp; cases e) (fun v w25 hp => ?_)
    obtain ⟨r26, he27, hf28, hm29, hr30⟩ := hp
    cases he27
    have hT1 : (((if (pCmds I 60 0 []).2.2 = 0 then (if (scrGo (pCmds I 60 0 []).1 0 S).1 = -1 then 0 else 2) else 1))) = rwP [2, 3] (if (pCmds I 60 0 []).2.2 = 0 then (if (scrGo (pCmds I 60 0 []).1 0 S).1 = -1 then 0 else 3) else 2) := by revert hF; (try simp only [spF, fPass, fRest, fIv, fMod, fRep, fPas, fMark, fWin, plc, rwP]); (repeat' split) <;> first | rfl | omega | (intro hF; omega) | contradiction | (intros; contradiction) | (simp; done) | (simp_all; done) | (intros; exfalso; simp_all; done)
    rw [hT1] at hm29
    first | rw [if_neg (fun z => hF z), if_neg (fun z => hF z)] at hm29 | rw [if_neg hk0, if_neg hk0] at hm29
    simp only [rwP23] at hm29
    have hx32 := hx4.fr hf28 (Or.inl (by omega))
    have hj33 := (hf28 112 (by omega)).trans hj5
    have hq34 := (hf28 113 (by omega)).trans hq8
    refine z_istore (lv' := [(0, .ref ar), (1, .ref (za g 0)), (2, .ref (za g 101)), (3, .ref (za g 112)), (4, .ref (za g 113)), (5, .int (nI (i))), (6, .int (nI (rwP [2, 3] (if (pCmds I 60 0 []).2.2 = 0 then (if (scrGo (pCmds I 60 0 []).1 0 S).1 = -1 then 0 else 3) else 2)))), (7, .int (r26))]) dL_law_2626 (by decide) rfl ?_
    refine z_aload_n dL_law_2628 rfl ?_
    obtain ⟨fs35, hfs36⟩ := hm29.cell
    refine z_callE (As := []) (rest := []) (b := 101) (ci := 12) (v := some (.int (nI (rwP [2, 3] (if (pCmds I 60 0 []).2.2 = 0 then (if (scrGo (pCmds I 60 0 []).1 0 S).1 = -1 then 0 else 3) else 2))))) (R2 := zR 0 0) dL_law_2629 kV_RL_156 rfl ⟨⟨by decide, by decide⟩, by show _ ≤ 603072; simp only [zR]; omega, by show _ ≤ 7207018; simp only [zR]; omega⟩ (by omega) hfs36 rfl rfl rfl (Nat.le_of_ble_eq_true rfl) rfl (Mq.th h0 hm29) ?_
    refine z_iload dL_law_2632 rfl ?_
    refine z_icmp_eq_n (a := rwP [2, 3] (if (pCmds I 60 0 []).2.2 = 0 then (if (scrGo (pCmds I 60 0 []).1 0 S).1 = -1 then 0 else 3) else 2)) (b := rwP [2, 3] (if (pCmds I 60 0 []).2.2 = 0 then (if (scrGo (pCmds I 60 0 []).1 0 S).1 = -1 then 0 else 3) else 2)) (tgt := 2639) dL_law_2634 (by decide) (by simp only [rwP]; (repeat' split) <;> omega) (by simp only [rwP]; (repeat' split) <;> omega) (fun _ => ?_) (fun hq9 => absurd rfl hq9)
    refine z_iload dL_law_2639 rfl ?_
    refine z_if_ne_n (a := rwP [2, 3] (if (pCmds I 60 0 []).2.2 = 0 then (if (scrGo (pCmds I 60 0 []).1 0 S).1 = -1 then 0 else 3) else 2)) (tgt := 2656) dL_law_2641 (by decide) (by simp only [rwP]; (repeat' split) <;> omega) (fun _ => ?_) (fun hq9 => absurd hq9 hk0)
    refine z_goto (tgt := 2848) dL_law_2656 (by decide) ?_
    refine z_sub (lv' := [(0, .ref ar), (1, .ref (za g 0)), (2, .ref (za g 101)), (3, .ref (za g 112)), (4, .ref (za g 113)), (5, .int (nI (i)))]) [0, 1, 2, 3, 4, 5] rfl ?_
    exact zTr_wd (by simp only [zR]; omega) (by simp only [zR]; omega) (kk _ _ _ _ _ _ _ _ ⟨hz, hx32, ⟨_, hm29⟩, ⟨_, hj33⟩, ⟨_, hq34⟩⟩)
set_option maxRecDepth 100000 in
set_option maxHeartbeats 4000000 in
theorem lw_case_51 {g : zGT} {w : zW} {S : zSt} {Hs : List zSt} {Sn : Option zSt} {I O : List Nat} {ep fc : Int32} {ar N i ce sl : Nat} {xs : Nat → Int32} {Post : zP} (h0 : zG0 g) (h1 : zST g) (hN : zNC g) (hT : va_T .int ar N (fun j => .int (xs j)) (zA g) (zs g) (zs g).heap) (hL : LwI g w S Hs Sn I O ep fc) (hi : i + 3 < N) (hN9 : N ≤ 2048) (hce : ce + 2 ≤ 603072) (hsl : sl + 12 ≤ 7207018) (kk : ∀ (w' : zW) (S' : zSt) (Hs' : List zSt) (Sn' : Option zSt) (I' O' : List Nat) (ep' fc' : Int32), LwI g w' S' Hs' Sn' I' O' ep' fc' → zTr g mL_law room_1 (ce + 2) (sl + 12) 2848 [(0, .ref ar), (1, .ref (za g 0)), (2, .ref (za g 101)), (3, .ref (za g 112)), (4, .ref (za g 113)), (5, .int (nI (i)))] [] w' Post) : zTr g mL_law room_1 ce sl 2659 [(0, .ref ar), (1, .ref (za g 0)), (2, .ref (za g 101)), (3, .ref (za g 112)), (4, .ref (za g 113)), (5, .int (nI (i)))] [] w Post := by
  obtain ⟨hz, hR0, ⟨t0, hM0⟩, ⟨fJ, hJ0⟩, ⟨fQ, hQ0⟩⟩ := hL
  refine z_aload_n dL_law_2659 rfl ?_
  refine z_aload_n dL_law_2660 rfl ?_
  have hc6 := c_L_errorPosition (b := 0) (c9 := 112) h0 h1 hN hR0 (by omega) (by omega) hJ0
  refine z_callSH (As := [.ref (za g 0), .ref (za g 112)]) (rest := []) (R2 := zR 9 2) dL_law_2661 kSH_332 rfl ⟨⟨by decide, by decide⟩, by show _ ≤ 603072; simp only [zR]; omega, by show _ ≤ 7207018; simp only [zR]; omega⟩ rfl (Nat.le_of_ble_eq_true rfl) rfl hc6 (fun E w1 hp => by obtain ⟨e, _⟩ := hp; cases e) (fun v w1 hp => ?_)
  obtain ⟨he2, hf3, hx4, hj5⟩ := hp
  cases he2
  have hm7 := hM0.eq (w1 := w1) (fun k h8 h9 => hf3 k (by omega) (by omega))
  have hq8 := (hf3 113 (by omega) (by omega)).trans hQ0
  by_cases hF : (if ep.toInt = -1 then 4 else 0) = 0
  · refine z_eq (st' := [.int (nI 0)]) rfl (by rw [hF]; rfl) rfl ?_
    (try rw [hF] at hx4)
    rw [hF] at hj5
    (try simp only [↓reduceIte] at hx4)
    simp only [↓reduceIte] at hj5
    refine z_istore (lv' := [(0, .ref ar), (1, .ref (za g 0)), (2, .ref (za g 101)), (3, .ref (za g 112)), (4, .ref (za g 113)), (5, .int (nI (i))), (6, .int (nI (0)))]) dL_law_2664 (by decide) rfl ?_
    refine z_aload_n dL_law_2666 rfl ?_
    have hc17 := c_X13_errorPosition (b := 101) h0 hm7
    obtain ⟨fs9, hfs10⟩ := hm7.cell
    refine z_callV (As := []) (rest := []) (b := 101) (ci := 12) (R2 := zR 4 0) dL_law_2667 kV_RL_334 rfl ⟨⟨by decide, by decide⟩, by show _ ≤ 603072; simp only [zR]; omega, by show _ ≤ 7207018; simp only [zR]; omega⟩ (by omega) hfs10 rfl rfl rfl (Nat.le_of_ble_eq_true rfl) rfl hc17 (fun E w1 hp => by obtain ⟨_, e, _⟩ := hp; cases e) (fun v w11 hp => ?_)
    obtain ⟨r12, he13, hf14, hm15, hr16⟩ := hp
    cases he13
    have hT0 : ((if ep.toInt ≠ -1 then 0 else 1)) = 0 := by revert hF; (try simp only [spF, fPass, fRest, fIv, fMod, fRep, fPas, fMark, fWin, plc, rwP]); (repeat' split) <;> first | rfl | omega | (intro hF; omega) | contradiction | (intros; contradiction) | (simp; done) | (simp_all; done) | (intros; exfalso; simp_all; done)
    replace hr16 := hr16 (by first | exact hF | exact hT0 | (refine Decidable.byContradiction fun z => ?_; rw [if_neg z] at hT0; exact absurd hT0 (by decide)))
    rw [hT0] at hm15
    (try simp only [↓reduceIte] at hm15)
    have hx18 := hx4.fr hf14 (Or.inl (by omega))
    have hj19 := (hf14 112 (by omega)).trans hj5
    have hq20 := (hf14 113 (by omega)).trans hq8
    refine z_istore (lv' := [(0, .ref ar), (1, .ref (za g 0)), (2, .ref (za g 101)), (3, .ref (za g 112)), (4, .ref (za g 113)), (5, .int (nI (i))), (6, .int (nI (0))), (7, .int (r12))]) dL_law_2670 (by decide) rfl ?_
    refine z_aload_n dL_law_2672 rfl ?_
    obtain ⟨fs21, hfs22⟩ := hm15.cell
    refine z_callE (As := []) (rest := []) (b := 101) (ci := 12) (v := some (.int (nI (0)))) (R2 := zR 0 0) dL_law_2673 kV_RL_156 rfl ⟨⟨by decide, by decide⟩, by show _ ≤ 603072; simp only [zR]; omega, by show _ ≤ 7207018; simp only [zR]; omega⟩ (by omega) hfs22 rfl rfl rfl (Nat.le_of_ble_eq_true rfl) rfl (Mq.th h0 hm15) ?_
    refine z_iload dL_law_2676 rfl ?_
    refine z_icmp_eq_n (a := 0) (b := 0) (tgt := 2683) dL_law_2678 (by decide) (by omega) (by omega) (fun _ => ?_) (fun hq9 => absurd rfl hq9)
    refine z_iload dL_law_2683 rfl ?_
    refine z_if_ne_n (a := 0) (tgt := 2700) dL_law_2685 (by decide) (by decide) (fun hq9 => absurd rfl hq9) (fun _ => ?_)
    refine z_aload_n dL_law_2688 rfl ?_
    refine z_iconst (v := nI 0) dL_law_2689 rfl ?_
    refine z_lald (j := 112) (N := 1) (i := nI 0) dL_law_2690 (by omega) hj19 (vp_in_nI (by decide) (by decide)) ?_
    refine z_eq (st' := [.long ((ep).toInt64)]) rfl (by rw [nI_clamp (by decide)]; simp [vp_updL]) rfl ?_
    refine z_iload dL_law_2691 rfl ?_
    refine z_i2l dL_law_2693 ?_
    refine z_lcmp dL_law_2694 ?_
    refine z_eq (st' := [.int (nI 0)]) rfl (by rw [hr16, lg_self]) rfl ?_
    refine z_if_eq_n (a := 0) (tgt := 2700) dL_law_2695 (by decide) (by decide) (fun _ => ?_) (fun hq9 => absurd rfl hq9)
    refine z_goto (tgt := 2848) dL_law_2700 (by decide) ?_
    refine z_sub (lv' := [(0, .ref ar), (1, .ref (za g 0)), (2, .ref (za g 101)), (3, .ref (za g 112)), (4, .ref (za g 113)), (5, .int (nI (i)))]) [0, 1, 2, 3, 4, 5] rfl ?_
    exact zTr_wd (by simp only [zR]; omega) (by simp only [zR]; omega) (kk _ _ _ _ _ _ _ _ ⟨hz, hx18, ⟨_, hm15⟩, ⟨_, hj19⟩, ⟨_, hq20⟩⟩)
  · (first | rw [if_neg hF, if_neg hF] at hx4 | rw [if_neg hF] at hx4 | skip)
    rw [if_neg hF] at hj5
    have hk0 : rwP [4] (if ep.toInt = -1 then 4 else 0) ≠ 0 := by revert hF; (try simp only [spF, fPass, fRest, fIv, fMod, fRep, fPas, fMark, fWin, plc, rwP]); (repeat' split) <;> first | rfl | omega | (intro hF; omega) | contradiction | (intros; contradiction) | (simp; done) | (simp_all; done) | (intros; exfalso; simp_all; done)
    refine z_istore (lv' := [(0, .ref ar), (1, .ref (za g 0)), (2, .ref (za g 101)), (3, .ref (za g 112)), (4, .ref (za g 113)), (5, .int (nI (i))), (6, .int (nI (rwP [4] (if ep.toInt = -1 then 4 else 0))))]) dL_law_2664 (by decide) rfl ?_
    refine z_aload_n dL_law_2666 rfl ?_
    have hc31 := c_X13_errorPosition (b := 101) h0 hm7
    obtain ⟨fs23, hfs24⟩ := hm7.cell
    refine z_callV (As := []) (rest := []) (b := 101) (ci := 12) (R2 := zR 4 0) dL_law_2667 kV_RL_334 rfl ⟨⟨by decide, by decide⟩, by show _ ≤ 603072; simp only [zR]; omega, by show _ ≤ 7207018; simp only [zR]; omega⟩ (by omega) hfs24 rfl rfl rfl (Nat.le_of_ble_eq_true rfl) rfl hc31 (fun E w1 hp => by obtain ⟨_, e, _⟩ := hp; cases e) (fun v w25 hp => ?_)
    obtain ⟨r26, he27, hf28, hm29, hr30⟩ := hp
    cases he27
    have hT1 : ((if ep.toInt ≠ -1 then 0 else 1)) = rwP [4] (if ep.toInt = -1 then 4 else 0) := by revert hF; (try simp only [spF, fPass, fRest, fIv, fMod, fRep, fPas, fMark, fWin, plc, rwP]); (repeat' split) <;> first | rfl | omega | (intro hF; omega) | contradiction | (intros; contradiction) | (simp; done) | (simp_all; done) | (intros; exfalso; simp_all; done)
    rw [hT1] at hm29
    (try rw [if_neg hk0] at hm29)
    have hx32 := hx4.fr hf28 (Or.inl (by omega))
    have hj33 := (hf28 112 (by omega)).trans hj5
    have hq34 := (hf28 113 (by omega)).trans hq8
    refine z_istore (lv' := [(0, .ref ar), (1, .ref (za g 0)), (2, .ref (za g 101)), (3, .ref (za g 112)), (4, .ref (za g 113)), (5, .int (nI (i))), (6, .int (nI (rwP [4] (if ep.toInt = -1 then 4 else 0)))), (7, .int (r26))]) dL_law_2670 (by decide) rfl ?_
    refine z_aload_n dL_law_2672 rfl ?_
    obtain ⟨fs35, hfs36⟩ := hm29.cell
    refine z_callE (As := []) (rest := []) (b := 101) (ci := 12) (v := some (.int (nI (rwP [4] (if ep.toInt = -1 then 4 else 0))))) (R2 := zR 0 0) dL_law_2673 kV_RL_156 rfl ⟨⟨by decide, by decide⟩, by show _ ≤ 603072; simp only [zR]; omega, by show _ ≤ 7207018; simp only [zR]; omega⟩ (by omega) hfs36 rfl rfl rfl (Nat.le_of_ble_eq_true rfl) rfl (Mq.th h0 hm29) ?_
    refine z_iload dL_law_2676 rfl ?_
    refine z_icmp_eq_n (a := rwP [4] (if ep.toInt = -1 then 4 else 0)) (b := rwP [4] (if ep.toInt = -1 then 4 else 0)) (tgt := 2683) dL_law_2678 (by decide) (by simp only [rwP]; (repeat' split) <;> omega) (by simp only [rwP]; (repeat' split) <;> omega) (fun _ => ?_) (fun hq9 => absurd rfl hq9)
    refine z_iload dL_law_2683 rfl ?_
    refine z_if_ne_n (a := rwP [4] (if ep.toInt = -1 then 4 else 0)) (tgt := 2700) dL_law_2685 (by decide) (by simp only [rwP]; (repeat' split) <;> omega) (fun _ => ?_) (fun hq9 => absurd hq9 hk0)
    refine z_goto (tgt := 2848) dL_law_2700 (by decide) ?_
    refine z_sub (lv' := [(0, .ref ar), (1, .ref (za g 0)), (2, .ref (za g 101)), (3, .ref (za g 112)), (4, .ref (za g 113)), (5, .int (nI (i)))]) [0, 1, 2, 3, 4, 5] rfl ?_
    exact zTr_wd (by simp only [zR]; omega) (by simp only [zR]; omega) (kk _ _ _ _ _ _ _ _ ⟨hz, hx32, ⟨_, hm29⟩, ⟨_, hj33⟩, ⟨_, hq34⟩⟩)
set_option maxRecDepth 100000 in
set_option maxHeartbeats 4000000 in
theorem lw_case_52 {g : zGT} {w : zW} {S : zSt} {Hs : List zSt} {Sn : Option zSt} {I O : List Nat} {ep fc : Int32} {ar N i ce sl : Nat} {xs : Nat → Int32} {Post : zP} (h0 : zG0 g) (h1 : zST g) (hN : zNC g) (hT : va_T .int ar N (fun j => .int (xs j)) (zA g) (zs g) (zs g).heap) (hL : LwI g w S Hs Sn I O ep fc) (hi : i + 3 < N) (hN9 : N ≤ 2048) (hce : ce + 2 ≤ 603072) (hsl : sl + 12 ≤ 7207018) (kk : ∀ (w' : zW) (S' : zSt) (Hs' : List zSt) (Sn' : Option zSt) (I' O' : List Nat) (ep' fc' : Int32), LwI g w' S' Hs' Sn' I' O' ep' fc' → zTr g mL_law room_1 (ce + 2) (sl + 12) 2848 [(0, .ref ar), (1, .ref (za g 0)), (2, .ref (za g 101)), (3, .ref (za g 112)), (4, .ref (za g 113)), (5, .int (nI (i)))] [] w' Post) : zTr g mL_law room_1 ce sl 2703 [(0, .ref ar), (1, .ref (za g 0)), (2, .ref (za g 101)), (3, .ref (za g 112)), (4, .ref (za g 113)), (5, .int (nI (i)))] [] w Post := by
  obtain ⟨hz, hR0, ⟨t0, hM0⟩, ⟨fJ, hJ0⟩, ⟨fQ, hQ0⟩⟩ := hL
  refine z_aload_n dL_law_2703 rfl ?_
  refine z_aload_n dL_law_2704 rfl ?_
  have hc6 := c_L_failedCommand (b := 0) (c9 := 112) h0 h1 hN hR0 (by omega) (by omega) hJ0
  refine z_callSH (As := [.ref (za g 0), .ref (za g 112)]) (rest := []) (R2 := zR 9 2) dL_law_2705 kSH_335 rfl ⟨⟨by decide, by decide⟩, by show _ ≤ 603072; simp only [zR]; omega, by show _ ≤ 7207018; simp only [zR]; omega⟩ rfl (Nat.le_of_ble_eq_true rfl) rfl hc6 (fun E w1 hp => by obtain ⟨e, _⟩ := hp; cases e) (fun v w1 hp => ?_)
  obtain ⟨he2, hf3, hx4, hj5⟩ := hp
  cases he2
  have hm7 := hM0.eq (w1 := w1) (fun k h8 h9 => hf3 k (by omega) (by omega))
  have hq8 := (hf3 113 (by omega) (by omega)).trans hQ0
  by_cases hF : (if fc.toInt = -1 then 4 else 0) = 0
  · refine z_eq (st' := [.int (nI 0)]) rfl (by rw [hF]; rfl) rfl ?_
    (try rw [hF] at hx4)
    rw [hF] at hj5
    (try simp only [↓reduceIte] at hx4)
    simp only [↓reduceIte] at hj5
    refine z_istore (lv' := [(0, .ref ar), (1, .ref (za g 0)), (2, .ref (za g 101)), (3, .ref (za g 112)), (4, .ref (za g 113)), (5, .int (nI (i))), (6, .int (nI (0)))]) dL_law_2708 (by decide) rfl ?_
    refine z_aload_n dL_law_2710 rfl ?_
    have hc17 := c_X13_failedCommand (b := 101) h0 hm7
    obtain ⟨fs9, hfs10⟩ := hm7.cell
    refine z_callV (As := []) (rest := []) (b := 101) (ci := 12) (R2 := zR 4 0) dL_law_2711 kV_RL_337 rfl ⟨⟨by decide, by decide⟩, by show _ ≤ 603072; simp only [zR]; omega, by show _ ≤ 7207018; simp only [zR]; omega⟩ (by omega) hfs10 rfl rfl rfl (Nat.le_of_ble_eq_true rfl) rfl hc17 (fun E w1 hp => by obtain ⟨_, e, _⟩ := hp; cases e) (fun v w11 hp => ?_)
    obtain ⟨r12, he13, hf14, hm15, hr16⟩ := hp
    cases he13
    have hT0 : ((if fc.toInt ≠ -1 then 0 else 1)) = 0 := by revert hF; (try simp only [spF, fPass, fRest, fIv, fMod, fRep, fPas, fMark, fWin, plc, rwP]); (repeat' split) <;> first | rfl | omega | (intro hF; omega) | contradiction | (intros; contradiction) | (simp; done) | (simp_all; done) | (intros; exfalso; simp_all; done)
    replace hr16 := hr16 (by first | exact hF | exact hT0 | (refine Decidable.byContradiction fun z => ?_; rw [if_neg z] at hT0; exact absurd hT0 (by decide)))
    rw [hT0] at hm15
    (try simp only [↓reduceIte] at hm15)
    have hx18 := hx4.fr hf14 (Or.inl (by omega))
    have hj19 := (hf14 112 (by omega)).trans hj5
    have hq20 := (hf14 113 (by omega)).trans hq8
    refine z_istore (lv' := [(0, .ref ar), (1, .ref (za g 0)), (2, .ref (za g 101)), (3, .ref (za g 112)), (4, .ref (za g 113)), (5, .int (nI (i))), (6, .int (nI (0))), (7, .int (r12))]) dL_law_2714 (by decide) rfl ?_
    refine z_aload_n dL_law_2716 rfl ?_
    obtain ⟨fs21, hfs22⟩ := hm15.cell
    refine z_callE (As := []) (rest := []) (b := 101) (ci := 12) (v := some (.int (nI (0)))) (R2 := zR 0 0) dL_law_2717 kV_RL_156 rfl ⟨⟨by decide, by decide⟩, by show _ ≤ 603072; simp only [zR]; omega, by show _ ≤ 7207018; simp only [zR]; omega⟩ (by omega) hfs22 rfl rfl rfl (Nat.le_of_ble_eq_true rfl) rfl (Mq.th h0 hm15) ?_
    refine z_iload dL_law_2720 rfl ?_
    refine z_icmp_eq_n (a := 0) (b := 0) (tgt := 2727) dL_law_2722 (by decide) (by omega) (by omega) (fun _ => ?_) (fun hq9 => absurd rfl hq9)
    refine z_iload dL_law_2727 rfl ?_
    refine z_if_ne_n (a := 0) (tgt := 2744) dL_law_2729 (by decide) (by decide) (fun hq9 => absurd rfl hq9) (fun _ => ?_)
    refine z_aload_n dL_law_2732 rfl ?_
    refine z_iconst (v := nI 0) dL_law_2733 rfl ?_
    refine z_lald (j := 112) (N := 1) (i := nI 0) dL_law_2734 (by omega) hj19 (vp_in_nI (by decide) (by decide)) ?_
    refine z_eq (st' := [.long ((fc).toInt64)]) rfl (by rw [nI_clamp (by decide)]; simp [vp_updL]) rfl ?_
    refine z_iload dL_law_2735 rfl ?_
    refine z_i2l dL_law_2737 ?_
    refine z_lcmp dL_law_2738 ?_
    refine z_eq (st' := [.int (nI 0)]) rfl (by rw [hr16, lg_self]) rfl ?_
    refine z_if_eq_n (a := 0) (tgt := 2744) dL_law_2739 (by decide) (by decide) (fun _ => ?_) (fun hq9 => absurd rfl hq9)
    refine z_goto (tgt := 2848) dL_law_2744 (by decide) ?_
    refine z_sub (lv' := [(0, .ref ar), (1, .ref (za g 0)), (2, .ref (za g 101)), (3, .ref (za g 112)), (4, .ref (za g 113)), (5, .int (nI (i)))]) [0, 1, 2, 3, 4, 5] rfl ?_
    exact zTr_wd (by simp only [zR]; omega) (by simp only [zR]; omega) (kk _ _ _ _ _ _ _ _ ⟨hz, hx18, ⟨_, hm15⟩, ⟨_, hj19⟩, ⟨_, hq20⟩⟩)
  · (first | rw [if_neg hF, if_neg hF] at hx4 | rw [if_neg hF] at hx4 | skip)
    rw [if_neg hF] at hj5
    have hk0 : rwP [4] (if fc.toInt = -1 then 4 else 0) ≠ 0 := by revert hF; (try simp only [spF, fPass, fRest, fIv, fMod, fRep, fPas, fMark, fWin, plc, rwP]); (repeat' split) <;> first | rfl | omega | (intro hF; omega) | contradiction | (intros; contradiction) | (simp; done) | (simp_all; done) | (intros; exfalso; simp_all; done)
    refine z_istore (lv' := [(0, .ref ar), (1, .ref (za g 0)), (2, .ref (za g 101)), (3, .ref (za g 112)), (4, .ref (za g 113)), (5, .int (nI (i))), (6, .int (nI (rwP [4] (if fc.toInt = -1 then 4 else 0))))]) dL_law_2708 (by decide) rfl ?_
    refine z_aload_n dL_law_2710 rfl ?_
    have hc31 := c_X13_failedCommand (b := 101) h0 hm7
    obtain ⟨fs23, hfs24⟩ := hm7.cell
    refine z_callV (As := []) (rest := []) (b := 101) (ci := 12) (R2 := zR 4 0) dL_law_2711 kV_RL_337 rfl ⟨⟨by decide, by decide⟩, by show _ ≤ 603072; simp only [zR]; omega, by show _ ≤ 7207018; simp only [zR]; omega⟩ (by omega) hfs24 rfl rfl rfl (Nat.le_of_ble_eq_true rfl) rfl hc31 (fun E w1 hp => by obtain ⟨_, e, _⟩ := hp; cases e) (fun v w25 hp => ?_)
    obtain ⟨r26, he27, hf28, hm29, hr30⟩ := hp
    cases he27
    have hT1 : ((if fc.toInt ≠ -1 then 0 else 1)) = rwP [4] (if fc.toInt = -1 then 4 else 0) := by revert hF; (try simp only [spF, fPass, fRest, fIv, fMod, fRep, fPas, fMark, fWin, plc, rwP]); (repeat' split) <;> first | rfl | omega | (intro hF; omega) | contradiction | (intros; contradiction) | (simp; done) | (simp_all; done) | (intros; exfalso; simp_all; done)
    rw [hT1] at hm29
    (try rw [if_neg hk0] at hm29)
    have hx32 := hx4.fr hf28 (Or.inl (by omega))
    have hj33 := (hf28 112 (by omega)).trans hj5
    have hq34 := (hf28 113 (by omega)).trans hq8
    refine z_istore (lv' := [(0, .ref ar), (1, .ref (za g 0)), (2, .ref (za g 101)), (3, .ref (za g 112)), (4, .ref (za g 113)), (5, .int (nI (i))), (6, .int (nI (rwP [4] (if fc.toInt = -1 then 4 else 0)))), (7, .int (r26))]) dL_law_2714 (by decide) rfl ?_
    refine z_aload_n dL_law_2716 rfl ?_
    obtain ⟨fs35, hfs36⟩ := hm29.cell
    refine z_callE (As := []) (rest := []) (b := 101) (ci := 12) (v := some (.int (nI (rwP [4] (if fc.toInt = -1 then 4 else 0))))) (R2 := zR 0 0) dL_law_2717 kV_RL_156 rfl ⟨⟨by decide, by decide⟩, by show _ ≤ 603072; simp only [zR]; omega, by show _ ≤ 7207018; simp only [zR]; omega⟩ (by omega) hfs36 rfl rfl rfl (Nat.le_of_ble_eq_true rfl) rfl (Mq.th h0 hm29) ?_
    refine z_iload dL_law_2720 rfl ?_
    refine z_icmp_eq_n (a := rwP [4] (if fc.toInt = -1 then 4 else 0)) (b := rwP [4] (if fc.toInt = -1 then 4 else 0)) (tgt := 2727) dL_law_2722 (by decide) (by simp only [rwP]; (repeat' split) <;> omega) (by simp only [rwP]; (repeat' split) <;> omega) (fun _ => ?_) (fun hq9 => absurd rfl hq9)
    refine z_iload dL_law_2727 rfl ?_
    refine z_if_ne_n (a := rwP [4] (if fc.toInt = -1 then 4 else 0)) (tgt := 2744) dL_law_2729 (by decide) (by simp only [rwP]; (repeat' split) <;> omega) (fun _ => ?_) (fun hq9 => absurd hq9 hk0)
    refine z_goto (tgt := 2848) dL_law_2744 (by decide) ?_
    refine z_sub (lv' := [(0, .ref ar), (1, .ref (za g 0)), (2, .ref (za g 101)), (3, .ref (za g 112)), (4, .ref (za g 113)), (5, .int (nI (i)))]) [0, 1, 2, 3, 4, 5] rfl ?_
    exact zTr_wd (by simp only [zR]; omega) (by simp only [zR]; omega) (kk _ _ _ _ _ _ _ _ ⟨hz, hx32, ⟨_, hm29⟩, ⟨_, hj33⟩, ⟨_, hq34⟩⟩)
set_option maxRecDepth 100000 in
set_option maxHeartbeats 4000000 in
theorem lw_case_53 {g : zGT} {w : zW} {S : zSt} {Hs : List zSt} {Sn : Option zSt} {I O : List Nat} {ep fc : Int32} {ar N i ce sl : Nat} {xs : Nat → Int32} {Post : zP} (h0 : zG0 g) (h1 : zST g) (hN : zNC g) (hT : va_T .int ar N (fun j => .int (xs j)) (zA g) (zs g) (zs g).heap) (hL : LwI g w S Hs Sn I O ep fc) (hi : i + 3 < N) (hN9 : N ≤ 2048) (hce : ce + 2 ≤ 603072) (hsl : sl + 12 ≤ 7207018) (kk : ∀ (w' : zW) (S' : zSt) (Hs' : List zSt) (Sn' : Option zSt) (I' O' : List Nat) (ep' fc' : Int32), LwI g w' S' Hs' Sn' I' O' ep' fc' → zTr g mL_law room_1 (ce + 2) (sl + 12) 2848 [(0, .ref ar), (1, .ref (za g 0)), (2, .ref (za g 101)), (3, .ref (za g 112)), (4, .ref (za g 113)), (5, .int (nI (i)))] [] w' Post) : zTr g mL_law room_1 ce sl 2747 [(0, .ref ar), (1, .ref (za g 0)), (2, .ref (za g 101)), (3, .ref (za g 112)), (4, .ref (za g 113)), (5, .int (nI (i)))] [] w Post := by
  obtain ⟨hz, hR0, ⟨t0, hM0⟩, ⟨fJ, hJ0⟩, ⟨fQ, hQ0⟩⟩ := hL
  refine z_aload_n dL_law_2747 rfl ?_
  refine z_aload_n dL_law_2748 rfl ?_
  have hc6 := c_L_undo (b := 0) (c9 := 112) h0 h1 hN hR0 (by omega) (by omega) hJ0
  refine z_callSH (As := [.ref (za g 0), .ref (za g 112)]) (rest := []) (R2 := zR 9 2) dL_law_2749 kSH_338 rfl ⟨⟨by decide, by decide⟩, by show _ ≤ 603072; simp only [zR]; omega, by show _ ≤ 7207018; simp only [zR]; omega⟩ rfl (Nat.le_of_ble_eq_true rfl) rfl hc6 (fun E w1 hp => by obtain ⟨e, _⟩ := hp; cases e) (fun v w1 hp => ?_)
  obtain ⟨he2, hf3, hx4, hj5⟩ := hp
  cases he2
  have hm7 := hM0.eq (w1 := w1) (fun k h8 h9 => hf3 k (by omega) (by omega))
  have hq8 := (hf3 113 (by omega) (by omega)).trans hQ0
  by_cases hF : (if Hs.length = 0 then 3 else 0) = 0
  · refine z_eq (st' := [.int (nI 0)]) rfl (by rw [hF]; rfl) rfl ?_
    (try rw [hF] at hx4)
    rw [hF] at hj5
    (try simp only [↓reduceIte] at hx4)
    simp only [↓reduceIte] at hj5
    refine z_istore (lv' := [(0, .ref ar), (1, .ref (za g 0)), (2, .ref (za g 101)), (3, .ref (za g 112)), (4, .ref (za g 113)), (5, .int (nI (i))), (6, .int (nI (0)))]) dL_law_2752 (by decide) rfl ?_
    refine z_aload_n dL_law_2754 rfl ?_
    have hc17 := c_X13_undo (b := 101) h0 hm7
    obtain ⟨fs9, hfs10⟩ := hm7.cell
    refine z_callV (As := []) (rest := []) (b := 101) (ci := 12) (R2 := zR 4 0) dL_law_2755 kV_RL_340 rfl ⟨⟨by decide, by decide⟩, by show _ ≤ 603072; simp only [zR]; omega, by show _ ≤ 7207018; simp only [zR]; omega⟩ (by omega) hfs10 rfl rfl rfl (Nat.le_of_ble_eq_true rfl) rfl hc17 (fun E w1 hp => by obtain ⟨_, e, _⟩ := hp; cases e) (fun v w11 hp => ?_)
    obtain ⟨r12, he13, hf14, hm15, hr16⟩ := hp
    cases he13
    have hT0 : (((if Hs.length = 0 then 1 else 0))) = 0 := by revert hF; (try simp only [spF, fPass, fRest, fIv, fMod, fRep, fPas, fMark, fWin, plc, rwP]); (repeat' split) <;> first | rfl | omega | (intro hF; omega) | contradiction | (intros; contradiction) | (simp; done) | (simp_all; done) | (intros; exfalso; simp_all; done)
    replace hr16 := hr16 (by first | exact hF | exact hT0 | (refine Decidable.byContradiction fun z => ?_; rw [if_neg z] at hT0; exact absurd hT0 (by decide)))
    rw [hT0] at hm15
    (try simp only [↓reduceIte] at hm15)
    have hx18 := hx4.fr hf14 (Or.inl (by omega))
    have hj19 := (hf14 112 (by omega)).trans hj5
    have hq20 := (hf14 113 (by omega)).trans hq8
    refine z_istore (lv' := [(0, .ref ar), (1, .ref (za g 0)), (2, .ref (za g 101)), (3, .ref (za g 112)), (4, .ref (za g 113)), (5, .int (nI (i))), (6, .int (nI (0))), (7, .int (r12))]) dL_law_2758 (by decide) rfl ?_
    refine z_aload_n dL_law_2760 rfl ?_
    obtain ⟨fs21, hfs22⟩ := hm15.cell
    refine z_callE (As := []) (rest := []) (b := 101) (ci := 12) (v := some (.int (nI (0)))) (R2 := zR 0 0) dL_law_2761 kV_RL_156 rfl ⟨⟨by decide, by decide⟩, by show _ ≤ 603072; simp only [zR]; omega, by show _ ≤ 7207018; simp only [zR]; omega⟩ (by omega) hfs22 rfl rfl rfl (Nat.le_of_ble_eq_true rfl) rfl (Mq.th h0 hm15) ?_
    refine z_iload dL_law_2764 rfl ?_
    refine z_icmp_eq_n (a := 0) (b := 0) (tgt := 2771) dL_law_2766 (by decide) (by omega) (by omega) (fun _ => ?_) (fun hq9 => absurd rfl hq9)
    refine z_iload dL_law_2771 rfl ?_
    refine z_if_ne_n (a := 0) (tgt := 2788) dL_law_2773 (by decide) (by decide) (fun hq9 => absurd rfl hq9) (fun _ => ?_)
    refine z_aload_n dL_law_2776 rfl ?_
    refine z_iconst (v := nI 0) dL_law_2777 rfl ?_
    refine z_lald (j := 112) (N := 1) (i := nI 0) dL_law_2778 (by omega) hj19 (vp_in_nI (by decide) (by decide)) ?_
    refine z_eq (st' := [.long ((nI Hs.tail.length).toInt64)]) rfl (by rw [nI_clamp (by decide)]; simp [vp_updL]) rfl ?_
    refine z_iload dL_law_2779 rfl ?_
    refine z_i2l dL_law_2781 ?_
    refine z_lcmp dL_law_2782 ?_
    refine z_eq (st' := [.int (nI 0)]) rfl (by rw [hr16, lg_self]) rfl ?_
    refine z_if_eq_n (a := 0) (tgt := 2788) dL_law_2783 (by decide) (by decide) (fun _ => ?_) (fun hq9 => absurd rfl hq9)
    refine z_goto (tgt := 2848) dL_law_2788 (by decide) ?_
    refine z_sub (lv' := [(0, .ref ar), (1, .ref (za g 0)), (2, .ref (za g 101)), (3, .ref (za g 112)), (4, .ref (za g 113)), (5, .int (nI (i)))]) [0, 1, 2, 3, 4, 5] rfl ?_
    exact zTr_wd (by simp only [zR]; omega) (by simp only [zR]; omega) (kk _ _ _ _ _ _ _ _ ⟨hz, hx18, ⟨_, hm15⟩, ⟨_, hj19⟩, ⟨_, hq20⟩⟩)
  · (first | rw [if_neg hF, if_neg hF] at hx4 | rw [if_neg hF] at hx4 | skip)
    rw [if_neg hF] at hj5
    have hk0 : rwP [3] (if Hs.length = 0 then 3 else 0) ≠ 0 := by revert hF; (try simp only [spF, fPass, fRest, fIv, fMod, fRep, fPas, fMark, fWin, plc, rwP]); (repeat' split) <;> first | rfl | omega | (intro hF; omega) | contradiction | (intros; contradiction) | (simp; done) | (simp_all; done) | (intros; exfalso; simp_all; done)
    refine z_istore (lv' := [(0, .ref ar), (1, .ref (za g 0)), (2, .ref (za g 101)), (3, .ref (za g 112)), (4, .ref (za g 113)), (5, .int (nI (i))), (6, .int (nI (rwP [3] (if Hs.length = 0 then 3 else 0))))]) dL_law_2752 (by decide) rfl ?_
    refine z_aload_n dL_law_2754 rfl ?_
    have hc31 := c_X13_undo (b := 101) h0 hm7
    obtain ⟨fs23, hfs24⟩ := hm7.cell
    refine z_callV (As := []) (rest := []) (b := 101) (ci := 12) (R2 := zR 4 0) dL_law_2755 kV_RL_340 rfl ⟨⟨by decide, by decide⟩, by show _ ≤ 603072; simp only [zR]; omega, by show _ ≤ 7207018; simp only [zR]; omega⟩ (by omega) hfs24 rfl rfl rfl (Nat.le_of_ble_eq_true rfl) rfl hc31 (fun E w1 hp => by obtain ⟨_, e, _⟩ := hp; cases e) (fun v w25 hp => ?_)
    obtain ⟨r26, he27, hf28, hm29, hr30⟩ := hp
    cases he27
    have hT1 : (((if Hs.length = 0 then 1 else 0))) = rwP [3] (if Hs.length = 0 then 3 else 0) := by revert hF; (try simp only [spF, fPass, fRest, fIv, fMod, fRep, fPas, fMark, fWin, plc, rwP]); (repeat' split) <;> first | rfl | omega | (intro hF; omega) | contradiction | (intros; contradiction) | (simp; done) | (simp_all; done) | (intros; exfalso; simp_all; done)
    rw [hT1] at hm29
    (try rw [if_neg hk0] at hm29)
    have hx32 := hx4.fr hf28 (Or.inl (by omega))
    have hj33 := (hf28 112 (by omega)).trans hj5
    have hq34 := (hf28 113 (by omega)).trans hq8
    refine z_istore (lv' := [(0, .ref ar), (1, .ref (za g 0)), (2, .ref (za g 101)), (3, .ref (za g 112)), (4, .ref (za g 113)), (5, .int (nI (i))), (6, .int (nI (rwP [3] (if Hs.length = 0 then 3 else 0)))), (7, .int (r26))]) dL_law_2758 (by decide) rfl ?_
    refine z_aload_n dL_law_2760 rfl ?_
    obtain ⟨fs35, hfs36⟩ := hm29.cell
    refine z_callE (As := []) (rest := []) (b := 101) (ci := 12) (v := some (.int (nI (rwP [3] (if Hs.length = 0 then 3 else 0))))) (R2 := zR 0 0) dL_law_2761 kV_RL_156 rfl ⟨⟨by decide, by decide⟩, by show _ ≤ 603072; simp only [zR]; omega, by show _ ≤ 7207018; simp only [zR]; omega⟩ (by omega) hfs36 rfl rfl rfl (Nat.le_of_ble_eq_true rfl) rfl (Mq.th h0 hm29) ?_
    refine z_iload dL_law_2764 rfl ?_
    refine z_icmp_eq_n (a := rwP [3] (if Hs.length = 0 then 3 else 0)) (b := rwP [3] (if Hs.length = 0 then 3 else 0)) (tgt := 2771) dL_law_2766 (by decide) (by simp only [rwP]; (repeat' split) <;> omega) (by simp only [rwP]; (repeat' split) <;> omega) (fun _ => ?_) (fun hq9 => absurd rfl hq9)
    refine z_iload dL_law_2771 rfl ?_
    refine z_if_ne_n (a := rwP [3] (if Hs.length = 0 then 3 else 0)) (tgt := 2788) dL_law_2773 (by decide) (by simp only [rwP]; (repeat' split) <;> omega) (fun _ => ?_) (fun hq9 => absurd hq9 hk0)
    refine z_goto (tgt := 2848) dL_law_2788 (by decide) ?_
    refine z_sub (lv' := [(0, .ref ar), (1, .ref (za g 0)), (2, .ref (za g 101)), (3, .ref (za g 112)), (4, .ref (za g 113)), (5, .int (nI (i)))]) [0, 1, 2, 3, 4, 5] rfl ?_
    exact zTr_wd (by simp only [zR]; omega) (by simp only [zR]; omega) (kk _ _ _ _ _ _ _ _ ⟨hz, hx32, ⟨_, hm29⟩, ⟨_, hj33⟩, ⟨_, hq34⟩⟩)
set_option maxRecDepth 100000 in
set_option maxHeartbeats 4000000 in
theorem lw_case_54 {g : zGT} {w : zW} {S : zSt} {Hs : List zSt} {Sn : Option zSt} {I O : List Nat} {ep fc : Int32} {ar N i ce sl : Nat} {xs : Nat → Int32} {Post : zP} (h0 : zG0 g) (h1 : zST g) (hN : zNC g) (hT : va_T .int ar N (fun j => .int (xs j)) (zA g) (zs g) (zs g).heap) (hL : LwI g w S Hs Sn I O ep fc) (hi : i + 3 < N) (hN9 : N ≤ 2048) (hce : ce + 2 ≤ 603072) (hsl : sl + 12 ≤ 7207018) (kk : ∀ (w' : zW) (S' : zSt) (Hs' : List zSt) (Sn' : Option zSt) (I' O' : List Nat) (ep' fc' : Int32), LwI g w' S' Hs' Sn' I' O' ep' fc' → zTr g mL_law room_1 (ce + 2) (sl + 12) 2848 [(0, .ref ar), (1, .ref (za g 0)), (2, .ref (za g 101)), (3, .ref (za g 112)), (4, .ref (za g 113)), (5, .int (nI (i)))] [] w' Post) : zTr g mL_law room_1 ce sl 2791 [(0, .ref ar), (1, .ref (za g 0)), (2, .ref (za g 101)), (3, .ref (za g 112)), (4, .ref (za g 113)), (5, .int (nI (i)))] [] w Post := by
  obtain ⟨hz, hR0, ⟨t0, hM0⟩, ⟨fJ, hJ0⟩, ⟨fQ, hQ0⟩⟩ := hL
  refine z_aload_n dL_law_2791 rfl ?_
  have hc9 := c_X12_save (b := 0) h0 h1 hR0
  refine z_callV (As := []) (rest := []) (b := 0) (ci := 11) (R2 := zR 4 0) dL_law_2792 kV_RL_341 rfl ⟨⟨by decide, by decide⟩, by show _ ≤ 603072; simp only [zR]; omega, by show _ ≤ 7207018; simp only [zR]; omega⟩ (by omega) hR0.ce rfl rfl rfl (Nat.le_of_ble_eq_true rfl) rfl hc9 (fun E w1 hp => by obtain ⟨e, _⟩ := hp; cases e) (fun v w3 hp => ?_)
  obtain ⟨he5, hf6, hr8⟩ := hp
  cases he5
  have hm10 := hM0.eq (w1 := w3) (fun k h8 h9 => hf6 k (by omega))
  have hj11 := (hf6 112 (by omega)).trans hJ0
  have hq12 := (hf6 113 (by omega)).trans hQ0
  refine z_aload_n dL_law_2795 rfl ?_
  have hc21 := c_X13_save (b := 101) h0 hm10
  obtain ⟨fs13, hfs14⟩ := hm10.cell
  refine z_callV (As := []) (rest := [.int ((nI S.1.length))]) (b := 101) (ci := 12) (R2 := zR 4 0) dL_law_2796 kV_RL_344 rfl ⟨⟨by decide, by decide⟩, by show _ ≤ 603072; simp only [zR]; omega, by show _ ≤ 7207018; simp only [zR]; omega⟩ (by omega) hfs14 rfl rfl rfl (Nat.le_of_ble_eq_true rfl) rfl hc21 (fun E w1 hp => by obtain ⟨e, _⟩ := hp; cases e) (fun v w15 hp => ?_)
  obtain ⟨he17, hf18, hm19⟩ := hp
  cases he17
  have hx22 := hr8.fr hf18 (Or.inl (by omega))
  have hj23 := (hf18 112 (by omega)).trans hj11
  have hq24 := (hf18 113 (by omega)).trans hq12
  refine z_icmp_eq (tgt := 2848) dL_law_2799 (by decide) (fun _ => ?_) (fun h9 => absurd rfl h9)
  exact zTr_wd (by simp only [zR]; omega) (by simp only [zR]; omega) (kk _ _ _ _ _ _ _ _ ⟨hz, hx22, ⟨_, hm19⟩, ⟨_, hj23⟩, ⟨_, hq24⟩⟩)
set_option maxRecDepth 100000 in
set_option maxHeartbeats 4000000 in
theorem lw_case_55 {g : zGT} {w : zW} {S : zSt} {Hs : List zSt} {Sn : Option zSt} {I O : List Nat} {ep fc : Int32} {ar N i ce sl : Nat} {xs : Nat → Int32} {Post : zP} (h0 : zG0 g) (h1 : zST g) (hN : zNC g) (hT : va_T .int ar N (fun j => .int (xs j)) (zA g) (zs g) (zs g).heap) (hL : LwI g w S Hs Sn I O ep fc) (hi : i + 3 < N) (hN9 : N ≤ 2048) (hce : ce + 2 ≤ 603072) (hsl : sl + 12 ≤ 7207018) (kk : ∀ (w' : zW) (S' : zSt) (Hs' : List zSt) (Sn' : Option zSt) (I' O' : List Nat) (ep' fc' : Int32), LwI g w' S' Hs' Sn' I' O' ep' fc' → zTr g mL_law room_1 (ce + 2) (sl + 12) 2848 [(0, .ref ar), (1, .ref (za g 0)), (2, .ref (za g 101)), (3, .ref (za g 112)), (4, .ref (za g 113)), (5, .int (nI (i)))] [] w' Post) : zTr g mL_law room_1 ce sl 2804 [(0, .ref ar), (1, .ref (za g 0)), (2, .ref (za g 101)), (3, .ref (za g 112)), (4, .ref (za g 113)), (5, .int (nI (i)))] [] w Post := by
  obtain ⟨hz, hR0, ⟨t0, hM0⟩, ⟨fJ, hJ0⟩, ⟨fQ, hQ0⟩⟩ := hL
  refine z_aload_n dL_law_2804 rfl ?_
  refine z_aload_n dL_law_2805 rfl ?_
  have hc6 := c_L_restore (b := 0) (c9 := 112) h0 h1 hN hR0 (by omega) (by omega) hJ0
  refine z_callSH (As := [.ref (za g 0), .ref (za g 112)]) (rest := []) (R2 := zR 9 2) dL_law_2806 kSH_345 rfl ⟨⟨by decide, by decide⟩, by show _ ≤ 603072; simp only [zR]; omega, by show _ ≤ 7207018; simp only [zR]; omega⟩ rfl (Nat.le_of_ble_eq_true rfl) rfl hc6 (fun E w1 hp => by obtain ⟨e, _⟩ := hp; cases e) (fun v w1 hp => ?_)
  obtain ⟨he2, hf3, hx4, hj5⟩ := hp
  cases he2
  have hm7 := hM0.eq (w1 := w1) (fun k h8 h9 => hf3 k (by omega) (by omega))
  have hq8 := (hf3 113 (by omega) (by omega)).trans hQ0
  by_cases hF : (if Sn.isSome then 0 else 3) = 0
  · refine z_eq (st' := [.int (nI 0)]) rfl (by rw [hF]; rfl) rfl ?_
    (try rw [hF] at hx4)
    rw [hF] at hj5
    (try simp only [↓reduceIte] at hx4)
    simp only [↓reduceIte] at hj5
    refine z_istore (lv' := [(0, .ref ar), (1, .ref (za g 0)), (2, .ref (za g 101)), (3, .ref (za g 112)), (4, .ref (za g 113)), (5, .int (nI (i))), (6, .int (nI (0)))]) dL_law_2809 (by decide) rfl ?_
    refine z_aload_n dL_law_2811 rfl ?_
    have hc17 := c_X13_restore (b := 101) h0 hm7
    obtain ⟨fs9, hfs10⟩ := hm7.cell
    refine z_callV (As := []) (rest := []) (b := 101) (ci := 12) (R2 := zR 4 0) dL_law_2812 kV_RL_347 rfl ⟨⟨by decide, by decide⟩, by show _ ≤ 603072; simp only [zR]; omega, by show _ ≤ 7207018; simp only [zR]; omega⟩ (by omega) hfs10 rfl rfl rfl (Nat.le_of_ble_eq_true rfl) rfl hc17 (fun E w1 hp => by obtain ⟨_, e, _⟩ := hp; cases e) (fun v w11 hp => ?_)
    obtain ⟨r12, he13, hf14, hm15, hr16⟩ := hp
    cases he13
    have hT0 : (((if Sn.isSome then 0 else 1))) = 0 := by revert hF; (try simp only [spF, fPass, fRest, fIv, fMod, fRep, fPas, fMark, fWin, plc, rwP]); (repeat' split) <;> first | rfl | omega | (intro hF; omega) | contradiction | (intros; contradiction) | (simp; done) | (simp_all; done) | (intros; exfalso; simp_all; done)
    replace hr16 := hr16 (by first | exact hF | exact hT0 | (refine Decidable.byContradiction fun z => ?_; rw [if_neg z] at hT0; exact absurd hT0 (by decide)))
    rw [hT0] at hm15
    (try simp only [↓reduceIte] at hm15)
    have hx18 := hx4.fr hf14 (Or.inl (by omega))
    have hj19 := (hf14 112 (by omega)).trans hj5
    have hq20 := (hf14 113 (by omega)).trans hq8
    refine z_istore (lv' := [(0, .ref ar), (1, .ref (za g 0)), (2, .ref (za g 101)), (3, .ref (za g 112)), (4, .ref (za g 113)), (5, .int (nI (i))), (6, .int (nI (0))), (7, .int (r12))]) dL_law_2815 (by decide) rfl ?_
    refine z_aload_n dL_law_2817 rfl ?_
    obtain ⟨fs21, hfs22⟩ := hm15.cell
    refine z_callE (As := []) (rest := []) (b := 101) (ci := 12) (v := some (.int (nI (0)))) (R2 := zR 0 0) dL_law_2818 kV_RL_156 rfl ⟨⟨by decide, by decide⟩, by show _ ≤ 603072; simp only [zR]; omega, by show _ ≤ 7207018; simp only [zR]; omega⟩ (by omega) hfs22 rfl rfl rfl (Nat.le_of_ble_eq_true rfl) rfl (Mq.th h0 hm15) ?_
    refine z_iload dL_law_2821 rfl ?_
    refine z_icmp_eq_n (a := 0) (b := 0) (tgt := 2828) dL_law_2823 (by decide) (by omega) (by omega) (fun _ => ?_) (fun hq9 => absurd rfl hq9)
    refine z_iload dL_law_2828 rfl ?_
    refine z_if_ne_n (a := 0) (tgt := 2845) dL_law_2830 (by decide) (by decide) (fun hq9 => absurd rfl hq9) (fun _ => ?_)
    refine z_aload_n dL_law_2833 rfl ?_
    refine z_iconst (v := nI 0) dL_law_2834 rfl ?_
    refine z_lald (j := 112) (N := 1) (i := nI 0) dL_law_2835 (by omega) hj19 (vp_in_nI (by decide) (by decide)) ?_
    refine z_eq (st' := [.long ((nI (Sn.getD S).1.length).toInt64)]) rfl (by rw [nI_clamp (by decide)]; simp [vp_updL]) rfl ?_
    refine z_iload dL_law_2836 rfl ?_
    refine z_i2l dL_law_2838 ?_
    refine z_lcmp dL_law_2839 ?_
    refine z_eq (st' := [.int (nI 0)]) rfl (by rw [hr16, lg_self]) rfl ?_
    refine z_if_eq_n (a := 0) (tgt := 2845) dL_law_2840 (by decide) (by decide) (fun _ => ?_) (fun hq9 => absurd rfl hq9)
    refine z_goto (tgt := 2848) dL_law_2845 (by decide) ?_
    refine z_sub (lv' := [(0, .ref ar), (1, .ref (za g 0)), (2, .ref (za g 101)), (3, .ref (za g 112)), (4, .ref (za g 113)), (5, .int (nI (i)))]) [0, 1, 2, 3, 4, 5] rfl ?_
    exact zTr_wd (by simp only [zR]; omega) (by simp only [zR]; omega) (kk _ _ _ _ _ _ _ _ ⟨hz, hx18, ⟨_, hm15⟩, ⟨_, hj19⟩, ⟨_, hq20⟩⟩)
  · (first | rw [if_neg hF, if_neg hF] at hx4 | rw [if_neg hF] at hx4 | skip)
    rw [if_neg hF] at hj5
    have hk0 : rwP [3] (if Sn.isSome then 0 else 3) ≠ 0 := by revert hF; (try simp only [spF, fPass, fRest, fIv, fMod, fRep, fPas, fMark, fWin, plc, rwP]); (repeat' split) <;> first | rfl | omega | (intro hF; omega) | contradiction | (intros; contradiction) | (simp; done) | (simp_all; done) | (intros; exfalso; simp_all; done)
    refine z_istore (lv' := [(0, .ref ar), (1, .ref (za g 0)), (2, .ref (za g 101)), (3, .ref (za g 112)), (4, .ref (za g 113)), (5, .int (nI (i))), (6, .int (nI (rwP [3] (if Sn.isSome then 0 else 3))))]) dL_law_2809 (by decide) rfl ?_
    refine z_aload_n dL_law_2811 rfl ?_
    have hc31 := c_X13_restore (b := 101) h0 hm7
    obtain ⟨fs23, hfs24⟩ := hm7.cell
    refine z_callV (As := []) (rest := []) (b := 101) (ci := 12) (R2 := zR 4 0) dL_law_2812 kV_RL_347 rfl ⟨⟨by decide, by decide⟩, by show _ ≤ 603072; simp only [zR]; omega, by show _ ≤ 7207018; simp only [zR]; omega⟩ (by omega) hfs24 rfl rfl rfl (Nat.le_of_ble_eq_true rfl) rfl hc31 (fun E w1 hp => by obtain ⟨_, e, _⟩ := hp; cases e) (fun v w25 hp => ?_)
    obtain ⟨r26, he27, hf28, hm29, hr30⟩ := hp
    cases he27
    have hT1 : (((if Sn.isSome then 0 else 1))) = rwP [3] (if Sn.isSome then 0 else 3) := by revert hF; (try simp only [spF, fPass, fRest, fIv, fMod, fRep, fPas, fMark, fWin, plc, rwP]); (repeat' split) <;> first | rfl | omega | (intro hF; omega) | contradiction | (intros; contradiction) | (simp; done) | (simp_all; done) | (intros; exfalso; simp_all; done)
    rw [hT1] at hm29
    (try rw [if_neg hk0] at hm29)
    have hx32 := hx4.fr hf28 (Or.inl (by omega))
    have hj33 := (hf28 112 (by omega)).trans hj5
    have hq34 := (hf28 113 (by omega)).trans hq8
    refine z_istore (lv' := [(0, .ref ar), (1, .ref (za g 0)), (2, .ref (za g 101)), (3, .ref (za g 112)), (4, .ref (za g 113)), (5, .int (nI (i))), (6, .int (nI (rwP [3] (if Sn.isSome then 0 else 3)))), (7, .int (r26))]) dL_law_2815 (by decide) rfl ?_
    refine z_aload_n dL_law_2817 rfl ?_
    obtain ⟨fs35, hfs36⟩ := hm29.cell
    refine z_callE (As := []) (rest := []) (b := 101) (ci := 12) (v := some (.int (nI (rwP [3] (if Sn.isSome then 0 else 3))))) (R2 := zR 0 0) dL_law_2818 kV_RL_156 rfl ⟨⟨by decide, by decide⟩, by show _ ≤ 603072; simp only [zR]; omega, by show _ ≤ 7207018; simp only [zR]; omega⟩ (by omega) hfs36 rfl rfl rfl (Nat.le_of_ble_eq_true rfl) rfl (Mq.th h0 hm29) ?_
    refine z_iload dL_law_2821 rfl ?_
    refine z_icmp_eq_n (a := rwP [3] (if Sn.isSome then 0 else 3)) (b := rwP [3] (if Sn.isSome then 0 else 3)) (tgt := 2828) dL_law_2823 (by decide) (by simp only [rwP]; (repeat' split) <;> omega) (by simp only [rwP]; (repeat' split) <;> omega) (fun _ => ?_) (fun hq9 => absurd rfl hq9)
    refine z_iload dL_law_2828 rfl ?_
    refine z_if_ne_n (a := rwP [3] (if Sn.isSome then 0 else 3)) (tgt := 2845) dL_law_2830 (by decide) (by simp only [rwP]; (repeat' split) <;> omega) (fun _ => ?_) (fun hq9 => absurd hq9 hk0)
    refine z_goto (tgt := 2848) dL_law_2845 (by decide) ?_
    refine z_sub (lv' := [(0, .ref ar), (1, .ref (za g 0)), (2, .ref (za g 101)), (3, .ref (za g 112)), (4, .ref (za g 113)), (5, .int (nI (i)))]) [0, 1, 2, 3, 4, 5] rfl ?_
    exact zTr_wd (by simp only [zR]; omega) (by simp only [zR]; omega) (kk _ _ _ _ _ _ _ _ ⟨hz, hx32, ⟨_, hm29⟩, ⟨_, hj33⟩, ⟨_, hq34⟩⟩)
