set_option maxRecDepth 100000 in
set_option maxHeartbeats 4000000 in
theorem lw_case_0 {g : zGT} {w : zW} {S : zSt} {Hs : List zSt} {Sn : Option zSt} {I O : List Nat} {ep fc : Int32} {ar N i ce sl : Nat} {xs : Nat → Int32} {Post : zP} (h0 : zG0 g) (h1 : zST g) (hN : zNC g) (hT : va_T .int ar N (fun j => .int (xs j)) (zA g) (zs g) (zs g).heap) (hL : LwI g w S Hs Sn I O ep fc) (hi : i + 3 < N) (hN9 : N ≤ 2048) (hce : ce + 2 ≤ 603072) (hsl : sl + 12 ≤ 7207018) (kk : ∀ (w' : zW) (S' : zSt) (Hs' : List zSt) (Sn' : Option zSt) (I' O' : List Nat) (ep' fc' : Int32), LwI g w' S' Hs' Sn' I' O' ep' fc' → zTr g mL_law room_1 (ce + 2) (sl + 12) 2848 [(0, .ref ar), (1, .ref (za g 0)), (2, .ref (za g 101)), (3, .ref (za g 112)), (4, .ref (za g 113)), (5, .int (nI (i)))] [] w' Post) : zTr g mL_law room_1 ce sl 284 [(0, .ref ar), (1, .ref (za g 0)), (2, .ref (za g 101)), (3, .ref (za g 112)), (4, .ref (za g 113)), (5, .int (nI (i)))] [] w Post := by
  obtain ⟨hz, hR0, ⟨t0, hM0⟩, ⟨fJ, hJ0⟩, ⟨fQ, hQ0⟩⟩ := hL
  refine z_aload_n dL_law_284 rfl ?_
  refine z_aload_n dL_law_285 rfl ?_
  refine z_iload dL_law_286 rfl ?_
  refine z_iconst (v := nI 1) dL_law_288 rfl ?_
  refine z_iadd_n (a := i) (b := 1) dL_law_289 ?_
  refine z_tabI (a := i + 1) (v := .int (xs (i + 1))) dL_law_290 hT (by omega) (by omega) rfl ?_
  refine z_aload_n dL_law_291 rfl ?_
  refine z_iload dL_law_292 rfl ?_
  refine z_iconst (v := nI 2) dL_law_294 rfl ?_
  refine z_iadd_n (a := i) (b := 2) dL_law_295 ?_
  refine z_tabI (a := i + 2) (v := .int (xs (i + 2))) dL_law_296 hT (by omega) (by omega) rfl ?_
  refine z_aload_n dL_law_297 rfl ?_
  refine z_iload dL_law_298 rfl ?_
  refine z_iconst (v := nI 3) dL_law_300 rfl ?_
  refine z_iadd_n (a := i) (b := 3) dL_law_301 ?_
  refine z_tabI (a := i + 3) (v := .int (xs (i + 3))) dL_law_302 hT (by omega) (by omega) rfl ?_
  refine z_aload_n dL_law_303 rfl ?_
  refine z_callSH (As := [.ref (za g 0), .int (xs (i + 1)), .int (xs (i + 2)), .int (xs (i + 3)), .ref (za g 112)]) (rest := []) (R2 := zR 9 2) dL_law_304 kSH_150 rfl ⟨⟨by decide, by decide⟩, by show _ ≤ 603072; simp only [zR]; omega, by show _ ≤ 7207018; simp only [zR]; omega⟩ rfl (Nat.le_of_ble_eq_true rfl) rfl (c_L_pass (b := 0) (c9 := 112) h0 h1 hN hR0 (by omega) (by omega) hJ0) (fun E w1 hp => by obtain ⟨e, _⟩ := hp; cases e) (fun v w1 hp => ?_)
  obtain ⟨he2, hf3, hx4, hj5⟩ := hp
  cases he2
  have hm6 := hM0.eq (w1 := w1) (fun k h8 h9 => hf3 k (by omega) (by omega))
  have hq7 := (hf3 113 (by omega) (by omega)).trans hQ0
  by_cases hF : (spF 0 ((xs (i + 1))).toInt ((xs (i + 2))).toInt ((xs (i + 3))).toInt S) = 0
  · refine z_eq (st' := [.int (nI 0)]) rfl (by rw [hF]; rfl) rfl ?_
    (try rw [hF] at hx4)
    rw [hF] at hj5
    (try simp only [↓reduceIte] at hx4)
    simp only [↓reduceIte] at hj5
    refine z_istore (lv' := [(0, .ref ar), (1, .ref (za g 0)), (2, .ref (za g 101)), (3, .ref (za g 112)), (4, .ref (za g 113)), (5, .int (nI (i))), (6, .int (nI (0)))]) dL_law_307 (by decide) rfl ?_
    refine z_aload_n dL_law_309 rfl ?_
    refine z_aload_n dL_law_310 rfl ?_
    refine z_iload dL_law_311 rfl ?_
    refine z_iconst (v := nI 1) dL_law_313 rfl ?_
    refine z_iadd_n (a := i) (b := 1) dL_law_314 ?_
    refine z_tabI (a := i + 1) (v := .int (xs (i + 1))) dL_law_315 hT (by omega) (by omega) rfl ?_
    refine z_aload_n dL_law_316 rfl ?_
    refine z_iload dL_law_317 rfl ?_
    refine z_iconst (v := nI 2) dL_law_319 rfl ?_
    refine z_iadd_n (a := i) (b := 2) dL_law_320 ?_
    refine z_tabI (a := i + 2) (v := .int (xs (i + 2))) dL_law_321 hT (by omega) (by omega) rfl ?_
    refine z_aload_n dL_law_322 rfl ?_
    refine z_iload dL_law_323 rfl ?_
    refine z_iconst (v := nI 3) dL_law_325 rfl ?_
    refine z_iadd_n (a := i) (b := 3) dL_law_326 ?_
    refine z_tabI (a := i + 3) (v := .int (xs (i + 3))) dL_law_327 hT (by omega) (by omega) rfl ?_
    obtain ⟨fs8, hfs9⟩ := hm6.cell
    refine z_callV (As := [.int (xs (i + 1)), .int (xs (i + 2)), .int (xs (i + 3))]) (rest := []) (b := 101) (ci := 12) (R2 := zR 3 0) dL_law_328 kV_RL_155 rfl ⟨⟨by decide, by decide⟩, by show _ ≤ 603072; simp only [zR]; omega, by show _ ≤ 7207018; simp only [zR]; omega⟩ (by omega) hfs9 rfl rfl rfl (Nat.le_of_ble_eq_true rfl) rfl (c_X13_pass (b := 101) h0 hm6) (fun E w1 hp => by obtain ⟨_, e, _⟩ := hp; cases e) (fun v w10 hp => ?_)
    obtain ⟨r11, he12, hf13, hm14, hr15⟩ := hp
    cases he12
    have hT0 : (plc 0 (spF 0 (xs (i + 1)).toInt (xs (i + 2)).toInt (xs (i + 3)).toInt S)) = 0 := by revert hF; (try simp only [spF, fPass, fRest, fIv, fMod, fRep, fPas, fMark, fWin, plc, rwP]); (repeat' split) <;> first | rfl | omega | (intro hF; omega) | contradiction | (intros; contradiction) | (simp; done) | (simp_all; done) | (intros; exfalso; simp_all; done)
    replace hr15 := hr15 (by first | exact hF | exact hT0 | (refine Decidable.byContradiction fun z => ?_; rw [if_neg z] at hT0; exact absurd hT0 (by decide)))
    rw [hT0] at hm14
    rw [if_pos (by first | exact hF | exact hT0), if_pos (by first | exact hF | exact hT0)] at hm14
    have hx16 := hx4.fr hf13 (Or.inl (by omega))
    have hj17 := (hf13 112 (by omega)).trans hj5
    have hq18 := (hf13 113 (by omega)).trans hq7
    refine z_istore (lv' := [(0, .ref ar), (1, .ref (za g 0)), (2, .ref (za g 101)), (3, .ref (za g 112)), (4, .ref (za g 113)), (5, .int (nI (i))), (6, .int (nI (0))), (7, .int (r11))]) dL_law_331 (by decide) rfl ?_
    refine z_aload_n dL_law_333 rfl ?_
    obtain ⟨fs19, hfs20⟩ := hm14.cell
    refine z_callE (As := []) (rest := []) (b := 101) (ci := 12) (v := some (.int (nI (0)))) (R2 := zR 0 0) dL_law_334 kV_RL_156 rfl ⟨⟨by decide, by decide⟩, by show _ ≤ 603072; simp only [zR]; omega, by show _ ≤ 7207018; simp only [zR]; omega⟩ (by omega) hfs20 rfl rfl rfl (Nat.le_of_ble_eq_true rfl) rfl (Mq.th h0 hm14) ?_
    refine z_iload dL_law_337 rfl ?_
    refine z_icmp_eq_n (a := 0) (b := 0) (tgt := 344) dL_law_339 (by decide) (by omega) (by omega) (fun _ => ?_) (fun hq9 => absurd rfl hq9)
    refine z_iload dL_law_344 rfl ?_
    refine z_if_ne_n (a := 0) (tgt := 361) dL_law_346 (by decide) (by decide) (fun hq9 => absurd rfl hq9) (fun _ => ?_)
    refine z_aload_n dL_law_349 rfl ?_
    refine z_iconst (v := nI 0) dL_law_350 rfl ?_
    refine z_lald (j := 112) (N := 1) (i := nI 0) dL_law_351 (by omega) hj17 (vp_in_nI (by decide) (by decide)) ?_
    refine z_eq (st' := [.long ((nI (spA 0 ((xs (i + 1))).toInt ((xs (i + 2))).toInt ((xs (i + 3))).toInt S)).toInt64)]) rfl (by rw [nI_clamp (by decide)]; simp [vp_updL]) rfl ?_
    refine z_iload dL_law_352 rfl ?_
    refine z_i2l dL_law_354 ?_
    refine z_lcmp dL_law_355 ?_
    refine z_eq (st' := [.int (nI 0)]) rfl (by rw [hr15, lg_self]) rfl ?_
    refine z_if_eq_n (a := 0) (tgt := 361) dL_law_356 (by decide) (by decide) (fun _ => ?_) (fun hq9 => absurd rfl hq9)
    refine z_goto (tgt := 2848) dL_law_361 (by decide) ?_
    refine z_sub (lv' := [(0, .ref ar), (1, .ref (za g 0)), (2, .ref (za g 101)), (3, .ref (za g 112)), (4, .ref (za g 113)), (5, .int (nI (i)))]) [0, 1, 2, 3, 4, 5] rfl ?_
    exact zTr_wd (by simp only [zR]; omega) (by simp only [zR]; omega) (kk _ _ _ _ _ _ _ _ ⟨hz, hx16, ⟨_, hm14⟩, ⟨_, hj17⟩, ⟨_, hq18⟩⟩)
  · (try rw [if_neg hF, if_neg hF] at hx4)
    rw [if_neg hF] at hj5
    have hk0 : rwP [2, 3] (spF 0 ((xs (i + 1))).toInt ((xs (i + 2))).toInt ((xs (i + 3))).toInt S) ≠ 0 := by revert hF; (try simp only [spF, fPass, fRest, fIv, fMod, fRep, fPas, fMark, fWin, plc, rwP]); (repeat' split) <;> first | rfl | omega | (intro hF; omega) | contradiction | (intros; contradiction) | (simp; done) | (simp_all; done) | (intros; exfalso; simp_all; done)
    refine z_istore (lv' := [(0, .ref ar), (1, .ref (za g 0)), (2, .ref (za g 101)), (3, .ref (za g 112)), (4, .ref (za g 113)), (5, .int (nI (i))), (6, .int (nI (rwP [2, 3] (spF 0 ((xs (i + 1))).toInt ((xs (i + 2))).toInt ((xs (i + 3))).toInt S))))]) dL_law_307 (by decide) rfl ?_
    refine z_aload_n dL_law_309 rfl ?_
    refine z_aload_n dL_law_310 rfl ?_
    refine z_iload dL_law_311 rfl ?_
    refine z_iconst (v := nI 1) dL_law_313 rfl ?_
    refine z_iadd_n (a := i) (b := 1) dL_law_314 ?_
    refine z_tabI (a := i + 1) (v := .int (xs (i + 1))) dL_law_315 hT (by omega) (by omega) rfl ?_
    refine z_aload_n dL_law_316 rfl ?_
    refine z_iload dL_law_317 rfl ?_
    refine z_iconst (v := nI 2) dL_law_319 rfl ?_
    refine z_iadd_n (a := i) (b := 2) dL_law_320 ?_
    refine z_tabI (a := i + 2) (v := .int (xs (i + 2))) dL_law_321 hT (by omega) (by omega) rfl ?_
    refine z_aload_n dL_law_322 rfl ?_
    refine z_iload dL_law_323 rfl ?_
    refine z_iconst (v := nI 3) dL_law_325 rfl ?_
    refine z_iadd_n (a := i) (b := 3) dL_law_326 ?_
    refine z_tabI (a := i + 3) (v := .int (xs (i + 3))) dL_law_327 hT (by omega) (by omega) rfl ?_
    obtain ⟨fs21, hfs22⟩ := hm6.cell
    refine z_callV (As := [.int (xs (i + 1)), .int (xs (i + 2)), .int (xs (i + 3))]) (rest := []) (b := 101) (ci := 12) (R2 := zR 3 0) dL_law_328 kV_RL_155 rfl ⟨⟨by decide, by decide⟩, by show _ ≤ 603072; simp only [zR]; omega, by show _ ≤ 7207018; simp only [zR]; omega⟩ (by omega) hfs22 rfl rfl rfl (Nat.le_of_ble_eq_true rfl) rfl (c_X13_pass (b := 101) h0 hm6) (fun E w1 hp => by obtain ⟨_, e, _⟩ := hp; cases e) (fun v w23 hp => ?_)
    obtain ⟨r24, he25, hf26, hm27, hr28⟩ := hp
    cases he25
    have hT1 : (plc 0 (spF 0 (xs (i + 1)).toInt (xs (i + 2)).toInt (xs (i + 3)).toInt S)) = rwP [2, 3] (spF 0 ((xs (i + 1))).toInt ((xs (i + 2))).toInt ((xs (i + 3))).toInt S) := by revert hF; (try simp only [spF, fPass, fRest, fIv, fMod, fRep, fPas, fMark, fWin, plc, rwP]); (repeat' split) <;> first | rfl | omega | (intro hF; omega) | contradiction | (intros; contradiction) | (simp; done) | (simp_all; done) | (intros; exfalso; simp_all; done)
    rw [hT1] at hm27
    rw [if_neg (fun z => hF z), if_neg (fun z => hF z)] at hm27
    have hx29 := hx4.fr hf26 (Or.inl (by omega))
    have hj30 := (hf26 112 (by omega)).trans hj5
    have hq31 := (hf26 113 (by omega)).trans hq7
    refine z_istore (lv' := [(0, .ref ar), (1, .ref (za g 0)), (2, .ref (za g 101)), (3, .ref (za g 112)), (4, .ref (za g 113)), (5, .int (nI (i))), (6, .int (nI (rwP [2, 3] (spF 0 ((xs (i + 1))).toInt ((xs (i + 2))).toInt ((xs (i + 3))).toInt S)))), (7, .int (r24))]) dL_law_331 (by decide) rfl ?_
    refine z_aload_n dL_law_333 rfl ?_
    obtain ⟨fs32, hfs33⟩ := hm27.cell
    refine z_callE (As := []) (rest := []) (b := 101) (ci := 12) (v := some (.int (nI (rwP [2, 3] (spF 0 ((xs (i + 1))).toInt ((xs (i + 2))).toInt ((xs (i + 3))).toInt S))))) (R2 := zR 0 0) dL_law_334 kV_RL_156 rfl ⟨⟨by decide, by decide⟩, by show _ ≤ 603072; simp only [zR]; omega, by show _ ≤ 7207018; simp only [zR]; omega⟩ (by omega) hfs33 rfl rfl rfl (Nat.le_of_ble_eq_true rfl) rfl (Mq.th h0 hm27) ?_
    refine z_iload dL_law_337 rfl ?_
    refine z_icmp_eq_n (a := rwP [2, 3] (spF 0 ((xs (i + 1))).toInt ((xs (i + 2))).toInt ((xs (i + 3))).toInt S)) (b := rwP [2, 3] (spF 0 ((xs (i + 1))).toInt ((xs (i + 2))).toInt ((xs (i + 3))).toInt S)) (tgt := 344) dL_law_339 (by decide) (by simp only [rwP]; (repeat' split) <;> omega) (by simp only [rwP]; (repeat' split) <;> omega) (fun _ => ?_) (fun hq9 => absurd rfl hq9)
    refine z_iload dL_law_344 rfl ?_
    refine z_if_ne_n (a := rwP [2, 3] (spF 0 ((xs (i + 1))).toInt ((xs (i + 2))).toInt ((xs (i + 3))).toInt S)) (tgt := 361) dL_law_346 (by decide) (by simp only [rwP]; (repeat' split) <;> omega) (fun _ => ?_) (fun hq9 => absurd hq9 hk0)
    refine z_goto (tgt := 2848) dL_law_361 (by decide) ?_
    refine z_sub (lv' := [(0, .ref ar), (1, .ref (za g 0)), (2, .ref (za g 101)), (3, .ref (za g 112)), (4, .ref (za g 113)), (5, .int (nI (i)))]) [0, 1, 2, 3, 4, 5] rfl ?_
    exact zTr_wd (by simp only [zR]; omega) (by simp only [zR]; omega) (kk _ _ _ _ _ _ _ _ ⟨hz, hx29, ⟨_, hm27⟩, ⟨_, hj30⟩, ⟨_, hq31⟩⟩)
set_option maxRecDepth 100000 in
set_option maxHeartbeats 4000000 in
theorem lw_case_12 {g : zGT} {w : zW} {S : zSt} {Hs : List zSt} {Sn : Option zSt} {I O : List Nat} {ep fc : Int32} {ar N i ce sl : Nat} {xs : Nat → Int32} {Post : zP} (h0 : zG0 g) (h1 : zST g) (hN : zNC g) (hT : va_T .int ar N (fun j => .int (xs j)) (zA g) (zs g) (zs g).heap) (hL : LwI g w S Hs Sn I O ep fc) (hi : i + 3 < N) (hN9 : N ≤ 2048) (hce : ce + 2 ≤ 603072) (hsl : sl + 12 ≤ 7207018) (kk : ∀ (w' : zW) (S' : zSt) (Hs' : List zSt) (Sn' : Option zSt) (I' O' : List Nat) (ep' fc' : Int32), LwI g w' S' Hs' Sn' I' O' ep' fc' → zTr g mL_law room_1 (ce + 2) (sl + 12) 2848 [(0, .ref ar), (1, .ref (za g 0)), (2, .ref (za g 101)), (3, .ref (za g 112)), (4, .ref (za g 113)), (5, .int (nI (i)))] [] w' Post) : zTr g mL_law room_1 ce sl 1028 [(0, .ref ar), (1, .ref (za g 0)), (2, .ref (za g 101)), (3, .ref (za g 112)), (4, .ref (za g 113)), (5, .int (nI (i)))] [] w Post := by
  obtain ⟨hz, hR0, ⟨t0, hM0⟩, ⟨fJ, hJ0⟩, ⟨fQ, hQ0⟩⟩ := hL
  refine z_aload_n dL_law_1028 rfl ?_
  refine z_aload_n dL_law_1029 rfl ?_
  refine z_iload dL_law_1030 rfl ?_
  refine z_iconst (v := nI 1) dL_law_1032 rfl ?_
  refine z_iadd_n (a := i) (b := 1) dL_law_1033 ?_
  refine z_tabI (a := i + 1) (v := .int (xs (i + 1))) dL_law_1034 hT (by omega) (by omega) rfl ?_
  refine z_aload_n dL_law_1035 rfl ?_
  refine z_callSH (As := [.ref (za g 0), .int (xs (i + 1)), .ref (za g 112)]) (rest := []) (R2 := zR 9 2) dL_law_1036 kSH_196 rfl ⟨⟨by decide, by decide⟩, by show _ ≤ 603072; simp only [zR]; omega, by show _ ≤ 7207018; simp only [zR]; omega⟩ rfl (Nat.le_of_ble_eq_true rfl) rfl (c_L_levelAt (b := 0) (c9 := 112) h0 h1 hN hR0 (by omega) (by omega) hJ0) (fun E w1 hp => by obtain ⟨e, _⟩ := hp; cases e) (fun v w1 hp => ?_)
  obtain ⟨he2, hf3, hx4, hj5⟩ := hp
  cases he2
  have hm6 := hM0.eq (w1 := w1) (fun k h8 h9 => hf3 k (by omega) (by omega))
  have hq7 := (hf3 113 (by omega) (by omega)).trans hQ0
  by_cases hF : (if 0 ≤ (xs (i + 1)).toInt ∧ (xs (i + 1)).toInt < S.1.length then 0 else 1) = 0
  · refine z_eq (st' := [.int (nI 0)]) rfl (by rw [hF]; rfl) rfl ?_
    (try rw [hF] at hx4)
    rw [hF] at hj5
    (try simp only [↓reduceIte] at hx4)
    simp only [↓reduceIte] at hj5
    refine z_istore (lv' := [(0, .ref ar), (1, .ref (za g 0)), (2, .ref (za g 101)), (3, .ref (za g 112)), (4, .ref (za g 113)), (5, .int (nI (i))), (6, .int (nI (0)))]) dL_law_1039 (by decide) rfl ?_
    refine z_aload_n dL_law_1041 rfl ?_
    refine z_aload_n dL_law_1042 rfl ?_
    refine z_iload dL_law_1043 rfl ?_
    refine z_iconst (v := nI 1) dL_law_1045 rfl ?_
    refine z_iadd_n (a := i) (b := 1) dL_law_1046 ?_
    refine z_tabI (a := i + 1) (v := .int (xs (i + 1))) dL_law_1047 hT (by omega) (by omega) rfl ?_
    obtain ⟨fs8, hfs9⟩ := hm6.cell
    refine z_callV (As := [.int (xs (i + 1))]) (rest := []) (b := 101) (ci := 12) (R2 := zR 4 0) dL_law_1048 kV_RL_198 rfl ⟨⟨by decide, by decide⟩, by show _ ≤ 603072; simp only [zR]; omega, by show _ ≤ 7207018; simp only [zR]; omega⟩ (by omega) hfs9 rfl rfl rfl (Nat.le_of_ble_eq_true rfl) rfl (c_X13_levelAt (b := 101) h0 hm6) (fun E w1 hp => by obtain ⟨_, e, _⟩ := hp; cases e) (fun v w10 hp => ?_)
    obtain ⟨r11, he12, hf13, hm14, hr15⟩ := hp
    cases he12
    have hT0 : (if 0 ≤ (xs (i + 1)).toInt ∧ (xs (i + 1)).toInt < (S.1.length : Nat) then 0 else 1) = 0 := by revert hF; (try simp only [spF, fPass, fRest, fIv, fMod, fRep, fPas, fMark, fWin, plc, rwP]); (repeat' split) <;> first | rfl | omega | (intro hF; omega) | contradiction | (intros; contradiction) | (simp; done) | (simp_all; done) | (intros; exfalso; simp_all; done)
    replace hr15 := hr15 (by first | exact hF | exact hT0 | (refine Decidable.byContradiction fun z => ?_; rw [if_neg z] at hT0; exact absurd hT0 (by decide)))
    rw [hT0] at hm14
    have hx16 := hx4.fr hf13 (Or.inl (by omega))
    have hj17 := (hf13 112 (by omega)).trans hj5
    have hq18 := (hf13 113 (by omega)).trans hq7
    refine z_istore (lv' := [(0, .ref ar), (1, .ref (za g 0)), (2, .ref (za g 101)), (3, .ref (za g 112)), (4, .ref (za g 113)), (5, .int (nI (i))), (6, .int (nI (0))), (7, .int (r11))]) dL_law_1051 (by decide) rfl ?_
    refine z_aload_n dL_law_1053 rfl ?_
    obtain ⟨fs19, hfs20⟩ := hm14.cell
    refine z_callE (As := []) (rest := []) (b := 101) (ci := 12) (v := some (.int (nI (0)))) (R2 := zR 0 0) dL_law_1054 kV_RL_156 rfl ⟨⟨by decide, by decide⟩, by show _ ≤ 603072; simp only [zR]; omega, by show _ ≤ 7207018; simp only [zR]; omega⟩ (by omega) hfs20 rfl rfl rfl (Nat.le_of_ble_eq_true rfl) rfl (Mq.th h0 hm14) ?_
    refine z_iload dL_law_1057 rfl ?_
    refine z_icmp_eq_n (a := 0) (b := 0) (tgt := 1064) dL_law_1059 (by decide) (by omega) (by omega) (fun _ => ?_) (fun hq9 => absurd rfl hq9)
    refine z_iload dL_law_1064 rfl ?_
    refine z_if_ne_n (a := 0) (tgt := 1081) dL_law_1066 (by decide) (by decide) (fun hq9 => absurd rfl hq9) (fun _ => ?_)
    refine z_aload_n dL_law_1069 rfl ?_
    refine z_iconst (v := nI 0) dL_law_1070 rfl ?_
    refine z_lald (j := 112) (N := 1) (i := nI 0) dL_law_1071 (by omega) hj17 (vp_in_nI (by decide) (by decide)) ?_
    refine z_eq (st' := [.long ((nI (gT S.1 (xs (i + 1)).toInt.toNat)).toInt64)]) rfl (by rw [nI_clamp (by decide)]; simp [vp_updL]) rfl ?_
    refine z_iload dL_law_1072 rfl ?_
    refine z_i2l dL_law_1074 ?_
    refine z_lcmp dL_law_1075 ?_
    refine z_eq (st' := [.int (nI 0)]) rfl (by rw [hr15, lg_self]) rfl ?_
    refine z_if_eq_n (a := 0) (tgt := 1081) dL_law_1076 (by decide) (by decide) (fun _ => ?_) (fun hq9 => absurd rfl hq9)
    refine z_goto (tgt := 2848) dL_law_1081 (by decide) ?_
    refine z_sub (lv' := [(0, .ref ar), (1, .ref (za g 0)), (2, .ref (za g 101)), (3, .ref (za g 112)), (4, .ref (za g 113)), (5, .int (nI (i)))]) [0, 1, 2, 3, 4, 5] rfl ?_
    exact zTr_wd (by simp only [zR]; omega) (by simp only [zR]; omega) (kk _ _ _ _ _ _ _ _ ⟨hz, hx16, ⟨_, hm14⟩, ⟨_, hj17⟩, ⟨_, hq18⟩⟩)
  · (try rw [if_neg hF, if_neg hF] at hx4)
    rw [if_neg hF] at hj5
    have hk0 : rwP [1] (if 0 ≤ (xs (i + 1)).toInt ∧ (xs (i + 1)).toInt < S.1.length then 0 else 1) ≠ 0 := by revert hF; (try simp only [spF, fPass, fRest, fIv, fMod, fRep, fPas, fMark, fWin, plc, rwP]); (repeat' split) <;> first | rfl | omega | (intro hF; omega) | contradiction | (intros; contradiction) | (simp; done) | (simp_all; done) | (intros; exfalso; simp_all; done)
    refine z_istore (lv' := [(0, .ref ar), (1, .ref (za g 0)), (2, .ref (za g 101)), (3, .ref (za g 112)), (4, .ref (za g 113)), (5, .int (nI (i))), (6, .int (nI (rwP [1] (if 0 ≤ (xs (i + 1)).toInt ∧ (xs (i + 1)).toInt < S.1.length then 0 else 1))))]) dL_law_1039 (by decide) rfl ?_
    refine z_aload_n dL_law_1041 rfl ?_
    refine z_aload_n dL_law_1042 rfl ?_
    refine z_iload dL_law_1043 rfl ?_
    refine z_iconst (v := nI 1) dL_law_1045 rfl ?_
    refine z_iadd_n (a := i) (b := 1) dL_law_1046 ?_
    refine z_tabI (a := i + 1) (v := .int (xs (i + 1))) dL_law_1047 hT (by omega) (by omega) rfl ?_
    obtain ⟨fs21, hfs22⟩ := hm6.cell
    refine z_callV (As := [.int (xs (i + 1))]) (rest := []) (b := 101) (ci := 12) (R2 := zR 4 0) dL_law_1048 kV_RL_198 rfl ⟨⟨by decide, by decide⟩, by show _ ≤ 603072; simp only [zR]; omega, by show _ ≤ 7207018; simp only [zR]; omega⟩ (by omega) hfs22 rfl rfl rfl (Nat.le_of_ble_eq_true rfl) rfl (c_X13_levelAt (b := 101) h0 hm6) (fun E w1 hp => by obtain ⟨_, e, _⟩ := hp; cases e) (fun v w23 hp => ?_)
    obtain ⟨r24, he25, hf26, hm27, hr28⟩ := hp
    cases he25
    have hT1 : (if 0 ≤ (xs (i + 1)).toInt ∧ (xs (i + 1)).toInt < (S.1.length : Nat) then 0 else 1) = rwP [1] (if 0 ≤ (xs (i + 1)).toInt ∧ (xs (i + 1)).toInt < S.1.length then 0 else 1) := by revert hF; (try simp only [spF, fPass, fRest, fIv, fMod, fRep, fPas, fMark, fWin, plc, rwP]); (repeat' split) <;> first | rfl | omega | (intro hF; omega) | contradiction | (intros; contradiction) | (simp; done) | (simp_all; done) | (intros; exfalso; simp_all; done)
    rw [hT1] at hm27
    have hx29 := hx4.fr hf26 (Or.inl (by omega))
    have hj30 := (hf26 112 (by omega)).trans hj5
    have hq31 := (hf26 113 (by omega)).trans hq7
    refine z_istore (lv' := [(0, .ref ar), (1, .ref (za g 0)), (2, .ref (za g 101)), (3, .ref (za g 112)), (4, .ref (za g 113)), (5, .int (nI (i))), (6, .int (nI (rwP [1] (if 0 ≤ (xs (i + 1)).toInt ∧ (xs (i + 1)).toInt < S.1.length then 0 else 1)))), (7, .int (r24))]) dL_law_1051 (by decide) rfl ?_
    refine z_aload_n dL_law_1053 rfl ?_
    obtain ⟨fs32, hfs33⟩ := hm27.cell
    refine z_callE (As := []) (rest := []) (b := 101) (ci := 12) (v := some (.int (nI (rwP [1] (if 0 ≤ (xs (i + 1)).toInt ∧ (xs (i + 1)).toInt < S.1.length then 0 else 1))))) (R2 := zR 0 0) dL_law_1054 kV_RL_156 rfl ⟨⟨by decide, by decide⟩, by show _ ≤ 603072; simp only [zR]; omega, by show _ ≤ 7207018; simp only [zR]; omega⟩ (by omega) hfs33 rfl rfl rfl (Nat.le_of_ble_eq_true rfl) rfl (Mq.th h0 hm27) ?_
    refine z_iload dL_law_1057 rfl ?_
    refine z_icmp_eq_n (a := rwP [1] (if 0 ≤ (xs (i + 1)).toInt ∧ (xs (i + 1)).toInt < S.1.length then 0 else 1)) (b := rwP [1] (if 0 ≤ (xs (i + 1)).toInt ∧ (xs (i + 1)).toInt < S.1.length then 0 else 1)) (tgt := 1064) dL_law_1059 (by decide) (by simp only [rwP]; (repeat' split) <;> omega) (by simp only [rwP]; (repeat' split) <;> omega) (fun _ => ?_) (fun hq9 => absurd rfl hq9)
    refine z_iload dL_law_1064 rfl ?_
    refine z_if_ne_n (a := rwP [1] (if 0 ≤ (xs (i + 1)).toInt ∧ (xs (i + 1)).toInt < S.1.length then 0 else 1)) (tgt := 1081) dL_law_1066 (by decide) (by simp only [rwP]; (repeat' split) <;> omega) (fun _ => ?_) (fun hq9 => absurd hq9 hk0)
    refine z_goto (tgt := 2848) dL_law_1081 (by decide) ?_
    refine z_sub (lv' := [(0, .ref ar), (1, .ref (za g 0)), (2, .ref (za g 101)), (3, .ref (za g 112)), (4, .ref (za g 113)), (5, .int (nI (i)))]) [0, 1, 2, 3, 4, 5] rfl ?_
    exact zTr_wd (by simp only [zR]; omega) (by simp only [zR]; omega) (kk _ _ _ _ _ _ _ _ ⟨hz, hx29, ⟨_, hm27⟩, ⟨_, hj30⟩, ⟨_, hq31⟩⟩)
