theorem nI0 : (nI 0).toInt = 0 := by decide
theorem c_X13_restore {g : zGT} {w : zW} {b : Nat} {S : zSt} {Hs : List zSt} {Sn : Option zSt} {I O : List Nat} {ep fc : Int32} {t : Nat} (h0 : zG0 g) (hq : Mq g w b (S) (Hs) (Sn) (I) (O) (ep) (fc) (t)) : zCt g mX13_restore (zR 4 0) [.ref (za g b)] w (fun o w' => ∃ r, o = .inl (some (.int r)) ∧ zFr w w' b (b + 11) ∧ Mq g w' b (Sn.getD S) (if Sn.isSome then [] else Hs) (Sn) (I) (O) (ep) (fc) ((if Sn.isSome then 0 else 1)) ∧ ((if Sn.isSome then 0 else 1) = 0 → r = nI (Sn.getD S).1.length)) := by
  cases Sn with
  | none => exact c_X13_restore_n h0 hq
  | some Z => exact c_X13_restore_y h0 hq
theorem ddv_cmp {a : Int64} {c : Nat} (h : 0 < c) (h2 : c < 2 ^ 31) : Op.cmpValue (FP.dcmp (FP.ddiv (FP.l2d a) (FP.i2d (nI c))) (FP.ddiv (FP.l2d a) (FP.i2d (nI c)))) .l = nI 0 := by
  have hv := (Jvm.FP.Core.notNaN_iff _).mp (Jvm.FP.Core.ddiv_out (Jvm.FP.Core.DFin.notNaN (Jvm.FP.Core.l2d_fin a)) (Jvm.FP.Core.i2d_fin _) (fun z => Jvm.FP.Core.i2d_ne_zero (nI_nz h h2) ((Jvm.FP.Core.zero_bits2 _).mp z)))
  have h9 := Jvm.FP.Core.dcmp_self hv
  show Op.cmpValue (Jvm.FP.Core.dcmp _ _) .l = nI 0
  exact (congrArg (fun z => Op.cmpValue z .l) h9).trans rfl
theorem f2d_cmp {x : UInt32} (h : Jvm.FP.Core.fIsNaN x = false) : Op.cmpValue (FP.dcmp (FP.f2d x) (FP.f2d x)) .l = nI 0 := by
  have hv : Jvm.FP.Core.val64 (FP.f2d x) ≠ .nan := (Jvm.FP.Core.notNaN_iff _).mp (by
    unfold FP.f2d
    rw [h]
    exact Jvm.FP.Core.f2d_out h)
  have h9 := Jvm.FP.Core.dcmp_self hv
  show Op.cmpValue (Jvm.FP.Core.dcmp _ _) .l = nI 0
  exact (congrArg (fun z => Op.cmpValue z .l) h9).trans rfl
set_option maxRecDepth 100000 in
set_option maxHeartbeats 4000000 in
theorem lw_case_0 {g : zGT} {w : zW} {S : zSt} {Hs : List zSt} {Sn : Option zSt} {I O : List Nat} {ep fc : Int32} {ar N i ce sl : Nat} {xs : Nat → Int32} {Post : zP} (h0 : zG0 g) (h1 : zST g) (hN : zNC g) (hT : va_T .int ar N (fun j => .int (xs j)) (zA g) (zs g) (zs g).heap) (hL : LwI g w S Hs Sn I O ep fc) (hi : i + 3 < N) (hN9 : N ≤ 2048) (hce : ce + 2 ≤ 603072) (hsl : sl + 12 ≤ 7207018) (kk : ∀ (w' : zW) (S' : zSt) (Hs' : List zSt) (Sn' : Option zSt) (I' O' : List Nat) (ep' fc' : Int32), LwI g w' S' Hs' Sn' I' O' ep' fc' → zTr g mL_law room_1 (ce + 2) (sl + 12) 2848 [(0, .ref ar), (1, .ref (za g 0)), (2, .ref (za g 101)), (3, .ref (za g 112)), (4, .ref (za g 113)), (5, .int (nI (i)))] [] w' Post) : zTr g mL_law room_1 ce sl 284 [(0, .ref ar), (1, .ref (za g 0)), (2, .ref (za g 101)), (3, .ref (za g 112)), (4, .ref (za g 113)), (5, .int (nI (i)))] [] w Post := by
  obtain ⟨hz, hR0, ⟨t0, hM0⟩, ⟨fJ, hJ0⟩, ⟨fQ, hQ0⟩⟩ := hL
  refine z_aload_n dL_law_284 rfl ?_
  refine z_aload_n dL_law_285 rfl ?_
  refine z_iload dL_law_286 rfl ?_
  refine z_iconst (v := nI 1) dL_law_288 rfl ?_
  refine z_iadd_n (a := i) (b := 1) dL_law_289 ?_
  refine z_tabI (a := i + 1) (v := .int (xs (i + 1))) dL_law_290 hT (by omega) (by omega) rfl ?_
  refine z_aload_n dL_law_291 rfl ?_
  refine z_iload dL_law_292 rfl ?_
  refine z_iconst (v := nI 2) dL_law_294 rfl ?_
  refine z_iadd_n (a := i) (b := 2) dL_law_295 ?_
  refine z_tabI (a := i + 2) (v := .int (xs (i + 2))) dL_law_296 hT (by omega) (by omega) rfl ?_
  refine z_aload_n dL_law_297 rfl ?_
  refine z_iload dL_law_298 rfl ?_
  refine z_iconst (v := nI 3) dL_law_300 rfl ?_
  refine z_iadd_n (a := i) (b := 3) dL_law_301 ?_
  refine z_tabI (a := i + 3) (v := .int (xs (i + 3))) dL_law_302 hT (by omega) (by omega) rfl ?_
  refine z_aload_n dL_law_303 rfl ?_
  have hc6 := c_L_pass (b := 0) (c9 := 112) h0 h1 hN hR0 (by omega) (by omega) hJ0 (x := (xs (i + 1))) (y := (xs (i + 2))) (z := (xs (i + 3)))
  refine z_callSH (As := [.ref (za g 0), .int (xs (i + 1)), .int (xs (i + 2)), .int (xs (i + 3)), .ref (za g 112)]) (rest := []) (R2 := zR 9 2) dL_law_304 kSH_150 rfl ⟨⟨by decide, by decide⟩, by show _ ≤ 603072; simp only [zR]; omega, by show _ ≤ 7207018; simp only [zR]; omega⟩ rfl (Nat.le_of_ble_eq_true rfl) rfl hc6 (fun E w1 hp => by obtain ⟨e, _⟩ := hp; cases e) (fun v w1 hp => ?_)
  obtain ⟨he2, hf3, hx4, hj5⟩ := hp
  cases he2
  have hm7 := hM0.eq (w1 := w1) (fun k h8 h9 => hf3 k (by omega) (by omega))
  have hq8 := (hf3 113 (by omega) (by omega)).trans hQ0
  by_cases hF : (spF 0 ((xs (i + 1))).toInt ((xs (i + 2))).toInt ((xs (i + 3))).toInt S) = 0
  · refine z_eq (st' := [.int (nI 0)]) rfl (by rw [hF]; rfl) rfl ?_
    (try rw [hF] at hx4)
    rw [hF] at hj5
    (try simp only [↓reduceIte] at hx4)
    simp only [↓reduceIte] at hj5
    refine z_istore (lv' := [(0, .ref ar), (1, .ref (za g 0)), (2, .ref (za g 101)), (3, .ref (za g 112)), (4, .ref (za g 113)), (5, .int (nI (i))), (6, .int (nI (0)))]) dL_law_307 (by decide) rfl ?_
    refine z_aload_n dL_law_309 rfl ?_
    refine z_aload_n dL_law_310 rfl ?_
    refine z_iload dL_law_311 rfl ?_
    refine z_iconst (v := nI 1) dL_law_313 rfl ?_
    refine z_iadd_n (a := i) (b := 1) dL_law_314 ?_
    refine z_tabI (a := i + 1) (v := .int (xs (i + 1))) dL_law_315 hT (by omega) (by omega) rfl ?_
    refine z_aload_n dL_law_316 rfl ?_
    refine z_iload dL_law_317 rfl ?_
    refine z_iconst (v := nI 2) dL_law_319 rfl ?_
    refine z_iadd_n (a := i) (b := 2) dL_law_320 ?_
    refine z_tabI (a := i + 2) (v := .int (xs (i + 2))) dL_law_321 hT (by omega) (by omega) rfl ?_
    refine z_aload_n dL_law_322 rfl ?_
    refine z_iload dL_law_323 rfl ?_
    refine z_iconst (v := nI 3) dL_law_325 rfl ?_
    refine z_iadd_n (a := i) (b := 3) dL_law_326 ?_
    refine z_tabI (a := i + 3) (v := .int (xs (i + 3))) dL_law_327 hT (by omega) (by omega) rfl ?_
    have hc17 := c_X13_pass (b := 101) h0 hm7 (x := (xs (i + 1))) (y := (xs (i + 2))) (z := (xs (i + 3)))
    obtain ⟨fs9, hfs10⟩ := hm7.cell
    refine z_callV (As := [.int (xs (i + 1)), .int (xs (i + 2)), .int (xs (i + 3))]) (rest := []) (b := 101) (ci := 12) (R2 := zR 3 0) dL_law_328 kV_RL_155 rfl ⟨⟨by decide, by decide⟩, by show _ ≤ 603072; simp only [zR]; omega, by show _ ≤ 7207018; simp only [zR]; omega⟩ (by omega) hfs10 rfl rfl rfl (Nat.le_of_ble_eq_true rfl) rfl hc17 (fun E w1 hp => by obtain ⟨_, e, _⟩ := hp; cases e) (fun v w11 hp => ?_)
    obtain ⟨r12, he13, hf14, hm15, hr16⟩ := hp
    cases he13
    have hT0 : ((plc 0 (spF 0 (xs (i + 1)).toInt (xs (i + 2)).toInt (xs (i + 3)).toInt S))) = 0 := by revert hF; (try simp only [spF, fPass, fRest, fIv, fMod, fRep, fPas, fMark, fWin, plc, rwP]); (repeat' split) <;> first | rfl | omega | (intro hF; omega) | contradiction | (intros; contradiction) | (simp; done) | (simp_all; done) | (intros; exfalso; simp_all; done)
    replace hr16 := hr16 (by first | exact hF | exact hT0 | (refine Decidable.byContradiction fun z => ?_; rw [if_neg z] at hT0; exact absurd hT0 (by decide)))
    rw [hT0] at hm15
    rw [if_pos (by first | exact hF | exact hT0), if_pos (by first | exact hF | exact hT0)] at hm15
    have hx18 := hx4.fr hf14 (Or.inl (by omega))
    have hj19 := (hf14 112 (by omega)).trans hj5
    have hq20 := (hf14 113 (by omega)).trans hq8
    refine z_istore (lv' := [(0, .ref ar), (1, .ref (za g 0)), (2, .ref (za g 101)), (3, .ref (za g 112)), (4, .ref (za g 113)), (5, .int (nI (i))), (6, .int (nI (0))), (7, .int (r12))]) dL_law_331 (by decide) rfl ?_
    refine z_aload_n dL_law_333 rfl ?_
    obtain ⟨fs21, hfs22⟩ := hm15.cell
    refine z_callE (As := []) (rest := []) (b := 101) (ci := 12) (v := some (.int (nI (0)))) (R2 := zR 0 0) dL_law_334 kV_RL_156 rfl ⟨⟨by decide, by decide⟩, by show _ ≤ 603072; simp only [zR]; omega, by show _ ≤ 7207018; simp only [zR]; omega⟩ (by omega) hfs22 rfl rfl rfl (Nat.le_of_ble_eq_true rfl) rfl (Mq.th h0 hm15) ?_
    refine z_iload dL_law_337 rfl ?_
    refine z_icmp_eq_n (a := 0) (b := 0) (tgt := 344) dL_law_339 (by decide) (by omega) (by omega) (fun _ => ?_) (fun hq9 => absurd rfl hq9)
    refine z_iload dL_law_344 rfl ?_
    refine z_if_ne_n (a := 0) (tgt := 361) dL_law_346 (by decide) (by decide) (fun hq9 => absurd rfl hq9) (fun _ => ?_)
    refine z_aload_n dL_law_349 rfl ?_
    refine z_iconst (v := nI 0) dL_law_350 rfl ?_
    refine z_lald (j := 112) (N := 1) (i := nI 0) dL_law_351 (by omega) hj19 (vp_in_nI (by decide) (by decide)) ?_
    refine z_eq (st' := [.long ((nI (spA 0 ((xs (i + 1))).toInt ((xs (i + 2))).toInt ((xs (i + 3))).toInt S)).toInt64)]) rfl (by rw [nI_clamp (by decide)]; simp [vp_updL]) rfl ?_
    refine z_iload dL_law_352 rfl ?_
    refine z_i2l dL_law_354 ?_
    refine z_lcmp dL_law_355 ?_
    refine z_eq (st' := [.int (nI 0)]) rfl (by rw [hr16, lg_self]) rfl ?_
    refine z_if_eq_n (a := 0) (tgt := 361) dL_law_356 (by decide) (by decide) (fun _ => ?_) (fun hq9 => absurd rfl hq9)
    refine z_goto (tgt := 2848) dL_law_361 (by decide) ?_
    refine z_sub (lv' := [(0, .ref ar), (1, .ref (za g 0)), (2, .ref (za g 101)), (3, .ref (za g 112)), (4, .ref (za g 113)), (5, .int (nI (i)))]) [0, 1, 2, 3, 4, 5] rfl ?_
    exact zTr_wd (by simp only [zR]; omega) (by simp only [zR]; omega) (kk _ _ _ _ _ _ _ _ ⟨hz, hx18, ⟨_, hm15⟩, ⟨_, hj19⟩, ⟨_, hq20⟩⟩)
  · (first | rw [if_neg hF, if_neg hF] at hx4 | rw [if_neg hF] at hx4 | skip)
    rw [if_neg hF] at hj5
    have hk0 : rwP [2, 3] (spF 0 ((xs (i + 1))).toInt ((xs (i + 2))).toInt ((xs (i + 3))).toInt S) ≠ 0 := by revert hF; (try simp only [spF, fPass, fRest, fIv, fMod, fRep, fPas, fMark, fWin, plc, rwP]); (repeat' split) <;> first | rfl | omega | (intro hF; omega) | contradiction | (intros; contradiction) | (simp; done) | (simp_all; done) | (intros; exfalso; simp_all; done)
    refine z_istore (lv' := [(0, .ref ar), (1, .ref (za g 0)), (2, .ref (za g 101)), (3, .ref (za g 112)), (4, .ref (za g 113)), (5, .int (nI (i))), (6, .int (nI (rwP [2, 3] (spF 0 ((xs (i + 1))).toInt ((xs (i + 2))).toInt ((xs (i + 3))).toInt S))))]) dL_law_307 (by decide) rfl ?_
    refine z_aload_n dL_law_309 rfl ?_
    refine z_aload_n dL_law_310 rfl ?_
    refine z_iload dL_law_311 rfl ?_
    refine z_iconst (v := nI 1) dL_law_313 rfl ?_
    refine z_iadd_n (a := i) (b := 1) dL_law_314 ?_
    refine z_tabI (a := i + 1) (v := .int (xs (i + 1))) dL_law_315 hT (by omega) (by omega) rfl ?_
    refine z_aload_n dL_law_316 rfl ?_
    refine z_iload dL_law_317 rfl ?_
    refine z_iconst (v := nI 2) dL_law_319 rfl ?_
    refine z_iadd_n (a := i) (b := 2) dL_law_320 ?_
    refine z_tabI (a := i + 2) (v := .int (xs (i + 2))) dL_law_321 hT (by omega) (by omega) rfl ?_
    refine z_aload_n dL_law_322 rfl ?_
    refine z_iload dL_law_323 rfl ?_
    refine z_iconst (v := nI 3) dL_law_325 rfl ?_
    refine z_iadd_n (a := i) (b := 3) dL_law_326 ?_
    refine z_tabI (a := i + 3) (v := .int (xs (i + 3))) dL_law_327 hT (by omega) (by omega) rfl ?_
    have hc31 := c_X13_pass (b := 101) h0 hm7 (x := (xs (i + 1))) (y := (xs (i + 2))) (z := (xs (i + 3)))
    obtain ⟨fs23, hfs24⟩ := hm7.cell
    refine z_callV (As := [.int (xs (i + 1)), .int (xs (i + 2)), .int (xs (i + 3))]) (rest := []) (b := 101) (ci := 12) (R2 := zR 3 0) dL_law_328 kV_RL_155 rfl ⟨⟨by decide, by decide⟩, by show _ ≤ 603072; simp only [zR]; omega, by show _ ≤ 7207018; simp only [zR]; omega⟩ (by omega) hfs24 rfl rfl rfl (Nat.le_of_ble_eq_true rfl) rfl hc31 (fun E w1 hp => by obtain ⟨_, e, _⟩ := hp; cases e) (fun v w25 hp => ?_)
    obtain ⟨r26, he27, hf28, hm29, hr30⟩ := hp
    cases he27
    have hT1 : ((plc 0 (spF 0 (xs (i + 1)).toInt (xs (i + 2)).toInt (xs (i + 3)).toInt S))) = rwP [2, 3] (spF 0 ((xs (i + 1))).toInt ((xs (i + 2))).toInt ((xs (i + 3))).toInt S) := by revert hF; (try simp only [spF, fPass, fRest, fIv, fMod, fRep, fPas, fMark, fWin, plc, rwP]); (repeat' split) <;> first | rfl | omega | (intro hF; omega) | contradiction | (intros; contradiction) | (simp; done) | (simp_all; done) | (intros; exfalso; simp_all; done)
    rw [hT1] at hm29
    rw [if_neg (fun z => hF z), if_neg (fun z => hF z)] at hm29
    have hx32 := hx4.fr hf28 (Or.inl (by omega))
    have hj33 := (hf28 112 (by omega)).trans hj5
    have hq34 := (hf28 113 (by omega)).trans hq8
    refine z_istore (lv' := [(0, .ref ar), (1, .ref (za g 0)), (2, .ref (za g 101)), (3, .ref (za g 112)), (4, .ref (za g 113)), (5, .int (nI (i))), (6, .int (nI (rwP [2, 3] (spF 0 ((xs (i + 1))).toInt ((xs (i + 2))).toInt ((xs (i + 3))).toInt S)))), (7, .int (r26))]) dL_law_331 (by decide) rfl ?_
    refine z_aload_n dL_law_333 rfl ?_
    obtain ⟨fs35, hfs36⟩ := hm29.cell
    refine z_callE (As := []) (rest := []) (b := 101) (ci := 12) (v := some (.int (nI (rwP [2, 3] (spF 0 ((xs (i + 1))).toInt ((xs (i + 2))).toInt ((xs (i + 3))).toInt S))))) (R2 := zR 0 0) dL_law_334 kV_RL_156 rfl ⟨⟨by decide, by decide⟩, by show _ ≤ 603072; simp only [zR]; omega, by show _ ≤ 7207018; simp only [zR]; omega⟩ (by omega) hfs36 rfl rfl rfl (Nat.le_of_ble_eq_true rfl) rfl (Mq.th h0 hm29) ?_
    refine z_iload dL_law_337 rfl ?_
    refine z_icmp_eq_n (a := rwP [2, 3] (spF 0 ((xs (i + 1))).toInt ((xs (i + 2))).toInt ((xs (i + 3))).toInt S)) (b := rwP [2, 3] (spF 0 ((xs (i + 1))).toInt ((xs (i + 2))).toInt ((xs (i + 3))).toInt S)) (tgt := 344) dL_law_339 (by decide) (by simp only [rwP]; (repeat' split) <;> omega) (by simp only [rwP]; (repeat' split) <;> omega) (fun _ => ?_) (fun hq9 => absurd rfl hq9)
    refine z_iload dL_law_344 rfl ?_
    refine z_if_ne_n (a := rwP [2, 3] (spF 0 ((xs (i + 1))).toInt ((xs (i + 2))).toInt ((xs (i + 3))).toInt S)) (tgt := 361) dL_law_346 (by decide) (by simp only [rwP]; (repeat' split) <;> omega) (fun _ => ?_) (fun hq9 => absurd hq9 hk0)
    refine z_goto (tgt := 2848) dL_law_361 (by decide) ?_
    refine z_sub (lv' := [(0, .ref ar), (1, .ref (za g 0)), (2, .ref (za g 101)), (3, .ref (za g 112)), (4, .ref (za g 113)), (5, .int (nI (i)))]) [0, 1, 2, 3, 4, 5] rfl ?_
    exact zTr_wd (by simp only [zR]; omega) (by simp only [zR]; omega) (kk _ _ _ _ _ _ _ _ ⟨hz, hx32, ⟨_, hm29⟩, ⟨_, hj33⟩, ⟨_, hq34⟩⟩)
set_option maxRecDepth 100000 in
set_option maxHeartbeats 4000000 in
theorem lw_case_1 {g : zGT} {w : zW} {S : zSt} {Hs : List zSt} {Sn : Option zSt} {I O : List Nat} {ep fc : Int32} {ar N i ce sl : Nat} {xs : Nat → Int32} {Post : zP} (h0 : zG0 g) (h1 : zST g) (hN : zNC g) (hT : va_T .int ar N (fun j => .int (xs j)) (zA g) (zs g) (zs g).heap) (hL : LwI g w S Hs Sn I O ep fc) (hi : i + 3 < N) (hN9 : N ≤ 2048) (hce : ce + 2 ≤ 603072) (hsl : sl + 12 ≤ 7207018) (kk : ∀ (w' : zW) (S' : zSt) (Hs' : List zSt) (Sn' : Option zSt) (I' O' : List Nat) (ep' fc' : Int32), LwI g w' S' Hs' Sn' I' O' ep' fc' → zTr g mL_law room_1 (ce + 2) (sl + 12) 2848 [(0, .ref ar), (1, .ref (za g 0)), (2, .ref (za g 101)), (3, .ref (za g 112)), (4, .ref (za g 113)), (5, .int (nI (i)))] [] w' Post) : zTr g mL_law room_1 ce sl 364 [(0, .ref ar), (1, .ref (za g 0)), (2, .ref (za g 101)), (3, .ref (za g 112)), (4, .ref (za g 113)), (5, .int (nI (i)))] [] w Post := by
  obtain ⟨hz, hR0, ⟨t0, hM0⟩, ⟨fJ, hJ0⟩, ⟨fQ, hQ0⟩⟩ := hL
  refine z_aload_n dL_law_364 rfl ?_
  refine z_aload_n dL_law_365 rfl ?_
  refine z_iload dL_law_366 rfl ?_
  refine z_iconst (v := nI 1) dL_law_368 rfl ?_
  refine z_iadd_n (a := i) (b := 1) dL_law_369 ?_
  refine z_tabI (a := i + 1) (v := .int (xs (i + 1))) dL_law_370 hT (by omega) (by omega) rfl ?_
  refine z_aload_n dL_law_371 rfl ?_
  refine z_iload dL_law_372 rfl ?_
  refine z_iconst (v := nI 2) dL_law_374 rfl ?_
  refine z_iadd_n (a := i) (b := 2) dL_law_375 ?_
  refine z_tabI (a := i + 2) (v := .int (xs (i + 2))) dL_law_376 hT (by omega) (by omega) rfl ?_
  refine z_aload_n dL_law_377 rfl ?_
  have hc6 := c_L_insertRest (b := 0) (c9 := 112) h0 h1 hN hR0 (by omega) (by omega) hJ0 (x := (xs (i + 1))) (y := (xs (i + 2)))
  rw [nI0] at hc6
  refine z_callSH (As := [.ref (za g 0), .int (xs (i + 1)), .int (xs (i + 2)), .ref (za g 112)]) (rest := []) (R2 := zR 9 2) dL_law_378 kSH_159 rfl ⟨⟨by decide, by decide⟩, by show _ ≤ 603072; simp only [zR]; omega, by show _ ≤ 7207018; simp only [zR]; omega⟩ rfl (Nat.le_of_ble_eq_true rfl) rfl hc6 (fun E w1 hp => by obtain ⟨e, _⟩ := hp; cases e) (fun v w1 hp => ?_)
  obtain ⟨he2, hf3, hx4, hj5⟩ := hp
  cases he2
  have hm7 := hM0.eq (w1 := w1) (fun k h8 h9 => hf3 k (by omega) (by omega))
  have hq8 := (hf3 113 (by omega) (by omega)).trans hQ0
  by_cases hF : (spF 1 ((xs (i + 1))).toInt ((xs (i + 2))).toInt 0 S) = 0
  · refine z_eq (st' := [.int (nI 0)]) rfl (by rw [hF]; rfl) rfl ?_
    (try rw [hF] at hx4)
    rw [hF] at hj5
    (try simp only [↓reduceIte] at hx4)
    simp only [↓reduceIte] at hj5
    refine z_istore (lv' := [(0, .ref ar), (1, .ref (za g 0)), (2, .ref (za g 101)), (3, .ref (za g 112)), (4, .ref (za g 113)), (5, .int (nI (i))), (6, .int (nI (0)))]) dL_law_381 (by decide) rfl ?_
    refine z_aload_n dL_law_383 rfl ?_
    refine z_aload_n dL_law_384 rfl ?_
    refine z_iload dL_law_385 rfl ?_
    refine z_iconst (v := nI 1) dL_law_387 rfl ?_
    refine z_iadd_n (a := i) (b := 1) dL_law_388 ?_
    refine z_tabI (a := i + 1) (v := .int (xs (i + 1))) dL_law_389 hT (by omega) (by omega) rfl ?_
    refine z_aload_n dL_law_390 rfl ?_
    refine z_iload dL_law_391 rfl ?_
    refine z_iconst (v := nI 2) dL_law_393 rfl ?_
    refine z_iadd_n (a := i) (b := 2) dL_law_394 ?_
    refine z_tabI (a := i + 2) (v := .int (xs (i + 2))) dL_law_395 hT (by omega) (by omega) rfl ?_
    have hc17 := c_X13_insertRest (b := 101) h0 hm7 (x := (xs (i + 1))) (y := (xs (i + 2)))
    obtain ⟨fs9, hfs10⟩ := hm7.cell
    refine z_callV (As := [.int (xs (i + 1)), .int (xs (i + 2))]) (rest := []) (b := 101) (ci := 12) (R2 := zR 3 0) dL_law_396 kV_RL_162 rfl ⟨⟨by decide, by decide⟩, by show _ ≤ 603072; simp only [zR]; omega, by show _ ≤ 7207018; simp only [zR]; omega⟩ (by omega) hfs10 rfl rfl rfl (Nat.le_of_ble_eq_true rfl) rfl hc17 (fun E w1 hp => by obtain ⟨_, e, _⟩ := hp; cases e) (fun v w11 hp => ?_)
    obtain ⟨r12, he13, hf14, hm15, hr16⟩ := hp
    cases he13
    have hT0 : ((plc 1 (spF 1 (xs (i + 1)).toInt (xs (i + 2)).toInt 0 S))) = 0 := by revert hF; (try simp only [spF, fPass, fRest, fIv, fMod, fRep, fPas, fMark, fWin, plc, rwP]); (repeat' split) <;> first | rfl | omega | (intro hF; omega) | contradiction | (intros; contradiction) | (simp; done) | (simp_all; done) | (intros; exfalso; simp_all; done)
    replace hr16 := hr16 (by first | exact hF | exact hT0 | (refine Decidable.byContradiction fun z => ?_; rw [if_neg z] at hT0; exact absurd hT0 (by decide)))
    rw [hT0] at hm15
    rw [if_pos (by first | exact hF | exact hT0), if_pos (by first | exact hF | exact hT0)] at hm15
    have hx18 := hx4.fr hf14 (Or.inl (by omega))
    have hj19 := (hf14 112 (by omega)).trans hj5
    have hq20 := (hf14 113 (by omega)).trans hq8
    refine z_istore (lv' := [(0, .ref ar), (1, .ref (za g 0)), (2, .ref (za g 101)), (3, .ref (za g 112)), (4, .ref (za g 113)), (5, .int (nI (i))), (6, .int (nI (0))), (7, .int (r12))]) dL_law_399 (by decide) rfl ?_
    refine z_aload_n dL_law_401 rfl ?_
    obtain ⟨fs21, hfs22⟩ := hm15.cell
    refine z_callE (As := []) (rest := []) (b := 101) (ci := 12) (v := some (.int (nI (0)))) (R2 := zR 0 0) dL_law_402 kV_RL_156 rfl ⟨⟨by decide, by decide⟩, by show _ ≤ 603072; simp only [zR]; omega, by show _ ≤ 7207018; simp only [zR]; omega⟩ (by omega) hfs22 rfl rfl rfl (Nat.le_of_ble_eq_true rfl) rfl (Mq.th h0 hm15) ?_
    refine z_iload dL_law_405 rfl ?_
    refine z_icmp_eq_n (a := 0) (b := 0) (tgt := 412) dL_law_407 (by decide) (by omega) (by omega) (fun _ => ?_) (fun hq9 => absurd rfl hq9)
    refine z_iload dL_law_412 rfl ?_
    refine z_if_ne_n (a := 0) (tgt := 429) dL_law_414 (by decide) (by decide) (fun hq9 => absurd rfl hq9) (fun _ => ?_)
    refine z_aload_n dL_law_417 rfl ?_
    refine z_iconst (v := nI 0) dL_law_418 rfl ?_
    refine z_lald (j := 112) (N := 1) (i := nI 0) dL_law_419 (by omega) hj19 (vp_in_nI (by decide) (by decide)) ?_
    refine z_eq (st' := [.long ((nI (spA 1 ((xs (i + 1))).toInt ((xs (i + 2))).toInt 0 S)).toInt64)]) rfl (by rw [nI_clamp (by decide)]; simp [vp_updL]) rfl ?_
    refine z_iload dL_law_420 rfl ?_
    refine z_i2l dL_law_422 ?_
    refine z_lcmp dL_law_423 ?_
    refine z_eq (st' := [.int (nI 0)]) rfl (by rw [hr16, lg_self]) rfl ?_
    refine z_if_eq_n (a := 0) (tgt := 429) dL_law_424 (by decide) (by decide) (fun _ => ?_) (fun hq9 => absurd rfl hq9)
    refine z_goto (tgt := 2848) dL_law_429 (by decide) ?_
    refine z_sub (lv' := [(0, .ref ar), (1, .ref (za g 0)), (2, .ref (za g 101)), (3, .ref (za g 112)), (4, .ref (za g 113)), (5, .int (nI (i)))]) [0, 1, 2, 3, 4, 5] rfl ?_
    exact zTr_wd (by simp only [zR]; omega) (by simp only [zR]; omega) (kk _ _ _ _ _ _ _ _ ⟨hz, hx18, ⟨_, hm15⟩, ⟨_, hj19⟩, ⟨_, hq20⟩⟩)
  · (first | rw [if_neg hF, if_neg hF] at hx4 | rw [if_neg hF] at hx4 | skip)
    rw [if_neg hF] at hj5
    have hk0 : rwP [1, 2, 3] (spF 1 ((xs (i + 1))).toInt ((xs (i + 2))).toInt 0 S) ≠ 0 := by revert hF; (try simp only [spF, fPass, fRest, fIv, fMod, fRep, fPas, fMark, fWin, plc, rwP]); (repeat' split) <;> first | rfl | omega | (intro hF; omega) | contradiction | (intros; contradiction) | (simp; done) | (simp_all; done) | (intros; exfalso; simp_all; done)
    refine z_istore (lv' := [(0, .ref ar), (1, .ref (za g 0)), (2, .ref (za g 101)), (3, .ref (za g 112)), (4, .ref (za g 113)), (5, .int (nI (i))), (6, .int (nI (rwP [1, 2, 3] (spF 1 ((xs (i + 1))).toInt ((xs (i + 2))).toInt 0 S))))]) dL_law_381 (by decide) rfl ?_
    refine z_aload_n dL_law_383 rfl ?_
    refine z_aload_n dL_law_384 rfl ?_
    refine z_iload dL_law_385 rfl ?_
    refine z_iconst (v := nI 1) dL_law_387 rfl ?_
    refine z_iadd_n (a := i) (b := 1) dL_law_388 ?_
    refine z_tabI (a := i + 1) (v := .int (xs (i + 1))) dL_law_389 hT (by omega) (by omega) rfl ?_
    refine z_aload_n dL_law_390 rfl ?_
    refine z_iload dL_law_391 rfl ?_
    refine z_iconst (v := nI 2) dL_law_393 rfl ?_
    refine z_iadd_n (a := i) (b := 2) dL_law_394 ?_
    refine z_tabI (a := i + 2) (v := .int (xs (i + 2))) dL_law_395 hT (by omega) (by omega) rfl ?_
    have hc31 := c_X13_insertRest (b := 101) h0 hm7 (x := (xs (i + 1))) (y := (xs (i + 2)))
    obtain ⟨fs23, hfs24⟩ := hm7.cell
    refine z_callV (As := [.int (xs (i + 1)), .int (xs (i + 2))]) (rest := []) (b := 101) (ci := 12) (R2 := zR 3 0) dL_law_396 kV_RL_162 rfl ⟨⟨by decide, by decide⟩, by show _ ≤ 603072; simp only [zR]; omega, by show _ ≤ 7207018; simp only [zR]; omega⟩ (by omega) hfs24 rfl rfl rfl (Nat.le_of_ble_eq_true rfl) rfl hc31 (fun E w1 hp => by obtain ⟨_, e, _⟩ := hp; cases e) (fun v w25 hp => ?_)
    obtain ⟨r26, he27, hf28, hm29, hr30⟩ := hp
    cases he27
    have hT1 : ((plc 1 (spF 1 (xs (i + 1)).toInt (xs (i + 2)).toInt 0 S))) = rwP [1, 2, 3] (spF 1 ((xs (i + 1))).toInt ((xs (i + 2))).toInt 0 S) := by revert hF; (try simp only [spF, fPass, fRest, fIv, fMod, fRep, fPas, fMark, fWin, plc, rwP]); (repeat' split) <;> first | rfl | omega | (intro hF; omega) | contradiction | (intros; contradiction) | (simp; done) | (simp_all; done) | (intros; exfalso; simp_all; done)
    rw [hT1] at hm29
    rw [if_neg (fun z => hF z), if_neg (fun z => hF z)] at hm29
    have hx32 := hx4.fr hf28 (Or.inl (by omega))
    have hj33 := (hf28 112 (by omega)).trans hj5
    have hq34 := (hf28 113 (by omega)).trans hq8
    refine z_istore (lv' := [(0, .ref ar), (1, .ref (za g 0)), (2, .ref (za g 101)), (3, .ref (za g 112)), (4, .ref (za g 113)), (5, .int (nI (i))), (6, .int (nI (rwP [1, 2, 3] (spF 1 ((xs (i + 1))).toInt ((xs (i + 2))).toInt 0 S)))), (7, .int (r26))]) dL_law_399 (by decide) rfl ?_
    refine z_aload_n dL_law_401 rfl ?_
    obtain ⟨fs35, hfs36⟩ := hm29.cell
    refine z_callE (As := []) (rest := []) (b := 101) (ci := 12) (v := some (.int (nI (rwP [1, 2, 3] (spF 1 ((xs (i + 1))).toInt ((xs (i + 2))).toInt 0 S))))) (R2 := zR 0 0) dL_law_402 kV_RL_156 rfl ⟨⟨by decide, by decide⟩, by show _ ≤ 603072; simp only [zR]; omega, by show _ ≤ 7207018; simp only [zR]; omega⟩ (by omega) hfs36 rfl rfl rfl (Nat.le_of_ble_eq_true rfl) rfl (Mq.th h0 hm29) ?_
    refine z_iload dL_law_405 rfl ?_
    refine z_icmp_eq_n (a := rwP [1, 2, 3] (spF 1 ((xs (i + 1))).toInt ((xs (i + 2))).toInt 0 S)) (b := rwP [1, 2, 3] (spF 1 ((xs (i + 1))).toInt ((xs (i + 2))).toInt 0 S)) (tgt := 412) dL_law_407 (by decide) (by simp only [rwP]; (repeat' split) <;> omega) (by simp only [rwP]; (repeat' split) <;> omega) (fun _ => ?_) (fun hq9 => absurd rfl hq9)
    refine z_iload dL_law_412 rfl ?_
    refine z_if_ne_n (a := rwP [1, 2, 3] (spF 1 ((xs (i + 1))).toInt ((xs (i + 2))).toInt 0 S)) (tgt := 429) dL_law_414 (by decide) (by simp only [rwP]; (repeat' split) <;> omega) (fun _ => ?_) (fun hq9 => absurd hq9 hk0)
    refine z_goto (tgt := 2848) dL_law_429 (by decide) ?_
    refine z_sub (lv' := [(0, .ref ar), (1, .ref (za g 0)), (2, .ref (za g 101)), (3, .ref (za g 112)), (4, .ref (za g 113)), (5, .int (nI (i)))]) [0, 1, 2, 3, 4, 5] rfl ?_
    exact zTr_wd (by simp only [zR]; omega) (by simp only [zR]; omega) (kk _ _ _ _ _ _ _ _ ⟨hz, hx32, ⟨_, hm29⟩, ⟨_, hj33⟩, ⟨_, hq34⟩⟩)
set_option maxRecDepth 100000 in
set_option maxHeartbeats 4000000 in
theorem lw_case_2 {g : zGT} {w : zW} {S : zSt} {Hs : List zSt} {Sn : Option zSt} {I O : List Nat} {ep fc : Int32} {ar N i ce sl : Nat} {xs : Nat → Int32} {Post : zP} (h0 : zG0 g) (h1 : zST g) (hN : zNC g) (hT : va_T .int ar N (fun j => .int (xs j)) (zA g) (zs g) (zs g).heap) (hL : LwI g w S Hs Sn I O ep fc) (hi : i + 3 < N) (hN9 : N ≤ 2048) (hce : ce + 2 ≤ 603072) (hsl : sl + 12 ≤ 7207018) (kk : ∀ (w' : zW) (S' : zSt) (Hs' : List zSt) (Sn' : Option zSt) (I' O' : List Nat) (ep' fc' : Int32), LwI g w' S' Hs' Sn' I' O' ep' fc' → zTr g mL_law room_1 (ce + 2) (sl + 12) 2848 [(0, .ref ar), (1, .ref (za g 0)), (2, .ref (za g 101)), (3, .ref (za g 112)), (4, .ref (za g 113)), (5, .int (nI (i)))] [] w' Post) : zTr g mL_law room_1 ce sl 432 [(0, .ref ar), (1, .ref (za g 0)), (2, .ref (za g 101)), (3, .ref (za g 112)), (4, .ref (za g 113)), (5, .int (nI (i)))] [] w Post := by
  obtain ⟨hz, hR0, ⟨t0, hM0⟩, ⟨fJ, hJ0⟩, ⟨fQ, hQ0⟩⟩ := hL
  refine z_aload_n dL_law_432 rfl ?_
  refine z_aload_n dL_law_433 rfl ?_
  refine z_iload dL_law_434 rfl ?_
  refine z_iconst (v := nI 1) dL_law_436 rfl ?_
  refine z_iadd_n (a := i) (b := 1) dL_law_437 ?_
  refine z_tabI (a := i + 1) (v := .int (xs (i + 1))) dL_law_438 hT (by omega) (by omega) rfl ?_
  refine z_aload_n dL_law_439 rfl ?_
  refine z_iload dL_law_440 rfl ?_
  refine z_iconst (v := nI 2) dL_law_442 rfl ?_
  refine z_iadd_n (a := i) (b := 2) dL_law_443 ?_
  refine z_tabI (a := i + 2) (v := .int (xs (i + 2))) dL_law_444 hT (by omega) (by omega) rfl ?_
  refine z_aload_n dL_law_445 rfl ?_
  have hc6 := c_L_remove (b := 0) (c9 := 112) h0 h1 hN hR0 (by omega) (by omega) hJ0 (x := (xs (i + 1))) (y := (xs (i + 2)))
  rw [nI0] at hc6
  refine z_callSH (As := [.ref (za g 0), .int (xs (i + 1)), .int (xs (i + 2)), .ref (za g 112)]) (rest := []) (R2 := zR 9 2) dL_law_446 kSH_163 rfl ⟨⟨by decide, by decide⟩, by show _ ≤ 603072; simp only [zR]; omega, by show _ ≤ 7207018; simp only [zR]; omega⟩ rfl (Nat.le_of_ble_eq_true rfl) rfl hc6 (fun E w1 hp => by obtain ⟨e, _⟩ := hp; cases e) (fun v w1 hp => ?_)
  obtain ⟨he2, hf3, hx4, hj5⟩ := hp
  cases he2
  have hm7 := hM0.eq (w1 := w1) (fun k h8 h9 => hf3 k (by omega) (by omega))
  have hq8 := (hf3 113 (by omega) (by omega)).trans hQ0
  by_cases hF : (spF 2 ((xs (i + 1))).toInt ((xs (i + 2))).toInt 0 S) = 0
  · refine z_eq (st' := [.int (nI 0)]) rfl (by rw [hF]; rfl) rfl ?_
    (try rw [hF] at hx4)
    rw [hF] at hj5
    (try simp only [↓reduceIte] at hx4)
    simp only [↓reduceIte] at hj5
    refine z_istore (lv' := [(0, .ref ar), (1, .ref (za g 0)), (2, .ref (za g 101)), (3, .ref (za g 112)), (4, .ref (za g 113)), (5, .int (nI (i))), (6, .int (nI (0)))]) dL_law_449 (by decide) rfl ?_
    refine z_aload_n dL_law_451 rfl ?_
    refine z_aload_n dL_law_452 rfl ?_
    refine z_iload dL_law_453 rfl ?_
    refine z_iconst (v := nI 1) dL_law_455 rfl ?_
    refine z_iadd_n (a := i) (b := 1) dL_law_456 ?_
    refine z_tabI (a := i + 1) (v := .int (xs (i + 1))) dL_law_457 hT (by omega) (by omega) rfl ?_
    refine z_aload_n dL_law_458 rfl ?_
    refine z_iload dL_law_459 rfl ?_
    refine z_iconst (v := nI 2) dL_law_461 rfl ?_
    refine z_iadd_n (a := i) (b := 2) dL_law_462 ?_
    refine z_tabI (a := i + 2) (v := .int (xs (i + 2))) dL_law_463 hT (by omega) (by omega) rfl ?_
    have hc17 := c_X13_remove (b := 101) h0 hm7 (x := (xs (i + 1))) (y := (xs (i + 2)))
    obtain ⟨fs9, hfs10⟩ := hm7.cell
    refine z_callV (As := [.int (xs (i + 1)), .int (xs (i + 2))]) (rest := []) (b := 101) (ci := 12) (R2 := zR 3 0) dL_law_464 kV_RL_165 rfl ⟨⟨by decide, by decide⟩, by show _ ≤ 603072; simp only [zR]; omega, by show _ ≤ 7207018; simp only [zR]; omega⟩ (by omega) hfs10 rfl rfl rfl (Nat.le_of_ble_eq_true rfl) rfl hc17 (fun E w1 hp => by obtain ⟨_, e, _⟩ := hp; cases e) (fun v w11 hp => ?_)
    obtain ⟨r12, he13, hf14, hm15, hr16⟩ := hp
    cases he13
    have hT0 : ((plc 2 (spF 2 (xs (i + 1)).toInt (xs (i + 2)).toInt 0 S))) = 0 := by revert hF; (try simp only [spF, fPass, fRest, fIv, fMod, fRep, fPas, fMark, fWin, plc, rwP]); (repeat' split) <;> first | rfl | omega | (intro hF; omega) | contradiction | (intros; contradiction) | (simp; done) | (simp_all; done) | (intros; exfalso; simp_all; done)
    replace hr16 := hr16 (by first | exact hF | exact hT0 | (refine Decidable.byContradiction fun z => ?_; rw [if_neg z] at hT0; exact absurd hT0 (by decide)))
    rw [hT0] at hm15
    rw [if_pos (by first | exact hF | exact hT0), if_pos (by first | exact hF | exact hT0)] at hm15
    have hx18 := hx4.fr hf14 (Or.inl (by omega))
    have hj19 := (hf14 112 (by omega)).trans hj5
    have hq20 := (hf14 113 (by omega)).trans hq8
    refine z_istore (lv' := [(0, .ref ar), (1, .ref (za g 0)), (2, .ref (za g 101)), (3, .ref (za g 112)), (4, .ref (za g 113)), (5, .int (nI (i))), (6, .int (nI (0))), (7, .int (r12))]) dL_law_467 (by decide) rfl ?_
    refine z_aload_n dL_law_469 rfl ?_
    obtain ⟨fs21, hfs22⟩ := hm15.cell
    refine z_callE (As := []) (rest := []) (b := 101) (ci := 12) (v := some (.int (nI (0)))) (R2 := zR 0 0) dL_law_470 kV_RL_156 rfl ⟨⟨by decide, by decide⟩, by show _ ≤ 603072; simp only [zR]; omega, by show _ ≤ 7207018; simp only [zR]; omega⟩ (by omega) hfs22 rfl rfl rfl (Nat.le_of_ble_eq_true rfl) rfl (Mq.th h0 hm15) ?_
    refine z_iload dL_law_473 rfl ?_
    refine z_icmp_eq_n (a := 0) (b := 0) (tgt := 480) dL_law_475 (by decide) (by omega) (by omega) (fun _ => ?_) (fun hq9 => absurd rfl hq9)
    refine z_iload dL_law_480 rfl ?_
    refine z_if_ne_n (a := 0) (tgt := 497) dL_law_482 (by decide) (by decide) (fun hq9 => absurd rfl hq9) (fun _ => ?_)
    refine z_aload_n dL_law_485 rfl ?_
    refine z_iconst (v := nI 0) dL_law_486 rfl ?_
    refine z_lald (j := 112) (N := 1) (i := nI 0) dL_law_487 (by omega) hj19 (vp_in_nI (by decide) (by decide)) ?_
    refine z_eq (st' := [.long ((nI (spA 2 ((xs (i + 1))).toInt ((xs (i + 2))).toInt 0 S)).toInt64)]) rfl (by rw [nI_clamp (by decide)]; simp [vp_updL]) rfl ?_
    refine z_iload dL_law_488 rfl ?_
    refine z_i2l dL_law_490 ?_
    refine z_lcmp dL_law_491 ?_
    refine z_eq (st' := [.int (nI 0)]) rfl (by rw [hr16, lg_self]) rfl ?_
    refine z_if_eq_n (a := 0) (tgt := 497) dL_law_492 (by decide) (by decide) (fun _ => ?_) (fun hq9 => absurd rfl hq9)
    refine z_goto (tgt := 2848) dL_law_497 (by decide) ?_
    refine z_sub (lv' := [(0, .ref ar), (1, .ref (za g 0)), (2, .ref (za g 101)), (3, .ref (za g 112)), (4, .ref (za g 113)), (5, .int (nI (i)))]) [0, 1, 2, 3, 4, 5] rfl ?_
    exact zTr_wd (by simp only [zR]; omega) (by simp only [zR]; omega) (kk _ _ _ _ _ _ _ _ ⟨hz, hx18, ⟨_, hm15⟩, ⟨_, hj19⟩, ⟨_, hq20⟩⟩)
  · (first | rw [if_neg hF, if_neg hF] at hx4 | rw [if_neg hF] at hx4 | skip)
    rw [if_neg hF] at hj5
    have hk0 : rwP [1] (spF 2 ((xs (i + 1))).toInt ((xs (i + 2))).toInt 0 S) ≠ 0 := by revert hF; (try simp only [spF, fPass, fRest, fIv, fMod, fRep, fPas, fMark, fWin, plc, rwP]); (repeat' split) <;> first | rfl | omega | (intro hF; omega) | contradiction | (intros; contradiction) | (simp; done) | (simp_all; done) | (intros; exfalso; simp_all; done)
    refine z_istore (lv' := [(0, .ref ar), (1, .ref (za g 0)), (2, .ref (za g 101)), (3, .ref (za g 112)), (4, .ref (za g 113)), (5, .int (nI (i))), (6, .int (nI (rwP [1] (spF 2 ((xs (i + 1))).toInt ((xs (i + 2))).toInt 0 S))))]) dL_law_449 (by decide) rfl ?_
    refine z_aload_n dL_law_451 rfl ?_
    refine z_aload_n dL_law_452 rfl ?_
    refine z_iload dL_law_453 rfl ?_
    refine z_iconst (v := nI 1) dL_law_455 rfl ?_
    refine z_iadd_n (a := i) (b := 1) dL_law_456 ?_
    refine z_tabI (a := i + 1) (v := .int (xs (i + 1))) dL_law_457 hT (by omega) (by omega) rfl ?_
    refine z_aload_n dL_law_458 rfl ?_
    refine z_iload dL_law_459 rfl ?_
    refine z_iconst (v := nI 2) dL_law_461 rfl ?_
    refine z_iadd_n (a := i) (b := 2) dL_law_462 ?_
    refine z_tabI (a := i + 2) (v := .int (xs (i + 2))) dL_law_463 hT (by omega) (by omega) rfl ?_
    have hc31 := c_X13_remove (b := 101) h0 hm7 (x := (xs (i + 1))) (y := (xs (i + 2)))
    obtain ⟨fs23, hfs24⟩ := hm7.cell
    refine z_callV (As := [.int (xs (i + 1)), .int (xs (i + 2))]) (rest := []) (b := 101) (ci := 12) (R2 := zR 3 0) dL_law_464 kV_RL_165 rfl ⟨⟨by decide, by decide⟩, by show _ ≤ 603072; simp only [zR]; omega, by show _ ≤ 7207018; simp only [zR]; omega⟩ (by omega) hfs24 rfl rfl rfl (Nat.le_of_ble_eq_true rfl) rfl hc31 (fun E w1 hp => by obtain ⟨_, e, _⟩ := hp; cases e) (fun v w25 hp => ?_)
    obtain ⟨r26, he27, hf28, hm29, hr30⟩ := hp
    cases he27
    have hT1 : ((plc 2 (spF 2 (xs (i + 1)).toInt (xs (i + 2)).toInt 0 S))) = rwP [1] (spF 2 ((xs (i + 1))).toInt ((xs (i + 2))).toInt 0 S) := by revert hF; (try simp only [spF, fPass, fRest, fIv, fMod, fRep, fPas, fMark, fWin, plc, rwP]); (repeat' split) <;> first | rfl | omega | (intro hF; omega) | contradiction | (intros; contradiction) | (simp; done) | (simp_all; done) | (intros; exfalso; simp_all; done)
    rw [hT1] at hm29
    rw [if_neg (fun z => hF z), if_neg (fun z => hF z)] at hm29
    have hx32 := hx4.fr hf28 (Or.inl (by omega))
    have hj33 := (hf28 112 (by omega)).trans hj5
    have hq34 := (hf28 113 (by omega)).trans hq8
    refine z_istore (lv' := [(0, .ref ar), (1, .ref (za g 0)), (2, .ref (za g 101)), (3, .ref (za g 112)), (4, .ref (za g 113)), (5, .int (nI (i))), (6, .int (nI (rwP [1] (spF 2 ((xs (i + 1))).toInt ((xs (i + 2))).toInt 0 S)))), (7, .int (r26))]) dL_law_467 (by decide) rfl ?_
    refine z_aload_n dL_law_469 rfl ?_
    obtain ⟨fs35, hfs36⟩ := hm29.cell
    refine z_callE (As := []) (rest := []) (b := 101) (ci := 12) (v := some (.int (nI (rwP [1] (spF 2 ((xs (i + 1))).toInt ((xs (i + 2))).toInt 0 S))))) (R2 := zR 0 0) dL_law_470 kV_RL_156 rfl ⟨⟨by decide, by decide⟩, by show _ ≤ 603072; simp only [zR]; omega, by show _ ≤ 7207018; simp only [zR]; omega⟩ (by omega) hfs36 rfl rfl rfl (Nat.le_of_ble_eq_true rfl) rfl (Mq.th h0 hm29) ?_
    refine z_iload dL_law_473 rfl ?_
    refine z_icmp_eq_n (a := rwP [1] (spF 2 ((xs (i + 1))).toInt ((xs (i + 2))).toInt 0 S)) (b := rwP [1] (spF 2 ((xs (i + 1))).toInt ((xs (i + 2))).toInt 0 S)) (tgt := 480) dL_law_475 (by decide) (by simp only [rwP]; (repeat' split) <;> omega) (by simp only [rwP]; (repeat' split) <;> omega) (fun _ => ?_) (fun hq9 => absurd rfl hq9)
    refine z_iload dL_law_480 rfl ?_
    refine z_if_ne_n (a := rwP [1] (spF 2 ((xs (i + 1))).toInt ((xs (i + 2))).toInt 0 S)) (tgt := 497) dL_law_482 (by decide) (by simp only [rwP]; (repeat' split) <;> omega) (fun _ => ?_) (fun hq9 => absurd hq9 hk0)
    refine z_goto (tgt := 2848) dL_law_497 (by decide) ?_
    refine z_sub (lv' := [(0, .ref ar), (1, .ref (za g 0)), (2, .ref (za g 101)), (3, .ref (za g 112)), (4, .ref (za g 113)), (5, .int (nI (i)))]) [0, 1, 2, 3, 4, 5] rfl ?_
    exact zTr_wd (by simp only [zR]; omega) (by simp only [zR]; omega) (kk _ _ _ _ _ _ _ _ ⟨hz, hx32, ⟨_, hm29⟩, ⟨_, hj33⟩, ⟨_, hq34⟩⟩)
set_option maxRecDepth 100000 in
set_option maxHeartbeats 4000000 in
theorem lw_case_3 {g : zGT} {w : zW} {S : zSt} {Hs : List zSt} {Sn : Option zSt} {I O : List Nat} {ep fc : Int32} {ar N i ce sl : Nat} {xs : Nat → Int32} {Post : zP} (h0 : zG0 g) (h1 : zST g) (hN : zNC g) (hT : va_T .int ar N (fun j => .int (xs j)) (zA g) (zs g) (zs g).heap) (hL : LwI g w S Hs Sn I O ep fc) (hi : i + 3 < N) (hN9 : N ≤ 2048) (hce : ce + 2 ≤ 603072) (hsl : sl + 12 ≤ 7207018) (kk : ∀ (w' : zW) (S' : zSt) (Hs' : List zSt) (Sn' : Option zSt) (I' O' : List Nat) (ep' fc' : Int32), LwI g w' S' Hs' Sn' I' O' ep' fc' → zTr g mL_law room_1 (ce + 2) (sl + 12) 2848 [(0, .ref ar), (1, .ref (za g 0)), (2, .ref (za g 101)), (3, .ref (za g 112)), (4, .ref (za g 113)), (5, .int (nI (i)))] [] w' Post) : zTr g mL_law room_1 ce sl 500 [(0, .ref ar), (1, .ref (za g 0)), (2, .ref (za g 101)), (3, .ref (za g 112)), (4, .ref (za g 113)), (5, .int (nI (i)))] [] w Post := by
  obtain ⟨hz, hR0, ⟨t0, hM0⟩, ⟨fJ, hJ0⟩, ⟨fQ, hQ0⟩⟩ := hL
  refine z_aload_n dL_law_500 rfl ?_
  refine z_aload_n dL_law_501 rfl ?_
  refine z_iload dL_law_502 rfl ?_
  refine z_iconst (v := nI 1) dL_law_504 rfl ?_
  refine z_iadd_n (a := i) (b := 1) dL_law_505 ?_
  refine z_tabI (a := i + 1) (v := .int (xs (i + 1))) dL_law_506 hT (by omega) (by omega) rfl ?_
  refine z_aload_n dL_law_507 rfl ?_
  refine z_iload dL_law_508 rfl ?_
  refine z_iconst (v := nI 2) dL_law_510 rfl ?_
  refine z_iadd_n (a := i) (b := 2) dL_law_511 ?_
  refine z_tabI (a := i + 2) (v := .int (xs (i + 2))) dL_law_512 hT (by omega) (by omega) rfl ?_
  refine z_aload_n dL_law_513 rfl ?_
  have hc6 := c_L_mute (b := 0) (c9 := 112) h0 h1 hN hR0 (by omega) (by omega) hJ0 (x := (xs (i + 1))) (y := (xs (i + 2)))
  rw [nI0] at hc6
  refine z_callSH (As := [.ref (za g 0), .int (xs (i + 1)), .int (xs (i + 2)), .ref (za g 112)]) (rest := []) (R2 := zR 9 2) dL_law_514 kSH_166 rfl ⟨⟨by decide, by decide⟩, by show _ ≤ 603072; simp only [zR]; omega, by show _ ≤ 7207018; simp only [zR]; omega⟩ rfl (Nat.le_of_ble_eq_true rfl) rfl hc6 (fun E w1 hp => by obtain ⟨e, _⟩ := hp; cases e) (fun v w1 hp => ?_)
  obtain ⟨he2, hf3, hx4, hj5⟩ := hp
  cases he2
  have hm7 := hM0.eq (w1 := w1) (fun k h8 h9 => hf3 k (by omega) (by omega))
  have hq8 := (hf3 113 (by omega) (by omega)).trans hQ0
  by_cases hF : (spF 3 ((xs (i + 1))).toInt ((xs (i + 2))).toInt 0 S) = 0
  · refine z_eq (st' := [.int (nI 0)]) rfl (by rw [hF]; rfl) rfl ?_
    (try rw [hF] at hx4)
    rw [hF] at hj5
    (try simp only [↓reduceIte] at hx4)
    simp only [↓reduceIte] at hj5
    refine z_istore (lv' := [(0, .ref ar), (1, .ref (za g 0)), (2, .ref (za g 101)), (3, .ref (za g 112)), (4, .ref (za g 113)), (5, .int (nI (i))), (6, .int (nI (0)))]) dL_law_517 (by decide) rfl ?_
    refine z_aload_n dL_law_519 rfl ?_
    refine z_aload_n dL_law_520 rfl ?_
    refine z_iload dL_law_521 rfl ?_
    refine z_iconst (v := nI 1) dL_law_523 rfl ?_
    refine z_iadd_n (a := i) (b := 1) dL_law_524 ?_
    refine z_tabI (a := i + 1) (v := .int (xs (i + 1))) dL_law_525 hT (by omega) (by omega) rfl ?_
    refine z_aload_n dL_law_526 rfl ?_
    refine z_iload dL_law_527 rfl ?_
    refine z_iconst (v := nI 2) dL_law_529 rfl ?_
    refine z_iadd_n (a := i) (b := 2) dL_law_530 ?_
    refine z_tabI (a := i + 2) (v := .int (xs (i + 2))) dL_law_531 hT (by omega) (by omega) rfl ?_
    have hc17 := c_X13_mute (b := 101) h0 hm7 (x := (xs (i + 1))) (y := (xs (i + 2)))
    obtain ⟨fs9, hfs10⟩ := hm7.cell
    refine z_callV (As := [.int (xs (i + 1)), .int (xs (i + 2))]) (rest := []) (b := 101) (ci := 12) (R2 := zR 3 0) dL_law_532 kV_RL_168 rfl ⟨⟨by decide, by decide⟩, by show _ ≤ 603072; simp only [zR]; omega, by show _ ≤ 7207018; simp only [zR]; omega⟩ (by omega) hfs10 rfl rfl rfl (Nat.le_of_ble_eq_true rfl) rfl hc17 (fun E w1 hp => by obtain ⟨_, e, _⟩ := hp; cases e) (fun v w11 hp => ?_)
    obtain ⟨r12, he13, hf14, hm15, hr16⟩ := hp
    cases he13
    have hT0 : ((plc 3 (spF 3 (xs (i + 1)).toInt (xs (i + 2)).toInt 0 S))) = 0 := by revert hF; (try simp only [spF, fPass, fRest, fIv, fMod, fRep, fPas, fMark, fWin, plc, rwP]); (repeat' split) <;> first | rfl | omega | (intro hF; omega) | contradiction | (intros; contradiction) | (simp; done) | (simp_all; done) | (intros; exfalso; simp_all; done)
    replace hr16 := hr16 (by first | exact hF | exact hT0 | (refine Decidable.byContradiction fun z => ?_; rw [if_neg z] at hT0; exact absurd hT0 (by decide)))
    rw [hT0] at hm15
    rw [if_pos (by first | exact hF | exact hT0), if_pos (by first | exact hF | exact hT0)] at hm15
    have hx18 := hx4.fr hf14 (Or.inl (by omega))
    have hj19 := (hf14 112 (by omega)).trans hj5
    have hq20 := (hf14 113 (by omega)).trans hq8
    refine z_istore (lv' := [(0, .ref ar), (1, .ref (za g 0)), (2, .ref (za g 101)), (3, .ref (za g 112)), (4, .ref (za g 113)), (5, .int (nI (i))), (6, .int (nI (0))), (7, .int (r12))]) dL_law_535 (by decide) rfl ?_
    refine z_aload_n dL_law_537 rfl ?_
    obtain ⟨fs21, hfs22⟩ := hm15.cell
    refine z_callE (As := []) (rest := []) (b := 101) (ci := 12) (v := some (.int (nI (0)))) (R2 := zR 0 0) dL_law_538 kV_RL_156 rfl ⟨⟨by decide, by decide⟩, by show _ ≤ 603072; simp only [zR]; omega, by show _ ≤ 7207018; simp only [zR]; omega⟩ (by omega) hfs22 rfl rfl rfl (Nat.le_of_ble_eq_true rfl) rfl (Mq.th h0 hm15) ?_
    refine z_iload dL_law_541 rfl ?_
    refine z_icmp_eq_n (a := 0) (b := 0) (tgt := 548) dL_law_543 (by decide) (by omega) (by omega) (fun _ => ?_) (fun hq9 => absurd rfl hq9)
    refine z_iload dL_law_548 rfl ?_
    refine z_if_ne_n (a := 0) (tgt := 565) dL_law_550 (by decide) (by decide) (fun hq9 => absurd rfl hq9) (fun _ => ?_)
    refine z_aload_n dL_law_553 rfl ?_
    refine z_iconst (v := nI 0) dL_law_554 rfl ?_
    refine z_lald (j := 112) (N := 1) (i := nI 0) dL_law_555 (by omega) hj19 (vp_in_nI (by decide) (by decide)) ?_
    refine z_eq (st' := [.long ((nI (spA 3 ((xs (i + 1))).toInt ((xs (i + 2))).toInt 0 S)).toInt64)]) rfl (by rw [nI_clamp (by decide)]; simp [vp_updL]) rfl ?_
    refine z_iload dL_law_556 rfl ?_
    refine z_i2l dL_law_558 ?_
    refine z_lcmp dL_law_559 ?_
    refine z_eq (st' := [.int (nI 0)]) rfl (by rw [hr16, lg_self]) rfl ?_
    refine z_if_eq_n (a := 0) (tgt := 565) dL_law_560 (by decide) (by decide) (fun _ => ?_) (fun hq9 => absurd rfl hq9)
    refine z_goto (tgt := 2848) dL_law_565 (by decide) ?_
    refine z_sub (lv' := [(0, .ref ar), (1, .ref (za g 0)), (2, .ref (za g 101)), (3, .ref (za g 112)), (4, .ref (za g 113)), (5, .int (nI (i)))]) [0, 1, 2, 3, 4, 5] rfl ?_
    exact zTr_wd (by simp only [zR]; omega) (by simp only [zR]; omega) (kk _ _ _ _ _ _ _ _ ⟨hz, hx18, ⟨_, hm15⟩, ⟨_, hj19⟩, ⟨_, hq20⟩⟩)
  · (first | rw [if_neg hF, if_neg hF] at hx4 | rw [if_neg hF] at hx4 | skip)
    rw [if_neg hF] at hj5
    have hk0 : rwP [1] (spF 3 ((xs (i + 1))).toInt ((xs (i + 2))).toInt 0 S) ≠ 0 := by revert hF; (try simp only [spF, fPass, fRest, fIv, fMod, fRep, fPas, fMark, fWin, plc, rwP]); (repeat' split) <;> first | rfl | omega | (intro hF; omega) | contradiction | (intros; contradiction) | (simp; done) | (simp_all; done) | (intros; exfalso; simp_all; done)
    refine z_istore (lv' := [(0, .ref ar), (1, .ref (za g 0)), (2, .ref (za g 101)), (3, .ref (za g 112)), (4, .ref (za g 113)), (5, .int (nI (i))), (6, .int (nI (rwP [1] (spF 3 ((xs (i + 1))).toInt ((xs (i + 2))).toInt 0 S))))]) dL_law_517 (by decide) rfl ?_
    refine z_aload_n dL_law_519 rfl ?_
    refine z_aload_n dL_law_520 rfl ?_
    refine z_iload dL_law_521 rfl ?_
    refine z_iconst (v := nI 1) dL_law_523 rfl ?_
    refine z_iadd_n (a := i) (b := 1) dL_law_524 ?_
    refine z_tabI (a := i + 1) (v := .int (xs (i + 1))) dL_law_525 hT (by omega) (by omega) rfl ?_
    refine z_aload_n dL_law_526 rfl ?_
    refine z_iload dL_law_527 rfl ?_
    refine z_iconst (v := nI 2) dL_law_529 rfl ?_
    refine z_iadd_n (a := i) (b := 2) dL_law_530 ?_
    refine z_tabI (a := i + 2) (v := .int (xs (i + 2))) dL_law_531 hT (by omega) (by omega) rfl ?_
    have hc31 := c_X13_mute (b := 101) h0 hm7 (x := (xs (i + 1))) (y := (xs (i + 2)))
    obtain ⟨fs23, hfs24⟩ := hm7.cell
    refine z_callV (As := [.int (xs (i + 1)), .int (xs (i + 2))]) (rest := []) (b := 101) (ci := 12) (R2 := zR 3 0) dL_law_532 kV_RL_168 rfl ⟨⟨by decide, by decide⟩, by show _ ≤ 603072; simp only [zR]; omega, by show _ ≤ 7207018; simp only [zR]; omega⟩ (by omega) hfs24 rfl rfl rfl (Nat.le_of_ble_eq_true rfl) rfl hc31 (fun E w1 hp => by obtain ⟨_, e, _⟩ := hp; cases e) (fun v w25 hp => ?_)
    obtain ⟨r26, he27, hf28, hm29, hr30⟩ := hp
    cases he27
    have hT1 : ((plc 3 (spF 3 (xs (i + 1)).toInt (xs (i + 2)).toInt 0 S))) = rwP [1] (spF 3 ((xs (i + 1))).toInt ((xs (i + 2))).toInt 0 S) := by revert hF; (try simp only [spF, fPass, fRest, fIv, fMod, fRep, fPas, fMark, fWin, plc, rwP]); (repeat' split) <;> first | rfl | omega | (intro hF; omega) | contradiction | (intros; contradiction) | (simp; done) | (simp_all; done) | (intros; exfalso; simp_all; done)
    rw [hT1] at hm29
    rw [if_neg (fun z => hF z), if_neg (fun z => hF z)] at hm29
    have hx32 := hx4.fr hf28 (Or.inl (by omega))
    have hj33 := (hf28 112 (by omega)).trans hj5
    have hq34 := (hf28 113 (by omega)).trans hq8
    refine z_istore (lv' := [(0, .ref ar), (1, .ref (za g 0)), (2, .ref (za g 101)), (3, .ref (za g 112)), (4, .ref (za g 113)), (5, .int (nI (i))), (6, .int (nI (rwP [1] (spF 3 ((xs (i + 1))).toInt ((xs (i + 2))).toInt 0 S)))), (7, .int (r26))]) dL_law_535 (by decide) rfl ?_
    refine z_aload_n dL_law_537 rfl ?_
    obtain ⟨fs35, hfs36⟩ := hm29.cell
    refine z_callE (As := []) (rest := []) (b := 101) (ci := 12) (v := some (.int (nI (rwP [1] (spF 3 ((xs (i + 1))).toInt ((xs (i + 2))).toInt 0 S))))) (R2 := zR 0 0) dL_law_538 kV_RL_156 rfl ⟨⟨by decide, by decide⟩, by show _ ≤ 603072; simp only [zR]; omega, by show _ ≤ 7207018; simp only [zR]; omega⟩ (by omega) hfs36 rfl rfl rfl (Nat.le_of_ble_eq_true rfl) rfl (Mq.th h0 hm29) ?_
    refine z_iload dL_law_541 rfl ?_
    refine z_icmp_eq_n (a := rwP [1] (spF 3 ((xs (i + 1))).toInt ((xs (i + 2))).toInt 0 S)) (b := rwP [1] (spF 3 ((xs (i + 1))).toInt ((xs (i + 2))).toInt 0 S)) (tgt := 548) dL_law_543 (by decide) (by simp only [rwP]; (repeat' split) <;> omega) (by simp only [rwP]; (repeat' split) <;> omega) (fun _ => ?_) (fun hq9 => absurd rfl hq9)
    refine z_iload dL_law_548 rfl ?_
    refine z_if_ne_n (a := rwP [1] (spF 3 ((xs (i + 1))).toInt ((xs (i + 2))).toInt 0 S)) (tgt := 565) dL_law_550 (by decide) (by simp only [rwP]; (repeat' split) <;> omega) (fun _ => ?_) (fun hq9 => absurd hq9 hk0)
    refine z_goto (tgt := 2848) dL_law_565 (by decide) ?_
    refine z_sub (lv' := [(0, .ref ar), (1, .ref (za g 0)), (2, .ref (za g 101)), (3, .ref (za g 112)), (4, .ref (za g 113)), (5, .int (nI (i)))]) [0, 1, 2, 3, 4, 5] rfl ?_
    exact zTr_wd (by simp only [zR]; omega) (by simp only [zR]; omega) (kk _ _ _ _ _ _ _ _ ⟨hz, hx32, ⟨_, hm29⟩, ⟨_, hj33⟩, ⟨_, hq34⟩⟩)
set_option maxRecDepth 100000 in
set_option maxHeartbeats 4000000 in
theorem lw_case_4 {g : zGT} {w : zW} {S : zSt} {Hs : List zSt} {Sn : Option zSt} {I O : List Nat} {ep fc : Int32} {ar N i ce sl : Nat} {xs : Nat → Int32} {Post : zP} (h0 : zG0 g) (h1 : zST g) (hN : zNC g) (hT : va_T .int ar N (fun j => .int (xs j)) (zA g) (zs g) (zs g).heap) (hL : LwI g w S Hs Sn I O ep fc) (hi : i + 3 < N) (hN9 : N ≤ 2048) (hce : ce + 2 ≤ 603072) (hsl : sl + 12 ≤ 7207018) (kk : ∀ (w' : zW) (S' : zSt) (Hs' : List zSt) (Sn' : Option zSt) (I' O' : List Nat) (ep' fc' : Int32), LwI g w' S' Hs' Sn' I' O' ep' fc' → zTr g mL_law room_1 (ce + 2) (sl + 12) 2848 [(0, .ref ar), (1, .ref (za g 0)), (2, .ref (za g 101)), (3, .ref (za g 112)), (4, .ref (za g 113)), (5, .int (nI (i)))] [] w' Post) : zTr g mL_law room_1 ce sl 568 [(0, .ref ar), (1, .ref (za g 0)), (2, .ref (za g 101)), (3, .ref (za g 112)), (4, .ref (za g 113)), (5, .int (nI (i)))] [] w Post := by
  obtain ⟨hz, hR0, ⟨t0, hM0⟩, ⟨fJ, hJ0⟩, ⟨fQ, hQ0⟩⟩ := hL
  refine z_aload_n dL_law_568 rfl ?_
  refine z_aload_n dL_law_569 rfl ?_
  refine z_iload dL_law_570 rfl ?_
  refine z_iconst (v := nI 1) dL_law_572 rfl ?_
  refine z_iadd_n (a := i) (b := 1) dL_law_573 ?_
  refine z_tabI (a := i + 1) (v := .int (xs (i + 1))) dL_law_574 hT (by omega) (by omega) rfl ?_
  refine z_aload_n dL_law_575 rfl ?_
  refine z_iload dL_law_576 rfl ?_
  refine z_iconst (v := nI 2) dL_law_578 rfl ?_
  refine z_iadd_n (a := i) (b := 2) dL_law_579 ?_
  refine z_tabI (a := i + 2) (v := .int (xs (i + 2))) dL_law_580 hT (by omega) (by omega) rfl ?_
  refine z_aload_n dL_law_581 rfl ?_
  refine z_iload dL_law_582 rfl ?_
  refine z_iconst (v := nI 3) dL_law_584 rfl ?_
  refine z_iadd_n (a := i) (b := 3) dL_law_585 ?_
  refine z_tabI (a := i + 3) (v := .int (xs (i + 3))) dL_law_586 hT (by omega) (by omega) rfl ?_
  refine z_aload_n dL_law_587 rfl ?_
  have hc6 := c_L_modulate (b := 0) (c9 := 112) h0 h1 hN hR0 (by omega) (by omega) hJ0 (x := (xs (i + 1))) (y := (xs (i + 2))) (z := (xs (i + 3)))
  refine z_callSH (As := [.ref (za g 0), .int (xs (i + 1)), .int (xs (i + 2)), .int (xs (i + 3)), .ref (za g 112)]) (rest := []) (R2 := zR 9 2) dL_law_588 kSH_169 rfl ⟨⟨by decide, by decide⟩, by show _ ≤ 603072; simp only [zR]; omega, by show _ ≤ 7207018; simp only [zR]; omega⟩ rfl (Nat.le_of_ble_eq_true rfl) rfl hc6 (fun E w1 hp => by obtain ⟨e, _⟩ := hp; cases e) (fun v w1 hp => ?_)
  obtain ⟨he2, hf3, hx4, hj5⟩ := hp
  cases he2
  have hm7 := hM0.eq (w1 := w1) (fun k h8 h9 => hf3 k (by omega) (by omega))
  have hq8 := (hf3 113 (by omega) (by omega)).trans hQ0
  by_cases hF : (spF 6 ((xs (i + 1))).toInt ((xs (i + 2))).toInt ((xs (i + 3))).toInt S) = 0
  · refine z_eq (st' := [.int (nI 0)]) rfl (by rw [hF]; rfl) rfl ?_
    (try rw [hF] at hx4)
    rw [hF] at hj5
    (try simp only [↓reduceIte] at hx4)
    simp only [↓reduceIte] at hj5
    refine z_istore (lv' := [(0, .ref ar), (1, .ref (za g 0)), (2, .ref (za g 101)), (3, .ref (za g 112)), (4, .ref (za g 113)), (5, .int (nI (i))), (6, .int (nI (0)))]) dL_law_591 (by decide) rfl ?_
    refine z_aload_n dL_law_593 rfl ?_
    refine z_aload_n dL_law_594 rfl ?_
    refine z_iload dL_law_595 rfl ?_
    refine z_iconst (v := nI 1) dL_law_597 rfl ?_
    refine z_iadd_n (a := i) (b := 1) dL_law_598 ?_
    refine z_tabI (a := i + 1) (v := .int (xs (i + 1))) dL_law_599 hT (by omega) (by omega) rfl ?_
    refine z_aload_n dL_law_600 rfl ?_
    refine z_iload dL_law_601 rfl ?_
    refine z_iconst (v := nI 2) dL_law_603 rfl ?_
    refine z_iadd_n (a := i) (b := 2) dL_law_604 ?_
    refine z_tabI (a := i + 2) (v := .int (xs (i + 2))) dL_law_605 hT (by omega) (by omega) rfl ?_
    refine z_aload_n dL_law_606 rfl ?_
    refine z_iload dL_law_607 rfl ?_
    refine z_iconst (v := nI 3) dL_law_609 rfl ?_
    refine z_iadd_n (a := i) (b := 3) dL_law_610 ?_
    refine z_tabI (a := i + 3) (v := .int (xs (i + 3))) dL_law_611 hT (by omega) (by omega) rfl ?_
    have hc17 := c_X13_modulate (b := 101) h0 hm7 (x := (xs (i + 1))) (y := (xs (i + 2))) (z := (xs (i + 3)))
    obtain ⟨fs9, hfs10⟩ := hm7.cell
    refine z_callV (As := [.int (xs (i + 1)), .int (xs (i + 2)), .int (xs (i + 3))]) (rest := []) (b := 101) (ci := 12) (R2 := zR 3 0) dL_law_612 kV_RL_171 rfl ⟨⟨by decide, by decide⟩, by show _ ≤ 603072; simp only [zR]; omega, by show _ ≤ 7207018; simp only [zR]; omega⟩ (by omega) hfs10 rfl rfl rfl (Nat.le_of_ble_eq_true rfl) rfl hc17 (fun E w1 hp => by obtain ⟨_, e, _⟩ := hp; cases e) (fun v w11 hp => ?_)
    obtain ⟨r12, he13, hf14, hm15, hr16⟩ := hp
    cases he13
    have hT0 : ((plc 6 (spF 6 (xs (i + 1)).toInt (xs (i + 2)).toInt (xs (i + 3)).toInt S))) = 0 := by revert hF; (try simp only [spF, fPass, fRest, fIv, fMod, fRep, fPas, fMark, fWin, plc, rwP]); (repeat' split) <;> first | rfl | omega | (intro hF; omega) | contradiction | (intros; contradiction) | (simp; done) | (simp_all; done) | (intros; exfalso; simp_all; done)
    replace hr16 := hr16 (by first | exact hF | exact hT0 | (refine Decidable.byContradiction fun z => ?_; rw [if_neg z] at hT0; exact absurd hT0 (by decide)))
    rw [hT0] at hm15
    rw [if_pos (by first | exact hF | exact hT0), if_pos (by first | exact hF | exact hT0)] at hm15
    have hx18 := hx4.fr hf14 (Or.inl (by omega))
    have hj19 := (hf14 112 (by omega)).trans hj5
    have hq20 := (hf14 113 (by omega)).trans hq8
    refine z_istore (lv' := [(0, .ref ar), (1, .ref (za g 0)), (2, .ref (za g 101)), (3, .ref (za g 112)), (4, .ref (za g 113)), (5, .int (nI (i))), (6, .int (nI (0))), (7, .int (r12))]) dL_law_615 (by decide) rfl ?_
    refine z_aload_n dL_law_617 rfl ?_
    obtain ⟨fs21, hfs22⟩ := hm15.cell
    refine z_callE (As := []) (rest := []) (b := 101) (ci := 12) (v := some (.int (nI (0)))) (R2 := zR 0 0) dL_law_618 kV_RL_156 rfl ⟨⟨by decide, by decide⟩, by show _ ≤ 603072; simp only [zR]; omega, by show _ ≤ 7207018; simp only [zR]; omega⟩ (by omega) hfs22 rfl rfl rfl (Nat.le_of_ble_eq_true rfl) rfl (Mq.th h0 hm15) ?_
    refine z_iload dL_law_621 rfl ?_
    refine z_icmp_eq_n (a := 0) (b := 0) (tgt := 628) dL_law_623 (by decide) (by omega) (by omega) (fun _ => ?_) (fun hq9 => absurd rfl hq9)
    refine z_iload dL_law_628 rfl ?_
    refine z_if_ne_n (a := 0) (tgt := 645) dL_law_630 (by decide) (by decide) (fun hq9 => absurd rfl hq9) (fun _ => ?_)
    refine z_aload_n dL_law_633 rfl ?_
    refine z_iconst (v := nI 0) dL_law_634 rfl ?_
    refine z_lald (j := 112) (N := 1) (i := nI 0) dL_law_635 (by omega) hj19 (vp_in_nI (by decide) (by decide)) ?_
    refine z_eq (st' := [.long ((nI (spA 6 ((xs (i + 1))).toInt ((xs (i + 2))).toInt ((xs (i + 3))).toInt S)).toInt64)]) rfl (by rw [nI_clamp (by decide)]; simp [vp_updL]) rfl ?_
    refine z_iload dL_law_636 rfl ?_
    refine z_i2l dL_law_638 ?_
    refine z_lcmp dL_law_639 ?_
    refine z_eq (st' := [.int (nI 0)]) rfl (by rw [hr16, lg_self]) rfl ?_
    refine z_if_eq_n (a := 0) (tgt := 645) dL_law_640 (by decide) (by decide) (fun _ => ?_) (fun hq9 => absurd rfl hq9)
    refine z_goto (tgt := 2848) dL_law_645 (by decide) ?_
    refine z_sub (lv' := [(0, .ref ar), (1, .ref (za g 0)), (2, .ref (za g 101)), (3, .ref (za g 112)), (4, .ref (za g 113)), (5, .int (nI (i)))]) [0, 1, 2, 3, 4, 5] rfl ?_
    exact zTr_wd (by simp only [zR]; omega) (by simp only [zR]; omega) (kk _ _ _ _ _ _ _ _ ⟨hz, hx18, ⟨_, hm15⟩, ⟨_, hj19⟩, ⟨_, hq20⟩⟩)
  · (first | rw [if_neg hF, if_neg hF] at hx4 | rw [if_neg hF] at hx4 | skip)
    rw [if_neg hF] at hj5
    have hk0 : rwP [1, 2] (spF 6 ((xs (i + 1))).toInt ((xs (i + 2))).toInt ((xs (i + 3))).toInt S) ≠ 0 := by revert hF; (try simp only [spF, fPass, fRest, fIv, fMod, fRep, fPas, fMark, fWin, plc, rwP]); (repeat' split) <;> first | rfl | omega | (intro hF; omega) | contradiction | (intros; contradiction) | (simp; done) | (simp_all; done) | (intros; exfalso; simp_all; done)
    refine z_istore (lv' := [(0, .ref ar), (1, .ref (za g 0)), (2, .ref (za g 101)), (3, .ref (za g 112)), (4, .ref (za g 113)), (5, .int (nI (i))), (6, .int (nI (rwP [1, 2] (spF 6 ((xs (i + 1))).toInt ((xs (i + 2))).toInt ((xs (i + 3))).toInt S))))]) dL_law_591 (by decide) rfl ?_
    refine z_aload_n dL_law_593 rfl ?_
    refine z_aload_n dL_law_594 rfl ?_
    refine z_iload dL_law_595 rfl ?_
    refine z_iconst (v := nI 1) dL_law_597 rfl ?_
    refine z_iadd_n (a := i) (b := 1) dL_law_598 ?_
    refine z_tabI (a := i + 1) (v := .int (xs (i + 1))) dL_law_599 hT (by omega) (by omega) rfl ?_
    refine z_aload_n dL_law_600 rfl ?_
    refine z_iload dL_law_601 rfl ?_
    refine z_iconst (v := nI 2) dL_law_603 rfl ?_
    refine z_iadd_n (a := i) (b := 2) dL_law_604 ?_
    refine z_tabI (a := i + 2) (v := .int (xs (i + 2))) dL_law_605 hT (by omega) (by omega) rfl ?_
    refine z_aload_n dL_law_606 rfl ?_
    refine z_iload dL_law_607 rfl ?_
    refine z_iconst (v := nI 3) dL_law_609 rfl ?_
    refine z_iadd_n (a := i) (b := 3) dL_law_610 ?_
    refine z_tabI (a := i + 3) (v := .int (xs (i + 3))) dL_law_611 hT (by omega) (by omega) rfl ?_
    have hc31 := c_X13_modulate (b := 101) h0 hm7 (x := (xs (i + 1))) (y := (xs (i + 2))) (z := (xs (i + 3)))
    obtain ⟨fs23, hfs24⟩ := hm7.cell
    refine z_callV (As := [.int (xs (i + 1)), .int (xs (i + 2)), .int (xs (i + 3))]) (rest := []) (b := 101) (ci := 12) (R2 := zR 3 0) dL_law_612 kV_RL_171 rfl ⟨⟨by decide, by decide⟩, by show _ ≤ 603072; simp only [zR]; omega, by show _ ≤ 7207018; simp only [zR]; omega⟩ (by omega) hfs24 rfl rfl rfl (Nat.le_of_ble_eq_true rfl) rfl hc31 (fun E w1 hp => by obtain ⟨_, e, _⟩ := hp; cases e) (fun v w25 hp => ?_)
    obtain ⟨r26, he27, hf28, hm29, hr30⟩ := hp
    cases he27
    have hT1 : ((plc 6 (spF 6 (xs (i + 1)).toInt (xs (i + 2)).toInt (xs (i + 3)).toInt S))) = rwP [1, 2] (spF 6 ((xs (i + 1))).toInt ((xs (i + 2))).toInt ((xs (i + 3))).toInt S) := by revert hF; (try simp only [spF, fPass, fRest, fIv, fMod, fRep, fPas, fMark, fWin, plc, rwP]); (repeat' split) <;> first | rfl | omega | (intro hF; omega) | contradiction | (intros; contradiction) | (simp; done) | (simp_all; done) | (intros; exfalso; simp_all; done)
    rw [hT1] at hm29
    rw [if_neg (fun z => hF z), if_neg (fun z => hF z)] at hm29
    have hx32 := hx4.fr hf28 (Or.inl (by omega))
    have hj33 := (hf28 112 (by omega)).trans hj5
    have hq34 := (hf28 113 (by omega)).trans hq8
    refine z_istore (lv' := [(0, .ref ar), (1, .ref (za g 0)), (2, .ref (za g 101)), (3, .ref (za g 112)), (4, .ref (za g 113)), (5, .int (nI (i))), (6, .int (nI (rwP [1, 2] (spF 6 ((xs (i + 1))).toInt ((xs (i + 2))).toInt ((xs (i + 3))).toInt S)))), (7, .int (r26))]) dL_law_615 (by decide) rfl ?_
    refine z_aload_n dL_law_617 rfl ?_
    obtain ⟨fs35, hfs36⟩ := hm29.cell
    refine z_callE (As := []) (rest := []) (b := 101) (ci := 12) (v := some (.int (nI (rwP [1, 2] (spF 6 ((xs (i + 1))).toInt ((xs (i + 2))).toInt ((xs (i + 3))).toInt S))))) (R2 := zR 0 0) dL_law_618 kV_RL_156 rfl ⟨⟨by decide, by decide⟩, by show _ ≤ 603072; simp only [zR]; omega, by show _ ≤ 7207018; simp only [zR]; omega⟩ (by omega) hfs36 rfl rfl rfl (Nat.le_of_ble_eq_true rfl) rfl (Mq.th h0 hm29) ?_
    refine z_iload dL_law_621 rfl ?_
    refine z_icmp_eq_n (a := rwP [1, 2] (spF 6 ((xs (i + 1))).toInt ((xs (i + 2))).toInt ((xs (i + 3))).toInt S)) (b := rwP [1, 2] (spF 6 ((xs (i + 1))).toInt ((xs (i + 2))).toInt ((xs (i + 3))).toInt S)) (tgt := 628) dL_law_623 (by decide) (by simp only [rwP]; (repeat' split) <;> omega) (by simp only [rwP]; (repeat' split) <;> omega) (fun _ => ?_) (fun hq9 => absurd rfl hq9)
    refine z_iload dL_law_628 rfl ?_
    refine z_if_ne_n (a := rwP [1, 2] (spF 6 ((xs (i + 1))).toInt ((xs (i + 2))).toInt ((xs (i + 3))).toInt S)) (tgt := 645) dL_law_630 (by decide) (by simp only [rwP]; (repeat' split) <;> omega) (fun _ => ?_) (fun hq9 => absurd hq9 hk0)
    refine z_goto (tgt := 2848) dL_law_645 (by decide) ?_
    refine z_sub (lv' := [(0, .ref ar), (1, .ref (za g 0)), (2, .ref (za g 101)), (3, .ref (za g 112)), (4, .ref (za g 113)), (5, .int (nI (i)))]) [0, 1, 2, 3, 4, 5] rfl ?_
    exact zTr_wd (by simp only [zR]; omega) (by simp only [zR]; omega) (kk _ _ _ _ _ _ _ _ ⟨hz, hx32, ⟨_, hm29⟩, ⟨_, hj33⟩, ⟨_, hq34⟩⟩)
set_option maxRecDepth 100000 in
set_option maxHeartbeats 4000000 in
theorem lw_case_5 {g : zGT} {w : zW} {S : zSt} {Hs : List zSt} {Sn : Option zSt} {I O : List Nat} {ep fc : Int32} {ar N i ce sl : Nat} {xs : Nat → Int32} {Post : zP} (h0 : zG0 g) (h1 : zST g) (hN : zNC g) (hT : va_T .int ar N (fun j => .int (xs j)) (zA g) (zs g) (zs g).heap) (hL : LwI g w S Hs Sn I O ep fc) (hi : i + 3 < N) (hN9 : N ≤ 2048) (hce : ce + 2 ≤ 603072) (hsl : sl + 12 ≤ 7207018) (kk : ∀ (w' : zW) (S' : zSt) (Hs' : List zSt) (Sn' : Option zSt) (I' O' : List Nat) (ep' fc' : Int32), LwI g w' S' Hs' Sn' I' O' ep' fc' → zTr g mL_law room_1 (ce + 2) (sl + 12) 2848 [(0, .ref ar), (1, .ref (za g 0)), (2, .ref (za g 101)), (3, .ref (za g 112)), (4, .ref (za g 113)), (5, .int (nI (i)))] [] w' Post) : zTr g mL_law room_1 ce sl 648 [(0, .ref ar), (1, .ref (za g 0)), (2, .ref (za g 101)), (3, .ref (za g 112)), (4, .ref (za g 113)), (5, .int (nI (i)))] [] w Post := by
  obtain ⟨hz, hR0, ⟨t0, hM0⟩, ⟨fJ, hJ0⟩, ⟨fQ, hQ0⟩⟩ := hL
  refine z_aload_n dL_law_648 rfl ?_
  refine z_aload_n dL_law_649 rfl ?_
  refine z_iload dL_law_650 rfl ?_
  refine z_iconst (v := nI 1) dL_law_652 rfl ?_
  refine z_iadd_n (a := i) (b := 1) dL_law_653 ?_
  refine z_tabI (a := i + 1) (v := .int (xs (i + 1))) dL_law_654 hT (by omega) (by omega) rfl ?_
  refine z_aload_n dL_law_655 rfl ?_
  refine z_iload dL_law_656 rfl ?_
  refine z_iconst (v := nI 2) dL_law_658 rfl ?_
  refine z_iadd_n (a := i) (b := 2) dL_law_659 ?_
  refine z_tabI (a := i + 2) (v := .int (xs (i + 2))) dL_law_660 hT (by omega) (by omega) rfl ?_
  refine z_aload_n dL_law_661 rfl ?_
  have hc6 := c_L_reverse (b := 0) (c9 := 112) h0 h1 hN hR0 (by omega) (by omega) hJ0 (x := (xs (i + 1))) (y := (xs (i + 2)))
  rw [nI0] at hc6
  refine z_callSH (As := [.ref (za g 0), .int (xs (i + 1)), .int (xs (i + 2)), .ref (za g 112)]) (rest := []) (R2 := zR 9 2) dL_law_662 kSH_172 rfl ⟨⟨by decide, by decide⟩, by show _ ≤ 603072; simp only [zR]; omega, by show _ ≤ 7207018; simp only [zR]; omega⟩ rfl (Nat.le_of_ble_eq_true rfl) rfl hc6 (fun E w1 hp => by obtain ⟨e, _⟩ := hp; cases e) (fun v w1 hp => ?_)
  obtain ⟨he2, hf3, hx4, hj5⟩ := hp
  cases he2
  have hm7 := hM0.eq (w1 := w1) (fun k h8 h9 => hf3 k (by omega) (by omega))
  have hq8 := (hf3 113 (by omega) (by omega)).trans hQ0
  by_cases hF : (spF 4 ((xs (i + 1))).toInt ((xs (i + 2))).toInt 0 S) = 0
  · refine z_eq (st' := [.int (nI 0)]) rfl (by rw [hF]; rfl) rfl ?_
    (try rw [hF] at hx4)
    rw [hF] at hj5
    (try simp only [↓reduceIte] at hx4)
    simp only [↓reduceIte] at hj5
    refine z_istore (lv' := [(0, .ref ar), (1, .ref (za g 0)), (2, .ref (za g 101)), (3, .ref (za g 112)), (4, .ref (za g 113)), (5, .int (nI (i))), (6, .int (nI (0)))]) dL_law_665 (by decide) rfl ?_
    refine z_aload_n dL_law_667 rfl ?_
    refine z_aload_n dL_law_668 rfl ?_
    refine z_iload dL_law_669 rfl ?_
    refine z_iconst (v := nI 1) dL_law_671 rfl ?_
    refine z_iadd_n (a := i) (b := 1) dL_law_672 ?_
    refine z_tabI (a := i + 1) (v := .int (xs (i + 1))) dL_law_673 hT (by omega) (by omega) rfl ?_
    refine z_aload_n dL_law_674 rfl ?_
    refine z_iload dL_law_675 rfl ?_
    refine z_iconst (v := nI 2) dL_law_677 rfl ?_
    refine z_iadd_n (a := i) (b := 2) dL_law_678 ?_
    refine z_tabI (a := i + 2) (v := .int (xs (i + 2))) dL_law_679 hT (by omega) (by omega) rfl ?_
    have hc17 := c_X13_reverse (b := 101) h0 hm7 (x := (xs (i + 1))) (y := (xs (i + 2)))
    obtain ⟨fs9, hfs10⟩ := hm7.cell
    refine z_callV (As := [.int (xs (i + 1)), .int (xs (i + 2))]) (rest := []) (b := 101) (ci := 12) (R2 := zR 3 0) dL_law_680 kV_RL_174 rfl ⟨⟨by decide, by decide⟩, by show _ ≤ 603072; simp only [zR]; omega, by show _ ≤ 7207018; simp only [zR]; omega⟩ (by omega) hfs10 rfl rfl rfl (Nat.le_of_ble_eq_true rfl) rfl hc17 (fun E w1 hp => by obtain ⟨_, e, _⟩ := hp; cases e) (fun v w11 hp => ?_)
    obtain ⟨r12, he13, hf14, hm15, hr16⟩ := hp
    cases he13
    have hT0 : ((plc 4 (spF 4 (xs (i + 1)).toInt (xs (i + 2)).toInt 0 S))) = 0 := by revert hF; (try simp only [spF, fPass, fRest, fIv, fMod, fRep, fPas, fMark, fWin, plc, rwP]); (repeat' split) <;> first | rfl | omega | (intro hF; omega) | contradiction | (intros; contradiction) | (simp; done) | (simp_all; done) | (intros; exfalso; simp_all; done)
    replace hr16 := hr16 (by first | exact hF | exact hT0 | (refine Decidable.byContradiction fun z => ?_; rw [if_neg z] at hT0; exact absurd hT0 (by decide)))
    rw [hT0] at hm15
    rw [if_pos (by first | exact hF | exact hT0), if_pos (by first | exact hF | exact hT0)] at hm15
    have hx18 := hx4.fr hf14 (Or.inl (by omega))
    have hj19 := (hf14 112 (by omega)).trans hj5
    have hq20 := (hf14 113 (by omega)).trans hq8
    refine z_istore (lv' := [(0, .ref ar), (1, .ref (za g 0)), (2, .ref (za g 101)), (3, .ref (za g 112)), (4, .ref (za g 113)), (5, .int (nI (i))), (6, .int (nI (0))), (7, .int (r12))]) dL_law_683 (by decide) rfl ?_
    refine z_aload_n dL_law_685 rfl ?_
    obtain ⟨fs21, hfs22⟩ := hm15.cell
    refine z_callE (As := []) (rest := []) (b := 101) (ci := 12) (v := some (.int (nI (0)))) (R2 := zR 0 0) dL_law_686 kV_RL_156 rfl ⟨⟨by decide, by decide⟩, by show _ ≤ 603072; simp only [zR]; omega, by show _ ≤ 7207018; simp only [zR]; omega⟩ (by omega) hfs22 rfl rfl rfl (Nat.le_of_ble_eq_true rfl) rfl (Mq.th h0 hm15) ?_
    refine z_iload dL_law_689 rfl ?_
    refine z_icmp_eq_n (a := 0) (b := 0) (tgt := 696) dL_law_691 (by decide) (by omega) (by omega) (fun _ => ?_) (fun hq9 => absurd rfl hq9)
    refine z_iload dL_law_696 rfl ?_
    refine z_if_ne_n (a := 0) (tgt := 720) dL_law_698 (by decide) (by decide) (fun hq9 => absurd rfl hq9) (fun _ => ?_)
    refine z_aload_n dL_law_701 rfl ?_
    refine z_iconst (v := nI 0) dL_law_702 rfl ?_
    refine z_lald (j := 112) (N := 1) (i := nI 0) dL_law_703 (by omega) hj19 (vp_in_nI (by decide) (by decide)) ?_
    refine z_eq (st' := [.long ((if (spA 4 ((xs (i + 1))).toInt ((xs (i + 2))).toInt 0 S) = 0 then 0 else 1))]) rfl (by rw [nI_clamp (by decide)]; simp [vp_updL]) rfl ?_
    refine z_iload dL_law_704 rfl ?_
    have hA : (spA 4 ((xs (i + 1))).toInt ((xs (i + 2))).toInt 0 S) = 0 ∨ (spA 4 ((xs (i + 1))).toInt ((xs (i + 2))).toInt 0 S) = 1 := by simp only [spA]; split <;> simp
    rcases hA with eA | eA
    · refine z_eq (st' := [.int (nI 0), .long 0]) rfl (by rw [hr16, eA]; rfl) rfl ?_
      refine z_if_eq_n (a := 0) (tgt := 713) dL_law_706 (by decide) (by decide) (fun _ => ?_) (fun hq9 => absurd rfl hq9)
      refine z_lconst (v := 0) dL_law_713 rfl ?_
      refine z_lcmp dL_law_714 ?_
      refine z_eq (st' := [.int (nI 0)]) rfl (by rw [lg_self]) rfl ?_
      refine z_if_eq_n (a := 0) (tgt := 720) dL_law_715 (by decide) (by decide) (fun _ => ?_) (fun hq9 => absurd rfl hq9)
      refine z_goto (tgt := 2848) dL_law_720 (by decide) ?_
      refine z_sub (lv' := [(0, .ref ar), (1, .ref (za g 0)), (2, .ref (za g 101)), (3, .ref (za g 112)), (4, .ref (za g 113)), (5, .int (nI (i)))]) [0, 1, 2, 3, 4, 5] rfl ?_
      exact zTr_wd (by simp only [zR]; omega) (by simp only [zR]; omega) (kk _ _ _ _ _ _ _ _ ⟨hz, hx18, ⟨_, hm15⟩, ⟨_, hj19⟩, ⟨_, hq20⟩⟩)
    · refine z_eq (st' := [.int (nI 1), .long 1]) rfl (by rw [hr16, eA]; rfl) rfl ?_
      refine z_if_eq_n (a := 1) (tgt := 713) dL_law_706 (by decide) (by decide) (fun hq9 => absurd hq9 (by decide)) (fun _ => ?_)
      refine z_lconst (v := 1) dL_law_709 rfl ?_
      refine z_goto (tgt := 714) dL_law_710 (by decide) ?_
      refine z_lcmp dL_law_714 ?_
      refine z_eq (st' := [.int (nI 0)]) rfl (by rw [lg_self]) rfl ?_
      refine z_if_eq_n (a := 0) (tgt := 720) dL_law_715 (by decide) (by decide) (fun _ => ?_) (fun hq9 => absurd rfl hq9)
      refine z_goto (tgt := 2848) dL_law_720 (by decide) ?_
      refine z_sub (lv' := [(0, .ref ar), (1, .ref (za g 0)), (2, .ref (za g 101)), (3, .ref (za g 112)), (4, .ref (za g 113)), (5, .int (nI (i)))]) [0, 1, 2, 3, 4, 5] rfl ?_
      exact zTr_wd (by simp only [zR]; omega) (by simp only [zR]; omega) (kk _ _ _ _ _ _ _ _ ⟨hz, hx18, ⟨_, hm15⟩, ⟨_, hj19⟩, ⟨_, hq20⟩⟩)
  · (first | rw [if_neg hF, if_neg hF] at hx4 | rw [if_neg hF] at hx4 | skip)
    rw [if_neg hF] at hj5
    have hk0 : rwP [1] (spF 4 ((xs (i + 1))).toInt ((xs (i + 2))).toInt 0 S) ≠ 0 := by revert hF; (try simp only [spF, fPass, fRest, fIv, fMod, fRep, fPas, fMark, fWin, plc, rwP]); (repeat' split) <;> first | rfl | omega | (intro hF; omega) | contradiction | (intros; contradiction) | (simp; done) | (simp_all; done) | (intros; exfalso; simp_all; done)
    refine z_istore (lv' := [(0, .ref ar), (1, .ref (za g 0)), (2, .ref (za g 101)), (3, .ref (za g 112)), (4, .ref (za g 113)), (5, .int (nI (i))), (6, .int (nI (rwP [1] (spF 4 ((xs (i + 1))).toInt ((xs (i + 2))).toInt 0 S))))]) dL_law_665 (by decide) rfl ?_
    refine z_aload_n dL_law_667 rfl ?_
    refine z_aload_n dL_law_668 rfl ?_
    refine z_iload dL_law_669 rfl ?_
    refine z_iconst (v := nI 1) dL_law_671 rfl ?_
    refine z_iadd_n (a := i) (b := 1) dL_law_672 ?_
    refine z_tabI (a := i + 1) (v := .int (xs (i + 1))) dL_law_673 hT (by omega) (by omega) rfl ?_
    refine z_aload_n dL_law_674 rfl ?_
    refine z_iload dL_law_675 rfl ?_
    refine z_iconst (v := nI 2) dL_law_677 rfl ?_
    refine z_iadd_n (a := i) (b := 2) dL_law_678 ?_
    refine z_tabI (a := i + 2) (v := .int (xs (i + 2))) dL_law_679 hT (by omega) (by omega) rfl ?_
    have hc31 := c_X13_reverse (b := 101) h0 hm7 (x := (xs (i + 1))) (y := (xs (i + 2)))
    obtain ⟨fs23, hfs24⟩ := hm7.cell
    refine z_callV (As := [.int (xs (i + 1)), .int (xs (i + 2))]) (rest := []) (b := 101) (ci := 12) (R2 := zR 3 0) dL_law_680 kV_RL_174 rfl ⟨⟨by decide, by decide⟩, by show _ ≤ 603072; simp only [zR]; omega, by show _ ≤ 7207018; simp only [zR]; omega⟩ (by omega) hfs24 rfl rfl rfl (Nat.le_of_ble_eq_true rfl) rfl hc31 (fun E w1 hp => by obtain ⟨_, e, _⟩ := hp; cases e) (fun v w25 hp => ?_)
    obtain ⟨r26, he27, hf28, hm29, hr30⟩ := hp
    cases he27
    have hT1 : ((plc 4 (spF 4 (xs (i + 1)).toInt (xs (i + 2)).toInt 0 S))) = rwP [1] (spF 4 ((xs (i + 1))).toInt ((xs (i + 2))).toInt 0 S) := by revert hF; (try simp only [spF, fPass, fRest, fIv, fMod, fRep, fPas, fMark, fWin, plc, rwP]); (repeat' split) <;> first | rfl | omega | (intro hF; omega) | contradiction | (intros; contradiction) | (simp; done) | (simp_all; done) | (intros; exfalso; simp_all; done)
    rw [hT1] at hm29
    rw [if_neg (fun z => hF z), if_neg (fun z => hF z)] at hm29
    have hx32 := hx4.fr hf28 (Or.inl (by omega))
    have hj33 := (hf28 112 (by omega)).trans hj5
    have hq34 := (hf28 113 (by omega)).trans hq8
    refine z_istore (lv' := [(0, .ref ar), (1, .ref (za g 0)), (2, .ref (za g 101)), (3, .ref (za g 112)), (4, .ref (za g 113)), (5, .int (nI (i))), (6, .int (nI (rwP [1] (spF 4 ((xs (i + 1))).toInt ((xs (i + 2))).toInt 0 S)))), (7, .int (r26))]) dL_law_683 (by decide) rfl ?_
    refine z_aload_n dL_law_685 rfl ?_
    obtain ⟨fs35, hfs36⟩ := hm29.cell
    refine z_callE (As := []) (rest := []) (b := 101) (ci := 12) (v := some (.int (nI (rwP [1] (spF 4 ((xs (i + 1))).toInt ((xs (i + 2))).toInt 0 S))))) (R2 := zR 0 0) dL_law_686 kV_RL_156 rfl ⟨⟨by decide, by decide⟩, by show _ ≤ 603072; simp only [zR]; omega, by show _ ≤ 7207018; simp only [zR]; omega⟩ (by omega) hfs36 rfl rfl rfl (Nat.le_of_ble_eq_true rfl) rfl (Mq.th h0 hm29) ?_
    refine z_iload dL_law_689 rfl ?_
    refine z_icmp_eq_n (a := rwP [1] (spF 4 ((xs (i + 1))).toInt ((xs (i + 2))).toInt 0 S)) (b := rwP [1] (spF 4 ((xs (i + 1))).toInt ((xs (i + 2))).toInt 0 S)) (tgt := 696) dL_law_691 (by decide) (by simp only [rwP]; (repeat' split) <;> omega) (by simp only [rwP]; (repeat' split) <;> omega) (fun _ => ?_) (fun hq9 => absurd rfl hq9)
    refine z_iload dL_law_696 rfl ?_
    refine z_if_ne_n (a := rwP [1] (spF 4 ((xs (i + 1))).toInt ((xs (i + 2))).toInt 0 S)) (tgt := 720) dL_law_698 (by decide) (by simp only [rwP]; (repeat' split) <;> omega) (fun _ => ?_) (fun hq9 => absurd hq9 hk0)
    refine z_goto (tgt := 2848) dL_law_720 (by decide) ?_
    refine z_sub (lv' := [(0, .ref ar), (1, .ref (za g 0)), (2, .ref (za g 101)), (3, .ref (za g 112)), (4, .ref (za g 113)), (5, .int (nI (i)))]) [0, 1, 2, 3, 4, 5] rfl ?_
    exact zTr_wd (by simp only [zR]; omega) (by simp only [zR]; omega) (kk _ _ _ _ _ _ _ _ ⟨hz, hx32, ⟨_, hm29⟩, ⟨_, hj33⟩, ⟨_, hq34⟩⟩)
set_option maxRecDepth 100000 in
set_option maxHeartbeats 4000000 in
theorem lw_case_6 {g : zGT} {w : zW} {S : zSt} {Hs : List zSt} {Sn : Option zSt} {I O : List Nat} {ep fc : Int32} {ar N i ce sl : Nat} {xs : Nat → Int32} {Post : zP} (h0 : zG0 g) (h1 : zST g) (hN : zNC g) (hT : va_T .int ar N (fun j => .int (xs j)) (zA g) (zs g) (zs g).heap) (hL : LwI g w S Hs Sn I O ep fc) (hi : i + 3 < N) (hN9 : N ≤ 2048) (hce : ce + 2 ≤ 603072) (hsl : sl + 12 ≤ 7207018) (kk : ∀ (w' : zW) (S' : zSt) (Hs' : List zSt) (Sn' : Option zSt) (I' O' : List Nat) (ep' fc' : Int32), LwI g w' S' Hs' Sn' I' O' ep' fc' → zTr g mL_law room_1 (ce + 2) (sl + 12) 2848 [(0, .ref ar), (1, .ref (za g 0)), (2, .ref (za g 101)), (3, .ref (za g 112)), (4, .ref (za g 113)), (5, .int (nI (i)))] [] w' Post) : zTr g mL_law room_1 ce sl 723 [(0, .ref ar), (1, .ref (za g 0)), (2, .ref (za g 101)), (3, .ref (za g 112)), (4, .ref (za g 113)), (5, .int (nI (i)))] [] w Post := by
  obtain ⟨hz, hR0, ⟨t0, hM0⟩, ⟨fJ, hJ0⟩, ⟨fQ, hQ0⟩⟩ := hL
  refine z_aload_n dL_law_723 rfl ?_
  refine z_aload_n dL_law_724 rfl ?_
  refine z_iload dL_law_725 rfl ?_
  refine z_iconst (v := nI 1) dL_law_727 rfl ?_
  refine z_iadd_n (a := i) (b := 1) dL_law_728 ?_
  refine z_tabI (a := i + 1) (v := .int (xs (i + 1))) dL_law_729 hT (by omega) (by omega) rfl ?_
  refine z_aload_n dL_law_730 rfl ?_
  refine z_iload dL_law_731 rfl ?_
  refine z_iconst (v := nI 2) dL_law_733 rfl ?_
  refine z_iadd_n (a := i) (b := 2) dL_law_734 ?_
  refine z_tabI (a := i + 2) (v := .int (xs (i + 2))) dL_law_735 hT (by omega) (by omega) rfl ?_
  refine z_aload_n dL_law_736 rfl ?_
  refine z_iload dL_law_737 rfl ?_
  refine z_iconst (v := nI 3) dL_law_739 rfl ?_
  refine z_iadd_n (a := i) (b := 3) dL_law_740 ?_
  refine z_tabI (a := i + 3) (v := .int (xs (i + 3))) dL_law_741 hT (by omega) (by omega) rfl ?_
  refine z_aload_n dL_law_742 rfl ?_
  have hc6 := c_L_repeat (b := 0) (c9 := 112) h0 h1 hN hR0 (by omega) (by omega) hJ0 (x := (xs (i + 1))) (y := (xs (i + 2))) (z := (xs (i + 3)))
  refine z_callSH (As := [.ref (za g 0), .int (xs (i + 1)), .int (xs (i + 2)), .int (xs (i + 3)), .ref (za g 112)]) (rest := []) (R2 := zR 9 2) dL_law_743 kSH_175 rfl ⟨⟨by decide, by decide⟩, by show _ ≤ 603072; simp only [zR]; omega, by show _ ≤ 7207018; simp only [zR]; omega⟩ rfl (Nat.le_of_ble_eq_true rfl) rfl hc6 (fun E w1 hp => by obtain ⟨e, _⟩ := hp; cases e) (fun v w1 hp => ?_)
  obtain ⟨he2, hf3, hx4, hj5⟩ := hp
  cases he2
  have hm7 := hM0.eq (w1 := w1) (fun k h8 h9 => hf3 k (by omega) (by omega))
  have hq8 := (hf3 113 (by omega) (by omega)).trans hQ0
  by_cases hF : (spF 7 ((xs (i + 1))).toInt ((xs (i + 2))).toInt ((xs (i + 3))).toInt S) = 0
  · refine z_eq (st' := [.int (nI 0)]) rfl (by rw [hF]; rfl) rfl ?_
    (try rw [hF] at hx4)
    rw [hF] at hj5
    (try simp only [↓reduceIte] at hx4)
    simp only [↓reduceIte] at hj5
    refine z_istore (lv' := [(0, .ref ar), (1, .ref (za g 0)), (2, .ref (za g 101)), (3, .ref (za g 112)), (4, .ref (za g 113)), (5, .int (nI (i))), (6, .int (nI (0)))]) dL_law_746 (by decide) rfl ?_
    refine z_aload_n dL_law_748 rfl ?_
    refine z_aload_n dL_law_749 rfl ?_
    refine z_iload dL_law_750 rfl ?_
    refine z_iconst (v := nI 1) dL_law_752 rfl ?_
    refine z_iadd_n (a := i) (b := 1) dL_law_753 ?_
    refine z_tabI (a := i + 1) (v := .int (xs (i + 1))) dL_law_754 hT (by omega) (by omega) rfl ?_
    refine z_aload_n dL_law_755 rfl ?_
    refine z_iload dL_law_756 rfl ?_
    refine z_iconst (v := nI 2) dL_law_758 rfl ?_
    refine z_iadd_n (a := i) (b := 2) dL_law_759 ?_
    refine z_tabI (a := i + 2) (v := .int (xs (i + 2))) dL_law_760 hT (by omega) (by omega) rfl ?_
    refine z_aload_n dL_law_761 rfl ?_
    refine z_iload dL_law_762 rfl ?_
    refine z_iconst (v := nI 3) dL_law_764 rfl ?_
    refine z_iadd_n (a := i) (b := 3) dL_law_765 ?_
    refine z_tabI (a := i + 3) (v := .int (xs (i + 3))) dL_law_766 hT (by omega) (by omega) rfl ?_
    have hc17 := c_X13_repeat (b := 101) h0 hm7 (x := (xs (i + 1))) (y := (xs (i + 2))) (z := (xs (i + 3)))
    obtain ⟨fs9, hfs10⟩ := hm7.cell
    refine z_callV (As := [.int (xs (i + 1)), .int (xs (i + 2)), .int (xs (i + 3))]) (rest := []) (b := 101) (ci := 12) (R2 := zR 3 0) dL_law_767 kV_RL_177 rfl ⟨⟨by decide, by decide⟩, by show _ ≤ 603072; simp only [zR]; omega, by show _ ≤ 7207018; simp only [zR]; omega⟩ (by omega) hfs10 rfl rfl rfl (Nat.le_of_ble_eq_true rfl) rfl hc17 (fun E w1 hp => by obtain ⟨_, e, _⟩ := hp; cases e) (fun v w11 hp => ?_)
    obtain ⟨r12, he13, hf14, hm15, hr16⟩ := hp
    cases he13
    have hT0 : ((plc 7 (spF 7 (xs (i + 1)).toInt (xs (i + 2)).toInt (xs (i + 3)).toInt S))) = 0 := by revert hF; (try simp only [spF, fPass, fRest, fIv, fMod, fRep, fPas, fMark, fWin, plc, rwP]); (repeat' split) <;> first | rfl | omega | (intro hF; omega) | contradiction | (intros; contradiction) | (simp; done) | (simp_all; done) | (intros; exfalso; simp_all; done)
    replace hr16 := hr16 (by first | exact hF | exact hT0 | (refine Decidable.byContradiction fun z => ?_; rw [if_neg z] at hT0; exact absurd hT0 (by decide)))
    rw [hT0] at hm15
    rw [if_pos (by first | exact hF | exact hT0), if_pos (by first | exact hF | exact hT0)] at hm15
    have hx18 := hx4.fr hf14 (Or.inl (by omega))
    have hj19 := (hf14 112 (by omega)).trans hj5
    have hq20 := (hf14 113 (by omega)).trans hq8
    refine z_istore (lv' := [(0, .ref ar), (1, .ref (za g 0)), (2, .ref (za g 101)), (3, .ref (za g 112)), (4, .ref (za g 113)), (5, .int (nI (i))), (6, .int (nI (0))), (7, .int (r12))]) dL_law_770 (by decide) rfl ?_
    refine z_aload_n dL_law_772 rfl ?_
    obtain ⟨fs21, hfs22⟩ := hm15.cell
    refine z_callE (As := []) (rest := []) (b := 101) (ci := 12) (v := some (.int (nI (0)))) (R2 := zR 0 0) dL_law_773 kV_RL_156 rfl ⟨⟨by decide, by decide⟩, by show _ ≤ 603072; simp only [zR]; omega, by show _ ≤ 7207018; simp only [zR]; omega⟩ (by omega) hfs22 rfl rfl rfl (Nat.le_of_ble_eq_true rfl) rfl (Mq.th h0 hm15) ?_
    refine z_iload dL_law_776 rfl ?_
    refine z_icmp_eq_n (a := 0) (b := 0) (tgt := 783) dL_law_778 (by decide) (by omega) (by omega) (fun _ => ?_) (fun hq9 => absurd rfl hq9)
    refine z_iload dL_law_783 rfl ?_
    refine z_if_ne_n (a := 0) (tgt := 800) dL_law_785 (by decide) (by decide) (fun hq9 => absurd rfl hq9) (fun _ => ?_)
    refine z_aload_n dL_law_788 rfl ?_
    refine z_iconst (v := nI 0) dL_law_789 rfl ?_
    refine z_lald (j := 112) (N := 1) (i := nI 0) dL_law_790 (by omega) hj19 (vp_in_nI (by decide) (by decide)) ?_
    refine z_eq (st' := [.long ((nI (spA 7 ((xs (i + 1))).toInt ((xs (i + 2))).toInt ((xs (i + 3))).toInt S)).toInt64)]) rfl (by rw [nI_clamp (by decide)]; simp [vp_updL]) rfl ?_
    refine z_iload dL_law_791 rfl ?_
    refine z_i2l dL_law_793 ?_
    refine z_lcmp dL_law_794 ?_
    refine z_eq (st' := [.int (nI 0)]) rfl (by rw [hr16, lg_self]) rfl ?_
    refine z_if_eq_n (a := 0) (tgt := 800) dL_law_795 (by decide) (by decide) (fun _ => ?_) (fun hq9 => absurd rfl hq9)
    refine z_goto (tgt := 2848) dL_law_800 (by decide) ?_
    refine z_sub (lv' := [(0, .ref ar), (1, .ref (za g 0)), (2, .ref (za g 101)), (3, .ref (za g 112)), (4, .ref (za g 113)), (5, .int (nI (i)))]) [0, 1, 2, 3, 4, 5] rfl ?_
    exact zTr_wd (by simp only [zR]; omega) (by simp only [zR]; omega) (kk _ _ _ _ _ _ _ _ ⟨hz, hx18, ⟨_, hm15⟩, ⟨_, hj19⟩, ⟨_, hq20⟩⟩)
  · (first | rw [if_neg hF, if_neg hF] at hx4 | rw [if_neg hF] at hx4 | skip)
    rw [if_neg hF] at hj5
    have hk0 : rwP [1, 2, 3] (spF 7 ((xs (i + 1))).toInt ((xs (i + 2))).toInt ((xs (i + 3))).toInt S) ≠ 0 := by revert hF; (try simp only [spF, fPass, fRest, fIv, fMod, fRep, fPas, fMark, fWin, plc, rwP]); (repeat' split) <;> first | rfl | omega | (intro hF; omega) | contradiction | (intros; contradiction) | (simp; done) | (simp_all; done) | (intros; exfalso; simp_all; done)
    refine z_istore (lv' := [(0, .ref ar), (1, .ref (za g 0)), (2, .ref (za g 101)), (3, .ref (za g 112)), (4, .ref (za g 113)), (5, .int (nI (i))), (6, .int (nI (rwP [1, 2, 3] (spF 7 ((xs (i + 1))).toInt ((xs (i + 2))).toInt ((xs (i + 3))).toInt S))))]) dL_law_746 (by decide) rfl ?_
    refine z_aload_n dL_law_748 rfl ?_
    refine z_aload_n dL_law_749 rfl ?_
    refine z_iload dL_law_750 rfl ?_
    refine z_iconst (v := nI 1) dL_law_752 rfl ?_
    refine z_iadd_n (a := i) (b := 1) dL_law_753 ?_
    refine z_tabI (a := i + 1) (v := .int (xs (i + 1))) dL_law_754 hT (by omega) (by omega) rfl ?_
    refine z_aload_n dL_law_755 rfl ?_
    refine z_iload dL_law_756 rfl ?_
    refine z_iconst (v := nI 2) dL_law_758 rfl ?_
    refine z_iadd_n (a := i) (b := 2) dL_law_759 ?_
    refine z_tabI (a := i + 2) (v := .int (xs (i + 2))) dL_law_760 hT (by omega) (by omega) rfl ?_
    refine z_aload_n dL_law_761 rfl ?_
    refine z_iload dL_law_762 rfl ?_
    refine z_iconst (v := nI 3) dL_law_764 rfl ?_
    refine z_iadd_n (a := i) (b := 3) dL_law_765 ?_
    refine z_tabI (a := i + 3) (v := .int (xs (i + 3))) dL_law_766 hT (by omega) (by omega) rfl ?_
    have hc31 := c_X13_repeat (b := 101) h0 hm7 (x := (xs (i + 1))) (y := (xs (i + 2))) (z := (xs (i + 3)))
    obtain ⟨fs23, hfs24⟩ := hm7.cell
    refine z_callV (As := [.int (xs (i + 1)), .int (xs (i + 2)), .int (xs (i + 3))]) (rest := []) (b := 101) (ci := 12) (R2 := zR 3 0) dL_law_767 kV_RL_177 rfl ⟨⟨by decide, by decide⟩, by show _ ≤ 603072; simp only [zR]; omega, by show _ ≤ 7207018; simp only [zR]; omega⟩ (by omega) hfs24 rfl rfl rfl (Nat.le_of_ble_eq_true rfl) rfl hc31 (fun E w1 hp => by obtain ⟨_, e, _⟩ := hp; cases e) (fun v w25 hp => ?_)
    obtain ⟨r26, he27, hf28, hm29, hr30⟩ := hp
    cases he27
    have hT1 : ((plc 7 (spF 7 (xs (i + 1)).toInt (xs (i + 2)).toInt (xs (i + 3)).toInt S))) = rwP [1, 2, 3] (spF 7 ((xs (i + 1))).toInt ((xs (i + 2))).toInt ((xs (i + 3))).toInt S) := by revert hF; (try simp only [spF, fPass, fRest, fIv, fMod, fRep, fPas, fMark, fWin, plc, rwP]); (repeat' split) <;> first | rfl | omega | (intro hF; omega) | contradiction | (intros; contradiction) | (simp; done) | (simp_all; done) | (intros; exfalso; simp_all; done)
    rw [hT1] at hm29
    rw [if_neg (fun z => hF z), if_neg (fun z => hF z)] at hm29
    have hx32 := hx4.fr hf28 (Or.inl (by omega))
    have hj33 := (hf28 112 (by omega)).trans hj5
    have hq34 := (hf28 113 (by omega)).trans hq8
    refine z_istore (lv' := [(0, .ref ar), (1, .ref (za g 0)), (2, .ref (za g 101)), (3, .ref (za g 112)), (4, .ref (za g 113)), (5, .int (nI (i))), (6, .int (nI (rwP [1, 2, 3] (spF 7 ((xs (i + 1))).toInt ((xs (i + 2))).toInt ((xs (i + 3))).toInt S)))), (7, .int (r26))]) dL_law_770 (by decide) rfl ?_
    refine z_aload_n dL_law_772 rfl ?_
    obtain ⟨fs35, hfs36⟩ := hm29.cell
    refine z_callE (As := []) (rest := []) (b := 101) (ci := 12) (v := some (.int (nI (rwP [1, 2, 3] (spF 7 ((xs (i + 1))).toInt ((xs (i + 2))).toInt ((xs (i + 3))).toInt S))))) (R2 := zR 0 0) dL_law_773 kV_RL_156 rfl ⟨⟨by decide, by decide⟩, by show _ ≤ 603072; simp only [zR]; omega, by show _ ≤ 7207018; simp only [zR]; omega⟩ (by omega) hfs36 rfl rfl rfl (Nat.le_of_ble_eq_true rfl) rfl (Mq.th h0 hm29) ?_
    refine z_iload dL_law_776 rfl ?_
    refine z_icmp_eq_n (a := rwP [1, 2, 3] (spF 7 ((xs (i + 1))).toInt ((xs (i + 2))).toInt ((xs (i + 3))).toInt S)) (b := rwP [1, 2, 3] (spF 7 ((xs (i + 1))).toInt ((xs (i + 2))).toInt ((xs (i + 3))).toInt S)) (tgt := 783) dL_law_778 (by decide) (by simp only [rwP]; (repeat' split) <;> omega) (by simp only [rwP]; (repeat' split) <;> omega) (fun _ => ?_) (fun hq9 => absurd rfl hq9)
    refine z_iload dL_law_783 rfl ?_
    refine z_if_ne_n (a := rwP [1, 2, 3] (spF 7 ((xs (i + 1))).toInt ((xs (i + 2))).toInt ((xs (i + 3))).toInt S)) (tgt := 800) dL_law_785 (by decide) (by simp only [rwP]; (repeat' split) <;> omega) (fun _ => ?_) (fun hq9 => absurd hq9 hk0)
    refine z_goto (tgt := 2848) dL_law_800 (by decide) ?_
    refine z_sub (lv' := [(0, .ref ar), (1, .ref (za g 0)), (2, .ref (za g 101)), (3, .ref (za g 112)), (4, .ref (za g 113)), (5, .int (nI (i)))]) [0, 1, 2, 3, 4, 5] rfl ?_
    exact zTr_wd (by simp only [zR]; omega) (by simp only [zR]; omega) (kk _ _ _ _ _ _ _ _ ⟨hz, hx32, ⟨_, hm29⟩, ⟨_, hj33⟩, ⟨_, hq34⟩⟩)
set_option maxRecDepth 100000 in
set_option maxHeartbeats 4000000 in
theorem lw_case_7 {g : zGT} {w : zW} {S : zSt} {Hs : List zSt} {Sn : Option zSt} {I O : List Nat} {ep fc : Int32} {ar N i ce sl : Nat} {xs : Nat → Int32} {Post : zP} (h0 : zG0 g) (h1 : zST g) (hN : zNC g) (hT : va_T .int ar N (fun j => .int (xs j)) (zA g) (zs g) (zs g).heap) (hL : LwI g w S Hs Sn I O ep fc) (hi : i + 3 < N) (hN9 : N ≤ 2048) (hce : ce + 2 ≤ 603072) (hsl : sl + 12 ≤ 7207018) (kk : ∀ (w' : zW) (S' : zSt) (Hs' : List zSt) (Sn' : Option zSt) (I' O' : List Nat) (ep' fc' : Int32), LwI g w' S' Hs' Sn' I' O' ep' fc' → zTr g mL_law room_1 (ce + 2) (sl + 12) 2848 [(0, .ref ar), (1, .ref (za g 0)), (2, .ref (za g 101)), (3, .ref (za g 112)), (4, .ref (za g 113)), (5, .int (nI (i)))] [] w' Post) : zTr g mL_law room_1 ce sl 803 [(0, .ref ar), (1, .ref (za g 0)), (2, .ref (za g 101)), (3, .ref (za g 112)), (4, .ref (za g 113)), (5, .int (nI (i)))] [] w Post := by
  obtain ⟨hz, hR0, ⟨t0, hM0⟩, ⟨fJ, hJ0⟩, ⟨fQ, hQ0⟩⟩ := hL
  refine z_aload_n dL_law_803 rfl ?_
  refine z_aload_n dL_law_804 rfl ?_
  refine z_iload dL_law_805 rfl ?_
  refine z_iconst (v := nI 1) dL_law_807 rfl ?_
  refine z_iadd_n (a := i) (b := 1) dL_law_808 ?_
  refine z_tabI (a := i + 1) (v := .int (xs (i + 1))) dL_law_809 hT (by omega) (by omega) rfl ?_
  refine z_aload_n dL_law_810 rfl ?_
  refine z_iload dL_law_811 rfl ?_
  refine z_iconst (v := nI 2) dL_law_813 rfl ?_
  refine z_iadd_n (a := i) (b := 2) dL_law_814 ?_
  refine z_tabI (a := i + 2) (v := .int (xs (i + 2))) dL_law_815 hT (by omega) (by omega) rfl ?_
  refine z_aload_n dL_law_816 rfl ?_
  have hc6 := c_L_copy (b := 0) (c9 := 112) h0 h1 hN hR0 (by omega) (by omega) hJ0 (x := (xs (i + 1))) (y := (xs (i + 2)))
  rw [nI0] at hc6
  refine z_callSH (As := [.ref (za g 0), .int (xs (i + 1)), .int (xs (i + 2)), .ref (za g 112)]) (rest := []) (R2 := zR 9 2) dL_law_817 kSH_178 rfl ⟨⟨by decide, by decide⟩, by show _ ≤ 603072; simp only [zR]; omega, by show _ ≤ 7207018; simp only [zR]; omega⟩ rfl (Nat.le_of_ble_eq_true rfl) rfl hc6 (fun E w1 hp => by obtain ⟨e, _⟩ := hp; cases e) (fun v w1 hp => ?_)
  obtain ⟨he2, hf3, hx4, hj5⟩ := hp
  cases he2
  have hm7 := hM0.eq (w1 := w1) (fun k h8 h9 => hf3 k (by omega) (by omega))
  have hq8 := (hf3 113 (by omega) (by omega)).trans hQ0
  by_cases hF : (spF 5 ((xs (i + 1))).toInt ((xs (i + 2))).toInt 0 S) = 0
  · refine z_eq (st' := [.int (nI 0)]) rfl (by rw [hF]; rfl) rfl ?_
    (try rw [hF] at hx4)
    rw [hF] at hj5
    (try simp only [↓reduceIte] at hx4)
    simp only [↓reduceIte] at hj5
    refine z_istore (lv' := [(0, .ref ar), (1, .ref (za g 0)), (2, .ref (za g 101)), (3, .ref (za g 112)), (4, .ref (za g 113)), (5, .int (nI (i))), (6, .int (nI (0)))]) dL_law_820 (by decide) rfl ?_
    refine z_aload_n dL_law_822 rfl ?_
    refine z_aload_n dL_law_823 rfl ?_
    refine z_iload dL_law_824 rfl ?_
    refine z_iconst (v := nI 1) dL_law_826 rfl ?_
    refine z_iadd_n (a := i) (b := 1) dL_law_827 ?_
    refine z_tabI (a := i + 1) (v := .int (xs (i + 1))) dL_law_828 hT (by omega) (by omega) rfl ?_
    refine z_aload_n dL_law_829 rfl ?_
    refine z_iload dL_law_830 rfl ?_
    refine z_iconst (v := nI 2) dL_law_832 rfl ?_
    refine z_iadd_n (a := i) (b := 2) dL_law_833 ?_
    refine z_tabI (a := i + 2) (v := .int (xs (i + 2))) dL_law_834 hT (by omega) (by omega) rfl ?_
    have hc17 := c_X13_copy (b := 101) h0 hm7 (x := (xs (i + 1))) (y := (xs (i + 2)))
    obtain ⟨fs9, hfs10⟩ := hm7.cell
    refine z_callV (As := [.int (xs (i + 1)), .int (xs (i + 2))]) (rest := []) (b := 101) (ci := 12) (R2 := zR 3 0) dL_law_835 kV_RL_180 rfl ⟨⟨by decide, by decide⟩, by show _ ≤ 603072; simp only [zR]; omega, by show _ ≤ 7207018; simp only [zR]; omega⟩ (by omega) hfs10 rfl rfl rfl (Nat.le_of_ble_eq_true rfl) rfl hc17 (fun E w1 hp => by obtain ⟨_, e, _⟩ := hp; cases e) (fun v w11 hp => ?_)
    obtain ⟨r12, he13, hf14, hm15, hr16⟩ := hp
    cases he13
    have hT0 : ((plc 5 (spF 5 (xs (i + 1)).toInt (xs (i + 2)).toInt 0 S))) = 0 := by revert hF; (try simp only [spF, fPass, fRest, fIv, fMod, fRep, fPas, fMark, fWin, plc, rwP]); (repeat' split) <;> first | rfl | omega | (intro hF; omega) | contradiction | (intros; contradiction) | (simp; done) | (simp_all; done) | (intros; exfalso; simp_all; done)
    replace hr16 := hr16 (by first | exact hF | exact hT0 | (refine Decidable.byContradiction fun z => ?_; rw [if_neg z] at hT0; exact absurd hT0 (by decide)))
    rw [hT0] at hm15
    rw [if_pos (by first | exact hF | exact hT0), if_pos (by first | exact hF | exact hT0)] at hm15
    have hx18 := hx4.fr hf14 (Or.inl (by omega))
    have hj19 := (hf14 112 (by omega)).trans hj5
    have hq20 := (hf14 113 (by omega)).trans hq8
    refine z_istore (lv' := [(0, .ref ar), (1, .ref (za g 0)), (2, .ref (za g 101)), (3, .ref (za g 112)), (4, .ref (za g 113)), (5, .int (nI (i))), (6, .int (nI (0))), (7, .int (r12))]) dL_law_838 (by decide) rfl ?_
    refine z_aload_n dL_law_840 rfl ?_
    obtain ⟨fs21, hfs22⟩ := hm15.cell
    refine z_callE (As := []) (rest := []) (b := 101) (ci := 12) (v := some (.int (nI (0)))) (R2 := zR 0 0) dL_law_841 kV_RL_156 rfl ⟨⟨by decide, by decide⟩, by show _ ≤ 603072; simp only [zR]; omega, by show _ ≤ 7207018; simp only [zR]; omega⟩ (by omega) hfs22 rfl rfl rfl (Nat.le_of_ble_eq_true rfl) rfl (Mq.th h0 hm15) ?_
    refine z_iload dL_law_844 rfl ?_
    refine z_icmp_eq_n (a := 0) (b := 0) (tgt := 851) dL_law_846 (by decide) (by omega) (by omega) (fun _ => ?_) (fun hq9 => absurd rfl hq9)
    refine z_iload dL_law_851 rfl ?_
    refine z_if_ne_n (a := 0) (tgt := 868) dL_law_853 (by decide) (by decide) (fun hq9 => absurd rfl hq9) (fun _ => ?_)
    refine z_aload_n dL_law_856 rfl ?_
    refine z_iconst (v := nI 0) dL_law_857 rfl ?_
    refine z_lald (j := 112) (N := 1) (i := nI 0) dL_law_858 (by omega) hj19 (vp_in_nI (by decide) (by decide)) ?_
    refine z_eq (st' := [.long ((nI (spA 5 ((xs (i + 1))).toInt ((xs (i + 2))).toInt 0 S)).toInt64)]) rfl (by rw [nI_clamp (by decide)]; simp [vp_updL]) rfl ?_
    refine z_iload dL_law_859 rfl ?_
    refine z_i2l dL_law_861 ?_
    refine z_lcmp dL_law_862 ?_
    refine z_eq (st' := [.int (nI 0)]) rfl (by rw [hr16, lg_self]) rfl ?_
    refine z_if_eq_n (a := 0) (tgt := 868) dL_law_863 (by decide) (by decide) (fun _ => ?_) (fun hq9 => absurd rfl hq9)
    refine z_goto (tgt := 2848) dL_law_868 (by decide) ?_
    refine z_sub (lv' := [(0, .ref ar), (1, .ref (za g 0)), (2, .ref (za g 101)), (3, .ref (za g 112)), (4, .ref (za g 113)), (5, .int (nI (i)))]) [0, 1, 2, 3, 4, 5] rfl ?_
    exact zTr_wd (by simp only [zR]; omega) (by simp only [zR]; omega) (kk _ _ _ _ _ _ _ _ ⟨hz, hx18, ⟨_, hm15⟩, ⟨_, hj19⟩, ⟨_, hq20⟩⟩)
  · (first | rw [if_neg hF, if_neg hF] at hx4 | rw [if_neg hF] at hx4 | skip)
    rw [if_neg hF] at hj5
    have hk0 : rwP [1] (spF 5 ((xs (i + 1))).toInt ((xs (i + 2))).toInt 0 S) ≠ 0 := by revert hF; (try simp only [spF, fPass, fRest, fIv, fMod, fRep, fPas, fMark, fWin, plc, rwP]); (repeat' split) <;> first | rfl | omega | (intro hF; omega) | contradiction | (intros; contradiction) | (simp; done) | (simp_all; done) | (intros; exfalso; simp_all; done)
    refine z_istore (lv' := [(0, .ref ar), (1, .ref (za g 0)), (2, .ref (za g 101)), (3, .ref (za g 112)), (4, .ref (za g 113)), (5, .int (nI (i))), (6, .int (nI (rwP [1] (spF 5 ((xs (i + 1))).toInt ((xs (i + 2))).toInt 0 S))))]) dL_law_820 (by decide) rfl ?_
    refine z_aload_n dL_law_822 rfl ?_
    refine z_aload_n dL_law_823 rfl ?_
    refine z_iload dL_law_824 rfl ?_
    refine z_iconst (v := nI 1) dL_law_826 rfl ?_
    refine z_iadd_n (a := i) (b := 1) dL_law_827 ?_
    refine z_tabI (a := i + 1) (v := .int (xs (i + 1))) dL_law_828 hT (by omega) (by omega) rfl ?_
    refine z_aload_n dL_law_829 rfl ?_
    refine z_iload dL_law_830 rfl ?_
    refine z_iconst (v := nI 2) dL_law_832 rfl ?_
    refine z_iadd_n (a := i) (b := 2) dL_law_833 ?_
    refine z_tabI (a := i + 2) (v := .int (xs (i + 2))) dL_law_834 hT (by omega) (by omega) rfl ?_
    have hc31 := c_X13_copy (b := 101) h0 hm7 (x := (xs (i + 1))) (y := (xs (i + 2)))
    obtain ⟨fs23, hfs24⟩ := hm7.cell
    refine z_callV (As := [.int (xs (i + 1)), .int (xs (i + 2))]) (rest := []) (b := 101) (ci := 12) (R2 := zR 3 0) dL_law_835 kV_RL_180 rfl ⟨⟨by decide, by decide⟩, by show _ ≤ 603072; simp only [zR]; omega, by show _ ≤ 7207018; simp only [zR]; omega⟩ (by omega) hfs24 rfl rfl rfl (Nat.le_of_ble_eq_true rfl) rfl hc31 (fun E w1 hp => by obtain ⟨_, e, _⟩ := hp; cases e) (fun v w25 hp => ?_)
    obtain ⟨r26, he27, hf28, hm29, hr30⟩ := hp
    cases he27
    have hT1 : ((plc 5 (spF 5 (xs (i + 1)).toInt (xs (i + 2)).toInt 0 S))) = rwP [1] (spF 5 ((xs (i + 1))).toInt ((xs (i + 2))).toInt 0 S) := by revert hF; (try simp only [spF, fPass, fRest, fIv, fMod, fRep, fPas, fMark, fWin, plc, rwP]); (repeat' split) <;> first | rfl | omega | (intro hF; omega) | contradiction | (intros; contradiction) | (simp; done) | (simp_all; done) | (intros; exfalso; simp_all; done)
    rw [hT1] at hm29
    rw [if_neg (fun z => hF z), if_neg (fun z => hF z)] at hm29
    have hx32 := hx4.fr hf28 (Or.inl (by omega))
    have hj33 := (hf28 112 (by omega)).trans hj5
    have hq34 := (hf28 113 (by omega)).trans hq8
    refine z_istore (lv' := [(0, .ref ar), (1, .ref (za g 0)), (2, .ref (za g 101)), (3, .ref (za g 112)), (4, .ref (za g 113)), (5, .int (nI (i))), (6, .int (nI (rwP [1] (spF 5 ((xs (i + 1))).toInt ((xs (i + 2))).toInt 0 S)))), (7, .int (r26))]) dL_law_838 (by decide) rfl ?_
    refine z_aload_n dL_law_840 rfl ?_
    obtain ⟨fs35, hfs36⟩ := hm29.cell
    refine z_callE (As := []) (rest := []) (b := 101) (ci := 12) (v := some (.int (nI (rwP [1] (spF 5 ((xs (i + 1))).toInt ((xs (i + 2))).toInt 0 S))))) (R2 := zR 0 0) dL_law_841 kV_RL_156 rfl ⟨⟨by decide, by decide⟩, by show _ ≤ 603072; simp only [zR]; omega, by show _ ≤ 7207018; simp only [zR]; omega⟩ (by omega) hfs36 rfl rfl rfl (Nat.le_of_ble_eq_true rfl) rfl (Mq.th h0 hm29) ?_
    refine z_iload dL_law_844 rfl ?_
    refine z_icmp_eq_n (a := rwP [1] (spF 5 ((xs (i + 1))).toInt ((xs (i + 2))).toInt 0 S)) (b := rwP [1] (spF 5 ((xs (i + 1))).toInt ((xs (i + 2))).toInt 0 S)) (tgt := 851) dL_law_846 (by decide) (by simp only [rwP]; (repeat' split) <;> omega) (by simp only [rwP]; (repeat' split) <;> omega) (fun _ => ?_) (fun hq9 => absurd rfl hq9)
    refine z_iload dL_law_851 rfl ?_
    refine z_if_ne_n (a := rwP [1] (spF 5 ((xs (i + 1))).toInt ((xs (i + 2))).toInt 0 S)) (tgt := 868) dL_law_853 (by decide) (by simp only [rwP]; (repeat' split) <;> omega) (fun _ => ?_) (fun hq9 => absurd hq9 hk0)
    refine z_goto (tgt := 2848) dL_law_868 (by decide) ?_
    refine z_sub (lv' := [(0, .ref ar), (1, .ref (za g 0)), (2, .ref (za g 101)), (3, .ref (za g 112)), (4, .ref (za g 113)), (5, .int (nI (i)))]) [0, 1, 2, 3, 4, 5] rfl ?_
    exact zTr_wd (by simp only [zR]; omega) (by simp only [zR]; omega) (kk _ _ _ _ _ _ _ _ ⟨hz, hx32, ⟨_, hm29⟩, ⟨_, hj33⟩, ⟨_, hq34⟩⟩)
