set_option maxRecDepth 100000 in
set_option maxHeartbeats 4000000 in
theorem lw_case_40 {g : zGT} {w : zW} {S : zSt} {Hs : List zSt} {Sn : Option zSt} {I O : List Nat} {ep fc : Int32} {ar N i ce sl : Nat} {xs : Nat → Int32} {Post : zP} (h0 : zG0 g) (h1 : zST g) (hN : zNC g) (hT : va_T .int ar N (fun j => .int (xs j)) (zA g) (zs g) (zs g).heap) (hL : LwI g w S Hs Sn I O ep fc) (hi : i + 3 < N) (hN9 : N ≤ 2048) (hce : ce + 2 ≤ 603072) (hsl : sl + 12 ≤ 7207018) (kk : ∀ (w' : zW) (S' : zSt) (Hs' : List zSt) (Sn' : Option zSt) (I' O' : List Nat) (ep' fc' : Int32), LwI g w' S' Hs' Sn' I' O' ep' fc' → zTr g mL_law room_1 (ce + 2) (sl + 12) 2848 [(0, .ref ar), (1, .ref (za g 0)), (2, .ref (za g 101)), (3, .ref (za g 112)), (4, .ref (za g 113)), (5, .int (nI (i)))] [] w' Post) : zTr g mL_law room_1 ce sl 2261 [(0, .ref ar), (1, .ref (za g 0)), (2, .ref (za g 101)), (3, .ref (za g 112)), (4, .ref (za g 113)), (5, .int (nI (i)))] [] w Post := by
  obtain ⟨hz, hR0, ⟨t0, hM0⟩, ⟨fJ, hJ0⟩, ⟨fQ, hQ0⟩⟩ := hL
  refine z_aload_n dL_law_2261 rfl ?_
  have hc9 := c_X12_clipboardLength (b := 0) h0 h1 hR0
  refine z_callV (As := []) (rest := []) (b := 0) (ci := 11) (R2 := zR 1 0) dL_law_2262 kV_RL_291 rfl ⟨⟨by decide, by decide⟩, by show _ ≤ 603072; simp only [zR]; omega, by show _ ≤ 7207018; simp only [zR]; omega⟩ (by omega) hR0.ce rfl rfl rfl (Nat.le_of_ble_eq_true rfl) rfl hc9 (fun E w1 hp => by obtain ⟨e, _⟩ := hp; cases e) (fun v w3 hp => ?_)
  obtain ⟨he5, hf6, hr8⟩ := hp
  cases he5
  have hm10 := hM0.eq (w1 := w3) (fun k h8 h9 => hf6 k (by omega))
  have hj11 := (hf6 112 (by omega)).trans hJ0
  have hq12 := (hf6 113 (by omega)).trans hQ0
  refine z_aload_n dL_law_2265 rfl ?_
  have hc21 := c_X13_clipboardLength (b := 101) h0 hm10
  obtain ⟨fs13, hfs14⟩ := hm10.cell
  refine z_callV (As := []) (rest := [.int ((nI S.2.2.1.length))]) (b := 101) (ci := 12) (R2 := zR 4 0) dL_law_2266 kV_RL_294 rfl ⟨⟨by decide, by decide⟩, by show _ ≤ 603072; simp only [zR]; omega, by show _ ≤ 7207018; simp only [zR]; omega⟩ (by omega) hfs14 rfl rfl rfl (Nat.le_of_ble_eq_true rfl) rfl hc21 (fun E w1 hp => by obtain ⟨e, _⟩ := hp; cases e) (fun v w15 hp => ?_)
  obtain ⟨he17, hf18, hm19⟩ := hp
  cases he17
  have hx22 := hr8.fr hf18 (Or.inl (by omega))
  have hj23 := (hf18 112 (by omega)).trans hj11
  have hq24 := (hf18 113 (by omega)).trans hq12
  refine z_icmp_eq (tgt := 2848) dL_law_2269 (by decide) (fun _ => ?_) (fun h9 => absurd rfl h9)
  exact zTr_wd (by simp only [zR]; omega) (by simp only [zR]; omega) (kk _ _ _ _ _ _ _ _ ⟨hz, hx22, ⟨_, hm19⟩, ⟨_, hj23⟩, ⟨_, hq24⟩⟩)
set_option maxRecDepth 100000 in
set_option maxHeartbeats 4000000 in
theorem lw_case_41 {g : zGT} {w : zW} {S : zSt} {Hs : List zSt} {Sn : Option zSt} {I O : List Nat} {ep fc : Int32} {ar N i ce sl : Nat} {xs : Nat → Int32} {Post : zP} (h0 : zG0 g) (h1 : zST g) (hN : zNC g) (hT : va_T .int ar N (fun j => .int (xs j)) (zA g) (zs g) (zs g).heap) (hL : LwI g w S Hs Sn I O ep fc) (hi : i + 3 < N) (hN9 : N ≤ 2048) (hce : ce + 2 ≤ 603072) (hsl : sl + 12 ≤ 7207018) (kk : ∀ (w' : zW) (S' : zSt) (Hs' : List zSt) (Sn' : Option zSt) (I' O' : List Nat) (ep' fc' : Int32), LwI g w' S' Hs' Sn' I' O' ep' fc' → zTr g mL_law room_1 (ce + 2) (sl + 12) 2848 [(0, .ref ar), (1, .ref (za g 0)), (2, .ref (za g 101)), (3, .ref (za g 112)), (4, .ref (za g 113)), (5, .int (nI (i)))] [] w' Post) : zTr g mL_law room_1 ce sl 2274 [(0, .ref ar), (1, .ref (za g 0)), (2, .ref (za g 101)), (3, .ref (za g 112)), (4, .ref (za g 113)), (5, .int (nI (i)))] [] w Post := by
  obtain ⟨hz, hR0, ⟨t0, hM0⟩, ⟨fJ, hJ0⟩, ⟨fQ, hQ0⟩⟩ := hL
  refine z_aload_n dL_law_2274 rfl ?_
  have hc9 := c_X12_trainCount (b := 0) h0 h1 hR0
  refine z_callV (As := []) (rest := []) (b := 0) (ci := 11) (R2 := zR 1 0) dL_law_2275 kV_RL_295 rfl ⟨⟨by decide, by decide⟩, by show _ ≤ 603072; simp only [zR]; omega, by show _ ≤ 7207018; simp only [zR]; omega⟩ (by omega) hR0.ce rfl rfl rfl (Nat.le_of_ble_eq_true rfl) rfl hc9 (fun E w1 hp => by obtain ⟨e, _⟩ := hp; cases e) (fun v w3 hp => ?_)
  obtain ⟨he5, hf6, hr8⟩ := hp
  cases he5
  have hm10 := hM0.eq (w1 := w3) (fun k h8 h9 => hf6 k (by omega))
  have hj11 := (hf6 112 (by omega)).trans hJ0
  have hq12 := (hf6 113 (by omega)).trans hQ0
  refine z_aload_n dL_law_2278 rfl ?_
  have hc21 := c_X13_trainCount (b := 101) h0 hm10
  obtain ⟨fs13, hfs14⟩ := hm10.cell
  refine z_callV (As := []) (rest := [.int ((nI S.2.2.2))]) (b := 101) (ci := 12) (R2 := zR 4 0) dL_law_2279 kV_RL_298 rfl ⟨⟨by decide, by decide⟩, by show _ ≤ 603072; simp only [zR]; omega, by show _ ≤ 7207018; simp only [zR]; omega⟩ (by omega) hfs14 rfl rfl rfl (Nat.le_of_ble_eq_true rfl) rfl hc21 (fun E w1 hp => by obtain ⟨e, _⟩ := hp; cases e) (fun v w15 hp => ?_)
  obtain ⟨he17, hf18, hm19⟩ := hp
  cases he17
  have hx22 := hr8.fr hf18 (Or.inl (by omega))
  have hj23 := (hf18 112 (by omega)).trans hj11
  have hq24 := (hf18 113 (by omega)).trans hq12
  refine z_icmp_eq (tgt := 2848) dL_law_2282 (by decide) (fun _ => ?_) (fun h9 => absurd rfl h9)
  exact zTr_wd (by simp only [zR]; omega) (by simp only [zR]; omega) (kk _ _ _ _ _ _ _ _ ⟨hz, hx22, ⟨_, hm19⟩, ⟨_, hj23⟩, ⟨_, hq24⟩⟩)
set_option maxRecDepth 100000 in
set_option maxHeartbeats 4000000 in
theorem lw_case_42 {g : zGT} {w : zW} {S : zSt} {Hs : List zSt} {Sn : Option zSt} {I O : List Nat} {ep fc : Int32} {ar N i ce sl : Nat} {xs : Nat → Int32} {Post : zP} (h0 : zG0 g) (h1 : zST g) (hN : zNC g) (hT : va_T .int ar N (fun j => .int (xs j)) (zA g) (zs g) (zs g).heap) (hL : LwI g w S Hs Sn I O ep fc) (hi : i + 3 < N) (hN9 : N ≤ 2048) (hce : ce + 2 ≤ 603072) (hsl : sl + 12 ≤ 7207018) (kk : ∀ (w' : zW) (S' : zSt) (Hs' : List zSt) (Sn' : Option zSt) (I' O' : List Nat) (ep' fc' : Int32), LwI g w' S' Hs' Sn' I' O' ep' fc' → zTr g mL_law room_1 (ce + 2) (sl + 12) 2848 [(0, .ref ar), (1, .ref (za g 0)), (2, .ref (za g 101)), (3, .ref (za g 112)), (4, .ref (za g 113)), (5, .int (nI (i)))] [] w' Post) : zTr g mL_law room_1 ce sl 2287 [(0, .ref ar), (1, .ref (za g 0)), (2, .ref (za g 101)), (3, .ref (za g 112)), (4, .ref (za g 113)), (5, .int (nI (i)))] [] w Post := by
  obtain ⟨hz, hR0, ⟨t0, hM0⟩, ⟨fJ, hJ0⟩, ⟨fQ, hQ0⟩⟩ := hL
  have hn9 := hR0.st.len
  refine z_aload_n dL_law_2287 rfl ?_
  refine z_aload dL_law_2288 rfl ?_
  have hc6 := c_L_meanLevel (b := 0) (c9 := 113) h0 h1 hN hR0 (by omega) (by omega) hQ0
  refine z_callSH (As := [.ref (za g 0), .ref (za g 113)]) (rest := []) (R2 := zR 9 2) dL_law_2290 kSH_299 rfl ⟨⟨by decide, by decide⟩, by show _ ≤ 603072; simp only [zR]; omega, by show _ ≤ 7207018; simp only [zR]; omega⟩ rfl (Nat.le_of_ble_eq_true rfl) rfl hc6 (fun E w1 hp => by obtain ⟨e, _⟩ := hp; cases e) (fun v w1 hp => ?_)
  obtain ⟨he2, hf3, hx4, hj5⟩ := hp
  cases he2
  have hm7 := hM0.eq (w1 := w1) (fun k h8 h9 => hf3 k (by omega) (by omega))
  have hq8 := (hf3 112 (by omega) (by omega)).trans hJ0
  by_cases hF : (if S.1.length = 0 then 5 else 0) = 0
  · refine z_eq (st' := [.int (nI 0)]) rfl (by rw [hF]; rfl) rfl ?_
    (try rw [hF] at hx4)
    rw [hF] at hj5
    (try simp only [↓reduceIte] at hx4)
    simp only [↓reduceIte] at hj5
    have hS0 : 0 < S.1.length := by
      rcases Nat.eq_zero_or_pos S.1.length with z | z
      · rw [if_pos z] at hF; exact absurd hF (by decide)
      · exact z
    refine z_istore (lv' := [(0, .ref ar), (1, .ref (za g 0)), (2, .ref (za g 101)), (3, .ref (za g 112)), (4, .ref (za g 113)), (5, .int (nI (i))), (6, .int (nI (0)))]) dL_law_2293 (by decide) rfl ?_
    refine z_aload_n dL_law_2295 rfl ?_
    have hc17 := c_X13_meanLevel (b := 101) h0 hm7
    obtain ⟨fs9, hfs10⟩ := hm7.cell
    refine z_callV (As := []) (rest := []) (b := 101) (ci := 12) (R2 := zR 4 0) dL_law_2296 kV_RL_302 rfl ⟨⟨by decide, by decide⟩, by show _ ≤ 603072; simp only [zR]; omega, by show _ ≤ 7207018; simp only [zR]; omega⟩ (by omega) hfs10 rfl rfl rfl (Nat.le_of_ble_eq_true rfl) rfl hc17 (fun E w1 hp => by obtain ⟨_, e, _⟩ := hp; cases e) (fun v w11 hp => ?_)
    obtain ⟨r12, he13, hf14, hm15, hr16⟩ := hp
    cases he13
    have hT0 : ((if S.1.length ≠ 0 then 0 else 1)) = 0 := by revert hF; (try simp only [spF, fPass, fRest, fIv, fMod, fRep, fPas, fMark, fWin, plc, rwP]); (repeat' split) <;> first | rfl | omega | (intro hF; omega) | contradiction | (intros; contradiction) | (simp; done) | (simp_all; done) | (intros; exfalso; simp_all; done)
    replace hr16 := hr16 (by first | exact hF | exact hT0 | (refine Decidable.byContradiction fun z => ?_; rw [if_neg z] at hT0; exact absurd hT0 (by decide)))
    rw [hT0] at hm15
    (try simp only [↓reduceIte] at hm15)
    have hx18 := hx4.fr hf14 (Or.inl (by omega))
    have hj19 := (hf14 112 (by omega)).trans hq8
    have hq20 := (hf14 113 (by omega)).trans hj5
    refine z_dstore (lv' := [(0, .ref ar), (1, .ref (za g 0)), (2, .ref (za g 101)), (3, .ref (za g 112)), (4, .ref (za g 113)), (5, .int (nI (i))), (6, .int (nI (0))), (7, .double (r12))]) dL_law_2299 (by decide) rfl ?_
    refine z_aload_n dL_law_2301 rfl ?_
    obtain ⟨fs21, hfs22⟩ := hm15.cell
    refine z_callE (As := []) (rest := []) (b := 101) (ci := 12) (v := some (.int (nI (0)))) (R2 := zR 0 0) dL_law_2302 kV_RL_156 rfl ⟨⟨by decide, by decide⟩, by show _ ≤ 603072; simp only [zR]; omega, by show _ ≤ 7207018; simp only [zR]; omega⟩ (by omega) hfs22 rfl rfl rfl (Nat.le_of_ble_eq_true rfl) rfl (Mq.th h0 hm15) ?_
    refine z_iload dL_law_2305 rfl ?_
    refine z_icmp_eq_n (a := 0) (b := 0) (tgt := 2312) dL_law_2307 (by decide) (by omega) (by omega) (fun _ => ?_) (fun hq9 => absurd rfl hq9)
    refine z_iload dL_law_2312 rfl ?_
    refine z_if_ne_n (a := 0) (tgt := 2349) dL_law_2314 (by decide) (by decide) (fun hq9 => absurd rfl hq9) (fun _ => ?_)
    refine z_aload dL_law_2317 rfl ?_
    refine z_iconst (v := nI 0) dL_law_2319 rfl ?_
    refine z_dald (j := 113) (N := 1) (i := nI 0) dL_law_2320 (by omega) hq20 (vp_in_nI (by decide) (by decide)) ?_
    refine z_eq (st' := [.double ((FP.ddiv (FP.l2d (lN (tsum (gT S.1) 0 S.1.length))) (FP.i2d (nI S.1.length))))]) rfl (by rw [nI_clamp (by decide)]; simp [vf_upd]) rfl ?_
    refine z_dload dL_law_2321 rfl ?_
    refine z_dcmp dL_law_2323 ?_
    refine z_eq (st' := [.int (nI 0)]) rfl (by rw [hr16, ddv_cmp hS0 (by omega)]) rfl ?_
    refine z_if_eq_n (a := 0) (tgt := 2349) dL_law_2324 (by decide) (by decide) (fun _ => ?_) (fun hq9 => absurd rfl hq9)
    refine z_goto (tgt := 2848) dL_law_2349 (by decide) ?_
    refine z_sub (lv' := [(0, .ref ar), (1, .ref (za g 0)), (2, .ref (za g 101)), (3, .ref (za g 112)), (4, .ref (za g 113)), (5, .int (nI (i)))]) [0, 1, 2, 3, 4, 5] rfl ?_
    exact zTr_wd (by simp only [zR]; omega) (by simp only [zR]; omega) (kk _ _ _ _ _ _ _ _ ⟨hz, hx18, ⟨_, hm15⟩, ⟨_, hj19⟩, ⟨_, hq20⟩⟩)
  · (first | rw [if_neg hF, if_neg hF] at hx4 | rw [if_neg hF] at hx4 | skip)
    rw [if_neg hF] at hj5
    have hk0 : rwP [5] (if S.1.length = 0 then 5 else 0) ≠ 0 := by revert hF; (try simp only [spF, fPass, fRest, fIv, fMod, fRep, fPas, fMark, fWin, plc, rwP]); (repeat' split) <;> first | rfl | omega | (intro hF; omega) | contradiction | (intros; contradiction) | (simp; done) | (simp_all; done) | (intros; exfalso; simp_all; done)
    refine z_istore (lv' := [(0, .ref ar), (1, .ref (za g 0)), (2, .ref (za g 101)), (3, .ref (za g 112)), (4, .ref (za g 113)), (5, .int (nI (i))), (6, .int (nI (rwP [5] (if S.1.length = 0 then 5 else 0))))]) dL_law_2293 (by decide) rfl ?_
    refine z_aload_n dL_law_2295 rfl ?_
    have hc31 := c_X13_meanLevel (b := 101) h0 hm7
    obtain ⟨fs23, hfs24⟩ := hm7.cell
    refine z_callV (As := []) (rest := []) (b := 101) (ci := 12) (R2 := zR 4 0) dL_law_2296 kV_RL_302 rfl ⟨⟨by decide, by decide⟩, by show _ ≤ 603072; simp only [zR]; omega, by show _ ≤ 7207018; simp only [zR]; omega⟩ (by omega) hfs24 rfl rfl rfl (Nat.le_of_ble_eq_true rfl) rfl hc31 (fun E w1 hp => by obtain ⟨_, e, _⟩ := hp; cases e) (fun v w25 hp => ?_)
    obtain ⟨r26, he27, hf28, hm29, hr30⟩ := hp
    cases he27
    have hT1 : ((if S.1.length ≠ 0 then 0 else 1)) = rwP [5] (if S.1.length = 0 then 5 else 0) := by revert hF; (try simp only [spF, fPass, fRest, fIv, fMod, fRep, fPas, fMark, fWin, plc, rwP]); (repeat' split) <;> first | rfl | omega | (intro hF; omega) | contradiction | (intros; contradiction) | (simp; done) | (simp_all; done) | (intros; exfalso; simp_all; done)
    rw [hT1] at hm29
    (try rw [if_neg hk0] at hm29)
    have hx32 := hx4.fr hf28 (Or.inl (by omega))
    have hj33 := (hf28 112 (by omega)).trans hq8
    have hq34 := (hf28 113 (by omega)).trans hj5
    refine z_dstore (lv' := [(0, .ref ar), (1, .ref (za g 0)), (2, .ref (za g 101)), (3, .ref (za g 112)), (4, .ref (za g 113)), (5, .int (nI (i))), (6, .int (nI (rwP [5] (if S.1.length = 0 then 5 else 0)))), (7, .double (r26))]) dL_law_2299 (by decide) rfl ?_
    refine z_aload_n dL_law_2301 rfl ?_
    obtain ⟨fs35, hfs36⟩ := hm29.cell
    refine z_callE (As := []) (rest := []) (b := 101) (ci := 12) (v := some (.int (nI (rwP [5] (if S.1.length = 0 then 5 else 0))))) (R2 := zR 0 0) dL_law_2302 kV_RL_156 rfl ⟨⟨by decide, by decide⟩, by show _ ≤ 603072; simp only [zR]; omega, by show _ ≤ 7207018; simp only [zR]; omega⟩ (by omega) hfs36 rfl rfl rfl (Nat.le_of_ble_eq_true rfl) rfl (Mq.th h0 hm29) ?_
    refine z_iload dL_law_2305 rfl ?_
    refine z_icmp_eq_n (a := rwP [5] (if S.1.length = 0 then 5 else 0)) (b := rwP [5] (if S.1.length = 0 then 5 else 0)) (tgt := 2312) dL_law_2307 (by decide) (by simp only [rwP]; (repeat' split) <;> omega) (by simp only [rwP]; (repeat' split) <;> omega) (fun _ => ?_) (fun hq9 => absurd rfl hq9)
    refine z_iload dL_law_2312 rfl ?_
    refine z_if_ne_n (a := rwP [5] (if S.1.length = 0 then 5 else 0)) (tgt := 2349) dL_law_2314 (by decide) (by simp only [rwP]; (repeat' split) <;> omega) (fun _ => ?_) (fun hq9 => absurd hq9 hk0)
    refine z_goto (tgt := 2848) dL_law_2349 (by decide) ?_
    refine z_sub (lv' := [(0, .ref ar), (1, .ref (za g 0)), (2, .ref (za g 101)), (3, .ref (za g 112)), (4, .ref (za g 113)), (5, .int (nI (i)))]) [0, 1, 2, 3, 4, 5] rfl ?_
    exact zTr_wd (by simp only [zR]; omega) (by simp only [zR]; omega) (kk _ _ _ _ _ _ _ _ ⟨hz, hx32, ⟨_, hm29⟩, ⟨_, hj33⟩, ⟨_, hq34⟩⟩)
set_option maxRecDepth 100000 in
set_option maxHeartbeats 4000000 in
theorem lw_case_43 {g : zGT} {w : zW} {S : zSt} {Hs : List zSt} {Sn : Option zSt} {I O : List Nat} {ep fc : Int32} {ar N i ce sl : Nat} {xs : Nat → Int32} {Post : zP} (h0 : zG0 g) (h1 : zST g) (hN : zNC g) (hT : va_T .int ar N (fun j => .int (xs j)) (zA g) (zs g) (zs g).heap) (hL : LwI g w S Hs Sn I O ep fc) (hi : i + 3 < N) (hN9 : N ≤ 2048) (hce : ce + 2 ≤ 603072) (hsl : sl + 12 ≤ 7207018) (kk : ∀ (w' : zW) (S' : zSt) (Hs' : List zSt) (Sn' : Option zSt) (I' O' : List Nat) (ep' fc' : Int32), LwI g w' S' Hs' Sn' I' O' ep' fc' → zTr g mL_law room_1 (ce + 2) (sl + 12) 2848 [(0, .ref ar), (1, .ref (za g 0)), (2, .ref (za g 101)), (3, .ref (za g 112)), (4, .ref (za g 113)), (5, .int (nI (i)))] [] w' Post) : zTr g mL_law room_1 ce sl 2352 [(0, .ref ar), (1, .ref (za g 0)), (2, .ref (za g 101)), (3, .ref (za g 112)), (4, .ref (za g 113)), (5, .int (nI (i)))] [] w Post := by
  obtain ⟨hz, hR0, ⟨t0, hM0⟩, ⟨fJ, hJ0⟩, ⟨fQ, hQ0⟩⟩ := hL
  have hn9 := hR0.st.len
  refine z_aload_n dL_law_2352 rfl ?_
  refine z_aload dL_law_2353 rfl ?_
  have hc6 := c_L_restShare (b := 0) (c9 := 113) h0 h1 hN hR0 (by omega) (by omega) hQ0
  refine z_callSH (As := [.ref (za g 0), .ref (za g 113)]) (rest := []) (R2 := zR 9 2) dL_law_2355 kSH_303 rfl ⟨⟨by decide, by decide⟩, by show _ ≤ 603072; simp only [zR]; omega, by show _ ≤ 7207018; simp only [zR]; omega⟩ rfl (Nat.le_of_ble_eq_true rfl) rfl hc6 (fun E w1 hp => by obtain ⟨e, _⟩ := hp; cases e) (fun v w1 hp => ?_)
  obtain ⟨he2, hf3, hx4, hj5⟩ := hp
  cases he2
  have hm7 := hM0.eq (w1 := w1) (fun k h8 h9 => hf3 k (by omega) (by omega))
  have hq8 := (hf3 112 (by omega) (by omega)).trans hJ0
  by_cases hF : (if S.1.length = 0 then 5 else 0) = 0
  · refine z_eq (st' := [.int (nI 0)]) rfl (by rw [hF]; rfl) rfl ?_
    (try rw [hF] at hx4)
    rw [hF] at hj5
    (try simp only [↓reduceIte] at hx4)
    simp only [↓reduceIte] at hj5
    have hS0 : 0 < S.1.length := by
      rcases Nat.eq_zero_or_pos S.1.length with z | z
      · rw [if_pos z] at hF; exact absurd hF (by decide)
      · exact z
    refine z_istore (lv' := [(0, .ref ar), (1, .ref (za g 0)), (2, .ref (za g 101)), (3, .ref (za g 112)), (4, .ref (za g 113)), (5, .int (nI (i))), (6, .int (nI (0)))]) dL_law_2358 (by decide) rfl ?_
    refine z_aload_n dL_law_2360 rfl ?_
    have hc17 := c_X13_restShare (b := 101) h0 hm7
    obtain ⟨fs9, hfs10⟩ := hm7.cell
    refine z_callV (As := []) (rest := []) (b := 101) (ci := 12) (R2 := zR 4 0) dL_law_2361 kV_RL_305 rfl ⟨⟨by decide, by decide⟩, by show _ ≤ 603072; simp only [zR]; omega, by show _ ≤ 7207018; simp only [zR]; omega⟩ (by omega) hfs10 rfl rfl rfl (Nat.le_of_ble_eq_true rfl) rfl hc17 (fun E w1 hp => by obtain ⟨_, e, _⟩ := hp; cases e) (fun v w11 hp => ?_)
    obtain ⟨r12, he13, hf14, hm15, hr16⟩ := hp
    cases he13
    have hT0 : ((if S.1.length ≠ 0 then 0 else 1)) = 0 := by revert hF; (try simp only [spF, fPass, fRest, fIv, fMod, fRep, fPas, fMark, fWin, plc, rwP]); (repeat' split) <;> first | rfl | omega | (intro hF; omega) | contradiction | (intros; contradiction) | (simp; done) | (simp_all; done) | (intros; exfalso; simp_all; done)
    replace hr16 := hr16 (by first | exact hF | exact hT0 | (refine Decidable.byContradiction fun z => ?_; rw [if_neg z] at hT0; exact absurd hT0 (by decide)))
    rw [hT0] at hm15
    (try simp only [↓reduceIte] at hm15)
    have hx18 := hx4.fr hf14 (Or.inl (by omega))
    have hj19 := (hf14 112 (by omega)).trans hq8
    have hq20 := (hf14 113 (by omega)).trans hj5
    refine z_fstore (lv' := [(0, .ref ar), (1, .ref (za g 0)), (2, .ref (za g 101)), (3, .ref (za g 112)), (4, .ref (za g 113)), (5, .int (nI (i))), (6, .int (nI (0))), (7, .float (r12))]) dL_law_2364 (by decide) rfl ?_
    refine z_aload_n dL_law_2366 rfl ?_
    obtain ⟨fs21, hfs22⟩ := hm15.cell
    refine z_callE (As := []) (rest := []) (b := 101) (ci := 12) (v := some (.int (nI (0)))) (R2 := zR 0 0) dL_law_2367 kV_RL_156 rfl ⟨⟨by decide, by decide⟩, by show _ ≤ 603072; simp only [zR]; omega, by show _ ≤ 7207018; simp only [zR]; omega⟩ (by omega) hfs22 rfl rfl rfl (Nat.le_of_ble_eq_true rfl) rfl (Mq.th h0 hm15) ?_
    refine z_iload dL_law_2370 rfl ?_
    refine z_icmp_eq_n (a := 0) (b := 0) (tgt := 2377) dL_law_2372 (by decide) (by omega) (by omega) (fun _ => ?_) (fun hq9 => absurd rfl hq9)
    refine z_iload dL_law_2377 rfl ?_
    refine z_if_ne_n (a := 0) (tgt := 2415) dL_law_2379 (by decide) (by decide) (fun hq9 => absurd rfl hq9) (fun _ => ?_)
    refine z_aload dL_law_2382 rfl ?_
    refine z_iconst (v := nI 0) dL_law_2384 rfl ?_
    refine z_dald (j := 113) (N := 1) (i := nI 0) dL_law_2385 (by omega) hq20 (vp_in_nI (by decide) (by decide)) ?_
    refine z_eq (st' := [.double (FP.f2d (FP.fdiv (FP.i2f (nI (zcnt (fun k => decide (gT S.1 k = 0)) 0 S.1.length))) (FP.i2f (nI S.1.length))))]) rfl (by rw [nI_clamp (by decide)]; simp [vf_upd]) rfl ?_
    refine z_fload dL_law_2386 rfl ?_
    refine z_eq (st' := [.float ((FP.fdiv (FP.i2f (nI (zcnt (fun k => decide (gT S.1 k = 0)) 0 S.1.length))) (FP.i2f (nI S.1.length)))), .double (FP.f2d (FP.fdiv (FP.i2f (nI (zcnt (fun k => decide (gT S.1 k = 0)) 0 S.1.length))) (FP.i2f (nI S.1.length))))]) rfl (by rw [hr16]) rfl ?_
    refine z_f2d dL_law_2388 (f2d_ok (fdiv_ok' hS0 (by omega))) ?_
    refine z_dcmp dL_law_2389 ?_
    refine z_eq (st' := [.int (nI 0)]) rfl (by rw [f2d_cmp (fdiv_ok' hS0 (by omega))]) rfl ?_
    refine z_if_eq_n (a := 0) (tgt := 2415) dL_law_2390 (by decide) (by decide) (fun _ => ?_) (fun hq9 => absurd rfl hq9)
    refine z_goto (tgt := 2848) dL_law_2415 (by decide) ?_
    refine z_sub (lv' := [(0, .ref ar), (1, .ref (za g 0)), (2, .ref (za g 101)), (3, .ref (za g 112)), (4, .ref (za g 113)), (5, .int (nI (i)))]) [0, 1, 2, 3, 4, 5] rfl ?_
    exact zTr_wd (by simp only [zR]; omega) (by simp only [zR]; omega) (kk _ _ _ _ _ _ _ _ ⟨hz, hx18, ⟨_, hm15⟩, ⟨_, hj19⟩, ⟨_, hq20⟩⟩)
  · (first | rw [if_neg hF, if_neg hF] at hx4 | rw [if_neg hF] at hx4 | skip)
    rw [if_neg hF] at hj5
    have hk0 : rwP [5] (if S.1.length = 0 then 5 else 0) ≠ 0 := by revert hF; (try simp only [spF, fPass, fRest, fIv, fMod, fRep, fPas, fMark, fWin, plc, rwP]); (repeat' split) <;> first | rfl | omega | (intro hF; omega) | contradiction | (intros; contradiction) | (simp; done) | (simp_all; done) | (intros; exfalso; simp_all; done)
    refine z_istore (lv' := [(0, .ref ar), (1, .ref (za g 0)), (2, .ref (za g 101)), (3, .ref (za g 112)), (4, .ref (za g 113)), (5, .int (nI (i))), (6, .int (nI (rwP [5] (if S.1.length = 0 then 5 else 0))))]) dL_law_2358 (by decide) rfl ?_
    refine z_aload_n dL_law_2360 rfl ?_
    have hc31 := c_X13_restShare (b := 101) h0 hm7
    obtain ⟨fs23, hfs24⟩ := hm7.cell
    refine z_callV (As := []) (rest := []) (b := 101) (ci := 12) (R2 := zR 4 0) dL_law_2361 kV_RL_305 rfl ⟨⟨by decide, by decide⟩, by show _ ≤ 603072; simp only [zR]; omega, by show _ ≤ 7207018; simp only [zR]; omega⟩ (by omega) hfs24 rfl rfl rfl (Nat.le_of_ble_eq_true rfl) rfl hc31 (fun E w1 hp => by obtain ⟨_, e, _⟩ := hp; cases e) (fun v w25 hp => ?_)
    obtain ⟨r26, he27, hf28, hm29, hr30⟩ := hp
    cases he27
    have hT1 : ((if S.1.length ≠ 0 then 0 else 1)) = rwP [5] (if S.1.length = 0 then 5 else 0) := by revert hF; (try simp only [spF, fPass, fRest, fIv, fMod, fRep, fPas, fMark, fWin, plc, rwP]); (repeat' split) <;> first | rfl | omega | (intro hF; omega) | contradiction | (intros; contradiction) | (simp; done) | (simp_all; done) | (intros; exfalso; simp_all; done)
    rw [hT1] at hm29
    (try rw [if_neg hk0] at hm29)
    have hx32 := hx4.fr hf28 (Or.inl (by omega))
    have hj33 := (hf28 112 (by omega)).trans hq8
    have hq34 := (hf28 113 (by omega)).trans hj5
    refine z_fstore (lv' := [(0, .ref ar), (1, .ref (za g 0)), (2, .ref (za g 101)), (3, .ref (za g 112)), (4, .ref (za g 113)), (5, .int (nI (i))), (6, .int (nI (rwP [5] (if S.1.length = 0 then 5 else 0)))), (7, .float (r26))]) dL_law_2364 (by decide) rfl ?_
    refine z_aload_n dL_law_2366 rfl ?_
    obtain ⟨fs35, hfs36⟩ := hm29.cell
    refine z_callE (As := []) (rest := []) (b := 101) (ci := 12) (v := some (.int (nI (rwP [5] (if S.1.length = 0 then 5 else 0))))) (R2 := zR 0 0) dL_law_2367 kV_RL_156 rfl ⟨⟨by decide, by decide⟩, by show _ ≤ 603072; simp only [zR]; omega, by show _ ≤ 7207018; simp only [zR]; omega⟩ (by omega) hfs36 rfl rfl rfl (Nat.le_of_ble_eq_true rfl) rfl (Mq.th h0 hm29) ?_
    refine z_iload dL_law_2370 rfl ?_
    refine z_icmp_eq_n (a := rwP [5] (if S.1.length = 0 then 5 else 0)) (b := rwP [5] (if S.1.length = 0 then 5 else 0)) (tgt := 2377) dL_law_2372 (by decide) (by simp only [rwP]; (repeat' split) <;> omega) (by simp only [rwP]; (repeat' split) <;> omega) (fun _ => ?_) (fun hq9 => absurd rfl hq9)
    refine z_iload dL_law_2377 rfl ?_
    refine z_if_ne_n (a := rwP [5] (if S.1.length = 0 then 5 else 0)) (tgt := 2415) dL_law_2379 (by decide) (by simp only [rwP]; (repeat' split) <;> omega) (fun _ => ?_) (fun hq9 => absurd hq9 hk0)
    refine z_goto (tgt := 2848) dL_law_2415 (by decide) ?_
    refine z_sub (lv' := [(0, .ref ar), (1, .ref (za g 0)), (2, .ref (za g 101)), (3, .ref (za g 112)), (4, .ref (za g 113)), (5, .int (nI (i)))]) [0, 1, 2, 3, 4, 5] rfl ?_
    exact zTr_wd (by simp only [zR]; omega) (by simp only [zR]; omega) (kk _ _ _ _ _ _ _ _ ⟨hz, hx32, ⟨_, hm29⟩, ⟨_, hj33⟩, ⟨_, hq34⟩⟩)
set_option maxRecDepth 100000 in
set_option maxHeartbeats 4000000 in
theorem lw_case_44 {g : zGT} {w : zW} {S : zSt} {Hs : List zSt} {Sn : Option zSt} {I O : List Nat} {ep fc : Int32} {ar N i ce sl : Nat} {xs : Nat → Int32} {Post : zP} (h0 : zG0 g) (h1 : zST g) (hN : zNC g) (hT : va_T .int ar N (fun j => .int (xs j)) (zA g) (zs g) (zs g).heap) (hL : LwI g w S Hs Sn I O ep fc) (hi : i + 3 < N) (hN9 : N ≤ 2048) (hce : ce + 2 ≤ 603072) (hsl : sl + 12 ≤ 7207018) (kk : ∀ (w' : zW) (S' : zSt) (Hs' : List zSt) (Sn' : Option zSt) (I' O' : List Nat) (ep' fc' : Int32), LwI g w' S' Hs' Sn' I' O' ep' fc' → zTr g mL_law room_1 (ce + 2) (sl + 12) 2848 [(0, .ref ar), (1, .ref (za g 0)), (2, .ref (za g 101)), (3, .ref (za g 112)), (4, .ref (za g 113)), (5, .int (nI (i)))] [] w' Post) : zTr g mL_law room_1 ce sl 2418 [(0, .ref ar), (1, .ref (za g 0)), (2, .ref (za g 101)), (3, .ref (za g 112)), (4, .ref (za g 113)), (5, .int (nI (i)))] [] w Post := by
  obtain ⟨hz, hR0, ⟨t0, hM0⟩, ⟨fJ, hJ0⟩, ⟨fQ, hQ0⟩⟩ := hL
  refine z_aload_n dL_law_2418 rfl ?_
  have hc9 := c_X12_isConsistent (b := 0) h0 h1 hR0
  refine z_callV (As := []) (rest := []) (b := 0) (ci := 11) (R2 := zR 5 0) dL_law_2419 kV_RL_306 rfl ⟨⟨by decide, by decide⟩, by show _ ≤ 603072; simp only [zR]; omega, by show _ ≤ 7207018; simp only [zR]; omega⟩ (by omega) hR0.ce rfl rfl rfl (Nat.le_of_ble_eq_true rfl) rfl hc9 (fun E w1 hp => by obtain ⟨e, _⟩ := hp; cases e) (fun v w3 hp => ?_)
  obtain ⟨he5, hf6, hr8⟩ := hp
  cases he5
  have hm10 := hM0.eq (w1 := w3) (fun k h8 h9 => hf6 k (by omega))
  have hj11 := (hf6 112 (by omega)).trans hJ0
  have hq12 := (hf6 113 (by omega)).trans hQ0
  refine z_aload_n dL_law_2422 rfl ?_
  have hc21 := c_X13_isConsistent (b := 101) h0 hm10
  obtain ⟨fs13, hfs14⟩ := hm10.cell
  refine z_callV (As := []) (rest := [.int ((nI 1))]) (b := 101) (ci := 12) (R2 := zR 4 0) dL_law_2423 kV_RL_310 rfl ⟨⟨by decide, by decide⟩, by show _ ≤ 603072; simp only [zR]; omega, by show _ ≤ 7207018; simp only [zR]; omega⟩ (by omega) hfs14 rfl rfl rfl (Nat.le_of_ble_eq_true rfl) rfl hc21 (fun E w1 hp => by obtain ⟨e, _⟩ := hp; cases e) (fun v w15 hp => ?_)
  obtain ⟨he17, hf18, hm19⟩ := hp
  cases he17
  have hx22 := hr8.fr hf18 (Or.inl (by omega))
  have hj23 := (hf18 112 (by omega)).trans hj11
  have hq24 := (hf18 113 (by omega)).trans hq12
  refine z_icmp_eq (tgt := 2848) dL_law_2426 (by decide) (fun _ => ?_) (fun h9 => absurd rfl h9)
  exact zTr_wd (by simp only [zR]; omega) (by simp only [zR]; omega) (kk _ _ _ _ _ _ _ _ ⟨hz, hx22, ⟨_, hm19⟩, ⟨_, hj23⟩, ⟨_, hq24⟩⟩)
set_option maxRecDepth 100000 in
set_option maxHeartbeats 4000000 in
theorem lw_case_45 {g : zGT} {w : zW} {S : zSt} {Hs : List zSt} {Sn : Option zSt} {I O : List Nat} {ep fc : Int32} {ar N i ce sl : Nat} {xs : Nat → Int32} {Post : zP} (h0 : zG0 g) (h1 : zST g) (hN : zNC g) (hT : va_T .int ar N (fun j => .int (xs j)) (zA g) (zs g) (zs g).heap) (hL : LwI g w S Hs Sn I O ep fc) (hi : i + 3 < N) (hN9 : N ≤ 2048) (hce : ce + 2 ≤ 603072) (hsl : sl + 12 ≤ 7207018) (kk : ∀ (w' : zW) (S' : zSt) (Hs' : List zSt) (Sn' : Option zSt) (I' O' : List Nat) (ep' fc' : Int32), LwI g w' S' Hs' Sn' I' O' ep' fc' → zTr g mL_law room_1 (ce + 2) (sl + 12) 2848 [(0, .ref ar), (1, .ref (za g 0)), (2, .ref (za g 101)), (3, .ref (za g 112)), (4, .ref (za g 113)), (5, .int (nI (i)))] [] w' Post) : zTr g mL_law room_1 ce sl 2431 [(0, .ref ar), (1, .ref (za g 0)), (2, .ref (za g 101)), (3, .ref (za g 112)), (4, .ref (za g 113)), (5, .int (nI (i)))] [] w Post := by
  obtain ⟨hz, hR0, ⟨t0, hM0⟩, ⟨fJ, hJ0⟩, ⟨fQ, hQ0⟩⟩ := hL
  refine z_aload_n dL_law_2431 rfl ?_
  have hc9 := c_X12_renderNotation (b := 0) h0 h1 hR0
  refine z_callV (As := []) (rest := []) (b := 0) (ci := 11) (R2 := zR 3 0) dL_law_2432 kV_RL_311 rfl ⟨⟨by decide, by decide⟩, by show _ ≤ 603072; simp only [zR]; omega, by show _ ≤ 7207018; simp only [zR]; omega⟩ (by omega) hR0.ce rfl rfl rfl (Nat.le_of_ble_eq_true rfl) rfl hc9 (fun E w1 hp => by obtain ⟨e, _⟩ := hp; cases e) (fun v w3 hp => ?_)
  obtain ⟨he5, hf6, hr8⟩ := hp
  cases he5
  have hm10 := hM0.eq (w1 := w3) (fun k h8 h9 => hf6 k (by omega))
  have hj11 := (hf6 112 (by omega)).trans hJ0
  have hq12 := (hf6 113 (by omega)).trans hQ0
  refine z_aload_n dL_law_2435 rfl ?_
  have hc21 := c_X13_renderNotation (b := 101) h0 hm10
  obtain ⟨fs13, hfs14⟩ := hm10.cell
  refine z_callV (As := []) (rest := [.int ((nI (noteT (gT S.1) S.1.length S.1.length).length))]) (b := 101) (ci := 12) (R2 := zR 4 0) dL_law_2436 kV_RL_314 rfl ⟨⟨by decide, by decide⟩, by show _ ≤ 603072; simp only [zR]; omega, by show _ ≤ 7207018; simp only [zR]; omega⟩ (by omega) hfs14 rfl rfl rfl (Nat.le_of_ble_eq_true rfl) rfl hc21 (fun E w1 hp => by obtain ⟨e, _⟩ := hp; cases e) (fun v w15 hp => ?_)
  obtain ⟨he17, hf18, hm19⟩ := hp
  cases he17
  have hx22 := hr8.fr hf18 (Or.inl (by omega))
  have hj23 := (hf18 112 (by omega)).trans hj11
  have hq24 := (hf18 113 (by omega)).trans hq12
  refine z_icmp_eq (tgt := 2848) dL_law_2439 (by decide) (fun _ => ?_) (fun h9 => absurd rfl h9)
  exact zTr_wd (by simp only [zR]; omega) (by simp only [zR]; omega) (kk _ _ _ _ _ _ _ _ ⟨hz, hx22, ⟨_, hm19⟩, ⟨_, hj23⟩, ⟨_, hq24⟩⟩)
set_option maxRecDepth 100000 in
set_option maxHeartbeats 4000000 in
theorem lw_case_46 {g : zGT} {w : zW} {S : zSt} {Hs : List zSt} {Sn : Option zSt} {I O : List Nat} {ep fc : Int32} {ar N i ce sl : Nat} {xs : Nat → Int32} {Post : zP} (h0 : zG0 g) (h1 : zST g) (hN : zNC g) (hT : va_T .int ar N (fun j => .int (xs j)) (zA g) (zs g) (zs g).heap) (hL : LwI g w S Hs Sn I O ep fc) (hi : i + 3 < N) (hN9 : N ≤ 2048) (hce : ce + 2 ≤ 603072) (hsl : sl + 12 ≤ 7207018) (kk : ∀ (w' : zW) (S' : zSt) (Hs' : List zSt) (Sn' : Option zSt) (I' O' : List Nat) (ep' fc' : Int32), LwI g w' S' Hs' Sn' I' O' ep' fc' → zTr g mL_law room_1 (ce + 2) (sl + 12) 2848 [(0, .ref ar), (1, .ref (za g 0)), (2, .ref (za g 101)), (3, .ref (za g 112)), (4, .ref (za g 113)), (5, .int (nI (i)))] [] w' Post) : zTr g mL_law room_1 ce sl 2444 [(0, .ref ar), (1, .ref (za g 0)), (2, .ref (za g 101)), (3, .ref (za g 112)), (4, .ref (za g 113)), (5, .int (nI (i)))] [] w Post := by
  obtain ⟨hz, hR0, ⟨t0, hM0⟩, ⟨fJ, hJ0⟩, ⟨fQ, hQ0⟩⟩ := hL
  refine z_aload_n dL_law_2444 rfl ?_
  have hc9 := c_X12_renderBars (b := 0) h0 h1 hR0
  refine z_callV (As := []) (rest := []) (b := 0) (ci := 11) (R2 := zR 3 0) dL_law_2445 kV_RL_315 rfl ⟨⟨by decide, by decide⟩, by show _ ≤ 603072; simp only [zR]; omega, by show _ ≤ 7207018; simp only [zR]; omega⟩ (by omega) hR0.ce rfl rfl rfl (Nat.le_of_ble_eq_true rfl) rfl hc9 (fun E w1 hp => by obtain ⟨e, _⟩ := hp; cases e) (fun v w3 hp => ?_)
  obtain ⟨he5, hf6, hr8⟩ := hp
  cases he5
  have hm10 := hM0.eq (w1 := w3) (fun k h8 h9 => hf6 k (by omega))
  have hj11 := (hf6 112 (by omega)).trans hJ0
  have hq12 := (hf6 113 (by omega)).trans hQ0
  refine z_aload_n dL_law_2448 rfl ?_
  have hc21 := c_X13_renderBars (b := 101) h0 hm10
  obtain ⟨fs13, hfs14⟩ := hm10.cell
  refine z_callV (As := []) (rest := [.int ((nI (barsT (gT S.1) S.2.1 S.1.length (S.1.length + 1)).length))]) (b := 101) (ci := 12) (R2 := zR 4 0) dL_law_2449 kV_RL_318 rfl ⟨⟨by decide, by decide⟩, by show _ ≤ 603072; simp only [zR]; omega, by show _ ≤ 7207018; simp only [zR]; omega⟩ (by omega) hfs14 rfl rfl rfl (Nat.le_of_ble_eq_true rfl) rfl hc21 (fun E w1 hp => by obtain ⟨e, _⟩ := hp; cases e) (fun v w15 hp => ?_)
  obtain ⟨he17, hf18, hm19⟩ := hp
  cases he17
  have hx22 := hr8.fr hf18 (Or.inl (by omega))
  have hj23 := (hf18 112 (by omega)).trans hj11
  have hq24 := (hf18 113 (by omega)).trans hq12
  refine z_icmp_eq (tgt := 2848) dL_law_2452 (by decide) (fun _ => ?_) (fun h9 => absurd rfl h9)
  exact zTr_wd (by simp only [zR]; omega) (by simp only [zR]; omega) (kk _ _ _ _ _ _ _ _ ⟨hz, hx22, ⟨_, hm19⟩, ⟨_, hj23⟩, ⟨_, hq24⟩⟩)
set_option maxRecDepth 100000 in
set_option maxHeartbeats 4000000 in
theorem lw_case_47 {g : zGT} {w : zW} {S : zSt} {Hs : List zSt} {Sn : Option zSt} {I O : List Nat} {ep fc : Int32} {ar N i ce sl : Nat} {xs : Nat → Int32} {Post : zP} (h0 : zG0 g) (h1 : zST g) (hN : zNC g) (hT : va_T .int ar N (fun j => .int (xs j)) (zA g) (zs g) (zs g).heap) (hL : LwI g w S Hs Sn I O ep fc) (hi : i + 3 < N) (hN9 : N ≤ 2048) (hce : ce + 2 ≤ 603072) (hsl : sl + 12 ≤ 7207018) (kk : ∀ (w' : zW) (S' : zSt) (Hs' : List zSt) (Sn' : Option zSt) (I' O' : List Nat) (ep' fc' : Int32), LwI g w' S' Hs' Sn' I' O' ep' fc' → zTr g mL_law room_1 (ce + 2) (sl + 12) 2848 [(0, .ref ar), (1, .ref (za g 0)), (2, .ref (za g 101)), (3, .ref (za g 112)), (4, .ref (za g 113)), (5, .int (nI (i)))] [] w' Post) : zTr g mL_law room_1 ce sl 2457 [(0, .ref ar), (1, .ref (za g 0)), (2, .ref (za g 101)), (3, .ref (za g 112)), (4, .ref (za g 113)), (5, .int (nI (i)))] [] w Post := by
  obtain ⟨hz, hR0, ⟨t0, hM0⟩, ⟨fJ, hJ0⟩, ⟨fQ, hQ0⟩⟩ := hL
  refine z_aload_n dL_law_2457 rfl ?_
  refine z_aload_n dL_law_2458 rfl ?_
  refine z_iload dL_law_2459 rfl ?_
  refine z_iconst (v := nI 1) dL_law_2461 rfl ?_
  refine z_iadd_n (a := i) (b := 1) dL_law_2462 ?_
  refine z_tabI (a := i + 1) (v := .int (xs (i + 1))) dL_law_2463 hT (by omega) (by omega) rfl ?_
  refine z_aload_n dL_law_2464 rfl ?_
  have hc6 := c_L_outputAt (b := 0) (c9 := 112) h0 h1 hN hR0 (by omega) (by omega) hJ0 (x := (xs (i + 1)))
  refine z_callSH (As := [.ref (za g 0), .int (xs (i + 1)), .ref (za g 112)]) (rest := []) (R2 := zR 9 2) dL_law_2465 kSH_319 rfl ⟨⟨by decide, by decide⟩, by show _ ≤ 603072; simp only [zR]; omega, by show _ ≤ 7207018; simp only [zR]; omega⟩ rfl (Nat.le_of_ble_eq_true rfl) rfl hc6 (fun E w1 hp => by obtain ⟨e, _⟩ := hp; cases e) (fun v w1 hp => ?_)
  obtain ⟨he2, hf3, hx4, hj5⟩ := hp
  cases he2
  have hm7 := hM0.eq (w1 := w1) (fun k h8 h9 => hf3 k (by omega) (by omega))
  have hq8 := (hf3 113 (by omega) (by omega)).trans hQ0
  by_cases hF : (if 0 ≤ (xs (i + 1)).toInt ∧ (xs (i + 1)).toInt < O.length then 0 else 1) = 0
  · refine z_eq (st' := [.int (nI 0)]) rfl (by rw [hF]; rfl) rfl ?_
    (try rw [hF] at hx4)
    rw [hF] at hj5
    (try simp only [↓reduceIte] at hx4)
    simp only [↓reduceIte] at hj5
    refine z_istore (lv' := [(0, .ref ar), (1, .ref (za g 0)), (2, .ref (za g 101)), (3, .ref (za g 112)), (4, .ref (za g 113)), (5, .int (nI (i))), (6, .int (nI (0)))]) dL_law_2468 (by decide) rfl ?_
    refine z_aload_n dL_law_2470 rfl ?_
    refine z_aload_n dL_law_2471 rfl ?_
    refine z_iload dL_law_2472 rfl ?_
    refine z_iconst (v := nI 1) dL_law_2474 rfl ?_
    refine z_iadd_n (a := i) (b := 1) dL_law_2475 ?_
    refine z_tabI (a := i + 1) (v := .int (xs (i + 1))) dL_law_2476 hT (by omega) (by omega) rfl ?_
    have hc17 := c_X13_outputAt (b := 101) h0 hm7 (x := (xs (i + 1)))
    obtain ⟨fs9, hfs10⟩ := hm7.cell
    refine z_callV (As := [.int (xs (i + 1))]) (rest := []) (b := 101) (ci := 12) (R2 := zR 4 0) dL_law_2477 kV_RL_321 rfl ⟨⟨by decide, by decide⟩, by show _ ≤ 603072; simp only [zR]; omega, by show _ ≤ 7207018; simp only [zR]; omega⟩ (by omega) hfs10 rfl rfl rfl (Nat.le_of_ble_eq_true rfl) rfl hc17 (fun E w1 hp => by obtain ⟨_, e, _⟩ := hp; cases e) (fun v w11 hp => ?_)
    obtain ⟨r12, he13, hf14, hm15, hr16⟩ := hp
    cases he13
    have hT0 : ((if 0 ≤ (xs (i + 1)).toInt ∧ (xs (i + 1)).toInt < (O.length : Nat) then 0 else 1)) = 0 := by revert hF; (try simp only [spF, fPass, fRest, fIv, fMod, fRep, fPas, fMark, fWin, plc, rwP]); (repeat' split) <;> first | rfl | omega | (intro hF; omega) | contradiction | (intros; contradiction) | (simp; done) | (simp_all; done) | (intros; exfalso; simp_all; done)
    replace hr16 := hr16 (by first | exact hF | exact hT0 | (refine Decidable.byContradiction fun z => ?_; rw [if_neg z] at hT0; exact absurd hT0 (by decide)))
    rw [hT0] at hm15
    (try simp only [↓reduceIte] at hm15)
    have hx18 := hx4.fr hf14 (Or.inl (by omega))
    have hj19 := (hf14 112 (by omega)).trans hj5
    have hq20 := (hf14 113 (by omega)).trans hq8
    refine z_istore (lv' := [(0, .ref ar), (1, .ref (za g 0)), (2, .ref (za g 101)), (3, .ref (za g 112)), (4, .ref (za g 113)), (5, .int (nI (i))), (6, .int (nI (0))), (7, .int (r12))]) dL_law_2480 (by decide) rfl ?_
    refine z_aload_n dL_law_2482 rfl ?_
    obtain ⟨fs21, hfs22⟩ := hm15.cell
    refine z_callE (As := []) (rest := []) (b := 101) (ci := 12) (v := some (.int (nI (0)))) (R2 := zR 0 0) dL_law_2483 kV_RL_156 rfl ⟨⟨by decide, by decide⟩, by show _ ≤ 603072; simp only [zR]; omega, by show _ ≤ 7207018; simp only [zR]; omega⟩ (by omega) hfs22 rfl rfl rfl (Nat.le_of_ble_eq_true rfl) rfl (Mq.th h0 hm15) ?_
    refine z_iload dL_law_2486 rfl ?_
    refine z_icmp_eq_n (a := 0) (b := 0) (tgt := 2493) dL_law_2488 (by decide) (by omega) (by omega) (fun _ => ?_) (fun hq9 => absurd rfl hq9)
    refine z_iload dL_law_2493 rfl ?_
    refine z_if_ne_n (a := 0) (tgt := 2510) dL_law_2495 (by decide) (by decide) (fun hq9 => absurd rfl hq9) (fun _ => ?_)
    refine z_aload_n dL_law_2498 rfl ?_
    refine z_iconst (v := nI 0) dL_law_2499 rfl ?_
    refine z_lald (j := 112) (N := 1) (i := nI 0) dL_law_2500 (by omega) hj19 (vp_in_nI (by decide) (by decide)) ?_
    refine z_eq (st' := [.long ((nI (O.getD (xs (i + 1)).toInt.toNat 0)).toInt64)]) rfl (by rw [nI_clamp (by decide)]; simp [vp_updL]) rfl ?_
    refine z_iload dL_law_2501 rfl ?_
    refine z_i2l dL_law_2503 ?_
    refine z_lcmp dL_law_2504 ?_
    refine z_eq (st' := [.int (nI 0)]) rfl (by rw [hr16, lg_self]) rfl ?_
    refine z_if_eq_n (a := 0) (tgt := 2510) dL_law_2505 (by decide) (by decide) (fun _ => ?_) (fun hq9 => absurd rfl hq9)
    refine z_goto (tgt := 2848) dL_law_2510 (by decide) ?_
    refine z_sub (lv' := [(0, .ref ar), (1, .ref (za g 0)), (2, .ref (za g 101)), (3, .ref (za g 112)), (4, .ref (za g 113)), (5, .int (nI (i)))]) [0, 1, 2, 3, 4, 5] rfl ?_
    exact zTr_wd (by simp only [zR]; omega) (by simp only [zR]; omega) (kk _ _ _ _ _ _ _ _ ⟨hz, hx18, ⟨_, hm15⟩, ⟨_, hj19⟩, ⟨_, hq20⟩⟩)
  · (first | rw [if_neg hF, if_neg hF] at hx4 | rw [if_neg hF] at hx4 | skip)
    rw [if_neg hF] at hj5
    have hk0 : rwP [1] (if 0 ≤ (xs (i + 1)).toInt ∧ (xs (i + 1)).toInt < O.length then 0 else 1) ≠ 0 := by revert hF; (try simp only [spF, fPass, fRest, fIv, fMod, fRep, fPas, fMark, fWin, plc, rwP]); (repeat' split) <;> first | rfl | omega | (intro hF; omega) | contradiction | (intros; contradiction) | (simp; done) | (simp_all; done) | (intros; exfalso; simp_all; done)
    refine z_istore (lv' := [(0, .ref ar), (1, .ref (za g 0)), (2, .ref (za g 101)), (3, .ref (za g 112)), (4, .ref (za g 113)), (5, .int (nI (i))), (6, .int (nI (rwP [1] (if 0 ≤ (xs (i + 1)).toInt ∧ (xs (i + 1)).toInt < O.length then 0 else 1))))]) dL_law_2468 (by decide) rfl ?_
    refine z_aload_n dL_law_2470 rfl ?_
    refine z_aload_n dL_law_2471 rfl ?_
    refine z_iload dL_law_2472 rfl ?_
    refine z_iconst (v := nI 1) dL_law_2474 rfl ?_
    refine z_iadd_n (a := i) (b := 1) dL_law_2475 ?_
    refine z_tabI (a := i + 1) (v := .int (xs (i + 1))) dL_law_2476 hT (by omega) (by omega) rfl ?_
    have hc31 := c_X13_outputAt (b := 101) h0 hm7 (x := (xs (i + 1)))
    obtain ⟨fs23, hfs24⟩ := hm7.cell
    refine z_callV (As := [.int (xs (i + 1))]) (rest := []) (b := 101) (ci := 12) (R2 := zR 4 0) dL_law_2477 kV_RL_321 rfl ⟨⟨by decide, by decide⟩, by show _ ≤ 603072; simp only [zR]; omega, by show _ ≤ 7207018; simp only [zR]; omega⟩ (by omega) hfs24 rfl rfl rfl (Nat.le_of_ble_eq_true rfl) rfl hc31 (fun E w1 hp => by obtain ⟨_, e, _⟩ := hp; cases e) (fun v w25 hp => ?_)
    obtain ⟨r26, he27, hf28, hm29, hr30⟩ := hp
    cases he27
    have hT1 : ((if 0 ≤ (xs (i + 1)).toInt ∧ (xs (i + 1)).toInt < (O.length : Nat) then 0 else 1)) = rwP [1] (if 0 ≤ (xs (i + 1)).toInt ∧ (xs (i + 1)).toInt < O.length then 0 else 1) := by revert hF; (try simp only [spF, fPass, fRest, fIv, fMod, fRep, fPas, fMark, fWin, plc, rwP]); (repeat' split) <;> first | rfl | omega | (intro hF; omega) | contradiction | (intros; contradiction) | (simp; done) | (simp_all; done) | (intros; exfalso; simp_all; done)
    rw [hT1] at hm29
    (try rw [if_neg hk0] at hm29)
    have hx32 := hx4.fr hf28 (Or.inl (by omega))
    have hj33 := (hf28 112 (by omega)).trans hj5
    have hq34 := (hf28 113 (by omega)).trans hq8
    refine z_istore (lv' := [(0, .ref ar), (1, .ref (za g 0)), (2, .ref (za g 101)), (3, .ref (za g 112)), (4, .ref (za g 113)), (5, .int (nI (i))), (6, .int (nI (rwP [1] (if 0 ≤ (xs (i + 1)).toInt ∧ (xs (i + 1)).toInt < O.length then 0 else 1)))), (7, .int (r26))]) dL_law_2480 (by decide) rfl ?_
    refine z_aload_n dL_law_2482 rfl ?_
    obtain ⟨fs35, hfs36⟩ := hm29.cell
    refine z_callE (As := []) (rest := []) (b := 101) (ci := 12) (v := some (.int (nI (rwP [1] (if 0 ≤ (xs (i + 1)).toInt ∧ (xs (i + 1)).toInt < O.length then 0 else 1))))) (R2 := zR 0 0) dL_law_2483 kV_RL_156 rfl ⟨⟨by decide, by decide⟩, by show _ ≤ 603072; simp only [zR]; omega, by show _ ≤ 7207018; simp only [zR]; omega⟩ (by omega) hfs36 rfl rfl rfl (Nat.le_of_ble_eq_true rfl) rfl (Mq.th h0 hm29) ?_
    refine z_iload dL_law_2486 rfl ?_
    refine z_icmp_eq_n (a := rwP [1] (if 0 ≤ (xs (i + 1)).toInt ∧ (xs (i + 1)).toInt < O.length then 0 else 1)) (b := rwP [1] (if 0 ≤ (xs (i + 1)).toInt ∧ (xs (i + 1)).toInt < O.length then 0 else 1)) (tgt := 2493) dL_law_2488 (by decide) (by simp only [rwP]; (repeat' split) <;> omega) (by simp only [rwP]; (repeat' split) <;> omega) (fun _ => ?_) (fun hq9 => absurd rfl hq9)
    refine z_iload dL_law_2493 rfl ?_
    refine z_if_ne_n (a := rwP [1] (if 0 ≤ (xs (i + 1)).toInt ∧ (xs (i + 1)).toInt < O.length then 0 else 1)) (tgt := 2510) dL_law_2495 (by decide) (by simp only [rwP]; (repeat' split) <;> omega) (fun _ => ?_) (fun hq9 => absurd hq9 hk0)
    refine z_goto (tgt := 2848) dL_law_2510 (by decide) ?_
    refine z_sub (lv' := [(0, .ref ar), (1, .ref (za g 0)), (2, .ref (za g 101)), (3, .ref (za g 112)), (4, .ref (za g 113)), (5, .int (nI (i)))]) [0, 1, 2, 3, 4, 5] rfl ?_
    exact zTr_wd (by simp only [zR]; omega) (by simp only [zR]; omega) (kk _ _ _ _ _ _ _ _ ⟨hz, hx32, ⟨_, hm29⟩, ⟨_, hj33⟩, ⟨_, hq34⟩⟩)
