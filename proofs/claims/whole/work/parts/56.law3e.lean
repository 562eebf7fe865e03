set_option maxRecDepth 100000 in
set_option maxHeartbeats 4000000 in
theorem lw_case_32 {g : zGT} {w : zW} {S : zSt} {Hs : List zSt} {Sn : Option zSt} {I O : List Nat} {ep fc : Int32} {ar N i ce sl : Nat} {xs : Nat → Int32} {Post : zP} (h0 : zG0 g) (h1 : zST g) (hN : zNC g) (hT : va_T .int ar N (fun j => .int (xs j)) (zA g) (zs g) (zs g).heap) (hL : LwI g w S Hs Sn I O ep fc) (hi : i + 3 < N) (hN9 : N ≤ 2048) (hce : ce + 2 ≤ 603072) (hsl : sl + 12 ≤ 7207018) (kk : ∀ (w' : zW) (S' : zSt) (Hs' : List zSt) (Sn' : Option zSt) (I' O' : List Nat) (ep' fc' : Int32), LwI g w' S' Hs' Sn' I' O' ep' fc' → zTr g mL_law room_1 (ce + 2) (sl + 12) 2848 [(0, .ref ar), (1, .ref (za g 0)), (2, .ref (za g 101)), (3, .ref (za g 112)), (4, .ref (za g 113)), (5, .int (nI (i)))] [] w' Post) : zTr g mL_law room_1 ce sl 1904 [(0, .ref ar), (1, .ref (za g 0)), (2, .ref (za g 101)), (3, .ref (za g 112)), (4, .ref (za g 113)), (5, .int (nI (i)))] [] w Post := by
  obtain ⟨hz, hR0, ⟨t0, hM0⟩, ⟨fJ, hJ0⟩, ⟨fQ, hQ0⟩⟩ := hL
  refine z_aload_n dL_law_1904 rfl ?_
  refine z_aload_n dL_law_1905 rfl ?_
  have hc6 := c_L_period (b := 0) (c9 := 112) h0 h1 hN hR0 (by omega) (by omega) hJ0
  refine z_callSH (As := [.ref (za g 0), .ref (za g 112)]) (rest := []) (R2 := zR 9 2) dL_law_1906 kSH_264 rfl ⟨⟨by decide, by decide⟩, by show _ ≤ 603072; simp only [zR]; omega, by show _ ≤ 7207018; simp only [zR]; omega⟩ rfl (Nat.le_of_ble_eq_true rfl) rfl hc6 (fun E w1 hp => by obtain ⟨e, _⟩ := hp; cases e) (fun v w1 hp => ?_)
  obtain ⟨he2, hf3, hx4, hj5⟩ := hp
  cases he2
  have hm7 := hM0.eq (w1 := w1) (fun k h8 h9 => hf3 k (by omega) (by omega))
  have hq8 := (hf3 113 (by omega) (by omega)).trans hQ0
  by_cases hF : (if S.1.length = 0 then 4 else 0) = 0
  · refine z_eq (st' := [.int (nI 0)]) rfl (by rw [hF]; rfl) rfl ?_
    (try rw [hF] at hx4)
    rw [hF] at hj5
    (try simp only [↓reduceIte] at hx4)
    simp only [↓reduceIte] at hj5
    refine z_istore (lv' := [(0, .ref ar), (1, .ref (za g 0)), (2, .ref (za g 101)), (3, .ref (za g 112)), (4, .ref (za g 113)), (5, .int (nI (i))), (6, .int (nI (0)))]) dL_law_1909 (by decide) rfl ?_
    refine z_aload_n dL_law_1911 rfl ?_
    have hc17 := c_X13_period (b := 101) h0 hm7
    obtain ⟨fs9, hfs10⟩ := hm7.cell
    refine z_callV (As := []) (rest := []) (b := 101) (ci := 12) (R2 := zR 4 0) dL_law_1912 kV_RL_267 rfl ⟨⟨by decide, by decide⟩, by show _ ≤ 603072; simp only [zR]; omega, by show _ ≤ 7207018; simp only [zR]; omega⟩ (by omega) hfs10 rfl rfl rfl (Nat.le_of_ble_eq_true rfl) rfl hc17 (fun E w1 hp => by obtain ⟨_, e, _⟩ := hp; cases e) (fun v w11 hp => ?_)
    obtain ⟨r12, he13, hf14, hm15, hr16⟩ := hp
    cases he13
    have hT0 : ((if S.1.length ≠ 0 then 0 else 1)) = 0 := by revert hF; (try simp only [spF, fPass, fRest, fIv, fMod, fRep, fPas, fMark, fWin, plc, rwP]); (repeat' split) <;> first | rfl | omega | (intro hF; omega) | contradiction | (intros; contradiction) | (simp; done) | (simp_all; done) | (intros; exfalso; simp_all; done)
    replace hr16 := hr16 (by first | exact hF | exact hT0 | (refine Decidable.byContradiction fun z => ?_; rw [if_neg z] at hT0; exact absurd hT0 (by decide)))
    rw [hT0] at hm15
    (try simp only [↓reduceIte] at hm15)
    have hx18 := hx4.fr hf14 (Or.inl (by omega))
    have hj19 := (hf14 112 (by omega)).trans hj5
    have hq20 := (hf14 113 (by omega)).trans hq8
    refine z_istore (lv' := [(0, .ref ar), (1, .ref (za g 0)), (2, .ref (za g 101)), (3, .ref (za g 112)), (4, .ref (za g 113)), (5, .int (nI (i))), (6, .int (nI (0))), (7, .int (r12))]) dL_law_1915 (by decide) rfl ?_
    refine z_aload_n dL_law_1917 rfl ?_
    obtain ⟨fs21, hfs22⟩ := hm15.cell
    refine z_callE (As := []) (rest := []) (b := 101) (ci := 12) (v := some (.int (nI (0)))) (R2 := zR 0 0) dL_law_1918 kV_RL_156 rfl ⟨⟨by decide, by decide⟩, by show _ ≤ 603072; simp only [zR]; omega, by show _ ≤ 7207018; simp only [zR]; omega⟩ (by omega) hfs22 rfl rfl rfl (Nat.le_of_ble_eq_true rfl) rfl (Mq.th h0 hm15) ?_
    refine z_iload dL_law_1921 rfl ?_
    refine z_icmp_eq_n (a := 0) (b := 0) (tgt := 1928) dL_law_1923 (by decide) (by omega) (by omega) (fun _ => ?_) (fun hq9 => absurd rfl hq9)
    refine z_iload dL_law_1928 rfl ?_
    refine z_if_ne_n (a := 0) (tgt := 1945) dL_law_1930 (by decide) (by decide) (fun hq9 => absurd rfl hq9) (fun _ => ?_)
    refine z_aload_n dL_law_1933 rfl ?_
    refine z_iconst (v := nI 0) dL_law_1934 rfl ?_
    refine z_lald (j := 112) (N := 1) (i := nI 0) dL_law_1935 (by omega) hj19 (vp_in_nI (by decide) (by decide)) ?_
    refine z_eq (st' := [.long ((nI (perF (gT S.1) S.1.length)).toInt64)]) rfl (by rw [nI_clamp (by decide)]; simp [vp_updL]) rfl ?_
    refine z_iload dL_law_1936 rfl ?_
    refine z_i2l dL_law_1938 ?_
    refine z_lcmp dL_law_1939 ?_
    refine z_eq (st' := [.int (nI 0)]) rfl (by rw [hr16, lg_self]) rfl ?_
    refine z_if_eq_n (a := 0) (tgt := 1945) dL_law_1940 (by decide) (by decide) (fun _ => ?_) (fun hq9 => absurd rfl hq9)
    refine z_goto (tgt := 2848) dL_law_1945 (by decide) ?_
    refine z_sub (lv' := [(0, .ref ar), (1, .ref (za g 0)), (2, .ref (za g 101)), (3, .ref (za g 112)), (4, .ref (za g 113)), (5, .int (nI (i)))]) [0, 1, 2, 3, 4, 5] rfl ?_
    exact zTr_wd (by simp only [zR]; omega) (by simp only [zR]; omega) (kk _ _ _ _ _ _ _ _ ⟨hz, hx18, ⟨_, hm15⟩, ⟨_, hj19⟩, ⟨_, hq20⟩⟩)
  · (first | rw [if_neg hF, if_neg hF] at hx4 | rw [if_neg hF] at hx4 | skip)
    rw [if_neg hF] at hj5
    have hk0 : rwP [4] (if S.1.length = 0 then 4 else 0) ≠ 0 := by revert hF; (try simp only [spF, fPass, fRest, fIv, fMod, fRep, fPas, fMark, fWin, plc, rwP]); (repeat' split) <;> first | rfl | omega | (intro hF; omega) | contradiction | (intros; contradiction) | (simp; done) | (simp_all; done) | (intros; exfalso; simp_all; done)
    refine z_istore (lv' := [(0, .ref ar), (1, .ref (za g 0)), (2, .ref (za g 101)), (3, .ref (za g 112)), (4, .ref (za g 113)), (5, .int (nI (i))), (6, .int (nI (rwP [4] (if S.1.length = 0 then 4 else 0))))]) dL_law_1909 (by decide) rfl ?_
    refine z_aload_n dL_law_1911 rfl ?_
    have hc31 := c_X13_period (b := 101) h0 hm7
    obtain ⟨fs23, hfs24⟩ := hm7.cell
    refine z_callV (As := []) (rest := []) (b := 101) (ci := 12) (R2 := zR 4 0) dL_law_1912 kV_RL_267 rfl ⟨⟨by decide, by decide⟩, by show _ ≤ 603072; simp only [zR]; omega, by show _ ≤ 7207018; simp only [zR]; omega⟩ (by omega) hfs24 rfl rfl rfl (Nat.le_of_ble_eq_true rfl) rfl hc31 (fun E w1 hp => by obtain ⟨_, e, _⟩ := hp; cases e) (fun v w25 hp => ?_)
    obtain ⟨r26, he27, hf28, hm29, hr30⟩ := hp
    cases he27
    have hT1 : ((if S.1.length ≠ 0 then 0 else 1)) = rwP [4] (if S.1.length = 0 then 4 else 0) := by revert hF; (try simp only [spF, fPass, fRest, fIv, fMod, fRep, fPas, fMark, fWin, plc, rwP]); (repeat' split) <;> first | rfl | omega | (intro hF; omega) | contradiction | (intros; contradiction) | (simp; done) | (simp_all; done) | (intros; exfalso; simp_all; done)
    rw [hT1] at hm29
    (try rw [if_neg hk0] at hm29)
    have hx32 := hx4.fr hf28 (Or.inl (by omega))
    have hj33 := (hf28 112 (by omega)).trans hj5
    have hq34 := (hf28 113 (by omega)).trans hq8
    refine z_istore (lv' := [(0, .ref ar), (1, .ref (za g 0)), (2, .ref (za g 101)), (3, .ref (za g 112)), (4, .ref (za g 113)), (5, .int (nI (i))), (6, .int (nI (rwP [4] (if S.1.length = 0 then 4 else 0)))), (7, .int (r26))]) dL_law_1915 (by decide) rfl ?_
    refine z_aload_n dL_law_1917 rfl ?_
    obtain ⟨fs35, hfs36⟩ := hm29.cell
    refine z_callE (As := []) (rest := []) (b := 101) (ci := 12) (v := some (.int (nI (rwP [4] (if S.1.length = 0 then 4 else 0))))) (R2 := zR 0 0) dL_law_1918 kV_RL_156 rfl ⟨⟨by decide, by decide⟩, by show _ ≤ 603072; simp only [zR]; omega, by show _ ≤ 7207018; simp only [zR]; omega⟩ (by omega) hfs36 rfl rfl rfl (Nat.le_of_ble_eq_true rfl) rfl (Mq.th h0 hm29) ?_
    refine z_iload dL_law_1921 rfl ?_
    refine z_icmp_eq_n (a := rwP [4] (if S.1.length = 0 then 4 else 0)) (b := rwP [4] (if S.1.length = 0 then 4 else 0)) (tgt := 1928) dL_law_1923 (by decide) (by simp only [rwP]; (repeat' split) <;> omega) (by simp only [rwP]; (repeat' split) <;> omega) (fun _ => ?_) (fun hq9 => absurd rfl hq9)
    refine z_iload dL_law_1928 rfl ?_
    refine z_if_ne_n (a := rwP [4] (if S.1.length = 0 then 4 else 0)) (tgt := 1945) dL_law_1930 (by decide) (by simp only [rwP]; (repeat' split) <;> omega) (fun _ => ?_) (fun hq9 => absurd hq9 hk0)
    refine z_goto (tgt := 2848) dL_law_1945 (by decide) ?_
    refine z_sub (lv' := [(0, .ref ar), (1, .ref (za g 0)), (2, .ref (za g 101)), (3, .ref (za g 112)), (4, .ref (za g 113)), (5, .int (nI (i)))]) [0, 1, 2, 3, 4, 5] rfl ?_
    exact zTr_wd (by simp only [zR]; omega) (by simp only [zR]; omega) (kk _ _ _ _ _ _ _ _ ⟨hz, hx32, ⟨_, hm29⟩, ⟨_, hj33⟩, ⟨_, hq34⟩⟩)
set_option maxRecDepth 100000 in
set_option maxHeartbeats 4000000 in
theorem lw_case_33 {g : zGT} {w : zW} {S : zSt} {Hs : List zSt} {Sn : Option zSt} {I O : List Nat} {ep fc : Int32} {ar N i ce sl : Nat} {xs : Nat → Int32} {Post : zP} (h0 : zG0 g) (h1 : zST g) (hN : zNC g) (hT : va_T .int ar N (fun j => .int (xs j)) (zA g) (zs g) (zs g).heap) (hL : LwI g w S Hs Sn I O ep fc) (hi : i + 3 < N) (hN9 : N ≤ 2048) (hce : ce + 2 ≤ 603072) (hsl : sl + 12 ≤ 7207018) (kk : ∀ (w' : zW) (S' : zSt) (Hs' : List zSt) (Sn' : Option zSt) (I' O' : List Nat) (ep' fc' : Int32), LwI g w' S' Hs' Sn' I' O' ep' fc' → zTr g mL_law room_1 (ce + 2) (sl + 12) 2848 [(0, .ref ar), (1, .ref (za g 0)), (2, .ref (za g 101)), (3, .ref (za g 112)), (4, .ref (za g 113)), (5, .int (nI (i)))] [] w' Post) : zTr g mL_law room_1 ce sl 1948 [(0, .ref ar), (1, .ref (za g 0)), (2, .ref (za g 101)), (3, .ref (za g 112)), (4, .ref (za g 113)), (5, .int (nI (i)))] [] w Post := by
  obtain ⟨hz, hR0, ⟨t0, hM0⟩, ⟨fJ, hJ0⟩, ⟨fQ, hQ0⟩⟩ := hL
  refine z_aload_n dL_law_1948 rfl ?_
  refine z_aload_n dL_law_1949 rfl ?_
  have hc6 := c_L_periodByTrial (b := 0) (c9 := 112) h0 h1 hN hR0 (by omega) (by omega) hJ0
  refine z_callSH (As := [.ref (za g 0), .ref (za g 112)]) (rest := []) (R2 := zR 9 2) dL_law_1950 kSH_268 rfl ⟨⟨by decide, by decide⟩, by show _ ≤ 603072; simp only [zR]; omega, by show _ ≤ 7207018; simp only [zR]; omega⟩ rfl (Nat.le_of_ble_eq_true rfl) rfl hc6 (fun E w1 hp => by obtain ⟨e, _⟩ := hp; cases e) (fun v w1 hp => ?_)
  obtain ⟨he2, hf3, hx4, hj5⟩ := hp
  cases he2
  have hm7 := hM0.eq (w1 := w1) (fun k h8 h9 => hf3 k (by omega) (by omega))
  have hq8 := (hf3 113 (by omega) (by omega)).trans hQ0
  by_cases hF : (if S.1.length = 0 then 4 else 0) = 0
  · refine z_eq (st' := [.int (nI 0)]) rfl (by rw [hF]; rfl) rfl ?_
    (try rw [hF] at hx4)
    rw [hF] at hj5
    (try simp only [↓reduceIte] at hx4)
    simp only [↓reduceIte] at hj5
    refine z_istore (lv' := [(0, .ref ar), (1, .ref (za g 0)), (2, .ref (za g 101)), (3, .ref (za g 112)), (4, .ref (za g 113)), (5, .int (nI (i))), (6, .int (nI (0)))]) dL_law_1953 (by decide) rfl ?_
    refine z_aload_n dL_law_1955 rfl ?_
    have hc17 := c_X13_periodByTrial (b := 101) h0 hm7
    obtain ⟨fs9, hfs10⟩ := hm7.cell
    refine z_callV (As := []) (rest := []) (b := 101) (ci := 12) (R2 := zR 5 0) dL_law_1956 kV_RL_270 rfl ⟨⟨by decide, by decide⟩, by show _ ≤ 603072; simp only [zR]; omega, by show _ ≤ 7207018; simp only [zR]; omega⟩ (by omega) hfs10 rfl rfl rfl (Nat.le_of_ble_eq_true rfl) rfl hc17 (fun E w1 hp => by obtain ⟨_, e, _⟩ := hp; cases e) (fun v w11 hp => ?_)
    obtain ⟨r12, he13, hf14, hm15, hr16⟩ := hp
    cases he13
    have hT0 : ((if S.1.length ≠ 0 then 0 else 1)) = 0 := by revert hF; (try simp only [spF, fPass, fRest, fIv, fMod, fRep, fPas, fMark, fWin, plc, rwP]); (repeat' split) <;> first | rfl | omega | (intro hF; omega) | contradiction | (intros; contradiction) | (simp; done) | (simp_all; done) | (intros; exfalso; simp_all; done)
    replace hr16 := hr16 (by first | exact hF | exact hT0 | (refine Decidable.byContradiction fun z => ?_; rw [if_neg z] at hT0; exact absurd hT0 (by decide)))
    rw [hT0] at hm15
    (try simp only [↓reduceIte] at hm15)
    have hx18 := hx4.fr hf14 (Or.inl (by omega))
    have hj19 := (hf14 112 (by omega)).trans hj5
    have hq20 := (hf14 113 (by omega)).trans hq8
    refine z_istore (lv' := [(0, .ref ar), (1, .ref (za g 0)), (2, .ref (za g 101)), (3, .ref (za g 112)), (4, .ref (za g 113)), (5, .int (nI (i))), (6, .int (nI (0))), (7, .int (r12))]) dL_law_1959 (by decide) rfl ?_
    refine z_aload_n dL_law_1961 rfl ?_
    obtain ⟨fs21, hfs22⟩ := hm15.cell
    refine z_callE (As := []) (rest := []) (b := 101) (ci := 12) (v := some (.int (nI (0)))) (R2 := zR 0 0) dL_law_1962 kV_RL_156 rfl ⟨⟨by decide, by decide⟩, by show _ ≤ 603072; simp only [zR]; omega, by show _ ≤ 7207018; simp only [zR]; omega⟩ (by omega) hfs22 rfl rfl rfl (Nat.le_of_ble_eq_true rfl) rfl (Mq.th h0 hm15) ?_
    refine z_iload dL_law_1965 rfl ?_
    refine z_icmp_eq_n (a := 0) (b := 0) (tgt := 1972) dL_law_1967 (by decide) (by omega) (by omega) (fun _ => ?_) (fun hq9 => absurd rfl hq9)
    refine z_iload dL_law_1972 rfl ?_
    refine z_if_ne_n (a := 0) (tgt := 1989) dL_law_1974 (by decide) (by decide) (fun hq9 => absurd rfl hq9) (fun _ => ?_)
    refine z_aload_n dL_law_1977 rfl ?_
    refine z_iconst (v := nI 0) dL_law_1978 rfl ?_
    refine z_lald (j := 112) (N := 1) (i := nI 0) dL_law_1979 (by omega) hj19 (vp_in_nI (by decide) (by decide)) ?_
    refine z_eq (st' := [.long ((nI (perF (gT S.1) S.1.length)).toInt64)]) rfl (by rw [nI_clamp (by decide)]; simp [vp_updL]) rfl ?_
    refine z_iload dL_law_1980 rfl ?_
    refine z_i2l dL_law_1982 ?_
    refine z_lcmp dL_law_1983 ?_
    refine z_eq (st' := [.int (nI 0)]) rfl (by rw [hr16, lg_self]) rfl ?_
    refine z_if_eq_n (a := 0) (tgt := 1989) dL_law_1984 (by decide) (by decide) (fun _ => ?_) (fun hq9 => absurd rfl hq9)
    refine z_goto (tgt := 2848) dL_law_1989 (by decide) ?_
    refine z_sub (lv' := [(0, .ref ar), (1, .ref (za g 0)), (2, .ref (za g 101)), (3, .ref (za g 112)), (4, .ref (za g 113)), (5, .int (nI (i)))]) [0, 1, 2, 3, 4, 5] rfl ?_
    exact zTr_wd (by simp only [zR]; omega) (by simp only [zR]; omega) (kk _ _ _ _ _ _ _ _ ⟨hz, hx18, ⟨_, hm15⟩, ⟨_, hj19⟩, ⟨_, hq20⟩⟩)
  · (first | rw [if_neg hF, if_neg hF] at hx4 | rw [if_neg hF] at hx4 | skip)
    rw [if_neg hF] at hj5
    have hk0 : rwP [4] (if S.1.length = 0 then 4 else 0) ≠ 0 := by revert hF; (try simp only [spF, fPass, fRest, fIv, fMod, fRep, fPas, fMark, fWin, plc, rwP]); (repeat' split) <;> first | rfl | omega | (intro hF; omega) | contradiction | (intros; contradiction) | (simp; done) | (simp_all; done) | (intros; exfalso; simp_all; done)
    refine z_istore (lv' := [(0, .ref ar), (1, .ref (za g 0)), (2, .ref (za g 101)), (3, .ref (za g 112)), (4, .ref (za g 113)), (5, .int (nI (i))), (6, .int (nI (rwP [4] (if S.1.length = 0 then 4 else 0))))]) dL_law_1953 (by decide) rfl ?_
    refine z_aload_n dL_law_1955 rfl ?_
    have hc31 := c_X13_periodByTrial (b := 101) h0 hm7
    obtain ⟨fs23, hfs24⟩ := hm7.cell
    refine z_callV (As := []) (rest := []) (b := 101) (ci := 12) (R2 := zR 5 0) dL_law_1956 kV_RL_270 rfl ⟨⟨by decide, by decide⟩, by show _ ≤ 603072; simp only [zR]; omega, by show _ ≤ 7207018; simp only [zR]; omega⟩ (by omega) hfs24 rfl rfl rfl (Nat.le_of_ble_eq_true rfl) rfl hc31 (fun E w1 hp => by obtain ⟨_, e, _⟩ := hp; cases e) (fun v w25 hp => ?_)
    obtain ⟨r26, he27, hf28, hm29, hr30⟩ := hp
    cases he27
    have hT1 : ((if S.1.length ≠ 0 then 0 else 1)) = rwP [4] (if S.1.length = 0 then 4 else 0) := by revert hF; (try simp only [spF, fPass, fRest, fIv, fMod, fRep, fPas, fMark, fWin, plc, rwP]); (repeat' split) <;> first | rfl | omega | (intro hF; omega) | contradiction | (intros; contradiction) | (simp; done) | (simp_all; done) | (intros; exfalso; simp_all; done)
    rw [hT1] at hm29
    (try rw [if_neg hk0] at hm29)
    have hx32 := hx4.fr hf28 (Or.inl (by omega))
    have hj33 := (hf28 112 (by omega)).trans hj5
    have hq34 := (hf28 113 (by omega)).trans hq8
    refine z_istore (lv' := [(0, .ref ar), (1, .ref (za g 0)), (2, .ref (za g 101)), (3, .ref (za g 112)), (4, .ref (za g 113)), (5, .int (nI (i))), (6, .int (nI (rwP [4] (if S.1.length = 0 then 4 else 0)))), (7, .int (r26))]) dL_law_1959 (by decide) rfl ?_
    refine z_aload_n dL_law_1961 rfl ?_
    obtain ⟨fs35, hfs36⟩ := hm29.cell
    refine z_callE (As := []) (rest := []) (b := 101) (ci := 12) (v := some (.int (nI (rwP [4] (if S.1.length = 0 then 4 else 0))))) (R2 := zR 0 0) dL_law_1962 kV_RL_156 rfl ⟨⟨by decide, by decide⟩, by show _ ≤ 603072; simp only [zR]; omega, by show _ ≤ 7207018; simp only [zR]; omega⟩ (by omega) hfs36 rfl rfl rfl (Nat.le_of_ble_eq_true rfl) rfl (Mq.th h0 hm29) ?_
    refine z_iload dL_law_1965 rfl ?_
    refine z_icmp_eq_n (a := rwP [4] (if S.1.length = 0 then 4 else 0)) (b := rwP [4] (if S.1.length = 0 then 4 else 0)) (tgt := 1972) dL_law_1967 (by decide) (by simp only [rwP]; (repeat' split) <;> omega) (by simp only [rwP]; (repeat' split) <;> omega) (fun _ => ?_) (fun hq9 => absurd rfl hq9)
    refine z_iload dL_law_1972 rfl ?_
    refine z_if_ne_n (a := rwP [4] (if S.1.length = 0 then 4 else 0)) (tgt := 1989) dL_law_1974 (by decide) (by simp only [rwP]; (repeat' split) <;> omega) (fun _ => ?_) (fun hq9 => absurd hq9 hk0)
    refine z_goto (tgt := 2848) dL_law_1989 (by decide) ?_
    refine z_sub (lv' := [(0, .ref ar), (1, .ref (za g 0)), (2, .ref (za g 101)), (3, .ref (za g 112)), (4, .ref (za g 113)), (5, .int (nI (i)))]) [0, 1, 2, 3, 4, 5] rfl ?_
    exact zTr_wd (by simp only [zR]; omega) (by simp only [zR]; omega) (kk _ _ _ _ _ _ _ _ ⟨hz, hx32, ⟨_, hm29⟩, ⟨_, hj33⟩, ⟨_, hq34⟩⟩)
set_option maxRecDepth 100000 in
set_option maxHeartbeats 4000000 in
theorem lw_case_34 {g : zGT} {w : zW} {S : zSt} {Hs : List zSt} {Sn : Option zSt} {I O : List Nat} {ep fc : Int32} {ar N i ce sl : Nat} {xs : Nat → Int32} {Post : zP} (h0 : zG0 g) (h1 : zST g) (hN : zNC g) (hT : va_T .int ar N (fun j => .int (xs j)) (zA g) (zs g) (zs g).heap) (hL : LwI g w S Hs Sn I O ep fc) (hi : i + 3 < N) (hN9 : N ≤ 2048) (hce : ce + 2 ≤ 603072) (hsl : sl + 12 ≤ 7207018) (kk : ∀ (w' : zW) (S' : zSt) (Hs' : List zSt) (Sn' : Option zSt) (I' O' : List Nat) (ep' fc' : Int32), LwI g w' S' Hs' Sn' I' O' ep' fc' → zTr g mL_law room_1 (ce + 2) (sl + 12) 2848 [(0, .ref ar), (1, .ref (za g 0)), (2, .ref (za g 101)), (3, .ref (za g 112)), (4, .ref (za g 113)), (5, .int (nI (i)))] [] w' Post) : zTr g mL_law room_1 ce sl 1992 [(0, .ref ar), (1, .ref (za g 0)), (2, .ref (za g 101)), (3, .ref (za g 112)), (4, .ref (za g 113)), (5, .int (nI (i)))] [] w Post := by
  obtain ⟨hz, hR0, ⟨t0, hM0⟩, ⟨fJ, hJ0⟩, ⟨fQ, hQ0⟩⟩ := hL
  refine z_aload_n dL_law_1992 rfl ?_
  have hc9 := c_X12_markerCount (b := 0) h0 h1 hR0
  refine z_callV (As := []) (rest := []) (b := 0) (ci := 11) (R2 := zR 1 0) dL_law_1993 kV_RL_271 rfl ⟨⟨by decide, by decide⟩, by show _ ≤ 603072; simp only [zR]; omega, by show _ ≤ 7207018; simp only [zR]; omega⟩ (by omega) hR0.ce rfl rfl rfl (Nat.le_of_ble_eq_true rfl) rfl hc9 (fun E w1 hp => by obtain ⟨e, _⟩ := hp; cases e) (fun v w3 hp => ?_)
  obtain ⟨he5, hf6, hr8⟩ := hp
  cases he5
  have hm10 := hM0.eq (w1 := w3) (fun k h8 h9 => hf6 k (by omega))
  have hj11 := (hf6 112 (by omega)).trans hJ0
  have hq12 := (hf6 113 (by omega)).trans hQ0
  refine z_aload_n dL_law_1996 rfl ?_
  have hc21 := c_X13_markerCount (b := 101) h0 hm10
  obtain ⟨fs13, hfs14⟩ := hm10.cell
  refine z_callV (As := []) (rest := [.int ((nI S.2.1.length))]) (b := 101) (ci := 12) (R2 := zR 4 0) dL_law_1997 kV_RL_274 rfl ⟨⟨by decide, by decide⟩, by show _ ≤ 603072; simp only [zR]; omega, by show _ ≤ 7207018; simp only [zR]; omega⟩ (by omega) hfs14 rfl rfl rfl (Nat.le_of_ble_eq_true rfl) rfl hc21 (fun E w1 hp => by obtain ⟨e, _⟩ := hp; cases e) (fun v w15 hp => ?_)
  obtain ⟨he17, hf18, hm19⟩ := hp
  cases he17
  have hx22 := hr8.fr hf18 (Or.inl (by omega))
  have hj23 := (hf18 112 (by omega)).trans hj11
  have hq24 := (hf18 113 (by omega)).trans hq12
  refine z_icmp_eq (tgt := 2848) dL_law_2000 (by decide) (fun _ => ?_) (fun h9 => absurd rfl h9)
  exact zTr_wd (by simp only [zR]; omega) (by simp only [zR]; omega) (kk _ _ _ _ _ _ _ _ ⟨hz, hx22, ⟨_, hm19⟩, ⟨_, hj23⟩, ⟨_, hq24⟩⟩)
set_option maxRecDepth 100000 in
set_option maxHeartbeats 4000000 in
theorem lw_case_35 {g : zGT} {w : zW} {S : zSt} {Hs : List zSt} {Sn : Option zSt} {I O : List Nat} {ep fc : Int32} {ar N i ce sl : Nat} {xs : Nat → Int32} {Post : zP} (h0 : zG0 g) (h1 : zST g) (hN : zNC g) (hT : va_T .int ar N (fun j => .int (xs j)) (zA g) (zs g) (zs g).heap) (hL : LwI g w S Hs Sn I O ep fc) (hi : i + 3 < N) (hN9 : N ≤ 2048) (hce : ce + 2 ≤ 603072) (hsl : sl + 12 ≤ 7207018) (kk : ∀ (w' : zW) (S' : zSt) (Hs' : List zSt) (Sn' : Option zSt) (I' O' : List Nat) (ep' fc' : Int32), LwI g w' S' Hs' Sn' I' O' ep' fc' → zTr g mL_law room_1 (ce + 2) (sl + 12) 2848 [(0, .ref ar), (1, .ref (za g 0)), (2, .ref (za g 101)), (3, .ref (za g 112)), (4, .ref (za g 113)), (5, .int (nI (i)))] [] w' Post) : zTr g mL_law room_1 ce sl 2005 [(0, .ref ar), (1, .ref (za g 0)), (2, .ref (za g 101)), (3, .ref (za g 112)), (4, .ref (za g 113)), (5, .int (nI (i)))] [] w Post := by
  obtain ⟨hz, hR0, ⟨t0, hM0⟩, ⟨fJ, hJ0⟩, ⟨fQ, hQ0⟩⟩ := hL
  refine z_aload_n dL_law_2005 rfl ?_
  refine z_aload_n dL_law_2006 rfl ?_
  refine z_iload dL_law_2007 rfl ?_
  refine z_iconst (v := nI 1) dL_law_2009 rfl ?_
  refine z_iadd_n (a := i) (b := 1) dL_law_2010 ?_
  refine z_tabI (a := i + 1) (v := .int (xs (i + 1))) dL_law_2011 hT (by omega) (by omega) rfl ?_
  refine z_aload_n dL_law_2012 rfl ?_
  have hc6 := c_L_markerTime (b := 0) (c9 := 112) h0 h1 hN hR0 (by omega) (by omega) hJ0 (x := (xs (i + 1)))
  refine z_callSH (As := [.ref (za g 0), .int (xs (i + 1)), .ref (za g 112)]) (rest := []) (R2 := zR 9 2) dL_law_2013 kSH_275 rfl ⟨⟨by decide, by decide⟩, by show _ ≤ 603072; simp only [zR]; omega, by show _ ≤ 7207018; simp only [zR]; omega⟩ rfl (Nat.le_of_ble_eq_true rfl) rfl hc6 (fun E w1 hp => by obtain ⟨e, _⟩ := hp; cases e) (fun v w1 hp => ?_)
  obtain ⟨he2, hf3, hx4, hj5⟩ := hp
  cases he2
  have hm7 := hM0.eq (w1 := w1) (fun k h8 h9 => hf3 k (by omega) (by omega))
  have hq8 := (hf3 113 (by omega) (by omega)).trans hQ0
  by_cases hF : (if 0 ≤ (xs (i + 1)).toInt ∧ (xs (i + 1)).toInt < S.2.1.length then 0 else 1) = 0
  · refine z_eq (st' := [.int (nI 0)]) rfl (by rw [hF]; rfl) rfl ?_
    (try rw [hF] at hx4)
    rw [hF] at hj5
    (try simp only [↓reduceIte] at hx4)
    simp only [↓reduceIte] at hj5
    refine z_istore (lv' := [(0, .ref ar), (1, .ref (za g 0)), (2, .ref (za g 101)), (3, .ref (za g 112)), (4, .ref (za g 113)), (5, .int (nI (i))), (6, .int (nI (0)))]) dL_law_2016 (by decide) rfl ?_
    refine z_aload_n dL_law_2018 rfl ?_
    refine z_aload_n dL_law_2019 rfl ?_
    refine z_iload dL_law_2020 rfl ?_
    refine z_iconst (v := nI 1) dL_law_2022 rfl ?_
    refine z_iadd_n (a := i) (b := 1) dL_law_2023 ?_
    refine z_tabI (a := i + 1) (v := .int (xs (i + 1))) dL_law_2024 hT (by omega) (by omega) rfl ?_
    have hc17 := c_X13_markerTime (b := 101) h0 hm7 (x := (xs (i + 1)))
    obtain ⟨fs9, hfs10⟩ := hm7.cell
    refine z_callV (As := [.int (xs (i + 1))]) (rest := []) (b := 101) (ci := 12) (R2 := zR 4 0) dL_law_2025 kV_RL_277 rfl ⟨⟨by decide, by decide⟩, by show _ ≤ 603072; simp only [zR]; omega, by show _ ≤ 7207018; simp only [zR]; omega⟩ (by omega) hfs10 rfl rfl rfl (Nat.le_of_ble_eq_true rfl) rfl hc17 (fun E w1 hp => by obtain ⟨_, e, _⟩ := hp; cases e) (fun v w11 hp => ?_)
    obtain ⟨r12, he13, hf14, hm15, hr16⟩ := hp
    cases he13
    have hT0 : ((if 0 ≤ (xs (i + 1)).toInt ∧ (xs (i + 1)).toInt < (S.2.1.length : Nat) then 0 else 1)) = 0 := by revert hF; (try simp only [spF, fPass, fRest, fIv, fMod, fRep, fPas, fMark, fWin, plc, rwP]); (repeat' split) <;> first | rfl | omega | (intro hF; omega) | contradiction | (intros; contradiction) | (simp; done) | (simp_all; done) | (intros; exfalso; simp_all; done)
    replace hr16 := hr16 (by first | exact hF | exact hT0 | (refine Decidable.byContradiction fun z => ?_; rw [if_neg z] at hT0; exact absurd hT0 (by decide)))
    rw [hT0] at hm15
    (try simp only [↓reduceIte] at hm15)
    have hx18 := hx4.fr hf14 (Or.inl (by omega))
    have hj19 := (hf14 112 (by omega)).trans hj5
    have hq20 := (hf14 113 (by omega)).trans hq8
    refine z_istore (lv' := [(0, .ref ar), (1, .ref (za g 0)), (2, .ref (za g 101)), (3, .ref (za g 112)), (4, .ref (za g 113)), (5, .int (nI (i))), (6, .int (nI (0))), (7, .int (r12))]) dL_law_2028 (by decide) rfl ?_
    refine z_aload_n dL_law_2030 rfl ?_
    obtain ⟨fs21, hfs22⟩ := hm15.cell
    refine z_callE (As := []) (rest := []) (b := 101) (ci := 12) (v := some (.int (nI (0)))) (R2 := zR 0 0) dL_law_2031 kV_RL_156 rfl ⟨⟨by decide, by decide⟩, by show _ ≤ 603072; simp only [zR]; omega, by show _ ≤ 7207018; simp only [zR]; omega⟩ (by omega) hfs22 rfl rfl rfl (Nat.le_of_ble_eq_true rfl) rfl (Mq.th h0 hm15) ?_
    refine z_iload dL_law_2034 rfl ?_
    refine z_icmp_eq_n (a := 0) (b := 0) (tgt := 2041) dL_law_2036 (by decide) (by omega) (by omega) (fun _ => ?_) (fun hq9 => absurd rfl hq9)
    refine z_iload dL_law_2041 rfl ?_
    refine z_if_ne_n (a := 0) (tgt := 2058) dL_law_2043 (by decide) (by decide) (fun hq9 => absurd rfl hq9) (fun _ => ?_)
    refine z_aload_n dL_law_2046 rfl ?_
    refine z_iconst (v := nI 0) dL_law_2047 rfl ?_
    refine z_lald (j := 112) (N := 1) (i := nI 0) dL_law_2048 (by omega) hj19 (vp_in_nI (by decide) (by decide)) ?_
    refine z_eq (st' := [.long ((nI (S.2.1.getD (xs (i + 1)).toInt.toNat 0)).toInt64)]) rfl (by rw [nI_clamp (by decide)]; simp [vp_updL]) rfl ?_
    refine z_iload dL_law_2049 rfl ?_
    refine z_i2l dL_law_2051 ?_
    refine z_lcmp dL_law_2052 ?_
    refine z_eq (st' := [.int (nI 0)]) rfl (by rw [hr16, lg_self]) rfl ?_
    refine z_if_eq_n (a := 0) (tgt := 2058) dL_law_2053 (by decide) (by decide) (fun _ => ?_) (fun hq9 => absurd rfl hq9)
    refine z_goto (tgt := 2848) dL_law_2058 (by decide) ?_
    refine z_sub (lv' := [(0, .ref ar), (1, .ref (za g 0)), (2, .ref (za g 101)), (3, .ref (za g 112)), (4, .ref (za g 113)), (5, .int (nI (i)))]) [0, 1, 2, 3, 4, 5] rfl ?_
    exact zTr_wd (by simp only [zR]; omega) (by simp only [zR]; omega) (kk _ _ _ _ _ _ _ _ ⟨hz, hx18, ⟨_, hm15⟩, ⟨_, hj19⟩, ⟨_, hq20⟩⟩)
  · (first | rw [if_neg hF, if_neg hF] at hx4 | rw [if_neg hF] at hx4 | skip)
    rw [if_neg hF] at hj5
    have hk0 : rwP [1] (if 0 ≤ (xs (i + 1)).toInt ∧ (xs (i + 1)).toInt < S.2.1.length then 0 else 1) ≠ 0 := by revert hF; (try simp only [spF, fPass, fRest, fIv, fMod, fRep, fPas, fMark, fWin, plc, rwP]); (repeat' split) <;> first | rfl | omega | (intro hF; omega) | contradiction | (intros; contradiction) | (simp; done) | (simp_all; done) | (intros; exfalso; simp_all; done)
    refine z_istore (lv' := [(0, .ref ar), (1, .ref (za g 0)), (2, .ref (za g 101)), (3, .ref (za g 112)), (4, .ref (za g 113)), (5, .int (nI (i))), (6, .int (nI (rwP [1] (if 0 ≤ (xs (i + 1)).toInt ∧ (xs (i + 1)).toInt < S.2.1.length then 0 else 1))))]) dL_law_2016 (by decide) rfl ?_
    refine z_aload_n dL_law_2018 rfl ?_
    refine z_aload_n dL_law_2019 rfl ?_
    refine z_iload dL_law_2020 rfl ?_
    refine z_iconst (v := nI 1) dL_law_2022 rfl ?_
    refine z_iadd_n (a := i) (b := 1) dL_law_2023 ?_
    refine z_tabI (a := i + 1) (v := .int (xs (i + 1))) dL_law_2024 hT (by omega) (by omega) rfl ?_
    have hc31 := c_X13_markerTime (b := 101) h0 hm7 (x := (xs (i + 1)))
    obtain ⟨fs23, hfs24⟩ := hm7.cell
    refine z_callV (As := [.int (xs (i + 1))]) (rest := []) (b := 101) (ci := 12) (R2 := zR 4 0) dL_law_2025 kV_RL_277 rfl ⟨⟨by decide, by decide⟩, by show _ ≤ 603072; simp only [zR]; omega, by show _ ≤ 7207018; simp only [zR]; omega⟩ (by omega) hfs24 rfl rfl rfl (Nat.le_of_ble_eq_true rfl) rfl hc31 (fun E w1 hp => by obtain ⟨_, e, _⟩ := hp; cases e) (fun v w25 hp => ?_)
    obtain ⟨r26, he27, hf28, hm29, hr30⟩ := hp
    cases he27
    have hT1 : ((if 0 ≤ (xs (i + 1)).toInt ∧ (xs (i + 1)).toInt < (S.2.1.length : Nat) then 0 else 1)) = rwP [1] (if 0 ≤ (xs (i + 1)).toInt ∧ (xs (i + 1)).toInt < S.2.1.length then 0 else 1) := by revert hF; (try simp only [spF, fPass, fRest, fIv, fMod, fRep, fPas, fMark, fWin, plc, rwP]); (repeat' split) <;> first | rfl | omega | (intro hF; omega) | contradiction | (intros; contradiction) | (simp; done) | (simp_all; done) | (intros; exfalso; simp_all; done)
    rw [hT1] at hm29
    (try rw [if_neg hk0] at hm29)
    have hx32 := hx4.fr hf28 (Or.inl (by omega))
    have hj33 := (hf28 112 (by omega)).trans hj5
    have hq34 := (hf28 113 (by omega)).trans hq8
    refine z_istore (lv' := [(0, .ref ar), (1, .ref (za g 0)), (2, .ref (za g 101)), (3, .ref (za g 112)), (4, .ref (za g 113)), (5, .int (nI (i))), (6, .int (nI (rwP [1] (if 0 ≤ (xs (i + 1)).toInt ∧ (xs (i + 1)).toInt < S.2.1.length then 0 else 1)))), (7, .int (r26))]) dL_law_2028 (by decide) rfl ?_
    refine z_aload_n dL_law_2030 rfl ?_
    obtain ⟨fs35, hfs36⟩ := hm29.cell
    refine z_callE (As := []) (rest := []) (b := 101) (ci := 12) (v := some (.int (nI (rwP [1] (if 0 ≤ (xs (i + 1)).toInt ∧ (xs (i + 1)).toInt < S.2.1.length then 0 else 1))))) (R2 := zR 0 0) dL_law_2031 kV_RL_156 rfl ⟨⟨by decide, by decide⟩, by show _ ≤ 603072; simp only [zR]; omega, by show _ ≤ 7207018; simp only [zR]; omega⟩ (by omega) hfs36 rfl rfl rfl (Nat.le_of_ble_eq_true rfl) rfl (Mq.th h0 hm29) ?_
    refine z_iload dL_law_2034 rfl ?_
    refine z_icmp_eq_n (a := rwP [1] (if 0 ≤ (xs (i + 1)).toInt ∧ (xs (i + 1)).toInt < S.2.1.length then 0 else 1)) (b := rwP [1] (if 0 ≤ (xs (i + 1)).toInt ∧ (xs (i + 1)).toInt < S.2.1.length then 0 else 1)) (tgt := 2041) dL_law_2036 (by decide) (by simp only [rwP]; (repeat' split) <;> omega) (by simp only [rwP]; (repeat' split) <;> omega) (fun _ => ?_) (fun hq9 => absurd rfl hq9)
    refine z_iload dL_law_2041 rfl ?_
    refine z_if_ne_n (a := rwP [1] (if 0 ≤ (xs (i + 1)).toInt ∧ (xs (i + 1)).toInt < S.2.1.length then 0 else 1)) (tgt := 2058) dL_law_2043 (by decide) (by simp only [rwP]; (repeat' split) <;> omega) (fun _ => ?_) (fun hq9 => absurd hq9 hk0)
    refine z_goto (tgt := 2848) dL_law_2058 (by decide) ?_
    refine z_sub (lv' := [(0, .ref ar), (1, .ref (za g 0)), (2, .ref (za g 101)), (3, .ref (za g 112)), (4, .ref (za g 113)), (5, .int (nI (i)))]) [0, 1, 2, 3, 4, 5] rfl ?_
    exact zTr_wd (by simp only [zR]; omega) (by simp only [zR]; omega) (kk _ _ _ _ _ _ _ _ ⟨hz, hx32, ⟨_, hm29⟩, ⟨_, hj33⟩, ⟨_, hq34⟩⟩)
set_option maxRecDepth 100000 in
set_option maxHeartbeats 4000000 in
theorem lw_case_36 {g : zGT} {w : zW} {S : zSt} {Hs : List zSt} {Sn : Option zSt} {I O : List Nat} {ep fc : Int32} {ar N i ce sl : Nat} {xs : Nat → Int32} {Post : zP} (h0 : zG0 g) (h1 : zST g) (hN : zNC g) (hT : va_T .int ar N (fun j => .int (xs j)) (zA g) (zs g) (zs g).heap) (hL : LwI g w S Hs Sn I O ep fc) (hi : i + 3 < N) (hN9 : N ≤ 2048) (hce : ce + 2 ≤ 603072) (hsl : sl + 12 ≤ 7207018) (kk : ∀ (w' : zW) (S' : zSt) (Hs' : List zSt) (Sn' : Option zSt) (I' O' : List Nat) (ep' fc' : Int32), LwI g w' S' Hs' Sn' I' O' ep' fc' → zTr g mL_law room_1 (ce + 2) (sl + 12) 2848 [(0, .ref ar), (1, .ref (za g 0)), (2, .ref (za g 101)), (3, .ref (za g 112)), (4, .ref (za g 113)), (5, .int (nI (i)))] [] w' Post) : zTr g mL_law room_1 ce sl 2061 [(0, .ref ar), (1, .ref (za g 0)), (2, .ref (za g 101)), (3, .ref (za g 112)), (4, .ref (za g 113)), (5, .int (nI (i)))] [] w Post := by
  obtain ⟨hz, hR0, ⟨t0, hM0⟩, ⟨fJ, hJ0⟩, ⟨fQ, hQ0⟩⟩ := hL
  refine z_aload_n dL_law_2061 rfl ?_
  refine z_aload_n dL_law_2062 rfl ?_
  refine z_iload dL_law_2063 rfl ?_
  refine z_iconst (v := nI 1) dL_law_2065 rfl ?_
  refine z_iadd_n (a := i) (b := 1) dL_law_2066 ?_
  refine z_tabI (a := i + 1) (v := .int (xs (i + 1))) dL_law_2067 hT (by omega) (by omega) rfl ?_
  refine z_aload_n dL_law_2068 rfl ?_
  have hc6 := c_L_barLength (b := 0) (c9 := 112) h0 h1 hN hR0 (by omega) (by omega) hJ0 (x := (xs (i + 1)))
  refine z_callSH (As := [.ref (za g 0), .int (xs (i + 1)), .ref (za g 112)]) (rest := []) (R2 := zR 9 2) dL_law_2069 kSH_278 rfl ⟨⟨by decide, by decide⟩, by show _ ≤ 603072; simp only [zR]; omega, by show _ ≤ 7207018; simp only [zR]; omega⟩ rfl (Nat.le_of_ble_eq_true rfl) rfl hc6 (fun E w1 hp => by obtain ⟨e, _⟩ := hp; cases e) (fun v w1 hp => ?_)
  obtain ⟨he2, hf3, hx4, hj5⟩ := hp
  cases he2
  have hm7 := hM0.eq (w1 := w1) (fun k h8 h9 => hf3 k (by omega) (by omega))
  have hq8 := (hf3 113 (by omega) (by omega)).trans hQ0
  by_cases hF : (if 0 ≤ (xs (i + 1)).toInt ∧ (xs (i + 1)).toInt ≤ S.2.1.length then 0 else 1) = 0
  · refine z_eq (st' := [.int (nI 0)]) rfl (by rw [hF]; rfl) rfl ?_
    (try rw [hF] at hx4)
    rw [hF] at hj5
    (try simp only [↓reduceIte] at hx4)
    simp only [↓reduceIte] at hj5
    refine z_istore (lv' := [(0, .ref ar), (1, .ref (za g 0)), (2, .ref (za g 101)), (3, .ref (za g 112)), (4, .ref (za g 113)), (5, .int (nI (i))), (6, .int (nI (0)))]) dL_law_2072 (by decide) rfl ?_
    refine z_aload_n dL_law_2074 rfl ?_
    refine z_aload_n dL_law_2075 rfl ?_
    refine z_iload dL_law_2076 rfl ?_
    refine z_iconst (v := nI 1) dL_law_2078 rfl ?_
    refine z_iadd_n (a := i) (b := 1) dL_law_2079 ?_
    refine z_tabI (a := i + 1) (v := .int (xs (i + 1))) dL_law_2080 hT (by omega) (by omega) rfl ?_
    have hc17 := c_X13_barLength (b := 101) h0 hm7 (x := (xs (i + 1)))
    obtain ⟨fs9, hfs10⟩ := hm7.cell
    refine z_callV (As := [.int (xs (i + 1))]) (rest := []) (b := 101) (ci := 12) (R2 := zR 4 0) dL_law_2081 kV_RL_280 rfl ⟨⟨by decide, by decide⟩, by show _ ≤ 603072; simp only [zR]; omega, by show _ ≤ 7207018; simp only [zR]; omega⟩ (by omega) hfs10 rfl rfl rfl (Nat.le_of_ble_eq_true rfl) rfl hc17 (fun E w1 hp => by obtain ⟨_, e, _⟩ := hp; cases e) (fun v w11 hp => ?_)
    obtain ⟨r12, he13, hf14, hm15, hr16⟩ := hp
    cases he13
    have hT0 : ((if 0 ≤ (xs (i + 1)).toInt ∧ (xs (i + 1)).toInt ≤ (S.2.1.length : Nat) then 0 else 1)) = 0 := by revert hF; (try simp only [spF, fPass, fRest, fIv, fMod, fRep, fPas, fMark, fWin, plc, rwP]); (repeat' split) <;> first | rfl | omega | (intro hF; omega) | contradiction | (intros; contradiction) | (simp; done) | (simp_all; done) | (intros; exfalso; simp_all; done)
    replace hr16 := hr16 (by first | exact hF | exact hT0 | (refine Decidable.byContradiction fun z => ?_; rw [if_neg z] at hT0; exact absurd hT0 (by decide)))
    rw [hT0] at hm15
    (try simp only [↓reduceIte] at hm15)
    have hx18 := hx4.fr hf14 (Or.inl (by omega))
    have hj19 := (hf14 112 (by omega)).trans hj5
    have hq20 := (hf14 113 (by omega)).trans hq8
    refine z_istore (lv' := [(0, .ref ar), (1, .ref (za g 0)), (2, .ref (za g 101)), (3, .ref (za g 112)), (4, .ref (za g 113)), (5, .int (nI (i))), (6, .int (nI (0))), (7, .int (r12))]) dL_law_2084 (by decide) rfl ?_
    refine z_aload_n dL_law_2086 rfl ?_
    obtain ⟨fs21, hfs22⟩ := hm15.cell
    refine z_callE (As := []) (rest := []) (b := 101) (ci := 12) (v := some (.int (nI (0)))) (R2 := zR 0 0) dL_law_2087 kV_RL_156 rfl ⟨⟨by decide, by decide⟩, by show _ ≤ 603072; simp only [zR]; omega, by show _ ≤ 7207018; simp only [zR]; omega⟩ (by omega) hfs22 rfl rfl rfl (Nat.le_of_ble_eq_true rfl) rfl (Mq.th h0 hm15) ?_
    refine z_iload dL_law_2090 rfl ?_
    refine z_icmp_eq_n (a := 0) (b := 0) (tgt := 2097) dL_law_2092 (by decide) (by omega) (by omega) (fun _ => ?_) (fun hq9 => absurd rfl hq9)
    refine z_iload dL_law_2097 rfl ?_
    refine z_if_ne_n (a := 0) (tgt := 2114) dL_law_2099 (by decide) (by decide) (fun hq9 => absurd rfl hq9) (fun _ => ?_)
    refine z_aload_n dL_law_2102 rfl ?_
    refine z_iconst (v := nI 0) dL_law_2103 rfl ?_
    refine z_lald (j := 112) (N := 1) (i := nI 0) dL_law_2104 (by omega) hj19 (vp_in_nI (by decide) (by decide)) ?_
    refine z_eq (st' := [.long ((nI (blF S (xs (i + 1)).toInt.toNat)).toInt64)]) rfl (by rw [nI_clamp (by decide)]; simp [vp_updL]) rfl ?_
    refine z_iload dL_law_2105 rfl ?_
    refine z_i2l dL_law_2107 ?_
    refine z_lcmp dL_law_2108 ?_
    refine z_eq (st' := [.int (nI 0)]) rfl (by rw [hr16, lg_self]) rfl ?_
    refine z_if_eq_n (a := 0) (tgt := 2114) dL_law_2109 (by decide) (by decide) (fun _ => ?_) (fun hq9 => absurd rfl hq9)
    refine z_goto (tgt := 2848) dL_law_2114 (by decide) ?_
    refine z_sub (lv' := [(0, .ref ar), (1, .ref (za g 0)), (2, .ref (za g 101)), (3, .ref (za g 112)), (4, .ref (za g 113)), (5, .int (nI (i)))]) [0, 1, 2, 3, 4, 5] rfl ?_
    exact zTr_wd (by simp only [zR]; omega) (by simp only [zR]; omega) (kk _ _ _ _ _ _ _ _ ⟨hz, hx18, ⟨_, hm15⟩, ⟨_, hj19⟩, ⟨_, hq20⟩⟩)
  · (first | rw [if_neg hF, if_neg hF] at hx4 | rw [if_neg hF] at hx4 | skip)
    rw [if_neg hF] at hj5
    have hk0 : rwP [1] (if 0 ≤ (xs (i + 1)).toInt ∧ (xs (i + 1)).toInt ≤ S.2.1.length then 0 else 1) ≠ 0 := by revert hF; (try simp only [spF, fPass, fRest, fIv, fMod, fRep, fPas, fMark, fWin, plc, rwP]); (repeat' split) <;> first | rfl | omega | (intro hF; omega) | contradiction | (intros; contradiction) | (simp; done) | (simp_all; done) | (intros; exfalso; simp_all; done)
    refine z_istore (lv' := [(0, .ref ar), (1, .ref (za g 0)), (2, .ref (za g 101)), (3, .ref (za g 112)), (4, .ref (za g 113)), (5, .int (nI (i))), (6, .int (nI (rwP [1] (if 0 ≤ (xs (i + 1)).toInt ∧ (xs (i + 1)).toInt ≤ S.2.1.length then 0 else 1))))]) dL_law_2072 (by decide) rfl ?_
    refine z_aload_n dL_law_2074 rfl ?_
    refine z_aload_n dL_law_2075 rfl ?_
    refine z_iload dL_law_2076 rfl ?_
    refine z_iconst (v := nI 1) dL_law_2078 rfl ?_
    refine z_iadd_n (a := i) (b := 1) dL_law_2079 ?_
    refine z_tabI (a := i + 1) (v := .int (xs (i + 1))) dL_law_2080 hT (by omega) (by omega) rfl ?_
    have hc31 := c_X13_barLength (b := 101) h0 hm7 (x := (xs (i + 1)))
    obtain ⟨fs23, hfs24⟩ := hm7.cell
    refine z_callV (As := [.int (xs (i + 1))]) (rest := []) (b := 101) (ci := 12) (R2 := zR 4 0) dL_law_2081 kV_RL_280 rfl ⟨⟨by decide, by decide⟩, by show _ ≤ 603072; simp only [zR]; omega, by show _ ≤ 7207018; simp only [zR]; omega⟩ (by omega) hfs24 rfl rfl rfl (Nat.le_of_ble_eq_true rfl) rfl hc31 (fun E w1 hp => by obtain ⟨_, e, _⟩ := hp; cases e) (fun v w25 hp => ?_)
    obtain ⟨r26, he27, hf28, hm29, hr30⟩ := hp
    cases he27
    have hT1 : ((if 0 ≤ (xs (i + 1)).toInt ∧ (xs (i + 1)).toInt ≤ (S.2.1.length : Nat) then 0 else 1)) = rwP [1] (if 0 ≤ (xs (i + 1)).toInt ∧ (xs (i + 1)).toInt ≤ S.2.1.length then 0 else 1) := by revert hF; (try simp only [spF, fPass, fRest, fIv, fMod, fRep, fPas, fMark, fWin, plc, rwP]); (repeat' split) <;> first | rfl | omega | (intro hF; omega) | contradiction | (intros; contradiction) | (simp; done) | (simp_all; done) | (intros; exfalso; simp_all; done)
    rw [hT1] at hm29
    (try rw [if_neg hk0] at hm29)
    have hx32 := hx4.fr hf28 (Or.inl (by omega))
    have hj33 := (hf28 112 (by omega)).trans hj5
    have hq34 := (hf28 113 (by omega)).trans hq8
    refine z_istore (lv' := [(0, .ref ar), (1, .ref (za g 0)), (2, .ref (za g 101)), (3, .ref (za g 112)), (4, .ref (za g 113)), (5, .int (nI (i))), (6, .int (nI (rwP [1] (if 0 ≤ (xs (i + 1)).toInt ∧ (xs (i + 1)).toInt ≤ S.2.1.length then 0 else 1)))), (7, .int (r26))]) dL_law_2084 (by decide) rfl ?_
    refine z_aload_n dL_law_2086 rfl ?_
    obtain ⟨fs35, hfs36⟩ := hm29.cell
    refine z_callE (As := []) (rest := []) (b := 101) (ci := 12) (v := some (.int (nI (rwP [1] (if 0 ≤ (xs (i + 1)).toInt ∧ (xs (i + 1)).toInt ≤ S.2.1.length then 0 else 1))))) (R2 := zR 0 0) dL_law_2087 kV_RL_156 rfl ⟨⟨by decide, by decide⟩, by show _ ≤ 603072; simp only [zR]; omega, by show _ ≤ 7207018; simp only [zR]; omega⟩ (by omega) hfs36 rfl rfl rfl (Nat.le_of_ble_eq_true rfl) rfl (Mq.th h0 hm29) ?_
    refine z_iload dL_law_2090 rfl ?_
    refine z_icmp_eq_n (a := rwP [1] (if 0 ≤ (xs (i + 1)).toInt ∧ (xs (i + 1)).toInt ≤ S.2.1.length then 0 else 1)) (b := rwP [1] (if 0 ≤ (xs (i + 1)).toInt ∧ (xs (i + 1)).toInt ≤ S.2.1.length then 0 else 1)) (tgt := 2097) dL_law_2092 (by decide) (by simp only [rwP]; (repeat' split) <;> omega) (by simp only [rwP]; (repeat' split) <;> omega) (fun _ => ?_) (fun hq9 => absurd rfl hq9)
    refine z_iload dL_law_2097 rfl ?_
    refine z_if_ne_n (a := rwP [1] (if 0 ≤ (xs (i + 1)).toInt ∧ (xs (i + 1)).toInt ≤ S.2.1.length then 0 else 1)) (tgt := 2114) dL_law_2099 (by decide) (by simp only [rwP]; (repeat' split) <;> omega) (fun _ => ?_) (fun hq9 => absurd hq9 hk0)
    refine z_goto (tgt := 2848) dL_law_2114 (by decide) ?_
    refine z_sub (lv' := [(0, .ref ar), (1, .ref (za g 0)), (2, .ref (za g 101)), (3, .ref (za g 112)), (4, .ref (za g 113)), (5, .int (nI (i)))]) [0, 1, 2, 3, 4, 5] rfl ?_
    exact zTr_wd (by simp only [zR]; omega) (by simp only [zR]; omega) (kk _ _ _ _ _ _ _ _ ⟨hz, hx32, ⟨_, hm29⟩, ⟨_, hj33⟩, ⟨_, hq34⟩⟩)
set_option maxRecDepth 100000 in
set_option maxHeartbeats 4000000 in
theorem lw_case_37 {g : zGT} {w : zW} {S : zSt} {Hs : List zSt} {Sn : Option zSt} {I O : List Nat} {ep fc : Int32} {ar N i ce sl : Nat} {xs : Nat → Int32} {Post : zP} (h0 : zG0 g) (h1 : zST g) (hN : zNC g) (hT : va_T .int ar N (fun j => .int (xs j)) (zA g) (zs g) (zs g).heap) (hL : LwI g w S Hs Sn I O ep fc) (hi : i + 3 < N) (hN9 : N ≤ 2048) (hce : ce + 2 ≤ 603072) (hsl : sl + 12 ≤ 7207018) (kk : ∀ (w' : zW) (S' : zSt) (Hs' : List zSt) (Sn' : Option zSt) (I' O' : List Nat) (ep' fc' : Int32), LwI g w' S' Hs' Sn' I' O' ep' fc' → zTr g mL_law room_1 (ce + 2) (sl + 12) 2848 [(0, .ref ar), (1, .ref (za g 0)), (2, .ref (za g 101)), (3, .ref (za g 112)), (4, .ref (za g 113)), (5, .int (nI (i)))] [] w' Post) : zTr g mL_law room_1 ce sl 2117 [(0, .ref ar), (1, .ref (za g 0)), (2, .ref (za g 101)), (3, .ref (za g 112)), (4, .ref (za g 113)), (5, .int (nI (i)))] [] w Post := by
  obtain ⟨hz, hR0, ⟨t0, hM0⟩, ⟨fJ, hJ0⟩, ⟨fQ, hQ0⟩⟩ := hL
  refine z_aload_n dL_law_2117 rfl ?_
  refine z_aload_n dL_law_2118 rfl ?_
  refine z_iload dL_law_2119 rfl ?_
  refine z_iconst (v := nI 1) dL_law_2121 rfl ?_
  refine z_iadd_n (a := i) (b := 1) dL_law_2122 ?_
  refine z_tabI (a := i + 1) (v := .int (xs (i + 1))) dL_law_2123 hT (by omega) (by omega) rfl ?_
  refine z_aload_n dL_law_2124 rfl ?_
  have hc6 := c_L_barLoudness (b := 0) (c9 := 112) h0 h1 hN hR0 (by omega) (by omega) hJ0 (x := (xs (i + 1)))
  refine z_callSH (As := [.ref (za g 0), .int (xs (i + 1)), .ref (za g 112)]) (rest := []) (R2 := zR 9 2) dL_law_2125 kSH_281 rfl ⟨⟨by decide, by decide⟩, by show _ ≤ 603072; simp only [zR]; omega, by show _ ≤ 7207018; simp only [zR]; omega⟩ rfl (Nat.le_of_ble_eq_true rfl) rfl hc6 (fun E w1 hp => by obtain ⟨e, _⟩ := hp; cases e) (fun v w1 hp => ?_)
  obtain ⟨he2, hf3, hx4, hj5⟩ := hp
  cases he2
  have hm7 := hM0.eq (w1 := w1) (fun k h8 h9 => hf3 k (by omega) (by omega))
  have hq8 := (hf3 113 (by omega) (by omega)).trans hQ0
  by_cases hF : (if 0 ≤ (xs (i + 1)).toInt ∧ (xs (i + 1)).toInt ≤ S.2.1.length then 0 else 1) = 0
  · refine z_eq (st' := [.int (nI 0)]) rfl (by rw [hF]; rfl) rfl ?_
    (try rw [hF] at hx4)
    rw [hF] at hj5
    (try simp only [↓reduceIte] at hx4)
    simp only [↓reduceIte] at hj5
    refine z_istore (lv' := [(0, .ref ar), (1, .ref (za g 0)), (2, .ref (za g 101)), (3, .ref (za g 112)), (4, .ref (za g 113)), (5, .int (nI (i))), (6, .int (nI (0)))]) dL_law_2128 (by decide) rfl ?_
    refine z_aload_n dL_law_2130 rfl ?_
    refine z_aload_n dL_law_2131 rfl ?_
    refine z_iload dL_law_2132 rfl ?_
    refine z_iconst (v := nI 1) dL_law_2134 rfl ?_
    refine z_iadd_n (a := i) (b := 1) dL_law_2135 ?_
    refine z_tabI (a := i + 1) (v := .int (xs (i + 1))) dL_law_2136 hT (by omega) (by omega) rfl ?_
    have hc17 := c_X13_barLoudness (b := 101) h0 hm7 (x := (xs (i + 1)))
    obtain ⟨fs9, hfs10⟩ := hm7.cell
    refine z_callV (As := [.int (xs (i + 1))]) (rest := []) (b := 101) (ci := 12) (R2 := zR 4 0) dL_law_2137 kV_RL_283 rfl ⟨⟨by decide, by decide⟩, by show _ ≤ 603072; simp only [zR]; omega, by show _ ≤ 7207018; simp only [zR]; omega⟩ (by omega) hfs10 rfl rfl rfl (Nat.le_of_ble_eq_true rfl) rfl hc17 (fun E w1 hp => by obtain ⟨_, e, _⟩ := hp; cases e) (fun v w11 hp => ?_)
    obtain ⟨r12, he13, hf14, hm15, hr16⟩ := hp
    cases he13
    have hT0 : ((if 0 ≤ (xs (i + 1)).toInt ∧ (xs (i + 1)).toInt ≤ (S.2.1.length : Nat) then 0 else 1)) = 0 := by revert hF; (try simp only [spF, fPass, fRest, fIv, fMod, fRep, fPas, fMark, fWin, plc, rwP]); (repeat' split) <;> first | rfl | omega | (intro hF; omega) | contradiction | (intros; contradiction) | (simp; done) | (simp_all; done) | (intros; exfalso; simp_all; done)
    replace hr16 := hr16 (by first | exact hF | exact hT0 | (refine Decidable.byContradiction fun z => ?_; rw [if_neg z] at hT0; exact absurd hT0 (by decide)))
    rw [hT0] at hm15
    (try simp only [↓reduceIte] at hm15)
    have hx18 := hx4.fr hf14 (Or.inl (by omega))
    have hj19 := (hf14 112 (by omega)).trans hj5
    have hq20 := (hf14 113 (by omega)).trans hq8
    refine z_istore (lv' := [(0, .ref ar), (1, .ref (za g 0)), (2, .ref (za g 101)), (3, .ref (za g 112)), (4, .ref (za g 113)), (5, .int (nI (i))), (6, .int (nI (0))), (7, .int (r12))]) dL_law_2140 (by decide) rfl ?_
    refine z_aload_n dL_law_2142 rfl ?_
    obtain ⟨fs21, hfs22⟩ := hm15.cell
    refine z_callE (As := []) (rest := []) (b := 101) (ci := 12) (v := some (.int (nI (0)))) (R2 := zR 0 0) dL_law_2143 kV_RL_156 rfl ⟨⟨by decide, by decide⟩, by show _ ≤ 603072; simp only [zR]; omega, by show _ ≤ 7207018; simp only [zR]; omega⟩ (by omega) hfs22 rfl rfl rfl (Nat.le_of_ble_eq_true rfl) rfl (Mq.th h0 hm15) ?_
    refine z_iload dL_law_2146 rfl ?_
    refine z_icmp_eq_n (a := 0) (b := 0) (tgt := 2153) dL_law_2148 (by decide) (by omega) (by omega) (fun _ => ?_) (fun hq9 => absurd rfl hq9)
    refine z_iload dL_law_2153 rfl ?_
    refine z_if_ne_n (a := 0) (tgt := 2170) dL_law_2155 (by decide) (by decide) (fun hq9 => absurd rfl hq9) (fun _ => ?_)
    refine z_aload_n dL_law_2158 rfl ?_
    refine z_iconst (v := nI 0) dL_law_2159 rfl ?_
    refine z_lald (j := 112) (N := 1) (i := nI 0) dL_law_2160 (by omega) hj19 (vp_in_nI (by decide) (by decide)) ?_
    refine z_eq (st' := [.long ((nI (bsF S (xs (i + 1)).toInt.toNat)).toInt64)]) rfl (by rw [nI_clamp (by decide)]; simp [vp_updL]) rfl ?_
    refine z_iload dL_law_2161 rfl ?_
    refine z_i2l dL_law_2163 ?_
    refine z_lcmp dL_law_2164 ?_
    refine z_eq (st' := [.int (nI 0)]) rfl (by rw [hr16, lg_self]) rfl ?_
    refine z_if_eq_n (a := 0) (tgt := 2170) dL_law_2165 (by decide) (by decide) (fun _ => ?_) (fun hq9 => absurd rfl hq9)
    refine z_goto (tgt := 2848) dL_law_2170 (by decide) ?_
    refine z_sub (lv' := [(0, .ref ar), (1, .ref (za g 0)), (2, .ref (za g 101)), (3, .ref (za g 112)), (4, .ref (za g 113)), (5, .int (nI (i)))]) [0, 1, 2, 3, 4, 5] rfl ?_
    exact zTr_wd (by simp only [zR]; omega) (by simp only [zR]; omega) (kk _ _ _ _ _ _ _ _ ⟨hz, hx18, ⟨_, hm15⟩, ⟨_, hj19⟩, ⟨_, hq20⟩⟩)
  · (first | rw [if_neg hF, if_neg hF] at hx4 | rw [if_neg hF] at hx4 | skip)
    rw [if_neg hF] at hj5
    have hk0 : rwP [1] (if 0 ≤ (xs (i + 1)).toInt ∧ (xs (i + 1)).toInt ≤ S.2.1.length then 0 else 1) ≠ 0 := by revert hF; (try simp only [spF, fPass, fRest, fIv, fMod, fRep, fPas, fMark, fWin, plc, rwP]); (repeat' split) <;> first | rfl | omega | (intro hF; omega) | contradiction | (intros; contradiction) | (simp; done) | (simp_all; done) | (intros; exfalso; simp_all; done)
    refine z_istore (lv' := [(0, .ref ar), (1, .ref (za g 0)), (2, .ref (za g 101)), (3, .ref (za g 112)), (4, .ref (za g 113)), (5, .int (nI (i))), (6, .int (nI (rwP [1] (if 0 ≤ (xs (i + 1)).toInt ∧ (xs (i + 1)).toInt ≤ S.2.1.length then 0 else 1))))]) dL_law_2128 (by decide) rfl ?_
    refine z_aload_n dL_law_2130 rfl ?_
    refine z_aload_n dL_law_2131 rfl ?_
    refine z_iload dL_law_2132 rfl ?_
    refine z_iconst (v := nI 1) dL_law_2134 rfl ?_
    refine z_iadd_n (a := i) (b := 1) dL_law_2135 ?_
    refine z_tabI (a := i + 1) (v := .int (xs (i + 1))) dL_law_2136 hT (by omega) (by omega) rfl ?_
    have hc31 := c_X13_barLoudness (b := 101) h0 hm7 (x := (xs (i + 1)))
    obtain ⟨fs23, hfs24⟩ := hm7.cell
    refine z_callV (As := [.int (xs (i + 1))]) (rest := []) (b := 101) (ci := 12) (R2 := zR 4 0) dL_law_2137 kV_RL_283 rfl ⟨⟨by decide, by decide⟩, by show _ ≤ 603072; simp only [zR]; omega, by show _ ≤ 7207018; simp only [zR]; omega⟩ (by omega) hfs24 rfl rfl rfl (Nat.le_of_ble_eq_true rfl) rfl hc31 (fun E w1 hp => by obtain ⟨_, e, _⟩ := hp; cases e) (fun v w25 hp => ?_)
    obtain ⟨r26, he27, hf28, hm29, hr30⟩ := hp
    cases he27
    have hT1 : ((if 0 ≤ (xs (i + 1)).toInt ∧ (xs (i + 1)).toInt ≤ (S.2.1.length : Nat) then 0 else 1)) = rwP [1] (if 0 ≤ (xs (i + 1)).toInt ∧ (xs (i + 1)).toInt ≤ S.2.1.length then 0 else 1) := by revert hF; (try simp only [spF, fPass, fRest, fIv, fMod, fRep, fPas, fMark, fWin, plc, rwP]); (repeat' split) <;> first | rfl | omega | (intro hF; omega) | contradiction | (intros; contradiction) | (simp; done) | (simp_all; done) | (intros; exfalso; simp_all; done)
    rw [hT1] at hm29
    (try rw [if_neg hk0] at hm29)
    have hx32 := hx4.fr hf28 (Or.inl (by omega))
    have hj33 := (hf28 112 (by omega)).trans hj5
    have hq34 := (hf28 113 (by omega)).trans hq8
    refine z_istore (lv' := [(0, .ref ar), (1, .ref (za g 0)), (2, .ref (za g 101)), (3, .ref (za g 112)), (4, .ref (za g 113)), (5, .int (nI (i))), (6, .int (nI (rwP [1] (if 0 ≤ (xs (i + 1)).toInt ∧ (xs (i + 1)).toInt ≤ S.2.1.length then 0 else 1)))), (7, .int (r26))]) dL_law_2140 (by decide) rfl ?_
    refine z_aload_n dL_law_2142 rfl ?_
    obtain ⟨fs35, hfs36⟩ := hm29.cell
    refine z_callE (As := []) (rest := []) (b := 101) (ci := 12) (v := some (.int (nI (rwP [1] (if 0 ≤ (xs (i + 1)).toInt ∧ (xs (i + 1)).toInt ≤ S.2.1.length then 0 else 1))))) (R2 := zR 0 0) dL_law_2143 kV_RL_156 rfl ⟨⟨by decide, by decide⟩, by show _ ≤ 603072; simp only [zR]; omega, by show _ ≤ 7207018; simp only [zR]; omega⟩ (by omega) hfs36 rfl rfl rfl (Nat.le_of_ble_eq_true rfl) rfl (Mq.th h0 hm29) ?_
    refine z_iload dL_law_2146 rfl ?_
    refine z_icmp_eq_n (a := rwP [1] (if 0 ≤ (xs (i + 1)).toInt ∧ (xs (i + 1)).toInt ≤ S.2.1.length then 0 else 1)) (b := rwP [1] (if 0 ≤ (xs (i + 1)).toInt ∧ (xs (i + 1)).toInt ≤ S.2.1.length then 0 else 1)) (tgt := 2153) dL_law_2148 (by decide) (by simp only [rwP]; (repeat' split) <;> omega) (by simp only [rwP]; (repeat' split) <;> omega) (fun _ => ?_) (fun hq9 => absurd rfl hq9)
    refine z_iload dL_law_2153 rfl ?_
    refine z_if_ne_n (a := rwP [1] (if 0 ≤ (xs (i + 1)).toInt ∧ (xs (i + 1)).toInt ≤ S.2.1.length then 0 else 1)) (tgt := 2170) dL_law_2155 (by decide) (by simp only [rwP]; (repeat' split) <;> omega) (fun _ => ?_) (fun hq9 => absurd hq9 hk0)
    refine z_goto (tgt := 2848) dL_law_2170 (by decide) ?_
    refine z_sub (lv' := [(0, .ref ar), (1, .ref (za g 0)), (2, .ref (za g 101)), (3, .ref (za g 112)), (4, .ref (za g 113)), (5, .int (nI (i)))]) [0, 1, 2, 3, 4, 5] rfl ?_
    exact zTr_wd (by simp only [zR]; omega) (by simp only [zR]; omega) (kk _ _ _ _ _ _ _ _ ⟨hz, hx32, ⟨_, hm29⟩, ⟨_, hj33⟩, ⟨_, hq34⟩⟩)
set_option maxRecDepth 100000 in
set_option maxHeartbeats 4000000 in
theorem lw_case_38 {g : zGT} {w : zW} {S : zSt} {Hs : List zSt} {Sn : Option zSt} {I O : List Nat} {ep fc : Int32} {ar N i ce sl : Nat} {xs : Nat → Int32} {Post : zP} (h0 : zG0 g) (h1 : zST g) (hN : zNC g) (hT : va_T .int ar N (fun j => .int (xs j)) (zA g) (zs g) (zs g).heap) (hL : LwI g w S Hs Sn I O ep fc) (hi : i + 3 < N) (hN9 : N ≤ 2048) (hce : ce + 2 ≤ 603072) (hsl : sl + 12 ≤ 7207018) (kk : ∀ (w' : zW) (S' : zSt) (Hs' : List zSt) (Sn' : Option zSt) (I' O' : List Nat) (ep' fc' : Int32), LwI g w' S' Hs' Sn' I' O' ep' fc' → zTr g mL_law room_1 (ce + 2) (sl + 12) 2848 [(0, .ref ar), (1, .ref (za g 0)), (2, .ref (za g 101)), (3, .ref (za g 112)), (4, .ref (za g 113)), (5, .int (nI (i)))] [] w' Post) : zTr g mL_law room_1 ce sl 2173 [(0, .ref ar), (1, .ref (za g 0)), (2, .ref (za g 101)), (3, .ref (za g 112)), (4, .ref (za g 113)), (5, .int (nI (i)))] [] w Post := by
  obtain ⟨hz, hR0, ⟨t0, hM0⟩, ⟨fJ, hJ0⟩, ⟨fQ, hQ0⟩⟩ := hL
  refine z_aload_n dL_law_2173 rfl ?_
  have hc9 := c_X12_loudestBar (b := 0) h0 h1 hR0
  refine z_callV (As := []) (rest := []) (b := 0) (ci := 11) (R2 := zR 4 0) dL_law_2174 kV_RL_284 rfl ⟨⟨by decide, by decide⟩, by show _ ≤ 603072; simp only [zR]; omega, by show _ ≤ 7207018; simp only [zR]; omega⟩ (by omega) hR0.ce rfl rfl rfl (Nat.le_of_ble_eq_true rfl) rfl hc9 (fun E w1 hp => by obtain ⟨e, _⟩ := hp; cases e) (fun v w3 hp => ?_)
  obtain ⟨he5, hf6, hr8⟩ := hp
  cases he5
  have hm10 := hM0.eq (w1 := w3) (fun k h8 h9 => hf6 k (by omega))
  have hj11 := (hf6 112 (by omega)).trans hJ0
  have hq12 := (hf6 113 (by omega)).trans hQ0
  refine z_aload_n dL_law_2177 rfl ?_
  have hc21 := c_X13_loudestBar (b := 101) h0 hm10
  obtain ⟨fs13, hfs14⟩ := hm10.cell
  refine z_callV (As := []) (rest := [.int ((nI (loudB S S.2.1.length)))]) (b := 101) (ci := 12) (R2 := zR 4 0) dL_law_2178 kV_RL_287 rfl ⟨⟨by decide, by decide⟩, by show _ ≤ 603072; simp only [zR]; omega, by show _ ≤ 7207018; simp only [zR]; omega⟩ (by omega) hfs14 rfl rfl rfl (Nat.le_of_ble_eq_true rfl) rfl hc21 (fun E w1 hp => by obtain ⟨e, _⟩ := hp; cases e) (fun v w15 hp => ?_)
  obtain ⟨he17, hf18, hm19⟩ := hp
  cases he17
  have hx22 := hr8.fr hf18 (Or.inl (by omega))
  have hj23 := (hf18 112 (by omega)).trans hj11
  have hq24 := (hf18 113 (by omega)).trans hq12
  refine z_icmp_eq (tgt := 2848) dL_law_2181 (by decide) (fun _ => ?_) (fun h9 => absurd rfl h9)
  exact zTr_wd (by simp only [zR]; omega) (by simp only [zR]; omega) (kk _ _ _ _ _ _ _ _ ⟨hz, hx22, ⟨_, hm19⟩, ⟨_, hj23⟩, ⟨_, hq24⟩⟩)
set_option maxRecDepth 100000 in
set_option maxHeartbeats 4000000 in
theorem lw_case_39 {g : zGT} {w : zW} {S : zSt} {Hs : List zSt} {Sn : Option zSt} {I O : List Nat} {ep fc : Int32} {ar N i ce sl : Nat} {xs : Nat → Int32} {Post : zP} (h0 : zG0 g) (h1 : zST g) (hN : zNC g) (hT : va_T .int ar N (fun j => .int (xs j)) (zA g) (zs g) (zs g).heap) (hL : LwI g w S Hs Sn I O ep fc) (hi : i + 3 < N) (hN9 : N ≤ 2048) (hce : ce + 2 ≤ 603072) (hsl : sl + 12 ≤ 7207018) (kk : ∀ (w' : zW) (S' : zSt) (Hs' : List zSt) (Sn' : Option zSt) (I' O' : List Nat) (ep' fc' : Int32), LwI g w' S' Hs' Sn' I' O' ep' fc' → zTr g mL_law room_1 (ce + 2) (sl + 12) 2848 [(0, .ref ar), (1, .ref (za g 0)), (2, .ref (za g 101)), (3, .ref (za g 112)), (4, .ref (za g 113)), (5, .int (nI (i)))] [] w' Post) : zTr g mL_law room_1 ce sl 2186 [(0, .ref ar), (1, .ref (za g 0)), (2, .ref (za g 101)), (3, .ref (za g 112)), (4, .ref (za g 113)), (5, .int (nI (i)))] [] w Post := by
  obtain ⟨hz, hR0, ⟨t0, hM0⟩, ⟨fJ, hJ0⟩, ⟨fQ, hQ0⟩⟩ := hL
  refine z_aload_n dL_law_2186 rfl ?_
  refine z_aload_n dL_law_2187 rfl ?_
  refine z_iload dL_law_2188 rfl ?_
  refine z_iconst (v := nI 1) dL_law_2190 rfl ?_
  refine z_iadd_n (a := i) (b := 1) dL_law_2191 ?_
  refine z_tabI (a := i + 1) (v := .int (xs (i + 1))) dL_law_2192 hT (by omega) (by omega) rfl ?_
  refine z_aload_n dL_law_2193 rfl ?_
  refine z_iload dL_law_2194 rfl ?_
  refine z_iconst (v := nI 2) dL_law_2196 rfl ?_
  refine z_iadd_n (a := i) (b := 2) dL_law_2197 ?_
  refine z_tabI (a := i + 2) (v := .int (xs (i + 2))) dL_law_2198 hT (by omega) (by omega) rfl ?_
  refine z_aload_n dL_law_2199 rfl ?_
  have hc6 := c_L_areBarsEqual (b := 0) (c9 := 112) h0 h1 hN hR0 (by omega) (by omega) hJ0 (x := (xs (i + 1))) (y := (xs (i + 2)))
  refine z_callSH (As := [.ref (za g 0), .int (xs (i + 1)), .int (xs (i + 2)), .ref (za g 112)]) (rest := []) (R2 := zR 9 2) dL_law_2200 kSH_288 rfl ⟨⟨by decide, by decide⟩, by show _ ≤ 603072; simp only [zR]; omega, by show _ ≤ 7207018; simp only [zR]; omega⟩ rfl (Nat.le_of_ble_eq_true rfl) rfl hc6 (fun E w1 hp => by obtain ⟨e, _⟩ := hp; cases e) (fun v w1 hp => ?_)
  obtain ⟨he2, hf3, hx4, hj5⟩ := hp
  cases he2
  have hm7 := hM0.eq (w1 := w1) (fun k h8 h9 => hf3 k (by omega) (by omega))
  have hq8 := (hf3 113 (by omega) (by omega)).trans hQ0
  by_cases hF : (if (0 ≤ (xs (i + 1)).toInt ∧ (xs (i + 1)).toInt ≤ S.2.1.length) ∧ (0 ≤ (xs (i + 2)).toInt ∧ (xs (i + 2)).toInt ≤ S.2.1.length) then 0 else 1) = 0
  · refine z_eq (st' := [.int (nI 0)]) rfl (by rw [hF]; rfl) rfl ?_
    (try rw [hF] at hx4)
    rw [hF] at hj5
    (try simp only [↓reduceIte] at hx4)
    simp only [↓reduceIte] at hj5
    refine z_istore (lv' := [(0, .ref ar), (1, .ref (za g 0)), (2, .ref (za g 101)), (3, .ref (za g 112)), (4, .ref (za g 113)), (5, .int (nI (i))), (6, .int (nI (0)))]) dL_law_2203 (by decide) rfl ?_
    refine z_aload_n dL_law_2205 rfl ?_
    refine z_aload_n dL_law_2206 rfl ?_
    refine z_iload dL_law_2207 rfl ?_
    refine z_iconst (v := nI 1) dL_law_2209 rfl ?_
    refine z_iadd_n (a := i) (b := 1) dL_law_2210 ?_
    refine z_tabI (a := i + 1) (v := .int (xs (i + 1))) dL_law_2211 hT (by omega) (by omega) rfl ?_
    refine z_aload_n dL_law_2212 rfl ?_
    refine z_iload dL_law_2213 rfl ?_
    refine z_iconst (v := nI 2) dL_law_2215 rfl ?_
    refine z_iadd_n (a := i) (b := 2) dL_law_2216 ?_
    refine z_tabI (a := i + 2) (v := .int (xs (i + 2))) dL_law_2217 hT (by omega) (by omega) rfl ?_
    have hc17 := c_X13_areBarsEqual (b := 101) h0 hm7 (x := (xs (i + 1))) (y := (xs (i + 2)))
    obtain ⟨fs9, hfs10⟩ := hm7.cell
    refine z_callV (As := [.int (xs (i + 1)), .int (xs (i + 2))]) (rest := []) (b := 101) (ci := 12) (R2 := zR 4 0) dL_law_2218 kV_RL_290 rfl ⟨⟨by decide, by decide⟩, by show _ ≤ 603072; simp only [zR]; omega, by show _ ≤ 7207018; simp only [zR]; omega⟩ (by omega) hfs10 rfl rfl rfl (Nat.le_of_ble_eq_true rfl) rfl hc17 (fun E w1 hp => by obtain ⟨_, e, _⟩ := hp; cases e) (fun v w11 hp => ?_)
    obtain ⟨r12, he13, hf14, hm15, hr16⟩ := hp
    cases he13
    have hT0 : ((if (0 ≤ (xs (i + 1)).toInt ∧ (xs (i + 1)).toInt ≤ (S.2.1.length : Nat)) ∧ (0 ≤ (xs (i + 2)).toInt ∧ (xs (i + 2)).toInt ≤ (S.2.1.length : Nat)) then 0 else 1)) = 0 := by revert hF; (try simp only [spF, fPass, fRest, fIv, fMod, fRep, fPas, fMark, fWin, plc, rwP]); (repeat' split) <;> first | rfl | omega | (intro hF; omega) | contradiction | (intros; contradiction) | (simp; done) | (simp_all; done) | (intros; exfalso; simp_all; done)
    replace hr16 := hr16 (by first | exact hF | exact hT0 | (refine Decidable.byContradiction fun z => ?_; rw [if_neg z] at hT0; exact absurd hT0 (by decide)))
    rw [hT0] at hm15
    (try simp only [↓reduceIte] at hm15)
    have hx18 := hx4.fr hf14 (Or.inl (by omega))
    have hj19 := (hf14 112 (by omega)).trans hj5
    have hq20 := (hf14 113 (by omega)).trans hq8
    refine z_istore (lv' := [(0, .ref ar), (1, .ref (za g 0)), (2, .ref (za g 101)), (3, .ref (za g 112)), (4, .ref (za g 113)), (5, .int (nI (i))), (6, .int (nI (0))), (7, .int (r12))]) dL_law_2221 (by decide) rfl ?_
    refine z_aload_n dL_law_2223 rfl ?_
    obtain ⟨fs21, hfs22⟩ := hm15.cell
    refine z_callE (As := []) (rest := []) (b := 101) (ci := 12) (v := some (.int (nI (0)))) (R2 := zR 0 0) dL_law_2224 kV_RL_156 rfl ⟨⟨by decide, by decide⟩, by show _ ≤ 603072; simp only [zR]; omega, by show _ ≤ 7207018; simp only [zR]; omega⟩ (by omega) hfs22 rfl rfl rfl (Nat.le_of_ble_eq_true rfl) rfl (Mq.th h0 hm15) ?_
    refine z_iload dL_law_2227 rfl ?_
    refine z_icmp_eq_n (a := 0) (b := 0) (tgt := 2234) dL_law_2229 (by decide) (by omega) (by omega) (fun _ => ?_) (fun hq9 => absurd rfl hq9)
    refine z_iload dL_law_2234 rfl ?_
    refine z_if_ne_n (a := 0) (tgt := 2258) dL_law_2236 (by decide) (by decide) (fun hq9 => absurd rfl hq9) (fun _ => ?_)
    refine z_aload_n dL_law_2239 rfl ?_
    refine z_iconst (v := nI 0) dL_law_2240 rfl ?_
    refine z_lald (j := 112) (N := 1) (i := nI 0) dL_law_2241 (by omega) hj19 (vp_in_nI (by decide) (by decide)) ?_
    refine z_eq (st' := [.long ((if (eqBarV S (xs (i + 1)).toInt.toNat (xs (i + 2)).toInt.toNat) = 0 then 0 else 1))]) rfl (by rw [nI_clamp (by decide)]; simp [vp_updL]) rfl ?_
    refine z_iload dL_law_2242 rfl ?_
    have hA : (eqBarV S (xs (i + 1)).toInt.toNat (xs (i + 2)).toInt.toNat) = 0 ∨ (eqBarV S (xs (i + 1)).toInt.toNat (xs (i + 2)).toInt.toNat) = 1 := by classical exact (if h : eqBar _ _ _ then Or.inr (eqBarV_y h) else Or.inl (eqBarV_n h))
    rcases hA with eA | eA
    · refine z_eq (st' := [.int (nI 0), .long 0]) rfl (by rw [hr16, eA]; rfl) rfl ?_
      refine z_if_eq_n (a := 0) (tgt := 2251) dL_law_2244 (by decide) (by decide) (fun _ => ?_) (fun hq9 => absurd rfl hq9)
      refine z_lconst (v := 0) dL_law_2251 rfl ?_
      refine z_lcmp dL_law_2252 ?_
      refine z_eq (st' := [.int (nI 0)]) rfl (by rw [lg_self]) rfl ?_
      refine z_if_eq_n (a := 0) (tgt := 2258) dL_law_2253 (by decide) (by decide) (fun _ => ?_) (fun hq9 => absurd rfl hq9)
      refine z_goto (tgt := 2848) dL_law_2258 (by decide) ?_
      refine z_sub (lv' := [(0, .ref ar), (1, .ref (za g 0)), (2, .ref (za g 101)), (3, .ref (za g 112)), (4, .ref (za g 113)), (5, .int (nI (i)))]) [0, 1, 2, 3, 4, 5] rfl ?_
      exact zTr_wd (by simp only [zR]; omega) (by simp only [zR]; omega) (kk _ _ _ _ _ _ _ _ ⟨hz, hx18, ⟨_, hm15⟩, ⟨_, hj19⟩, ⟨_, hq20⟩⟩)
    · refine z_eq (st' := [.int (nI 1), .long 1]) rfl (by rw [hr16, eA]; rfl) rfl ?_
      refine z_if_eq_n (a := 1) (tgt := 2251) dL_law_2244 (by decide) (by decide) (fun hq9 => absurd hq9 (by decide)) (fun _ => ?_)
      refine z_lconst (v := 1) dL_law_2247 rfl ?_
      refine z_goto (tgt := 2252) dL_law_2248 (by decide) ?_
      refine z_lcmp dL_law_2252 ?_
      refine z_eq (st' := [.int (nI 0)]) rfl (by rw [lg_self]) rfl ?_
      refine z_if_eq_n (a := 0) (tgt := 2258) dL_law_2253 (by decide) (by decide) (fun _ => ?_) (fun hq9 => absurd rfl hq9)
      refine z_goto (tgt := 2848) dL_law_2258 (by decide) ?_
      refine z_sub (lv' := [(0, .ref ar), (1, .ref (za g 0)), (2, .ref (za g 101)), (3, .ref (za g 112)), (4, .ref (za g 113)), (5, .int (nI (i)))]) [0, 1, 2, 3, 4, 5] rfl ?_
      exact zTr_wd (by simp only [zR]; omega) (by simp only [zR]; omega) (kk _ _ _ _ _ _ _ _ ⟨hz, hx18, ⟨_, hm15⟩, ⟨_, hj19⟩, ⟨_, hq20⟩⟩)
  · (first | rw [if_neg hF, if_neg hF] at hx4 | rw [if_neg hF] at hx4 | skip)
    rw [if_neg hF] at hj5
    have hk0 : rwP [1] (if (0 ≤ (xs (i + 1)).toInt ∧ (xs (i + 1)).toInt ≤ S.2.1.length) ∧ (0 ≤ (xs (i + 2)).toInt ∧ (xs (i + 2)).toInt ≤ S.2.1.length) then 0 else 1) ≠ 0 := by revert hF; (try simp only [spF, fPass, fRest, fIv, fMod, fRep, fPas, fMark, fWin, plc, rwP]); (repeat' split) <;> first | rfl | omega | (intro hF; omega) | contradiction | (intros; contradiction) | (simp; done) | (simp_all; done) | (intros; exfalso; simp_all; done)
    refine z_istore (lv' := [(0, .ref ar), (1, .ref (za g 0)), (2, .ref (za g 101)), (3, .ref (za g 112)), (4, .ref (za g 113)), (5, .int (nI (i))), (6, .int (nI (rwP [1] (if (0 ≤ (xs (i + 1)).toInt ∧ (xs (i + 1)).toInt ≤ S.2.1.length) ∧ (0 ≤ (xs (i + 2)).toInt ∧ (xs (i + 2)).toInt ≤ S.2.1.length) then 0 else 1))))]) dL_law_2203 (by decide) rfl ?_
    refine z_aload_n dL_law_2205 rfl ?_
    refine z_aload_n dL_law_2206 rfl ?_
    refine z_iload dL_law_2207 rfl ?_
    refine z_iconst (v := nI 1) dL_law_2209 rfl ?_
    refine z_iadd_n (a := i) (b := 1) dL_law_2210 ?_
    refine z_tabI (a := i + 1) (v := .int (xs (i + 1))) dL_law_2211 hT (by omega) (by omega) rfl ?_
    refine z_aload_n dL_law_2212 rfl ?_
    refine z_iload dL_law_2213 rfl ?_
    refine z_iconst (v := nI 2) dL_law_2215 rfl ?_
    refine z_iadd_n (a := i) (b := 2) dL_law_2216 ?_
    refine z_tabI (a := i + 2) (v := .int (xs (i + 2))) dL_law_2217 hT (by omega) (by omega) rfl ?_
    have hc31 := c_X13_areBarsEqual (b := 101) h0 hm7 (x := (xs (i + 1))) (y := (xs (i + 2)))
    obtain ⟨fs23, hfs24⟩ := hm7.cell
    refine z_callV (As := [.int (xs (i + 1)), .int (xs (i + 2))]) (rest := []) (b := 101) (ci := 12) (R2 := zR 4 0) dL_law_2218 kV_RL_290 rfl ⟨⟨by decide, by decide⟩, by show _ ≤ 603072; simp only [zR]; omega, by show _ ≤ 7207018; simp only [zR]; omega⟩ (by omega) hfs24 rfl rfl rfl (Nat.le_of_ble_eq_true rfl) rfl hc31 (fun E w1 hp => by obtain ⟨_, e, _⟩ := hp; cases e) (fun v w25 hp => ?_)
    obtain ⟨r26, he27, hf28, hm29, hr30⟩ := hp
    cases he27
    have hT1 : ((if (0 ≤ (xs (i + 1)).toInt ∧ (xs (i + 1)).toInt ≤ (S.2.1.length : Nat)) ∧ (0 ≤ (xs (i + 2)).toInt ∧ (xs (i + 2)).toInt ≤ (S.2.1.length : Nat)) then 0 else 1)) = rwP [1] (if (0 ≤ (xs (i + 1)).toInt ∧ (xs (i + 1)).toInt ≤ S.2.1.length) ∧ (0 ≤ (xs (i + 2)).toInt ∧ (xs (i + 2)).toInt ≤ S.2.1.length) then 0 else 1) := by revert hF; (try simp only [spF, fPass, fRest, fIv, fMod, fRep, fPas, fMark, fWin, plc, rwP]); (repeat' split) <;> first | rfl | omega | (intro hF; omega) | contradiction | (intros; contradiction) | (simp; done) | (simp_all; done) | (intros; exfalso; simp_all; done)
    rw [hT1] at hm29
    (try rw [if_neg hk0] at hm29)
    have hx32 := hx4.fr hf28 (Or.inl (by omega))
    have hj33 := (hf28 112 (by omega)).trans hj5
    have hq34 := (hf28 113 (by omega)).trans hq8
    refine z_istore (lv' := [(0, .ref ar), (1, .ref (za g 0)), (2, .ref (za g 101)), (3, .ref (za g 112)), (4, .ref (za g 113)), (5, .int (nI (i))), (6, .int (nI (rwP [1] (if (0 ≤ (xs (i + 1)).toInt ∧ (xs (i + 1)).toInt ≤ S.2.1.length) ∧ (0 ≤ (xs (i + 2)).toInt ∧ (xs (i + 2)).toInt ≤ S.2.1.length) then 0 else 1)))), (7, .int (r26))]) dL_law_2221 (by decide) rfl ?_
    refine z_aload_n dL_law_2223 rfl ?_
    obtain ⟨fs35, hfs36⟩ := hm29.cell
    refine z_callE (As := []) (rest := []) (b := 101) (ci := 12) (v := some (.int (nI (rwP [1] (if (0 ≤ (xs (i + 1)).toInt ∧ (xs (i + 1)).toInt ≤ S.2.1.length) ∧ (0 ≤ (xs (i + 2)).toInt ∧ (xs (i + 2)).toInt ≤ S.2.1.length) then 0 else 1))))) (R2 := zR 0 0) dL_law_2224 kV_RL_156 rfl ⟨⟨by decide, by decide⟩, by show _ ≤ 603072; simp only [zR]; omega, by show _ ≤ 7207018; simp only [zR]; omega⟩ (by omega) hfs36 rfl rfl rfl (Nat.le_of_ble_eq_true rfl) rfl (Mq.th h0 hm29) ?_
    refine z_iload dL_law_2227 rfl ?_
    refine z_icmp_eq_n (a := rwP [1] (if (0 ≤ (xs (i + 1)).toInt ∧ (xs (i + 1)).toInt ≤ S.2.1.length) ∧ (0 ≤ (xs (i + 2)).toInt ∧ (xs (i + 2)).toInt ≤ S.2.1.length) then 0 else 1)) (b := rwP [1] (if (0 ≤ (xs (i + 1)).toInt ∧ (xs (i + 1)).toInt ≤ S.2.1.length) ∧ (0 ≤ (xs (i + 2)).toInt ∧ (xs (i + 2)).toInt ≤ S.2.1.length) then 0 else 1)) (tgt := 2234) dL_law_2229 (by decide) (by simp only [rwP]; (repeat' split) <;> omega) (by simp only [rwP]; (repeat' split) <;> omega) (fun _ => ?_) (fun hq9 => absurd rfl hq9)
    refine z_iload dL_law_2234 rfl ?_
    refine z_if_ne_n (a := rwP [1] (if (0 ≤ (xs (i + 1)).toInt ∧ (xs (i + 1)).toInt ≤ S.2.1.length) ∧ (0 ≤ (xs (i + 2)).toInt ∧ (xs (i + 2)).toInt ≤ S.2.1.length) then 0 else 1)) (tgt := 2258) dL_law_2236 (by decide) (by simp only [rwP]; (repeat' split) <;> omega) (fun _ => ?_) (fun hq9 => absurd hq9 hk0)
    refine z_goto (tgt := 2848) dL_law_2258 (by decide) ?_
    refine z_sub (lv' := [(0, .ref ar), (1, .ref (za g 0)), (2, .ref (za g 101)), (3, .ref (za g 112)), (4, .ref (za g 113)), (5, .int (nI (i)))]) [0, 1, 2, 3, 4, 5] rfl ?_
    exact zTr_wd (by simp only [zR]; omega) (by simp only [zR]; omega) (kk _ _ _ _ _ _ _ _ ⟨hz, hx32, ⟨_, hm29⟩, ⟨_, hj33⟩, ⟨_, hq34⟩⟩)
