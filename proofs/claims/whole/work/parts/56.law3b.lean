set_option maxRecDepth 100000 in
set_option maxHeartbeats 4000000 in
theorem lw_case_8 {g : zGT} {w : zW} {S : zSt} {Hs : List zSt} {Sn : Option zSt} {I O : List Nat} {ep fc : Int32} {ar N i ce sl : Nat} {xs : Nat → Int32} {Post : zP} (h0 : zG0 g) (h1 : zST g) (hN : zNC g) (hT : va_T .int ar N (fun j => .int (xs j)) (zA g) (zs g) (zs g).heap) (hL : LwI g w S Hs Sn I O ep fc) (hi : i + 3 < N) (hN9 : N ≤ 2048) (hce : ce + 2 ≤ 603072) (hsl : sl + 12 ≤ 7207018) (kk : ∀ (w' : zW) (S' : zSt) (Hs' : List zSt) (Sn' : Option zSt) (I' O' : List Nat) (ep' fc' : Int32), LwI g w' S' Hs' Sn' I' O' ep' fc' → zTr g mL_law room_1 (ce + 2) (sl + 12) 2848 [(0, .ref ar), (1, .ref (za g 0)), (2, .ref (za g 101)), (3, .ref (za g 112)), (4, .ref (za g 113)), (5, .int (nI (i)))] [] w' Post) : zTr g mL_law room_1 ce sl 871 [(0, .ref ar), (1, .ref (za g 0)), (2, .ref (za g 101)), (3, .ref (za g 112)), (4, .ref (za g 113)), (5, .int (nI (i)))] [] w Post := by
  obtain ⟨hz, hR0, ⟨t0, hM0⟩, ⟨fJ, hJ0⟩, ⟨fQ, hQ0⟩⟩ := hL
  refine z_aload_n dL_law_871 rfl ?_
  refine z_aload_n dL_law_872 rfl ?_
  refine z_iload dL_law_873 rfl ?_
  refine z_iconst (v := nI 1) dL_law_875 rfl ?_
  refine z_iadd_n (a := i) (b := 1) dL_law_876 ?_
  refine z_tabI (a := i + 1) (v := .int (xs (i + 1))) dL_law_877 hT (by omega) (by omega) rfl ?_
  refine z_aload_n dL_law_878 rfl ?_
  have hc6 := c_L_paste (b := 0) (c9 := 112) h0 h1 hN hR0 (by omega) (by omega) hJ0 (x := (xs (i + 1)))
  rw [nI0] at hc6
  refine z_callSH (As := [.ref (za g 0), .int (xs (i + 1)), .ref (za g 112)]) (rest := []) (R2 := zR 9 2) dL_law_879 kSH_181 rfl ⟨⟨by decide, by decide⟩, by show _ ≤ 603072; simp only [zR]; omega, by show _ ≤ 7207018; simp only [zR]; omega⟩ rfl (Nat.le_of_ble_eq_true rfl) rfl hc6 (fun E w1 hp => by obtain ⟨e, _⟩ := hp; cases e) (fun v w1 hp => ?_)
  obtain ⟨he2, hf3, hx4, hj5⟩ := hp
  cases he2
  have hm7 := hM0.eq (w1 := w1) (fun k h8 h9 => hf3 k (by omega) (by omega))
  have hq8 := (hf3 113 (by omega) (by omega)).trans hQ0
  by_cases hF : (spF 8 ((xs (i + 1))).toInt 0 0 S) = 0
  · refine z_eq (st' := [.int (nI 0)]) rfl (by rw [hF]; rfl) rfl ?_
    (try rw [hF] at hx4)
    rw [hF] at hj5
    (try simp only [↓reduceIte] at hx4)
    simp only [↓reduceIte] at hj5
    refine z_istore (lv' := [(0, .ref ar), (1, .ref (za g 0)), (2, .ref (za g 101)), (3, .ref (za g 112)), (4, .ref (za g 113)), (5, .int (nI (i))), (6, .int (nI (0)))]) dL_law_882 (by decide) rfl ?_
    refine z_aload_n dL_law_884 rfl ?_
    refine z_aload_n dL_law_885 rfl ?_
    refine z_iload dL_law_886 rfl ?_
    refine z_iconst (v := nI 1) dL_law_888 rfl ?_
    refine z_iadd_n (a := i) (b := 1) dL_law_889 ?_
    refine z_tabI (a := i + 1) (v := .int (xs (i + 1))) dL_law_890 hT (by omega) (by omega) rfl ?_
    have hc17 := c_X13_paste (b := 101) h0 hm7 (x := (xs (i + 1)))
    obtain ⟨fs9, hfs10⟩ := hm7.cell
    refine z_callV (As := [.int (xs (i + 1))]) (rest := []) (b := 101) (ci := 12) (R2 := zR 3 0) dL_law_891 kV_RL_184 rfl ⟨⟨by decide, by decide⟩, by show _ ≤ 603072; simp only [zR]; omega, by show _ ≤ 7207018; simp only [zR]; omega⟩ (by omega) hfs10 rfl rfl rfl (Nat.le_of_ble_eq_true rfl) rfl hc17 (fun E w1 hp => by obtain ⟨_, e, _⟩ := hp; cases e) (fun v w11 hp => ?_)
    obtain ⟨r12, he13, hf14, hm15, hr16⟩ := hp
    cases he13
    have hT0 : ((plc 8 (spF 8 (xs (i + 1)).toInt 0 0 S))) = 0 := by revert hF; (try simp only [spF, fPass, fRest, fIv, fMod, fRep, fPas, fMark, fWin, plc, rwP]); (repeat' split) <;> first | rfl | omega | (intro hF; omega) | contradiction | (intros; contradiction) | (simp; done) | (simp_all; done) | (intros; exfalso; simp_all; done)
    replace hr16 := hr16 (by first | exact hF | exact hT0 | (refine Decidable.byContradiction fun z => ?_; rw [if_neg z] at hT0; exact absurd hT0 (by decide)))
    rw [hT0] at hm15
    rw [if_pos (by first | exact hF | exact hT0), if_pos (by first | exact hF | exact hT0)] at hm15
    have hx18 := hx4.fr hf14 (Or.inl (by omega))
    have hj19 := (hf14 112 (by omega)).trans hj5
    have hq20 := (hf14 113 (by omega)).trans hq8
    refine z_istore (lv' := [(0, .ref ar), (1, .ref (za g 0)), (2, .ref (za g 101)), (3, .ref (za g 112)), (4, .ref (za g 113)), (5, .int (nI (i))), (6, .int (nI (0))), (7, .int (r12))]) dL_law_894 (by decide) rfl ?_
    refine z_aload_n dL_law_896 rfl ?_
    obtain ⟨fs21, hfs22⟩ := hm15.cell
    refine z_callE (As := []) (rest := []) (b := 101) (ci := 12) (v := some (.int (nI (0)))) (R2 := zR 0 0) dL_law_897 kV_RL_156 rfl ⟨⟨by decide, by decide⟩, by show _ ≤ 603072; simp only [zR]; omega, by show _ ≤ 7207018; simp only [zR]; omega⟩ (by omega) hfs22 rfl rfl rfl (Nat.le_of_ble_eq_true rfl) rfl (Mq.th h0 hm15) ?_
    refine z_iload dL_law_900 rfl ?_
    refine z_icmp_eq_n (a := 0) (b := 0) (tgt := 907) dL_law_902 (by decide) (by omega) (by omega) (fun _ => ?_) (fun hq9 => absurd rfl hq9)
    refine z_iload dL_law_907 rfl ?_
    refine z_if_ne_n (a := 0) (tgt := 924) dL_law_909 (by decide) (by decide) (fun hq9 => absurd rfl hq9) (fun _ => ?_)
    refine z_aload_n dL_law_912 rfl ?_
    refine z_iconst (v := nI 0) dL_law_913 rfl ?_
    refine z_lald (j := 112) (N := 1) (i := nI 0) dL_law_914 (by omega) hj19 (vp_in_nI (by decide) (by decide)) ?_
    refine z_eq (st' := [.long ((nI (spA 8 ((xs (i + 1))).toInt 0 0 S)).toInt64)]) rfl (by rw [nI_clamp (by decide)]; simp [vp_updL]) rfl ?_
    refine z_iload dL_law_915 rfl ?_
    refine z_i2l dL_law_917 ?_
    refine z_lcmp dL_law_918 ?_
    refine z_eq (st' := [.int (nI 0)]) rfl (by rw [hr16, lg_self]) rfl ?_
    refine z_if_eq_n (a := 0) (tgt := 924) dL_law_919 (by decide) (by decide) (fun _ => ?_) (fun hq9 => absurd rfl hq9)
    refine z_goto (tgt := 2848) dL_law_924 (by decide) ?_
    refine z_sub (lv' := [(0, .ref ar), (1, .ref (za g 0)), (2, .ref (za g 101)), (3, .ref (za g 112)), (4, .ref (za g 113)), (5, .int (nI (i)))]) [0, 1, 2, 3, 4, 5] rfl ?_
    exact zTr_wd (by simp only [zR]; omega) (by simp only [zR]; omega) (kk _ _ _ _ _ _ _ _ ⟨hz, hx18, ⟨_, hm15⟩, ⟨_, hj19⟩, ⟨_, hq20⟩⟩)
  · (first | rw [if_neg hF, if_neg hF] at hx4 | rw [if_neg hF] at hx4 | skip)
    rw [if_neg hF] at hj5
    have hk0 : rwP [1, 4, 3] (spF 8 ((xs (i + 1))).toInt 0 0 S) ≠ 0 := by revert hF; (try simp only [spF, fPass, fRest, fIv, fMod, fRep, fPas, fMark, fWin, plc, rwP]); (repeat' split) <;> first | rfl | omega | (intro hF; omega) | contradiction | (intros; contradiction) | (simp; done) | (simp_all; done) | (intros; exfalso; simp_all; done)
    refine z_istore (lv' := [(0, .ref ar), (1, .ref (za g 0)), (2, .ref (za g 101)), (3, .ref (za g 112)), (4, .ref (za g 113)), (5, .int (nI (i))), (6, .int (nI (rwP [1, 4, 3] (spF 8 ((xs (i + 1))).toInt 0 0 S))))]) dL_law_882 (by decide) rfl ?_
    refine z_aload_n dL_law_884 rfl ?_
    refine z_aload_n dL_law_885 rfl ?_
    refine z_iload dL_law_886 rfl ?_
    refine z_iconst (v := nI 1) dL_law_888 rfl ?_
    refine z_iadd_n (a := i) (b := 1) dL_law_889 ?_
    refine z_tabI (a := i + 1) (v := .int (xs (i + 1))) dL_law_890 hT (by omega) (by omega) rfl ?_
    have hc31 := c_X13_paste (b := 101) h0 hm7 (x := (xs (i + 1)))
    obtain ⟨fs23, hfs24⟩ := hm7.cell
    refine z_callV (As := [.int (xs (i + 1))]) (rest := []) (b := 101) (ci := 12) (R2 := zR 3 0) dL_law_891 kV_RL_184 rfl ⟨⟨by decide, by decide⟩, by show _ ≤ 603072; simp only [zR]; omega, by show _ ≤ 7207018; simp only [zR]; omega⟩ (by omega) hfs24 rfl rfl rfl (Nat.le_of_ble_eq_true rfl) rfl hc31 (fun E w1 hp => by obtain ⟨_, e, _⟩ := hp; cases e) (fun v w25 hp => ?_)
    obtain ⟨r26, he27, hf28, hm29, hr30⟩ := hp
    cases he27
    have hT1 : ((plc 8 (spF 8 (xs (i + 1)).toInt 0 0 S))) = rwP [1, 4, 3] (spF 8 ((xs (i + 1))).toInt 0 0 S) := by revert hF; (try simp only [spF, fPass, fRest, fIv, fMod, fRep, fPas, fMark, fWin, plc, rwP]); (repeat' split) <;> first | rfl | omega | (intro hF; omega) | contradiction | (intros; contradiction) | (simp; done) | (simp_all; done) | (intros; exfalso; simp_all; done)
    rw [hT1] at hm29
    rw [if_neg (fun z => hF z), if_neg (fun z => hF z)] at hm29
    have hx32 := hx4.fr hf28 (Or.inl (by omega))
    have hj33 := (hf28 112 (by omega)).trans hj5
    have hq34 := (hf28 113 (by omega)).trans hq8
    refine z_istore (lv' := [(0, .ref ar), (1, .ref (za g 0)), (2, .ref (za g 101)), (3, .ref (za g 112)), (4, .ref (za g 113)), (5, .int (nI (i))), (6, .int (nI (rwP [1, 4, 3] (spF 8 ((xs (i + 1))).toInt 0 0 S)))), (7, .int (r26))]) dL_law_894 (by decide) rfl ?_
    refine z_aload_n dL_law_896 rfl ?_
    obtain ⟨fs35, hfs36⟩ := hm29.cell
    refine z_callE (As := []) (rest := []) (b := 101) (ci := 12) (v := some (.int (nI (rwP [1, 4, 3] (spF 8 ((xs (i + 1))).toInt 0 0 S))))) (R2 := zR 0 0) dL_law_897 kV_RL_156 rfl ⟨⟨by decide, by decide⟩, by show _ ≤ 603072; simp only [zR]; omega, by show _ ≤ 7207018; simp only [zR]; omega⟩ (by omega) hfs36 rfl rfl rfl (Nat.le_of_ble_eq_true rfl) rfl (Mq.th h0 hm29) ?_
    refine z_iload dL_law_900 rfl ?_
    refine z_icmp_eq_n (a := rwP [1, 4, 3] (spF 8 ((xs (i + 1))).toInt 0 0 S)) (b := rwP [1, 4, 3] (spF 8 ((xs (i + 1))).toInt 0 0 S)) (tgt := 907) dL_law_902 (by decide) (by simp only [rwP]; (repeat' split) <;> omega) (by simp only [rwP]; (repeat' split) <;> omega) (fun _ => ?_) (fun hq9 => absurd rfl hq9)
    refine z_iload dL_law_907 rfl ?_
    refine z_if_ne_n (a := rwP [1, 4, 3] (spF 8 ((xs (i + 1))).toInt 0 0 S)) (tgt := 924) dL_law_909 (by decide) (by simp only [rwP]; (repeat' split) <;> omega) (fun _ => ?_) (fun hq9 => absurd hq9 hk0)
    refine z_goto (tgt := 2848) dL_law_924 (by decide) ?_
    refine z_sub (lv' := [(0, .ref ar), (1, .ref (za g 0)), (2, .ref (za g 101)), (3, .ref (za g 112)), (4, .ref (za g 113)), (5, .int (nI (i)))]) [0, 1, 2, 3, 4, 5] rfl ?_
    exact zTr_wd (by simp only [zR]; omega) (by simp only [zR]; omega) (kk _ _ _ _ _ _ _ _ ⟨hz, hx32, ⟨_, hm29⟩, ⟨_, hj33⟩, ⟨_, hq34⟩⟩)
set_option maxRecDepth 100000 in
set_option maxHeartbeats 4000000 in
theorem lw_case_9 {g : zGT} {w : zW} {S : zSt} {Hs : List zSt} {Sn : Option zSt} {I O : List Nat} {ep fc : Int32} {ar N i ce sl : Nat} {xs : Nat → Int32} {Post : zP} (h0 : zG0 g) (h1 : zST g) (hN : zNC g) (hT : va_T .int ar N (fun j => .int (xs j)) (zA g) (zs g) (zs g).heap) (hL : LwI g w S Hs Sn I O ep fc) (hi : i + 3 < N) (hN9 : N ≤ 2048) (hce : ce + 2 ≤ 603072) (hsl : sl + 12 ≤ 7207018) (kk : ∀ (w' : zW) (S' : zSt) (Hs' : List zSt) (Sn' : Option zSt) (I' O' : List Nat) (ep' fc' : Int32), LwI g w' S' Hs' Sn' I' O' ep' fc' → zTr g mL_law room_1 (ce + 2) (sl + 12) 2848 [(0, .ref ar), (1, .ref (za g 0)), (2, .ref (za g 101)), (3, .ref (za g 112)), (4, .ref (za g 113)), (5, .int (nI (i)))] [] w' Post) : zTr g mL_law room_1 ce sl 927 [(0, .ref ar), (1, .ref (za g 0)), (2, .ref (za g 101)), (3, .ref (za g 112)), (4, .ref (za g 113)), (5, .int (nI (i)))] [] w Post := by
  obtain ⟨hz, hR0, ⟨t0, hM0⟩, ⟨fJ, hJ0⟩, ⟨fQ, hQ0⟩⟩ := hL
  refine z_aload_n dL_law_927 rfl ?_
  refine z_aload_n dL_law_928 rfl ?_
  refine z_iload dL_law_929 rfl ?_
  refine z_iconst (v := nI 1) dL_law_931 rfl ?_
  refine z_iadd_n (a := i) (b := 1) dL_law_932 ?_
  refine z_tabI (a := i + 1) (v := .int (xs (i + 1))) dL_law_933 hT (by omega) (by omega) rfl ?_
  refine z_aload_n dL_law_934 rfl ?_
  have hc6 := c_L_addMarker (b := 0) (c9 := 112) h0 h1 hN hR0 (by omega) (by omega) hJ0 (x := (xs (i + 1)))
  rw [nI0] at hc6
  refine z_callSH (As := [.ref (za g 0), .int (xs (i + 1)), .ref (za g 112)]) (rest := []) (R2 := zR 9 2) dL_law_935 kSH_185 rfl ⟨⟨by decide, by decide⟩, by show _ ≤ 603072; simp only [zR]; omega, by show _ ≤ 7207018; simp only [zR]; omega⟩ rfl (Nat.le_of_ble_eq_true rfl) rfl hc6 (fun E w1 hp => by obtain ⟨e, _⟩ := hp; cases e) (fun v w1 hp => ?_)
  obtain ⟨he2, hf3, hx4, hj5⟩ := hp
  cases he2
  have hm7 := hM0.eq (w1 := w1) (fun k h8 h9 => hf3 k (by omega) (by omega))
  have hq8 := (hf3 113 (by omega) (by omega)).trans hQ0
  by_cases hF : (spF 9 ((xs (i + 1))).toInt 0 0 S) = 0
  · refine z_eq (st' := [.int (nI 0)]) rfl (by rw [hF]; rfl) rfl ?_
    (try rw [hF] at hx4)
    rw [hF] at hj5
    (try simp only [↓reduceIte] at hx4)
    simp only [↓reduceIte] at hj5
    refine z_istore (lv' := [(0, .ref ar), (1, .ref (za g 0)), (2, .ref (za g 101)), (3, .ref (za g 112)), (4, .ref (za g 113)), (5, .int (nI (i))), (6, .int (nI (0)))]) dL_law_938 (by decide) rfl ?_
    refine z_aload_n dL_law_940 rfl ?_
    refine z_aload_n dL_law_941 rfl ?_
    refine z_iload dL_law_942 rfl ?_
    refine z_iconst (v := nI 1) dL_law_944 rfl ?_
    refine z_iadd_n (a := i) (b := 1) dL_law_945 ?_
    refine z_tabI (a := i + 1) (v := .int (xs (i + 1))) dL_law_946 hT (by omega) (by omega) rfl ?_
    have hc17 := c_X13_addMarker (b := 101) h0 hm7 (x := (xs (i + 1)))
    obtain ⟨fs9, hfs10⟩ := hm7.cell
    refine z_callV (As := [.int (xs (i + 1))]) (rest := []) (b := 101) (ci := 12) (R2 := zR 3 0) dL_law_947 kV_RL_187 rfl ⟨⟨by decide, by decide⟩, by show _ ≤ 603072; simp only [zR]; omega, by show _ ≤ 7207018; simp only [zR]; omega⟩ (by omega) hfs10 rfl rfl rfl (Nat.le_of_ble_eq_true rfl) rfl hc17 (fun E w1 hp => by obtain ⟨_, e, _⟩ := hp; cases e) (fun v w11 hp => ?_)
    obtain ⟨r12, he13, hf14, hm15, hr16⟩ := hp
    cases he13
    have hT0 : ((plc 9 (spF 9 (xs (i + 1)).toInt 0 0 S))) = 0 := by revert hF; (try simp only [spF, fPass, fRest, fIv, fMod, fRep, fPas, fMark, fWin, plc, rwP]); (repeat' split) <;> first | rfl | omega | (intro hF; omega) | contradiction | (intros; contradiction) | (simp; done) | (simp_all; done) | (intros; exfalso; simp_all; done)
    replace hr16 := hr16 (by first | exact hF | exact hT0 | (refine Decidable.byContradiction fun z => ?_; rw [if_neg z] at hT0; exact absurd hT0 (by decide)))
    rw [hT0] at hm15
    rw [if_pos (by first | exact hF | exact hT0), if_pos (by first | exact hF | exact hT0)] at hm15
    have hx18 := hx4.fr hf14 (Or.inl (by omega))
    have hj19 := (hf14 112 (by omega)).trans hj5
    have hq20 := (hf14 113 (by omega)).trans hq8
    refine z_istore (lv' := [(0, .ref ar), (1, .ref (za g 0)), (2, .ref (za g 101)), (3, .ref (za g 112)), (4, .ref (za g 113)), (5, .int (nI (i))), (6, .int (nI (0))), (7, .int (r12))]) dL_law_950 (by decide) rfl ?_
    refine z_aload_n dL_law_952 rfl ?_
    obtain ⟨fs21, hfs22⟩ := hm15.cell
    refine z_callE (As := []) (rest := []) (b := 101) (ci := 12) (v := some (.int (nI (0)))) (R2 := zR 0 0) dL_law_953 kV_RL_156 rfl ⟨⟨by decide, by decide⟩, by show _ ≤ 603072; simp only [zR]; omega, by show _ ≤ 7207018; simp only [zR]; omega⟩ (by omega) hfs22 rfl rfl rfl (Nat.le_of_ble_eq_true rfl) rfl (Mq.th h0 hm15) ?_
    refine z_iload dL_law_956 rfl ?_
    refine z_icmp_eq_n (a := 0) (b := 0) (tgt := 963) dL_law_958 (by decide) (by omega) (by omega) (fun _ => ?_) (fun hq9 => absurd rfl hq9)
    refine z_iload dL_law_963 rfl ?_
    refine z_if_ne_n (a := 0) (tgt := 987) dL_law_965 (by decide) (by decide) (fun hq9 => absurd rfl hq9) (fun _ => ?_)
    refine z_aload_n dL_law_968 rfl ?_
    refine z_iconst (v := nI 0) dL_law_969 rfl ?_
    refine z_lald (j := 112) (N := 1) (i := nI 0) dL_law_970 (by omega) hj19 (vp_in_nI (by decide) (by decide)) ?_
    refine z_eq (st' := [.long ((if (spA 9 ((xs (i + 1))).toInt 0 0 S) = 0 then 0 else 1))]) rfl (by rw [nI_clamp (by decide)]; simp [vp_updL]) rfl ?_
    refine z_iload dL_law_971 rfl ?_
    have hA : (spA 9 ((xs (i + 1))).toInt 0 0 S) = 0 ∨ (spA 9 ((xs (i + 1))).toInt 0 0 S) = 1 := by simp only [spA]; split <;> simp
    rcases hA with eA | eA
    · refine z_eq (st' := [.int (nI 0), .long 0]) rfl (by rw [hr16, eA]; rfl) rfl ?_
      refine z_if_eq_n (a := 0) (tgt := 980) dL_law_973 (by decide) (by decide) (fun _ => ?_) (fun hq9 => absurd rfl hq9)
      refine z_lconst (v := 0) dL_law_980 rfl ?_
      refine z_lcmp dL_law_981 ?_
      refine z_eq (st' := [.int (nI 0)]) rfl (by rw [lg_self]) rfl ?_
      refine z_if_eq_n (a := 0) (tgt := 987) dL_law_982 (by decide) (by decide) (fun _ => ?_) (fun hq9 => absurd rfl hq9)
      refine z_goto (tgt := 2848) dL_law_987 (by decide) ?_
      refine z_sub (lv' := [(0, .ref ar), (1, .ref (za g 0)), (2, .ref (za g 101)), (3, .ref (za g 112)), (4, .ref (za g 113)), (5, .int (nI (i)))]) [0, 1, 2, 3, 4, 5] rfl ?_
      exact zTr_wd (by simp only [zR]; omega) (by simp only [zR]; omega) (kk _ _ _ _ _ _ _ _ ⟨hz, hx18, ⟨_, hm15⟩, ⟨_, hj19⟩, ⟨_, hq20⟩⟩)
    · refine z_eq (st' := [.int (nI 1), .long 1]) rfl (by rw [hr16, eA]; rfl) rfl ?_
      refine z_if_eq_n (a := 1) (tgt := 980) dL_law_973 (by decide) (by decide) (fun hq9 => absurd hq9 (by decide)) (fun _ => ?_)
      refine z_lconst (v := 1) dL_law_976 rfl ?_
      refine z_goto (tgt := 981) dL_law_977 (by decide) ?_
      refine z_lcmp dL_law_981 ?_
      refine z_eq (st' := [.int (nI 0)]) rfl (by rw [lg_self]) rfl ?_
      refine z_if_eq_n (a := 0) (tgt := 987) dL_law_982 (by decide) (by decide) (fun _ => ?_) (fun hq9 => absurd rfl hq9)
      refine z_goto (tgt := 2848) dL_law_987 (by decide) ?_
      refine z_sub (lv' := [(0, .ref ar), (1, .ref (za g 0)), (2, .ref (za g 101)), (3, .ref (za g 112)), (4, .ref (za g 113)), (5, .int (nI (i)))]) [0, 1, 2, 3, 4, 5] rfl ?_
      exact zTr_wd (by simp only [zR]; omega) (by simp only [zR]; omega) (kk _ _ _ _ _ _ _ _ ⟨hz, hx18, ⟨_, hm15⟩, ⟨_, hj19⟩, ⟨_, hq20⟩⟩)
  · (first | rw [if_neg hF, if_neg hF] at hx4 | rw [if_neg hF] at hx4 | skip)
    rw [if_neg hF] at hj5
    have hk0 : rwP [1, 3] (spF 9 ((xs (i + 1))).toInt 0 0 S) ≠ 0 := by revert hF; (try simp only [spF, fPass, fRest, fIv, fMod, fRep, fPas, fMark, fWin, plc, rwP]); (repeat' split) <;> first | rfl | omega | (intro hF; omega) | contradiction | (intros; contradiction) | (simp; done) | (simp_all; done) | (intros; exfalso; simp_all; done)
    refine z_istore (lv' := [(0, .ref ar), (1, .ref (za g 0)), (2, .ref (za g 101)), (3, .ref (za g 112)), (4, .ref (za g 113)), (5, .int (nI (i))), (6, .int (nI (rwP [1, 3] (spF 9 ((xs (i + 1))).toInt 0 0 S))))]) dL_law_938 (by decide) rfl ?_
    refine z_aload_n dL_law_940 rfl ?_
    refine z_aload_n dL_law_941 rfl ?_
    refine z_iload dL_law_942 rfl ?_
    refine z_iconst (v := nI 1) dL_law_944 rfl ?_
    refine z_iadd_n (a := i) (b := 1) dL_law_945 ?_
    refine z_tabI (a := i + 1) (v := .int (xs (i + 1))) dL_law_946 hT (by omega) (by omega) rfl ?_
    have hc31 := c_X13_addMarker (b := 101) h0 hm7 (x := (xs (i + 1)))
    obtain ⟨fs23, hfs24⟩ := hm7.cell
    refine z_callV (As := [.int (xs (i + 1))]) (rest := []) (b := 101) (ci := 12) (R2 := zR 3 0) dL_law_947 kV_RL_187 rfl ⟨⟨by decide, by decide⟩, by show _ ≤ 603072; simp only [zR]; omega, by show _ ≤ 7207018; simp only [zR]; omega⟩ (by omega) hfs24 rfl rfl rfl (Nat.le_of_ble_eq_true rfl) rfl hc31 (fun E w1 hp => by obtain ⟨_, e, _⟩ := hp; cases e) (fun v w25 hp => ?_)
    obtain ⟨r26, he27, hf28, hm29, hr30⟩ := hp
    cases he27
    have hT1 : ((plc 9 (spF 9 (xs (i + 1)).toInt 0 0 S))) = rwP [1, 3] (spF 9 ((xs (i + 1))).toInt 0 0 S) := by revert hF; (try simp only [spF, fPass, fRest, fIv, fMod, fRep, fPas, fMark, fWin, plc, rwP]); (repeat' split) <;> first | rfl | omega | (intro hF; omega) | contradiction | (intros; contradiction) | (simp; done) | (simp_all; done) | (intros; exfalso; simp_all; done)
    rw [hT1] at hm29
    rw [if_neg (fun z => hF z), if_neg (fun z => hF z)] at hm29
    have hx32 := hx4.fr hf28 (Or.inl (by omega))
    have hj33 := (hf28 112 (by omega)).trans hj5
    have hq34 := (hf28 113 (by omega)).trans hq8
    refine z_istore (lv' := [(0, .ref ar), (1, .ref (za g 0)), (2, .ref (za g 101)), (3, .ref (za g 112)), (4, .ref (za g 113)), (5, .int (nI (i))), (6, .int (nI (rwP [1, 3] (spF 9 ((xs (i + 1))).toInt 0 0 S)))), (7, .int (r26))]) dL_law_950 (by decide) rfl ?_
    refine z_aload_n dL_law_952 rfl ?_
    obtain ⟨fs35, hfs36⟩ := hm29.cell
    refine z_callE (As := []) (rest := []) (b := 101) (ci := 12) (v := some (.int (nI (rwP [1, 3] (spF 9 ((xs (i + 1))).toInt 0 0 S))))) (R2 := zR 0 0) dL_law_953 kV_RL_156 rfl ⟨⟨by decide, by decide⟩, by show _ ≤ 603072; simp only [zR]; omega, by show _ ≤ 7207018; simp only [zR]; omega⟩ (by omega) hfs36 rfl rfl rfl (Nat.le_of_ble_eq_true rfl) rfl (Mq.th h0 hm29) ?_
    refine z_iload dL_law_956 rfl ?_
    refine z_icmp_eq_n (a := rwP [1, 3] (spF 9 ((xs (i + 1))).toInt 0 0 S)) (b := rwP [1, 3] (spF 9 ((xs (i + 1))).toInt 0 0 S)) (tgt := 963) dL_law_958 (by decide) (by simp only [rwP]; (repeat' split) <;> omega) (by simp only [rwP]; (repeat' split) <;> omega) (fun _ => ?_) (fun hq9 => absurd rfl hq9)
    refine z_iload dL_law_963 rfl ?_
    refine z_if_ne_n (a := rwP [1, 3] (spF 9 ((xs (i + 1))).toInt 0 0 S)) (tgt := 987) dL_law_965 (by decide) (by simp only [rwP]; (repeat' split) <;> omega) (fun _ => ?_) (fun hq9 => absurd hq9 hk0)
    refine z_goto (tgt := 2848) dL_law_987 (by decide) ?_
    refine z_sub (lv' := [(0, .ref ar), (1, .ref (za g 0)), (2, .ref (za g 101)), (3, .ref (za g 112)), (4, .ref (za g 113)), (5, .int (nI (i)))]) [0, 1, 2, 3, 4, 5] rfl ?_
    exact zTr_wd (by simp only [zR]; omega) (by simp only [zR]; omega) (kk _ _ _ _ _ _ _ _ ⟨hz, hx32, ⟨_, hm29⟩, ⟨_, hj33⟩, ⟨_, hq34⟩⟩)
set_option maxRecDepth 100000 in
set_option maxHeartbeats 4000000 in
theorem lw_case_10 {g : zGT} {w : zW} {S : zSt} {Hs : List zSt} {Sn : Option zSt} {I O : List Nat} {ep fc : Int32} {ar N i ce sl : Nat} {xs : Nat → Int32} {Post : zP} (h0 : zG0 g) (h1 : zST g) (hN : zNC g) (hT : va_T .int ar N (fun j => .int (xs j)) (zA g) (zs g) (zs g).heap) (hL : LwI g w S Hs Sn I O ep fc) (hi : i + 3 < N) (hN9 : N ≤ 2048) (hce : ce + 2 ≤ 603072) (hsl : sl + 12 ≤ 7207018) (kk : ∀ (w' : zW) (S' : zSt) (Hs' : List zSt) (Sn' : Option zSt) (I' O' : List Nat) (ep' fc' : Int32), LwI g w' S' Hs' Sn' I' O' ep' fc' → zTr g mL_law room_1 (ce + 2) (sl + 12) 2848 [(0, .ref ar), (1, .ref (za g 0)), (2, .ref (za g 101)), (3, .ref (za g 112)), (4, .ref (za g 113)), (5, .int (nI (i)))] [] w' Post) : zTr g mL_law room_1 ce sl 990 [(0, .ref ar), (1, .ref (za g 0)), (2, .ref (za g 101)), (3, .ref (za g 112)), (4, .ref (za g 113)), (5, .int (nI (i)))] [] w Post := by
  obtain ⟨hz, hR0, ⟨t0, hM0⟩, ⟨fJ, hJ0⟩, ⟨fQ, hQ0⟩⟩ := hL
  refine z_aload_n dL_law_990 rfl ?_
  refine z_aload_n dL_law_991 rfl ?_
  refine z_iload dL_law_992 rfl ?_
  refine z_iconst (v := nI 1) dL_law_994 rfl ?_
  refine z_iadd_n (a := i) (b := 1) dL_law_995 ?_
  refine z_tabI (a := i + 1) (v := .int (xs (i + 1))) dL_law_996 hT (by omega) (by omega) rfl ?_
  have hc9 := c_X12_removeMarker (b := 0) h0 h1 hR0 (x := (xs (i + 1)))
  rw [nI0] at hc9
  refine z_callV (As := [.int (xs (i + 1))]) (rest := []) (b := 0) (ci := 11) (R2 := zR 6 1) dL_law_997 kV_RL_188 rfl ⟨⟨by decide, by decide⟩, by show _ ≤ 603072; simp only [zR]; omega, by show _ ≤ 7207018; simp only [zR]; omega⟩ (by omega) hR0.ce rfl rfl rfl (Nat.le_of_ble_eq_true rfl) rfl hc9 (fun E w1 hp => by obtain ⟨e, _⟩ := hp; cases (show (.inr E : Option Value ⊕ String) = .inl (some (.int (nI (spA 10 ((xs (i + 1))).toInt 0 0 S)))) from e)) (fun v w3 hp => ?_)
  obtain ⟨he5, hf6, hr8⟩ := hp
  replace he5 : (.inl v : Option Value ⊕ String) = .inl (some (.int (nI (spA 10 ((xs (i + 1))).toInt 0 0 S)))) := he5
  cases he5
  have hm10 := hM0.eq (w1 := w3) (fun k h8 h9 => hf6 k (by omega))
  have hj11 := (hf6 112 (by omega)).trans hJ0
  have hq12 := (hf6 113 (by omega)).trans hQ0
  refine z_aload_n dL_law_1000 rfl ?_
  refine z_aload_n dL_law_1001 rfl ?_
  refine z_iload dL_law_1002 rfl ?_
  refine z_iconst (v := nI 1) dL_law_1004 rfl ?_
  refine z_iadd_n (a := i) (b := 1) dL_law_1005 ?_
  refine z_tabI (a := i + 1) (v := .int (xs (i + 1))) dL_law_1006 hT (by omega) (by omega) rfl ?_
  have hc21 := c_X13_removeMarker (b := 101) h0 hm10 (x := (xs (i + 1)))
  obtain ⟨fs13, hfs14⟩ := hm10.cell
  refine z_callV (As := [.int (xs (i + 1))]) (rest := [.int ((nI (spA 10 ((xs (i + 1))).toInt 0 0 S)))]) (b := 101) (ci := 12) (R2 := zR 3 0) dL_law_1007 kV_RL_191 rfl ⟨⟨by decide, by decide⟩, by show _ ≤ 603072; simp only [zR]; omega, by show _ ≤ 7207018; simp only [zR]; omega⟩ (by omega) hfs14 rfl rfl rfl (Nat.le_of_ble_eq_true rfl) rfl hc21 (fun E w1 hp => by obtain ⟨_, e, _⟩ := hp; cases e) (fun v w15 hp => ?_)
  obtain ⟨r16, he17, hf18, hm19, hr20⟩ := hp
  cases he17
  replace hr20 := hr20 rfl
  have hx22 := hr8.fr hf18 (Or.inl (by omega))
  have hj23 := (hf18 112 (by omega)).trans hj11
  have hq24 := (hf18 113 (by omega)).trans hq12
  refine z_eq (st' := [.int ((nI (spA 10 ((xs (i + 1))).toInt 0 0 S))), .int ((nI (spA 10 ((xs (i + 1))).toInt 0 0 S)))]) rfl (by rw [hr20]; rfl) rfl ?_
  refine z_icmp_eq (tgt := 2848) dL_law_1010 (by decide) (fun _ => ?_) (fun h9 => absurd rfl h9)
  exact zTr_wd (by simp only [zR]; omega) (by simp only [zR]; omega) (kk _ _ _ _ _ _ _ _ ⟨hz, hx22, ⟨_, hm19⟩, ⟨_, hj23⟩, ⟨_, hq24⟩⟩)
set_option maxRecDepth 100000 in
set_option maxHeartbeats 4000000 in
theorem lw_case_11 {g : zGT} {w : zW} {S : zSt} {Hs : List zSt} {Sn : Option zSt} {I O : List Nat} {ep fc : Int32} {ar N i ce sl : Nat} {xs : Nat → Int32} {Post : zP} (h0 : zG0 g) (h1 : zST g) (hN : zNC g) (hT : va_T .int ar N (fun j => .int (xs j)) (zA g) (zs g) (zs g).heap) (hL : LwI g w S Hs Sn I O ep fc) (hi : i + 3 < N) (hN9 : N ≤ 2048) (hce : ce + 2 ≤ 603072) (hsl : sl + 12 ≤ 7207018) (kk : ∀ (w' : zW) (S' : zSt) (Hs' : List zSt) (Sn' : Option zSt) (I' O' : List Nat) (ep' fc' : Int32), LwI g w' S' Hs' Sn' I' O' ep' fc' → zTr g mL_law room_1 (ce + 2) (sl + 12) 2848 [(0, .ref ar), (1, .ref (za g 0)), (2, .ref (za g 101)), (3, .ref (za g 112)), (4, .ref (za g 113)), (5, .int (nI (i)))] [] w' Post) : zTr g mL_law room_1 ce sl 1015 [(0, .ref ar), (1, .ref (za g 0)), (2, .ref (za g 101)), (3, .ref (za g 112)), (4, .ref (za g 113)), (5, .int (nI (i)))] [] w Post := by
  obtain ⟨hz, hR0, ⟨t0, hM0⟩, ⟨fJ, hJ0⟩, ⟨fQ, hQ0⟩⟩ := hL
  refine z_aload_n dL_law_1015 rfl ?_
  have hc9 := c_X12_duration (b := 0) h0 h1 hR0
  refine z_callV (As := []) (rest := []) (b := 0) (ci := 11) (R2 := zR 1 0) dL_law_1016 kV_RL_192 rfl ⟨⟨by decide, by decide⟩, by show _ ≤ 603072; simp only [zR]; omega, by show _ ≤ 7207018; simp only [zR]; omega⟩ (by omega) hR0.ce rfl rfl rfl (Nat.le_of_ble_eq_true rfl) rfl hc9 (fun E w1 hp => by obtain ⟨e, _⟩ := hp; cases e) (fun v w3 hp => ?_)
  obtain ⟨he5, hf6, hr8⟩ := hp
  cases he5
  have hm10 := hM0.eq (w1 := w3) (fun k h8 h9 => hf6 k (by omega))
  have hj11 := (hf6 112 (by omega)).trans hJ0
  have hq12 := (hf6 113 (by omega)).trans hQ0
  refine z_aload_n dL_law_1019 rfl ?_
  have hc21 := c_X13_duration (b := 101) h0 hm10
  obtain ⟨fs13, hfs14⟩ := hm10.cell
  refine z_callV (As := []) (rest := [.int ((nI S.1.length))]) (b := 101) (ci := 12) (R2 := zR 4 0) dL_law_1020 kV_RL_195 rfl ⟨⟨by decide, by decide⟩, by show _ ≤ 603072; simp only [zR]; omega, by show _ ≤ 7207018; simp only [zR]; omega⟩ (by omega) hfs14 rfl rfl rfl (Nat.le_of_ble_eq_true rfl) rfl hc21 (fun E w1 hp => by obtain ⟨e, _⟩ := hp; cases e) (fun v w15 hp => ?_)
  obtain ⟨he17, hf18, hm19⟩ := hp
  cases he17
  have hx22 := hr8.fr hf18 (Or.inl (by omega))
  have hj23 := (hf18 112 (by omega)).trans hj11
  have hq24 := (hf18 113 (by omega)).trans hq12
  refine z_icmp_eq (tgt := 2848) dL_law_1023 (by decide) (fun _ => ?_) (fun h9 => absurd rfl h9)
  exact zTr_wd (by simp only [zR]; omega) (by simp only [zR]; omega) (kk _ _ _ _ _ _ _ _ ⟨hz, hx22, ⟨_, hm19⟩, ⟨_, hj23⟩, ⟨_, hq24⟩⟩)
set_option maxRecDepth 100000 in
set_option maxHeartbeats 4000000 in
theorem lw_case_12 {g : zGT} {w : zW} {S : zSt} {Hs : List zSt} {Sn : Option zSt} {I O : List Nat} {ep fc : Int32} {ar N i ce sl : Nat} {xs : Nat → Int32} {Post : zP} (h0 : zG0 g) (h1 : zST g) (hN : zNC g) (hT : va_T .int ar N (fun j => .int (xs j)) (zA g) (zs g) (zs g).heap) (hL : LwI g w S Hs Sn I O ep fc) (hi : i + 3 < N) (hN9 : N ≤ 2048) (hce : ce + 2 ≤ 603072) (hsl : sl + 12 ≤ 7207018) (kk : ∀ (w' : zW) (S' : zSt) (Hs' : List zSt) (Sn' : Option zSt) (I' O' : List Nat) (ep' fc' : Int32), LwI g w' S' Hs' Sn' I' O' ep' fc' → zTr g mL_law room_1 (ce + 2) (sl + 12) 2848 [(0, .ref ar), (1, .ref (za g 0)), (2, .ref (za g 101)), (3, .ref (za g 112)), (4, .ref (za g 113)), (5, .int (nI (i)))] [] w' Post) : zTr g mL_law room_1 ce sl 1028 [(0, .ref ar), (1, .ref (za g 0)), (2, .ref (za g 101)), (3, .ref (za g 112)), (4, .ref (za g 113)), (5, .int (nI (i)))] [] w Post := by
  obtain ⟨hz, hR0, ⟨t0, hM0⟩, ⟨fJ, hJ0⟩, ⟨fQ, hQ0⟩⟩ := hL
  refine z_aload_n dL_law_1028 rfl ?_
  refine z_aload_n dL_law_1029 rfl ?_
  refine z_iload dL_law_1030 rfl ?_
  refine z_iconst (v := nI 1) dL_law_1032 rfl ?_
  refine z_iadd_n (a := i) (b := 1) dL_law_1033 ?_
  refine z_tabI (a := i + 1) (v := .int (xs (i + 1))) dL_law_1034 hT (by omega) (by omega) rfl ?_
  refine z_aload_n dL_law_1035 rfl ?_
  have hc6 := c_L_levelAt (b := 0) (c9 := 112) h0 h1 hN hR0 (by omega) (by omega) hJ0 (x := (xs (i + 1)))
  refine z_callSH (As := [.ref (za g 0), .int (xs (i + 1)), .ref (za g 112)]) (rest := []) (R2 := zR 9 2) dL_law_1036 kSH_196 rfl ⟨⟨by decide, by decide⟩, by show _ ≤ 603072; simp only [zR]; omega, by show _ ≤ 7207018; simp only [zR]; omega⟩ rfl (Nat.le_of_ble_eq_true rfl) rfl hc6 (fun E w1 hp => by obtain ⟨e, _⟩ := hp; cases e) (fun v w1 hp => ?_)
  obtain ⟨he2, hf3, hx4, hj5⟩ := hp
  cases he2
  have hm7 := hM0.eq (w1 := w1) (fun k h8 h9 => hf3 k (by omega) (by omega))
  have hq8 := (hf3 113 (by omega) (by omega)).trans hQ0
  by_cases hF : (if 0 ≤ (xs (i + 1)).toInt ∧ (xs (i + 1)).toInt < S.1.length then 0 else 1) = 0
  · refine z_eq (st' := [.int (nI 0)]) rfl (by rw [hF]; rfl) rfl ?_
    (try rw [hF] at hx4)
    rw [hF] at hj5
    (try simp only [↓reduceIte] at hx4)
    simp only [↓reduceIte] at hj5
    refine z_istore (lv' := [(0, .ref ar), (1, .ref (za g 0)), (2, .ref (za g 101)), (3, .ref (za g 112)), (4, .ref (za g 113)), (5, .int (nI (i))), (6, .int (nI (0)))]) dL_law_1039 (by decide) rfl ?_
    refine z_aload_n dL_law_1041 rfl ?_
    refine z_aload_n dL_law_1042 rfl ?_
    refine z_iload dL_law_1043 rfl ?_
    refine z_iconst (v := nI 1) dL_law_1045 rfl ?_
    refine z_iadd_n (a := i) (b := 1) dL_law_1046 ?_
    refine z_tabI (a := i + 1) (v := .int (xs (i + 1))) dL_law_1047 hT (by omega) (by omega) rfl ?_
    have hc17 := c_X13_levelAt (b := 101) h0 hm7 (x := (xs (i + 1)))
    obtain ⟨fs9, hfs10⟩ := hm7.cell
    refine z_callV (As := [.int (xs (i + 1))]) (rest := []) (b := 101) (ci := 12) (R2 := zR 4 0) dL_law_1048 kV_RL_198 rfl ⟨⟨by decide, by decide⟩, by show _ ≤ 603072; simp only [zR]; omega, by show _ ≤ 7207018; simp only [zR]; omega⟩ (by omega) hfs10 rfl rfl rfl (Nat.le_of_ble_eq_true rfl) rfl hc17 (fun E w1 hp => by obtain ⟨_, e, _⟩ := hp; cases e) (fun v w11 hp => ?_)
    obtain ⟨r12, he13, hf14, hm15, hr16⟩ := hp
    cases he13
    have hT0 : ((if 0 ≤ (xs (i + 1)).toInt ∧ (xs (i + 1)).toInt < (S.1.length : Nat) then 0 else 1)) = 0 := by revert hF; (try simp only [spF, fPass, fRest, fIv, fMod, fRep, fPas, fMark, fWin, plc, rwP]); (repeat' split) <;> first | rfl | omega | (intro hF; omega) | contradiction | (intros; contradiction) | (simp; done) | (simp_all; done) | (intros; exfalso; simp_all; done)
    replace hr16 := hr16 (by first | exact hF | exact hT0 | (refine Decidable.byContradiction fun z => ?_; rw [if_neg z] at hT0; exact absurd hT0 (by decide)))
    rw [hT0] at hm15
    (try simp only [↓reduceIte] at hm15)
    have hx18 := hx4.fr hf14 (Or.inl (by omega))
    have hj19 := (hf14 112 (by omega)).trans hj5
    have hq20 := (hf14 113 (by omega)).trans hq8
    refine z_istore (lv' := [(0, .ref ar), (1, .ref (za g 0)), (2, .ref (za g 101)), (3, .ref (za g 112)), (4, .ref (za g 113)), (5, .int (nI (i))), (6, .int (nI (0))), (7, .int (r12))]) dL_law_1051 (by decide) rfl ?_
    refine z_aload_n dL_law_1053 rfl ?_
    obtain ⟨fs21, hfs22⟩ := hm15.cell
    refine z_callE (As := []) (rest := []) (b := 101) (ci := 12) (v := some (.int (nI (0)))) (R2 := zR 0 0) dL_law_1054 kV_RL_156 rfl ⟨⟨by decide, by decide⟩, by show _ ≤ 603072; simp only [zR]; omega, by show _ ≤ 7207018; simp only [zR]; omega⟩ (by omega) hfs22 rfl rfl rfl (Nat.le_of_ble_eq_true rfl) rfl (Mq.th h0 hm15) ?_
    refine z_iload dL_law_1057 rfl ?_
    refine z_icmp_eq_n (a := 0) (b := 0) (tgt := 1064) dL_law_1059 (by decide) (by omega) (by omega) (fun _ => ?_) (fun hq9 => absurd rfl hq9)
    refine z_iload dL_law_1064 rfl ?_
    refine z_if_ne_n (a := 0) (tgt := 1081) dL_law_1066 (by decide) (by decide) (fun hq9 => absurd rfl hq9) (fun _ => ?_)
    refine z_aload_n dL_law_1069 rfl ?_
    refine z_iconst (v := nI 0) dL_law_1070 rfl ?_
    refine z_lald (j := 112) (N := 1) (i := nI 0) dL_law_1071 (by omega) hj19 (vp_in_nI (by decide) (by decide)) ?_
    refine z_eq (st' := [.long ((nI (gT S.1 (xs (i + 1)).toInt.toNat)).toInt64)]) rfl (by rw [nI_clamp (by decide)]; simp [vp_updL]) rfl ?_
    refine z_iload dL_law_1072 rfl ?_
    refine z_i2l dL_law_1074 ?_
    refine z_lcmp dL_law_1075 ?_
    refine z_eq (st' := [.int (nI 0)]) rfl (by rw [hr16, lg_self]) rfl ?_
    refine z_if_eq_n (a := 0) (tgt := 1081) dL_law_1076 (by decide) (by decide) (fun _ => ?_) (fun hq9 => absurd rfl hq9)
    refine z_goto (tgt := 2848) dL_law_1081 (by decide) ?_
    refine z_sub (lv' := [(0, .ref ar), (1, .ref (za g 0)), (2, .ref (za g 101)), (3, .ref (za g 112)), (4, .ref (za g 113)), (5, .int (nI (i)))]) [0, 1, 2, 3, 4, 5] rfl ?_
    exact zTr_wd (by simp only [zR]; omega) (by simp only [zR]; omega) (kk _ _ _ _ _ _ _ _ ⟨hz, hx18, ⟨_, hm15⟩, ⟨_, hj19⟩, ⟨_, hq20⟩⟩)
  · (first | rw [if_neg hF, if_neg hF] at hx4 | rw [if_neg hF] at hx4 | skip)
    rw [if_neg hF] at hj5
    have hk0 : rwP [1] (if 0 ≤ (xs (i + 1)).toInt ∧ (xs (i + 1)).toInt < S.1.length then 0 else 1) ≠ 0 := by revert hF; (try simp only [spF, fPass, fRest, fIv, fMod, fRep, fPas, fMark, fWin, plc, rwP]); (repeat' split) <;> first | rfl | omega | (intro hF; omega) | contradiction | (intros; contradiction) | (simp; done) | (simp_all; done) | (intros; exfalso; simp_all; done)
    refine z_istore (lv' := [(0, .ref ar), (1, .ref (za g 0)), (2, .ref (za g 101)), (3, .ref (za g 112)), (4, .ref (za g 113)), (5, .int (nI (i))), (6, .int (nI (rwP [1] (if 0 ≤ (xs (i + 1)).toInt ∧ (xs (i + 1)).toInt < S.1.length then 0 else 1))))]) dL_law_1039 (by decide) rfl ?_
    refine z_aload_n dL_law_1041 rfl ?_
    refine z_aload_n dL_law_1042 rfl ?_
    refine z_iload dL_law_1043 rfl ?_
    refine z_iconst (v := nI 1) dL_law_1045 rfl ?_
    refine z_iadd_n (a := i) (b := 1) dL_law_1046 ?_
    refine z_tabI (a := i + 1) (v := .int (xs (i + 1))) dL_law_1047 hT (by omega) (by omega) rfl ?_
    have hc31 := c_X13_levelAt (b := 101) h0 hm7 (x := (xs (i + 1)))
    obtain ⟨fs23, hfs24⟩ := hm7.cell
    refine z_callV (As := [.int (xs (i + 1))]) (rest := []) (b := 101) (ci := 12) (R2 := zR 4 0) dL_law_1048 kV_RL_198 rfl ⟨⟨by decide, by decide⟩, by show _ ≤ 603072; simp only [zR]; omega, by show _ ≤ 7207018; simp only [zR]; omega⟩ (by omega) hfs24 rfl rfl rfl (Nat.le_of_ble_eq_true rfl) rfl hc31 (fun E w1 hp => by obtain ⟨_, e, _⟩ := hp; cases e) (fun v w25 hp => ?_)
    obtain ⟨r26, he27, hf28, hm29, hr30⟩ := hp
    cases he27
    have hT1 : ((if 0 ≤ (xs (i + 1)).toInt ∧ (xs (i + 1)).toInt < (S.1.length : Nat) then 0 else 1)) = rwP [1] (if 0 ≤ (xs (i + 1)).toInt ∧ (xs (i + 1)).toInt < S.1.length then 0 else 1) := by revert hF; (try simp only [spF, fPass, fRest, fIv, fMod, fRep, fPas, fMark, fWin, plc, rwP]); (repeat' split) <;> first | rfl | omega | (intro hF; omega) | contradiction | (intros; contradiction) | (simp; done) | (simp_all; done) | (intros; exfalso; simp_all; done)
    rw [hT1] at hm29
    (try rw [if_neg hk0] at hm29)
    have hx32 := hx4.fr hf28 (Or.inl (by omega))
    have hj33 := (hf28 112 (by omega)).trans hj5
    have hq34 := (hf28 113 (by omega)).trans hq8
    refine z_istore (lv' := [(0, .ref ar), (1, .ref (za g 0)), (2, .ref (za g 101)), (3, .ref (za g 112)), (4, .ref (za g 113)), (5, .int (nI (i))), (6, .int (nI (rwP [1] (if 0 ≤ (xs (i + 1)).toInt ∧ (xs (i + 1)).toInt < S.1.length then 0 else 1)))), (7, .int (r26))]) dL_law_1051 (by decide) rfl ?_
    refine z_aload_n dL_law_1053 rfl ?_
    obtain ⟨fs35, hfs36⟩ := hm29.cell
    refine z_callE (As := []) (rest := []) (b := 101) (ci := 12) (v := some (.int (nI (rwP [1] (if 0 ≤ (xs (i + 1)).toInt ∧ (xs (i + 1)).toInt < S.1.length then 0 else 1))))) (R2 := zR 0 0) dL_law_1054 kV_RL_156 rfl ⟨⟨by decide, by decide⟩, by show _ ≤ 603072; simp only [zR]; omega, by show _ ≤ 7207018; simp only [zR]; omega⟩ (by omega) hfs36 rfl rfl rfl (Nat.le_of_ble_eq_true rfl) rfl (Mq.th h0 hm29) ?_
    refine z_iload dL_law_1057 rfl ?_
    refine z_icmp_eq_n (a := rwP [1] (if 0 ≤ (xs (i + 1)).toInt ∧ (xs (i + 1)).toInt < S.1.length then 0 else 1)) (b := rwP [1] (if 0 ≤ (xs (i + 1)).toInt ∧ (xs (i + 1)).toInt < S.1.length then 0 else 1)) (tgt := 1064) dL_law_1059 (by decide) (by simp only [rwP]; (repeat' split) <;> omega) (by simp only [rwP]; (repeat' split) <;> omega) (fun _ => ?_) (fun hq9 => absurd rfl hq9)
    refine z_iload dL_law_1064 rfl ?_
    refine z_if_ne_n (a := rwP [1] (if 0 ≤ (xs (i + 1)).toInt ∧ (xs (i + 1)).toInt < S.1.length then 0 else 1)) (tgt := 1081) dL_law_1066 (by decide) (by simp only [rwP]; (repeat' split) <;> omega) (fun _ => ?_) (fun hq9 => absurd hq9 hk0)
    refine z_goto (tgt := 2848) dL_law_1081 (by decide) ?_
    refine z_sub (lv' := [(0, .ref ar), (1, .ref (za g 0)), (2, .ref (za g 101)), (3, .ref (za g 112)), (4, .ref (za g 113)), (5, .int (nI (i)))]) [0, 1, 2, 3, 4, 5] rfl ?_
    exact zTr_wd (by simp only [zR]; omega) (by simp only [zR]; omega) (kk _ _ _ _ _ _ _ _ ⟨hz, hx32, ⟨_, hm29⟩, ⟨_, hj33⟩, ⟨_, hq34⟩⟩)
set_option maxRecDepth 100000 in
set_option maxHeartbeats 4000000 in
theorem lw_case_13 {g : zGT} {w : zW} {S : zSt} {Hs : List zSt} {Sn : Option zSt} {I O : List Nat} {ep fc : Int32} {ar N i ce sl : Nat} {xs : Nat → Int32} {Post : zP} (h0 : zG0 g) (h1 : zST g) (hN : zNC g) (hT : va_T .int ar N (fun j => .int (xs j)) (zA g) (zs g) (zs g).heap) (hL : LwI g w S Hs Sn I O ep fc) (hi : i + 3 < N) (hN9 : N ≤ 2048) (hce : ce + 2 ≤ 603072) (hsl : sl + 12 ≤ 7207018) (kk : ∀ (w' : zW) (S' : zSt) (Hs' : List zSt) (Sn' : Option zSt) (I' O' : List Nat) (ep' fc' : Int32), LwI g w' S' Hs' Sn' I' O' ep' fc' → zTr g mL_law room_1 (ce + 2) (sl + 12) 2848 [(0, .ref ar), (1, .ref (za g 0)), (2, .ref (za g 101)), (3, .ref (za g 112)), (4, .ref (za g 113)), (5, .int (nI (i)))] [] w' Post) : zTr g mL_law room_1 ce sl 1084 [(0, .ref ar), (1, .ref (za g 0)), (2, .ref (za g 101)), (3, .ref (za g 112)), (4, .ref (za g 113)), (5, .int (nI (i)))] [] w Post := by
  obtain ⟨hz, hR0, ⟨t0, hM0⟩, ⟨fJ, hJ0⟩, ⟨fQ, hQ0⟩⟩ := hL
  refine z_aload_n dL_law_1084 rfl ?_
  have hc9 := c_X12_runCount (b := 0) h0 h1 hR0
  refine z_callV (As := []) (rest := []) (b := 0) (ci := 11) (R2 := zR 3 0) dL_law_1085 kV_RL_199 rfl ⟨⟨by decide, by decide⟩, by show _ ≤ 603072; simp only [zR]; omega, by show _ ≤ 7207018; simp only [zR]; omega⟩ (by omega) hR0.ce rfl rfl rfl (Nat.le_of_ble_eq_true rfl) rfl hc9 (fun E w1 hp => by obtain ⟨e, _⟩ := hp; cases e) (fun v w3 hp => ?_)
  obtain ⟨he5, hf6, hr8⟩ := hp
  cases he5
  have hm10 := hM0.eq (w1 := w3) (fun k h8 h9 => hf6 k (by omega))
  have hj11 := (hf6 112 (by omega)).trans hJ0
  have hq12 := (hf6 113 (by omega)).trans hQ0
  refine z_aload_n dL_law_1088 rfl ?_
  have hc21 := c_X13_runCount (b := 101) h0 hm10
  obtain ⟨fs13, hfs14⟩ := hm10.cell
  refine z_callV (As := []) (rest := [.int ((nI (cS (gT S.1) S.1.length)))]) (b := 101) (ci := 12) (R2 := zR 4 0) dL_law_1089 kV_RL_202 rfl ⟨⟨by decide, by decide⟩, by show _ ≤ 603072; simp only [zR]; omega, by show _ ≤ 7207018; simp only [zR]; omega⟩ (by omega) hfs14 rfl rfl rfl (Nat.le_of_ble_eq_true rfl) rfl hc21 (fun E w1 hp => by obtain ⟨e, _⟩ := hp; cases e) (fun v w15 hp => ?_)
  obtain ⟨he17, hf18, hm19⟩ := hp
  cases he17
  have hx22 := hr8.fr hf18 (Or.inl (by omega))
  have hj23 := (hf18 112 (by omega)).trans hj11
  have hq24 := (hf18 113 (by omega)).trans hq12
  refine z_icmp_eq (tgt := 2848) dL_law_1092 (by decide) (fun _ => ?_) (fun h9 => absurd rfl h9)
  exact zTr_wd (by simp only [zR]; omega) (by simp only [zR]; omega) (kk _ _ _ _ _ _ _ _ ⟨hz, hx22, ⟨_, hm19⟩, ⟨_, hj23⟩, ⟨_, hq24⟩⟩)
set_option maxRecDepth 100000 in
set_option maxHeartbeats 4000000 in
theorem lw_case_14 {g : zGT} {w : zW} {S : zSt} {Hs : List zSt} {Sn : Option zSt} {I O : List Nat} {ep fc : Int32} {ar N i ce sl : Nat} {xs : Nat → Int32} {Post : zP} (h0 : zG0 g) (h1 : zST g) (hN : zNC g) (hT : va_T .int ar N (fun j => .int (xs j)) (zA g) (zs g) (zs g).heap) (hL : LwI g w S Hs Sn I O ep fc) (hi : i + 3 < N) (hN9 : N ≤ 2048) (hce : ce + 2 ≤ 603072) (hsl : sl + 12 ≤ 7207018) (kk : ∀ (w' : zW) (S' : zSt) (Hs' : List zSt) (Sn' : Option zSt) (I' O' : List Nat) (ep' fc' : Int32), LwI g w' S' Hs' Sn' I' O' ep' fc' → zTr g mL_law room_1 (ce + 2) (sl + 12) 2848 [(0, .ref ar), (1, .ref (za g 0)), (2, .ref (za g 101)), (3, .ref (za g 112)), (4, .ref (za g 113)), (5, .int (nI (i)))] [] w' Post) : zTr g mL_law room_1 ce sl 1097 [(0, .ref ar), (1, .ref (za g 0)), (2, .ref (za g 101)), (3, .ref (za g 112)), (4, .ref (za g 113)), (5, .int (nI (i)))] [] w Post := by
  obtain ⟨hz, hR0, ⟨t0, hM0⟩, ⟨fJ, hJ0⟩, ⟨fQ, hQ0⟩⟩ := hL
  refine z_aload_n dL_law_1097 rfl ?_
  refine z_aload_n dL_law_1098 rfl ?_
  refine z_iload dL_law_1099 rfl ?_
  refine z_iconst (v := nI 1) dL_law_1101 rfl ?_
  refine z_iadd_n (a := i) (b := 1) dL_law_1102 ?_
  refine z_tabI (a := i + 1) (v := .int (xs (i + 1))) dL_law_1103 hT (by omega) (by omega) rfl ?_
  refine z_aload_n dL_law_1104 rfl ?_
  have hc6 := c_L_runStart (b := 0) (c9 := 112) h0 h1 hN hR0 (by omega) (by omega) hJ0 (x := (xs (i + 1)))
  refine z_callSH (As := [.ref (za g 0), .int (xs (i + 1)), .ref (za g 112)]) (rest := []) (R2 := zR 9 2) dL_law_1105 kSH_203 rfl ⟨⟨by decide, by decide⟩, by show _ ≤ 603072; simp only [zR]; omega, by show _ ≤ 7207018; simp only [zR]; omega⟩ rfl (Nat.le_of_ble_eq_true rfl) rfl hc6 (fun E w1 hp => by obtain ⟨e, _⟩ := hp; cases e) (fun v w1 hp => ?_)
  obtain ⟨he2, hf3, hx4, hj5⟩ := hp
  cases he2
  have hm7 := hM0.eq (w1 := w1) (fun k h8 h9 => hf3 k (by omega) (by omega))
  have hq8 := (hf3 113 (by omega) (by omega)).trans hQ0
  by_cases hF : (if spStart (gT S.1) S.1.length (xs (i + 1)).toInt < 0 then 1 else 0) = 0
  · refine z_eq (st' := [.int (nI 0)]) rfl (by rw [hF]; rfl) rfl ?_
    (try rw [hF] at hx4)
    rw [hF] at hj5
    (try simp only [↓reduceIte] at hx4)
    simp only [↓reduceIte] at hj5
    refine z_istore (lv' := [(0, .ref ar), (1, .ref (za g 0)), (2, .ref (za g 101)), (3, .ref (za g 112)), (4, .ref (za g 113)), (5, .int (nI (i))), (6, .int (nI (0)))]) dL_law_1108 (by decide) rfl ?_
    refine z_aload_n dL_law_1110 rfl ?_
    refine z_aload_n dL_law_1111 rfl ?_
    refine z_iload dL_law_1112 rfl ?_
    refine z_iconst (v := nI 1) dL_law_1114 rfl ?_
    refine z_iadd_n (a := i) (b := 1) dL_law_1115 ?_
    refine z_tabI (a := i + 1) (v := .int (xs (i + 1))) dL_law_1116 hT (by omega) (by omega) rfl ?_
    have hc17 := c_X13_runStart (b := 101) h0 hm7 (x := (xs (i + 1)))
    obtain ⟨fs9, hfs10⟩ := hm7.cell
    refine z_callV (As := [.int (xs (i + 1))]) (rest := []) (b := 101) (ci := 12) (R2 := zR 4 0) dL_law_1117 kV_RL_205 rfl ⟨⟨by decide, by decide⟩, by show _ ≤ 603072; simp only [zR]; omega, by show _ ≤ 7207018; simp only [zR]; omega⟩ (by omega) hfs10 rfl rfl rfl (Nat.le_of_ble_eq_true rfl) rfl hc17 (fun E w1 hp => by obtain ⟨_, e, _⟩ := hp; cases e) (fun v w11 hp => ?_)
    obtain ⟨r12, he13, hf14, hm15, hr16⟩ := hp
    cases he13
    have hT0 : ((if ¬ (spStart (gT S.1) S.1.length (xs (i + 1)).toInt < 0) then 0 else 1)) = 0 := by revert hF; (try simp only [spF, fPass, fRest, fIv, fMod, fRep, fPas, fMark, fWin, plc, rwP]); (repeat' split) <;> first | rfl | omega | (intro hF; omega) | contradiction | (intros; contradiction) | (simp; done) | (simp_all; done) | (intros; exfalso; simp_all; done)
    replace hr16 := hr16 (by first | exact hF | exact hT0 | (refine Decidable.byContradiction fun z => ?_; rw [if_neg z] at hT0; exact absurd hT0 (by decide)))
    rw [hT0] at hm15
    (try simp only [↓reduceIte] at hm15)
    have hx18 := hx4.fr hf14 (Or.inl (by omega))
    have hj19 := (hf14 112 (by omega)).trans hj5
    have hq20 := (hf14 113 (by omega)).trans hq8
    refine z_istore (lv' := [(0, .ref ar), (1, .ref (za g 0)), (2, .ref (za g 101)), (3, .ref (za g 112)), (4, .ref (za g 113)), (5, .int (nI (i))), (6, .int (nI (0))), (7, .int (r12))]) dL_law_1120 (by decide) rfl ?_
    refine z_aload_n dL_law_1122 rfl ?_
    obtain ⟨fs21, hfs22⟩ := hm15.cell
    refine z_callE (As := []) (rest := []) (b := 101) (ci := 12) (v := some (.int (nI (0)))) (R2 := zR 0 0) dL_law_1123 kV_RL_156 rfl ⟨⟨by decide, by decide⟩, by show _ ≤ 603072; simp only [zR]; omega, by show _ ≤ 7207018; simp only [zR]; omega⟩ (by omega) hfs22 rfl rfl rfl (Nat.le_of_ble_eq_true rfl) rfl (Mq.th h0 hm15) ?_
    refine z_iload dL_law_1126 rfl ?_
    refine z_icmp_eq_n (a := 0) (b := 0) (tgt := 1133) dL_law_1128 (by decide) (by omega) (by omega) (fun _ => ?_) (fun hq9 => absurd rfl hq9)
    refine z_iload dL_law_1133 rfl ?_
    refine z_if_ne_n (a := 0) (tgt := 1150) dL_law_1135 (by decide) (by decide) (fun hq9 => absurd rfl hq9) (fun _ => ?_)
    refine z_aload_n dL_law_1138 rfl ?_
    refine z_iconst (v := nI 0) dL_law_1139 rfl ?_
    refine z_lald (j := 112) (N := 1) (i := nI 0) dL_law_1140 (by omega) hj19 (vp_in_nI (by decide) (by decide)) ?_
    refine z_eq (st' := [.long ((nI (spStart (gT S.1) S.1.length (xs (i + 1)).toInt).toNat).toInt64)]) rfl (by rw [nI_clamp (by decide)]; simp [vp_updL]) rfl ?_
    refine z_iload dL_law_1141 rfl ?_
    refine z_i2l dL_law_1143 ?_
    refine z_lcmp dL_law_1144 ?_
    refine z_eq (st' := [.int (nI 0)]) rfl (by rw [hr16, lg_self]) rfl ?_
    refine z_if_eq_n (a := 0) (tgt := 1150) dL_law_1145 (by decide) (by decide) (fun _ => ?_) (fun hq9 => absurd rfl hq9)
    refine z_goto (tgt := 2848) dL_law_1150 (by decide) ?_
    refine z_sub (lv' := [(0, .ref ar), (1, .ref (za g 0)), (2, .ref (za g 101)), (3, .ref (za g 112)), (4, .ref (za g 113)), (5, .int (nI (i)))]) [0, 1, 2, 3, 4, 5] rfl ?_
    exact zTr_wd (by simp only [zR]; omega) (by simp only [zR]; omega) (kk _ _ _ _ _ _ _ _ ⟨hz, hx18, ⟨_, hm15⟩, ⟨_, hj19⟩, ⟨_, hq20⟩⟩)
  · (first | rw [if_neg hF, if_neg hF] at hx4 | rw [if_neg hF] at hx4 | skip)
    rw [if_neg hF] at hj5
    have hk0 : rwP [1] (if spStart (gT S.1) S.1.length (xs (i + 1)).toInt < 0 then 1 else 0) ≠ 0 := by revert hF; (try simp only [spF, fPass, fRest, fIv, fMod, fRep, fPas, fMark, fWin, plc, rwP]); (repeat' split) <;> first | rfl | omega | (intro hF; omega) | contradiction | (intros; contradiction) | (simp; done) | (simp_all; done) | (intros; exfalso; simp_all; done)
    refine z_istore (lv' := [(0, .ref ar), (1, .ref (za g 0)), (2, .ref (za g 101)), (3, .ref (za g 112)), (4, .ref (za g 113)), (5, .int (nI (i))), (6, .int (nI (rwP [1] (if spStart (gT S.1) S.1.length (xs (i + 1)).toInt < 0 then 1 else 0))))]) dL_law_1108 (by decide) rfl ?_
    refine z_aload_n dL_law_1110 rfl ?_
    refine z_aload_n dL_law_1111 rfl ?_
    refine z_iload dL_law_1112 rfl ?_
    refine z_iconst (v := nI 1) dL_law_1114 rfl ?_
    refine z_iadd_n (a := i) (b := 1) dL_law_1115 ?_
    refine z_tabI (a := i + 1) (v := .int (xs (i + 1))) dL_law_1116 hT (by omega) (by omega) rfl ?_
    have hc31 := c_X13_runStart (b := 101) h0 hm7 (x := (xs (i + 1)))
    obtain ⟨fs23, hfs24⟩ := hm7.cell
    refine z_callV (As := [.int (xs (i + 1))]) (rest := []) (b := 101) (ci := 12) (R2 := zR 4 0) dL_law_1117 kV_RL_205 rfl ⟨⟨by decide, by decide⟩, by show _ ≤ 603072; simp only [zR]; omega, by show _ ≤ 7207018; simp only [zR]; omega⟩ (by omega) hfs24 rfl rfl rfl (Nat.le_of_ble_eq_true rfl) rfl hc31 (fun E w1 hp => by obtain ⟨_, e, _⟩ := hp; cases e) (fun v w25 hp => ?_)
    obtain ⟨r26, he27, hf28, hm29, hr30⟩ := hp
    cases he27
    have hT1 : ((if ¬ (spStart (gT S.1) S.1.length (xs (i + 1)).toInt < 0) then 0 else 1)) = rwP [1] (if spStart (gT S.1) S.1.length (xs (i + 1)).toInt < 0 then 1 else 0) := by revert hF; (try simp only [spF, fPass, fRest, fIv, fMod, fRep, fPas, fMark, fWin, plc, rwP]); (repeat' split) <;> first | rfl | omega | (intro hF; omega) | contradiction | (intros; contradiction) | (simp; done) | (simp_all; done) | (intros; exfalso; simp_all; done)
    rw [hT1] at hm29
    (try rw [if_neg hk0] at hm29)
    have hx32 := hx4.fr hf28 (Or.inl (by omega))
    have hj33 := (hf28 112 (by omega)).trans hj5
    have hq34 := (hf28 113 (by omega)).trans hq8
    refine z_istore (lv' := [(0, .ref ar), (1, .ref (za g 0)), (2, .ref (za g 101)), (3, .ref (za g 112)), (4, .ref (za g 113)), (5, .int (nI (i))), (6, .int (nI (rwP [1] (if spStart (gT S.1) S.1.length (xs (i + 1)).toInt < 0 then 1 else 0)))), (7, .int (r26))]) dL_law_1120 (by decide) rfl ?_
    refine z_aload_n dL_law_1122 rfl ?_
    obtain ⟨fs35, hfs36⟩ := hm29.cell
    refine z_callE (As := []) (rest := []) (b := 101) (ci := 12) (v := some (.int (nI (rwP [1] (if spStart (gT S.1) S.1.length (xs (i + 1)).toInt < 0 then 1 else 0))))) (R2 := zR 0 0) dL_law_1123 kV_RL_156 rfl ⟨⟨by decide, by decide⟩, by show _ ≤ 603072; simp only [zR]; omega, by show _ ≤ 7207018; simp only [zR]; omega⟩ (by omega) hfs36 rfl rfl rfl (Nat.le_of_ble_eq_true rfl) rfl (Mq.th h0 hm29) ?_
    refine z_iload dL_law_1126 rfl ?_
    refine z_icmp_eq_n (a := rwP [1] (if spStart (gT S.1) S.1.length (xs (i + 1)).toInt < 0 then 1 else 0)) (b := rwP [1] (if spStart (gT S.1) S.1.length (xs (i + 1)).toInt < 0 then 1 else 0)) (tgt := 1133) dL_law_1128 (by decide) (by simp only [rwP]; (repeat' split) <;> omega) (by simp only [rwP]; (repeat' split) <;> omega) (fun _ => ?_) (fun hq9 => absurd rfl hq9)
    refine z_iload dL_law_1133 rfl ?_
    refine z_if_ne_n (a := rwP [1] (if spStart (gT S.1) S.1.length (xs (i + 1)).toInt < 0 then 1 else 0)) (tgt := 1150) dL_law_1135 (by decide) (by simp only [rwP]; (repeat' split) <;> omega) (fun _ => ?_) (fun hq9 => absurd hq9 hk0)
    refine z_goto (tgt := 2848) dL_law_1150 (by decide) ?_
    refine z_sub (lv' := [(0, .ref ar), (1, .ref (za g 0)), (2, .ref (za g 101)), (3, .ref (za g 112)), (4, .ref (za g 113)), (5, .int (nI (i)))]) [0, 1, 2, 3, 4, 5] rfl ?_
    exact zTr_wd (by simp only [zR]; omega) (by simp only [zR]; omega) (kk _ _ _ _ _ _ _ _ ⟨hz, hx32, ⟨_, hm29⟩, ⟨_, hj33⟩, ⟨_, hq34⟩⟩)
set_option maxRecDepth 100000 in
set_option maxHeartbeats 4000000 in
theorem lw_case_15 {g : zGT} {w : zW} {S : zSt} {Hs : List zSt} {Sn : Option zSt} {I O : List Nat} {ep fc : Int32} {ar N i ce sl : Nat} {xs : Nat → Int32} {Post : zP} (h0 : zG0 g) (h1 : zST g) (hN : zNC g) (hT : va_T .int ar N (fun j => .int (xs j)) (zA g) (zs g) (zs g).heap) (hL : LwI g w S Hs Sn I O ep fc) (hi : i + 3 < N) (hN9 : N ≤ 2048) (hce : ce + 2 ≤ 603072) (hsl : sl + 12 ≤ 7207018) (kk : ∀ (w' : zW) (S' : zSt) (Hs' : List zSt) (Sn' : Option zSt) (I' O' : List Nat) (ep' fc' : Int32), LwI g w' S' Hs' Sn' I' O' ep' fc' → zTr g mL_law room_1 (ce + 2) (sl + 12) 2848 [(0, .ref ar), (1, .ref (za g 0)), (2, .ref (za g 101)), (3, .ref (za g 112)), (4, .ref (za g 113)), (5, .int (nI (i)))] [] w' Post) : zTr g mL_law room_1 ce sl 1153 [(0, .ref ar), (1, .ref (za g 0)), (2, .ref (za g 101)), (3, .ref (za g 112)), (4, .ref (za g 113)), (5, .int (nI (i)))] [] w Post := by
  obtain ⟨hz, hR0, ⟨t0, hM0⟩, ⟨fJ, hJ0⟩, ⟨fQ, hQ0⟩⟩ := hL
  refine z_aload_n dL_law_1153 rfl ?_
  refine z_aload_n dL_law_1154 rfl ?_
  refine z_iload dL_law_1155 rfl ?_
  refine z_iconst (v := nI 1) dL_law_1157 rfl ?_
  refine z_iadd_n (a := i) (b := 1) dL_law_1158 ?_
  refine z_tabI (a := i + 1) (v := .int (xs (i + 1))) dL_law_1159 hT (by omega) (by omega) rfl ?_
  refine z_aload_n dL_law_1160 rfl ?_
  have hc6 := c_L_runLength (b := 0) (c9 := 112) h0 h1 hN hR0 (by omega) (by omega) hJ0 (x := (xs (i + 1)))
  refine z_callSH (As := [.ref (za g 0), .int (xs (i + 1)), .ref (za g 112)]) (rest := []) (R2 := zR 9 2) dL_law_1161 kSH_206 rfl ⟨⟨by decide, by decide⟩, by show _ ≤ 603072; simp only [zR]; omega, by show _ ≤ 7207018; simp only [zR]; omega⟩ rfl (Nat.le_of_ble_eq_true rfl) rfl hc6 (fun E w1 hp => by obtain ⟨e, _⟩ := hp; cases e) (fun v w1 hp => ?_)
  obtain ⟨he2, hf3, hx4, hj5⟩ := hp
  cases he2
  have hm7 := hM0.eq (w1 := w1) (fun k h8 h9 => hf3 k (by omega) (by omega))
  have hq8 := (hf3 113 (by omega) (by omega)).trans hQ0
  by_cases hF : (if spStart (gT S.1) S.1.length (xs (i + 1)).toInt < 0 then 1 else 0) = 0
  · refine z_eq (st' := [.int (nI 0)]) rfl (by rw [hF]; rfl) rfl ?_
    (try rw [hF] at hx4)
    rw [hF] at hj5
    (try simp only [↓reduceIte] at hx4)
    simp only [↓reduceIte] at hj5
    refine z_istore (lv' := [(0, .ref ar), (1, .ref (za g 0)), (2, .ref (za g 101)), (3, .ref (za g 112)), (4, .ref (za g 113)), (5, .int (nI (i))), (6, .int (nI (0)))]) dL_law_1164 (by decide) rfl ?_
    refine z_aload_n dL_law_1166 rfl ?_
    refine z_aload_n dL_law_1167 rfl ?_
    refine z_iload dL_law_1168 rfl ?_
    refine z_iconst (v := nI 1) dL_law_1170 rfl ?_
    refine z_iadd_n (a := i) (b := 1) dL_law_1171 ?_
    refine z_tabI (a := i + 1) (v := .int (xs (i + 1))) dL_law_1172 hT (by omega) (by omega) rfl ?_
    have hc17 := c_X13_runLength (b := 101) h0 hm7 (x := (xs (i + 1)))
    obtain ⟨fs9, hfs10⟩ := hm7.cell
    refine z_callV (As := [.int (xs (i + 1))]) (rest := []) (b := 101) (ci := 12) (R2 := zR 4 0) dL_law_1173 kV_RL_208 rfl ⟨⟨by decide, by decide⟩, by show _ ≤ 603072; simp only [zR]; omega, by show _ ≤ 7207018; simp only [zR]; omega⟩ (by omega) hfs10 rfl rfl rfl (Nat.le_of_ble_eq_true rfl) rfl hc17 (fun E w1 hp => by obtain ⟨_, e, _⟩ := hp; cases e) (fun v w11 hp => ?_)
    obtain ⟨r12, he13, hf14, hm15, hr16⟩ := hp
    cases he13
    have hT0 : ((if ¬ (spStart (gT S.1) S.1.length (xs (i + 1)).toInt < 0) then 0 else 1)) = 0 := by revert hF; (try simp only [spF, fPass, fRest, fIv, fMod, fRep, fPas, fMark, fWin, plc, rwP]); (repeat' split) <;> first | rfl | omega | (intro hF; omega) | contradiction | (intros; contradiction) | (simp; done) | (simp_all; done) | (intros; exfalso; simp_all; done)
    replace hr16 := hr16 (by first | exact hF | exact hT0 | (refine Decidable.byContradiction fun z => ?_; rw [if_neg z] at hT0; exact absurd hT0 (by decide)))
    rw [hT0] at hm15
    (try simp only [↓reduceIte] at hm15)
    have hx18 := hx4.fr hf14 (Or.inl (by omega))
    have hj19 := (hf14 112 (by omega)).trans hj5
    have hq20 := (hf14 113 (by omega)).trans hq8
    refine z_istore (lv' := [(0, .ref ar), (1, .ref (za g 0)), (2, .ref (za g 101)), (3, .ref (za g 112)), (4, .ref (za g 113)), (5, .int (nI (i))), (6, .int (nI (0))), (7, .int (r12))]) dL_law_1176 (by decide) rfl ?_
    refine z_aload_n dL_law_1178 rfl ?_
    obtain ⟨fs21, hfs22⟩ := hm15.cell
    refine z_callE (As := []) (rest := []) (b := 101) (ci := 12) (v := some (.int (nI (0)))) (R2 := zR 0 0) dL_law_1179 kV_RL_156 rfl ⟨⟨by decide, by decide⟩, by show _ ≤ 603072; simp only [zR]; omega, by show _ ≤ 7207018; simp only [zR]; omega⟩ (by omega) hfs22 rfl rfl rfl (Nat.le_of_ble_eq_true rfl) rfl (Mq.th h0 hm15) ?_
    refine z_iload dL_law_1182 rfl ?_
    refine z_icmp_eq_n (a := 0) (b := 0) (tgt := 1189) dL_law_1184 (by decide) (by omega) (by omega) (fun _ => ?_) (fun hq9 => absurd rfl hq9)
    refine z_iload dL_law_1189 rfl ?_
    refine z_if_ne_n (a := 0) (tgt := 1206) dL_law_1191 (by decide) (by decide) (fun hq9 => absurd rfl hq9) (fun _ => ?_)
    refine z_aload_n dL_law_1194 rfl ?_
    refine z_iconst (v := nI 0) dL_law_1195 rfl ?_
    refine z_lald (j := 112) (N := 1) (i := nI 0) dL_law_1196 (by omega) hj19 (vp_in_nI (by decide) (by decide)) ?_
    refine z_eq (st' := [.long ((nI (lenF (gT S.1) S.1.length (spStart (gT S.1) S.1.length (xs (i + 1)).toInt).toNat)).toInt64)]) rfl (by rw [nI_clamp (by decide)]; simp [vp_updL]) rfl ?_
    refine z_iload dL_law_1197 rfl ?_
    refine z_i2l dL_law_1199 ?_
    refine z_lcmp dL_law_1200 ?_
    refine z_eq (st' := [.int (nI 0)]) rfl (by rw [hr16, lg_self]) rfl ?_
    refine z_if_eq_n (a := 0) (tgt := 1206) dL_law_1201 (by decide) (by decide) (fun _ => ?_) (fun hq9 => absurd rfl hq9)
    refine z_goto (tgt := 2848) dL_law_1206 (by decide) ?_
    refine z_sub (lv' := [(0, .ref ar), (1, .ref (za g 0)), (2, .ref (za g 101)), (3, .ref (za g 112)), (4, .ref (za g 113)), (5, .int (nI (i)))]) [0, 1, 2, 3, 4, 5] rfl ?_
    exact zTr_wd (by simp only [zR]; omega) (by simp only [zR]; omega) (kk _ _ _ _ _ _ _ _ ⟨hz, hx18, ⟨_, hm15⟩, ⟨_, hj19⟩, ⟨_, hq20⟩⟩)
  · (first | rw [if_neg hF, if_neg hF] at hx4 | rw [if_neg hF] at hx4 | skip)
    rw [if_neg hF] at hj5
    have hk0 : rwP [1] (if spStart (gT S.1) S.1.length (xs (i + 1)).toInt < 0 then 1 else 0) ≠ 0 := by revert hF; (try simp only [spF, fPass, fRest, fIv, fMod, fRep, fPas, fMark, fWin, plc, rwP]); (repeat' split) <;> first | rfl | omega | (intro hF; omega) | contradiction | (intros; contradiction) | (simp; done) | (simp_all; done) | (intros; exfalso; simp_all; done)
    refine z_istore (lv' := [(0, .ref ar), (1, .ref (za g 0)), (2, .ref (za g 101)), (3, .ref (za g 112)), (4, .ref (za g 113)), (5, .int (nI (i))), (6, .int (nI (rwP [1] (if spStart (gT S.1) S.1.length (xs (i + 1)).toInt < 0 then 1 else 0))))]) dL_law_1164 (by decide) rfl ?_
    refine z_aload_n dL_law_1166 rfl ?_
    refine z_aload_n dL_law_1167 rfl ?_
    refine z_iload dL_law_1168 rfl ?_
    refine z_iconst (v := nI 1) dL_law_1170 rfl ?_
    refine z_iadd_n (a := i) (b := 1) dL_law_1171 ?_
    refine z_tabI (a := i + 1) (v := .int (xs (i + 1))) dL_law_1172 hT (by omega) (by omega) rfl ?_
    have hc31 := c_X13_runLength (b := 101) h0 hm7 (x := (xs (i + 1)))
    obtain ⟨fs23, hfs24⟩ := hm7.cell
    refine z_callV (As := [.int (xs (i + 1))]) (rest := []) (b := 101) (ci := 12) (R2 := zR 4 0) dL_law_1173 kV_RL_208 rfl ⟨⟨by decide, by decide⟩, by show _ ≤ 603072; simp only [zR]; omega, by show _ ≤ 7207018; simp only [zR]; omega⟩ (by omega) hfs24 rfl rfl rfl (Nat.le_of_ble_eq_true rfl) rfl hc31 (fun E w1 hp => by obtain ⟨_, e, _⟩ := hp; cases e) (fun v w25 hp => ?_)
    obtain ⟨r26, he27, hf28, hm29, hr30⟩ := hp
    cases he27
    have hT1 : ((if ¬ (spStart (gT S.1) S.1.length (xs (i + 1)).toInt < 0) then 0 else 1)) = rwP [1] (if spStart (gT S.1) S.1.length (xs (i + 1)).toInt < 0 then 1 else 0) := by revert hF; (try simp only [spF, fPass, fRest, fIv, fMod, fRep, fPas, fMark, fWin, plc, rwP]); (repeat' split) <;> first | rfl | omega | (intro hF; omega) | contradiction | (intros; contradiction) | (simp; done) | (simp_all; done) | (intros; exfalso; simp_all; done)
    rw [hT1] at hm29
    (try rw [if_neg hk0] at hm29)
    have hx32 := hx4.fr hf28 (Or.inl (by omega))
    have hj33 := (hf28 112 (by omega)).trans hj5
    have hq34 := (hf28 113 (by omega)).trans hq8
    refine z_istore (lv' := [(0, .ref ar), (1, .ref (za g 0)), (2, .ref (za g 101)), (3, .ref (za g 112)), (4, .ref (za g 113)), (5, .int (nI (i))), (6, .int (nI (rwP [1] (if spStart (gT S.1) S.1.length (xs (i + 1)).toInt < 0 then 1 else 0)))), (7, .int (r26))]) dL_law_1176 (by decide) rfl ?_
    refine z_aload_n dL_law_1178 rfl ?_
    obtain ⟨fs35, hfs36⟩ := hm29.cell
    refine z_callE (As := []) (rest := []) (b := 101) (ci := 12) (v := some (.int (nI (rwP [1] (if spStart (gT S.1) S.1.length (xs (i + 1)).toInt < 0 then 1 else 0))))) (R2 := zR 0 0) dL_law_1179 kV_RL_156 rfl ⟨⟨by decide, by decide⟩, by show _ ≤ 603072; simp only [zR]; omega, by show _ ≤ 7207018; simp only [zR]; omega⟩ (by omega) hfs36 rfl rfl rfl (Nat.le_of_ble_eq_true rfl) rfl (Mq.th h0 hm29) ?_
    refine z_iload dL_law_1182 rfl ?_
    refine z_icmp_eq_n (a := rwP [1] (if spStart (gT S.1) S.1.length (xs (i + 1)).toInt < 0 then 1 else 0)) (b := rwP [1] (if spStart (gT S.1) S.1.length (xs (i + 1)).toInt < 0 then 1 else 0)) (tgt := 1189) dL_law_1184 (by decide) (by simp only [rwP]; (repeat' split) <;> omega) (by simp only [rwP]; (repeat' split) <;> omega) (fun _ => ?_) (fun hq9 => absurd rfl hq9)
    refine z_iload dL_law_1189 rfl ?_
    refine z_if_ne_n (a := rwP [1] (if spStart (gT S.1) S.1.length (xs (i + 1)).toInt < 0 then 1 else 0)) (tgt := 1206) dL_law_1191 (by decide) (by simp only [rwP]; (repeat' split) <;> omega) (fun _ => ?_) (fun hq9 => absurd hq9 hk0)
    refine z_goto (tgt := 2848) dL_law_1206 (by decide) ?_
    refine z_sub (lv' := [(0, .ref ar), (1, .ref (za g 0)), (2, .ref (za g 101)), (3, .ref (za g 112)), (4, .ref (za g 113)), (5, .int (nI (i)))]) [0, 1, 2, 3, 4, 5] rfl ?_
    exact zTr_wd (by simp only [zR]; omega) (by simp only [zR]; omega) (kk _ _ _ _ _ _ _ _ ⟨hz, hx32, ⟨_, hm29⟩, ⟨_, hj33⟩, ⟨_, hq34⟩⟩)
