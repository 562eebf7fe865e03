/-! the switch and the loop -/
set_option maxRecDepth 100000 in
set_option maxHeartbeats 4000000 in
theorem lw_sw_0 {g : zGT} {w : zW} {S : zSt} {Hs : List zSt} {Sn : Option zSt} {I O : List Nat} {ep fc : Int32} {ar N i ce sl k : Nat} {xs : Nat → Int32} {Post : zP} (h0 : zG0 g) (h1 : zST g) (hN : zNC g) (hT : va_T .int ar N (fun j => .int (xs j)) (zA g) (zs g) (zs g).heap) (hL : LwI g w S Hs Sn I O ep fc) (hi : i + 3 < N) (hN9 : N ≤ 2048) (hce : ce + 2 ≤ 603072) (hsl : sl + 12 ≤ 7207018) (hk : 0 ≤ k) (hk2 : k < 8) (kk : ∀ (w' : zW) (S' : zSt) (Hs' : List zSt) (Sn' : Option zSt) (I' O' : List Nat) (ep' fc' : Int32), LwI g w' S' Hs' Sn' I' O' ep' fc' → zTr g mL_law room_1 (ce + 2) (sl + 12) 2848 [(0, .ref ar), (1, .ref (za g 0)), (2, .ref (za g 101)), (3, .ref (za g 112)), (4, .ref (za g 113)), (5, .int (nI (i)))] [] w' Post) : zTr g mL_law room_1 ce sl 44 [(0, .ref ar), (1, .ref (za g 0)), (2, .ref (za g 101)), (3, .ref (za g 112)), (4, .ref (za g 113)), (5, .int (nI (i)))] [.int (nI k)] w Post := by
  rcases (show k = 0 ∨ k = 1 ∨ k = 2 ∨ k = 3 ∨ k = 4 ∨ k = 5 ∨ k = 6 ∨ k = 7 by omega) with rfl | rfl | rfl | rfl | rfl | rfl | rfl | rfl
  · exact z_tableIn (x := nI 0) (tgt := 284) dL_law_44 (by decide) (by decide) rfl (by decide) (lw_case_0 h0 h1 hN hT hL hi hN9 hce hsl kk)
  · exact z_tableIn (x := nI 1) (tgt := 364) dL_law_44 (by decide) (by decide) rfl (by decide) (lw_case_1 h0 h1 hN hT hL hi hN9 hce hsl kk)
  · exact z_tableIn (x := nI 2) (tgt := 432) dL_law_44 (by decide) (by decide) rfl (by decide) (lw_case_2 h0 h1 hN hT hL hi hN9 hce hsl kk)
  · exact z_tableIn (x := nI 3) (tgt := 500) dL_law_44 (by decide) (by decide) rfl (by decide) (lw_case_3 h0 h1 hN hT hL hi hN9 hce hsl kk)
  · exact z_tableIn (x := nI 4) (tgt := 568) dL_law_44 (by decide) (by decide) rfl (by decide) (lw_case_4 h0 h1 hN hT hL hi hN9 hce hsl kk)
  · exact z_tableIn (x := nI 5) (tgt := 648) dL_law_44 (by decide) (by decide) rfl (by decide) (lw_case_5 h0 h1 hN hT hL hi hN9 hce hsl kk)
  · exact z_tableIn (x := nI 6) (tgt := 723) dL_law_44 (by decide) (by decide) rfl (by decide) (lw_case_6 h0 h1 hN hT hL hi hN9 hce hsl kk)
  · exact z_tableIn (x := nI 7) (tgt := 803) dL_law_44 (by decide) (by decide) rfl (by decide) (lw_case_7 h0 h1 hN hT hL hi hN9 hce hsl kk)
set_option maxRecDepth 100000 in
set_option maxHeartbeats 4000000 in
theorem lw_sw_1 {g : zGT} {w : zW} {S : zSt} {Hs : List zSt} {Sn : Option zSt} {I O : List Nat} {ep fc : Int32} {ar N i ce sl k : Nat} {xs : Nat → Int32} {Post : zP} (h0 : zG0 g) (h1 : zST g) (hN : zNC g) (hT : va_T .int ar N (fun j => .int (xs j)) (zA g) (zs g) (zs g).heap) (hL : LwI g w S Hs Sn I O ep fc) (hi : i + 3 < N) (hN9 : N ≤ 2048) (hce : ce + 2 ≤ 603072) (hsl : sl + 12 ≤ 7207018) (hk : 8 ≤ k) (hk2 : k < 16) (kk : ∀ (w' : zW) (S' : zSt) (Hs' : List zSt) (Sn' : Option zSt) (I' O' : List Nat) (ep' fc' : Int32), LwI g w' S' Hs' Sn' I' O' ep' fc' → zTr g mL_law room_1 (ce + 2) (sl + 12) 2848 [(0, .ref ar), (1, .ref (za g 0)), (2, .ref (za g 101)), (3, .ref (za g 112)), (4, .ref (za g 113)), (5, .int (nI (i)))] [] w' Post) : zTr g mL_law room_1 ce sl 44 [(0, .ref ar), (1, .ref (za g 0)), (2, .ref (za g 101)), (3, .ref (za g 112)), (4, .ref (za g 113)), (5, .int (nI (i)))] [.int (nI k)] w Post := by
  rcases (show k = 8 ∨ k = 9 ∨ k = 10 ∨ k = 11 ∨ k = 12 ∨ k = 13 ∨ k = 14 ∨ k = 15 by omega) with rfl | rfl | rfl | rfl | rfl | rfl | rfl | rfl
  · exact z_tableIn (x := nI 8) (tgt := 871) dL_law_44 (by decide) (by decide) rfl (by decide) (lw_case_8 h0 h1 hN hT hL hi hN9 hce hsl kk)
  · exact z_tableIn (x := nI 9) (tgt := 927) dL_law_44 (by decide) (by decide) rfl (by decide) (lw_case_9 h0 h1 hN hT hL hi hN9 hce hsl kk)
  · exact z_tableIn (x := nI 10) (tgt := 990) dL_law_44 (by decide) (by decide) rfl (by decide) (lw_case_10 h0 h1 hN hT hL hi hN9 hce hsl kk)
  · exact z_tableIn (x := nI 11) (tgt := 1015) dL_law_44 (by decide) (by decide) rfl (by decide) (lw_case_11 h0 h1 hN hT hL hi hN9 hce hsl kk)
  · exact z_tableIn (x := nI 12) (tgt := 1028) dL_law_44 (by decide) (by decide) rfl (by decide) (lw_case_12 h0 h1 hN hT hL hi hN9 hce hsl kk)
  · exact z_tableIn (x := nI 13) (tgt := 1084) dL_law_44 (by decide) (by decide) rfl (by decide) (lw_case_13 h0 h1 hN hT hL hi hN9 hce hsl kk)
  · exact z_tableIn (x := nI 14) (tgt := 1097) dL_law_44 (by decide) (by decide) rfl (by decide) (lw_case_14 h0 h1 hN hT hL hi hN9 hce hsl kk)
  · exact z_tableIn (x := nI 15) (tgt := 1153) dL_law_44 (by decide) (by decide) rfl (by decide) (lw_case_15 h0 h1 hN hT hL hi hN9 hce hsl kk)
set_option maxRecDepth 100000 in
set_option maxHeartbeats 4000000 in
theorem lw_sw_2 {g : zGT} {w : zW} {S : zSt} {Hs : List zSt} {Sn : Option zSt} {I O : List Nat} {ep fc : Int32} {ar N i ce sl k : Nat} {xs : Nat → Int32} {Post : zP} (h0 : zG0 g) (h1 : zST g) (hN : zNC g) (hT : va_T .int ar N (fun j => .int (xs j)) (zA g) (zs g) (zs g).heap) (hL : LwI g w S Hs Sn I O ep fc) (hi : i + 3 < N) (hN9 : N ≤ 2048) (hce : ce + 2 ≤ 603072) (hsl : sl + 12 ≤ 7207018) (hk : 16 ≤ k) (hk2 : k < 24) (kk : ∀ (w' : zW) (S' : zSt) (Hs' : List zSt) (Sn' : Option zSt) (I' O' : List Nat) (ep' fc' : Int32), LwI g w' S' Hs' Sn' I' O' ep' fc' → zTr g mL_law room_1 (ce + 2) (sl + 12) 2848 [(0, .ref ar), (1, .ref (za g 0)), (2, .ref (za g 101)), (3, .ref (za g 112)), (4, .ref (za g 113)), (5, .int (nI (i)))] [] w' Post) : zTr g mL_law room_1 ce sl 44 [(0, .ref ar), (1, .ref (za g 0)), (2, .ref (za g 101)), (3, .ref (za g 112)), (4, .ref (za g 113)), (5, .int (nI (i)))] [.int (nI k)] w Post := by
  rcases (show k = 16 ∨ k = 17 ∨ k = 18 ∨ k = 19 ∨ k = 20 ∨ k = 21 ∨ k = 22 ∨ k = 23 by omega) with rfl | rfl | rfl | rfl | rfl | rfl | rfl | rfl
  · exact z_tableIn (x := nI 16) (tgt := 1209) dL_law_44 (by decide) (by decide) rfl (by decide) (lw_case_16 h0 h1 hN hT hL hi hN9 hce hsl kk)
  · exact z_tableIn (x := nI 17) (tgt := 1265) dL_law_44 (by decide) (by decide) rfl (by decide) (lw_case_17 h0 h1 hN hT hL hi hN9 hce hsl kk)
  · exact z_tableIn (x := nI 18) (tgt := 1278) dL_law_44 (by decide) (by decide) rfl (by decide) (lw_case_18 h0 h1 hN hT hL hi hN9 hce hsl kk)
  · exact z_tableIn (x := nI 19) (tgt := 1291) dL_law_44 (by decide) (by decide) rfl (by decide) (lw_case_19 h0 h1 hN hT hL hi hN9 hce hsl kk)
  · exact z_tableIn (x := nI 20) (tgt := 1347) dL_law_44 (by decide) (by decide) rfl (by decide) (lw_case_20 h0 h1 hN hT hL hi hN9 hce hsl kk)
  · exact z_tableIn (x := nI 21) (tgt := 1361) dL_law_44 (by decide) (by decide) rfl (by decide) (lw_case_21 h0 h1 hN hT hL hi hN9 hce hsl kk)
  · exact z_tableIn (x := nI 22) (tgt := 1375) dL_law_44 (by decide) (by decide) rfl (by decide) (lw_case_22 h0 h1 hN hT hL hi hN9 hce hsl kk)
  · exact z_tableIn (x := nI 23) (tgt := 1443) dL_law_44 (by decide) (by decide) rfl (by decide) (lw_case_23 h0 h1 hN hT hL hi hN9 hce hsl kk)
set_option maxRecDepth 100000 in
set_option maxHeartbeats 4000000 in
theorem lw_sw_3 {g : zGT} {w : zW} {S : zSt} {Hs : List zSt} {Sn : Option zSt} {I O : List Nat} {ep fc : Int32} {ar N i ce sl k : Nat} {xs : Nat → Int32} {Post : zP} (h0 : zG0 g) (h1 : zST g) (hN : zNC g) (hT : va_T .int ar N (fun j => .int (xs j)) (zA g) (zs g) (zs g).heap) (hL : LwI g w S Hs Sn I O ep fc) (hi : i + 3 < N) (hN9 : N ≤ 2048) (hce : ce + 2 ≤ 603072) (hsl : sl + 12 ≤ 7207018) (hk : 24 ≤ k) (hk2 : k < 32) (kk : ∀ (w' : zW) (S' : zSt) (Hs' : List zSt) (Sn' : Option zSt) (I' O' : List Nat) (ep' fc' : Int32), LwI g w' S' Hs' Sn' I' O' ep' fc' → zTr g mL_law room_1 (ce + 2) (sl + 12) 2848 [(0, .ref ar), (1, .ref (za g 0)), (2, .ref (za g 101)), (3, .ref (za g 112)), (4, .ref (za g 113)), (5, .int (nI (i)))] [] w' Post) : zTr g mL_law room_1 ce sl 44 [(0, .ref ar), (1, .ref (za g 0)), (2, .ref (za g 101)), (3, .ref (za g 112)), (4, .ref (za g 113)), (5, .int (nI (i)))] [.int (nI k)] w Post := by
  rcases (show k = 24 ∨ k = 25 ∨ k = 26 ∨ k = 27 ∨ k = 28 ∨ k = 29 ∨ k = 30 ∨ k = 31 by omega) with rfl | rfl | rfl | rfl | rfl | rfl | rfl | rfl
  · exact z_tableIn (x := nI 24) (tgt := 1511) dL_law_44 (by decide) (by decide) rfl (by decide) (lw_case_24 h0 h1 hN hT hL hi hN9 hce hsl kk)
  · exact z_tableIn (x := nI 25) (tgt := 1586) dL_law_44 (by decide) (by decide) rfl (by decide) (lw_case_25 h0 h1 hN hT hL hi hN9 hce hsl kk)
  · exact z_tableIn (x := nI 26) (tgt := 1599) dL_law_44 (by decide) (by decide) rfl (by decide) (lw_case_26 h0 h1 hN hT hL hi hN9 hce hsl kk)
  · exact z_tableIn (x := nI 27) (tgt := 1612) dL_law_44 (by decide) (by decide) rfl (by decide) (lw_case_27 h0 h1 hN hT hL hi hN9 hce hsl kk)
  · exact z_tableIn (x := nI 28) (tgt := 1668) dL_law_44 (by decide) (by decide) rfl (by decide) (lw_case_28 h0 h1 hN hT hL hi hN9 hce hsl kk)
  · exact z_tableIn (x := nI 29) (tgt := 1724) dL_law_44 (by decide) (by decide) rfl (by decide) (lw_case_29 h0 h1 hN hT hL hi hN9 hce hsl kk)
  · exact z_tableIn (x := nI 30) (tgt := 1792) dL_law_44 (by decide) (by decide) rfl (by decide) (lw_case_30 h0 h1 hN hT hL hi hN9 hce hsl kk)
  · exact z_tableIn (x := nI 31) (tgt := 1848) dL_law_44 (by decide) (by decide) rfl (by decide) (lw_case_31 h0 h1 hN hT hL hi hN9 hce hsl kk)
set_option maxRecDepth 100000 in
set_option maxHeartbeats 4000000 in
theorem lw_sw_4 {g : zGT} {w : zW} {S : zSt} {Hs : List zSt} {Sn : Option zSt} {I O : List Nat} {ep fc : Int32} {ar N i ce sl k : Nat} {xs : Nat → Int32} {Post : zP} (h0 : zG0 g) (h1 : zST g) (hN : zNC g) (hT : va_T .int ar N (fun j => .int (xs j)) (zA g) (zs g) (zs g).heap) (hL : LwI g w S Hs Sn I O ep fc) (hi : i + 3 < N) (hN9 : N ≤ 2048) (hce : ce + 2 ≤ 603072) (hsl : sl + 12 ≤ 7207018) (hk : 32 ≤ k) (hk2 : k < 40) (kk : ∀ (w' : zW) (S' : zSt) (Hs' : List zSt) (Sn' : Option zSt) (I' O' : List Nat) (ep' fc' : Int32), LwI g w' S' Hs' Sn' I' O' ep' fc' → zTr g mL_law room_1 (ce + 2) (sl + 12) 2848 [(0, .ref ar), (1, .ref (za g 0)), (2, .ref (za g 101)), (3, .ref (za g 112)), (4, .ref (za g 113)), (5, .int (nI (i)))] [] w' Post) : zTr g mL_law room_1 ce sl 44 [(0, .ref ar), (1, .ref (za g 0)), (2, .ref (za g 101)), (3, .ref (za g 112)), (4, .ref (za g 113)), (5, .int (nI (i)))] [.int (nI k)] w Post := by
  rcases (show k = 32 ∨ k = 33 ∨ k = 34 ∨ k = 35 ∨ k = 36 ∨ k = 37 ∨ k = 38 ∨ k = 39 by omega) with rfl | rfl | rfl | rfl | rfl | rfl | rfl | rfl
  · exact z_tableIn (x := nI 32) (tgt := 1904) dL_law_44 (by decide) (by decide) rfl (by decide) (lw_case_32 h0 h1 hN hT hL hi hN9 hce hsl kk)
  · exact z_tableIn (x := nI 33) (tgt := 1948) dL_law_44 (by decide) (by decide) rfl (by decide) (lw_case_33 h0 h1 hN hT hL hi hN9 hce hsl kk)
  · exact z_tableIn (x := nI 34) (tgt := 1992) dL_law_44 (by decide) (by decide) rfl (by decide) (lw_case_34 h0 h1 hN hT hL hi hN9 hce hsl kk)
  · exact z_tableIn (x := nI 35) (tgt := 2005) dL_law_44 (by decide) (by decide) rfl (by decide) (lw_case_35 h0 h1 hN hT hL hi hN9 hce hsl kk)
  · exact z_tableIn (x := nI 36) (tgt := 2061) dL_law_44 (by decide) (by decide) rfl (by decide) (lw_case_36 h0 h1 hN hT hL hi hN9 hce hsl kk)
  · exact z_tableIn (x := nI 37) (tgt := 2117) dL_law_44 (by decide) (by decide) rfl (by decide) (lw_case_37 h0 h1 hN hT hL hi hN9 hce hsl kk)
  · exact z_tableIn (x := nI 38) (tgt := 2173) dL_law_44 (by decide) (by decide) rfl (by decide) (lw_case_38 h0 h1 hN hT hL hi hN9 hce hsl kk)
  · exact z_tableIn (x := nI 39) (tgt := 2186) dL_law_44 (by decide) (by decide) rfl (by decide) (lw_case_39 h0 h1 hN hT hL hi hN9 hce hsl kk)
set_option maxRecDepth 100000 in
set_option maxHeartbeats 4000000 in
theorem lw_sw_5 {g : zGT} {w : zW} {S : zSt} {Hs : List zSt} {Sn : Option zSt} {I O : List Nat} {ep fc : Int32} {ar N i ce sl k : Nat} {xs : Nat → Int32} {Post : zP} (h0 : zG0 g) (h1 : zST g) (hN : zNC g) (hT : va_T .int ar N (fun j => .int (xs j)) (zA g) (zs g) (zs g).heap) (hL : LwI g w S Hs Sn I O ep fc) (hi : i + 3 < N) (hN9 : N ≤ 2048) (hce : ce + 2 ≤ 603072) (hsl : sl + 12 ≤ 7207018) (hk : 40 ≤ k) (hk2 : k < 48) (kk : ∀ (w' : zW) (S' : zSt) (Hs' : List zSt) (Sn' : Option zSt) (I' O' : List Nat) (ep' fc' : Int32), LwI g w' S' Hs' Sn' I' O' ep' fc' → zTr g mL_law room_1 (ce + 2) (sl + 12) 2848 [(0, .ref ar), (1, .ref (za g 0)), (2, .ref (za g 101)), (3, .ref (za g 112)), (4, .ref (za g 113)), (5, .int (nI (i)))] [] w' Post) : zTr g mL_law room_1 ce sl 44 [(0, .ref ar), (1, .ref (za g 0)), (2, .ref (za g 101)), (3, .ref (za g 112)), (4, .ref (za g 113)), (5, .int (nI (i)))] [.int (nI k)] w Post := by
  rcases (show k = 40 ∨ k = 41 ∨ k = 42 ∨ k = 43 ∨ k = 44 ∨ k = 45 ∨ k = 46 ∨ k = 47 by omega) with rfl | rfl | rfl | rfl | rfl | rfl | rfl | rfl
  · exact z_tableIn (x := nI 40) (tgt := 2261) dL_law_44 (by decide) (by decide) rfl (by decide) (lw_case_40 h0 h1 hN hT hL hi hN9 hce hsl kk)
  · exact z_tableIn (x := nI 41) (tgt := 2274) dL_law_44 (by decide) (by decide) rfl (by decide) (lw_case_41 h0 h1 hN hT hL hi hN9 hce hsl kk)
  · exact z_tableIn (x := nI 42) (tgt := 2287) dL_law_44 (by decide) (by decide) rfl (by decide) (lw_case_42 h0 h1 hN hT hL hi hN9 hce hsl kk)
  · exact z_tableIn (x := nI 43) (tgt := 2352) dL_law_44 (by decide) (by decide) rfl (by decide) (lw_case_43 h0 h1 hN hT hL hi hN9 hce hsl kk)
  · exact z_tableIn (x := nI 44) (tgt := 2418) dL_law_44 (by decide) (by decide) rfl (by decide) (lw_case_44 h0 h1 hN hT hL hi hN9 hce hsl kk)
  · exact z_tableIn (x := nI 45) (tgt := 2431) dL_law_44 (by decide) (by decide) rfl (by decide) (lw_case_45 h0 h1 hN hT hL hi hN9 hce hsl kk)
  · exact z_tableIn (x := nI 46) (tgt := 2444) dL_law_44 (by decide) (by decide) rfl (by decide) (lw_case_46 h0 h1 hN hT hL hi hN9 hce hsl kk)
  · exact z_tableIn (x := nI 47) (tgt := 2457) dL_law_44 (by decide) (by decide) rfl (by decide) (lw_case_47 h0 h1 hN hT hL hi hN9 hce hsl kk)
set_option maxRecDepth 100000 in
set_option maxHeartbeats 4000000 in
theorem lw_sw_6 {g : zGT} {w : zW} {S : zSt} {Hs : List zSt} {Sn : Option zSt} {I O : List Nat} {ep fc : Int32} {ar N i ce sl k : Nat} {xs : Nat → Int32} {Post : zP} (h0 : zG0 g) (h1 : zST g) (hN : zNC g) (hT : va_T .int ar N (fun j => .int (xs j)) (zA g) (zs g) (zs g).heap) (hL : LwI g w S Hs Sn I O ep fc) (hi : i + 3 < N) (hN9 : N ≤ 2048) (hce : ce + 2 ≤ 603072) (hsl : sl + 12 ≤ 7207018) (hk : 48 ≤ k) (hk2 : k < 56) (kk : ∀ (w' : zW) (S' : zSt) (Hs' : List zSt) (Sn' : Option zSt) (I' O' : List Nat) (ep' fc' : Int32), LwI g w' S' Hs' Sn' I' O' ep' fc' → zTr g mL_law room_1 (ce + 2) (sl + 12) 2848 [(0, .ref ar), (1, .ref (za g 0)), (2, .ref (za g 101)), (3, .ref (za g 112)), (4, .ref (za g 113)), (5, .int (nI (i)))] [] w' Post) : zTr g mL_law room_1 ce sl 44 [(0, .ref ar), (1, .ref (za g 0)), (2, .ref (za g 101)), (3, .ref (za g 112)), (4, .ref (za g 113)), (5, .int (nI (i)))] [.int (nI k)] w Post := by
  rcases (show k = 48 ∨ k = 49 ∨ k = 50 ∨ k = 51 ∨ k = 52 ∨ k = 53 ∨ k = 54 ∨ k = 55 by omega) with rfl | rfl | rfl | rfl | rfl | rfl | rfl | rfl
  · exact z_tableIn (x := nI 48) (tgt := 2513) dL_law_44 (by decide) (by decide) rfl (by decide) (lw_case_48 h0 h1 hN hT hL hi hN9 hce hsl kk)
  · exact z_tableIn (x := nI 49) (tgt := 2571) dL_law_44 (by decide) (by decide) rfl (by decide) (lw_case_49 h0 h1 hN hT hL hi hN9 hce hsl kk)
  · exact z_tableIn (x := nI 50) (tgt := 2615) dL_law_44 (by decide) (by decide) rfl (by decide) (lw_case_50 h0 h1 hN hT hL hi hN9 hce hsl kk)
  · exact z_tableIn (x := nI 51) (tgt := 2659) dL_law_44 (by decide) (by decide) rfl (by decide) (lw_case_51 h0 h1 hN hT hL hi hN9 hce hsl kk)
  · exact z_tableIn (x := nI 52) (tgt := 2703) dL_law_44 (by decide) (by decide) rfl (by decide) (lw_case_52 h0 h1 hN hT hL hi hN9 hce hsl kk)
  · exact z_tableIn (x := nI 53) (tgt := 2747) dL_law_44 (by decide) (by decide) rfl (by decide) (lw_case_53 h0 h1 hN hT hL hi hN9 hce hsl kk)
  · exact z_tableIn (x := nI 54) (tgt := 2791) dL_law_44 (by decide) (by decide) rfl (by decide) (lw_case_54 h0 h1 hN hT hL hi hN9 hce hsl kk)
  · exact z_tableIn (x := nI 55) (tgt := 2804) dL_law_44 (by decide) (by decide) rfl (by decide) (lw_case_55 h0 h1 hN hT hL hi hN9 hce hsl kk)
theorem lw_and (x : Int32) : ∃ k, k < 64 ∧ x &&& nI 63 = nI k := by
  refine ⟨x.toBitVec.toNat % 64, Nat.mod_lt _ (by decide), ?_⟩
  apply Int32.toBitVec_inj.mp
  apply BitVec.eq_of_toNat_eq
  rw [pk_tn (by omega)]
  show (x.toBitVec &&& (nI 63).toBitVec).toNat = _
  rw [BitVec.toNat_and]
  exact Nat.and_two_pow_sub_one_eq_mod x.toBitVec.toNat 6
def lwPost : zP := fun o _ => o = .inl (some (.int (nI 1)))
set_option maxRecDepth 100000 in
set_option maxHeartbeats 4000000 in
theorem lw_loop {g : zGT} {ar N : Nat} {xs : Nat → Int32} (h0 : zG0 g) (h1 : zST g) (hN : zNC g) (hT : va_T .int ar N (fun j => .int (xs j)) (zA g) (zs g) (zs g).heap) (hN9 : N ≤ 2048) : ∀ (n r : Nat) (w : zW) (S : zSt) (Hs : List zSt) (Sn : Option zSt) (I O : List Nat) (ep fc : Int32), N + 4 ≤ 4 * r + 4 * n → 4 * r ≤ N → LwI g w S Hs Sn I O ep fc → zTr g mL_law room_1 (114 + 2 * r) (12800 + 12 * r) 28 [(0, .ref ar), (1, .ref (za g 0)), (2, .ref (za g 101)), (3, .ref (za g 112)), (4, .ref (za g 113)), (5, .int (nI (4 * r)))] [] w lwPost := by
  intro n
  induction n with
  | zero =>
    intro r w S Hs Sn I O ep fc h2 h3
    omega
  | succ n ih =>
    intro r w S Hs Sn I O ep fc h2 h3 hL
    refine z_iload dL_law_28 rfl ?_
    refine z_aload_n dL_law_30 rfl ?_
    refine z_tabL dL_law_31 hT ?_
    refine z_iconst (v := nI 4) dL_law_32 rfl ?_
    refine z_isub dL_law_33 ?_
    refine z_icmp_gt_z (x := nI (4 * r)) (y := nI N - nI 4) (tgt := 2854) dL_law_34 (by decide) (fun hc => ?_) (fun hc => ?_)
    · refine z_iconst (v := nI 1) dL_law_2854 rfl ?_
      exact z_zret (ty := .boolean) dL_law_2855 rfl (by show _ ≤ 603072; omega) (by show _ ≤ 7207018; omega) rfl rfl
    · rw [pk_sub_toInt (by omega) (by decide), nI_toInt (by omega)] at hc
      have hlt : 4 * r + 3 < N := by omega
      have kk : ∀ (w' : zW) (S' : zSt) (Hs' : List zSt) (Sn' : Option zSt) (I' O' : List Nat) (ep' fc' : Int32), LwI g w' S' Hs' Sn' I' O' ep' fc' → zTr g mL_law room_1 (114 + 2 * r + 2) (12800 + 12 * r + 12) 2848 [(0, .ref ar), (1, .ref (za g 0)), (2, .ref (za g 101)), (3, .ref (za g 112)), (4, .ref (za g 113)), (5, .int (nI (4 * r)))] [] w' lwPost := by
        intro w' S' Hs' Sn' I' O' ep' fc' hL'
        refine z_iinc_n (n := 4) (a := 4 * r) (lv' := [(0, .ref ar), (1, .ref (za g 0)), (2, .ref (za g 101)), (3, .ref (za g 112)), (4, .ref (za g 113)), (5, .int (nI (4 * r + 4)))]) dL_law_2848 rfl (by decide) rfl ?_
        refine z_goto (tgt := 28) dL_law_2851 (by decide) ?_
        refine z_eq (lv' := [(0, .ref ar), (1, .ref (za g 0)), (2, .ref (za g 101)), (3, .ref (za g 112)), (4, .ref (za g 113)), (5, .int (nI (4 * (r + 1))))]) rfl rfl rfl ?_
        exact zTr_wd (by omega) (by omega) (ih (r + 1) w' S' Hs' Sn' I' O' ep' fc' (by omega) (by omega) hL')
      refine z_aload_n dL_law_37 rfl ?_
      refine z_iload dL_law_38 rfl ?_
      refine z_tabI (a := 4 * r) (v := .int (xs (4 * r))) dL_law_40 hT (by omega) (by omega) rfl ?_
      refine z_bipush (v := nI 63) dL_law_41 rfl ?_
      refine z_iand dL_law_43 ?_
      obtain ⟨k, hk, ek⟩ := lw_and (xs (4 * r))
      refine z_eq (st' := [.int (nI k)]) rfl (by rw [ek]) rfl ?_
      by_cases k56 : 56 ≤ k
      · refine z_tableOut (x := nI k) (tgt := 2848) dL_law_44 (Or.inr (by rw [nI_toInt (by omega)]; omega)) (by decide) ?_
        exact zTr_wd (by omega) (by omega) (kk w S Hs Sn I O ep fc hL)
      by_cases k0 : 0 ≤ k ∧ k < 8
      · exact lw_sw_0 h0 h1 hN hT hL hlt hN9 (by omega) (by omega) k0.1 k0.2 kk
      by_cases k1 : 8 ≤ k ∧ k < 16
      · exact lw_sw_1 h0 h1 hN hT hL hlt hN9 (by omega) (by omega) k1.1 k1.2 kk
      by_cases k2 : 16 ≤ k ∧ k < 24
      · exact lw_sw_2 h0 h1 hN hT hL hlt hN9 (by omega) (by omega) k2.1 k2.2 kk
      by_cases k3 : 24 ≤ k ∧ k < 32
      · exact lw_sw_3 h0 h1 hN hT hL hlt hN9 (by omega) (by omega) k3.1 k3.2 kk
      by_cases k4 : 32 ≤ k ∧ k < 40
      · exact lw_sw_4 h0 h1 hN hT hL hlt hN9 (by omega) (by omega) k4.1 k4.2 kk
      by_cases k5 : 40 ≤ k ∧ k < 48
      · exact lw_sw_5 h0 h1 hN hT hL hlt hN9 (by omega) (by omega) k5.1 k5.2 kk
      by_cases k6 : 48 ≤ k ∧ k < 56
      · exact lw_sw_6 h0 h1 hN hT hL hlt hN9 (by omega) (by omega) k6.1 k6.2 kk
      omega
