/-! RailTimeline: means, windows, periods, bars, the check of the state -/
theorem n64_of {r : UInt64} (h : Jvm.FP.Core.val64 r ≠ .nan) : vf_n64 r := by
  have h1 := (Jvm.FP.Core.ne_nan r).mp h
  unfold vf_n64
  rw [UInt64.le_iff_toNat_le, UInt64.toNat_and]
  rw [show (0x7fffffffffffffff : UInt64).toNat = 2 ^ 63 - 1 from rfl, Nat.and_two_pow_sub_one_eq_mod]
  exact h1
theorem n32_of {r : UInt32} (h : Jvm.FP.Core.val32 r ≠ .nan) : vf_n32 r := by
  have h1 := (Jvm.FP.Core.ne_nan32 r).mp h
  unfold vf_n32
  rw [UInt32.le_iff_toNat_le, UInt32.toNat_and]
  rw [show (0x7fffffff : UInt32).toNat = 2 ^ 31 - 1 from rfl, Nat.and_two_pow_sub_one_eq_mod]
  exact h1
theorem nI_nz {a : Nat} (h : 0 < a) (h2 : a < 2 ^ 31) : nI a ≠ 0 := nI_ne0 h h2
theorem ddiv_ok {a : Int64} {c : Nat} (h : 0 < c) (h2 : c < 2 ^ 31) : vf_n64 (FP.ddiv (FP.l2d a) (FP.i2d (nI c))) :=
  n64_of ((Jvm.FP.Core.notNaN_iff _).mp (Jvm.FP.Core.ddiv_out (Jvm.FP.Core.DFin.notNaN (Jvm.FP.Core.l2d_fin a)) (Jvm.FP.Core.i2d_fin _) (fun z => Jvm.FP.Core.i2d_ne_zero (nI_nz h h2) ((Jvm.FP.Core.zero_bits2 _).mp z))))
theorem l2d_i2d {a : Nat} (h : a < 2 ^ 31) : FP.l2d (lN a) = FP.i2d (nI a) := by
  show Jvm.FP.Core.l2d (lN a) = Jvm.FP.Core.i2d (nI a)
  unfold Jvm.FP.Core.l2d Jvm.FP.Core.i2d
  rw [lN_toInt h, nI_toInt h]
theorem fdiv_ok' {a c : Nat} (h : 0 < c) (h2 : c < 2 ^ 31) : Jvm.FP.Core.fIsNaN (FP.fdiv (FP.i2f (nI a)) (FP.i2f (nI c))) = false :=
  Jvm.FP.Core.fdiv_out ((Jvm.FP.Core.notNaN_iff32 _).mpr (by obtain ⟨s, c, q, e⟩ := Jvm.FP.Core.i2f_fin (nI a); rw [e]; exact Jvm.FP.Core.Datum.noConfusion)) (Jvm.FP.Core.i2f_fin _) (fun z => Jvm.FP.Core.i2f_ne_zero (nI_nz h h2) ((Jvm.FP.Core.zero_bits232 _).mp z))
theorem fdiv_ok {a c : Nat} (h : 0 < c) (h2 : c < 2 ^ 31) : vf_n32 (FP.fdiv (FP.i2f (nI a)) (FP.i2f (nI c))) := n32_of ((Jvm.FP.Core.notNaN_iff32 _).mp (fdiv_ok' h h2))
theorem f2d_ok {x : UInt32} (h : Jvm.FP.Core.fIsNaN x = false) : vf_n64 (FP.f2d x) := by
  refine n64_of ((Jvm.FP.Core.notNaN_iff _).mp ?_)
  unfold FP.f2d
  rw [h]
  exact Jvm.FP.Core.f2d_out h
set_option maxRecDepth 100000 in
set_option maxHeartbeats 4000000 in
theorem c_X12_meanLevel {g : zGT} {w : zW} {b : Nat} {S : zSt} {Hs : List zSt} {Sn : Option zSt} {I O : List Nat} {ep fc : Int32}  (h0 : zG0 g) (h1 : zST g) (h : Rx g w b S Hs Sn I O ep fc) : zCt g mX12_meanLevel (zR 4 1) [.ref (za g b)] w (fun o w' => o = zAns (if S.1.length = 0 then 5 else 0) (some (.double (FP.ddiv (FP.l2d (lN (tsum (gT S.1) 0 S.1.length))) (FP.i2d (nI S.1.length))))) ∧ zFr w w' b (b + 101) ∧ Rx g w' b S Hs Sn I O ep fc) := by
  have hb := h.1
  have hn := h.st.len
  refine zCt_of (by decide +kernel) h0 [(0, .ref (za g b))] rfl (Nat.le_of_ble_eq_true rfl) ?_
  refine z_aload_n dX12_meanLevel_0 rfl ?_
  refine z_callA (As := []) (rest := []) (b := b) (ci := 11) (f := if S.1.length = 0 then 5 else 0) (v := some (.int (nI (S.1.length)))) (R2 := zR 1 1) dX12_meanLevel_1 kV_RX12_257 rfl ⟨⟨by decide, by decide⟩, by decide, by decide⟩ (by omega) h.ce rfl rfl rfl (Nat.le_of_ble_eq_true rfl) rfl (c_X12_tickCountToDivideBy h0 h1 h) (fun hx2 w1 pw1 => ?_) (fun hq3 w1 pw1 => ?_)
  · exact ⟨zAns_n rfl hx2, pw1.1, pw1.2⟩
  obtain ⟨hf4, hx5⟩ := pw1
  refine z_i2d dX12_meanLevel_4 ?_
  refine z_dstore_n (lv' := [(0, .ref (za g b)), (1, .double (FP.i2d (nI (S.1.length))))]) dX12_meanLevel_5 (by decide) rfl ?_
  refine z_aload_n dX12_meanLevel_6 rfl ?_
  refine z_callR (As := []) (rest := []) (b := b) (ci := 11) (v := some (.ref (za g (b + 80)))) (R2 := zR 2 0) dX12_meanLevel_7 kV_RX12_186 rfl ⟨⟨by decide, by decide⟩, by decide, by decide⟩ (by omega) hx5.ce rfl rfl rfl (Nat.le_of_ble_eq_true rfl) rfl (c_X12_currentRuns h0 h1 hx5) (fun w6 pw6 => ?_)
  obtain ⟨hf7, hx7, m7, s7, l7, v7, hR7, hI7⟩ := pw6
  have hm7 := hR7.2.2.1
  refine z_callE (As := []) (rest := []) (b := b + 80) (ci := 8) (v := some (.long (lN (nsum (fun r => v7 r * l7 r) m7)))) (R2 := zR 2 0) dX12_meanLevel_10 kV_RX12_225 rfl ⟨⟨by decide, by decide⟩, by decide, by decide⟩ (by omega) hR7.2.1 rfl rfl rfl (Nat.le_of_ble_eq_true rfl) rfl (c_X8_sumOfLevels h0 hR7) ?_
  refine z_l2d dX12_meanLevel_13 ?_
  refine z_dload_n dX12_meanLevel_14 rfl ?_
  refine z_ddiv dX12_meanLevel_15 (ddiv_ok (by have q := hq3; split at q <;> omega) (by omega)) ?_
  refine z_dret dX12_meanLevel_16 rfl (by decide) (by decide) ?_
  exact ⟨zAns_y hq3 (by rw [hI7.loud]), (hf4.tr hf7), hx7⟩
set_option maxRecDepth 100000 in
set_option maxHeartbeats 4000000 in
theorem c_X12_restShare {g : zGT} {w : zW} {b : Nat} {S : zSt} {Hs : List zSt} {Sn : Option zSt} {I O : List Nat} {ep fc : Int32}  (h0 : zG0 g) (h1 : zST g) (h : Rx g w b S Hs Sn I O ep fc) : zCt g mX12_restShare (zR 4 1) [.ref (za g b)] w (fun o w' => o = zAns (if S.1.length = 0 then 5 else 0) (some (.float (FP.fdiv (FP.i2f (nI (zcnt (fun k => decide (gT S.1 k = 0)) 0 S.1.length))) (FP.i2f (nI S.1.length))))) ∧ zFr w w' b (b + 101) ∧ Rx g w' b S Hs Sn I O ep fc) := by
  have hb := h.1
  have hn := h.st.len
  refine zCt_of (by decide +kernel) h0 [(0, .ref (za g b))] rfl (Nat.le_of_ble_eq_true rfl) ?_
  refine z_aload_n dX12_restShare_0 rfl ?_
  refine z_callA (As := []) (rest := []) (b := b) (ci := 11) (f := if S.1.length = 0 then 5 else 0) (v := some (.int (nI (S.1.length)))) (R2 := zR 1 1) dX12_restShare_1 kV_RX12_257 rfl ⟨⟨by decide, by decide⟩, by decide, by decide⟩ (by omega) h.ce rfl rfl rfl (Nat.le_of_ble_eq_true rfl) rfl (c_X12_tickCountToDivideBy h0 h1 h) (fun hx2 w1 pw1 => ?_) (fun hq3 w1 pw1 => ?_)
  · exact ⟨zAns_n rfl hx2, pw1.1, pw1.2⟩
  obtain ⟨hf4, hx5⟩ := pw1
  refine z_i2f dX12_restShare_4 ?_
  refine z_fstore_n (lv' := [(0, .ref (za g b)), (1, .float (FP.i2f (nI (S.1.length))))]) dX12_restShare_5 (by decide) rfl ?_
  refine z_aload_n dX12_restShare_6 rfl ?_
  refine z_callR (As := []) (rest := []) (b := b) (ci := 11) (v := some (.ref (za g (b + 80)))) (R2 := zR 2 0) dX12_restShare_7 kV_RX12_186 rfl ⟨⟨by decide, by decide⟩, by decide, by decide⟩ (by omega) hx5.ce rfl rfl rfl (Nat.le_of_ble_eq_true rfl) rfl (c_X12_currentRuns h0 h1 hx5) (fun w6 pw6 => ?_)
  obtain ⟨hf7, hx7, m7, s7, l7, v7, hR7, hI7⟩ := pw6
  have hm7 := hR7.2.2.1
  refine z_callE (As := []) (rest := []) (b := b + 80) (ci := 8) (v := some (.int (nI (nsum (fun r => if v7 r = 0 then l7 r else 0) m7)))) (R2 := zR 2 0) dX12_restShare_10 kV_RX12_213 rfl ⟨⟨by decide, by decide⟩, by decide, by decide⟩ (by omega) hR7.2.1 rfl rfl rfl (Nat.le_of_ble_eq_true rfl) rfl (c_X8_ticksOfRests h0 hR7) ?_
  refine z_i2f dX12_restShare_13 ?_
  refine z_fload_n dX12_restShare_14 rfl ?_
  refine z_fdiv dX12_restShare_15 (fdiv_ok (by have q := hq3; split at q <;> omega) (by omega)) ?_
  refine z_fret dX12_restShare_16 rfl (by decide) (by decide) ?_
  exact ⟨zAns_y hq3 (by rw [hI7.rests]), (hf4.tr hf7), hx7⟩
def fWin (n : Nat) (x : Int) : Nat := if x < 1 then 2 else if (n : Int) < x then 4 else 0
/-- the earliest of the quietest windows that begin at 0 .. k -/
def winB (T : Nat → Nat) (L : Nat) : Nat → Nat
  | 0 => 0
  | k + 1 => if tsum T (k + 1) L < tsum T (winB T L k) L then k + 1 else winB T L k
theorem winB_le {T : Nat → Nat} {L : Nat} : ∀ {k : Nat}, winB T L k ≤ k
  | 0 => Nat.le_refl _
  | k + 1 => by rw [winB]; have := winB_le (T := T) (L := L) (k := k); split <;> omega
theorem tsum_sh {T : Nat → Nat} {p : Nat} : ∀ {L : Nat}, tsum T (p + 1) L + T p = tsum T p L + T (p + L)
  | 0 => by simp [tsum]
  | L + 1 => by have := tsum_sh (T := T) (p := p) (L := L); rw [tsum, tsum, show p + 1 + L = p + (L + 1) by omega]; omega
theorem nI_as {s a c r : Nat} (h : r + c = s + a) : nI s + (nI a - nI c) = nI r := by
  rw [Int32.sub_eq_add_neg, ← Int32.add_assoc, nI_add, ← h, ← Int32.sub_eq_add_neg, pk_sub (by omega), show r + c - c = r by omega]
set_option maxRecDepth 100000 in
set_option maxHeartbeats 4000000 in
theorem c_X12_windowFault {g : zGT} {w : zW} {b : Nat} {S : zSt} {Hs : List zSt} {Sn : Option zSt} {I O : List Nat} {ep fc : Int32} {x : Int32} (h0 : zG0 g) (h1 : zST g) (h : Rx g w b S Hs Sn I O ep fc) : zCt g mX12_windowFault (zR 1 0) [.ref (za g b), .int (x)] w (fun o w' => o = .inl (some (.ref (ze g (fWin S.1.length x.toInt)))) ∧ w' = w) := by
  have hb := h.1
  have hn := h.st.len
  refine zCt_of (by decide +kernel) h0 [(0, .ref (za g b)), (1, .int (x))] rfl (Nat.le_of_ble_eq_true rfl) ?_
  refine z_iload_n dX12_windowFault_0 rfl ?_
  refine z_iconst (v := nI 1) dX12_windowFault_1 rfl ?_
  have hk2 := nI_toInt (n := 1) (by omega)
  refine z_icmp_ge_z (tgt := 9) dX12_windowFault_2 (by decide) (fun h_2_1 => ?_) (fun h_2_1 => ?_)
  · refine z_iload_n dX12_windowFault_9 rfl ?_
    refine z_aload_n dX12_windowFault_10 rfl ?_
    refine z_getf (j := b) dX12_windowFault_11 kF_RX12_12 rfl (by omega) h.ce rfl ?_
    refine z_getfN (j := b + 1) dX12_windowFault_14 kN_RX12_167 rfl (by omega) h.st.cell rfl ?_
    refine z_callE (As := []) (rest := [.int (x)]) (b := b + 1 + 1) (ci := 5) (v := some (.int (nI (S.1.length)))) (R2 := zR 0 0) dX12_windowFault_17 kV_RX12_170 rfl ⟨⟨by decide, by decide⟩, by decide, by decide⟩ (by omega) h.st.tl.cell rfl rfl rfl (Nat.le_of_ble_eq_true rfl) rfl (tc_size h0 h.st.tl) ?_
    have hk5 := nI_toInt (n := S.1.length) (by omega)
    refine z_icmp_le_z (tgt := 29) dX12_windowFault_20 (by decide) (fun h_20_4 => ?_) (fun h_20_4 => ?_)
    · refine z_gets dX12_windowFault_29 kG_RX12_275 rfl (h1.fl (i := 0) (by decide)) ?_
      refine z_aret dX12_windowFault_32 rfl (by decide) (by decide) (Or.inl ⟨_, rfl⟩) (Or.inr ⟨_, rfl⟩) ?_
      have e : fWin S.1.length x.toInt = 0 := by unfold fWin; (repeat' split) <;> omega
      rw [e]; exact ⟨rfl, rfl⟩
    · refine z_gets dX12_windowFault_23 kG_RX12_159 rfl (h1.fl (i := 4) (by decide)) ?_
      refine z_goto (tgt := 32) dX12_windowFault_26 (by decide) ?_
      refine z_aret dX12_windowFault_32 rfl (by decide) (by decide) (Or.inl ⟨_, rfl⟩) (Or.inr ⟨_, rfl⟩) ?_
      have e : fWin S.1.length x.toInt = 4 := by unfold fWin; (repeat' split) <;> omega
      rw [e]; exact ⟨rfl, rfl⟩
  · refine z_gets dX12_windowFault_5 kG_RX12_143 rfl (h1.fl (i := 2) (by decide)) ?_
    refine z_aret dX12_windowFault_8 rfl (by decide) (by decide) (Or.inl ⟨_, rfl⟩) (Or.inr ⟨_, rfl⟩) ?_
    have e : fWin S.1.length x.toInt = 2 := by unfold fWin; (repeat' split) <;> omega
    rw [e]; exact ⟨rfl, rfl⟩
set_option maxRecDepth 100000 in
set_option maxHeartbeats 4000000 in
theorem c_X12_windowByMoving {g : zGT} {w : zW} {b : Nat} {S : zSt} {Hs : List zSt} {Sn : Option zSt} {I O : List Nat} {ep fc : Int32} {L : Nat} (h0 : zG0 g) (h1 : zST g) (h : Rx g w b S Hs Sn I O ep fc) (hL1 : 1 ≤ L) (hLn : L ≤ S.1.length) : zCt g mX12_windowByMoving (zR 2 0) [.ref (za g b), .int (nI (L))] w (fun o w' => o = .inl (some (.int (nI (winB (gT S.1) L (S.1.length - L))))) ∧ w' = w) := by
  have hb := h.1
  have hn := h.st.len
  have hsl : ∀ q, q + L ≤ S.1.length → tsum (gT S.1) q L ≤ L * 9 := fun q hq => tsum_le (fun k h1 h2 => h.st.tl.le (by omega))
  have hL9 : L * 9 ≤ 1800 := by omega
  refine zCt_of (by decide +kernel) h0 [(0, .ref (za g b)), (1, .int (nI (L)))] rfl (Nat.le_of_ble_eq_true rfl) ?_
  have loop : ∀ (mm : Nat) (i q : Nat), S.1.length - L + 2 - i < mm → (1 ≤ i) → (i ≤ S.1.length - L + 1) → (q = winB (gT S.1) L (i - 1)) → zTr g mX12_windowByMoving (zR 2 0) 0 0 24 [(0, .ref (za g b)), (1, .int (nI (L))), (2, .ref (za g (b + 1 + 1))), (3, .int (nI (tsum (gT S.1) (i - 1) L))), (4, .int (nI (tsum (gT S.1) q L))), (5, .int (nI (q))), (6, .int (nI (i)))] [] w (fun o w' => o = .inl (some (.int (nI (winB (gT S.1) L (S.1.length - L))))) ∧ w' = w) := by
    intro mm
    induction mm with
    | zero => intros; omega
    | succ mm ih =>
      intro i q hm hi1 hi2 hq
      have hqi := winB_le (T := (gT S.1)) (L := L) (k := i - 1)
      rw [← hq] at hqi
      refine z_iload dX12_windowByMoving_24 rfl ?_
      refine z_aload_n dX12_windowByMoving_26 rfl ?_
      refine z_callE (As := []) (rest := [.int (nI (i))]) (b := b + 1 + 1) (ci := 5) (v := some (.int (nI (S.1.length)))) (R2 := zR 0 0) dX12_windowByMoving_27 kV_RX12_170 rfl ⟨⟨by decide, by decide⟩, by decide, by decide⟩ (by omega) h.st.tl.cell rfl rfl rfl (Nat.le_of_ble_eq_true rfl) rfl (tc_size h0 h.st.tl) ?_
      refine z_iload_n dX12_windowByMoving_30 rfl ?_
      refine z_isub_n (a := S.1.length) (b := L) dX12_windowByMoving_31 (by omega) ?_
      refine z_icmp_gt_n (a := i) (b := (S.1.length) - (L)) (tgt := 76) dX12_windowByMoving_32 (by decide) (by omega) (by omega) (fun h_32_2 => ?_) (fun h_32_2 => ?_)
      · refine z_iload dX12_windowByMoving_76 rfl ?_
        refine z_iret dX12_windowByMoving_78 rfl (by decide) (by decide) ?_
        exact ⟨by rw [hq, show i - 1 = S.1.length - L by omega], rfl⟩
      · have b1 := hsl i (by omega)
        have b2 := hsl (i - 1) (by omega)
        have b3 := hsl q (by omega)
        refine z_iload_n dX12_windowByMoving_35 rfl ?_
        refine z_aload_n dX12_windowByMoving_36 rfl ?_
        refine z_iload dX12_windowByMoving_37 rfl ?_
        refine z_iload_n dX12_windowByMoving_39 rfl ?_
        refine z_iadd_n (a := i) (b := L) dX12_windowByMoving_40 ?_
        refine z_iconst (v := nI 1) dX12_windowByMoving_41 rfl ?_
        refine z_isub_n (a := (i) + (L)) (b := 1) dX12_windowByMoving_42 (by omega) ?_
        refine z_callE (As := [.int (nI (((i) + (L)) - (1)))]) (rest := [.int (nI (tsum (gT S.1) (i - 1) L))]) (b := b + 1 + 1) (ci := 5) (v := some (.int (nI (gT S.1 (((i) + (L)) - (1)))))) (R2 := zR 0 0) dX12_windowByMoving_43 kV_RX12_182 rfl ⟨⟨by decide, by decide⟩, by decide, by decide⟩ (by omega) h.st.tl.cell rfl rfl rfl (Nat.le_of_ble_eq_true rfl) rfl (tc_at (t := ((i) + (L)) - (1)) h0 h.st.tl (by omega)) ?_
        refine z_aload_n dX12_windowByMoving_46 rfl ?_
        refine z_iload dX12_windowByMoving_47 rfl ?_
        refine z_iconst (v := nI 1) dX12_windowByMoving_49 rfl ?_
        refine z_isub_n (a := i) (b := 1) dX12_windowByMoving_50 (by omega) ?_
        refine z_callE (As := [.int (nI ((i) - (1)))]) (rest := [.int (nI (gT S.1 (((i) + (L)) - (1)))), .int (nI (tsum (gT S.1) (i - 1) L))]) (b := b + 1 + 1) (ci := 5) (v := some (.int (nI (gT S.1 ((i) - (1)))))) (R2 := zR 0 0) dX12_windowByMoving_51 kV_RX12_182 rfl ⟨⟨by decide, by decide⟩, by decide, by decide⟩ (by omega) h.st.tl.cell rfl rfl rfl (Nat.le_of_ble_eq_true rfl) rfl (tc_at (t := (i) - (1)) h0 h.st.tl (by omega)) ?_
        refine z_isub dX12_windowByMoving_54 ?_
        refine z_iadd dX12_windowByMoving_55 ?_
        refine z_eq (st' := [.int (nI (tsum (gT S.1) i L))]) rfl (by rw [nI_as (r := tsum (gT S.1) i L) (by have q := tsum_sh (T := (gT S.1)) (p := i - 1) (L := L); rw [show i - 1 + 1 = i by omega, show i - 1 + L = i + L - 1 by omega] at q; exact q)]) rfl ?_
        refine z_istore_n (lv' := [(0, .ref (za g b)), (1, .int (nI (L))), (2, .ref (za g (b + 1 + 1))), (3, .int (nI (tsum (gT S.1) i L))), (4, .int (nI (tsum (gT S.1) q L))), (5, .int (nI (q))), (6, .int (nI (i)))]) dX12_windowByMoving_56 (by decide) rfl ?_
        refine z_iload_n dX12_windowByMoving_57 rfl ?_
        refine z_iload dX12_windowByMoving_58 rfl ?_
        refine z_icmp_ge_n (a := tsum (gT S.1) i L) (b := tsum (gT S.1) q L) (tgt := 70) dX12_windowByMoving_60 (by decide) (by omega) (by omega) (fun h_60_5 => ?_) (fun h_60_5 => ?_)
        · refine z_iinc_n (n := 1) (a := i) (lv' := [(0, .ref (za g b)), (1, .int (nI (L))), (2, .ref (za g (b + 1 + 1))), (3, .int (nI (tsum (gT S.1) i L))), (4, .int (nI (tsum (gT S.1) q L))), (5, .int (nI (q))), (6, .int (nI (i + 1)))]) dX12_windowByMoving_70 rfl (by decide) rfl ?_
          refine z_goto (tgt := 24) dX12_windowByMoving_73 (by decide) ?_
          have eW : winB (gT S.1) L i = q := by
            obtain ⟨j, rfl⟩ : ∃ j, i = j + 1 := ⟨i - 1, by omega⟩
            rw [Nat.add_sub_cancel] at hq
            rw [winB, ← hq, if_neg (by omega)]
          refine ih (i + 1) q (by omega) (by omega) (by omega) ?_
          rw [Nat.add_sub_cancel]; exact eW.symm
        · refine z_iload_n dX12_windowByMoving_63 rfl ?_
          refine z_istore (lv' := [(0, .ref (za g b)), (1, .int (nI (L))), (2, .ref (za g (b + 1 + 1))), (3, .int (nI (tsum (gT S.1) i L))), (4, .int (nI (tsum (gT S.1) i L))), (5, .int (nI (q))), (6, .int (nI (i)))]) dX12_windowByMoving_64 (by decide) rfl ?_
          refine z_iload dX12_windowByMoving_66 rfl ?_
          refine z_istore (lv' := [(0, .ref (za g b)), (1, .int (nI (L))), (2, .ref (za g (b + 1 + 1))), (3, .int (nI (tsum (gT S.1) i L))), (4, .int (nI (tsum (gT S.1) i L))), (5, .int (nI (i))), (6, .int (nI (i)))]) dX12_windowByMoving_68 (by decide) rfl ?_
          refine z_iinc_n (n := 1) (a := i) (lv' := [(0, .ref (za g b)), (1, .int (nI (L))), (2, .ref (za g (b + 1 + 1))), (3, .int (nI (tsum (gT S.1) i L))), (4, .int (nI (tsum (gT S.1) i L))), (5, .int (nI (i))), (6, .int (nI (i + 1)))]) dX12_windowByMoving_70 rfl (by decide) rfl ?_
          refine z_goto (tgt := 24) dX12_windowByMoving_73 (by decide) ?_
          have eW : winB (gT S.1) L i = i := by
            obtain ⟨j, rfl⟩ : ∃ j, i = j + 1 := ⟨i - 1, by omega⟩
            rw [Nat.add_sub_cancel] at hq
            rw [winB, ← hq, if_pos (by omega)]
          refine ih (i + 1) i (by omega) (by omega) (by omega) ?_
          rw [Nat.add_sub_cancel]; exact eW.symm
  refine z_aload_n dX12_windowByMoving_0 rfl ?_
  refine z_getf (j := b) dX12_windowByMoving_1 kF_RX12_12 rfl (by omega) h.ce rfl ?_
  refine z_getfN (j := b + 1) dX12_windowByMoving_4 kN_RX12_167 rfl (by omega) h.st.cell rfl ?_
  refine z_astore_n (lv' := [(0, .ref (za g b)), (1, .int (nI (L))), (2, .ref (za g (b + 1 + 1)))]) dX12_windowByMoving_7 (by decide) rfl ?_
  refine z_aload_n dX12_windowByMoving_8 rfl ?_
  refine z_iconst (v := nI 0) dX12_windowByMoving_9 rfl ?_
  refine z_iload_n dX12_windowByMoving_10 rfl ?_
  refine z_callE (As := [.int (nI (0)), .int (nI (L))]) (rest := []) (b := b + 1 + 1) (ci := 5) (v := some (.int (nI (tsum (gT S.1) (0) ((L) - (0)))))) (R2 := zR 1 0) dX12_windowByMoving_11 kV_RX12_233 rfl ⟨⟨by decide, by decide⟩, by decide, by decide⟩ (by omega) h.st.tl.cell rfl rfl rfl (Nat.le_of_ble_eq_true rfl) rfl (tc_sum (p := 0) (q := L) h0 h.st.tl (by omega) (by omega)) ?_
  refine z_istore_n (lv' := [(0, .ref (za g b)), (1, .int (nI (L))), (2, .ref (za g (b + 1 + 1))), (3, .int (nI (tsum (gT S.1) (0) ((L) - (0)))))]) dX12_windowByMoving_14 (by decide) rfl ?_
  refine z_iload_n dX12_windowByMoving_15 rfl ?_
  refine z_istore (lv' := [(0, .ref (za g b)), (1, .int (nI (L))), (2, .ref (za g (b + 1 + 1))), (3, .int (nI (tsum (gT S.1) (0) ((L) - (0))))), (4, .int (nI (tsum (gT S.1) (0) ((L) - (0)))))]) dX12_windowByMoving_16 (by decide) rfl ?_
  refine z_iconst (v := nI 0) dX12_windowByMoving_18 rfl ?_
  refine z_istore (lv' := [(0, .ref (za g b)), (1, .int (nI (L))), (2, .ref (za g (b + 1 + 1))), (3, .int (nI (tsum (gT S.1) (0) ((L) - (0))))), (4, .int (nI (tsum (gT S.1) (0) ((L) - (0))))), (5, .int (nI (0)))]) dX12_windowByMoving_19 (by decide) rfl ?_
  refine z_iconst (v := nI 1) dX12_windowByMoving_21 rfl ?_
  refine z_istore (lv' := [(0, .ref (za g b)), (1, .int (nI (L))), (2, .ref (za g (b + 1 + 1))), (3, .int (nI (tsum (gT S.1) (0) ((L) - (0))))), (4, .int (nI (tsum (gT S.1) (0) ((L) - (0))))), (5, .int (nI (0))), (6, .int (nI (1)))]) dX12_windowByMoving_22 (by decide) rfl ?_
  exact loop (S.1.length - L + 2) 1 0 (by omega) (Nat.le_refl _) (by omega) rfl
set_option maxRecDepth 100000 in
set_option maxHeartbeats 4000000 in
theorem c_X12_windowByTrial {g : zGT} {w : zW} {b : Nat} {S : zSt} {Hs : List zSt} {Sn : Option zSt} {I O : List Nat} {ep fc : Int32} {L : Nat} (h0 : zG0 g) (h1 : zST g) (h : Rx g w b S Hs Sn I O ep fc) (hL1 : 1 ≤ L) (hLn : L ≤ S.1.length) : zCt g mX12_windowByTrial (zR 2 0) [.ref (za g b), .int (nI (L))] w (fun o w' => o = .inl (some (.int (nI (winB (gT S.1) L (S.1.length - L))))) ∧ w' = w) := by
  have hb := h.1
  have hn := h.st.len
  have hsl : ∀ q, q + L ≤ S.1.length → tsum (gT S.1) q L ≤ L * 9 := fun q hq => tsum_le (fun k h1 h2 => h.st.tl.le (by omega))
  have hL9 : L * 9 ≤ 1800 := by omega
  refine zCt_of (by decide +kernel) h0 [(0, .ref (za g b)), (1, .int (nI (L)))] rfl (Nat.le_of_ble_eq_true rfl) ?_
  have loop : ∀ (mm : Nat) (i q : Nat), S.1.length - L + 2 - i < mm → (1 ≤ i) → (i ≤ S.1.length - L + 1) → (q = winB (gT S.1) L (i - 1)) → zTr g mX12_windowByTrial (zR 2 0) 0 0 21 [(0, .ref (za g b)), (1, .int (nI (L))), (2, .ref (za g (b + 1 + 1))), (3, .int (nI (tsum (gT S.1) q L))), (4, .int (nI (q))), (5, .int (nI (i)))] [] w (fun o w' => o = .inl (some (.int (nI (winB (gT S.1) L (S.1.length - L))))) ∧ w' = w) := by
    intro mm
    induction mm with
    | zero => intros; omega
    | succ mm ih =>
      intro i q hm hi1 hi2 hq
      have hqi := winB_le (T := (gT S.1)) (L := L) (k := i - 1)
      rw [← hq] at hqi
      refine z_iload dX12_windowByTrial_21 rfl ?_
      refine z_aload_n dX12_windowByTrial_23 rfl ?_
      refine z_callE (As := []) (rest := [.int (nI (i))]) (b := b + 1 + 1) (ci := 5) (v := some (.int (nI (S.1.length)))) (R2 := zR 0 0) dX12_windowByTrial_24 kV_RX12_170 rfl ⟨⟨by decide, by decide⟩, by decide, by decide⟩ (by omega) h.st.tl.cell rfl rfl rfl (Nat.le_of_ble_eq_true rfl) rfl (tc_size h0 h.st.tl) ?_
      refine z_iload_n dX12_windowByTrial_27 rfl ?_
      refine z_isub_n (a := S.1.length) (b := L) dX12_windowByTrial_28 (by omega) ?_
      refine z_icmp_gt_n (a := i) (b := (S.1.length) - (L)) (tgt := 63) dX12_windowByTrial_29 (by decide) (by omega) (by omega) (fun h_29_2 => ?_) (fun h_29_2 => ?_)
      · refine z_iload dX12_windowByTrial_63 rfl ?_
        refine z_iret dX12_windowByTrial_65 rfl (by decide) (by decide) ?_
        exact ⟨by rw [hq, show i - 1 = S.1.length - L by omega], rfl⟩
      · have b1 := hsl i (by omega)
        have b3 := hsl q (by omega)
        have e41 : i + L - i = L := by omega
        refine z_aload_n dX12_windowByTrial_32 rfl ?_
        refine z_iload dX12_windowByTrial_33 rfl ?_
        refine z_iload dX12_windowByTrial_35 rfl ?_
        refine z_iload_n dX12_windowByTrial_37 rfl ?_
        refine z_iadd_n (a := i) (b := L) dX12_windowByTrial_38 ?_
        refine z_callE (As := [.int (nI (i)), .int (nI ((i) + (L)))]) (rest := []) (b := b + 1 + 1) (ci := 5) (v := some (.int (nI (tsum (gT S.1) (i) (((i) + (L)) - (i)))))) (R2 := zR 1 0) dX12_windowByTrial_39 kV_RX12_233 rfl ⟨⟨by decide, by decide⟩, by decide, by decide⟩ (by omega) h.st.tl.cell rfl rfl rfl (Nat.le_of_ble_eq_true rfl) rfl (tc_sum (p := i) (q := (i) + (L)) h0 h.st.tl (by omega) (by omega)) ?_
        refine z_eq (st' := [.int (nI (tsum (gT S.1) i L))]) rfl (by rw [show ((i) + (L)) - (i) = L by omega]; rfl) rfl ?_
        refine z_istore (lv' := [(0, .ref (za g b)), (1, .int (nI (L))), (2, .ref (za g (b + 1 + 1))), (3, .int (nI (tsum (gT S.1) q L))), (4, .int (nI (q))), (5, .int (nI (i))), (6, .int (nI (tsum (gT S.1) i L)))]) dX12_windowByTrial_42 (by decide) rfl ?_
        refine z_iload dX12_windowByTrial_44 rfl ?_
        refine z_iload_n dX12_windowByTrial_46 rfl ?_
        refine z_icmp_ge_n (a := tsum (gT S.1) i L) (b := tsum (gT S.1) q L) (tgt := 57) dX12_windowByTrial_47 (by decide) (by omega) (by omega) (fun h_47_4 => ?_) (fun h_47_4 => ?_)
        · refine z_iinc_n (n := 1) (a := i) (lv' := [(0, .ref (za g b)), (1, .int (nI (L))), (2, .ref (za g (b + 1 + 1))), (3, .int (nI (tsum (gT S.1) q L))), (4, .int (nI (q))), (5, .int (nI (i + 1))), (6, .int (nI (tsum (gT S.1) i L)))]) dX12_windowByTrial_57 rfl (by decide) rfl ?_
          refine z_goto (tgt := 21) dX12_windowByTrial_60 (by decide) ?_
          have eW : winB (gT S.1) L i = q := by
            obtain ⟨j, rfl⟩ : ∃ j, i = j + 1 := ⟨i - 1, by omega⟩
            rw [Nat.add_sub_cancel] at hq
            rw [winB, ← hq, if_neg (by omega)]
          refine z_sub (lv' := [(0, .ref (za g b)), (1, .int (nI (L))), (2, .ref (za g (b + 1 + 1))), (3, .int (nI (tsum (gT S.1) q L))), (4, .int (nI (q))), (5, .int (nI (i + 1)))]) [0, 1, 2, 3, 4, 5] rfl ?_
          refine ih (i + 1) q (by omega) (by omega) (by omega) ?_
          rw [Nat.add_sub_cancel]; exact eW.symm
        · refine z_iload dX12_windowByTrial_50 rfl ?_
          refine z_istore_n (lv' := [(0, .ref (za g b)), (1, .int (nI (L))), (2, .ref (za g (b + 1 + 1))), (3, .int (nI (tsum (gT S.1) i L))), (4, .int (nI (q))), (5, .int (nI (i))), (6, .int (nI (tsum (gT S.1) i L)))]) dX12_windowByTrial_52 (by decide) rfl ?_
          refine z_iload dX12_windowByTrial_53 rfl ?_
          refine z_istore (lv' := [(0, .ref (za g b)), (1, .int (nI (L))), (2, .ref (za g (b + 1 + 1))), (3, .int (nI (tsum (gT S.1) i L))), (4, .int (nI (i))), (5, .int (nI (i))), (6, .int (nI (tsum (gT S.1) i L)))]) dX12_windowByTrial_55 (by decide) rfl ?_
          refine z_iinc_n (n := 1) (a := i) (lv' := [(0, .ref (za g b)), (1, .int (nI (L))), (2, .ref (za g (b + 1 + 1))), (3, .int (nI (tsum (gT S.1) i L))), (4, .int (nI (i))), (5, .int (nI (i + 1))), (6, .int (nI (tsum (gT S.1) i L)))]) dX12_windowByTrial_57 rfl (by decide) rfl ?_
          refine z_goto (tgt := 21) dX12_windowByTrial_60 (by decide) ?_
          have eW : winB (gT S.1) L i = i := by
            obtain ⟨j, rfl⟩ : ∃ j, i = j + 1 := ⟨i - 1, by omega⟩
            rw [Nat.add_sub_cancel] at hq
            rw [winB, ← hq, if_pos (by omega)]
          refine z_sub (lv' := [(0, .ref (za g b)), (1, .int (nI (L))), (2, .ref (za g (b + 1 + 1))), (3, .int (nI (tsum (gT S.1) i L))), (4, .int (nI (i))), (5, .int (nI (i + 1)))]) [0, 1, 2, 3, 4, 5] rfl ?_
          refine ih (i + 1) i (by omega) (by omega) (by omega) ?_
          rw [Nat.add_sub_cancel]; exact eW.symm
  refine z_aload_n dX12_windowByTrial_0 rfl ?_
  refine z_getf (j := b) dX12_windowByTrial_1 kF_RX12_12 rfl (by omega) h.ce rfl ?_
  refine z_getfN (j := b + 1) dX12_windowByTrial_4 kN_RX12_167 rfl (by omega) h.st.cell rfl ?_
  refine z_astore_n (lv' := [(0, .ref (za g b)), (1, .int (nI (L))), (2, .ref (za g (b + 1 + 1)))]) dX12_windowByTrial_7 (by decide) rfl ?_
  refine z_aload_n dX12_windowByTrial_8 rfl ?_
  refine z_iconst (v := nI 0) dX12_windowByTrial_9 rfl ?_
  refine z_iload_n dX12_windowByTrial_10 rfl ?_
  refine z_callE (As := [.int (nI (0)), .int (nI (L))]) (rest := []) (b := b + 1 + 1) (ci := 5) (v := some (.int (nI (tsum (gT S.1) (0) ((L) - (0)))))) (R2 := zR 1 0) dX12_windowByTrial_11 kV_RX12_233 rfl ⟨⟨by decide, by decide⟩, by decide, by decide⟩ (by omega) h.st.tl.cell rfl rfl rfl (Nat.le_of_ble_eq_true rfl) rfl (tc_sum (p := 0) (q := L) h0 h.st.tl (by omega) (by omega)) ?_
  refine z_istore_n (lv' := [(0, .ref (za g b)), (1, .int (nI (L))), (2, .ref (za g (b + 1 + 1))), (3, .int (nI (tsum (gT S.1) (0) ((L) - (0)))))]) dX12_windowByTrial_14 (by decide) rfl ?_
  refine z_iconst (v := nI 0) dX12_windowByTrial_15 rfl ?_
  refine z_istore (lv' := [(0, .ref (za g b)), (1, .int (nI (L))), (2, .ref (za g (b + 1 + 1))), (3, .int (nI (tsum (gT S.1) (0) ((L) - (0))))), (4, .int (nI (0)))]) dX12_windowByTrial_16 (by decide) rfl ?_
  refine z_iconst (v := nI 1) dX12_windowByTrial_18 rfl ?_
  refine z_istore (lv' := [(0, .ref (za g b)), (1, .int (nI (L))), (2, .ref (za g (b + 1 + 1))), (3, .int (nI (tsum (gT S.1) (0) ((L) - (0))))), (4, .int (nI (0))), (5, .int (nI (1)))]) dX12_windowByTrial_19 (by decide) rfl ?_
  exact loop (S.1.length - L + 2) 1 0 (by omega) (Nat.le_refl _) (by omega) rfl
set_option maxRecDepth 100000 in
set_option maxHeartbeats 4000000 in
theorem c_X12_quietestWindow {g : zGT} {w : zW} {b : Nat} {S : zSt} {Hs : List zSt} {Sn : Option zSt} {I O : List Nat} {ep fc : Int32} {x : Int32} (h0 : zG0 g) (h1 : zST g) (h : Rx g w b S Hs Sn I O ep fc) : zCt g mX12_quietestWindow (zR 3 1) [.ref (za g b), .int (x)] w (fun o w' => o = zAns (fWin S.1.length x.toInt) (some (.int (nI (winB (gT S.1) x.toInt.toNat (S.1.length - x.toInt.toNat))))) ∧ zFr w w' b (b + 101) ∧ Rx g w' b S Hs Sn I O ep fc) := by
  have hb := h.1
  have hn := h.st.len
  refine zCt_of (by decide +kernel) h0 [(0, .ref (za g b)), (1, .int (x))] rfl (Nat.le_of_ble_eq_true rfl) ?_
  refine z_aload_n dX12_quietestWindow_0 rfl ?_
  refine z_iload_n dX12_quietestWindow_1 rfl ?_
  refine z_callE (As := [.int (x)]) (rest := []) (b := b) (ci := 11) (v := some (.ref (ze g (fWin S.1.length x.toInt)))) (R2 := zR 1 0) dX12_quietestWindow_2 kV_RX12_265 rfl ⟨⟨by decide, by decide⟩, by decide, by decide⟩ (by omega) h.ce rfl rfl rfl (Nat.le_of_ble_eq_true rfl) rfl (c_X12_windowFault (x := x) h0 h1 h) ?_
  refine z_callSAE (As := [.ref (ze g (fWin S.1.length x.toInt))]) (rest := []) (f := (fWin S.1.length x.toInt)) (v := none) (R2 := zR 0 1) dX12_quietestWindow_5 kS_RX12_119 rfl rfl ⟨⟨by decide, by decide⟩, by decide, by decide⟩ rfl (Nat.le_of_ble_eq_true rfl) rfl (c_X12_raise (f := (fWin S.1.length x.toInt)) h0 h1 (by unfold fWin; (repeat' split) <;> omega)) (fun hx3 => ?_) (fun hq4 => ?_)
  · exact ⟨zAns_n rfl hx3, zFr.rf, h⟩
  have hfw : 1 ≤ x.toInt ∧ x.toInt ≤ S.1.length := by have q := hq4; unfold fWin at q; (repeat' split at q) <;> omega
  refine z_eq (lv' := [(0, .ref (za g b)), (1, .int (nI (x.toInt.toNat)))]) rfl rfl (by rw [← i_nat (x := x) (by omega)]) ?_
  refine z_aload_n dX12_quietestWindow_8 rfl ?_
  refine z_iload_n dX12_quietestWindow_9 rfl ?_
  refine z_callE (As := [.int (nI (x.toInt.toNat))]) (rest := []) (b := b) (ci := 11) (v := some (.int (nI (winB (gT S.1) (x.toInt.toNat) (S.1.length - (x.toInt.toNat)))))) (R2 := zR 2 0) dX12_quietestWindow_10 kV_RX12_269 rfl ⟨⟨by decide, by decide⟩, by decide, by decide⟩ (by omega) h.ce rfl rfl rfl (Nat.le_of_ble_eq_true rfl) rfl (c_X12_windowByMoving (L := x.toInt.toNat) h0 h1 h (by omega) (by omega)) ?_
  refine z_iret dX12_quietestWindow_13 rfl (by decide) (by decide) ?_
  exact ⟨zAns_y hq4 rfl, zFr.rf, h⟩
set_option maxRecDepth 100000 in
set_option maxHeartbeats 4000000 in
theorem c_X12_quietestWindowByTrial {g : zGT} {w : zW} {b : Nat} {S : zSt} {Hs : List zSt} {Sn : Option zSt} {I O : List Nat} {ep fc : Int32} {x : Int32} (h0 : zG0 g) (h1 : zST g) (h : Rx g w b S Hs Sn I O ep fc) : zCt g mX12_quietestWindowByTrial (zR 3 1) [.ref (za g b), .int (x)] w (fun o w' => o = zAns (fWin S.1.length x.toInt) (some (.int (nI (winB (gT S.1) x.toInt.toNat (S.1.length - x.toInt.toNat))))) ∧ zFr w w' b (b + 101) ∧ Rx g w' b S Hs Sn I O ep fc) := by
  have hb := h.1
  have hn := h.st.len
  refine zCt_of (by decide +kernel) h0 [(0, .ref (za g b)), (1, .int (x))] rfl (Nat.le_of_ble_eq_true rfl) ?_
  refine z_aload_n dX12_quietestWindowByTrial_0 rfl ?_
  refine z_iload_n dX12_quietestWindowByTrial_1 rfl ?_
  refine z_callE (As := [.int (x)]) (rest := []) (b := b) (ci := 11) (v := some (.ref (ze g (fWin S.1.length x.toInt)))) (R2 := zR 1 0) dX12_quietestWindowByTrial_2 kV_RX12_265 rfl ⟨⟨by decide, by decide⟩, by decide, by decide⟩ (by omega) h.ce rfl rfl rfl (Nat.le_of_ble_eq_true rfl) rfl (c_X12_windowFault (x := x) h0 h1 h) ?_
  refine z_callSAE (As := [.ref (ze g (fWin S.1.length x.toInt))]) (rest := []) (f := (fWin S.1.length x.toInt)) (v := none) (R2 := zR 0 1) dX12_quietestWindowByTrial_5 kS_RX12_119 rfl rfl ⟨⟨by decide, by decide⟩, by decide, by decide⟩ rfl (Nat.le_of_ble_eq_true rfl) rfl (c_X12_raise (f := (fWin S.1.length x.toInt)) h0 h1 (by unfold fWin; (repeat' split) <;> omega)) (fun hx3 => ?_) (fun hq4 => ?_)
  · exact ⟨zAns_n rfl hx3, zFr.rf, h⟩
  have hfw : 1 ≤ x.toInt ∧ x.toInt ≤ S.1.length := by have q := hq4; unfold fWin at q; (repeat' split at q) <;> omega
  refine z_eq (lv' := [(0, .ref (za g b)), (1, .int (nI (x.toInt.toNat)))]) rfl rfl (by rw [← i_nat (x := x) (by omega)]) ?_
  refine z_aload_n dX12_quietestWindowByTrial_8 rfl ?_
  refine z_iload_n dX12_quietestWindowByTrial_9 rfl ?_
  refine z_callE (As := [.int (nI (x.toInt.toNat))]) (rest := []) (b := b) (ci := 11) (v := some (.int (nI (winB (gT S.1) (x.toInt.toNat) (S.1.length - (x.toInt.toNat)))))) (R2 := zR 2 0) dX12_quietestWindowByTrial_10 kV_RX12_272 rfl ⟨⟨by decide, by decide⟩, by decide, by decide⟩ (by omega) h.ce rfl rfl rfl (Nat.le_of_ble_eq_true rfl) rfl (c_X12_windowByTrial (L := x.toInt.toNat) h0 h1 h (by omega) (by omega)) ?_
  refine z_iret dX12_quietestWindowByTrial_13 rfl (by decide) (by decide) ?_
  exact ⟨zAns_y hq4 rfl, zFr.rf, h⟩
def perOK (T : Nat → Nat) (n p : Nat) : Prop := ∀ k, k < n - p → T k = T (p + k)
/-- p is the least period -/
def IsPer (T : Nat → Nat) (n p : Nat) : Prop := 1 ≤ p ∧ p ≤ n ∧ perOK T n p ∧ ∀ q, 1 ≤ q → q < p → ¬ perOK T n q
theorem IsPer.uniq {T : Nat → Nat} {n p q : Nat} (h : IsPer T n p) (h2 : IsPer T n q) : p = q := by
  rcases Nat.lt_trichotomy p q with c | c | c
  · exact absurd h.2.2.1 (h2.2.2.2 p h.1 c)
  · exact c
  · exact absurd h2.2.2.1 (h.2.2.2 q h2.1 c)
theorem perOK_n {T : Nat → Nat} {n : Nat} : perOK T n n := fun k hk => by omega
noncomputable def perF (T : Nat → Nat) (n : Nat) : Nat := by
  classical exact if h : ∃ p, IsPer T n p then h.choose else 0
theorem IsPer.eq {T : Nat → Nat} {n p : Nat} (h : IsPer T n p) : perF T n = p := by
  unfold perF
  rw [dif_pos ⟨p, h⟩]
  exact (Exists.choose_spec (⟨p, h⟩ : ∃ p, IsPer T n p)).uniq h
/-- m is the length of the longest border of the first t ticks -/
def Bd (T : Nat → Nat) (t m : Nat) : Prop := m < t ∧ (∀ k, k < m → T k = T (t - m + k)) ∧ ∀ r, r < t → (∀ k, k < r → T k = T (t - r + k)) → r ≤ m
theorem Bd.per {T : Nat → Nat} {n m : Nat} (h : Bd T n m) : IsPer T n (n - m) := by
  refine ⟨by have := h.1; omega, by omega, fun k hk => h.2.1 k (by have := h.1; omega), fun q h1 h2 hq => ?_⟩
  have := h.2.2 (n - q) (by omega) (fun k hk => by rw [show n - (n - q) + k = q + k by omega]; exact hq k hk)
  omega
theorem Bd.one {T : Nat → Nat} : Bd T 1 0 := ⟨by omega, fun k hk => by omega, fun r hr _ => by omega⟩
/-- the next tick goes on with the border x -/
theorem Bd.grow {T : Nat → Nat} {t x : Nat} (h1 : x < t) (h2 : ∀ k, k < x → T k = T (t - x + k)) (h3 : ∀ r, r < t → (∀ k, k < r → T k = T (t - r + k)) → T r = T t → r ≤ x) (e : T x = T t) : Bd T (t + 1) (x + 1) := by
  refine ⟨by omega, fun k hk => ?_, fun r hr hb => ?_⟩
  · rw [show t + 1 - (x + 1) + k = t - x + k by omega]
    by_cases c : k < x
    · exact h2 k c
    · rw [show k = x by omega, show t - x + x = t by omega]; exact e
  · cases r with
    | zero => omega
    | succ r =>
      have := h3 r (by omega) (fun k hk => by have := hb k (by omega); rwa [show t + 1 - (r + 1) + k = t - r + k by omega] at this) (by have := hb r (by omega); rwa [show t + 1 - (r + 1) + r = t by omega] at this)
      omega
/-- no border goes on -/
theorem Bd.none {T : Nat → Nat} {t : Nat} (h3 : ∀ r, r < t → (∀ k, k < r → T k = T (t - r + k)) → T r ≠ T t) : Bd T (t + 1) 0 := by
  refine ⟨by omega, fun k hk => by omega, fun r hr hb => ?_⟩
  cases r with
  | zero => omega
  | succ r =>
    exact absurd (by have := hb r (by omega); rwa [show t + 1 - (r + 1) + r = t by omega] at this) (h3 r (by omega) (fun k hk => by have := hb k (by omega); rwa [show t + 1 - (r + 1) + k = t - r + k by omega] at this))
/-- from a border that does not go on to its own longest border -/
theorem Bd.fall {T : Nat → Nat} {t x y : Nat} (h1 : x < t) (h2 : ∀ k, k < x → T k = T (t - x + k)) (h3 : ∀ r, r < t → (∀ k, k < r → T k = T (t - r + k)) → T r = T t → r ≤ x) (e : T x ≠ T t) (hy : Bd T x y) : (∀ k, k < y → T k = T (t - y + k)) ∧ ∀ r, r < t → (∀ k, k < r → T k = T (t - r + k)) → T r = T t → r ≤ y := by
  have y1 := hy.1
  refine ⟨fun k hk => ?_, fun r hr hb hT => ?_⟩
  · rw [hy.2.1 k hk, h2 (x - y + k) (by omega), show t - x + (x - y + k) = t - y + k by omega]
  · have hrx := h3 r hr hb hT
    have hne : r ≠ x := fun z => e (by rw [← z]; exact hT)
    refine hy.2.2 r (by omega) (fun k hk => ?_)
    rw [hb k hk, h2 (x - r + k) (by omega), show t - x + (x - r + k) = t - r + k by omega]
set_option maxRecDepth 100000 in
set_option maxHeartbeats 4000000 in
theorem c_X12_failureAt {g : zGT} {w : zW} {b : Nat} {S : zSt} {Hs : List zSt} {Sn : Option zSt} {I O : List Nat} {ep fc : Int32} {t : Nat} {f : Nat → Int32} (h0 : zG0 g) (h1 : zST g) (h : Rx g w b S Hs Sn I O ep fc) (hF : w (b + 84) = zI g 200 f) (ht : t < 200) : zCt g mX12_failureAt (zR 0 0) [.ref (za g b), .int (nI (t))] w (fun o w' => o = .inl (some (.int (f t))) ∧ w' = w) := by
  have hb := h.1
  refine zCt_of (by decide +kernel) h0 [(0, .ref (za g b)), (1, .int (nI (t)))] rfl (Nat.le_of_ble_eq_true rfl) ?_
  refine z_iload_n dX12_failureAt_0 rfl ?_
  refine z_if_lt_n (a := t) dX12_failureAt_1 22 (by decide) (by omega) ?_
  refine z_iload_n dX12_failureAt_4 rfl ?_
  refine z_aload_n dX12_failureAt_5 rfl ?_
  refine z_getf (j := b) dX12_failureAt_6 kF_RX12_36 rfl (by omega) h.ce rfl ?_
  refine z_alen_n (j := b + 84) (N := 200) (f := f) dX12_failureAt_9 (by omega) hF ?_
  refine z_icmp_ge_n (a := t) (b := 200) (tgt := 22) dX12_failureAt_10 (by decide) (by omega) (by omega) (fun h_10_2 => ?_) (fun h_10_2 => ?_)
  · refine z_iconst (v := nI 0) dX12_failureAt_22 rfl ?_
    refine z_iret dX12_failureAt_23 rfl (by decide) (by decide) ?_
    first | exact ⟨rfl, rfl⟩ | (exfalso; omega)
  · refine z_aload_n dX12_failureAt_13 rfl ?_
    refine z_getf (j := b) dX12_failureAt_14 kF_RX12_36 rfl (by omega) h.ce rfl ?_
    refine z_iload_n dX12_failureAt_17 rfl ?_
    refine z_iald_n (j := b + 84) (N := 200) (a := t) (f := f) dX12_failureAt_18 (by omega) hF (by omega) (by omega) ?_
    refine z_goto (tgt := 23) dX12_failureAt_19 (by decide) ?_
    refine z_iret dX12_failureAt_23 rfl (by decide) (by decide) ?_
    first | exact ⟨rfl, rfl⟩ | (exfalso; omega)
set_option maxRecDepth 100000 in
set_option maxHeartbeats 4000000 in
theorem c_X12_setFailure {g : zGT} {w : zW} {b : Nat} {S : zSt} {Hs : List zSt} {Sn : Option zSt} {I O : List Nat} {ep fc : Int32} {t x : Nat} {f : Nat → Int32} (h0 : zG0 g) (h1 : zST g) (h : Rx g w b S Hs Sn I O ep fc) (hF : w (b + 84) = zI g 200 f) (ht : t < 200) : zCt g mX12_setFailure (zR 0 0) [.ref (za g b), .int (nI (t)), .int (nI (x))] w (fun o w' => o = .inl none ∧ zFr w w' (b + 84) (b + 85) ∧ w' (b + 84) = zI g 200 (upd f t (nI x))) := by
  have hb := h.1
  refine zCt_of (by decide +kernel) h0 [(0, .ref (za g b)), (1, .int (nI (t))), (2, .int (nI (x)))] rfl (Nat.le_of_ble_eq_true rfl) ?_
  refine z_iload_n dX12_setFailure_0 rfl ?_
  refine z_if_lt_n (a := t) dX12_setFailure_1 20 (by decide) (by omega) ?_
  refine z_iload_n dX12_setFailure_4 rfl ?_
  refine z_aload_n dX12_setFailure_5 rfl ?_
  refine z_getf (j := b) dX12_setFailure_6 kF_RX12_36 rfl (by omega) h.ce rfl ?_
  refine z_alen_n (j := b + 84) (N := 200) (f := f) dX12_setFailure_9 (by omega) hF ?_
  refine z_icmp_ge_n (a := t) (b := 200) (tgt := 20) dX12_setFailure_10 (by decide) (by omega) (by omega) (fun h_10_2 => ?_) (fun h_10_2 => ?_)
  · exact absurd h_10_2 (by omega)
  · refine z_aload_n dX12_setFailure_13 rfl ?_
    refine z_getf (j := b) dX12_setFailure_14 kF_RX12_36 rfl (by omega) h.ce rfl ?_
    refine z_iload_n dX12_setFailure_17 rfl ?_
    refine z_iload_n dX12_setFailure_18 rfl ?_
    refine z_iast_n (j := b + 84) (N := 200) (a := t) (f := f) dX12_setFailure_19 (by omega) hF (by omega) (by omega) ?_
    obtain ⟨w3, ew4⟩ : ∃ wz : zW, wz = va_up w (b + 84) (zI g 200 (upd (f) (t) ((nI (x))))) := ⟨_, rfl⟩
    refine z_weq (w' := w3) ew4.symm ?_
    have hf1 : zFr w w3 (b + 84) (b + 85) := by rw [ew4]; exact zFr.up (by omega)
    have hn1 : w3 (b + 84) = zI g 200 (upd (f) (t) ((nI (x)))) := by rw [ew4, zup_s]
    refine z_vret dX12_setFailure_20 rfl (by decide) (by decide) ?_
    exact ⟨rfl, hf1, hn1⟩
set_option maxRecDepth 100000 in
set_option maxHeartbeats 4000000 in
theorem c_X12_matchedAt {g : zGT} {w : zW} {b : Nat} {S : zSt} {Hs : List zSt} {Sn : Option zSt} {I O : List Nat} {ep fc : Int32} {t mb : Nat} {f : Nat → Int32} (h0 : zG0 g) (h1 : zST g) (h : Rx g w b S Hs Sn I O ep fc) (hF : w (b + 84) = zI g 200 f) (ht : t < S.1.length) (hfm : ∀ j, j < t → ∃ m, f j = nI m ∧ Bd (gT S.1) (j + 1) m) (hmb : Bd (gT S.1) t mb) : zCt g mX12_matchedAt (zR 2 0) [.ref (za g b), .int (nI (t)), .int (nI (mb))] w (fun o w' => ∃ r, o = .inl (some (.int (nI r))) ∧ Bd (gT S.1) (t + 1) r ∧ w' = w) := by
  have hb := h.1
  have hn := h.st.len
  refine zCt_of (by decide +kernel) h0 [(0, .ref (za g b)), (1, .int (nI (t))), (2, .int (nI (mb)))] rfl (Nat.le_of_ble_eq_true rfl) ?_
  have loop : ∀ (mm : Nat) (x : Nat), x < mm → (x < t) → (∀ k, k < x → gT S.1 k = gT S.1 (t - x + k)) → (∀ r, r < t → (∀ k, k < r → gT S.1 k = gT S.1 (t - r + k)) → gT S.1 r = gT S.1 t → r ≤ x) → zTr g mX12_matchedAt (zR 2 0) 0 0 11 [(0, .ref (za g b)), (1, .int (nI (t))), (2, .int (nI (mb))), (3, .ref (za g (b + 1 + 1))), (4, .int (nI (x)))] [] w (fun o w' => ∃ r, o = .inl (some (.int (nI r))) ∧ Bd (gT S.1) (t + 1) r ∧ w' = w) := by
    intro mm
    induction mm with
    | zero => intros; omega
    | succ mm ih =>
      intro x hm hx1 hx2 hx3
      refine z_iload dX12_matchedAt_11 rfl ?_
      refine z_if_le_n (a := x) (tgt := 50) dX12_matchedAt_13 (by decide) (by omega) (fun h_13_1 => ?_) (fun h_13_1 => ?_)
      · have g1 := h.st.tl.le (k := t) (by omega)
        have g2 := h.st.tl.le (k := x) (by omega)
        refine z_aload_n dX12_matchedAt_50 rfl ?_
        refine z_iload_n dX12_matchedAt_51 rfl ?_
        refine z_callE (As := [.int (nI (t))]) (rest := []) (b := b + 1 + 1) (ci := 5) (v := some (.int (nI (gT S.1 (t))))) (R2 := zR 0 0) dX12_matchedAt_52 kV_RX12_182 rfl ⟨⟨by decide, by decide⟩, by decide, by decide⟩ (by omega) h.st.tl.cell rfl rfl rfl (Nat.le_of_ble_eq_true rfl) rfl (tc_at (t := t) h0 h.st.tl (by omega)) ?_
        refine z_aload_n dX12_matchedAt_55 rfl ?_
        refine z_iload dX12_matchedAt_56 rfl ?_
        refine z_callE (As := [.int (nI (x))]) (rest := [.int (nI (gT S.1 (t)))]) (b := b + 1 + 1) (ci := 5) (v := some (.int (nI (gT S.1 (x))))) (R2 := zR 0 0) dX12_matchedAt_58 kV_RX12_182 rfl ⟨⟨by decide, by decide⟩, by decide, by decide⟩ (by omega) h.st.tl.cell rfl rfl rfl (Nat.le_of_ble_eq_true rfl) rfl (tc_at (t := x) h0 h.st.tl (by omega)) ?_
        refine z_icmp_ne_n (a := gT S.1 (t)) (b := gT S.1 (x)) (tgt := 71) dX12_matchedAt_61 (by decide) (by omega) (by omega) (fun h_61_4 => ?_) (fun h_61_4 => ?_)
        · refine z_iconst (v := nI 0) dX12_matchedAt_71 rfl ?_
          refine z_iret dX12_matchedAt_72 rfl (by decide) (by decide) ?_
          refine ⟨0, rfl, Bd.none (fun r hr hb2 hT => ?_), rfl⟩
          have := hx3 r hr hb2 hT
          have h0x : x = 0 := by have := h_13_1; omega
          rw [show r = x by omega] at hT; exact h_61_4 hT.symm
        · refine z_iload dX12_matchedAt_64 rfl ?_
          refine z_iconst (v := nI 1) dX12_matchedAt_66 rfl ?_
          refine z_iadd_n (a := x) (b := 1) dX12_matchedAt_67 ?_
          refine z_goto (tgt := 72) dX12_matchedAt_68 (by decide) ?_
          refine z_iret dX12_matchedAt_72 rfl (by decide) (by decide) ?_
          exact ⟨x + 1, rfl, Bd.grow hx1 hx2 hx3 (by have := h_61_4; omega), rfl⟩
      · have g3 := h.st.tl.le (k := t) (by omega)
        have g4 := h.st.tl.le (k := x) (by omega)
        refine z_aload_n dX12_matchedAt_16 rfl ?_
        refine z_iload_n dX12_matchedAt_17 rfl ?_
        refine z_callE (As := [.int (nI (t))]) (rest := []) (b := b + 1 + 1) (ci := 5) (v := some (.int (nI (gT S.1 (t))))) (R2 := zR 0 0) dX12_matchedAt_18 kV_RX12_182 rfl ⟨⟨by decide, by decide⟩, by decide, by decide⟩ (by omega) h.st.tl.cell rfl rfl rfl (Nat.le_of_ble_eq_true rfl) rfl (tc_at (t := t) h0 h.st.tl (by omega)) ?_
        refine z_aload_n dX12_matchedAt_21 rfl ?_
        refine z_iload dX12_matchedAt_22 rfl ?_
        refine z_callE (As := [.int (nI (x))]) (rest := [.int (nI (gT S.1 (t)))]) (b := b + 1 + 1) (ci := 5) (v := some (.int (nI (gT S.1 (x))))) (R2 := zR 0 0) dX12_matchedAt_24 kV_RX12_182 rfl ⟨⟨by decide, by decide⟩, by decide, by decide⟩ (by omega) h.st.tl.cell rfl rfl rfl (Nat.le_of_ble_eq_true rfl) rfl (tc_at (t := x) h0 h.st.tl (by omega)) ?_
        refine z_icmp_eq_n (a := gT S.1 (t)) (b := gT S.1 (x)) (tgt := 50) dX12_matchedAt_27 (by decide) (by omega) (by omega) (fun h_27_7 => ?_) (fun h_27_7 => ?_)
        · have g1 := h.st.tl.le (k := t) (by omega)
          have g2 := h.st.tl.le (k := x) (by omega)
          refine z_aload_n dX12_matchedAt_50 rfl ?_
          refine z_iload_n dX12_matchedAt_51 rfl ?_
          refine z_callE (As := [.int (nI (t))]) (rest := []) (b := b + 1 + 1) (ci := 5) (v := some (.int (nI (gT S.1 (t))))) (R2 := zR 0 0) dX12_matchedAt_52 kV_RX12_182 rfl ⟨⟨by decide, by decide⟩, by decide, by decide⟩ (by omega) h.st.tl.cell rfl rfl rfl (Nat.le_of_ble_eq_true rfl) rfl (tc_at (t := t) h0 h.st.tl (by omega)) ?_
          refine z_aload_n dX12_matchedAt_55 rfl ?_
          refine z_iload dX12_matchedAt_56 rfl ?_
          refine z_callE (As := [.int (nI (x))]) (rest := [.int (nI (gT S.1 (t)))]) (b := b + 1 + 1) (ci := 5) (v := some (.int (nI (gT S.1 (x))))) (R2 := zR 0 0) dX12_matchedAt_58 kV_RX12_182 rfl ⟨⟨by decide, by decide⟩, by decide, by decide⟩ (by omega) h.st.tl.cell rfl rfl rfl (Nat.le_of_ble_eq_true rfl) rfl (tc_at (t := x) h0 h.st.tl (by omega)) ?_
          refine z_icmp_ne_n (a := gT S.1 (t)) (b := gT S.1 (x)) (tgt := 71) dX12_matchedAt_61 (by decide) (by omega) (by omega) (fun h_61_10 => ?_) (fun h_61_10 => ?_)
          · refine z_iconst (v := nI 0) dX12_matchedAt_71 rfl ?_
            refine z_iret dX12_matchedAt_72 rfl (by decide) (by decide) ?_
            exact absurd (by have := h_27_7; omega) h_61_10
          · refine z_iload dX12_matchedAt_64 rfl ?_
            refine z_iconst (v := nI 1) dX12_matchedAt_66 rfl ?_
            refine z_iadd_n (a := x) (b := 1) dX12_matchedAt_67 ?_
            refine z_goto (tgt := 72) dX12_matchedAt_68 (by decide) ?_
            refine z_iret dX12_matchedAt_72 rfl (by decide) (by decide) ?_
            exact ⟨x + 1, rfl, Bd.grow hx1 hx2 hx3 (by have := h_61_10; omega), rfl⟩
        · refine z_aload_n dX12_matchedAt_30 rfl ?_
          refine z_iload dX12_matchedAt_31 rfl ?_
          refine z_iconst (v := nI 1) dX12_matchedAt_33 rfl ?_
          refine z_isub_n (a := x) (b := 1) dX12_matchedAt_34 (by omega) ?_
          obtain ⟨y, ey, hy⟩ := hfm (x - 1) (by omega)
          rw [show x - 1 + 1 = x by omega] at hy
          refine z_callE (As := [.int (nI ((x) - (1)))]) (rest := []) (b := b) (ci := 11) (v := some (.int (nI (y)))) (R2 := zR 0 0) dX12_matchedAt_35 kV_RX12_291 rfl ⟨⟨by decide, by decide⟩, by decide, by decide⟩ (by omega) h.ce rfl rfl rfl (Nat.le_of_ble_eq_true rfl) rfl ((by have q9 := c_X12_failureAt (t := x - 1) h0 h1 h hF (by omega); rw [ey] at q9; exact q9)) ?_
          refine z_iload dX12_matchedAt_38 rfl ?_
          refine z_iconst (v := nI 1) dX12_matchedAt_40 rfl ?_
          refine z_isub_n (a := x) (b := 1) dX12_matchedAt_41 (by omega) ?_
          refine z_min (rest := []) (x := (nI (y))) (y := (nI ((x) - (1)))) dX12_matchedAt_42 kO_RX12_294 rfl ⟨⟨by decide, Nat.le_of_ble_eq_true rfl⟩, by decide, by decide⟩ ?_
          have hy1 := hy.1
          refine z_eq (st' := [.int (nI (y))]) rfl (by rw [nI_toInt (n := (x) - (1)) (by omega), nI_toInt (n := y) (by omega), if_neg (by omega)]) rfl ?_
          refine z_istore (lv' := [(0, .ref (za g b)), (1, .int (nI (t))), (2, .int (nI (mb))), (3, .ref (za g (b + 1 + 1))), (4, .int (nI (y)))]) dX12_matchedAt_45 (by decide) rfl ?_
          refine z_goto (tgt := 11) dX12_matchedAt_47 (by decide) ?_
          have hfall := Bd.fall hx1 hx2 hx3 (fun z => h_27_7 z.symm) hy
          exact ih y (by omega) (by omega) hfall.1 hfall.2
  refine z_aload_n dX12_matchedAt_0 rfl ?_
  refine z_getf (j := b) dX12_matchedAt_1 kF_RX12_12 rfl (by omega) h.ce rfl ?_
  refine z_getfN (j := b + 1) dX12_matchedAt_4 kN_RX12_167 rfl (by omega) h.st.cell rfl ?_
  refine z_astore_n (lv' := [(0, .ref (za g b)), (1, .int (nI (t))), (2, .int (nI (mb))), (3, .ref (za g (b + 1 + 1)))]) dX12_matchedAt_7 (by decide) rfl ?_
  refine z_iload_n dX12_matchedAt_8 rfl ?_
  refine z_istore (lv' := [(0, .ref (za g b)), (1, .int (nI (t))), (2, .int (nI (mb))), (3, .ref (za g (b + 1 + 1))), (4, .int (nI (mb)))]) dX12_matchedAt_9 (by decide) rfl ?_
  exact loop (mb + 1) mb (by omega) hmb.1 hmb.2.1 (fun r hr hb2 _ => hmb.2.2 r hr hb2)
