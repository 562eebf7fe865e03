/-! the reference: turning, copies, markers -/
set_option maxRecDepth 100000 in
set_option maxHeartbeats 4000000 in
theorem c_X13_turns {g : zGT} {w : zW} {b : Nat} {th ch ea fa sv tn po en ln kn wr dg : Int32} {fv fb fs fp fh ft fl fi : Nat → Int32} {S : zSt} {x y : Int32} (h0 : zG0 g) (h : Mx g w b th ch ea fa sv tn po en ln kn wr dg fv fb fs fp fh ft fl fi) (hv : VS fv S) : zCt g mX13_turns (zR 1 0) [.ref (za g b), .int (x), .int (y)] w (fun o w' => ∃ th' f' r, o = .inl (some (.int r)) ∧ zFr w w' b (b + 11) ∧ Mx g w' b (th') ch ea fa sv tn po en ln kn wr dg (f') fb fs fp fh ft fl fi ∧ th' = (if spF 4 x.toInt y.toInt 0 S = 0 then th else nI (plc 4 (spF 4 x.toInt y.toInt 0 S))) ∧ VS f' (if spF 4 x.toInt y.toInt 0 S = 0 then spS 4 x.toInt y.toInt 0 S else S) ∧ (spF 4 x.toInt y.toInt 0 S = 0 → ∃ c, c ≤ 1000 ∧ r = nI c ∧ (c = 0 ↔ spA 4 x.toInt y.toInt 0 S = 0))) := by
  have hb := h.1
  have hl := hv.len
  refine zCt_of (by decide +kernel) h0 [(0, .ref (za g b)), (1, .int (x)), (2, .int (y))] rfl (Nat.le_of_ble_eq_true rfl) ?_
  have loop : fIv S.1.length x.toInt y.toInt = 0 → ∀ (mm : Nat) (i c : Nat) (wi : zW) (f9 : Nat → Int32), y.toInt.toNat + 1 - i < mm → (zFr w wi b (b + 11)) → (Mx g wi b th ch ea fa sv tn po en ln kn wr dg f9 fb fs fp fh ft fl fi) → (2 * i ≤ y.toInt.toNat - x.toInt.toNat + 1) → (x.toInt.toNat + i ≤ y.toInt.toNat) → (∀ k, k < 410 → f9 k = (if (4 + x.toInt.toNat ≤ k ∧ k < 4 + x.toInt.toNat + i) ∨ (4 + y.toInt.toNat - i ≤ k ∧ k < 4 + y.toInt.toNat) then nI (gT S.1 (x.toInt.toNat + y.toInt.toNat - 1 - (k - 4))) else fv k)) → (c ≤ 2 * i ∧ (c = 0 ↔ ∀ q, q < i → gT S.1 (x.toInt.toNat + q) = gT S.1 (y.toInt.toNat - 1 - q))) → zTr g mX13_turns (zR 1 0) 0 0 20 [(0, .ref (za g b)), (1, .int (nI (x.toInt.toNat))), (2, .int (nI (y.toInt.toNat))), (3, .int (nI (c))), (4, .int (nI (i)))] [] wi (fun o w' => ∃ th' f' r, o = .inl (some (.int r)) ∧ zFr w w' b (b + 11) ∧ Mx g w' b (th') ch ea fa sv tn po en ln kn wr dg (f') fb fs fp fh ft fl fi ∧ th' = (if spF 4 x.toInt y.toInt 0 S = 0 then th else nI (plc 4 (spF 4 x.toInt y.toInt 0 S))) ∧ VS f' (if spF 4 x.toInt y.toInt 0 S = 0 then spS 4 x.toInt y.toInt 0 S else S) ∧ (spF 4 x.toInt y.toInt 0 S = 0 → ∃ c, c ≤ 1000 ∧ r = nI c ∧ (c = 0 ↔ spA 4 x.toInt y.toInt 0 S = 0))) := by
    intro hF0
    have hp0 := fIv0 hF0
    intro mm
    induction mm with
    | zero => intros; omega
    | succ mm ih =>
      intro i c wi f9 hm hfi hmi hiy hiy2 hi hc
      refine z_iload_n dX13_turns_20 rfl ?_
      refine z_iload dX13_turns_21 rfl ?_
      refine z_iadd_n (a := x.toInt.toNat) (b := i) dX13_turns_23 ?_
      refine z_iload_n dX13_turns_24 rfl ?_
      refine z_iconst (v := nI 1) dX13_turns_25 rfl ?_
      refine z_isub dX13_turns_26 ?_
      refine z_iload dX13_turns_27 rfl ?_
      refine z_isub dX13_turns_29 ?_
      have hz1 := pk_sub_toInt (a := y.toInt.toNat) (b := 1) (by omega) (by omega)
      have hzi := nI_toInt (n := i) (by omega)
      have hzx := nI_toInt (n := (x.toInt.toNat) + (i)) (by omega)
      have hz2 : ((nI (y.toInt.toNat) - nI (1)) - nI (i)).toInt = (y.toInt.toNat : Int) - 1 - i := by rw [i_sub (by omega) (by omega), hz1, hzi]; omega
      have hk2 := nI_toInt (n := (x.toInt.toNat) + (i)) (by omega)
      refine z_icmp_ge_z (tgt := 104) dX13_turns_30 (by decide) (fun h_30_1 => ?_) (fun h_30_1 => ?_)
      · refine z_iload_n dX13_turns_104 rfl ?_
        refine z_iret dX13_turns_105 rfl (by decide) (by decide) ?_
        have hF : spF 4 x.toInt y.toInt 0 S = 0 := hF0
        refine ⟨_, _, _, rfl, hfi.tr zFr.rf, hmi, by rw [if_pos hF], ?_, fun _ => ⟨c, by omega, rfl, ?_⟩⟩
        · rw [if_pos hF]
          refine hv.mkT ((hi _ (by omega)).trans (by rw [if_neg (by omega)]; exact hv.dur)) ((hi _ (by omega)).trans (by rw [if_neg (by omega)]; exact hv.mks)) ((hi _ (by omega)).trans (by rw [if_neg (by omega)])) ((hi _ (by omega)).trans (by rw [if_neg (by omega)]; exact hv.trs)) (fun k hk => ?_) (fun m hm => (hi _ (by have hm8 : m < S.2.1.length := hm; omega)).trans (by rw [if_neg (by omega)]; exact hv.mark hm)) (fun k hk => (hi _ (by omega)).trans (by rw [if_neg (by omega)])) hl.1 hv.mo (fun k hk => by unfold revF; have := hv.le k; split; exact hv.le _; omega)
          rw [hi _ (by omega)]
          unfold revF
          by_cases c1 : x.toInt.toNat ≤ k ∧ k < y.toInt.toNat
          · rw [if_pos (show k < S.1.length by omega), if_pos c1]
            by_cases c4 : k = y.toInt.toNat - 1 - i ∧ x.toInt.toNat + i = y.toInt.toNat - 1 - i
            · rw [if_neg (by omega), hv.tick hk]; congr 2; omega
            · rw [if_pos (by omega)]; congr 2; omega
          · rw [if_neg (by omega), if_neg c1, hv.tick hk]
            by_cases c2 : k < S.1.length
            · rw [if_pos c2]
            · rw [if_neg c2, gT_out (by omega)]
        · show c = 0 ↔ (if ∀ k, k < y.toInt.toNat - x.toInt.toNat → gT S.1 (x.toInt.toNat + k) = gT S.1 (y.toInt.toNat - 1 - k) then 0 else 1) = 0
          rw [hc.2]
          constructor
          · intro z
            rw [if_pos]
            intro k hk
            by_cases c3 : k < i
            · exact z k c3
            · by_cases c4 : k = y.toInt.toNat - 1 - x.toInt.toNat - k
              · congr 1; omega
              · have := z (y.toInt.toNat - 1 - x.toInt.toNat - k) (by omega)
                rw [show x.toInt.toNat + (y.toInt.toNat - 1 - x.toInt.toNat - k) = y.toInt.toNat - 1 - k by omega, show y.toInt.toNat - 1 - (y.toInt.toNat - 1 - x.toInt.toNat - k) = x.toInt.toNat + k by omega] at this
                exact this.symm
          · intro z q hq
            by_cases c5 : ∀ k, k < y.toInt.toNat - x.toInt.toNat → gT S.1 (x.toInt.toNat + k) = gT S.1 (y.toInt.toNat - 1 - k)
            · exact c5 q (by omega)
            · rw [if_neg c5] at z; omega
      · refine z_aload_n dX13_turns_33 rfl ?_
        refine z_iload_n dX13_turns_34 rfl ?_
        refine z_iload dX13_turns_35 rfl ?_
        refine z_iadd_n (a := x.toInt.toNat) (b := i) dX13_turns_37 ?_
        refine z_callE (As := [.int (nI ((x.toInt.toNat) + (i)))]) (rest := []) (b := b) (ci := 12) (v := some (.int (nI (gT S.1 ((x.toInt.toNat) + (i)))))) (R2 := zR 0 0) dX13_turns_38 kV_RX13_65 rfl ⟨⟨by decide, by decide⟩, by decide, by decide⟩ (by omega) hmi.ce rfl rfl rfl (Nat.le_of_ble_eq_true rfl) rfl (c_X13_level (t := (x.toInt.toNat) + (i)) (x := gT S.1 ((x.toInt.toNat) + (i))) h0 hmi (by omega) (by rw [hi _ (by omega), if_neg (by omega)]; exact hv.tick (by omega))) ?_
        refine z_istore (lv' := [(0, .ref (za g b)), (1, .int (nI (x.toInt.toNat))), (2, .int (nI (y.toInt.toNat))), (3, .int (nI (c))), (4, .int (nI (i))), (5, .int (nI (gT S.1 ((x.toInt.toNat) + (i)))))]) dX13_turns_41 (by decide) rfl ?_
        refine z_aload_n dX13_turns_43 rfl ?_
        refine z_iload_n dX13_turns_44 rfl ?_
        refine z_iconst (v := nI 1) dX13_turns_45 rfl ?_
        refine z_isub_n (a := y.toInt.toNat) (b := 1) dX13_turns_46 (by omega) ?_
        refine z_iload dX13_turns_47 rfl ?_
        refine z_isub_n (a := (y.toInt.toNat) - (1)) (b := i) dX13_turns_49 (by omega) ?_
        refine z_callE (As := [.int (nI (((y.toInt.toNat) - (1)) - (i)))]) (rest := []) (b := b) (ci := 12) (v := some (.int (nI (gT S.1 (((y.toInt.toNat) - (1)) - (i)))))) (R2 := zR 0 0) dX13_turns_50 kV_RX13_65 rfl ⟨⟨by decide, by decide⟩, by decide, by decide⟩ (by omega) hmi.ce rfl rfl rfl (Nat.le_of_ble_eq_true rfl) rfl (c_X13_level (t := ((y.toInt.toNat) - (1)) - (i)) (x := gT S.1 (((y.toInt.toNat) - (1)) - (i))) h0 hmi (by omega) (by rw [hi _ (by omega), if_neg (by omega)]; exact hv.tick (by omega))) ?_
        refine z_istore (lv' := [(0, .ref (za g b)), (1, .int (nI (x.toInt.toNat))), (2, .int (nI (y.toInt.toNat))), (3, .int (nI (c))), (4, .int (nI (i))), (5, .int (nI (gT S.1 ((x.toInt.toNat) + (i))))), (6, .int (nI (gT S.1 (((y.toInt.toNat) - (1)) - (i)))))]) dX13_turns_53 (by decide) rfl ?_
        refine z_iload_n dX13_turns_55 rfl ?_
        refine z_iload dX13_turns_56 rfl ?_
        refine z_iload dX13_turns_58 rfl ?_
        have g1 := hv.le (x.toInt.toNat + i)
        have g2 := hv.le (y.toInt.toNat - 1 - i)
        refine z_icmp_ne_n (a := gT S.1 ((x.toInt.toNat) + (i))) (b := gT S.1 (((y.toInt.toNat) - (1)) - (i))) (tgt := 67) dX13_turns_60 (by decide) (by omega) (by omega) (fun h_60_5 => ?_) (fun h_60_5 => ?_)
        · refine z_iconst (v := nI 2) dX13_turns_67 rfl ?_
          refine z_iadd_n (a := c) (b := 2) dX13_turns_68 ?_
          refine z_istore_n (lv' := [(0, .ref (za g b)), (1, .int (nI (x.toInt.toNat))), (2, .int (nI (y.toInt.toNat))), (3, .int (nI ((c) + (2)))), (4, .int (nI (i))), (5, .int (nI (gT S.1 ((x.toInt.toNat) + (i))))), (6, .int (nI (gT S.1 (((y.toInt.toNat) - (1)) - (i)))))]) dX13_turns_69 (by decide) rfl ?_
          refine z_aload_n dX13_turns_70 rfl ?_
          refine z_getf (j := b) dX13_turns_71 kF_RX13_16 rfl (by omega) hmi.ce rfl ?_
          refine z_iconst (v := nI 4) dX13_turns_74 rfl ?_
          refine z_iload_n dX13_turns_75 rfl ?_
          refine z_iadd_n (a := 4) (b := x.toInt.toNat) dX13_turns_76 ?_
          refine z_iload dX13_turns_77 rfl ?_
          refine z_iadd_n (a := (4) + (x.toInt.toNat)) (b := i) dX13_turns_79 ?_
          refine z_iload dX13_turns_80 rfl ?_
          refine z_iast_n (j := b + 1) (N := 410) (a := ((4) + (x.toInt.toNat)) + (i)) (f := f9) dX13_turns_82 (by omega) hmi.r1 (by omega) (by omega) ?_
          obtain ⟨w6, ew7⟩ : ∃ wz : zW, wz = va_up wi (b + 1) (zI g 410 (upd (f9) (((4) + (x.toInt.toNat)) + (i)) ((nI (gT S.1 (((y.toInt.toNat) - (1)) - (i))))))) := ⟨_, rfl⟩
          refine z_weq (w' := w6) ew7.symm ?_
          have hf8 : zFr wi w6 (b + 1) (b + 1 + 1) := by rw [ew7]; exact zFr.up (by omega)
          have hw9 : w6 (b + 1) = zI g 410 (upd (f9) (((4) + (x.toInt.toNat)) + (i)) ((nI (gT S.1 (((y.toInt.toNat) - (1)) - (i)))))) := by rw [ew7, zup_s]
          have hx10 := hmi.setV hf8 hw9
          refine z_aload_n dX13_turns_83 rfl ?_
          refine z_getf (j := b) dX13_turns_84 kF_RX13_16 rfl (by omega) hx10.ce rfl ?_
          refine z_iconst (v := nI 4) dX13_turns_87 rfl ?_
          refine z_iload_n dX13_turns_88 rfl ?_
          refine z_iadd_n (a := 4) (b := y.toInt.toNat) dX13_turns_89 ?_
          refine z_iconst (v := nI 1) dX13_turns_90 rfl ?_
          refine z_isub_n (a := (4) + (y.toInt.toNat)) (b := 1) dX13_turns_91 (by omega) ?_
          refine z_iload dX13_turns_92 rfl ?_
          refine z_isub_n (a := ((4) + (y.toInt.toNat)) - (1)) (b := i) dX13_turns_94 (by omega) ?_
          refine z_iload dX13_turns_95 rfl ?_
          refine z_iast_n (j := b + 1) (N := 410) (a := (((4) + (y.toInt.toNat)) - (1)) - (i)) (f := upd (f9) (((4) + (x.toInt.toNat)) + (i)) ((nI (gT S.1 (((y.toInt.toNat) - (1)) - (i)))))) dX13_turns_97 (by omega) hx10.r1 (by omega) (by omega) ?_
          obtain ⟨w11, ew12⟩ : ∃ wz : zW, wz = va_up w6 (b + 1) (zI g 410 (upd (upd (f9) (((4) + (x.toInt.toNat)) + (i)) ((nI (gT S.1 (((y.toInt.toNat) - (1)) - (i)))))) ((((4) + (y.toInt.toNat)) - (1)) - (i)) ((nI (gT S.1 ((x.toInt.toNat) + (i))))))) := ⟨_, rfl⟩
          refine z_weq (w' := w11) ew12.symm ?_
          have hf13 : zFr w6 w11 (b + 1) (b + 1 + 1) := by rw [ew12]; exact zFr.up (by omega)
          have hw14 : w11 (b + 1) = zI g 410 (upd (upd (f9) (((4) + (x.toInt.toNat)) + (i)) ((nI (gT S.1 (((y.toInt.toNat) - (1)) - (i)))))) ((((4) + (y.toInt.toNat)) - (1)) - (i)) ((nI (gT S.1 ((x.toInt.toNat) + (i)))))) := by rw [ew12, zup_s]
          have hx15 := hx10.setV hf13 hw14
          refine z_iinc_n (n := 1) (a := i) (lv' := [(0, .ref (za g b)), (1, .int (nI (x.toInt.toNat))), (2, .int (nI (y.toInt.toNat))), (3, .int (nI ((c) + (2)))), (4, .int (nI (i + 1))), (5, .int (nI (gT S.1 ((x.toInt.toNat) + (i))))), (6, .int (nI (gT S.1 (((y.toInt.toNat) - (1)) - (i)))))]) dX13_turns_98 rfl (by decide) rfl ?_
          refine z_goto (tgt := 20) dX13_turns_101 (by decide) ?_
          refine z_sub (lv' := [(0, .ref (za g b)), (1, .int (nI (x.toInt.toNat))), (2, .int (nI (y.toInt.toNat))), (3, .int (nI ((c) + (2)))), (4, .int (nI (i + 1)))]) [0, 1, 2, 3, 4] rfl ?_
          refine ih (i + 1) _ _ _ (by omega) (hfi.tr ((hf8.wk (by omega) (by omega)).tr (hf13.wk (by omega) (by omega)))) hx15 (by omega) (by omega) (fun k hk => ?_) ⟨by omega, ?_⟩
          · simp only [upd]
            by_cases c1 : k = 4 + y.toInt.toNat - 1 - i
            · rw [if_pos c1, if_pos (by omega)]; congr 2; omega
            · rw [if_neg c1]
              by_cases c2 : k = 4 + x.toInt.toNat + i
              · rw [if_pos c2, if_pos (by omega)]; congr 2; omega
              · rw [if_neg c2, hi k hk]
                (repeat' split) <;> first | rfl | (exfalso; omega)
          · constructor
            · intro z; omega
            · intro z; exfalso; have := z i (by omega); have := h_60_5; omega
        · refine z_iconst (v := nI 0) dX13_turns_63 rfl ?_
          refine z_goto (tgt := 68) dX13_turns_64 (by decide) ?_
          refine z_iadd_n (a := c) (b := 0) dX13_turns_68 ?_
          refine z_istore_n (lv' := [(0, .ref (za g b)), (1, .int (nI (x.toInt.toNat))), (2, .int (nI (y.toInt.toNat))), (3, .int (nI ((c) + (0)))), (4, .int (nI (i))), (5, .int (nI (gT S.1 ((x.toInt.toNat) + (i))))), (6, .int (nI (gT S.1 (((y.toInt.toNat) - (1)) - (i)))))]) dX13_turns_69 (by decide) rfl ?_
          refine z_aload_n dX13_turns_70 rfl ?_
          refine z_getf (j := b) dX13_turns_71 kF_RX13_16 rfl (by omega) hmi.ce rfl ?_
          refine z_iconst (v := nI 4) dX13_turns_74 rfl ?_
          refine z_iload_n dX13_turns_75 rfl ?_
          refine z_iadd_n (a := 4) (b := x.toInt.toNat) dX13_turns_76 ?_
          refine z_iload dX13_turns_77 rfl ?_
          refine z_iadd_n (a := (4) + (x.toInt.toNat)) (b := i) dX13_turns_79 ?_
          refine z_iload dX13_turns_80 rfl ?_
          refine z_iast_n (j := b + 1) (N := 410) (a := ((4) + (x.toInt.toNat)) + (i)) (f := f9) dX13_turns_82 (by omega) hmi.r1 (by omega) (by omega) ?_
          obtain ⟨w16, ew17⟩ : ∃ wz : zW, wz = va_up wi (b + 1) (zI g 410 (upd (f9) (((4) + (x.toInt.toNat)) + (i)) ((nI (gT S.1 (((y.toInt.toNat) - (1)) - (i))))))) := ⟨_, rfl⟩
          refine z_weq (w' := w16) ew17.symm ?_
          have hf18 : zFr wi w16 (b + 1) (b + 1 + 1) := by rw [ew17]; exact zFr.up (by omega)
          have hw19 : w16 (b + 1) = zI g 410 (upd (f9) (((4) + (x.toInt.toNat)) + (i)) ((nI (gT S.1 (((y.toInt.toNat) - (1)) - (i)))))) := by rw [ew17, zup_s]
          have hx20 := hmi.setV hf18 hw19
          refine z_aload_n dX13_turns_83 rfl ?_
          refine z_getf (j := b) dX13_turns_84 kF_RX13_16 rfl (by omega) hx20.ce rfl ?_
          refine z_iconst (v := nI 4) dX13_turns_87 rfl ?_
          refine z_iload_n dX13_turns_88 rfl ?_
          refine z_iadd_n (a := 4) (b := y.toInt.toNat) dX13_turns_89 ?_
          refine z_iconst (v := nI 1) dX13_turns_90 rfl ?_
          refine z_isub_n (a := (4) + (y.toInt.toNat)) (b := 1) dX13_turns_91 (by omega) ?_
          refine z_iload dX13_turns_92 rfl ?_
          refine z_isub_n (a := ((4) + (y.toInt.toNat)) - (1)) (b := i) dX13_turns_94 (by omega) ?_
          refine z_iload dX13_turns_95 rfl ?_
          refine z_iast_n (j := b + 1) (N := 410) (a := (((4) + (y.toInt.toNat)) - (1)) - (i)) (f := upd (f9) (((4) + (x.toInt.toNat)) + (i)) ((nI (gT S.1 (((y.toInt.toNat) - (1)) - (i)))))) dX13_turns_97 (by omega) hx20.r1 (by omega) (by omega) ?_
          obtain ⟨w21, ew22⟩ : ∃ wz : zW, wz = va_up w16 (b + 1) (zI g 410 (upd (upd (f9) (((4) + (x.toInt.toNat)) + (i)) ((nI (gT S.1 (((y.toInt.toNat) - (1)) - (i)))))) ((((4) + (y.toInt.toNat)) - (1)) - (i)) ((nI (gT S.1 ((x.toInt.toNat) + (i))))))) := ⟨_, rfl⟩
          refine z_weq (w' := w21) ew22.symm ?_
          have hf23 : zFr w16 w21 (b + 1) (b + 1 + 1) := by rw [ew22]; exact zFr.up (by omega)
          have hw24 : w21 (b + 1) = zI g 410 (upd (upd (f9) (((4) + (x.toInt.toNat)) + (i)) ((nI (gT S.1 (((y.toInt.toNat) - (1)) - (i)))))) ((((4) + (y.toInt.toNat)) - (1)) - (i)) ((nI (gT S.1 ((x.toInt.toNat) + (i)))))) := by rw [ew22, zup_s]
          have hx25 := hx20.setV hf23 hw24
          refine z_iinc_n (n := 1) (a := i) (lv' := [(0, .ref (za g b)), (1, .int (nI (x.toInt.toNat))), (2, .int (nI (y.toInt.toNat))), (3, .int (nI ((c) + (0)))), (4, .int (nI (i + 1))), (5, .int (nI (gT S.1 ((x.toInt.toNat) + (i))))), (6, .int (nI (gT S.1 (((y.toInt.toNat) - (1)) - (i)))))]) dX13_turns_98 rfl (by decide) rfl ?_
          refine z_goto (tgt := 20) dX13_turns_101 (by decide) ?_
          refine z_sub (lv' := [(0, .ref (za g b)), (1, .int (nI (x.toInt.toNat))), (2, .int (nI (y.toInt.toNat))), (3, .int (nI ((c) + (0)))), (4, .int (nI (i + 1)))]) [0, 1, 2, 3, 4] rfl ?_
          refine ih (i + 1) _ _ _ (by omega) (hfi.tr ((hf18.wk (by omega) (by omega)).tr (hf23.wk (by omega) (by omega)))) hx25 (by omega) (by omega) (fun k hk => ?_) ⟨by omega, ?_⟩
          · simp only [upd]
            by_cases c1 : k = 4 + y.toInt.toNat - 1 - i
            · rw [if_pos c1, if_pos (by omega)]; congr 2; omega
            · rw [if_neg c1]
              by_cases c2 : k = 4 + x.toInt.toNat + i
              · rw [if_pos c2, if_pos (by omega)]; congr 2; omega
              · rw [if_neg c2, hi k hk]
                (repeat' split) <;> first | rfl | (exfalso; omega)
          · constructor
            · intro z q hq
              by_cases c3 : q = i
              · rw [c3]; have := h_60_5; rw [show y.toInt.toNat - 1 - i = y.toInt.toNat - 1 - i from rfl] at *; omega
              · exact hc.2.mp (by omega) q (by omega)
            · intro z; have := hc.2.mpr (fun q hq => z q (by omega)); omega
  refine z_aload_n dX13_turns_0 rfl ?_
  refine z_iload_n dX13_turns_1 rfl ?_
  refine z_iload_n dX13_turns_2 rfl ?_
  by_cases hc1 : 0 ≤ ((x)).toInt ∧ ((x)).toInt ≤ ((y)).toInt ∧ ((y)).toInt ≤ (S.1.length : Nat)
  · refine z_callE (As := [.int (x), .int (y)]) (rest := []) (b := b) (ci := 12) (v := some (.int (nI (1)))) (R2 := zR 0 0) dX13_turns_3 kV_RX13_86 rfl ⟨⟨by decide, by decide⟩, by decide, by decide⟩ (by omega) h.ce rfl rfl rfl (Nat.le_of_ble_eq_true rfl) rfl (c_X13_isInterval_y h0 h hv hc1) ?_
    refine z_if_ne_n (a := 1) (tgt := 15) dX13_turns_6 (by decide) (by omega) (fun h_6_3 => ?_) (fun h_6_3 => ?_)
    · refine z_eq (lv' := [(0, .ref (za g b)), (1, .int (nI (x.toInt.toNat))), (2, .int (nI (y.toInt.toNat)))]) rfl rfl (by rw [← i_nat (x := x) (by omega), ← i_nat (x := y) (by omega)]) ?_
      refine z_iconst (v := nI 0) dX13_turns_15 rfl ?_
      refine z_istore_n (lv' := [(0, .ref (za g b)), (1, .int (nI (x.toInt.toNat))), (2, .int (nI (y.toInt.toNat))), (3, .int (nI (0)))]) dX13_turns_16 (by decide) rfl ?_
      refine z_iconst (v := nI 0) dX13_turns_17 rfl ?_
      refine z_istore (lv' := [(0, .ref (za g b)), (1, .int (nI (x.toInt.toNat))), (2, .int (nI (y.toInt.toNat))), (3, .int (nI (0))), (4, .int (nI (0)))]) dX13_turns_18 (by decide) rfl ?_
      have hF0 : fIv S.1.length x.toInt y.toInt = 0 := by unfold fIv; rw [if_pos (by omega)]
      exact loop hF0 (y.toInt.toNat + 2) 0 0 w fv (by omega) zFr.rf h (by omega) (by omega) (fun k hk => by rw [if_neg (by omega)]) ⟨by omega, ⟨fun _ q hq => absurd hq (Nat.not_lt_zero q), fun _ => rfl⟩⟩
    · exact absurd h_6_3 (by decide)
  · refine z_callE (As := [.int (x), .int (y)]) (rest := []) (b := b) (ci := 12) (v := some (.int (nI (0)))) (R2 := zR 0 0) dX13_turns_3 kV_RX13_86 rfl ⟨⟨by decide, by decide⟩, by decide, by decide⟩ (by omega) h.ce rfl rfl rfl (Nat.le_of_ble_eq_true rfl) rfl (c_X13_isInterval_n h0 h hv hc1) ?_
    refine z_if_ne_n (a := 0) (tgt := 15) dX13_turns_6 (by decide) (by omega) (fun h_6_5 => ?_) (fun h_6_5 => ?_)
    · exact absurd h_6_5 (by decide)
    · refine z_aload_n dX13_turns_9 rfl ?_
      refine z_iconst (v := nI 1) dX13_turns_10 rfl ?_
      refine z_callR (As := [.int (nI (1))]) (rest := []) (b := b) (ci := 12) (v := some (.int (nI (0)))) (R2 := zR 0 0) dX13_turns_11 kV_RX13_61 rfl ⟨⟨by decide, by decide⟩, by decide, by decide⟩ (by omega) h.ce rfl rfl rfl (Nat.le_of_ble_eq_true rfl) rfl (c_X13_fail (x := (nI (1))) h0 h) (fun w6 pw6 => ?_)
      obtain ⟨hf7, hx8⟩ := pw6
      refine z_iret dX13_turns_14 rfl (by decide) (by decide) ?_
      have hF : spF 4 x.toInt y.toInt 0 S = 1 := by simp only [spF]; unfold fIv; (repeat' split) <;> omega
      exact ⟨_, _, _, rfl, hf7, hx8, by rw [hF]; rfl, by rw [if_neg (by rw [hF]; decide)]; exact hv, fun q9 => absurd (hF.symm.trans q9) (by decide)⟩
theorem gT_fun {T : List Nat} : (fun k => T.getD k 0) = gT T := rfl
theorem VS.clipEq {f f2 : Nat → Int32} {S S2 : zSt} (h : VS f S) (h2 : VS f2 S2) (e : S2.2.2.1 = S.2.2.1) : ∀ k, k < S.2.2.1.length → f2 (210 + k) = f (210 + k) := fun k hk => by
  rw [h.clip hk, h2.clip (by rw [e]; exact hk), e]
set_option maxRecDepth 100000 in
set_option maxHeartbeats 4000000 in
theorem c_X13_repeats {g : zGT} {w : zW} {b : Nat} {th ch ea fa sv tn po en ln kn wr dg : Int32} {fv fb fs fp fh ft fl fi : Nat → Int32} {S : zSt} {x y z : Int32} (h0 : zG0 g) (h : Mx g w b th ch ea fa sv tn po en ln kn wr dg fv fb fs fp fh ft fl fi) (hv : VS fv S) : zCt g mX13_repeats (zR 2 0) [.ref (za g b), .int (x), .int (y), .int (z)] w (fun o w' => ∃ th' f' r, o = .inl (some (.int r)) ∧ zFr w w' b (b + 11) ∧ Mx g w' b (th') ch ea fa sv tn po en ln kn wr dg (f') fb fs fp fh ft fl fi ∧ th' = (if spF 7 x.toInt y.toInt z.toInt S = 0 then th else nI (plc 7 (spF 7 x.toInt y.toInt z.toInt S))) ∧ VS f' (if spF 7 x.toInt y.toInt z.toInt S = 0 then spS 7 x.toInt y.toInt z.toInt S else S) ∧ (spF 7 x.toInt y.toInt z.toInt S = 0 → r = nI (spA 7 x.toInt y.toInt z.toInt S))) := by
  have hb := h.1
  have hl := hv.len
  refine zCt_of (by decide +kernel) h0 [(0, .ref (za g b)), (1, .int (x)), (2, .int (y)), (3, .int (z))] rfl (Nat.le_of_ble_eq_true rfl) ?_
  have loop : ∀ f2 : Nat → Int32, fRep S.1.length x.toInt y.toInt z.toInt = 0 → VS f2 (ltab (S.1.length + ((y.toInt.toNat) - (x.toInt.toNat)) * (z.toInt.toNat)) (insF (gT S.1) y.toInt.toNat (((y.toInt.toNat) - (x.toInt.toNat)) * (z.toInt.toNat))), S.2.1.map (insM y.toInt.toNat (((y.toInt.toNat) - (x.toInt.toNat)) * (z.toInt.toNat))), S.2.2) → (∀ k, k < S.2.2.1.length → f2 (210 + k) = fv (210 + k)) → ∀ (mm : Nat) (i : Nat) (wi : zW) (f9 : Nat → Int32), ((y.toInt.toNat) - (x.toInt.toNat)) * (z.toInt.toNat) + 1 - i < mm → (zFr w wi b (b + 11)) → (Mx g wi b th ch ea fa sv tn po en ln kn wr dg f9 fb fs fp fh ft fl fi) → (i ≤ ((y.toInt.toNat) - (x.toInt.toNat)) * (z.toInt.toNat)) → (∀ k, k < 410 → f9 k = (if 4 + y.toInt.toNat ≤ k ∧ k < 4 + y.toInt.toNat + i then nI (gT S.1 (x.toInt.toNat + (k - 4 - y.toInt.toNat) % (y.toInt.toNat - x.toInt.toNat))) else f2 k)) → zTr g mX13_repeats (zR 2 0) 0 0 71 [(0, .ref (za g b)), (1, .int (nI (x.toInt.toNat))), (2, .int (nI (y.toInt.toNat))), (3, .int (nI (z.toInt.toNat))), (4, .int (nI ((y.toInt.toNat) - (x.toInt.toNat)))), (5, .int (nI (i)))] [] wi (fun o w' => ∃ th' f' r, o = .inl (some (.int r)) ∧ zFr w w' b (b + 11) ∧ Mx g w' b (th') ch ea fa sv tn po en ln kn wr dg (f') fb fs fp fh ft fl fi ∧ th' = (if spF 7 x.toInt y.toInt z.toInt S = 0 then th else nI (plc 7 (spF 7 x.toInt y.toInt z.toInt S))) ∧ VS f' (if spF 7 x.toInt y.toInt z.toInt S = 0 then spS 7 x.toInt y.toInt z.toInt S else S) ∧ (spF 7 x.toInt y.toInt z.toInt S = 0 → r = nI (spA 7 x.toInt y.toInt z.toInt S))) := by
    intro f2 hF0 hv2 hck
    have hp0 := fRep0 hF0
    have hN := fRepN (p := x.toInt) (q := y.toInt) (k := z.toInt) (by omega) (by omega) (by omega)
    have hnm : S.1.length + ((y.toInt.toNat) - (x.toInt.toNat)) * (z.toInt.toNat) ≤ 200 := by omega
    have hv2mo : Mo (S.2.1.map (insM y.toInt.toNat ((y.toInt.toNat - x.toInt.toNat) * z.toInt.toNat))) (S.1.length + (y.toInt.toNat - x.toInt.toNat) * z.toInt.toNat) := by have q9 := hv2.mo; have q8 : (ltab (S.1.length + (y.toInt.toNat - x.toInt.toNat) * z.toInt.toNat) (insF (gT S.1) y.toInt.toNat ((y.toInt.toNat - x.toInt.toNat) * z.toInt.toNat))).length = _ := ltab_len; rw [← q8]; exact q9
    have hmk9 : (S.2.1.map (insM y.toInt.toNat ((y.toInt.toNat - x.toInt.toNat) * z.toInt.toNat))).length = S.2.1.length := List.length_map _
    intro mm
    induction mm with
    | zero => intros; omega
    | succ mm ih =>
      intro i wi f9 hm hfi hmi him hi
      refine z_iload dX13_repeats_71 rfl ?_
      refine z_iload dX13_repeats_73 rfl ?_
      refine z_iload_n dX13_repeats_75 rfl ?_
      refine z_imul_n (a := (y.toInt.toNat) - (x.toInt.toNat)) (b := z.toInt.toNat) dX13_repeats_76 ?_
      refine z_icmp_ge_n (a := i) (b := ((y.toInt.toNat) - (x.toInt.toNat)) * (z.toInt.toNat)) (tgt := 108) dX13_repeats_77 (by decide) (by omega) (by omega) (fun h_77_1 => ?_) (fun h_77_1 => ?_)
      · refine z_aload_n dX13_repeats_108 rfl ?_
        refine z_getf (j := b) dX13_repeats_109 kF_RX13_16 rfl (by omega) hmi.ce rfl ?_
        refine z_iconst (v := nI 0) dX13_repeats_112 rfl ?_
        refine z_iald_v (j := b + 1) (N := 410) (a := 0) (x := S.1.length + ((y.toInt.toNat) - (x.toInt.toNat)) * (z.toInt.toNat)) (f := f9) dX13_repeats_113 (by omega) hmi.r1 (by omega) (by omega) (by rw [hi _ (by omega), if_neg (by omega), hv2.dur]; show nI (ltab _ _).length = _; rw [ltab_len]) ?_
        refine z_iret dX13_repeats_114 rfl (by decide) (by decide) ?_
        have hi9 : i = ((y.toInt.toNat) - (x.toInt.toNat)) * (z.toInt.toNat) := by omega
        have hF : spF 7 x.toInt y.toInt z.toInt S = 0 := hF0
        refine ⟨_, _, _, rfl, hfi.tr zFr.rf, hmi, by rw [if_pos hF], ?_, fun _ => rfl⟩
        rw [if_pos hF]
        refine hv.mkT ((hi _ (by omega)).trans (by rw [if_neg (by omega), hv2.dur]; show nI (ltab _ _).length = _; rw [ltab_len])) ((hi _ (by omega)).trans (by rw [if_neg (by omega)]; exact hv2.mks)) ((hi _ (by omega)).trans (by rw [if_neg (by omega), hv2.cls]; exact hv.cls.symm)) ((hi _ (by omega)).trans (by rw [if_neg (by omega)]; exact hv2.trs)) (fun k hk => ?_) (fun m hm => (hi _ (by have hm8 := hm; rw [List.length_map] at hm8; omega)).trans (by rw [if_neg (by omega)]; exact hv2.mark hm)) (fun k hk => (hi _ (by omega)).trans (by rw [if_neg (by omega)]; exact hck k hk)) (by omega) hv2mo (fun k hk => by unfold repF; (repeat' split) <;> exact hv.le _)
        rw [hi _ (by omega), hi9]
        unfold repF
        by_cases c1 : k < y.toInt.toNat
        · rw [if_neg (by omega), if_pos (by omega), if_pos c1, hv2.tick hk]; show nI (gT (ltab _ _) k) = _; rw [gT_ltab, if_pos (by omega)]; unfold insF; rw [if_pos c1]
        · by_cases c2 : k < y.toInt.toNat + ((y.toInt.toNat) - (x.toInt.toNat)) * (z.toInt.toNat)
          · rw [if_pos (by omega), if_pos (by omega), if_neg c1, if_pos c2, show 4 + k - 4 - y.toInt.toNat = k - y.toInt.toNat by omega]
          · rw [if_neg (by omega), hv2.tick hk]; show nI (gT (ltab _ _) k) = _; rw [gT_ltab]
            by_cases c3 : k < S.1.length + ((y.toInt.toNat) - (x.toInt.toNat)) * (z.toInt.toNat)
            · rw [if_pos c3, if_pos c3, if_neg c1, if_neg c2]; unfold insF; rw [if_neg c1, if_neg c2]
            · rw [if_neg c3, if_neg c3]
      · have hpos : 0 < y.toInt.toNat - x.toInt.toNat := Nat.pos_of_ne_zero (fun q9 => (by have hz0 : ((y.toInt.toNat) - (x.toInt.toNat)) * (z.toInt.toNat) = 0 := (by rw [q9, Nat.zero_mul]); omega))
        have hmod := Nat.mod_lt i hpos
        refine z_aload_n dX13_repeats_80 rfl ?_
        refine z_getf (j := b) dX13_repeats_81 kF_RX13_16 rfl (by omega) hmi.ce rfl ?_
        refine z_iconst (v := nI 4) dX13_repeats_84 rfl ?_
        refine z_iload_n dX13_repeats_85 rfl ?_
        refine z_iadd_n (a := 4) (b := y.toInt.toNat) dX13_repeats_86 ?_
        refine z_iload dX13_repeats_87 rfl ?_
        refine z_iadd_n (a := (4) + (y.toInt.toNat)) (b := i) dX13_repeats_89 ?_
        refine z_aload_n dX13_repeats_90 rfl ?_
        refine z_iload_n dX13_repeats_91 rfl ?_
        refine z_iload dX13_repeats_92 rfl ?_
        refine z_iload dX13_repeats_94 rfl ?_
        refine z_irem_n (a := i) (b := (y.toInt.toNat) - (x.toInt.toNat)) dX13_repeats_96 (by omega) (by omega) (by omega) ?_
        refine z_iadd_n (a := x.toInt.toNat) (b := (i) % ((y.toInt.toNat) - (x.toInt.toNat))) dX13_repeats_97 ?_
        refine z_callE (As := [.int (nI ((x.toInt.toNat) + ((i) % ((y.toInt.toNat) - (x.toInt.toNat)))))]) (rest := [.int (nI (((4) + (y.toInt.toNat)) + (i))), .ref (za g (b + 1))]) (b := b) (ci := 12) (v := some (.int (nI (gT S.1 ((x.toInt.toNat) + ((i) % ((y.toInt.toNat) - (x.toInt.toNat)))))))) (R2 := zR 0 0) dX13_repeats_98 kV_RX13_65 rfl ⟨⟨by decide, by decide⟩, by decide, by decide⟩ (by omega) hmi.ce rfl rfl rfl (Nat.le_of_ble_eq_true rfl) rfl (c_X13_level (t := (x.toInt.toNat) + ((i) % ((y.toInt.toNat) - (x.toInt.toNat)))) (x := gT S.1 ((x.toInt.toNat) + ((i) % ((y.toInt.toNat) - (x.toInt.toNat))))) h0 hmi (by omega) (by rw [hi _ (by omega), if_neg (by omega), hv2.tick (by omega)]; show nI (gT (ltab _ _) _) = _; rw [gT_ltab, if_pos (by omega)]; unfold insF; rw [if_pos (by omega)])) ?_
        refine z_iast_n (j := b + 1) (N := 410) (a := ((4) + (y.toInt.toNat)) + (i)) (f := f9) dX13_repeats_101 (by omega) hmi.r1 (by omega) (by omega) ?_
        obtain ⟨w3, ew4⟩ : ∃ wz : zW, wz = va_up wi (b + 1) (zI g 410 (upd (f9) (((4) + (y.toInt.toNat)) + (i)) ((nI (gT S.1 ((x.toInt.toNat) + ((i) % ((y.toInt.toNat) - (x.toInt.toNat))))))))) := ⟨_, rfl⟩
        refine z_weq (w' := w3) ew4.symm ?_
        have hf5 : zFr wi w3 (b + 1) (b + 1 + 1) := by rw [ew4]; exact zFr.up (by omega)
        have hw6 : w3 (b + 1) = zI g 410 (upd (f9) (((4) + (y.toInt.toNat)) + (i)) ((nI (gT S.1 ((x.toInt.toNat) + ((i) % ((y.toInt.toNat) - (x.toInt.toNat)))))))) := by rw [ew4, zup_s]
        have hx7 := hmi.setV hf5 hw6
        refine z_iinc_n (n := 1) (a := i) (lv' := [(0, .ref (za g b)), (1, .int (nI (x.toInt.toNat))), (2, .int (nI (y.toInt.toNat))), (3, .int (nI (z.toInt.toNat))), (4, .int (nI ((y.toInt.toNat) - (x.toInt.toNat)))), (5, .int (nI (i + 1)))]) dX13_repeats_102 rfl (by decide) rfl ?_
        refine z_goto (tgt := 71) dX13_repeats_105 (by decide) ?_
        refine ih (i + 1) _ _ (by omega) (hfi.tr (hf5.wk (by omega) (by omega))) hx7 (by omega) (fun k hk => ?_)
        simp only [upd]
        by_cases c : k = 4 + y.toInt.toNat + i
        · rw [if_pos c, c]; rw [if_pos (by omega), show 4 + y.toInt.toNat + i - 4 - y.toInt.toNat = i by omega]
        · rw [if_neg c, hi k hk]
          (repeat' split) <;> first | rfl | (exfalso; omega)
  refine z_aload_n dX13_repeats_0 rfl ?_
  refine z_iload_n dX13_repeats_1 rfl ?_
  refine z_iload_n dX13_repeats_2 rfl ?_
  by_cases hc1 : 0 ≤ ((x)).toInt ∧ ((x)).toInt ≤ ((y)).toInt ∧ ((y)).toInt ≤ (S.1.length : Nat)
  · refine z_callE (As := [.int (x), .int (y)]) (rest := []) (b := b) (ci := 12) (v := some (.int (nI (1)))) (R2 := zR 0 0) dX13_repeats_3 kV_RX13_86 rfl ⟨⟨by decide, by decide⟩, by decide, by decide⟩ (by omega) h.ce rfl rfl rfl (Nat.le_of_ble_eq_true rfl) rfl (c_X13_isInterval_y h0 h hv hc1) ?_
    refine z_if_ne_n (a := 1) (tgt := 15) dX13_repeats_6 (by decide) (by omega) (fun h_6_3 => ?_) (fun h_6_3 => ?_)
    · refine z_iload_n dX13_repeats_15 rfl ?_
      refine z_iconst (v := nI 1) dX13_repeats_16 rfl ?_
      refine z_bipush (v := nI 9) dX13_repeats_17 rfl ?_
      by_cases hc4 : ((1 : Nat) : Int) ≤ ((z)).toInt ∧ ((z)).toInt ≤ ((9 : Nat) : Int)
      · refine z_callSE (As := [.int (z), .int (nI (1)), .int (nI (9))]) (rest := []) (v := some (.int (nI (1)))) (R2 := zR 0 0) dX13_repeats_19 kS_RX13_57 rfl rfl ⟨⟨by decide, by decide⟩, by decide, by decide⟩ rfl (Nat.le_of_ble_eq_true rfl) rfl (c_X13_isIn_y (x := (z)) (y := (nI (1))) (z := (nI (9))) h0 (by have q0 := nI_toInt (n := 1) (by omega); have q1 := nI_toInt (n := 9) (by omega); omega)) ?_
        refine z_if_ne_n (a := 1) (tgt := 31) dX13_repeats_22 (by decide) (by omega) (fun h_22_6 => ?_) (fun h_22_6 => ?_)
        · refine z_eq (lv' := [(0, .ref (za g b)), (1, .int (nI (x.toInt.toNat))), (2, .int (nI (y.toInt.toNat))), (3, .int (nI (z.toInt.toNat)))]) rfl rfl (by rw [← i_nat (x := x) (by omega), ← i_nat (x := y) (by omega), ← i_nat (x := z) (by omega)]) ?_
          have hN := fRepN (p := x.toInt) (q := y.toInt) (k := z.toInt) (by omega) (by omega) (by omega)
          have hNb : ((y.toInt.toNat) - (x.toInt.toNat)) * (z.toInt.toNat) ≤ 200 * 9 := Nat.mul_le_mul (by omega) (by omega)
          refine z_iload_n dX13_repeats_31 rfl ?_
          refine z_iload_n dX13_repeats_32 rfl ?_
          refine z_isub_n (a := y.toInt.toNat) (b := x.toInt.toNat) dX13_repeats_33 (by omega) ?_
          refine z_istore (lv' := [(0, .ref (za g b)), (1, .int (nI (x.toInt.toNat))), (2, .int (nI (y.toInt.toNat))), (3, .int (nI (z.toInt.toNat))), (4, .int (nI ((y.toInt.toNat) - (x.toInt.toNat))))]) dX13_repeats_34 (by decide) rfl ?_
          refine z_aload_n dX13_repeats_36 rfl ?_
          refine z_getf (j := b) dX13_repeats_37 kF_RX13_16 rfl (by omega) h.ce rfl ?_
          refine z_iconst (v := nI 0) dX13_repeats_40 rfl ?_
          refine z_iald_v (j := b + 1) (N := 410) (a := 0) (x := S.1.length) (f := fv) dX13_repeats_41 (by omega) h.r1 (by omega) (by omega) (hv.dur) ?_
          refine z_iload dX13_repeats_42 rfl ?_
          refine z_iload_n dX13_repeats_44 rfl ?_
          refine z_imul_n (a := (y.toInt.toNat) - (x.toInt.toNat)) (b := z.toInt.toNat) dX13_repeats_45 ?_
          refine z_iadd_n (a := S.1.length) (b := ((y.toInt.toNat) - (x.toInt.toNat)) * (z.toInt.toNat)) dX13_repeats_46 ?_
          refine z_sipush (v := nI 200) dX13_repeats_47 rfl ?_
          refine z_icmp_le_n (a := (S.1.length) + (((y.toInt.toNat) - (x.toInt.toNat)) * (z.toInt.toNat))) (b := 200) (tgt := 59) dX13_repeats_50 (by decide) (by omega) (by omega) (fun h_50_7 => ?_) (fun h_50_7 => ?_)
          · refine z_aload_n dX13_repeats_59 rfl ?_
            refine z_iload_n dX13_repeats_60 rfl ?_
            refine z_iload dX13_repeats_61 rfl ?_
            refine z_iload_n dX13_repeats_63 rfl ?_
            refine z_imul_n (a := (y.toInt.toNat) - (x.toInt.toNat)) (b := z.toInt.toNat) dX13_repeats_64 ?_
            refine z_callR (As := [.int (nI (y.toInt.toNat)), .int (nI (((y.toInt.toNat) - (x.toInt.toNat)) * (z.toInt.toNat)))]) (rest := []) (b := b) (ci := 12) (v := none) (R2 := zR 0 0) dX13_repeats_65 kV_RX13_78 rfl ⟨⟨by decide, by decide⟩, by decide, by decide⟩ (by omega) h.ce rfl rfl rfl (Nat.le_of_ble_eq_true rfl) rfl (c_X13_inserts (t := y.toInt.toNat) (n := ((y.toInt.toNat) - (x.toInt.toNat)) * (z.toInt.toNat)) h0 h hv (by omega) (by omega)) (fun w8 pw8 => ?_)
            obtain ⟨hf9, g10, hx11, hv12⟩ := pw8
            have hv12l := hv12.len
            refine z_iconst (v := nI 0) dX13_repeats_68 rfl ?_
            refine z_istore (lv' := [(0, .ref (za g b)), (1, .int (nI (x.toInt.toNat))), (2, .int (nI (y.toInt.toNat))), (3, .int (nI (z.toInt.toNat))), (4, .int (nI ((y.toInt.toNat) - (x.toInt.toNat)))), (5, .int (nI (0)))]) dX13_repeats_69 (by decide) rfl ?_
            have hF0 : fRep S.1.length x.toInt y.toInt z.toInt = 0 := by unfold fRep; (repeat' split) <;> omega
            exact loop g10 hF0 hv12 (hv.clipEq hv12 rfl) (((y.toInt.toNat) - (x.toInt.toNat)) * (z.toInt.toNat) + 2) 0 _ _ (by omega) hf9 hx11 (by omega) (fun k hk => by rw [if_neg (by omega)])
          · refine z_aload_n dX13_repeats_53 rfl ?_
            refine z_iconst (v := nI 3) dX13_repeats_54 rfl ?_
            refine z_callR (As := [.int (nI (3))]) (rest := []) (b := b) (ci := 12) (v := some (.int (nI (0)))) (R2 := zR 0 0) dX13_repeats_55 kV_RX13_61 rfl ⟨⟨by decide, by decide⟩, by decide, by decide⟩ (by omega) h.ce rfl rfl rfl (Nat.le_of_ble_eq_true rfl) rfl (c_X13_fail (x := (nI (3))) h0 h) (fun w13 pw13 => ?_)
            obtain ⟨hf14, hx15⟩ := pw13
            refine z_iret dX13_repeats_58 rfl (by decide) (by decide) ?_
            have hF : spF 7 x.toInt y.toInt z.toInt S = 3 := by simp only [spF]; unfold fRep; (repeat' split) <;> omega
            exact ⟨_, _, _, rfl, hf14, hx15, by rw [hF]; rfl, by rw [if_neg (by rw [hF]; decide)]; exact hv, fun q9 => absurd (hF.symm.trans q9) (by decide)⟩
        · exact absurd h_22_6 (by decide)
      · refine z_callSE (As := [.int (z), .int (nI (1)), .int (nI (9))]) (rest := []) (v := some (.int (nI (0)))) (R2 := zR 0 0) dX13_repeats_19 kS_RX13_57 rfl rfl ⟨⟨by decide, by decide⟩, by decide, by decide⟩ rfl (Nat.le_of_ble_eq_true rfl) rfl (c_X13_isIn_n (x := (z)) (y := (nI (1))) (z := (nI (9))) h0 (by have q0 := nI_toInt (n := 1) (by omega); have q1 := nI_toInt (n := 9) (by omega); omega)) ?_
        refine z_if_ne_n (a := 0) (tgt := 31) dX13_repeats_22 (by decide) (by omega) (fun h_22_17 => ?_) (fun h_22_17 => ?_)
        · exact absurd h_22_17 (by decide)
        · refine z_aload_n dX13_repeats_25 rfl ?_
          refine z_iconst (v := nI 2) dX13_repeats_26 rfl ?_
          refine z_callR (As := [.int (nI (2))]) (rest := []) (b := b) (ci := 12) (v := some (.int (nI (0)))) (R2 := zR 0 0) dX13_repeats_27 kV_RX13_61 rfl ⟨⟨by decide, by decide⟩, by decide, by decide⟩ (by omega) h.ce rfl rfl rfl (Nat.le_of_ble_eq_true rfl) rfl (c_X13_fail (x := (nI (2))) h0 h) (fun w18 pw18 => ?_)
          obtain ⟨hf19, hx20⟩ := pw18
          refine z_iret dX13_repeats_30 rfl (by decide) (by decide) ?_
          have hF : spF 7 x.toInt y.toInt z.toInt S = 2 := by simp only [spF]; unfold fRep; (repeat' split) <;> omega
          exact ⟨_, _, _, rfl, hf19, hx20, by rw [hF]; rfl, by rw [if_neg (by rw [hF]; decide)]; exact hv, fun q9 => absurd (hF.symm.trans q9) (by decide)⟩
    · exact absurd h_6_3 (by decide)
  · refine z_callE (As := [.int (x), .int (y)]) (rest := []) (b := b) (ci := 12) (v := some (.int (nI (0)))) (R2 := zR 0 0) dX13_repeats_3 kV_RX13_86 rfl ⟨⟨by decide, by decide⟩, by decide, by decide⟩ (by omega) h.ce rfl rfl rfl (Nat.le_of_ble_eq_true rfl) rfl (c_X13_isInterval_n h0 h hv hc1) ?_
    refine z_if_ne_n (a := 0) (tgt := 15) dX13_repeats_6 (by decide) (by omega) (fun h_6_22 => ?_) (fun h_6_22 => ?_)
    · exact absurd h_6_22 (by decide)
    · refine z_aload_n dX13_repeats_9 rfl ?_
      refine z_iconst (v := nI 1) dX13_repeats_10 rfl ?_
      refine z_callR (As := [.int (nI (1))]) (rest := []) (b := b) (ci := 12) (v := some (.int (nI (0)))) (R2 := zR 0 0) dX13_repeats_11 kV_RX13_61 rfl ⟨⟨by decide, by decide⟩, by decide, by decide⟩ (by omega) h.ce rfl rfl rfl (Nat.le_of_ble_eq_true rfl) rfl (c_X13_fail (x := (nI (1))) h0 h) (fun w23 pw23 => ?_)
      obtain ⟨hf24, hx25⟩ := pw23
      refine z_iret dX13_repeats_14 rfl (by decide) (by decide) ?_
      have hF : spF 7 x.toInt y.toInt z.toInt S = 1 := by simp only [spF]; unfold fRep; (repeat' split) <;> omega
      exact ⟨_, _, _, rfl, hf24, hx25, by rw [hF]; rfl, by rw [if_neg (by rw [hF]; decide)]; exact hv, fun q9 => absurd (hF.symm.trans q9) (by decide)⟩
set_option maxRecDepth 100000 in
set_option maxHeartbeats 4000000 in
theorem c_X13_pastes {g : zGT} {w : zW} {b : Nat} {th ch ea fa sv tn po en ln kn wr dg : Int32} {fv fb fs fp fh ft fl fi : Nat → Int32} {S : zSt} {x : Int32} (h0 : zG0 g) (h : Mx g w b th ch ea fa sv tn po en ln kn wr dg fv fb fs fp fh ft fl fi) (hv : VS fv S) : zCt g mX13_pastes (zR 2 0) [.ref (za g b), .int (x)] w (fun o w' => ∃ th' f' r, o = .inl (some (.int r)) ∧ zFr w w' b (b + 11) ∧ Mx g w' b (th') ch ea fa sv tn po en ln kn wr dg (f') fb fs fp fh ft fl fi ∧ th' = (if spF 8 x.toInt 0 0 S = 0 then th else nI (plc 8 (spF 8 x.toInt 0 0 S))) ∧ VS f' (if spF 8 x.toInt 0 0 S = 0 then spS 8 x.toInt 0 0 S else S) ∧ (spF 8 x.toInt 0 0 S = 0 → r = nI (spA 8 x.toInt 0 0 S))) := by
  have hb := h.1
  have hl := hv.len
  refine zCt_of (by decide +kernel) h0 [(0, .ref (za g b)), (1, .int (x))] rfl (Nat.le_of_ble_eq_true rfl) ?_
  have loop : ∀ f2 : Nat → Int32, fPas S.1.length S.2.2.1.length x.toInt = 0 → VS f2 (ltab (S.1.length + S.2.2.1.length) (insF (gT S.1) x.toInt.toNat S.2.2.1.length), S.2.1.map (insM x.toInt.toNat S.2.2.1.length), S.2.2) → (∀ k, k < S.2.2.1.length → f2 (210 + k) = fv (210 + k)) → ∀ (mm : Nat) (i : Nat) (wi : zW) (f9 : Nat → Int32), S.2.2.1.length + 1 - i < mm → (zFr w wi b (b + 11)) → (Mx g wi b th ch ea fa sv tn po en ln kn wr dg f9 fb fs fp fh ft fl fi) → (i ≤ S.2.2.1.length) → (∀ k, k < 410 → f9 k = (if 4 + x.toInt.toNat ≤ k ∧ k < 4 + x.toInt.toNat + i then nI (gT S.2.2.1 (k - 4 - x.toInt.toNat)) else f2 k)) → zTr g mX13_pastes (zR 2 0) 0 0 73 [(0, .ref (za g b)), (1, .int (nI (x.toInt.toNat))), (2, .int (nI (i)))] [] wi (fun o w' => ∃ th' f' r, o = .inl (some (.int r)) ∧ zFr w w' b (b + 11) ∧ Mx g w' b (th') ch ea fa sv tn po en ln kn wr dg (f') fb fs fp fh ft fl fi ∧ th' = (if spF 8 x.toInt 0 0 S = 0 then th else nI (plc 8 (spF 8 x.toInt 0 0 S))) ∧ VS f' (if spF 8 x.toInt 0 0 S = 0 then spS 8 x.toInt 0 0 S else S) ∧ (spF 8 x.toInt 0 0 S = 0 → r = nI (spA 8 x.toInt 0 0 S))) := by
    intro f2 hF0 hv2 hck
    have hp0 := fPas0 hF0
    have hv2mo : Mo (S.2.1.map (insM x.toInt.toNat S.2.2.1.length)) (S.1.length + S.2.2.1.length) := by have q9 := hv2.mo; have q8 : (ltab (S.1.length + S.2.2.1.length) (insF (gT S.1) x.toInt.toNat S.2.2.1.length)).length = _ := ltab_len; rw [← q8]; exact q9
    have hmk9 : (S.2.1.map (insM x.toInt.toNat S.2.2.1.length)).length = S.2.1.length := List.length_map _
    intro mm
    induction mm with
    | zero => intros; omega
    | succ mm ih =>
      intro i wi f9 hm hfi hmi him hi
      refine z_iload_n dX13_pastes_73 rfl ?_
      refine z_aload_n dX13_pastes_74 rfl ?_
      refine z_getf (j := b) dX13_pastes_75 kF_RX13_16 rfl (by omega) hmi.ce rfl ?_
      refine z_iconst (v := nI 2) dX13_pastes_78 rfl ?_
      refine z_iald_v (j := b + 1) (N := 410) (a := 2) (x := S.2.2.1.length) (f := f9) dX13_pastes_79 (by omega) hmi.r1 (by omega) (by omega) (by rw [hi _ (by omega), if_neg (by omega)]; exact hv2.cls) ?_
      refine z_icmp_ge_n (a := i) (b := S.2.2.1.length) (tgt := 109) dX13_pastes_80 (by decide) (by omega) (by omega) (fun h_80_1 => ?_) (fun h_80_1 => ?_)
      · refine z_aload_n dX13_pastes_109 rfl ?_
        refine z_getf (j := b) dX13_pastes_110 kF_RX13_16 rfl (by omega) hmi.ce rfl ?_
        refine z_iconst (v := nI 0) dX13_pastes_113 rfl ?_
        refine z_iald_v (j := b + 1) (N := 410) (a := 0) (x := S.1.length + S.2.2.1.length) (f := f9) dX13_pastes_114 (by omega) hmi.r1 (by omega) (by omega) (by rw [hi _ (by omega), if_neg (by omega), hv2.dur]; show nI (ltab _ _).length = _; rw [ltab_len]) ?_
        refine z_iret dX13_pastes_115 rfl (by decide) (by decide) ?_
        have hi9 : i = S.2.2.1.length := by omega
        have hF : spF 8 x.toInt 0 0 S = 0 := hF0
        refine ⟨_, _, _, rfl, hfi.tr zFr.rf, hmi, by rw [if_pos hF], ?_, fun _ => rfl⟩
        rw [if_pos hF]
        refine hv.mkT ((hi _ (by omega)).trans (by rw [if_neg (by omega), hv2.dur]; show nI (ltab _ _).length = _; rw [ltab_len])) ((hi _ (by omega)).trans (by rw [if_neg (by omega)]; exact hv2.mks)) ((hi _ (by omega)).trans (by rw [if_neg (by omega), hv2.cls]; exact hv.cls.symm)) ((hi _ (by omega)).trans (by rw [if_neg (by omega)]; exact hv2.trs)) (fun k hk => ?_) (fun m hm => (hi _ (by have hm8 := hm; rw [List.length_map] at hm8; omega)).trans (by rw [if_neg (by omega)]; exact hv2.mark hm)) (fun k hk => (hi _ (by omega)).trans (by rw [if_neg (by omega)]; exact hck k hk)) (by omega) hv2mo (fun k hk => by unfold pasF; (repeat' split) <;> first | exact hv.le _ | exact hv.cle _)
        rw [hi _ (by omega), hi9]
        unfold pasF
        by_cases c1 : k < x.toInt.toNat
        · rw [if_neg (by omega), if_pos (by omega), if_pos c1, hv2.tick hk]; show nI (gT (ltab _ _) k) = _; rw [gT_ltab, if_pos (by omega)]; unfold insF; rw [if_pos c1]
        · by_cases c2 : k < x.toInt.toNat + S.2.2.1.length
          · rw [if_pos (by omega), if_pos (by omega), if_neg c1, if_pos c2, show 4 + k - 4 - x.toInt.toNat = k - x.toInt.toNat by omega]
          · rw [if_neg (by omega), hv2.tick hk]; show nI (gT (ltab _ _) k) = _; rw [gT_ltab]
            by_cases c3 : k < S.1.length + S.2.2.1.length
            · rw [if_pos c3, if_pos c3, if_neg c1, if_neg c2]; unfold insF; rw [if_neg c1, if_neg c2]
            · rw [if_neg c3, if_neg c3]
      · refine z_aload_n dX13_pastes_83 rfl ?_
        refine z_getf (j := b) dX13_pastes_84 kF_RX13_16 rfl (by omega) hmi.ce rfl ?_
        refine z_iconst (v := nI 4) dX13_pastes_87 rfl ?_
        refine z_iload_n dX13_pastes_88 rfl ?_
        refine z_iadd_n (a := 4) (b := x.toInt.toNat) dX13_pastes_89 ?_
        refine z_iload_n dX13_pastes_90 rfl ?_
        refine z_iadd_n (a := (4) + (x.toInt.toNat)) (b := i) dX13_pastes_91 ?_
        refine z_aload_n dX13_pastes_92 rfl ?_
        refine z_getf (j := b) dX13_pastes_93 kF_RX13_16 rfl (by omega) hmi.ce rfl ?_
        refine z_sipush (v := nI 210) dX13_pastes_96 rfl ?_
        refine z_iload_n dX13_pastes_99 rfl ?_
        refine z_iadd_n (a := 210) (b := i) dX13_pastes_100 ?_
        refine z_iald_v (j := b + 1) (N := 410) (a := (210) + (i)) (x := gT S.2.2.1 (i)) (f := f9) dX13_pastes_101 (by omega) hmi.r1 (by omega) (by omega) (by rw [hi _ (by omega), if_neg (by omega)]; exact hv2.clip (by show _ < S.2.2.1.length; omega)) ?_
        refine z_iast_n (j := b + 1) (N := 410) (a := ((4) + (x.toInt.toNat)) + (i)) (f := f9) dX13_pastes_102 (by omega) hmi.r1 (by omega) (by omega) ?_
        obtain ⟨w2, ew3⟩ : ∃ wz : zW, wz = va_up wi (b + 1) (zI g 410 (upd (f9) (((4) + (x.toInt.toNat)) + (i)) ((nI (gT S.2.2.1 (i)))))) := ⟨_, rfl⟩
        refine z_weq (w' := w2) ew3.symm ?_
        have hf4 : zFr wi w2 (b + 1) (b + 1 + 1) := by rw [ew3]; exact zFr.up (by omega)
        have hw5 : w2 (b + 1) = zI g 410 (upd (f9) (((4) + (x.toInt.toNat)) + (i)) ((nI (gT S.2.2.1 (i))))) := by rw [ew3, zup_s]
        have hx6 := hmi.setV hf4 hw5
        refine z_iinc_n (n := 1) (a := i) (lv' := [(0, .ref (za g b)), (1, .int (nI (x.toInt.toNat))), (2, .int (nI (i + 1)))]) dX13_pastes_103 rfl (by decide) rfl ?_
        refine z_goto (tgt := 73) dX13_pastes_106 (by decide) ?_
        refine ih (i + 1) _ _ (by omega) (hfi.tr (hf4.wk (by omega) (by omega))) hx6 (by omega) (fun k hk => ?_)
        simp only [upd]
        by_cases c : k = 4 + x.toInt.toNat + i
        · rw [if_pos c, c]; rw [if_pos (by omega), show 4 + x.toInt.toNat + i - 4 - x.toInt.toNat = i by omega]
        · rw [if_neg c, hi k hk]
          (repeat' split) <;> first | rfl | (exfalso; omega)
  refine z_iload_n dX13_pastes_0 rfl ?_
  refine z_iconst (v := nI 0) dX13_pastes_1 rfl ?_
  refine z_aload_n dX13_pastes_2 rfl ?_
  refine z_getf (j := b) dX13_pastes_3 kF_RX13_16 rfl (by omega) h.ce rfl ?_
  refine z_iconst (v := nI 0) dX13_pastes_6 rfl ?_
  refine z_iald_v (j := b + 1) (N := 410) (a := 0) (x := S.1.length) (f := fv) dX13_pastes_7 (by omega) h.r1 (by omega) (by omega) (hv.dur) ?_
  by_cases hc1 : ((0 : Nat) : Int) ≤ ((x)).toInt ∧ ((x)).toInt ≤ ((S.1.length : Nat) : Int)
  · refine z_callSE (As := [.int (x), .int (nI (0)), .int (nI (S.1.length))]) (rest := []) (v := some (.int (nI (1)))) (R2 := zR 0 0) dX13_pastes_8 kS_RX13_57 rfl rfl ⟨⟨by decide, by decide⟩, by decide, by decide⟩ rfl (Nat.le_of_ble_eq_true rfl) rfl (c_X13_isIn_y (x := (x)) (y := (nI (0))) (z := (nI (S.1.length))) h0 (by have q0 := nI_toInt (n := 0) (by omega); have q1 := nI_toInt (n := S.1.length) (by omega); omega)) ?_
    refine z_if_ne_n (a := 1) (tgt := 20) dX13_pastes_11 (by decide) (by omega) (fun h_11_3 => ?_) (fun h_11_3 => ?_)
    · refine z_aload_n dX13_pastes_20 rfl ?_
      refine z_getf (j := b) dX13_pastes_21 kF_RX13_16 rfl (by omega) h.ce rfl ?_
      refine z_iconst (v := nI 2) dX13_pastes_24 rfl ?_
      refine z_iald_v (j := b + 1) (N := 410) (a := 2) (x := S.2.2.1.length) (f := fv) dX13_pastes_25 (by omega) h.r1 (by omega) (by omega) (hv.cls) ?_
      refine z_if_ne_n (a := S.2.2.1.length) (tgt := 35) dX13_pastes_26 (by decide) (by omega) (fun h_26_4 => ?_) (fun h_26_4 => ?_)
      · refine z_aload_n dX13_pastes_35 rfl ?_
        refine z_getf (j := b) dX13_pastes_36 kF_RX13_16 rfl (by omega) h.ce rfl ?_
        refine z_iconst (v := nI 0) dX13_pastes_39 rfl ?_
        refine z_iald_v (j := b + 1) (N := 410) (a := 0) (x := S.1.length) (f := fv) dX13_pastes_40 (by omega) h.r1 (by omega) (by omega) (hv.dur) ?_
        refine z_aload_n dX13_pastes_41 rfl ?_
        refine z_getf (j := b) dX13_pastes_42 kF_RX13_16 rfl (by omega) h.ce rfl ?_
        refine z_iconst (v := nI 2) dX13_pastes_45 rfl ?_
        refine z_iald_v (j := b + 1) (N := 410) (a := 2) (x := S.2.2.1.length) (f := fv) dX13_pastes_46 (by omega) h.r1 (by omega) (by omega) (hv.cls) ?_
        refine z_iadd_n (a := S.1.length) (b := S.2.2.1.length) dX13_pastes_47 ?_
        refine z_sipush (v := nI 200) dX13_pastes_48 rfl ?_
        refine z_icmp_le_n (a := (S.1.length) + (S.2.2.1.length)) (b := 200) (tgt := 60) dX13_pastes_51 (by decide) (by omega) (by omega) (fun h_51_5 => ?_) (fun h_51_5 => ?_)
        · refine z_eq (lv' := [(0, .ref (za g b)), (1, .int (nI (x.toInt.toNat)))]) rfl rfl (by rw [← i_nat (x := x) (by omega)]) ?_
          refine z_aload_n dX13_pastes_60 rfl ?_
          refine z_iload_n dX13_pastes_61 rfl ?_
          refine z_aload_n dX13_pastes_62 rfl ?_
          refine z_getf (j := b) dX13_pastes_63 kF_RX13_16 rfl (by omega) h.ce rfl ?_
          refine z_iconst (v := nI 2) dX13_pastes_66 rfl ?_
          refine z_iald_v (j := b + 1) (N := 410) (a := 2) (x := S.2.2.1.length) (f := fv) dX13_pastes_67 (by omega) h.r1 (by omega) (by omega) (hv.cls) ?_
          refine z_callR (As := [.int (nI (x.toInt.toNat)), .int (nI (S.2.2.1.length))]) (rest := []) (b := b) (ci := 12) (v := none) (R2 := zR 0 0) dX13_pastes_68 kV_RX13_78 rfl ⟨⟨by decide, by decide⟩, by decide, by decide⟩ (by omega) h.ce rfl rfl rfl (Nat.le_of_ble_eq_true rfl) rfl (c_X13_inserts (t := x.toInt.toNat) (n := S.2.2.1.length) h0 h hv (by omega) (by omega)) (fun w6 pw6 => ?_)
          obtain ⟨hf7, g8, hx9, hv10⟩ := pw6
          have hv10l := hv10.len
          refine z_iconst (v := nI 0) dX13_pastes_71 rfl ?_
          refine z_istore_n (lv' := [(0, .ref (za g b)), (1, .int (nI (x.toInt.toNat))), (2, .int (nI (0)))]) dX13_pastes_72 (by decide) rfl ?_
          have hF0 : fPas S.1.length S.2.2.1.length x.toInt = 0 := by unfold fPas; (repeat' split) <;> omega
          exact loop g8 hF0 hv10 (hv.clipEq hv10 rfl) (S.2.2.1.length + 2) 0 _ _ (by omega) hf7 hx9 (by omega) (fun k hk => by rw [if_neg (by omega)])
        · refine z_aload_n dX13_pastes_54 rfl ?_
          refine z_iconst (v := nI 3) dX13_pastes_55 rfl ?_
          refine z_callR (As := [.int (nI (3))]) (rest := []) (b := b) (ci := 12) (v := some (.int (nI (0)))) (R2 := zR 0 0) dX13_pastes_56 kV_RX13_61 rfl ⟨⟨by decide, by decide⟩, by decide, by decide⟩ (by omega) h.ce rfl rfl rfl (Nat.le_of_ble_eq_true rfl) rfl (c_X13_fail (x := (nI (3))) h0 h) (fun w11 pw11 => ?_)
          obtain ⟨hf12, hx13⟩ := pw11
          refine z_iret dX13_pastes_59 rfl (by decide) (by decide) ?_
          have hF : spF 8 x.toInt 0 0 S = 3 := by simp only [spF]; unfold fPas; (repeat' split) <;> omega
          exact ⟨_, _, _, rfl, hf12, hx13, by rw [hF]; rfl, by rw [if_neg (by rw [hF]; decide)]; exact hv, fun q9 => absurd (hF.symm.trans q9) (by decide)⟩
      · refine z_aload_n dX13_pastes_29 rfl ?_
        refine z_iconst (v := nI 2) dX13_pastes_30 rfl ?_
        refine z_callR (As := [.int (nI (2))]) (rest := []) (b := b) (ci := 12) (v := some (.int (nI (0)))) (R2 := zR 0 0) dX13_pastes_31 kV_RX13_61 rfl ⟨⟨by decide, by decide⟩, by decide, by decide⟩ (by omega) h.ce rfl rfl rfl (Nat.le_of_ble_eq_true rfl) rfl (c_X13_fail (x := (nI (2))) h0 h) (fun w14 pw14 => ?_)
        obtain ⟨hf15, hx16⟩ := pw14
        refine z_iret dX13_pastes_34 rfl (by decide) (by decide) ?_
        have hF : spF 8 x.toInt 0 0 S = 4 := by simp only [spF]; unfold fPas; (repeat' split) <;> omega
        exact ⟨_, _, _, rfl, hf15, hx16, by rw [hF]; rfl, by rw [if_neg (by rw [hF]; decide)]; exact hv, fun q9 => absurd (hF.symm.trans q9) (by decide)⟩
    · exact absurd h_11_3 (by decide)
  · refine z_callSE (As := [.int (x), .int (nI (0)), .int (nI (S.1.length))]) (rest := []) (v := some (.int (nI (0)))) (R2 := zR 0 0) dX13_pastes_8 kS_RX13_57 rfl rfl ⟨⟨by decide, by decide⟩, by decide, by decide⟩ rfl (Nat.le_of_ble_eq_true rfl) rfl (c_X13_isIn_n (x := (x)) (y := (nI (0))) (z := (nI (S.1.length))) h0 (by have q0 := nI_toInt (n := 0) (by omega); have q1 := nI_toInt (n := S.1.length) (by omega); omega)) ?_
    refine z_if_ne_n (a := 0) (tgt := 20) dX13_pastes_11 (by decide) (by omega) (fun h_11_18 => ?_) (fun h_11_18 => ?_)
    · exact absurd h_11_18 (by decide)
    · refine z_aload_n dX13_pastes_14 rfl ?_
      refine z_iconst (v := nI 1) dX13_pastes_15 rfl ?_
      refine z_callR (As := [.int (nI (1))]) (rest := []) (b := b) (ci := 12) (v := some (.int (nI (0)))) (R2 := zR 0 0) dX13_pastes_16 kV_RX13_61 rfl ⟨⟨by decide, by decide⟩, by decide, by decide⟩ (by omega) h.ce rfl rfl rfl (Nat.le_of_ble_eq_true rfl) rfl (c_X13_fail (x := (nI (1))) h0 h) (fun w19 pw19 => ?_)
      obtain ⟨hf20, hx21⟩ := pw19
      refine z_iret dX13_pastes_19 rfl (by decide) (by decide) ?_
      have hF : spF 8 x.toInt 0 0 S = 1 := by simp only [spF]; unfold fPas; (repeat' split) <;> omega
      exact ⟨_, _, _, rfl, hf20, hx21, by rw [hF]; rfl, by rw [if_neg (by rw [hF]; decide)]; exact hv, fun q9 => absurd (hF.symm.trans q9) (by decide)⟩
set_option maxRecDepth 100000 in
set_option maxHeartbeats 4000000 in
theorem c_X13_markerAt {g : zGT} {w : zW} {b : Nat} {th ch ea fa sv tn po en ln kn wr dg : Int32} {fv fb fs fp fh ft fl fi : Nat → Int32} {S : zSt} {x : Int32} (h0 : zG0 g) (h : Mx g w b th ch ea fa sv tn po en ln kn wr dg fv fb fs fp fh ft fl fi) (hv : VS fv S) : zCt g mX13_markerAt (zR 0 0) [.ref (za g b), .int (x)] w (fun o w' => w' = w ∧ ((o = .inl (some (.int (-1))) ∧ uidx x.toInt S.2.1 = -1) ∨ ∃ i, i < S.2.1.length ∧ o = .inl (some (.int (nI i))) ∧ uidx x.toInt S.2.1 = (i : Int) ∧ (S.2.1.getD i 0 : Int) = x.toInt)) := by
  have hb := h.1
  have hl := hv.len
  refine zCt_of (by decide +kernel) h0 [(0, .ref (za g b)), (1, .int (x))] rfl (Nat.le_of_ble_eq_true rfl) ?_
  have loop : ∀ (mm : Nat) (i : Nat), S.2.1.length + 1 - i < mm → (i ≤ S.2.1.length) → (∀ k, k < i → decide ((S.2.1.getD k 0 : Int) = x.toInt) = false) → zTr g mX13_markerAt (zR 0 0) 0 0 2 [(0, .ref (za g b)), (1, .int (x)), (2, .int (nI (i)))] [] w (fun o w' => w' = w ∧ ((o = .inl (some (.int (-1))) ∧ uidx x.toInt S.2.1 = -1) ∨ ∃ i, i < S.2.1.length ∧ o = .inl (some (.int (nI i))) ∧ uidx x.toInt S.2.1 = (i : Int) ∧ (S.2.1.getD i 0 : Int) = x.toInt)) := by
    intro mm
    induction mm with
    | zero => intros; omega
    | succ mm ih =>
      intro i hm him hs
      refine z_iload_n dX13_markerAt_2 rfl ?_
      refine z_aload_n dX13_markerAt_3 rfl ?_
      refine z_getf (j := b) dX13_markerAt_4 kF_RX13_16 rfl (by omega) h.ce rfl ?_
      refine z_iconst (v := nI 1) dX13_markerAt_7 rfl ?_
      refine z_iald_v (j := b + 1) (N := 410) (a := 1) (x := S.2.1.length) (f := fv) dX13_markerAt_8 (by omega) h.r1 (by omega) (by omega) (hv.mks) ?_
      refine z_icmp_ge_n (a := i) (b := S.2.1.length) (tgt := 34) dX13_markerAt_9 (by decide) (by omega) (by omega) (fun h_9_1 => ?_) (fun h_9_1 => ?_)
      · refine z_iconst (v := -1) dX13_markerAt_34 rfl ?_
        refine z_iret dX13_markerAt_35 rfl (by decide) (by decide) ?_
        exact ⟨rfl, Or.inl ⟨rfl, lidx_no (fun k hk => hs k (by omega))⟩⟩
      · have hmk := hv.mo.2.1 i (by omega)
        refine z_aload_n dX13_markerAt_12 rfl ?_
        refine z_getf (j := b) dX13_markerAt_13 kF_RX13_16 rfl (by omega) h.ce rfl ?_
        refine z_sipush (v := nI 204) dX13_markerAt_16 rfl ?_
        refine z_iload_n dX13_markerAt_19 rfl ?_
        refine z_iadd_n (a := 204) (b := i) dX13_markerAt_20 ?_
        refine z_iald_v (j := b + 1) (N := 410) (a := (204) + (i)) (x := S.2.1.getD (i) 0) (f := fv) dX13_markerAt_21 (by omega) h.r1 (by omega) (by omega) (hv.mark (by omega)) ?_
        refine z_iload_n dX13_markerAt_22 rfl ?_
        have hk3 := nI_toInt (n := S.2.1.getD (i) 0) (by omega)
        refine z_icmp_ne_z (tgt := 28) dX13_markerAt_23 (by decide) (fun h_23_2 => ?_) (fun h_23_2 => ?_)
        · refine z_iinc_n (n := 1) (a := i) (lv' := [(0, .ref (za g b)), (1, .int (x)), (2, .int (nI (i + 1)))]) dX13_markerAt_28 rfl (by decide) rfl ?_
          refine z_goto (tgt := 2) dX13_markerAt_31 (by decide) ?_
          refine ih (i + 1) (by omega) (by omega) (fun k hk => ?_)
          by_cases c : k = i
          · rw [c]; exact decide_eq_false (by omega)
          · exact hs k (by omega)
        · refine z_iload_n dX13_markerAt_26 rfl ?_
          refine z_iret dX13_markerAt_27 rfl (by decide) (by decide) ?_
          exact ⟨rfl, Or.inr ⟨i, by omega, rfl, lidx_hit (by omega) hs (decide_eq_true (by omega)), by omega⟩⟩
  refine z_iconst (v := nI 0) dX13_markerAt_0 rfl ?_
  refine z_istore_n (lv' := [(0, .ref (za g b)), (1, .int (x)), (2, .int (nI (0)))]) dX13_markerAt_1 (by decide) rfl ?_
  exact loop (S.2.1.length + 2) 0 (by omega) (Nat.zero_le _) (fun k hk => absurd hk (Nat.not_lt_zero k))
set_option maxRecDepth 100000 in
set_option maxHeartbeats 4000000 in
theorem c_X13_dropsMarker {g : zGT} {w : zW} {b : Nat} {th ch ea fa sv tn po en ln kn wr dg : Int32} {fv fb fs fp fh ft fl fi : Nat → Int32} {S : zSt} {d : Nat} (h0 : zG0 g) (h : Mx g w b th ch ea fa sv tn po en ln kn wr dg fv fb fs fp fh ft fl fi) (hv : VS fv S) (hd : d < S.2.1.length) : zCt g mX13_dropsMarker (zR 0 0) [.ref (za g b), .int (nI (d))] w (fun o w' => o = .inl none ∧ zFr w w' b (b + 11) ∧ ∃ f', Mx g w' b th ch ea fa sv tn po en ln kn wr dg (f') fb fs fp fh ft fl fi ∧ VS f' (S.1, S.2.1.eraseIdx d, S.2.2)) := by
  have hb := h.1
  have hl := hv.len
  refine zCt_of (by decide +kernel) h0 [(0, .ref (za g b)), (1, .int (nI (d)))] rfl (Nat.le_of_ble_eq_true rfl) ?_
  have loop : ∀ (mm : Nat) (i : Nat) (wi : zW) (f9 : Nat → Int32), S.2.1.length - i < mm → (zFr w wi b (b + 11)) → (Mx g wi b th ch ea fa sv tn po en ln kn wr dg f9 fb fs fp fh ft fl fi) → (d ≤ i) → (i ≤ S.2.1.length - 1) → (∀ k, k < 410 → f9 k = (if 204 + d ≤ k ∧ k < 204 + i then fv (k + 1) else fv k)) → zTr g mX13_dropsMarker (zR 0 0) 0 0 2 [(0, .ref (za g b)), (1, .int (nI (d))), (2, .int (nI (i)))] [] wi (fun o w' => o = .inl none ∧ zFr w w' b (b + 11) ∧ ∃ f', Mx g w' b th ch ea fa sv tn po en ln kn wr dg (f') fb fs fp fh ft fl fi ∧ VS f' (S.1, S.2.1.eraseIdx d, S.2.2)) := by
    intro mm
    induction mm with
    | zero => intros; omega
    | succ mm ih =>
      intro i wi f9 hm hfi hmi hdi him hi
      refine z_iload_n dX13_dropsMarker_2 rfl ?_
      refine z_aload_n dX13_dropsMarker_3 rfl ?_
      refine z_getf (j := b) dX13_dropsMarker_4 kF_RX13_16 rfl (by omega) hmi.ce rfl ?_
      refine z_iconst (v := nI 1) dX13_dropsMarker_7 rfl ?_
      refine z_iald_v (j := b + 1) (N := 410) (a := 1) (x := S.2.1.length) (f := f9) dX13_dropsMarker_8 (by omega) hmi.r1 (by omega) (by omega) (by rw [hi _ (by omega), if_neg (by omega)]; exact hv.mks) ?_
      refine z_iconst (v := nI 1) dX13_dropsMarker_9 rfl ?_
      refine z_isub_n (a := S.2.1.length) (b := 1) dX13_dropsMarker_10 (by omega) ?_
      refine z_icmp_ge_n (a := i) (b := (S.2.1.length) - (1)) (tgt := 42) dX13_dropsMarker_11 (by decide) (by omega) (by omega) (fun h_11_1 => ?_) (fun h_11_1 => ?_)
      · refine z_aload_n dX13_dropsMarker_42 rfl ?_
        refine z_getf (j := b) dX13_dropsMarker_43 kF_RX13_16 rfl (by omega) hmi.ce rfl ?_
        refine z_iconst (v := nI 1) dX13_dropsMarker_46 rfl ?_
        refine z_dup2 dX13_dropsMarker_47 rfl rfl ?_
        refine z_iald_v (j := b + 1) (N := 410) (a := 1) (x := S.2.1.length) (f := f9) dX13_dropsMarker_48 (by omega) hmi.r1 (by omega) (by omega) (by rw [hi _ (by omega), if_neg (by omega)]; exact hv.mks) ?_
        refine z_iconst (v := nI 1) dX13_dropsMarker_49 rfl ?_
        refine z_isub_n (a := S.2.1.length) (b := 1) dX13_dropsMarker_50 (by omega) ?_
        refine z_iast_n (j := b + 1) (N := 410) (a := 1) (f := f9) dX13_dropsMarker_51 (by omega) hmi.r1 (by omega) (by omega) ?_
        obtain ⟨w2, ew3⟩ : ∃ wz : zW, wz = va_up wi (b + 1) (zI g 410 (upd (f9) (1) ((nI ((S.2.1.length) - (1)))))) := ⟨_, rfl⟩
        refine z_weq (w' := w2) ew3.symm ?_
        have hf4 : zFr wi w2 (b + 1) (b + 1 + 1) := by rw [ew3]; exact zFr.up (by omega)
        have hw5 : w2 (b + 1) = zI g 410 (upd (f9) (1) ((nI ((S.2.1.length) - (1))))) := by rw [ew3, zup_s]
        have hx6 := hmi.setV hf4 hw5
        refine z_aload_n dX13_dropsMarker_52 rfl ?_
        refine z_getf (j := b) dX13_dropsMarker_53 kF_RX13_16 rfl (by omega) hx6.ce rfl ?_
        refine z_sipush (v := nI 204) dX13_dropsMarker_56 rfl ?_
        refine z_aload_n dX13_dropsMarker_59 rfl ?_
        refine z_getf (j := b) dX13_dropsMarker_60 kF_RX13_16 rfl (by omega) hx6.ce rfl ?_
        refine z_iconst (v := nI 1) dX13_dropsMarker_63 rfl ?_
        refine z_iald_v (j := b + 1) (N := 410) (a := 1) (x := (S.2.1.length) - (1)) (f := upd (f9) (1) ((nI ((S.2.1.length) - (1))))) dX13_dropsMarker_64 (by omega) hx6.r1 (by omega) (by omega) (by simp [upd]) ?_
        refine z_iadd_n (a := 204) (b := (S.2.1.length) - (1)) dX13_dropsMarker_65 ?_
        refine z_iconst (v := nI 0) dX13_dropsMarker_66 rfl ?_
        refine z_iast_n (j := b + 1) (N := 410) (a := (204) + ((S.2.1.length) - (1))) (f := upd (f9) (1) ((nI ((S.2.1.length) - (1))))) dX13_dropsMarker_67 (by omega) hx6.r1 (by omega) (by omega) ?_
        obtain ⟨w7, ew8⟩ : ∃ wz : zW, wz = va_up w2 (b + 1) (zI g 410 (upd (upd (f9) (1) ((nI ((S.2.1.length) - (1))))) ((204) + ((S.2.1.length) - (1))) ((nI (0))))) := ⟨_, rfl⟩
        refine z_weq (w' := w7) ew8.symm ?_
        have hf9 : zFr w2 w7 (b + 1) (b + 1 + 1) := by rw [ew8]; exact zFr.up (by omega)
        have hw10 : w7 (b + 1) = zI g 410 (upd (upd (f9) (1) ((nI ((S.2.1.length) - (1))))) ((204) + ((S.2.1.length) - (1))) ((nI (0)))) := by rw [ew8, zup_s]
        have hx11 := hx6.setV hf9 hw10
        refine z_vret dX13_dropsMarker_68 rfl (by decide) (by decide) ?_
        refine ⟨rfl, hfi.tr ((hf4.wk (by omega) (by omega)).tr (hf9.wk (by omega) (by omega))), _, hx11, ?_⟩
        have hle : (S.2.1.eraseIdx d).length = S.2.1.length - 1 := by rw [List.length_eraseIdx]; simp [hd]
        refine hv.mkM ?_ ?_ ?_ ?_ (fun k hk => ?_) (fun m hm => ?_) (fun k hk => ?_) (hv.mo.erase hd)
        · simp only [upd]; rw [if_neg (by omega), if_neg (by omega), hi _ (by omega), if_neg (by omega)]
        · simp only [upd]; rw [if_neg (by omega), if_pos trivial, hle]
        · simp only [upd]; rw [if_neg (by omega), if_neg (by omega), hi _ (by omega), if_neg (by omega)]
        · simp only [upd]; rw [if_neg (by omega), if_neg (by omega), hi _ (by omega), if_neg (by omega)]
        · simp only [upd]; rw [if_neg (by omega), if_neg (by omega), hi _ (by omega), if_neg (by omega)]
        · rw [hle] at hm
          simp only [upd]; rw [if_neg (by omega), if_neg (by omega), hi _ (by omega), gD_erase]
          by_cases c : m < d
          · rw [if_neg (by omega), if_pos c]; exact hv.mark (by omega)
          · rw [if_pos (by omega), if_neg c]; exact hv.mark (m := m + 1) (by omega)
        · simp only [upd]; rw [if_neg (by omega), if_neg (by omega), hi _ (by omega), if_neg (by omega)]
      · refine z_aload_n dX13_dropsMarker_14 rfl ?_
        refine z_getf (j := b) dX13_dropsMarker_15 kF_RX13_16 rfl (by omega) hmi.ce rfl ?_
        refine z_sipush (v := nI 204) dX13_dropsMarker_18 rfl ?_
        refine z_iload_n dX13_dropsMarker_21 rfl ?_
        refine z_iadd_n (a := 204) (b := i) dX13_dropsMarker_22 ?_
        refine z_aload_n dX13_dropsMarker_23 rfl ?_
        refine z_getf (j := b) dX13_dropsMarker_24 kF_RX13_16 rfl (by omega) hmi.ce rfl ?_
        refine z_sipush (v := nI 204) dX13_dropsMarker_27 rfl ?_
        refine z_iload_n dX13_dropsMarker_30 rfl ?_
        refine z_iadd_n (a := 204) (b := i) dX13_dropsMarker_31 ?_
        refine z_iconst (v := nI 1) dX13_dropsMarker_32 rfl ?_
        refine z_iadd_n (a := (204) + (i)) (b := 1) dX13_dropsMarker_33 ?_
        refine z_iald_n (j := b + 1) (N := 410) (a := ((204) + (i)) + (1)) (f := f9) dX13_dropsMarker_34 (by omega) hmi.r1 (by omega) (by omega) ?_
        refine z_iast_n (j := b + 1) (N := 410) (a := (204) + (i)) (f := f9) dX13_dropsMarker_35 (by omega) hmi.r1 (by omega) (by omega) ?_
        obtain ⟨w12, ew13⟩ : ∃ wz : zW, wz = va_up wi (b + 1) (zI g 410 (upd (f9) ((204) + (i)) (((f9) (((204) + (i)) + (1)))))) := ⟨_, rfl⟩
        refine z_weq (w' := w12) ew13.symm ?_
        have hf14 : zFr wi w12 (b + 1) (b + 1 + 1) := by rw [ew13]; exact zFr.up (by omega)
        have hw15 : w12 (b + 1) = zI g 410 (upd (f9) ((204) + (i)) (((f9) (((204) + (i)) + (1))))) := by rw [ew13, zup_s]
        have hx16 := hmi.setV hf14 hw15
        refine z_iinc_n (n := 1) (a := i) (lv' := [(0, .ref (za g b)), (1, .int (nI (d))), (2, .int (nI (i + 1)))]) dX13_dropsMarker_36 rfl (by decide) rfl ?_
        refine z_goto (tgt := 2) dX13_dropsMarker_39 (by decide) ?_
        refine ih (i + 1) _ _ (by omega) (hfi.tr (hf14.wk (by omega) (by omega))) hx16 (by omega) (by omega) (fun k hk => ?_)
        simp only [upd]
        by_cases c : k = 204 + i
        · rw [if_pos c, c]; rw [if_pos (by omega), hi _ (by omega), if_neg (by omega)]
        · rw [if_neg c, hi k hk]
          (repeat' split) <;> first | rfl | (exfalso; omega)
  refine z_iload_n dX13_dropsMarker_0 rfl ?_
  refine z_istore_n (lv' := [(0, .ref (za g b)), (1, .int (nI (d))), (2, .int (nI (d)))]) dX13_dropsMarker_1 (by decide) rfl ?_
  exact loop (S.2.1.length + 1) d w fv (by omega) zFr.rf h (Nat.le_refl _) (by omega) (fun k hk => by rw [if_neg (by omega)])
set_option maxRecDepth 100000 in
set_option maxHeartbeats 4000000 in
theorem c_X13_unmarks {g : zGT} {w : zW} {b : Nat} {th ch ea fa sv tn po en ln kn wr dg : Int32} {fv fb fs fp fh ft fl fi : Nat → Int32} {S : zSt} {x : Int32} (h0 : zG0 g) (h : Mx g w b th ch ea fa sv tn po en ln kn wr dg fv fb fs fp fh ft fl fi) (hv : VS fv S) : zCt g mX13_unmarks (zR 1 0) [.ref (za g b), .int (x)] w (fun o w' => ∃ th' f' r, o = .inl (some (.int r)) ∧ zFr w w' b (b + 11) ∧ Mx g w' b (th') ch ea fa sv tn po en ln kn wr dg (f') fb fs fp fh ft fl fi ∧ th' = (if spF 10 x.toInt 0 0 S = 0 then th else nI (plc 10 (spF 10 x.toInt 0 0 S))) ∧ VS f' (if spF 10 x.toInt 0 0 S = 0 then spS 10 x.toInt 0 0 S else S) ∧ (spF 10 x.toInt 0 0 S = 0 → r = nI (spA 10 x.toInt 0 0 S))) := by
  have hb := h.1
  have hl := hv.len
  refine zCt_of (by decide +kernel) h0 [(0, .ref (za g b)), (1, .int (x))] rfl (Nat.le_of_ble_eq_true rfl) ?_
  refine z_aload_n dX13_unmarks_0 rfl ?_
  refine z_iload_n dX13_unmarks_1 rfl ?_
  refine z_callV (As := [.int (x)]) (rest := []) (b := b) (ci := 12) (R2 := zR 0 0) dX13_unmarks_2 kV_RX13_90 rfl ⟨⟨by decide, by decide⟩, by decide, by decide⟩ (by omega) h.ce rfl rfl rfl (Nat.le_of_ble_eq_true rfl) rfl (c_X13_markerAt (x := (x)) h0 h hv) (fun E w1 h => by rcases h with ⟨-, ⟨e, -⟩ | ⟨r, -, e, -⟩⟩ <;> cases e) (fun v1 w2 h3 => ?_)
  rcases h3 with ⟨ew, ⟨ev, e9⟩ | ⟨d, hd, ev, e9, e8⟩⟩
  · subst ew
    cases ev
    refine z_istore_n (lv' := [(0, .ref (za g b)), (1, .int (x)), (2, .int (-1))]) dX13_unmarks_5 (by decide) rfl ?_
    refine z_iload_n dX13_unmarks_6 rfl ?_
    refine z_if_ge_z (tgt := 12) dX13_unmarks_7 (by decide) (fun h_7_4 => ?_) (fun h_7_4 => ?_)
    · (have q9 := h_7_4; rw [show (-1 : Int32).toInt = -1 from rfl] at q9; omega)
    · refine z_iconst (v := nI 0) dX13_unmarks_10 rfl ?_
      refine z_iret dX13_unmarks_11 rfl (by decide) (by decide) ?_
      exact ⟨_, _, _, rfl, zFr.rf, h, rfl, (by show VS _ (S.1, (if uidx x.toInt S.2.1 < 0 then S.2.1 else S.2.1.eraseIdx (uidx x.toInt S.2.1).toNat), S.2.2); rw [if_pos (show uidx x.toInt S.2.1 < 0 by omega)]; exact hv), fun _ => by show _ = nI (if uidx x.toInt S.2.1 < 0 then 0 else 1); rw [if_pos (show uidx x.toInt S.2.1 < 0 by omega)]⟩
  · subst ew
    cases ev
    refine z_istore_n (lv' := [(0, .ref (za g b)), (1, .int (x)), (2, .int (nI (d)))]) dX13_unmarks_5 (by decide) rfl ?_
    refine z_iload_n dX13_unmarks_6 rfl ?_
    refine z_if_ge_n (a := d) dX13_unmarks_7 12 (by decide) (by omega) ?_
    refine z_aload_n dX13_unmarks_12 rfl ?_
    refine z_iload_n dX13_unmarks_13 rfl ?_
    refine z_callR (As := [.int (nI (d))]) (rest := []) (b := b) (ci := 12) (v := none) (R2 := zR 0 0) dX13_unmarks_14 kV_RX13_93 rfl ⟨⟨by decide, by decide⟩, by decide, by decide⟩ (by omega) h.ce rfl rfl rfl (Nat.le_of_ble_eq_true rfl) rfl (c_X13_dropsMarker (d := d) h0 h hv (by omega)) (fun w6 pw6 => ?_)
    obtain ⟨hf7, g8, hx9, hv10⟩ := pw6
    refine z_iconst (v := nI 1) dX13_unmarks_17 rfl ?_
    refine z_iret dX13_unmarks_18 rfl (by decide) (by decide) ?_
    exact ⟨_, _, _, rfl, hf7, hx9, rfl, (by show VS _ (S.1, (if uidx x.toInt S.2.1 < 0 then S.2.1 else S.2.1.eraseIdx (uidx x.toInt S.2.1).toNat), S.2.2); rw [if_neg (show ¬ uidx x.toInt S.2.1 < 0 by omega), e9, Int.toNat_natCast]; exact hv10), fun _ => by show _ = nI (if uidx x.toInt S.2.1 < 0 then 0 else 1); rw [if_neg (show ¬ uidx x.toInt S.2.1 < 0 by omega)]⟩
