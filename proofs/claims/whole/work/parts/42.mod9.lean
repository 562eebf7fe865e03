/-! the reference: bars, going back, the input's ends -/
set_option maxRecDepth 100000 in
set_option maxHeartbeats 4000000 in
theorem c_X13_loudestBar {g : zGT} {w : zW} {b : Nat} {S : zSt} {Hs : List zSt} {Sn : Option zSt} {I O : List Nat} {ep fc : Int32} {t : Nat}  (h0 : zG0 g) (hq : Mq g w b (S) (Hs) (Sn) (I) (O) (ep) (fc) (t)) : zCt g mX13_loudestBar (zR 4 0) [.ref (za g b)] w (fun o w' => o = .inl (some (.int (nI (loudB S S.2.1.length)))) ∧ zFr w w' b (b + 11) ∧ Mq g w' b (S) (Hs) (Sn) (I) (O) (ep) (fc) (0)) := by
  obtain ⟨po, en, kn, wr, dg, fv, fb, fs, fp, fh, ft, fl, fi, h, hv, hp, hsn, htx, hou, hep⟩ := hq
  have hb := h.1
  have hl := hv.len
  refine zCt_of (by decide +kernel) h0 [(0, .ref (za g b))] rfl (Nat.le_of_ble_eq_true rfl) ?_
  have loop : ∀ (wi : zW), zFr w wi b (b + 11) → Mx g wi b (nI 0) (nI Hs.length) ep fc (nI (if Sn.isSome then 1 else 0)) (nI I.length) po en (nI O.length) kn wr dg fv fb fs fp fh ft fl fi → ∀ (mm : Nat) (i q : Nat), S.2.1.length + 2 - i < mm → (1 ≤ i) → (i ≤ S.2.1.length + 1) → (q = loudB S (i - 1)) → zTr g mX13_loudestBar (zR 4 0) 0 0 9 [(0, .ref (za g b)), (1, .int (nI (q))), (2, .int (nI (i)))] [] wi (fun o w' => o = .inl (some (.int (nI (loudB S S.2.1.length)))) ∧ zFr w w' b (b + 11) ∧ Mq g w' b (S) (Hs) (Sn) (I) (O) (ep) (fc) (0)) := by
    intro wi hfi hmi 
    intro mm
    induction mm with
    | zero => intros; omega
    | succ mm ih =>
      intro i q hm hi1 hin hq
      have hql := loudB_le (S := S) (k := i - 1)
      rw [← hq] at hql
      refine z_iload_n dX13_loudestBar_9 rfl ?_
      refine z_aload_n dX13_loudestBar_10 rfl ?_
      refine z_getf (j := b) dX13_loudestBar_11 kF_RX13_16 rfl (by omega) hmi.ce rfl ?_
      refine z_iconst (v := nI 1) dX13_loudestBar_14 rfl ?_
      refine z_iald_v (j := b + 1) (N := 410) (a := 1) (x := S.2.1.length) (f := fv) dX13_loudestBar_15 (by omega) hmi.r1 (by omega) (by omega) (hv.mks) ?_
      refine z_icmp_gt_n (a := i) (b := S.2.1.length) (tgt := 97) dX13_loudestBar_16 (by decide) (by omega) (by omega) (fun h_16_1 => ?_) (fun h_16_1 => ?_)
      · refine z_iload_n dX13_loudestBar_97 rfl ?_
        refine z_iret dX13_loudestBar_98 rfl (by decide) (by decide) ?_
        have hi9 : i = S.2.1.length + 1 := by omega
        subst hi9
        rw [Nat.add_sub_cancel] at hq
        subst hq
        exact ⟨rfl, hfi, ⟨_, _, _, _, _, _, _, _, _, _, _, _, _, hmi, hv, hp, hsn, htx, hou, hep⟩⟩
      · have hb_i := hv.mo.bar (j := i) (by omega)
        have hs_i := tsum_le (F := (gT S.1)) (p := barA S.2.1 i) (c := 9) (m := barB S.2.1 S.1.length i - barA S.2.1 i) (fun k _ _ => hv.le k)
        have he_i : bsF S i = tsum (gT S.1) (barA S.2.1 i) (barB S.2.1 S.1.length i - barA S.2.1 i) := rfl
        have hl_i : blF S i = barB S.2.1 S.1.length i - barA S.2.1 i := rfl
        have hb_q := hv.mo.bar (j := q) (by omega)
        have hs_q := tsum_le (F := (gT S.1)) (p := barA S.2.1 q) (c := 9) (m := barB S.2.1 S.1.length q - barA S.2.1 q) (fun k _ _ => hv.le k)
        have he_q : bsF S q = tsum (gT S.1) (barA S.2.1 q) (barB S.2.1 S.1.length q - barA S.2.1 q) := rfl
        have hl_q : blF S q = barB S.2.1 S.1.length q - barA S.2.1 q := rfl
        refine z_aload_n dX13_loudestBar_19 rfl ?_
        refine z_aload_n dX13_loudestBar_20 rfl ?_
        refine z_iload_n dX13_loudestBar_21 rfl ?_
        refine z_callE (As := [.int (nI (i))]) (rest := [.ref (za g b)]) (b := b) (ci := 12) (v := some (.int (nI (barA S.2.1 (i))))) (R2 := zR 3 0) dX13_loudestBar_22 kV_RX13_172 rfl ⟨⟨by decide, by decide⟩, by decide, by decide⟩ (by omega) hmi.ce rfl rfl rfl (Nat.le_of_ble_eq_true rfl) rfl (c_X13_barFrom (j := i) h0 hmi hv (by omega)) ?_
        refine z_aload_n dX13_loudestBar_25 rfl ?_
        refine z_iload_n dX13_loudestBar_26 rfl ?_
        refine z_callE (As := [.int (nI (i))]) (rest := [.int (nI (barA S.2.1 (i))), .ref (za g b)]) (b := b) (ci := 12) (v := some (.int (nI (barB S.2.1 S.1.length (i))))) (R2 := zR 3 0) dX13_loudestBar_27 kV_RX13_169 rfl ⟨⟨by decide, by decide⟩, by decide, by decide⟩ (by omega) hmi.ce rfl rfl rfl (Nat.le_of_ble_eq_true rfl) rfl (c_X13_barTo (j := i) h0 hmi hv (by omega)) ?_
        refine z_callE (As := [.int (nI (barA S.2.1 (i))), .int (nI (barB S.2.1 S.1.length (i)))]) (rest := []) (b := b) (ci := 12) (v := some (.int (nI (tsum (gT S.1) (barA S.2.1 (i)) ((barB S.2.1 S.1.length (i)) - (barA S.2.1 (i))))))) (R2 := zR 3 0) dX13_loudestBar_30 kV_RX13_144 rfl ⟨⟨by decide, by decide⟩, by decide, by decide⟩ (by omega) hmi.ce rfl rfl rfl (Nat.le_of_ble_eq_true rfl) rfl (c_X13_sum (p := barA S.2.1 (i)) (q := barB S.2.1 S.1.length (i)) h0 hmi hv (by omega) (by omega)) ?_
        refine z_aload_n dX13_loudestBar_33 rfl ?_
        refine z_aload_n dX13_loudestBar_34 rfl ?_
        refine z_iload_n dX13_loudestBar_35 rfl ?_
        refine z_callE (As := [.int (nI (q))]) (rest := [.ref (za g b), .int (nI (tsum (gT S.1) (barA S.2.1 (i)) ((barB S.2.1 S.1.length (i)) - (barA S.2.1 (i)))))]) (b := b) (ci := 12) (v := some (.int (nI (barA S.2.1 (q))))) (R2 := zR 3 0) dX13_loudestBar_36 kV_RX13_172 rfl ⟨⟨by decide, by decide⟩, by decide, by decide⟩ (by omega) hmi.ce rfl rfl rfl (Nat.le_of_ble_eq_true rfl) rfl (c_X13_barFrom (j := q) h0 hmi hv (by omega)) ?_
        refine z_aload_n dX13_loudestBar_39 rfl ?_
        refine z_iload_n dX13_loudestBar_40 rfl ?_
        refine z_callE (As := [.int (nI (q))]) (rest := [.int (nI (barA S.2.1 (q))), .ref (za g b), .int (nI (tsum (gT S.1) (barA S.2.1 (i)) ((barB S.2.1 S.1.length (i)) - (barA S.2.1 (i)))))]) (b := b) (ci := 12) (v := some (.int (nI (barB S.2.1 S.1.length (q))))) (R2 := zR 3 0) dX13_loudestBar_41 kV_RX13_169 rfl ⟨⟨by decide, by decide⟩, by decide, by decide⟩ (by omega) hmi.ce rfl rfl rfl (Nat.le_of_ble_eq_true rfl) rfl (c_X13_barTo (j := q) h0 hmi hv (by omega)) ?_
        refine z_callE (As := [.int (nI (barA S.2.1 (q))), .int (nI (barB S.2.1 S.1.length (q)))]) (rest := [.int (nI (tsum (gT S.1) (barA S.2.1 (i)) ((barB S.2.1 S.1.length (i)) - (barA S.2.1 (i)))))]) (b := b) (ci := 12) (v := some (.int (nI (tsum (gT S.1) (barA S.2.1 (q)) ((barB S.2.1 S.1.length (q)) - (barA S.2.1 (q))))))) (R2 := zR 3 0) dX13_loudestBar_44 kV_RX13_144 rfl ⟨⟨by decide, by decide⟩, by decide, by decide⟩ (by omega) hmi.ce rfl rfl rfl (Nat.le_of_ble_eq_true rfl) rfl (c_X13_sum (p := barA S.2.1 (q)) (q := barB S.2.1 S.1.length (q)) h0 hmi hv (by omega) (by omega)) ?_
        refine z_isub dX13_loudestBar_47 ?_
        refine z_istore_n (lv' := [(0, .ref (za g b)), (1, .int (nI (q))), (2, .int (nI (i))), (3, .int ((nI (tsum (gT S.1) (barA S.2.1 (i)) ((barB S.2.1 S.1.length (i)) - (barA S.2.1 (i))))) - (nI (tsum (gT S.1) (barA S.2.1 (q)) ((barB S.2.1 S.1.length (q)) - (barA S.2.1 (q)))))))]) dX13_loudestBar_48 (by decide) rfl ?_
        have hz1 := pk_sub_toInt (a := tsum (gT S.1) (barA S.2.1 i) (barB S.2.1 S.1.length i - barA S.2.1 i)) (b := tsum (gT S.1) (barA S.2.1 q) (barB S.2.1 S.1.length q - barA S.2.1 q)) (by omega) (by omega)
        refine z_iload_n dX13_loudestBar_49 rfl ?_
        refine z_if_eq_z (tgt := 57) dX13_loudestBar_50 (by decide) (fun h_50_8 => ?_) (fun h_50_8 => ?_)
        · refine z_aload_n dX13_loudestBar_57 rfl ?_
          refine z_iload_n dX13_loudestBar_58 rfl ?_
          refine z_callE (As := [.int (nI (i))]) (rest := []) (b := b) (ci := 12) (v := some (.int (nI (barB S.2.1 S.1.length (i))))) (R2 := zR 3 0) dX13_loudestBar_59 kV_RX13_169 rfl ⟨⟨by decide, by decide⟩, by decide, by decide⟩ (by omega) hmi.ce rfl rfl rfl (Nat.le_of_ble_eq_true rfl) rfl (c_X13_barTo (j := i) h0 hmi hv (by omega)) ?_
          refine z_aload_n dX13_loudestBar_62 rfl ?_
          refine z_iload_n dX13_loudestBar_63 rfl ?_
          refine z_callE (As := [.int (nI (i))]) (rest := [.int (nI (barB S.2.1 S.1.length (i)))]) (b := b) (ci := 12) (v := some (.int (nI (barA S.2.1 (i))))) (R2 := zR 3 0) dX13_loudestBar_64 kV_RX13_172 rfl ⟨⟨by decide, by decide⟩, by decide, by decide⟩ (by omega) hmi.ce rfl rfl rfl (Nat.le_of_ble_eq_true rfl) rfl (c_X13_barFrom (j := i) h0 hmi hv (by omega)) ?_
          refine z_isub_n (a := barB S.2.1 S.1.length (i)) (b := barA S.2.1 (i)) dX13_loudestBar_67 (by omega) ?_
          refine z_aload_n dX13_loudestBar_68 rfl ?_
          refine z_iload_n dX13_loudestBar_69 rfl ?_
          refine z_callE (As := [.int (nI (q))]) (rest := [.int (nI ((barB S.2.1 S.1.length (i)) - (barA S.2.1 (i))))]) (b := b) (ci := 12) (v := some (.int (nI (barB S.2.1 S.1.length (q))))) (R2 := zR 3 0) dX13_loudestBar_70 kV_RX13_169 rfl ⟨⟨by decide, by decide⟩, by decide, by decide⟩ (by omega) hmi.ce rfl rfl rfl (Nat.le_of_ble_eq_true rfl) rfl (c_X13_barTo (j := q) h0 hmi hv (by omega)) ?_
          refine z_isub dX13_loudestBar_73 ?_
          refine z_aload_n dX13_loudestBar_74 rfl ?_
          refine z_iload_n dX13_loudestBar_75 rfl ?_
          refine z_callE (As := [.int (nI (q))]) (rest := [.int ((nI ((barB S.2.1 S.1.length (i)) - (barA S.2.1 (i)))) - (nI (barB S.2.1 S.1.length (q))))]) (b := b) (ci := 12) (v := some (.int (nI (barA S.2.1 (q))))) (R2 := zR 3 0) dX13_loudestBar_76 kV_RX13_172 rfl ⟨⟨by decide, by decide⟩, by decide, by decide⟩ (by omega) hmi.ce rfl rfl rfl (Nat.le_of_ble_eq_true rfl) rfl (c_X13_barFrom (j := q) h0 hmi hv (by omega)) ?_
          refine z_iadd dX13_loudestBar_79 ?_
          have hz2 := pk_sub_toInt (a := barB S.2.1 S.1.length i - barA S.2.1 i) (b := barB S.2.1 S.1.length q) (by omega) (by omega)
          have hz4 := nI_toInt (n := barA S.2.1 q) (by omega)
          have hz3 : (nI (barB S.2.1 S.1.length i - barA S.2.1 i) - nI (barB S.2.1 S.1.length q) + nI (barA S.2.1 q)).toInt = (((barB S.2.1 S.1.length i - barA S.2.1 i : Nat) : Int) - (barB S.2.1 S.1.length q : Nat)) + (barA S.2.1 q : Nat) := by rw [← hz4, ← hz2]; exact i_add (by omega) (by omega)
          refine z_istore_n (lv' := [(0, .ref (za g b)), (1, .int (nI (q))), (2, .int (nI (i))), (3, .int (((nI ((barB S.2.1 S.1.length (i)) - (barA S.2.1 (i)))) - (nI (barB S.2.1 S.1.length (q)))) + (nI (barA S.2.1 (q)))))]) dX13_loudestBar_80 (by decide) rfl ?_
          refine z_iload_n dX13_loudestBar_81 rfl ?_
          refine z_if_le_z (tgt := 89) dX13_loudestBar_82 (by decide) (fun h_82_13 => ?_) (fun h_82_13 => ?_)
          · refine z_iload_n dX13_loudestBar_89 rfl ?_
            refine z_istore_n (lv' := [(0, .ref (za g b)), (1, .int (nI (q))), (2, .int (nI (i))), (3, .int (((nI ((barB S.2.1 S.1.length (i)) - (barA S.2.1 (i)))) - (nI (barB S.2.1 S.1.length (q)))) + (nI (barA S.2.1 (q)))))]) dX13_loudestBar_90 (by decide) rfl ?_
            refine z_iinc_n (n := 1) (a := i) (lv' := [(0, .ref (za g b)), (1, .int (nI (q))), (2, .int (nI (i + 1))), (3, .int (((nI ((barB S.2.1 S.1.length (i)) - (barA S.2.1 (i)))) - (nI (barB S.2.1 S.1.length (q)))) + (nI (barA S.2.1 (q)))))]) dX13_loudestBar_91 rfl (by decide) rfl ?_
            refine z_goto (tgt := 9) dX13_loudestBar_94 (by decide) ?_
            have eW : loudB S i = q := by
              obtain ⟨j, rfl⟩ : ∃ j, i = j + 1 := ⟨i - 1, by omega⟩
              rw [Nat.add_sub_cancel] at hq
              rw [loudB_n (by rw [← hq]; unfold louder; omega), hq]
            refine z_sub (lv' := [(0, .ref (za g b)), (1, .int (nI (q))), (2, .int (nI (i + 1)))]) [0, 1, 2] rfl ?_
            refine ih (i + 1) q (by omega) (by omega) (by omega) ?_
            rw [Nat.add_sub_cancel]; exact eW.symm
          · refine z_iload_n dX13_loudestBar_85 rfl ?_
            refine z_goto (tgt := 90) dX13_loudestBar_86 (by decide) ?_
            refine z_istore_n (lv' := [(0, .ref (za g b)), (1, .int (nI (i))), (2, .int (nI (i))), (3, .int (((nI ((barB S.2.1 S.1.length (i)) - (barA S.2.1 (i)))) - (nI (barB S.2.1 S.1.length (q)))) + (nI (barA S.2.1 (q)))))]) dX13_loudestBar_90 (by decide) rfl ?_
            refine z_iinc_n (n := 1) (a := i) (lv' := [(0, .ref (za g b)), (1, .int (nI (i))), (2, .int (nI (i + 1))), (3, .int (((nI ((barB S.2.1 S.1.length (i)) - (barA S.2.1 (i)))) - (nI (barB S.2.1 S.1.length (q)))) + (nI (barA S.2.1 (q)))))]) dX13_loudestBar_91 rfl (by decide) rfl ?_
            refine z_goto (tgt := 9) dX13_loudestBar_94 (by decide) ?_
            have eW : loudB S i = i := by
              obtain ⟨j, rfl⟩ : ∃ j, i = j + 1 := ⟨i - 1, by omega⟩
              rw [Nat.add_sub_cancel] at hq
              rw [loudB_y (by rw [← hq]; unfold louder; omega)]
            refine z_sub (lv' := [(0, .ref (za g b)), (1, .int (nI (i))), (2, .int (nI (i + 1)))]) [0, 1, 2] rfl ?_
            refine ih (i + 1) i (by omega) (by omega) (by omega) ?_
            rw [Nat.add_sub_cancel]; exact eW.symm
        · refine z_iload_n dX13_loudestBar_53 rfl ?_
          refine z_goto (tgt := 80) dX13_loudestBar_54 (by decide) ?_
          have hz2 := pk_sub_toInt (a := barB S.2.1 S.1.length i - barA S.2.1 i) (b := barB S.2.1 S.1.length q) (by omega) (by omega)
          have hz4 := nI_toInt (n := barA S.2.1 q) (by omega)
          have hz3 : (nI (barB S.2.1 S.1.length i - barA S.2.1 i) - nI (barB S.2.1 S.1.length q) + nI (barA S.2.1 q)).toInt = (((barB S.2.1 S.1.length i - barA S.2.1 i : Nat) : Int) - (barB S.2.1 S.1.length q : Nat)) + (barA S.2.1 q : Nat) := by rw [← hz4, ← hz2]; exact i_add (by omega) (by omega)
          refine z_istore_n (lv' := [(0, .ref (za g b)), (1, .int (nI (q))), (2, .int (nI (i))), (3, .int ((nI (tsum (gT S.1) (barA S.2.1 (i)) ((barB S.2.1 S.1.length (i)) - (barA S.2.1 (i))))) - (nI (tsum (gT S.1) (barA S.2.1 (q)) ((barB S.2.1 S.1.length (q)) - (barA S.2.1 (q)))))))]) dX13_loudestBar_80 (by decide) rfl ?_
          refine z_iload_n dX13_loudestBar_81 rfl ?_
          refine z_if_le_z (tgt := 89) dX13_loudestBar_82 (by decide) (fun h_82_14 => ?_) (fun h_82_14 => ?_)
          · refine z_iload_n dX13_loudestBar_89 rfl ?_
            refine z_istore_n (lv' := [(0, .ref (za g b)), (1, .int (nI (q))), (2, .int (nI (i))), (3, .int ((nI (tsum (gT S.1) (barA S.2.1 (i)) ((barB S.2.1 S.1.length (i)) - (barA S.2.1 (i))))) - (nI (tsum (gT S.1) (barA S.2.1 (q)) ((barB S.2.1 S.1.length (q)) - (barA S.2.1 (q)))))))]) dX13_loudestBar_90 (by decide) rfl ?_
            refine z_iinc_n (n := 1) (a := i) (lv' := [(0, .ref (za g b)), (1, .int (nI (q))), (2, .int (nI (i + 1))), (3, .int ((nI (tsum (gT S.1) (barA S.2.1 (i)) ((barB S.2.1 S.1.length (i)) - (barA S.2.1 (i))))) - (nI (tsum (gT S.1) (barA S.2.1 (q)) ((barB S.2.1 S.1.length (q)) - (barA S.2.1 (q)))))))]) dX13_loudestBar_91 rfl (by decide) rfl ?_
            refine z_goto (tgt := 9) dX13_loudestBar_94 (by decide) ?_
            have eW : loudB S i = q := by
              obtain ⟨j, rfl⟩ : ∃ j, i = j + 1 := ⟨i - 1, by omega⟩
              rw [Nat.add_sub_cancel] at hq
              rw [loudB_n (by rw [← hq]; unfold louder; omega), hq]
            refine z_sub (lv' := [(0, .ref (za g b)), (1, .int (nI (q))), (2, .int (nI (i + 1)))]) [0, 1, 2] rfl ?_
            refine ih (i + 1) q (by omega) (by omega) (by omega) ?_
            rw [Nat.add_sub_cancel]; exact eW.symm
          · refine z_iload_n dX13_loudestBar_85 rfl ?_
            refine z_goto (tgt := 90) dX13_loudestBar_86 (by decide) ?_
            refine z_istore_n (lv' := [(0, .ref (za g b)), (1, .int (nI (i))), (2, .int (nI (i))), (3, .int ((nI (tsum (gT S.1) (barA S.2.1 (i)) ((barB S.2.1 S.1.length (i)) - (barA S.2.1 (i))))) - (nI (tsum (gT S.1) (barA S.2.1 (q)) ((barB S.2.1 S.1.length (q)) - (barA S.2.1 (q)))))))]) dX13_loudestBar_90 (by decide) rfl ?_
            refine z_iinc_n (n := 1) (a := i) (lv' := [(0, .ref (za g b)), (1, .int (nI (i))), (2, .int (nI (i + 1))), (3, .int ((nI (tsum (gT S.1) (barA S.2.1 (i)) ((barB S.2.1 S.1.length (i)) - (barA S.2.1 (i))))) - (nI (tsum (gT S.1) (barA S.2.1 (q)) ((barB S.2.1 S.1.length (q)) - (barA S.2.1 (q)))))))]) dX13_loudestBar_91 rfl (by decide) rfl ?_
            refine z_goto (tgt := 9) dX13_loudestBar_94 (by decide) ?_
            have eW : loudB S i = i := by
              obtain ⟨j, rfl⟩ : ∃ j, i = j + 1 := ⟨i - 1, by omega⟩
              rw [Nat.add_sub_cancel] at hq
              rw [loudB_y (by rw [← hq]; unfold louder; omega)]
            refine z_sub (lv' := [(0, .ref (za g b)), (1, .int (nI (i))), (2, .int (nI (i + 1)))]) [0, 1, 2] rfl ?_
            refine ih (i + 1) i (by omega) (by omega) (by omega) ?_
            rw [Nat.add_sub_cancel]; exact eW.symm
  refine z_aload_n dX13_loudestBar_0 rfl ?_
  refine z_iconst (v := nI 0) dX13_loudestBar_1 rfl ?_
  refine z_putf (j := b) dX13_loudestBar_2 kF_RX13_47 zt_12_0 rfl (by omega) h.ce rfl rfl (Nat.le_of_ble_eq_true rfl) ?_
  obtain ⟨w1, ew2⟩ : ∃ wz : zW, wz = va_up w (b) (zO 12 [.int (nI (0)), .int (nI (Hs.length)), .int (ep), .int (fc), .int (nI (if Sn.isSome then 1 else 0)), .ref (za g (b + 1)), .ref (za g (b + 2)), .ref (za g (b + 3)), .ref (za g (b + 4)), .ref (za g (b + 5)), .ref (za g (b + 6)), .ref (za g (b + 7)), .ref (za g (b + 8)), .ref (za g (b + 9)), .ref (za g (b + 10)), .int (nI (I.length)), .int (po), .int (en), .int (nI (O.length)), .int (kn), .int (wr), .int (dg)]) := ⟨_, rfl⟩
  refine z_weq (w' := w1) ew2.symm ?_
  have hf3 : zFr w w1 (b) (b + 1) := by rw [ew2]; exact zFr.up (by omega)
  have hw4 : w1 (b) = zO 12 [.int (nI (0)), .int (nI (Hs.length)), .int (ep), .int (fc), .int (nI (if Sn.isSome then 1 else 0)), .ref (za g (b + 1)), .ref (za g (b + 2)), .ref (za g (b + 3)), .ref (za g (b + 4)), .ref (za g (b + 5)), .ref (za g (b + 6)), .ref (za g (b + 7)), .ref (za g (b + 8)), .ref (za g (b + 9)), .ref (za g (b + 10)), .int (nI (I.length)), .int (po), .int (en), .int (nI (O.length)), .int (kn), .int (wr), .int (dg)] := by rw [ew2, zup_s]
  have hx5 := h.setC hf3 hw4
  refine z_iconst (v := nI 0) dX13_loudestBar_5 rfl ?_
  refine z_istore_n (lv' := [(0, .ref (za g b)), (1, .int (nI (0)))]) dX13_loudestBar_6 (by decide) rfl ?_
  refine z_iconst (v := nI 1) dX13_loudestBar_7 rfl ?_
  refine z_istore_n (lv' := [(0, .ref (za g b)), (1, .int (nI (0))), (2, .int (nI (1)))]) dX13_loudestBar_8 (by decide) rfl ?_
  exact loop _ (hf3.wk (by omega) (by omega)) hx5 (S.2.1.length + 3) 1 0 (by omega) (Nat.le_refl _) (by omega) rfl
set_option maxRecDepth 100000 in
set_option maxHeartbeats 4000000 in
theorem c_X13_areBarsEqual {g : zGT} {w : zW} {b : Nat} {S : zSt} {Hs : List zSt} {Sn : Option zSt} {I O : List Nat} {ep fc : Int32} {t : Nat} {x y : Int32} (h0 : zG0 g) (hq : Mq g w b (S) (Hs) (Sn) (I) (O) (ep) (fc) (t)) : zCt g mX13_areBarsEqual (zR 4 0) [.ref (za g b), .int (x), .int (y)] w (fun o w' => ∃ r, o = .inl (some (.int r)) ∧ zFr w w' b (b + 11) ∧ Mq g w' b (S) (Hs) (Sn) (I) (O) (ep) (fc) (if (0 ≤ x.toInt ∧ x.toInt ≤ (S.2.1.length : Nat)) ∧ (0 ≤ y.toInt ∧ y.toInt ≤ (S.2.1.length : Nat)) then 0 else 1) ∧ ((0 ≤ x.toInt ∧ x.toInt ≤ (S.2.1.length : Nat)) ∧ (0 ≤ y.toInt ∧ y.toInt ≤ (S.2.1.length : Nat)) → r = nI (eqBarV S x.toInt.toNat y.toInt.toNat))) := by
  obtain ⟨po, en, kn, wr, dg, fv, fb, fs, fp, fh, ft, fl, fi, h, hv, hp, hsn, htx, hou, hep⟩ := hq
  have hb := h.1
  have hl := hv.len
  refine zCt_of (by decide +kernel) h0 [(0, .ref (za g b)), (1, .int (x)), (2, .int (y))] rfl (Nat.le_of_ble_eq_true rfl) ?_
  have loop : ∀ (wi : zW), zFr w wi b (b + 11) → Mx g wi b (nI 0) (nI Hs.length) ep fc (nI (if Sn.isSome then 1 else 0)) (nI I.length) po en (nI O.length) kn wr dg fv fb fs fp fh ft fl fi → ((0 ≤ x.toInt ∧ x.toInt ≤ (S.2.1.length : Nat)) ∧ (0 ≤ y.toInt ∧ y.toInt ≤ (S.2.1.length : Nat))) → ∀ (mm : Nat) (i a : Nat), (barB S.2.1 S.1.length (x.toInt.toNat)) - (barA S.2.1 (x.toInt.toNat)) + 1 - i < mm → (i ≤ (barB S.2.1 S.1.length (x.toInt.toNat)) - (barA S.2.1 (x.toInt.toNat))) → (a ≤ 1) → (a = 1 → blF S x.toInt.toNat = blF S y.toInt.toNat ∧ ∀ q, q < i → gT S.1 (barA S.2.1 x.toInt.toNat + q) = gT S.1 (barA S.2.1 y.toInt.toNat + q)) → (a = 0 → ¬ eqBar S x.toInt.toNat y.toInt.toNat) → zTr g mX13_areBarsEqual (zR 4 0) 0 0 71 [(0, .ref (za g b)), (1, .int (nI (x.toInt.toNat))), (2, .int (nI (y.toInt.toNat))), (3, .int (nI ((barB S.2.1 S.1.length (x.toInt.toNat)) - (barA S.2.1 (x.toInt.toNat))))), (4, .int (nI (a))), (5, .int (nI (i)))] [] wi (fun o w' => ∃ r, o = .inl (some (.int r)) ∧ zFr w w' b (b + 11) ∧ Mq g w' b (S) (Hs) (Sn) (I) (O) (ep) (fc) (if (0 ≤ x.toInt ∧ x.toInt ≤ (S.2.1.length : Nat)) ∧ (0 ≤ y.toInt ∧ y.toInt ≤ (S.2.1.length : Nat)) then 0 else 1) ∧ ((0 ≤ x.toInt ∧ x.toInt ≤ (S.2.1.length : Nat)) ∧ (0 ≤ y.toInt ∧ y.toInt ≤ (S.2.1.length : Nat)) → r = nI (eqBarV S x.toInt.toNat y.toInt.toNat))) := by
    intro wi hfi hmi hx0
    intro mm
    induction mm with
    | zero => intros; omega
    | succ mm ih =>
      intro i a hm hin haa ha1 ha0
      have hb_x := hv.mo.bar (j := x.toInt.toNat) (by omega)
      have hb_y := hv.mo.bar (j := y.toInt.toNat) (by omega)
      have hl_x : blF S x.toInt.toNat = barB S.2.1 S.1.length x.toInt.toNat - barA S.2.1 x.toInt.toNat := rfl
      have hl_y : blF S y.toInt.toNat = barB S.2.1 S.1.length y.toInt.toNat - barA S.2.1 y.toInt.toNat := rfl
      refine z_iload dX13_areBarsEqual_71 rfl ?_
      refine z_if_eq_n (a := a) (tgt := 122) dX13_areBarsEqual_73 (by decide) (by omega) (fun h_73_1 => ?_) (fun h_73_1 => ?_)
      · refine z_iload dX13_areBarsEqual_122 rfl ?_
        refine z_zret (ty := .boolean) dX13_areBarsEqual_124 rfl (by decide) (by decide) (by rcases (show a = 0 ∨ a = 1 by omega) with q | q <;> (rw [q]; rfl)) ?_
        have hval : eqBarV S x.toInt.toNat y.toInt.toNat = a := by have q6 := eqBarV_n (ha0 (by omega)); omega
        refine ⟨_, rfl, hfi, ?_, fun _ => by rw [hval]⟩
        rw [if_pos hx0]
        exact ⟨_, _, _, _, _, _, _, _, _, _, _, _, _, hmi, hv, hp, hsn, htx, hou, hep⟩
      · refine z_iload dX13_areBarsEqual_76 rfl ?_
        refine z_iload_n dX13_areBarsEqual_78 rfl ?_
        refine z_icmp_ge_n (a := i) (b := (barB S.2.1 S.1.length (x.toInt.toNat)) - (barA S.2.1 (x.toInt.toNat))) (tgt := 122) dX13_areBarsEqual_79 (by decide) (by omega) (by omega) (fun h_79_2 => ?_) (fun h_79_2 => ?_)
        · refine z_iload dX13_areBarsEqual_122 rfl ?_
          refine z_zret (ty := .boolean) dX13_areBarsEqual_124 rfl (by decide) (by decide) (by rcases (show a = 0 ∨ a = 1 by omega) with q | q <;> (rw [q]; rfl)) ?_
          have hval : eqBarV S x.toInt.toNat y.toInt.toNat = a := by have q6 := eqBarV_y ⟨(ha1 (by omega)).1, fun q9 h9 => (ha1 (by omega)).2 q9 (by omega)⟩; omega
          refine ⟨_, rfl, hfi, ?_, fun _ => by rw [hval]⟩
          rw [if_pos hx0]
          exact ⟨_, _, _, _, _, _, _, _, _, _, _, _, _, hmi, hv, hp, hsn, htx, hou, hep⟩
        · have hbl := (ha1 (by omega)).1
          refine z_aload_n dX13_areBarsEqual_82 rfl ?_
          refine z_aload_n dX13_areBarsEqual_83 rfl ?_
          refine z_iload_n dX13_areBarsEqual_84 rfl ?_
          refine z_callE (As := [.int (nI (x.toInt.toNat))]) (rest := [.ref (za g b)]) (b := b) (ci := 12) (v := some (.int (nI (barA S.2.1 (x.toInt.toNat))))) (R2 := zR 3 0) dX13_areBarsEqual_85 kV_RX13_172 rfl ⟨⟨by decide, by decide⟩, by decide, by decide⟩ (by omega) hmi.ce rfl rfl rfl (Nat.le_of_ble_eq_true rfl) rfl (c_X13_barFrom (j := x.toInt.toNat) h0 hmi hv (by omega)) ?_
          refine z_iload dX13_areBarsEqual_88 rfl ?_
          refine z_iadd_n (a := barA S.2.1 (x.toInt.toNat)) (b := i) dX13_areBarsEqual_90 ?_
          have hle4 := hv.le ((barA S.2.1 (x.toInt.toNat)) + (i))
          refine z_callE (As := [.int (nI ((barA S.2.1 (x.toInt.toNat)) + (i)))]) (rest := []) (b := b) (ci := 12) (v := some (.int (nI (gT S.1 ((barA S.2.1 (x.toInt.toNat)) + (i)))))) (R2 := zR 0 0) dX13_areBarsEqual_91 kV_RX13_65 rfl ⟨⟨by decide, by decide⟩, by decide, by decide⟩ (by omega) hmi.ce rfl rfl rfl (Nat.le_of_ble_eq_true rfl) rfl (c_X13_level (t := (barA S.2.1 (x.toInt.toNat)) + (i)) (x := gT S.1 ((barA S.2.1 (x.toInt.toNat)) + (i))) h0 hmi (by omega) (hv.tick (by omega))) ?_
          refine z_aload_n dX13_areBarsEqual_94 rfl ?_
          refine z_aload_n dX13_areBarsEqual_95 rfl ?_
          refine z_iload_n dX13_areBarsEqual_96 rfl ?_
          refine z_callE (As := [.int (nI (y.toInt.toNat))]) (rest := [.ref (za g b), .int (nI (gT S.1 ((barA S.2.1 (x.toInt.toNat)) + (i))))]) (b := b) (ci := 12) (v := some (.int (nI (barA S.2.1 (y.toInt.toNat))))) (R2 := zR 3 0) dX13_areBarsEqual_97 kV_RX13_172 rfl ⟨⟨by decide, by decide⟩, by decide, by decide⟩ (by omega) hmi.ce rfl rfl rfl (Nat.le_of_ble_eq_true rfl) rfl (c_X13_barFrom (j := y.toInt.toNat) h0 hmi hv (by omega)) ?_
          refine z_iload dX13_areBarsEqual_100 rfl ?_
          refine z_iadd_n (a := barA S.2.1 (y.toInt.toNat)) (b := i) dX13_areBarsEqual_102 ?_
          have hle7 := hv.le ((barA S.2.1 (y.toInt.toNat)) + (i))
          refine z_callE (As := [.int (nI ((barA S.2.1 (y.toInt.toNat)) + (i)))]) (rest := [.int (nI (gT S.1 ((barA S.2.1 (x.toInt.toNat)) + (i))))]) (b := b) (ci := 12) (v := some (.int (nI (gT S.1 ((barA S.2.1 (y.toInt.toNat)) + (i)))))) (R2 := zR 0 0) dX13_areBarsEqual_103 kV_RX13_65 rfl ⟨⟨by decide, by decide⟩, by decide, by decide⟩ (by omega) hmi.ce rfl rfl rfl (Nat.le_of_ble_eq_true rfl) rfl (c_X13_level (t := (barA S.2.1 (y.toInt.toNat)) + (i)) (x := gT S.1 ((barA S.2.1 (y.toInt.toNat)) + (i))) h0 hmi (by omega) (hv.tick (by omega))) ?_
          refine z_icmp_ne_n (a := gT S.1 ((barA S.2.1 (x.toInt.toNat)) + (i))) (b := gT S.1 ((barA S.2.1 (y.toInt.toNat)) + (i))) (tgt := 113) dX13_areBarsEqual_106 (by decide) (by omega) (by omega) (fun h_106_9 => ?_) (fun h_106_9 => ?_)
          · refine z_iconst (v := nI 0) dX13_areBarsEqual_113 rfl ?_
            refine z_istore (lv' := [(0, .ref (za g b)), (1, .int (nI (x.toInt.toNat))), (2, .int (nI (y.toInt.toNat))), (3, .int (nI ((barB S.2.1 S.1.length (x.toInt.toNat)) - (barA S.2.1 (x.toInt.toNat))))), (4, .int (nI (0))), (5, .int (nI (i)))]) dX13_areBarsEqual_114 (by decide) rfl ?_
            refine z_iinc_n (n := 1) (a := i) (lv' := [(0, .ref (za g b)), (1, .int (nI (x.toInt.toNat))), (2, .int (nI (y.toInt.toNat))), (3, .int (nI ((barB S.2.1 S.1.length (x.toInt.toNat)) - (barA S.2.1 (x.toInt.toNat))))), (4, .int (nI (0))), (5, .int (nI (i + 1)))]) dX13_areBarsEqual_116 rfl (by decide) rfl ?_
            refine z_goto (tgt := 71) dX13_areBarsEqual_119 (by decide) ?_
            refine ih (i + 1) 0 (by omega) (by omega) (by omega) (fun z => absurd z (by decide)) (fun _ z => ?_)
            have q9 := z.2 i (by omega)
            omega
          · refine z_iconst (v := nI 1) dX13_areBarsEqual_109 rfl ?_
            refine z_goto (tgt := 114) dX13_areBarsEqual_110 (by decide) ?_
            refine z_istore (lv' := [(0, .ref (za g b)), (1, .int (nI (x.toInt.toNat))), (2, .int (nI (y.toInt.toNat))), (3, .int (nI ((barB S.2.1 S.1.length (x.toInt.toNat)) - (barA S.2.1 (x.toInt.toNat))))), (4, .int (nI (1))), (5, .int (nI (i)))]) dX13_areBarsEqual_114 (by decide) rfl ?_
            refine z_iinc_n (n := 1) (a := i) (lv' := [(0, .ref (za g b)), (1, .int (nI (x.toInt.toNat))), (2, .int (nI (y.toInt.toNat))), (3, .int (nI ((barB S.2.1 S.1.length (x.toInt.toNat)) - (barA S.2.1 (x.toInt.toNat))))), (4, .int (nI (1))), (5, .int (nI (i + 1)))]) dX13_areBarsEqual_116 rfl (by decide) rfl ?_
            refine z_goto (tgt := 71) dX13_areBarsEqual_119 (by decide) ?_
            refine ih (i + 1) 1 (by omega) (by omega) (by omega) (fun _ => ⟨(ha1 (by omega)).1, fun q9 h9 => ?_⟩) (fun z => absurd z (by decide))
            by_cases c : q9 < i
            · exact (ha1 (by omega)).2 q9 c
            · rw [show q9 = i by omega]; omega
  refine z_aload_n dX13_areBarsEqual_0 rfl ?_
  refine z_aload_n dX13_areBarsEqual_1 rfl ?_
  refine z_iload_n dX13_areBarsEqual_2 rfl ?_
  by_cases hc1 : 0 ≤ ((x)).toInt ∧ ((x)).toInt ≤ (S.2.1.length : Nat)
  · refine z_callE (As := [.int (x)]) (rest := [.ref (za g b)]) (b := b) (ci := 12) (v := some (.int (nI (1)))) (R2 := zR 1 0) dX13_areBarsEqual_3 kV_RX13_166 rfl ⟨⟨by decide, by decide⟩, by decide, by decide⟩ (by omega) h.ce rfl rfl rfl (Nat.le_of_ble_eq_true rfl) rfl (c_X13_isBar_y  h0 h hv  hc1) ?_
    refine z_if_eq_n (a := 1) (tgt := 21) dX13_areBarsEqual_6 (by decide) (by omega) (fun h_6_3 => ?_) (fun h_6_3 => ?_)
    · exact absurd h_6_3 (by decide)
    · refine z_aload_n dX13_areBarsEqual_9 rfl ?_
      refine z_iload_n dX13_areBarsEqual_10 rfl ?_
      by_cases hc4 : 0 ≤ ((y)).toInt ∧ ((y)).toInt ≤ (S.2.1.length : Nat)
      · refine z_callE (As := [.int (y)]) (rest := [.ref (za g b)]) (b := b) (ci := 12) (v := some (.int (nI (1)))) (R2 := zR 1 0) dX13_areBarsEqual_11 kV_RX13_166 rfl ⟨⟨by decide, by decide⟩, by decide, by decide⟩ (by omega) h.ce rfl rfl rfl (Nat.le_of_ble_eq_true rfl) rfl (c_X13_isBar_y  h0 h hv  hc4) ?_
        refine z_if_eq_n (a := 1) (tgt := 21) dX13_areBarsEqual_14 (by decide) (by omega) (fun h_14_6 => ?_) (fun h_14_6 => ?_)
        · exact absurd h_14_6 (by decide)
        · refine z_iconst (v := nI 0) dX13_areBarsEqual_17 rfl ?_
          refine z_goto (tgt := 22) dX13_areBarsEqual_18 (by decide) ?_
          refine z_putf (j := b) dX13_areBarsEqual_22 kF_RX13_47 zt_12_0 rfl (by omega) h.ce rfl rfl (Nat.le_of_ble_eq_true rfl) ?_
          obtain ⟨w7, ew8⟩ : ∃ wz : zW, wz = va_up w (b) (zO 12 [.int (nI (0)), .int (nI (Hs.length)), .int (ep), .int (fc), .int (nI (if Sn.isSome then 1 else 0)), .ref (za g (b + 1)), .ref (za g (b + 2)), .ref (za g (b + 3)), .ref (za g (b + 4)), .ref (za g (b + 5)), .ref (za g (b + 6)), .ref (za g (b + 7)), .ref (za g (b + 8)), .ref (za g (b + 9)), .ref (za g (b + 10)), .int (nI (I.length)), .int (po), .int (en), .int (nI (O.length)), .int (kn), .int (wr), .int (dg)]) := ⟨_, rfl⟩
          refine z_weq (w' := w7) ew8.symm ?_
          have hf9 : zFr w w7 (b) (b + 1) := by rw [ew8]; exact zFr.up (by omega)
          have hw10 : w7 (b) = zO 12 [.int (nI (0)), .int (nI (Hs.length)), .int (ep), .int (fc), .int (nI (if Sn.isSome then 1 else 0)), .ref (za g (b + 1)), .ref (za g (b + 2)), .ref (za g (b + 3)), .ref (za g (b + 4)), .ref (za g (b + 5)), .ref (za g (b + 6)), .ref (za g (b + 7)), .ref (za g (b + 8)), .ref (za g (b + 9)), .ref (za g (b + 10)), .int (nI (I.length)), .int (po), .int (en), .int (nI (O.length)), .int (kn), .int (wr), .int (dg)] := by rw [ew8, zup_s]
          have hx11 := h.setC hf9 hw10
          refine z_aload_n dX13_areBarsEqual_25 rfl ?_
          refine z_getf (j := b) dX13_areBarsEqual_26 kF_RX13_47 rfl (by omega) hx11.ce rfl ?_
          refine z_if_eq_n (a := 0) (tgt := 34) dX13_areBarsEqual_29 (by decide) (by omega) (fun h_29_12 => ?_) (fun h_29_12 => ?_)
          · refine z_eq (lv' := [(0, .ref (za g b)), (1, .int (nI (x.toInt.toNat))), (2, .int (nI (y.toInt.toNat)))]) rfl rfl (by rw [← i_nat (x := x) (by omega), ← i_nat (x := y) (by omega)]) ?_
            have hb_x := hv.mo.bar (j := x.toInt.toNat) (by omega)
            have hb_y := hv.mo.bar (j := y.toInt.toNat) (by omega)
            refine z_aload_n dX13_areBarsEqual_34 rfl ?_
            refine z_iload_n dX13_areBarsEqual_35 rfl ?_
            refine z_callE (As := [.int (nI (x.toInt.toNat))]) (rest := []) (b := b) (ci := 12) (v := some (.int (nI (barB S.2.1 S.1.length (x.toInt.toNat))))) (R2 := zR 3 0) dX13_areBarsEqual_36 kV_RX13_169 rfl ⟨⟨by decide, by decide⟩, by decide, by decide⟩ (by omega) hx11.ce rfl rfl rfl (Nat.le_of_ble_eq_true rfl) rfl (c_X13_barTo (j := x.toInt.toNat) h0 hx11 hv (by omega)) ?_
            refine z_aload_n dX13_areBarsEqual_39 rfl ?_
            refine z_iload_n dX13_areBarsEqual_40 rfl ?_
            refine z_callE (As := [.int (nI (x.toInt.toNat))]) (rest := [.int (nI (barB S.2.1 S.1.length (x.toInt.toNat)))]) (b := b) (ci := 12) (v := some (.int (nI (barA S.2.1 (x.toInt.toNat))))) (R2 := zR 3 0) dX13_areBarsEqual_41 kV_RX13_172 rfl ⟨⟨by decide, by decide⟩, by decide, by decide⟩ (by omega) hx11.ce rfl rfl rfl (Nat.le_of_ble_eq_true rfl) rfl (c_X13_barFrom (j := x.toInt.toNat) h0 hx11 hv (by omega)) ?_
            refine z_isub_n (a := barB S.2.1 S.1.length (x.toInt.toNat)) (b := barA S.2.1 (x.toInt.toNat)) dX13_areBarsEqual_44 (by omega) ?_
            refine z_istore_n (lv' := [(0, .ref (za g b)), (1, .int (nI (x.toInt.toNat))), (2, .int (nI (y.toInt.toNat))), (3, .int (nI ((barB S.2.1 S.1.length (x.toInt.toNat)) - (barA S.2.1 (x.toInt.toNat)))))]) dX13_areBarsEqual_45 (by decide) rfl ?_
            refine z_iload_n dX13_areBarsEqual_46 rfl ?_
            refine z_aload_n dX13_areBarsEqual_47 rfl ?_
            refine z_iload_n dX13_areBarsEqual_48 rfl ?_
            refine z_callE (As := [.int (nI (y.toInt.toNat))]) (rest := [.int (nI ((barB S.2.1 S.1.length (x.toInt.toNat)) - (barA S.2.1 (x.toInt.toNat))))]) (b := b) (ci := 12) (v := some (.int (nI (barB S.2.1 S.1.length (y.toInt.toNat))))) (R2 := zR 3 0) dX13_areBarsEqual_49 kV_RX13_169 rfl ⟨⟨by decide, by decide⟩, by decide, by decide⟩ (by omega) hx11.ce rfl rfl rfl (Nat.le_of_ble_eq_true rfl) rfl (c_X13_barTo (j := y.toInt.toNat) h0 hx11 hv (by omega)) ?_
            refine z_aload_n dX13_areBarsEqual_52 rfl ?_
            refine z_iload_n dX13_areBarsEqual_53 rfl ?_
            refine z_callE (As := [.int (nI (y.toInt.toNat))]) (rest := [.int (nI (barB S.2.1 S.1.length (y.toInt.toNat))), .int (nI ((barB S.2.1 S.1.length (x.toInt.toNat)) - (barA S.2.1 (x.toInt.toNat))))]) (b := b) (ci := 12) (v := some (.int (nI (barA S.2.1 (y.toInt.toNat))))) (R2 := zR 3 0) dX13_areBarsEqual_54 kV_RX13_172 rfl ⟨⟨by decide, by decide⟩, by decide, by decide⟩ (by omega) hx11.ce rfl rfl rfl (Nat.le_of_ble_eq_true rfl) rfl (c_X13_barFrom (j := y.toInt.toNat) h0 hx11 hv (by omega)) ?_
            refine z_isub_n (a := barB S.2.1 S.1.length (y.toInt.toNat)) (b := barA S.2.1 (y.toInt.toNat)) dX13_areBarsEqual_57 (by omega) ?_
            refine z_icmp_ne_n (a := (barB S.2.1 S.1.length (x.toInt.toNat)) - (barA S.2.1 (x.toInt.toNat))) (b := (barB S.2.1 S.1.length (y.toInt.toNat)) - (barA S.2.1 (y.toInt.toNat))) (tgt := 65) dX13_areBarsEqual_58 (by decide) (by omega) (by omega) (fun h_58_17 => ?_) (fun h_58_17 => ?_)
            · refine z_iconst (v := nI 0) dX13_areBarsEqual_65 rfl ?_
              refine z_istore (lv' := [(0, .ref (za g b)), (1, .int (nI (x.toInt.toNat))), (2, .int (nI (y.toInt.toNat))), (3, .int (nI ((barB S.2.1 S.1.length (x.toInt.toNat)) - (barA S.2.1 (x.toInt.toNat))))), (4, .int (nI (0)))]) dX13_areBarsEqual_66 (by decide) rfl ?_
              refine z_iconst (v := nI 0) dX13_areBarsEqual_68 rfl ?_
              refine z_istore (lv' := [(0, .ref (za g b)), (1, .int (nI (x.toInt.toNat))), (2, .int (nI (y.toInt.toNat))), (3, .int (nI ((barB S.2.1 S.1.length (x.toInt.toNat)) - (barA S.2.1 (x.toInt.toNat))))), (4, .int (nI (0))), (5, .int (nI (0)))]) dX13_areBarsEqual_69 (by decide) rfl ?_
              have hl_x : blF S x.toInt.toNat = barB S.2.1 S.1.length x.toInt.toNat - barA S.2.1 x.toInt.toNat := rfl
              have hl_y : blF S y.toInt.toNat = barB S.2.1 S.1.length y.toInt.toNat - barA S.2.1 y.toInt.toNat := rfl
              exact loop _ (hf9.wk (by omega) (by omega)) hx11 ⟨by omega, by omega⟩ (S.1.length + 2) 0 0 (by omega) (Nat.zero_le _) (by omega) (fun z => absurd z (by decide)) (fun _ z => by have q9 := z.1; omega)
            · refine z_iconst (v := nI 1) dX13_areBarsEqual_61 rfl ?_
              refine z_goto (tgt := 66) dX13_areBarsEqual_62 (by decide) ?_
              refine z_istore (lv' := [(0, .ref (za g b)), (1, .int (nI (x.toInt.toNat))), (2, .int (nI (y.toInt.toNat))), (3, .int (nI ((barB S.2.1 S.1.length (x.toInt.toNat)) - (barA S.2.1 (x.toInt.toNat))))), (4, .int (nI (1)))]) dX13_areBarsEqual_66 (by decide) rfl ?_
              refine z_iconst (v := nI 0) dX13_areBarsEqual_68 rfl ?_
              refine z_istore (lv' := [(0, .ref (za g b)), (1, .int (nI (x.toInt.toNat))), (2, .int (nI (y.toInt.toNat))), (3, .int (nI ((barB S.2.1 S.1.length (x.toInt.toNat)) - (barA S.2.1 (x.toInt.toNat))))), (4, .int (nI (1))), (5, .int (nI (0)))]) dX13_areBarsEqual_69 (by decide) rfl ?_
              have hl_x : blF S x.toInt.toNat = barB S.2.1 S.1.length x.toInt.toNat - barA S.2.1 x.toInt.toNat := rfl
              have hl_y : blF S y.toInt.toNat = barB S.2.1 S.1.length y.toInt.toNat - barA S.2.1 y.toInt.toNat := rfl
              exact loop _ (hf9.wk (by omega) (by omega)) hx11 ⟨by omega, by omega⟩ (S.1.length + 2) 0 1 (by omega) (Nat.zero_le _) (by omega) (fun _ => ⟨by omega, fun q9 h9 => by omega⟩) (fun z => absurd z (by decide))
          · exact absurd h_29_12 (by decide)
      · refine z_callE (As := [.int (y)]) (rest := [.ref (za g b)]) (b := b) (ci := 12) (v := some (.int (nI (0)))) (R2 := zR 1 0) dX13_areBarsEqual_11 kV_RX13_166 rfl ⟨⟨by decide, by decide⟩, by decide, by decide⟩ (by omega) h.ce rfl rfl rfl (Nat.le_of_ble_eq_true rfl) rfl (c_X13_isBar_n  h0 h hv  hc4) ?_
        refine z_if_eq_n (a := 0) (tgt := 21) dX13_areBarsEqual_14 (by decide) (by omega) (fun h_14_19 => ?_) (fun h_14_19 => ?_)
        · refine z_iconst (v := nI 1) dX13_areBarsEqual_21 rfl ?_
          refine z_putf (j := b) dX13_areBarsEqual_22 kF_RX13_47 zt_12_0 rfl (by omega) h.ce rfl rfl (Nat.le_of_ble_eq_true rfl) ?_
          obtain ⟨w20, ew21⟩ : ∃ wz : zW, wz = va_up w (b) (zO 12 [.int (nI (1)), .int (nI (Hs.length)), .int (ep), .int (fc), .int (nI (if Sn.isSome then 1 else 0)), .ref (za g (b + 1)), .ref (za g (b + 2)), .ref (za g (b + 3)), .ref (za g (b + 4)), .ref (za g (b + 5)), .ref (za g (b + 6)), .ref (za g (b + 7)), .ref (za g (b + 8)), .ref (za g (b + 9)), .ref (za g (b + 10)), .int (nI (I.length)), .int (po), .int (en), .int (nI (O.length)), .int (kn), .int (wr), .int (dg)]) := ⟨_, rfl⟩
          refine z_weq (w' := w20) ew21.symm ?_
          have hf22 : zFr w w20 (b) (b + 1) := by rw [ew21]; exact zFr.up (by omega)
          have hw23 : w20 (b) = zO 12 [.int (nI (1)), .int (nI (Hs.length)), .int (ep), .int (fc), .int (nI (if Sn.isSome then 1 else 0)), .ref (za g (b + 1)), .ref (za g (b + 2)), .ref (za g (b + 3)), .ref (za g (b + 4)), .ref (za g (b + 5)), .ref (za g (b + 6)), .ref (za g (b + 7)), .ref (za g (b + 8)), .ref (za g (b + 9)), .ref (za g (b + 10)), .int (nI (I.length)), .int (po), .int (en), .int (nI (O.length)), .int (kn), .int (wr), .int (dg)] := by rw [ew21, zup_s]
          have hx24 := h.setC hf22 hw23
          refine z_aload_n dX13_areBarsEqual_25 rfl ?_
          refine z_getf (j := b) dX13_areBarsEqual_26 kF_RX13_47 rfl (by omega) hx24.ce rfl ?_
          refine z_if_eq_n (a := 1) (tgt := 34) dX13_areBarsEqual_29 (by decide) (by omega) (fun h_29_25 => ?_) (fun h_29_25 => ?_)
          · exact absurd h_29_25 (by decide)
          · refine z_iconst (v := nI 0) dX13_areBarsEqual_32 rfl ?_
            refine z_zret (ty := .boolean) dX13_areBarsEqual_33 rfl (by decide) (by decide) rfl ?_
            have q8 : ¬ ((0 ≤ x.toInt ∧ x.toInt ≤ (S.2.1.length : Nat)) ∧ (0 ≤ y.toInt ∧ y.toInt ≤ (S.2.1.length : Nat))) := by omega
            refine ⟨_, rfl, (hf22.wk (by omega) (by omega)), ?_, fun q9 => absurd q9 q8⟩
            rw [if_neg q8]
            exact ⟨_, _, _, _, _, _, _, _, _, _, _, _, _, hx24, hv, hp, hsn, htx, hou, hep⟩
        · exact absurd h_14_19 (by decide)
  · refine z_callE (As := [.int (x)]) (rest := [.ref (za g b)]) (b := b) (ci := 12) (v := some (.int (nI (0)))) (R2 := zR 1 0) dX13_areBarsEqual_3 kV_RX13_166 rfl ⟨⟨by decide, by decide⟩, by decide, by decide⟩ (by omega) h.ce rfl rfl rfl (Nat.le_of_ble_eq_true rfl) rfl (c_X13_isBar_n  h0 h hv  hc1) ?_
    refine z_if_eq_n (a := 0) (tgt := 21) dX13_areBarsEqual_6 (by decide) (by omega) (fun h_6_27 => ?_) (fun h_6_27 => ?_)
    · refine z_iconst (v := nI 1) dX13_areBarsEqual_21 rfl ?_
      refine z_putf (j := b) dX13_areBarsEqual_22 kF_RX13_47 zt_12_0 rfl (by omega) h.ce rfl rfl (Nat.le_of_ble_eq_true rfl) ?_
      obtain ⟨w28, ew29⟩ : ∃ wz : zW, wz = va_up w (b) (zO 12 [.int (nI (1)), .int (nI (Hs.length)), .int (ep), .int (fc), .int (nI (if Sn.isSome then 1 else 0)), .ref (za g (b + 1)), .ref (za g (b + 2)), .ref (za g (b + 3)), .ref (za g (b + 4)), .ref (za g (b + 5)), .ref (za g (b + 6)), .ref (za g (b + 7)), .ref (za g (b + 8)), .ref (za g (b + 9)), .ref (za g (b + 10)), .int (nI (I.length)), .int (po), .int (en), .int (nI (O.length)), .int (kn), .int (wr), .int (dg)]) := ⟨_, rfl⟩
      refine z_weq (w' := w28) ew29.symm ?_
      have hf30 : zFr w w28 (b) (b + 1) := by rw [ew29]; exact zFr.up (by omega)
      have hw31 : w28 (b) = zO 12 [.int (nI (1)), .int (nI (Hs.length)), .int (ep), .int (fc), .int (nI (if Sn.isSome then 1 else 0)), .ref (za g (b + 1)), .ref (za g (b + 2)), .ref (za g (b + 3)), .ref (za g (b + 4)), .ref (za g (b + 5)), .ref (za g (b + 6)), .ref (za g (b + 7)), .ref (za g (b + 8)), .ref (za g (b + 9)), .ref (za g (b + 10)), .int (nI (I.length)), .int (po), .int (en), .int (nI (O.length)), .int (kn), .int (wr), .int (dg)] := by rw [ew29, zup_s]
      have hx32 := h.setC hf30 hw31
      refine z_aload_n dX13_areBarsEqual_25 rfl ?_
      refine z_getf (j := b) dX13_areBarsEqual_26 kF_RX13_47 rfl (by omega) hx32.ce rfl ?_
      refine z_if_eq_n (a := 1) (tgt := 34) dX13_areBarsEqual_29 (by decide) (by omega) (fun h_29_33 => ?_) (fun h_29_33 => ?_)
      · exact absurd h_29_33 (by decide)
      · refine z_iconst (v := nI 0) dX13_areBarsEqual_32 rfl ?_
        refine z_zret (ty := .boolean) dX13_areBarsEqual_33 rfl (by decide) (by decide) rfl ?_
        have q8 : ¬ ((0 ≤ x.toInt ∧ x.toInt ≤ (S.2.1.length : Nat)) ∧ (0 ≤ y.toInt ∧ y.toInt ≤ (S.2.1.length : Nat))) := by omega
        refine ⟨_, rfl, (hf30.wk (by omega) (by omega)), ?_, fun q9 => absurd q9 q8⟩
        rw [if_neg q8]
        exact ⟨_, _, _, _, _, _, _, _, _, _, _, _, _, hx32, hv, hp, hsn, htx, hou, hep⟩
    · exact absurd h_6_27 (by decide)
set_option maxRecDepth 100000 in
set_option maxHeartbeats 4000000 in
theorem c_X13_errorPosition {g : zGT} {w : zW} {b : Nat} {S : zSt} {Hs : List zSt} {Sn : Option zSt} {I O : List Nat} {ep fc : Int32} {t : Nat}  (h0 : zG0 g) (hq : Mq g w b (S) (Hs) (Sn) (I) (O) (ep) (fc) (t)) : zCt g mX13_errorPosition (zR 4 0) [.ref (za g b)] w (fun o w' => ∃ r, o = .inl (some (.int r)) ∧ zFr w w' b (b + 11) ∧ Mq g w' b (S) (Hs) (Sn) (I) (O) (ep) (fc) (if ep.toInt ≠ -1 then 0 else 1) ∧ (ep.toInt ≠ -1 → r = ep)) := by
  obtain ⟨po, en, kn, wr, dg, fv, fb, fs, fp, fh, ft, fl, fi, h, hv, hp, hsn, htx, hou, hep⟩ := hq
  have hb := h.1
  have hl := hv.len
  refine zCt_of (by decide +kernel) h0 [(0, .ref (za g b))] rfl (Nat.le_of_ble_eq_true rfl) ?_
  refine z_aload_n dX13_errorPosition_0 rfl ?_
  refine z_aload_n dX13_errorPosition_1 rfl ?_
  refine z_getf (j := b) dX13_errorPosition_2 kF_RX13_7 rfl (by omega) h.ce rfl ?_
  refine z_if_ge_z (tgt := 12) dX13_errorPosition_5 (by decide) (fun h_5_1 => ?_) (fun h_5_1 => ?_)
  · refine z_iconst (v := nI 0) dX13_errorPosition_12 rfl ?_
    refine z_putf (j := b) dX13_errorPosition_13 kF_RX13_47 zt_12_0 rfl (by omega) h.ce rfl rfl (Nat.le_of_ble_eq_true rfl) ?_
    obtain ⟨w2, ew3⟩ : ∃ wz : zW, wz = va_up w (b) (zO 12 [.int (nI (0)), .int (nI (Hs.length)), .int (ep), .int (fc), .int (nI (if Sn.isSome then 1 else 0)), .ref (za g (b + 1)), .ref (za g (b + 2)), .ref (za g (b + 3)), .ref (za g (b + 4)), .ref (za g (b + 5)), .ref (za g (b + 6)), .ref (za g (b + 7)), .ref (za g (b + 8)), .ref (za g (b + 9)), .ref (za g (b + 10)), .int (nI (I.length)), .int (po), .int (en), .int (nI (O.length)), .int (kn), .int (wr), .int (dg)]) := ⟨_, rfl⟩
    refine z_weq (w' := w2) ew3.symm ?_
    have hf4 : zFr w w2 (b) (b + 1) := by rw [ew3]; exact zFr.up (by omega)
    have hw5 : w2 (b) = zO 12 [.int (nI (0)), .int (nI (Hs.length)), .int (ep), .int (fc), .int (nI (if Sn.isSome then 1 else 0)), .ref (za g (b + 1)), .ref (za g (b + 2)), .ref (za g (b + 3)), .ref (za g (b + 4)), .ref (za g (b + 5)), .ref (za g (b + 6)), .ref (za g (b + 7)), .ref (za g (b + 8)), .ref (za g (b + 9)), .ref (za g (b + 10)), .int (nI (I.length)), .int (po), .int (en), .int (nI (O.length)), .int (kn), .int (wr), .int (dg)] := by rw [ew3, zup_s]
    have hx6 := h.setC hf4 hw5
    refine z_aload_n dX13_errorPosition_16 rfl ?_
    refine z_getf (j := b) dX13_errorPosition_17 kF_RX13_47 rfl (by omega) hx6.ce rfl ?_
    refine z_if_ne_n (a := 0) (tgt := 30) dX13_errorPosition_20 (by decide) (by omega) (fun h_20_7 => ?_) (fun h_20_7 => ?_)
    · exact absurd h_20_7 (by decide)
    · refine z_aload_n dX13_errorPosition_23 rfl ?_
      refine z_getf (j := b) dX13_errorPosition_24 kF_RX13_7 rfl (by omega) hx6.ce rfl ?_
      refine z_goto (tgt := 31) dX13_errorPosition_27 (by decide) ?_
      refine z_iret dX13_errorPosition_31 rfl (by decide) (by decide) ?_
      refine ⟨_, rfl, (hf4.wk (by omega) (by omega)), ?_, fun _ => rfl⟩
      rw [if_pos (show ep.toInt ≠ -1 by omega)]
      exact ⟨_, _, _, _, _, _, _, _, _, _, _, _, _, hx6, hv, hp, hsn, htx, hou, hep⟩
  · refine z_iconst (v := nI 1) dX13_errorPosition_8 rfl ?_
    refine z_goto (tgt := 13) dX13_errorPosition_9 (by decide) ?_
    refine z_putf (j := b) dX13_errorPosition_13 kF_RX13_47 zt_12_0 rfl (by omega) h.ce rfl rfl (Nat.le_of_ble_eq_true rfl) ?_
    obtain ⟨w8, ew9⟩ : ∃ wz : zW, wz = va_up w (b) (zO 12 [.int (nI (1)), .int (nI (Hs.length)), .int (ep), .int (fc), .int (nI (if Sn.isSome then 1 else 0)), .ref (za g (b + 1)), .ref (za g (b + 2)), .ref (za g (b + 3)), .ref (za g (b + 4)), .ref (za g (b + 5)), .ref (za g (b + 6)), .ref (za g (b + 7)), .ref (za g (b + 8)), .ref (za g (b + 9)), .ref (za g (b + 10)), .int (nI (I.length)), .int (po), .int (en), .int (nI (O.length)), .int (kn), .int (wr), .int (dg)]) := ⟨_, rfl⟩
    refine z_weq (w' := w8) ew9.symm ?_
    have hf10 : zFr w w8 (b) (b + 1) := by rw [ew9]; exact zFr.up (by omega)
    have hw11 : w8 (b) = zO 12 [.int (nI (1)), .int (nI (Hs.length)), .int (ep), .int (fc), .int (nI (if Sn.isSome then 1 else 0)), .ref (za g (b + 1)), .ref (za g (b + 2)), .ref (za g (b + 3)), .ref (za g (b + 4)), .ref (za g (b + 5)), .ref (za g (b + 6)), .ref (za g (b + 7)), .ref (za g (b + 8)), .ref (za g (b + 9)), .ref (za g (b + 10)), .int (nI (I.length)), .int (po), .int (en), .int (nI (O.length)), .int (kn), .int (wr), .int (dg)] := by rw [ew9, zup_s]
    have hx12 := h.setC hf10 hw11
    refine z_aload_n dX13_errorPosition_16 rfl ?_
    refine z_getf (j := b) dX13_errorPosition_17 kF_RX13_47 rfl (by omega) hx12.ce rfl ?_
    refine z_if_ne_n (a := 1) (tgt := 30) dX13_errorPosition_20 (by decide) (by omega) (fun h_20_13 => ?_) (fun h_20_13 => ?_)
    · refine z_iconst (v := nI 0) dX13_errorPosition_30 rfl ?_
      refine z_iret dX13_errorPosition_31 rfl (by decide) (by decide) ?_
      have q8 : ¬ (ep.toInt ≠ -1) := by omega
      refine ⟨_, rfl, (hf10.wk (by omega) (by omega)), ?_, fun q9 => absurd q9 q8⟩
      rw [if_neg q8]
      exact ⟨_, _, _, _, _, _, _, _, _, _, _, _, _, hx12, hv, hp, hsn, htx, hou, hep⟩
    · exact absurd h_20_13 (by decide)
set_option maxRecDepth 100000 in
set_option maxHeartbeats 4000000 in
theorem c_X13_failedCommand {g : zGT} {w : zW} {b : Nat} {S : zSt} {Hs : List zSt} {Sn : Option zSt} {I O : List Nat} {ep fc : Int32} {t : Nat}  (h0 : zG0 g) (hq : Mq g w b (S) (Hs) (Sn) (I) (O) (ep) (fc) (t)) : zCt g mX13_failedCommand (zR 4 0) [.ref (za g b)] w (fun o w' => ∃ r, o = .inl (some (.int r)) ∧ zFr w w' b (b + 11) ∧ Mq g w' b (S) (Hs) (Sn) (I) (O) (ep) (fc) (if fc.toInt ≠ -1 then 0 else 1) ∧ (fc.toInt ≠ -1 → r = fc)) := by
  obtain ⟨po, en, kn, wr, dg, fv, fb, fs, fp, fh, ft, fl, fi, h, hv, hp, hsn, htx, hou, hep⟩ := hq
  have hb := h.1
  have hl := hv.len
  refine zCt_of (by decide +kernel) h0 [(0, .ref (za g b))] rfl (Nat.le_of_ble_eq_true rfl) ?_
  refine z_aload_n dX13_failedCommand_0 rfl ?_
  refine z_aload_n dX13_failedCommand_1 rfl ?_
  refine z_getf (j := b) dX13_failedCommand_2 kF_RX13_13 rfl (by omega) h.ce rfl ?_
  refine z_if_ge_z (tgt := 12) dX13_failedCommand_5 (by decide) (fun h_5_1 => ?_) (fun h_5_1 => ?_)
  · refine z_iconst (v := nI 0) dX13_failedCommand_12 rfl ?_
    refine z_putf (j := b) dX13_failedCommand_13 kF_RX13_47 zt_12_0 rfl (by omega) h.ce rfl rfl (Nat.le_of_ble_eq_true rfl) ?_
    obtain ⟨w2, ew3⟩ : ∃ wz : zW, wz = va_up w (b) (zO 12 [.int (nI (0)), .int (nI (Hs.length)), .int (ep), .int (fc), .int (nI (if Sn.isSome then 1 else 0)), .ref (za g (b + 1)), .ref (za g (b + 2)), .ref (za g (b + 3)), .ref (za g (b + 4)), .ref (za g (b + 5)), .ref (za g (b + 6)), .ref (za g (b + 7)), .ref (za g (b + 8)), .ref (za g (b + 9)), .ref (za g (b + 10)), .int (nI (I.length)), .int (po), .int (en), .int (nI (O.length)), .int (kn), .int (wr), .int (dg)]) := ⟨_, rfl⟩
    refine z_weq (w' := w2) ew3.symm ?_
    have hf4 : zFr w w2 (b) (b + 1) := by rw [ew3]; exact zFr.up (by omega)
    have hw5 : w2 (b) = zO 12 [.int (nI (0)), .int (nI (Hs.length)), .int (ep), .int (fc), .int (nI (if Sn.isSome then 1 else 0)), .ref (za g (b + 1)), .ref (za g (b + 2)), .ref (za g (b + 3)), .ref (za g (b + 4)), .ref (za g (b + 5)), .ref (za g (b + 6)), .ref (za g (b + 7)), .ref (za g (b + 8)), .ref (za g (b + 9)), .ref (za g (b + 10)), .int (nI (I.length)), .int (po), .int (en), .int (nI (O.length)), .int (kn), .int (wr), .int (dg)] := by rw [ew3, zup_s]
    have hx6 := h.setC hf4 hw5
    refine z_aload_n dX13_failedCommand_16 rfl ?_
    refine z_getf (j := b) dX13_failedCommand_17 kF_RX13_47 rfl (by omega) hx6.ce rfl ?_
    refine z_if_ne_n (a := 0) (tgt := 30) dX13_failedCommand_20 (by decide) (by omega) (fun h_20_7 => ?_) (fun h_20_7 => ?_)
    · exact absurd h_20_7 (by decide)
    · refine z_aload_n dX13_failedCommand_23 rfl ?_
      refine z_getf (j := b) dX13_failedCommand_24 kF_RX13_13 rfl (by omega) hx6.ce rfl ?_
      refine z_goto (tgt := 31) dX13_failedCommand_27 (by decide) ?_
      refine z_iret dX13_failedCommand_31 rfl (by decide) (by decide) ?_
      refine ⟨_, rfl, (hf4.wk (by omega) (by omega)), ?_, fun _ => rfl⟩
      rw [if_pos (show fc.toInt ≠ -1 by omega)]
      exact ⟨_, _, _, _, _, _, _, _, _, _, _, _, _, hx6, hv, hp, hsn, htx, hou, hep⟩
  · refine z_iconst (v := nI 1) dX13_failedCommand_8 rfl ?_
    refine z_goto (tgt := 13) dX13_failedCommand_9 (by decide) ?_
    refine z_putf (j := b) dX13_failedCommand_13 kF_RX13_47 zt_12_0 rfl (by omega) h.ce rfl rfl (Nat.le_of_ble_eq_true rfl) ?_
    obtain ⟨w8, ew9⟩ : ∃ wz : zW, wz = va_up w (b) (zO 12 [.int (nI (1)), .int (nI (Hs.length)), .int (ep), .int (fc), .int (nI (if Sn.isSome then 1 else 0)), .ref (za g (b + 1)), .ref (za g (b + 2)), .ref (za g (b + 3)), .ref (za g (b + 4)), .ref (za g (b + 5)), .ref (za g (b + 6)), .ref (za g (b + 7)), .ref (za g (b + 8)), .ref (za g (b + 9)), .ref (za g (b + 10)), .int (nI (I.length)), .int (po), .int (en), .int (nI (O.length)), .int (kn), .int (wr), .int (dg)]) := ⟨_, rfl⟩
    refine z_weq (w' := w8) ew9.symm ?_
    have hf10 : zFr w w8 (b) (b + 1) := by rw [ew9]; exact zFr.up (by omega)
    have hw11 : w8 (b) = zO 12 [.int (nI (1)), .int (nI (Hs.length)), .int (ep), .int (fc), .int (nI (if Sn.isSome then 1 else 0)), .ref (za g (b + 1)), .ref (za g (b + 2)), .ref (za g (b + 3)), .ref (za g (b + 4)), .ref (za g (b + 5)), .ref (za g (b + 6)), .ref (za g (b + 7)), .ref (za g (b + 8)), .ref (za g (b + 9)), .ref (za g (b + 10)), .int (nI (I.length)), .int (po), .int (en), .int (nI (O.length)), .int (kn), .int (wr), .int (dg)] := by rw [ew9, zup_s]
    have hx12 := h.setC hf10 hw11
    refine z_aload_n dX13_failedCommand_16 rfl ?_
    refine z_getf (j := b) dX13_failedCommand_17 kF_RX13_47 rfl (by omega) hx12.ce rfl ?_
    refine z_if_ne_n (a := 1) (tgt := 30) dX13_failedCommand_20 (by decide) (by omega) (fun h_20_13 => ?_) (fun h_20_13 => ?_)
    · refine z_iconst (v := nI 0) dX13_failedCommand_30 rfl ?_
      refine z_iret dX13_failedCommand_31 rfl (by decide) (by decide) ?_
      have q8 : ¬ (fc.toInt ≠ -1) := by omega
      refine ⟨_, rfl, (hf10.wk (by omega) (by omega)), ?_, fun q9 => absurd q9 q8⟩
      rw [if_neg q8]
      exact ⟨_, _, _, _, _, _, _, _, _, _, _, _, _, hx12, hv, hp, hsn, htx, hou, hep⟩
    · exact absurd h_20_13 (by decide)
set_option maxRecDepth 100000 in
set_option maxHeartbeats 4000000 in
theorem c_X13_outputAt {g : zGT} {w : zW} {b : Nat} {S : zSt} {Hs : List zSt} {Sn : Option zSt} {I O : List Nat} {ep fc : Int32} {t : Nat} {x : Int32} (h0 : zG0 g) (hq : Mq g w b (S) (Hs) (Sn) (I) (O) (ep) (fc) (t)) : zCt g mX13_outputAt (zR 4 0) [.ref (za g b), .int (x)] w (fun o w' => ∃ r, o = .inl (some (.int r)) ∧ zFr w w' b (b + 11) ∧ Mq g w' b (S) (Hs) (Sn) (I) (O) (ep) (fc) (if 0 ≤ x.toInt ∧ x.toInt < (O.length : Nat) then 0 else 1) ∧ (0 ≤ x.toInt ∧ x.toInt < (O.length : Nat) → r = nI (O.getD x.toInt.toNat 0))) := by
  obtain ⟨po, en, kn, wr, dg, fv, fb, fs, fp, fh, ft, fl, fi, h, hv, hp, hsn, htx, hou, hep⟩ := hq
  have hb := h.1
  have hl := hv.len
  have hou1 := hou.1
  have hz := pk_sub_toInt (a := O.length) (b := 1) (by omega) (by omega)
  refine zCt_of (by decide +kernel) h0 [(0, .ref (za g b)), (1, .int (x))] rfl (Nat.le_of_ble_eq_true rfl) ?_
  refine z_aload_n dX13_outputAt_0 rfl ?_
  refine z_iload_n dX13_outputAt_1 rfl ?_
  refine z_iconst (v := nI 0) dX13_outputAt_2 rfl ?_
  refine z_aload_n dX13_outputAt_3 rfl ?_
  refine z_getf (j := b) dX13_outputAt_4 kF_RX13_175 rfl (by omega) h.ce rfl ?_
  refine z_iconst (v := nI 1) dX13_outputAt_7 rfl ?_
  refine z_isub dX13_outputAt_8 ?_
  by_cases hc1 : ((0 : Nat) : Int) ≤ ((x)).toInt ∧ ((x)).toInt ≤ (((nI (O.length)) - (nI (1)))).toInt
  · refine z_callSE (As := [.int (x), .int (nI (0)), .int ((nI (O.length)) - (nI (1)))]) (rest := [.ref (za g b)]) (v := some (.int (nI (1)))) (R2 := zR 0 0) dX13_outputAt_9 kS_RX13_57 rfl rfl ⟨⟨by decide, by decide⟩, by decide, by decide⟩ rfl (Nat.le_of_ble_eq_true rfl) rfl (c_X13_isIn_y (x := (x)) (y := (nI (0))) (z := ((nI (O.length)) - (nI (1)))) h0 (by have q0 := nI_toInt (n := 0) (by omega); omega)) ?_
    refine z_if_eq_n (a := 1) (tgt := 19) dX13_outputAt_12 (by decide) (by omega) (fun h_12_3 => ?_) (fun h_12_3 => ?_)
    · exact absurd h_12_3 (by decide)
    · refine z_iconst (v := nI 0) dX13_outputAt_15 rfl ?_
      refine z_goto (tgt := 20) dX13_outputAt_16 (by decide) ?_
      refine z_putf (j := b) dX13_outputAt_20 kF_RX13_47 zt_12_0 rfl (by omega) h.ce rfl rfl (Nat.le_of_ble_eq_true rfl) ?_
      obtain ⟨w4, ew5⟩ : ∃ wz : zW, wz = va_up w (b) (zO 12 [.int (nI (0)), .int (nI (Hs.length)), .int (ep), .int (fc), .int (nI (if Sn.isSome then 1 else 0)), .ref (za g (b + 1)), .ref (za g (b + 2)), .ref (za g (b + 3)), .ref (za g (b + 4)), .ref (za g (b + 5)), .ref (za g (b + 6)), .ref (za g (b + 7)), .ref (za g (b + 8)), .ref (za g (b + 9)), .ref (za g (b + 10)), .int (nI (I.length)), .int (po), .int (en), .int (nI (O.length)), .int (kn), .int (wr), .int (dg)]) := ⟨_, rfl⟩
      refine z_weq (w' := w4) ew5.symm ?_
      have hf6 : zFr w w4 (b) (b + 1) := by rw [ew5]; exact zFr.up (by omega)
      have hw7 : w4 (b) = zO 12 [.int (nI (0)), .int (nI (Hs.length)), .int (ep), .int (fc), .int (nI (if Sn.isSome then 1 else 0)), .ref (za g (b + 1)), .ref (za g (b + 2)), .ref (za g (b + 3)), .ref (za g (b + 4)), .ref (za g (b + 5)), .ref (za g (b + 6)), .ref (za g (b + 7)), .ref (za g (b + 8)), .ref (za g (b + 9)), .ref (za g (b + 10)), .int (nI (I.length)), .int (po), .int (en), .int (nI (O.length)), .int (kn), .int (wr), .int (dg)] := by rw [ew5, zup_s]
      have hx8 := h.setC hf6 hw7
      refine z_aload_n dX13_outputAt_23 rfl ?_
      refine z_getf (j := b) dX13_outputAt_24 kF_RX13_47 rfl (by omega) hx8.ce rfl ?_
      refine z_if_ne_n (a := 0) (tgt := 40) dX13_outputAt_27 (by decide) (by omega) (fun h_27_9 => ?_) (fun h_27_9 => ?_)
      · exact absurd h_27_9 (by decide)
      · have hoc : O.getD x.toInt.toNat 0 < 65536 := hou.2.2 _ (get_mem (by omega))
        refine z_aload_n dX13_outputAt_30 rfl ?_
        refine z_getf (j := b) dX13_outputAt_31 kF_RX13_35 rfl (by omega) hx8.ce rfl ?_
        refine z_eq (lv' := [(0, .ref (za g b)), (1, .int (nI (x.toInt.toNat)))]) rfl rfl (by rw [← i_nat (x := x) (by omega)]) ?_
        refine z_iload_n dX13_outputAt_34 rfl ?_
        refine z_iald_v (j := b + 7) (N := 1200) (a := x.toInt.toNat) (x := O.getD (x.toInt.toNat) 0) (f := fl) dX13_outputAt_35 (by omega) hx8.r7 (by omega) (by omega) (hou.2.1 _ (by omega)) ?_
        refine z_i2c_n (a := O.getD (x.toInt.toNat) 0) dX13_outputAt_36 (by omega) ?_
        refine z_goto (tgt := 42) dX13_outputAt_37 (by decide) ?_
        refine z_zret (ty := .char) dX13_outputAt_42 rfl (by decide) (by decide) (by first | rfl | exact (pk_charN hoc).1) ?_
        refine ⟨_, rfl, (hf6.wk (by omega) (by omega)), ?_, fun _ => rfl⟩
        rw [if_pos (show 0 ≤ x.toInt ∧ x.toInt < (O.length : Nat) by omega)]
        exact ⟨_, _, _, _, _, _, _, _, _, _, _, _, _, hx8, hv, hp, hsn, htx, hou, hep⟩
  · refine z_callSE (As := [.int (x), .int (nI (0)), .int ((nI (O.length)) - (nI (1)))]) (rest := [.ref (za g b)]) (v := some (.int (nI (0)))) (R2 := zR 0 0) dX13_outputAt_9 kS_RX13_57 rfl rfl ⟨⟨by decide, by decide⟩, by decide, by decide⟩ rfl (Nat.le_of_ble_eq_true rfl) rfl (c_X13_isIn_n (x := (x)) (y := (nI (0))) (z := ((nI (O.length)) - (nI (1)))) h0 (by have q0 := nI_toInt (n := 0) (by omega); omega)) ?_
    refine z_if_eq_n (a := 0) (tgt := 19) dX13_outputAt_12 (by decide) (by omega) (fun h_12_11 => ?_) (fun h_12_11 => ?_)
    · refine z_iconst (v := nI 1) dX13_outputAt_19 rfl ?_
      refine z_putf (j := b) dX13_outputAt_20 kF_RX13_47 zt_12_0 rfl (by omega) h.ce rfl rfl (Nat.le_of_ble_eq_true rfl) ?_
      obtain ⟨w12, ew13⟩ : ∃ wz : zW, wz = va_up w (b) (zO 12 [.int (nI (1)), .int (nI (Hs.length)), .int (ep), .int (fc), .int (nI (if Sn.isSome then 1 else 0)), .ref (za g (b + 1)), .ref (za g (b + 2)), .ref (za g (b + 3)), .ref (za g (b + 4)), .ref (za g (b + 5)), .ref (za g (b + 6)), .ref (za g (b + 7)), .ref (za g (b + 8)), .ref (za g (b + 9)), .ref (za g (b + 10)), .int (nI (I.length)), .int (po), .int (en), .int (nI (O.length)), .int (kn), .int (wr), .int (dg)]) := ⟨_, rfl⟩
      refine z_weq (w' := w12) ew13.symm ?_
      have hf14 : zFr w w12 (b) (b + 1) := by rw [ew13]; exact zFr.up (by omega)
      have hw15 : w12 (b) = zO 12 [.int (nI (1)), .int (nI (Hs.length)), .int (ep), .int (fc), .int (nI (if Sn.isSome then 1 else 0)), .ref (za g (b + 1)), .ref (za g (b + 2)), .ref (za g (b + 3)), .ref (za g (b + 4)), .ref (za g (b + 5)), .ref (za g (b + 6)), .ref (za g (b + 7)), .ref (za g (b + 8)), .ref (za g (b + 9)), .ref (za g (b + 10)), .int (nI (I.length)), .int (po), .int (en), .int (nI (O.length)), .int (kn), .int (wr), .int (dg)] := by rw [ew13, zup_s]
      have hx16 := h.setC hf14 hw15
      refine z_aload_n dX13_outputAt_23 rfl ?_
      refine z_getf (j := b) dX13_outputAt_24 kF_RX13_47 rfl (by omega) hx16.ce rfl ?_
      refine z_if_ne_n (a := 1) (tgt := 40) dX13_outputAt_27 (by decide) (by omega) (fun h_27_17 => ?_) (fun h_27_17 => ?_)
      · refine z_bipush (v := nI 97) dX13_outputAt_40 rfl ?_
        refine z_zret (ty := .char) dX13_outputAt_42 rfl (by decide) (by decide) (by first | rfl | exact (pk_charN hoc).1) ?_
        have q8 : ¬ (0 ≤ x.toInt ∧ x.toInt < (O.length : Nat)) := by omega
        refine ⟨_, rfl, (hf14.wk (by omega) (by omega)), ?_, fun q9 => absurd q9 q8⟩
        rw [if_neg q8]
        exact ⟨_, _, _, _, _, _, _, _, _, _, _, _, _, hx16, hv, hp, hsn, htx, hou, hep⟩
      · exact absurd h_27_17 (by decide)
    · exact absurd h_12_11 (by decide)
set_option maxRecDepth 100000 in
set_option maxHeartbeats 4000000 in
theorem c_X13_type {g : zGT} {w : zW} {b : Nat} {S : zSt} {Hs : List zSt} {Sn : Option zSt} {I O : List Nat} {ep fc : Int32} {t : Nat} {c : Nat} (h0 : zG0 g) (hq : Mq g w b (S) (Hs) (Sn) (I) (O) (ep) (fc) (t)) (hc : c < 65536) : zCt g mX13_type (zR 4 0) [.ref (za g b), .int (nI (c))] w (fun o w' => ∃ r, o = .inl (some (.int r)) ∧ zFr w w' b (b + 11) ∧ Mq g w' b (S) (Hs) (Sn) (if (if 32 ≤ c ∧ c ≤ 126 then (if I.length < 60 then 0 else 2) else 1) = 0 then I ++ [c] else I) (O) (ep) (fc) ((if 32 ≤ c ∧ c ≤ 126 then (if I.length < 60 then 0 else 2) else 1)) ∧ ((if 32 ≤ c ∧ c ≤ 126 then (if I.length < 60 then 0 else 2) else 1) = 0 → r = nI (I.length + 1))) := by
  obtain ⟨po, en, kn, wr, dg, fv, fb, fs, fp, fh, ft, fl, fi, h, hv, hp, hsn, htx, hou, hep⟩ := hq
  have hb := h.1
  have hl := hv.len
  have htx1 := htx.1
  refine zCt_of (by decide +kernel) h0 [(0, .ref (za g b)), (1, .int (nI (c)))] rfl (Nat.le_of_ble_eq_true rfl) ?_
  refine z_aload_n dX13_type_0 rfl ?_
  refine z_iload_n dX13_type_1 rfl ?_
  refine z_bipush (v := nI 32) dX13_type_2 rfl ?_
  refine z_bipush (v := nI 126) dX13_type_4 rfl ?_
  by_cases hc1 : ((32 : Nat) : Int) ≤ ((c : Nat) : Int) ∧ ((c : Nat) : Int) ≤ ((126 : Nat) : Int)
  · refine z_callSE (As := [.int (nI (c)), .int (nI (32)), .int (nI (126))]) (rest := [.ref (za g b)]) (v := some (.int (nI (1)))) (R2 := zR 0 0) dX13_type_6 kS_RX13_57 rfl rfl ⟨⟨by decide, by decide⟩, by decide, by decide⟩ rfl (Nat.le_of_ble_eq_true rfl) rfl (c_X13_isIn_y (x := (nI (c))) (y := (nI (32))) (z := (nI (126))) h0 (by have q0 := nI_toInt (n := c) (by omega); have q1 := nI_toInt (n := 32) (by omega); have q2 := nI_toInt (n := 126) (by omega); omega)) ?_
    refine z_if_ne_n (a := 1) (tgt := 16) dX13_type_9 (by decide) (by omega) (fun h_9_3 => ?_) (fun h_9_3 => ?_)
    · refine z_aload_n dX13_type_16 rfl ?_
      refine z_getf (j := b) dX13_type_17 kF_RX13_184 rfl (by omega) h.ce rfl ?_
      refine z_bipush (v := nI 60) dX13_type_20 rfl ?_
      refine z_icmp_ne_n (a := I.length) (b := 60) (tgt := 29) dX13_type_22 (by decide) (by omega) (by omega) (fun h_22_4 => ?_) (fun h_22_4 => ?_)
      · refine z_iconst (v := nI 0) dX13_type_29 rfl ?_
        refine z_putf (j := b) dX13_type_30 kF_RX13_47 zt_12_0 rfl (by omega) h.ce rfl rfl (Nat.le_of_ble_eq_true rfl) ?_
        obtain ⟨w5, ew6⟩ : ∃ wz : zW, wz = va_up w (b) (zO 12 [.int (nI (0)), .int (nI (Hs.length)), .int (ep), .int (fc), .int (nI (if Sn.isSome then 1 else 0)), .ref (za g (b + 1)), .ref (za g (b + 2)), .ref (za g (b + 3)), .ref (za g (b + 4)), .ref (za g (b + 5)), .ref (za g (b + 6)), .ref (za g (b + 7)), .ref (za g (b + 8)), .ref (za g (b + 9)), .ref (za g (b + 10)), .int (nI (I.length)), .int (po), .int (en), .int (nI (O.length)), .int (kn), .int (wr), .int (dg)]) := ⟨_, rfl⟩
        refine z_weq (w' := w5) ew6.symm ?_
        have hf7 : zFr w w5 (b) (b + 1) := by rw [ew6]; exact zFr.up (by omega)
        have hw8 : w5 (b) = zO 12 [.int (nI (0)), .int (nI (Hs.length)), .int (ep), .int (fc), .int (nI (if Sn.isSome then 1 else 0)), .ref (za g (b + 1)), .ref (za g (b + 2)), .ref (za g (b + 3)), .ref (za g (b + 4)), .ref (za g (b + 5)), .ref (za g (b + 6)), .ref (za g (b + 7)), .ref (za g (b + 8)), .ref (za g (b + 9)), .ref (za g (b + 10)), .int (nI (I.length)), .int (po), .int (en), .int (nI (O.length)), .int (kn), .int (wr), .int (dg)] := by rw [ew6, zup_s]
        have hx9 := h.setC hf7 hw8
        refine z_aload_n dX13_type_33 rfl ?_
        refine z_getf (j := b) dX13_type_34 kF_RX13_47 rfl (by omega) hx9.ce rfl ?_
        refine z_if_eq_n (a := 0) (tgt := 42) dX13_type_37 (by decide) (by omega) (fun h_37_10 => ?_) (fun h_37_10 => ?_)
        · refine z_aload_n dX13_type_42 rfl ?_
          refine z_getf (j := b) dX13_type_43 kF_RX13_32 rfl (by omega) hx9.ce rfl ?_
          refine z_aload_n dX13_type_46 rfl ?_
          refine z_getf (j := b) dX13_type_47 kF_RX13_184 rfl (by omega) hx9.ce rfl ?_
          refine z_iload_n dX13_type_50 rfl ?_
          refine z_iast_n (j := b + 6) (N := 60) (a := I.length) (f := ft) dX13_type_51 (by omega) hx9.r6 (by omega) (by omega) ?_
          obtain ⟨w11, ew12⟩ : ∃ wz : zW, wz = va_up w5 (b + 6) (zI g 60 (upd (ft) (I.length) ((nI (c))))) := ⟨_, rfl⟩
          refine z_weq (w' := w11) ew12.symm ?_
          have hf13 : zFr w5 w11 (b + 6) (b + 6 + 1) := by rw [ew12]; exact zFr.up (by omega)
          have hw14 : w11 (b + 6) = zI g 60 (upd (ft) (I.length) ((nI (c)))) := by rw [ew12, zup_s]
          have hx15 := hx9.setT hf13 hw14
          refine z_aload_n dX13_type_52 rfl ?_
          refine z_dup dX13_type_53 rfl ?_
          refine z_getf (j := b) dX13_type_54 kF_RX13_184 rfl (by omega) hx15.ce rfl ?_
          refine z_iconst (v := nI 1) dX13_type_57 rfl ?_
          refine z_iadd_n (a := I.length) (b := 1) dX13_type_58 ?_
          refine z_putf (j := b) dX13_type_59 kF_RX13_184 zt_12_15 rfl (by omega) hx15.ce rfl rfl (Nat.le_of_ble_eq_true rfl) ?_
          obtain ⟨w16, ew17⟩ : ∃ wz : zW, wz = va_up w11 (b) (zO 12 [.int (nI (0)), .int (nI (Hs.length)), .int (ep), .int (fc), .int (nI (if Sn.isSome then 1 else 0)), .ref (za g (b + 1)), .ref (za g (b + 2)), .ref (za g (b + 3)), .ref (za g (b + 4)), .ref (za g (b + 5)), .ref (za g (b + 6)), .ref (za g (b + 7)), .ref (za g (b + 8)), .ref (za g (b + 9)), .ref (za g (b + 10)), .int (nI ((I.length) + (1))), .int (po), .int (en), .int (nI (O.length)), .int (kn), .int (wr), .int (dg)]) := ⟨_, rfl⟩
          refine z_weq (w' := w16) ew17.symm ?_
          have hf18 : zFr w11 w16 (b) (b + 1) := by rw [ew17]; exact zFr.up (by omega)
          have hw19 : w16 (b) = zO 12 [.int (nI (0)), .int (nI (Hs.length)), .int (ep), .int (fc), .int (nI (if Sn.isSome then 1 else 0)), .ref (za g (b + 1)), .ref (za g (b + 2)), .ref (za g (b + 3)), .ref (za g (b + 4)), .ref (za g (b + 5)), .ref (za g (b + 6)), .ref (za g (b + 7)), .ref (za g (b + 8)), .ref (za g (b + 9)), .ref (za g (b + 10)), .int (nI ((I.length) + (1))), .int (po), .int (en), .int (nI (O.length)), .int (kn), .int (wr), .int (dg)] := by rw [ew17, zup_s]
          have hx20 := hx15.setC hf18 hw19
          refine z_aload_n dX13_type_62 rfl ?_
          refine z_getf (j := b) dX13_type_63 kF_RX13_184 rfl (by omega) hx20.ce rfl ?_
          refine z_iret dX13_type_66 rfl (by decide) (by decide) ?_
          have hF : (if 32 ≤ c ∧ c ≤ 126 then (if I.length < 60 then 0 else 2) else 1) = 0 := by (repeat' split) <;> omega
          refine ⟨_, rfl, (((hf7.wk (by omega) (by omega)).tr (hf13.wk (by omega) (by omega))).tr (hf18.wk (by omega) (by omega))), ?_, fun _ => rfl⟩
          rw [hF, if_pos rfl]
          have hll : (I ++ [c]).length = I.length + 1 := by simp
          refine ⟨_, _, _, _, _, _, _, _, _, _, _, _, _, by rw [hll]; exact hx20, hv, hp, hsn, ⟨by omega, fun k hk => ?_, fun z hz => ?_⟩, hou, hep⟩
          · simp only [upd]
            by_cases c9 : k = I.length
            · rw [if_pos c9, c9, List.getD_eq_getElem?_getD, List.getElem?_append_right (Nat.le_refl _)]; simp
            · rw [if_neg c9, List.getD_eq_getElem?_getD, List.getElem?_append_left (by omega), ← List.getD_eq_getElem?_getD]; exact htx.2.1 k (by omega)
          · rcases List.mem_append.mp hz with z9 | z9
            · exact htx.2.2 z z9
            · have := List.mem_singleton.mp z9; omega
        · exact absurd h_37_10 (by decide)
      · refine z_iconst (v := nI 2) dX13_type_25 rfl ?_
        refine z_goto (tgt := 30) dX13_type_26 (by decide) ?_
        refine z_putf (j := b) dX13_type_30 kF_RX13_47 zt_12_0 rfl (by omega) h.ce rfl rfl (Nat.le_of_ble_eq_true rfl) ?_
        obtain ⟨w21, ew22⟩ : ∃ wz : zW, wz = va_up w (b) (zO 12 [.int (nI (2)), .int (nI (Hs.length)), .int (ep), .int (fc), .int (nI (if Sn.isSome then 1 else 0)), .ref (za g (b + 1)), .ref (za g (b + 2)), .ref (za g (b + 3)), .ref (za g (b + 4)), .ref (za g (b + 5)), .ref (za g (b + 6)), .ref (za g (b + 7)), .ref (za g (b + 8)), .ref (za g (b + 9)), .ref (za g (b + 10)), .int (nI (I.length)), .int (po), .int (en), .int (nI (O.length)), .int (kn), .int (wr), .int (dg)]) := ⟨_, rfl⟩
        refine z_weq (w' := w21) ew22.symm ?_
        have hf23 : zFr w w21 (b) (b + 1) := by rw [ew22]; exact zFr.up (by omega)
        have hw24 : w21 (b) = zO 12 [.int (nI (2)), .int (nI (Hs.length)), .int (ep), .int (fc), .int (nI (if Sn.isSome then 1 else 0)), .ref (za g (b + 1)), .ref (za g (b + 2)), .ref (za g (b + 3)), .ref (za g (b + 4)), .ref (za g (b + 5)), .ref (za g (b + 6)), .ref (za g (b + 7)), .ref (za g (b + 8)), .ref (za g (b + 9)), .ref (za g (b + 10)), .int (nI (I.length)), .int (po), .int (en), .int (nI (O.length)), .int (kn), .int (wr), .int (dg)] := by rw [ew22, zup_s]
        have hx25 := h.setC hf23 hw24
        refine z_aload_n dX13_type_33 rfl ?_
        refine z_getf (j := b) dX13_type_34 kF_RX13_47 rfl (by omega) hx25.ce rfl ?_
        refine z_if_eq_n (a := 2) (tgt := 42) dX13_type_37 (by decide) (by omega) (fun h_37_26 => ?_) (fun h_37_26 => ?_)
        · exact absurd h_37_26 (by decide)
        · refine z_iconst (v := nI 0) dX13_type_40 rfl ?_
          refine z_iret dX13_type_41 rfl (by decide) (by decide) ?_
          have hF : (if 32 ≤ c ∧ c ≤ 126 then (if I.length < 60 then 0 else 2) else 1) = 2 := by (repeat' split) <;> omega
          refine ⟨_, rfl, (hf23.wk (by omega) (by omega)), ?_, fun q9 => absurd (hF.symm.trans q9) (by decide)⟩
          rw [hF, if_neg (by decide)]
          exact ⟨_, _, _, _, _, _, _, _, _, _, _, _, _, hx25, hv, hp, hsn, htx, hou, hep⟩
    · exact absurd h_9_3 (by decide)
  · refine z_callSE (As := [.int (nI (c)), .int (nI (32)), .int (nI (126))]) (rest := [.ref (za g b)]) (v := some (.int (nI (0)))) (R2 := zR 0 0) dX13_type_6 kS_RX13_57 rfl rfl ⟨⟨by decide, by decide⟩, by decide, by decide⟩ rfl (Nat.le_of_ble_eq_true rfl) rfl (c_X13_isIn_n (x := (nI (c))) (y := (nI (32))) (z := (nI (126))) h0 (by have q0 := nI_toInt (n := c) (by omega); have q1 := nI_toInt (n := 32) (by omega); have q2 := nI_toInt (n := 126) (by omega); omega)) ?_
    refine z_if_ne_n (a := 0) (tgt := 16) dX13_type_9 (by decide) (by omega) (fun h_9_28 => ?_) (fun h_9_28 => ?_)
    · exact absurd h_9_28 (by decide)
    · refine z_iconst (v := nI 1) dX13_type_12 rfl ?_
      refine z_goto (tgt := 30) dX13_type_13 (by decide) ?_
      refine z_putf (j := b) dX13_type_30 kF_RX13_47 zt_12_0 rfl (by omega) h.ce rfl rfl (Nat.le_of_ble_eq_true rfl) ?_
      obtain ⟨w29, ew30⟩ : ∃ wz : zW, wz = va_up w (b) (zO 12 [.int (nI (1)), .int (nI (Hs.length)), .int (ep), .int (fc), .int (nI (if Sn.isSome then 1 else 0)), .ref (za g (b + 1)), .ref (za g (b + 2)), .ref (za g (b + 3)), .ref (za g (b + 4)), .ref (za g (b + 5)), .ref (za g (b + 6)), .ref (za g (b + 7)), .ref (za g (b + 8)), .ref (za g (b + 9)), .ref (za g (b + 10)), .int (nI (I.length)), .int (po), .int (en), .int (nI (O.length)), .int (kn), .int (wr), .int (dg)]) := ⟨_, rfl⟩
      refine z_weq (w' := w29) ew30.symm ?_
      have hf31 : zFr w w29 (b) (b + 1) := by rw [ew30]; exact zFr.up (by omega)
      have hw32 : w29 (b) = zO 12 [.int (nI (1)), .int (nI (Hs.length)), .int (ep), .int (fc), .int (nI (if Sn.isSome then 1 else 0)), .ref (za g (b + 1)), .ref (za g (b + 2)), .ref (za g (b + 3)), .ref (za g (b + 4)), .ref (za g (b + 5)), .ref (za g (b + 6)), .ref (za g (b + 7)), .ref (za g (b + 8)), .ref (za g (b + 9)), .ref (za g (b + 10)), .int (nI (I.length)), .int (po), .int (en), .int (nI (O.length)), .int (kn), .int (wr), .int (dg)] := by rw [ew30, zup_s]
      have hx33 := h.setC hf31 hw32
      refine z_aload_n dX13_type_33 rfl ?_
      refine z_getf (j := b) dX13_type_34 kF_RX13_47 rfl (by omega) hx33.ce rfl ?_
      refine z_if_eq_n (a := 1) (tgt := 42) dX13_type_37 (by decide) (by omega) (fun h_37_34 => ?_) (fun h_37_34 => ?_)
      · exact absurd h_37_34 (by decide)
      · refine z_iconst (v := nI 0) dX13_type_40 rfl ?_
        refine z_iret dX13_type_41 rfl (by decide) (by decide) ?_
        have hF : (if 32 ≤ c ∧ c ≤ 126 then (if I.length < 60 then 0 else 2) else 1) = 1 := by (repeat' split) <;> omega
        refine ⟨_, rfl, (hf31.wk (by omega) (by omega)), ?_, fun q9 => absurd (hF.symm.trans q9) (by decide)⟩
        rw [hF, if_neg (by decide)]
        exact ⟨_, _, _, _, _, _, _, _, _, _, _, _, _, hx33, hv, hp, hsn, htx, hou, hep⟩
set_option maxRecDepth 100000 in
set_option maxHeartbeats 4000000 in
theorem c_X13_undo {g : zGT} {w : zW} {b : Nat} {S : zSt} {Hs : List zSt} {Sn : Option zSt} {I O : List Nat} {ep fc : Int32} {t : Nat}  (h0 : zG0 g) (hq : Mq g w b (S) (Hs) (Sn) (I) (O) (ep) (fc) (t)) : zCt g mX13_undo (zR 4 0) [.ref (za g b)] w (fun o w' => ∃ r, o = .inl (some (.int r)) ∧ zFr w w' b (b + 11) ∧ Mq g w' b (Hs.headD S) (Hs.tail) (Sn) (I) (O) (ep) (fc) ((if Hs.length = 0 then 1 else 0)) ∧ ((if Hs.length = 0 then 1 else 0) = 0 → r = nI Hs.tail.length)) := by
  obtain ⟨po, en, kn, wr, dg, fv, fb, fs, fp, fh, ft, fl, fi, h, hv, hp, hsn, htx, hou, hep⟩ := hq
  have hb := h.1
  have hl := hv.len
  have hp8 := hp.1
  refine zCt_of (by decide +kernel) h0 [(0, .ref (za g b))] rfl (Nat.le_of_ble_eq_true rfl) ?_
  have loop : Hs.length ≠ 0 → ∀ (mm : Nat) (i : Nat) (wi : zW) (f9 : Nat → Int32), 411 - i < mm → (zFr w wi b (b + 11)) → (Mx g wi b (nI 0) (nI (Hs.length - 1)) ep fc (nI (if Sn.isSome then 1 else 0)) (nI I.length) po en (nI O.length) kn wr dg f9 fb fs fp fh ft fl fi) → (i ≤ 410) → (∀ k, k < i → f9 k = fp ((Hs.length - 1) * 410 + k)) → zTr g mX13_undo (zR 4 0) 0 0 37 [(0, .ref (za g b)), (1, .int (nI (i)))] [] wi (fun o w' => ∃ r, o = .inl (some (.int r)) ∧ zFr w w' b (b + 11) ∧ Mq g w' b (Hs.headD S) (Hs.tail) (Sn) (I) (O) (ep) (fc) ((if Hs.length = 0 then 1 else 0)) ∧ ((if Hs.length = 0 then 1 else 0) = 0 → r = nI Hs.tail.length)) := by
    intro hn0
    intro mm
    induction mm with
    | zero => intros; omega
    | succ mm ih =>
      intro i wi f9 hm hfi hmi hin hi
      refine z_iload_n dX13_undo_37 rfl ?_
      refine z_sipush (v := nI 410) dX13_undo_38 rfl ?_
      refine z_icmp_ge_n (a := i) (b := 410) (tgt := 71) dX13_undo_41 (by decide) (by omega) (by omega) (fun h_41_1 => ?_) (fun h_41_1 => ?_)
      · refine z_aload_n dX13_undo_71 rfl ?_
        refine z_getf (j := b) dX13_undo_72 kF_RX13_54 rfl (by omega) hmi.ce rfl ?_
        refine z_iret dX13_undo_75 rfl (by decide) (by decide) ?_
        have hi9 : i = 410 := by omega
        have hF : (if Hs.length = 0 then 1 else 0) = 0 := if_neg (by omega)
        refine ⟨_, rfl, hfi, ?_, fun _ => by rw [List.length_tail]⟩
        rw [hF]
        cases Hs with
        | nil => simp at hn0
        | cons S0 Ht =>
          have hvu : VS f9 S0 := hp.head.congr (fun k hk => by rw [hi k (by omega)]; simp)
          exact ⟨_, _, _, _, _, _, _, _, _, _, _, _, _, hmi, hvu, hp.tail, hsn, htx, hou, hep⟩
      · refine z_aload_n dX13_undo_44 rfl ?_
        refine z_getf (j := b) dX13_undo_45 kF_RX13_16 rfl (by omega) hmi.ce rfl ?_
        refine z_iload_n dX13_undo_48 rfl ?_
        refine z_aload_n dX13_undo_49 rfl ?_
        refine z_getf (j := b) dX13_undo_50 kF_RX13_26 rfl (by omega) hmi.ce rfl ?_
        refine z_aload_n dX13_undo_53 rfl ?_
        refine z_getf (j := b) dX13_undo_54 kF_RX13_54 rfl (by omega) hmi.ce rfl ?_
        refine z_sipush (v := nI 410) dX13_undo_57 rfl ?_
        refine z_imul_n (a := Hs.length - 1) (b := 410) dX13_undo_60 ?_
        refine z_iload_n dX13_undo_61 rfl ?_
        refine z_iadd_n (a := (Hs.length - 1) * (410)) (b := i) dX13_undo_62 ?_
        refine z_iald_n (j := b + 4) (N := 3280) (a := ((Hs.length - 1) * (410)) + (i)) (f := fp) dX13_undo_63 (by omega) hmi.r4 (by omega) (by omega) ?_
        refine z_iast_n (j := b + 1) (N := 410) (a := i) (f := f9) dX13_undo_64 (by omega) hmi.r1 (by omega) (by omega) ?_
        obtain ⟨w2, ew3⟩ : ∃ wz : zW, wz = va_up wi (b + 1) (zI g 410 (upd (f9) (i) (((fp) (((Hs.length - 1) * (410)) + (i)))))) := ⟨_, rfl⟩
        refine z_weq (w' := w2) ew3.symm ?_
        have hf4 : zFr wi w2 (b + 1) (b + 1 + 1) := by rw [ew3]; exact zFr.up (by omega)
        have hw5 : w2 (b + 1) = zI g 410 (upd (f9) (i) (((fp) (((Hs.length - 1) * (410)) + (i))))) := by rw [ew3, zup_s]
        have hx6 := hmi.setV hf4 hw5
        refine z_iinc_n (n := 1) (a := i) (lv' := [(0, .ref (za g b)), (1, .int (nI (i + 1)))]) dX13_undo_65 rfl (by decide) rfl ?_
        refine z_goto (tgt := 37) dX13_undo_68 (by decide) ?_
        refine ih (i + 1) _ _ (by omega) (hfi.tr (hf4.wk (by omega) (by omega))) hx6 (by omega) (fun k hk => ?_)
        simp only [upd]
        by_cases c : k = i
        · rw [if_pos c, c]
        · rw [if_neg c]; exact hi k (by omega)
  refine z_aload_n dX13_undo_0 rfl ?_
  refine z_aload_n dX13_undo_1 rfl ?_
  refine z_getf (j := b) dX13_undo_2 kF_RX13_54 rfl (by omega) h.ce rfl ?_
  refine z_if_ne_n (a := Hs.length) (tgt := 12) dX13_undo_5 (by decide) (by omega) (fun h_5_1 => ?_) (fun h_5_1 => ?_)
  · refine z_iconst (v := nI 0) dX13_undo_12 rfl ?_
    refine z_putf (j := b) dX13_undo_13 kF_RX13_47 zt_12_0 rfl (by omega) h.ce rfl rfl (Nat.le_of_ble_eq_true rfl) ?_
    obtain ⟨w2, ew3⟩ : ∃ wz : zW, wz = va_up w (b) (zO 12 [.int (nI (0)), .int (nI (Hs.length)), .int (ep), .int (fc), .int (nI (if Sn.isSome then 1 else 0)), .ref (za g (b + 1)), .ref (za g (b + 2)), .ref (za g (b + 3)), .ref (za g (b + 4)), .ref (za g (b + 5)), .ref (za g (b + 6)), .ref (za g (b + 7)), .ref (za g (b + 8)), .ref (za g (b + 9)), .ref (za g (b + 10)), .int (nI (I.length)), .int (po), .int (en), .int (nI (O.length)), .int (kn), .int (wr), .int (dg)]) := ⟨_, rfl⟩
    refine z_weq (w' := w2) ew3.symm ?_
    have hf4 : zFr w w2 (b) (b + 1) := by rw [ew3]; exact zFr.up (by omega)
    have hw5 : w2 (b) = zO 12 [.int (nI (0)), .int (nI (Hs.length)), .int (ep), .int (fc), .int (nI (if Sn.isSome then 1 else 0)), .ref (za g (b + 1)), .ref (za g (b + 2)), .ref (za g (b + 3)), .ref (za g (b + 4)), .ref (za g (b + 5)), .ref (za g (b + 6)), .ref (za g (b + 7)), .ref (za g (b + 8)), .ref (za g (b + 9)), .ref (za g (b + 10)), .int (nI (I.length)), .int (po), .int (en), .int (nI (O.length)), .int (kn), .int (wr), .int (dg)] := by rw [ew3, zup_s]
    have hx6 := h.setC hf4 hw5
    refine z_aload_n dX13_undo_16 rfl ?_
    refine z_getf (j := b) dX13_undo_17 kF_RX13_47 rfl (by omega) hx6.ce rfl ?_
    refine z_if_eq_n (a := 0) (tgt := 25) dX13_undo_20 (by decide) (by omega) (fun h_20_7 => ?_) (fun h_20_7 => ?_)
    · refine z_aload_n dX13_undo_25 rfl ?_
      refine z_dup dX13_undo_26 rfl ?_
      refine z_getf (j := b) dX13_undo_27 kF_RX13_54 rfl (by omega) hx6.ce rfl ?_
      refine z_iconst (v := nI 1) dX13_undo_30 rfl ?_
      refine z_isub_n (a := Hs.length) (b := 1) dX13_undo_31 (by omega) ?_
      refine z_putf (j := b) dX13_undo_32 kF_RX13_54 zt_12_1 rfl (by omega) hx6.ce rfl rfl (Nat.le_of_ble_eq_true rfl) ?_
      obtain ⟨w8, ew9⟩ : ∃ wz : zW, wz = va_up w2 (b) (zO 12 [.int (nI (0)), .int (nI ((Hs.length) - (1))), .int (ep), .int (fc), .int (nI (if Sn.isSome then 1 else 0)), .ref (za g (b + 1)), .ref (za g (b + 2)), .ref (za g (b + 3)), .ref (za g (b + 4)), .ref (za g (b + 5)), .ref (za g (b + 6)), .ref (za g (b + 7)), .ref (za g (b + 8)), .ref (za g (b + 9)), .ref (za g (b + 10)), .int (nI (I.length)), .int (po), .int (en), .int (nI (O.length)), .int (kn), .int (wr), .int (dg)]) := ⟨_, rfl⟩
      refine z_weq (w' := w8) ew9.symm ?_
      have hf10 : zFr w2 w8 (b) (b + 1) := by rw [ew9]; exact zFr.up (by omega)
      have hw11 : w8 (b) = zO 12 [.int (nI (0)), .int (nI ((Hs.length) - (1))), .int (ep), .int (fc), .int (nI (if Sn.isSome then 1 else 0)), .ref (za g (b + 1)), .ref (za g (b + 2)), .ref (za g (b + 3)), .ref (za g (b + 4)), .ref (za g (b + 5)), .ref (za g (b + 6)), .ref (za g (b + 7)), .ref (za g (b + 8)), .ref (za g (b + 9)), .ref (za g (b + 10)), .int (nI (I.length)), .int (po), .int (en), .int (nI (O.length)), .int (kn), .int (wr), .int (dg)] := by rw [ew9, zup_s]
      have hx12 := hx6.setC hf10 hw11
      refine z_iconst (v := nI 0) dX13_undo_35 rfl ?_
      refine z_istore_n (lv' := [(0, .ref (za g b)), (1, .int (nI (0)))]) dX13_undo_36 (by decide) rfl ?_
      exact loop (by omega) 412 0 _ _ (by omega) ((hf4.wk (by omega) (by omega)).tr (hf10.wk (by omega) (by omega))) hx12 (Nat.zero_le _) (fun k hk => absurd hk (Nat.not_lt_zero k))
    · exact absurd h_20_7 (by decide)
  · refine z_iconst (v := nI 1) dX13_undo_8 rfl ?_
    refine z_goto (tgt := 13) dX13_undo_9 (by decide) ?_
    refine z_putf (j := b) dX13_undo_13 kF_RX13_47 zt_12_0 rfl (by omega) h.ce rfl rfl (Nat.le_of_ble_eq_true rfl) ?_
    obtain ⟨w13, ew14⟩ : ∃ wz : zW, wz = va_up w (b) (zO 12 [.int (nI (1)), .int (nI (Hs.length)), .int (ep), .int (fc), .int (nI (if Sn.isSome then 1 else 0)), .ref (za g (b + 1)), .ref (za g (b + 2)), .ref (za g (b + 3)), .ref (za g (b + 4)), .ref (za g (b + 5)), .ref (za g (b + 6)), .ref (za g (b + 7)), .ref (za g (b + 8)), .ref (za g (b + 9)), .ref (za g (b + 10)), .int (nI (I.length)), .int (po), .int (en), .int (nI (O.length)), .int (kn), .int (wr), .int (dg)]) := ⟨_, rfl⟩
    refine z_weq (w' := w13) ew14.symm ?_
    have hf15 : zFr w w13 (b) (b + 1) := by rw [ew14]; exact zFr.up (by omega)
    have hw16 : w13 (b) = zO 12 [.int (nI (1)), .int (nI (Hs.length)), .int (ep), .int (fc), .int (nI (if Sn.isSome then 1 else 0)), .ref (za g (b + 1)), .ref (za g (b + 2)), .ref (za g (b + 3)), .ref (za g (b + 4)), .ref (za g (b + 5)), .ref (za g (b + 6)), .ref (za g (b + 7)), .ref (za g (b + 8)), .ref (za g (b + 9)), .ref (za g (b + 10)), .int (nI (I.length)), .int (po), .int (en), .int (nI (O.length)), .int (kn), .int (wr), .int (dg)] := by rw [ew14, zup_s]
    have hx17 := h.setC hf15 hw16
    refine z_aload_n dX13_undo_16 rfl ?_
    refine z_getf (j := b) dX13_undo_17 kF_RX13_47 rfl (by omega) hx17.ce rfl ?_
    refine z_if_eq_n (a := 1) (tgt := 25) dX13_undo_20 (by decide) (by omega) (fun h_20_18 => ?_) (fun h_20_18 => ?_)
    · exact absurd h_20_18 (by decide)
    · refine z_iconst (v := nI 0) dX13_undo_23 rfl ?_
      refine z_iret dX13_undo_24 rfl (by decide) (by decide) ?_
      have hF : (if Hs.length = 0 then 1 else 0) = 1 := if_pos (by omega)
      refine ⟨_, rfl, (hf15.wk (by omega) (by omega)), ?_, fun q9 => absurd (hF.symm.trans q9) (by decide)⟩
      rw [hF]
      have hnil : Hs = [] := List.length_eq_zero_iff.mp (by omega)
      subst hnil
      exact ⟨_, _, _, _, _, _, _, _, _, _, _, _, _, hx17, hv, hp, hsn, htx, hou, hep⟩
set_option maxRecDepth 100000 in
set_option maxHeartbeats 4000000 in
theorem c_X13_save {g : zGT} {w : zW} {b : Nat} {S : zSt} {Hs : List zSt} {Sn : Option zSt} {I O : List Nat} {ep fc : Int32} {t : Nat}  (h0 : zG0 g) (hq : Mq g w b (S) (Hs) (Sn) (I) (O) (ep) (fc) (t)) : zCt g mX13_save (zR 4 0) [.ref (za g b)] w (fun o w' => o = .inl (some (.int (nI S.1.length))) ∧ zFr w w' b (b + 11) ∧ Mq g w' b (S) (Hs) (some S) (I) (O) (ep) (fc) (0)) := by
  obtain ⟨po, en, kn, wr, dg, fv, fb, fs, fp, fh, ft, fl, fi, h, hv, hp, hsn, htx, hou, hep⟩ := hq
  have hb := h.1
  have hl := hv.len
  refine zCt_of (by decide +kernel) h0 [(0, .ref (za g b))] rfl (Nat.le_of_ble_eq_true rfl) ?_
  refine z_aload_n dX13_save_0 rfl ?_
  refine z_iconst (v := nI 0) dX13_save_1 rfl ?_
  refine z_putf (j := b) dX13_save_2 kF_RX13_47 zt_12_0 rfl (by omega) h.ce rfl rfl (Nat.le_of_ble_eq_true rfl) ?_
  obtain ⟨w1, ew2⟩ : ∃ wz : zW, wz = va_up w (b) (zO 12 [.int (nI (0)), .int (nI (Hs.length)), .int (ep), .int (fc), .int (nI (if Sn.isSome then 1 else 0)), .ref (za g (b + 1)), .ref (za g (b + 2)), .ref (za g (b + 3)), .ref (za g (b + 4)), .ref (za g (b + 5)), .ref (za g (b + 6)), .ref (za g (b + 7)), .ref (za g (b + 8)), .ref (za g (b + 9)), .ref (za g (b + 10)), .int (nI (I.length)), .int (po), .int (en), .int (nI (O.length)), .int (kn), .int (wr), .int (dg)]) := ⟨_, rfl⟩
  refine z_weq (w' := w1) ew2.symm ?_
  have hf3 : zFr w w1 (b) (b + 1) := by rw [ew2]; exact zFr.up (by omega)
  have hw4 : w1 (b) = zO 12 [.int (nI (0)), .int (nI (Hs.length)), .int (ep), .int (fc), .int (nI (if Sn.isSome then 1 else 0)), .ref (za g (b + 1)), .ref (za g (b + 2)), .ref (za g (b + 3)), .ref (za g (b + 4)), .ref (za g (b + 5)), .ref (za g (b + 6)), .ref (za g (b + 7)), .ref (za g (b + 8)), .ref (za g (b + 9)), .ref (za g (b + 10)), .int (nI (I.length)), .int (po), .int (en), .int (nI (O.length)), .int (kn), .int (wr), .int (dg)] := by rw [ew2, zup_s]
  have hx5 := h.setC hf3 hw4
  refine z_aload_n dX13_save_5 rfl ?_
  refine z_getf (j := b) dX13_save_6 kF_RX13_23 rfl (by omega) hx5.ce rfl ?_
  refine z_aload_n dX13_save_9 rfl ?_
  refine z_getf (j := b) dX13_save_10 kF_RX13_16 rfl (by omega) hx5.ce rfl ?_
  refine z_callSR (As := [.ref (za g (b + 3)), .ref (za g (b + 1))]) (rest := []) (v := none) (R2 := zR 0 0) dX13_save_13 kS_RX13_50 rfl rfl ⟨⟨by decide, by decide⟩, by decide, by decide⟩ rfl (Nat.le_of_ble_eq_true rfl) rfl (c_X13_lays h0 (by omega) (by omega) (by omega) hx5.r3 hx5.r1) (fun w6 pw6 => ?_)
  obtain ⟨hf7, g8, hr9, he10⟩ := pw6
  have hx11 := hx5.setS hf7 hr9
  refine z_aload_n dX13_save_16 rfl ?_
  refine z_iconst (v := nI 1) dX13_save_17 rfl ?_
  refine z_putf (j := b) dX13_save_18 kF_RX13_234 zt_12_4 rfl (by omega) hx11.ce rfl rfl (Nat.le_of_ble_eq_true rfl) ?_
  obtain ⟨w12, ew13⟩ : ∃ wz : zW, wz = va_up w6 (b) (zO 12 [.int (nI (0)), .int (nI (Hs.length)), .int (ep), .int (fc), .int (nI (1)), .ref (za g (b + 1)), .ref (za g (b + 2)), .ref (za g (b + 3)), .ref (za g (b + 4)), .ref (za g (b + 5)), .ref (za g (b + 6)), .ref (za g (b + 7)), .ref (za g (b + 8)), .ref (za g (b + 9)), .ref (za g (b + 10)), .int (nI (I.length)), .int (po), .int (en), .int (nI (O.length)), .int (kn), .int (wr), .int (dg)]) := ⟨_, rfl⟩
  refine z_weq (w' := w12) ew13.symm ?_
  have hf14 : zFr w6 w12 (b) (b + 1) := by rw [ew13]; exact zFr.up (by omega)
  have hw15 : w12 (b) = zO 12 [.int (nI (0)), .int (nI (Hs.length)), .int (ep), .int (fc), .int (nI (1)), .ref (za g (b + 1)), .ref (za g (b + 2)), .ref (za g (b + 3)), .ref (za g (b + 4)), .ref (za g (b + 5)), .ref (za g (b + 6)), .ref (za g (b + 7)), .ref (za g (b + 8)), .ref (za g (b + 9)), .ref (za g (b + 10)), .int (nI (I.length)), .int (po), .int (en), .int (nI (O.length)), .int (kn), .int (wr), .int (dg)] := by rw [ew13, zup_s]
  have hx16 := hx11.setC hf14 hw15
  refine z_aload_n dX13_save_21 rfl ?_
  refine z_getf (j := b) dX13_save_22 kF_RX13_16 rfl (by omega) hx16.ce rfl ?_
  refine z_iconst (v := nI 0) dX13_save_25 rfl ?_
  refine z_iald_v (j := b + 1) (N := 410) (a := 0) (x := S.1.length) (f := fv) dX13_save_26 (by omega) hx16.r1 (by omega) (by omega) (hv.dur) ?_
  refine z_iret dX13_save_27 rfl (by decide) (by decide) ?_
  refine ⟨rfl, (((hf3.wk (by omega) (by omega)).tr (hf7.wk (by omega) (by omega))).tr (hf14.wk (by omega) (by omega))), _, _, _, _, _, _, _, _, _, _, _, _, _, hx16, hv, hp, (fun Y9 q9 => ?_), htx, hou, hep⟩
  cases q9
  exact hv.congr he10
set_option maxRecDepth 100000 in
set_option maxHeartbeats 4000000 in
theorem c_X13_restore_y {g : zGT} {w : zW} {b : Nat} {S : zSt} {Hs : List zSt} {I O : List Nat} {ep fc : Int32} {t : Nat} {Z : zSt} (h0 : zG0 g) (hq : Mq g w b (S) (Hs) ((some Z)) (I) (O) (ep) (fc) (t)) : zCt g mX13_restore (zR 4 0) [.ref (za g b)] w (fun o w' => ∃ r, o = .inl (some (.int r)) ∧ zFr w w' b (b + 11) ∧ Mq g w' b (((some Z) : Option zSt).getD S) (if ((some Z) : Option zSt).isSome then [] else Hs) ((some Z)) (I) (O) (ep) (fc) ((if ((some Z) : Option zSt).isSome then 0 else 1)) ∧ ((if ((some Z) : Option zSt).isSome then 0 else 1) = 0 → r = nI (((some Z) : Option zSt).getD S).1.length)) := by
  obtain ⟨po, en, kn, wr, dg, fv, fb, fs, fp, fh, ft, fl, fi, h, hv, hp, hsn, htx, hou, hep⟩ := hq
  have hb := h.1
  have hl := hv.len
  refine zCt_of (by decide +kernel) h0 [(0, .ref (za g b))] rfl (Nat.le_of_ble_eq_true rfl) ?_
  refine z_aload_n dX13_restore_0 rfl ?_
  refine z_aload_n dX13_restore_1 rfl ?_
  refine z_getf (j := b) dX13_restore_2 kF_RX13_234 rfl (by omega) h.ce rfl ?_
  refine z_if_eq_n (a := 1) (tgt := 12) dX13_restore_5 (by decide) (by omega) (fun h_5_1 => ?_) (fun h_5_1 => ?_)
  · exact absurd h_5_1 (by decide)
  · refine z_iconst (v := nI 0) dX13_restore_8 rfl ?_
    refine z_goto (tgt := 13) dX13_restore_9 (by decide) ?_
    refine z_putf (j := b) dX13_restore_13 kF_RX13_47 zt_12_0 rfl (by omega) h.ce rfl rfl (Nat.le_of_ble_eq_true rfl) ?_
    obtain ⟨w2, ew3⟩ : ∃ wz : zW, wz = va_up w (b) (zO 12 [.int (nI (0)), .int (nI (Hs.length)), .int (ep), .int (fc), .int (nI (1)), .ref (za g (b + 1)), .ref (za g (b + 2)), .ref (za g (b + 3)), .ref (za g (b + 4)), .ref (za g (b + 5)), .ref (za g (b + 6)), .ref (za g (b + 7)), .ref (za g (b + 8)), .ref (za g (b + 9)), .ref (za g (b + 10)), .int (nI (I.length)), .int (po), .int (en), .int (nI (O.length)), .int (kn), .int (wr), .int (dg)]) := ⟨_, rfl⟩
    refine z_weq (w' := w2) ew3.symm ?_
    have hf4 : zFr w w2 (b) (b + 1) := by rw [ew3]; exact zFr.up (by omega)
    have hw5 : w2 (b) = zO 12 [.int (nI (0)), .int (nI (Hs.length)), .int (ep), .int (fc), .int (nI (1)), .ref (za g (b + 1)), .ref (za g (b + 2)), .ref (za g (b + 3)), .ref (za g (b + 4)), .ref (za g (b + 5)), .ref (za g (b + 6)), .ref (za g (b + 7)), .ref (za g (b + 8)), .ref (za g (b + 9)), .ref (za g (b + 10)), .int (nI (I.length)), .int (po), .int (en), .int (nI (O.length)), .int (kn), .int (wr), .int (dg)] := by rw [ew3, zup_s]
    have hx6 := h.setC hf4 hw5
    refine z_aload_n dX13_restore_16 rfl ?_
    refine z_getf (j := b) dX13_restore_17 kF_RX13_47 rfl (by omega) hx6.ce rfl ?_
    refine z_if_eq_n (a := 0) (tgt := 25) dX13_restore_20 (by decide) (by omega) (fun h_20_7 => ?_) (fun h_20_7 => ?_)
    · refine z_aload_n dX13_restore_25 rfl ?_
      refine z_getf (j := b) dX13_restore_26 kF_RX13_16 rfl (by omega) hx6.ce rfl ?_
      refine z_aload_n dX13_restore_29 rfl ?_
      refine z_getf (j := b) dX13_restore_30 kF_RX13_23 rfl (by omega) hx6.ce rfl ?_
      refine z_callSR (As := [.ref (za g (b + 1)), .ref (za g (b + 3))]) (rest := []) (v := none) (R2 := zR 0 0) dX13_restore_33 kS_RX13_50 rfl rfl ⟨⟨by decide, by decide⟩, by decide, by decide⟩ rfl (Nat.le_of_ble_eq_true rfl) rfl (c_X13_lays h0 (by omega) (by omega) (by omega) hx6.r1 hx6.r3) (fun w8 pw8 => ?_)
      obtain ⟨hf9, g10, hr11, he12⟩ := pw8
      have hx13 := hx6.setV hf9 hr11
      have hvz : VS g10 Z := (hsn Z rfl).congr he12
      refine z_aload_n dX13_restore_36 rfl ?_
      refine z_iconst (v := nI 0) dX13_restore_37 rfl ?_
      refine z_putf (j := b) dX13_restore_38 kF_RX13_54 zt_12_1 rfl (by omega) hx13.ce rfl rfl (Nat.le_of_ble_eq_true rfl) ?_
      obtain ⟨w14, ew15⟩ : ∃ wz : zW, wz = va_up w8 (b) (zO 12 [.int (nI (0)), .int (nI (0)), .int (ep), .int (fc), .int (nI (1)), .ref (za g (b + 1)), .ref (za g (b + 2)), .ref (za g (b + 3)), .ref (za g (b + 4)), .ref (za g (b + 5)), .ref (za g (b + 6)), .ref (za g (b + 7)), .ref (za g (b + 8)), .ref (za g (b + 9)), .ref (za g (b + 10)), .int (nI (I.length)), .int (po), .int (en), .int (nI (O.length)), .int (kn), .int (wr), .int (dg)]) := ⟨_, rfl⟩
      refine z_weq (w' := w14) ew15.symm ?_
      have hf16 : zFr w8 w14 (b) (b + 1) := by rw [ew15]; exact zFr.up (by omega)
      have hw17 : w14 (b) = zO 12 [.int (nI (0)), .int (nI (0)), .int (ep), .int (fc), .int (nI (1)), .ref (za g (b + 1)), .ref (za g (b + 2)), .ref (za g (b + 3)), .ref (za g (b + 4)), .ref (za g (b + 5)), .ref (za g (b + 6)), .ref (za g (b + 7)), .ref (za g (b + 8)), .ref (za g (b + 9)), .ref (za g (b + 10)), .int (nI (I.length)), .int (po), .int (en), .int (nI (O.length)), .int (kn), .int (wr), .int (dg)] := by rw [ew15, zup_s]
      have hx18 := hx13.setC hf16 hw17
      refine z_aload_n dX13_restore_41 rfl ?_
      refine z_getf (j := b) dX13_restore_42 kF_RX13_16 rfl (by omega) hx18.ce rfl ?_
      refine z_iconst (v := nI 0) dX13_restore_45 rfl ?_
      refine z_iald_v (j := b + 1) (N := 410) (a := 0) (x := Z.1.length) (f := g10) dX13_restore_46 (by omega) hx18.r1 (by omega) (by omega) (hvz.dur) ?_
      refine z_iret dX13_restore_47 rfl (by decide) (by decide) ?_
      exact ⟨_, rfl, (((hf4.wk (by omega) (by omega)).tr (hf9.wk (by omega) (by omega))).tr (hf16.wk (by omega) (by omega))), ⟨_, _, _, _, _, _, _, _, _, _, _, _, _, hx18, hvz, ⟨Nat.zero_le 8, fun i hi => absurd hi (Nat.not_lt_zero i)⟩, hsn, htx, hou, hep⟩, fun _ => rfl⟩
    · exact absurd h_20_7 (by decide)
set_option maxRecDepth 100000 in
set_option maxHeartbeats 4000000 in
theorem c_X13_restore_n {g : zGT} {w : zW} {b : Nat} {S : zSt} {Hs : List zSt} {I O : List Nat} {ep fc : Int32} {t : Nat} (h0 : zG0 g) (hq : Mq g w b (S) (Hs) (none) (I) (O) (ep) (fc) (t)) : zCt g mX13_restore (zR 4 0) [.ref (za g b)] w (fun o w' => ∃ r, o = .inl (some (.int r)) ∧ zFr w w' b (b + 11) ∧ Mq g w' b ((none : Option zSt).getD S) (if (none : Option zSt).isSome then [] else Hs) (none) (I) (O) (ep) (fc) ((if (none : Option zSt).isSome then 0 else 1)) ∧ ((if (none : Option zSt).isSome then 0 else 1) = 0 → r = nI ((none : Option zSt).getD S).1.length)) := by
  obtain ⟨po, en, kn, wr, dg, fv, fb, fs, fp, fh, ft, fl, fi, h, hv, hp, hsn, htx, hou, hep⟩ := hq
  have hb := h.1
  have hl := hv.len
  refine zCt_of (by decide +kernel) h0 [(0, .ref (za g b))] rfl (Nat.le_of_ble_eq_true rfl) ?_
  refine z_aload_n dX13_restore_0 rfl ?_
  refine z_aload_n dX13_restore_1 rfl ?_
  refine z_getf (j := b) dX13_restore_2 kF_RX13_234 rfl (by omega) h.ce rfl ?_
  refine z_if_eq_n (a := 0) (tgt := 12) dX13_restore_5 (by decide) (by omega) (fun h_5_1 => ?_) (fun h_5_1 => ?_)
  · refine z_iconst (v := nI 1) dX13_restore_12 rfl ?_
    refine z_putf (j := b) dX13_restore_13 kF_RX13_47 zt_12_0 rfl (by omega) h.ce rfl rfl (Nat.le_of_ble_eq_true rfl) ?_
    obtain ⟨w2, ew3⟩ : ∃ wz : zW, wz = va_up w (b) (zO 12 [.int (nI (1)), .int (nI (Hs.length)), .int (ep), .int (fc), .int (nI (0)), .ref (za g (b + 1)), .ref (za g (b + 2)), .ref (za g (b + 3)), .ref (za g (b + 4)), .ref (za g (b + 5)), .ref (za g (b + 6)), .ref (za g (b + 7)), .ref (za g (b + 8)), .ref (za g (b + 9)), .ref (za g (b + 10)), .int (nI (I.length)), .int (po), .int (en), .int (nI (O.length)), .int (kn), .int (wr), .int (dg)]) := ⟨_, rfl⟩
    refine z_weq (w' := w2) ew3.symm ?_
    have hf4 : zFr w w2 (b) (b + 1) := by rw [ew3]; exact zFr.up (by omega)
    have hw5 : w2 (b) = zO 12 [.int (nI (1)), .int (nI (Hs.length)), .int (ep), .int (fc), .int (nI (0)), .ref (za g (b + 1)), .ref (za g (b + 2)), .ref (za g (b + 3)), .ref (za g (b + 4)), .ref (za g (b + 5)), .ref (za g (b + 6)), .ref (za g (b + 7)), .ref (za g (b + 8)), .ref (za g (b + 9)), .ref (za g (b + 10)), .int (nI (I.length)), .int (po), .int (en), .int (nI (O.length)), .int (kn), .int (wr), .int (dg)] := by rw [ew3, zup_s]
    have hx6 := h.setC hf4 hw5
    refine z_aload_n dX13_restore_16 rfl ?_
    refine z_getf (j := b) dX13_restore_17 kF_RX13_47 rfl (by omega) hx6.ce rfl ?_
    refine z_if_eq_n (a := 1) (tgt := 25) dX13_restore_20 (by decide) (by omega) (fun h_20_7 => ?_) (fun h_20_7 => ?_)
    · exact absurd h_20_7 (by decide)
    · refine z_iconst (v := nI 0) dX13_restore_23 rfl ?_
      refine z_iret dX13_restore_24 rfl (by decide) (by decide) ?_
      exact ⟨_, rfl, (hf4.wk (by omega) (by omega)), ⟨_, _, _, _, _, _, _, _, _, _, _, _, _, hx6, hv, hp, hsn, htx, hou, hep⟩, fun q9 => absurd q9 (by decide)⟩
  · exact absurd h_5_1 (by decide)
