/-! the reference: the editing calls one by one -/
theorem zext_gT {T : List Nat} {k : Nat} : zext (gT T) T.length k = gT T k := by
  unfold zext
  split
  · rfl
  · rw [gT_out (by omega)]
set_option maxRecDepth 100000 in
set_option maxHeartbeats 4000000 in
theorem c_X13_passes {g : zGT} {w : zW} {b : Nat} {th ch ea fa sv tn po en ln kn wr dg : Int32} {fv fb fs fp fh ft fl fi : Nat → Int32} {S : zSt} {x y z : Int32} (h0 : zG0 g) (h : Mx g w b th ch ea fa sv tn po en ln kn wr dg fv fb fs fp fh ft fl fi) (hv : VS fv S) : zCt g mX13_passes (zR 1 0) [.ref (za g b), .int (x), .int (y), .int (z)] w (fun o w' => ∃ th' f' r, o = .inl (some (.int r)) ∧ zFr w w' b (b + 11) ∧ Mx g w' b (th') ch ea fa sv tn po en ln kn wr dg (f') fb fs fp fh ft fl fi ∧ th' = (if spF 0 x.toInt y.toInt z.toInt S = 0 then th else nI (plc 0 (spF 0 x.toInt y.toInt z.toInt S))) ∧ VS f' (if spF 0 x.toInt y.toInt z.toInt S = 0 then spS 0 x.toInt y.toInt z.toInt S else S) ∧ (spF 0 x.toInt y.toInt z.toInt S = 0 → r = nI (spA 0 x.toInt y.toInt z.toInt S))) := by
  have hb := h.1
  have hl := hv.len
  refine zCt_of (by decide +kernel) h0 [(0, .ref (za g b)), (1, .int (x)), (2, .int (y)), (3, .int (z))] rfl (Nat.le_of_ble_eq_true rfl) ?_
  have loop : fPass x.toInt y.toInt z.toInt = 0 → ∀ (mm : Nat) (i s : Nat) (wi : zW) (f9 : Nat → Int32), x.toInt.toNat + y.toInt.toNat + 1 - i < mm → (zFr w wi b (b + 11)) → (Mx g wi b th ch ea fa sv tn po en ln kn wr dg f9 fb fs fp fh ft fl fi) → (x.toInt.toNat ≤ i) → (i ≤ x.toInt.toNat + y.toInt.toNat) → (∀ k, k < 410 → f9 k = (if k = 0 then nI (max S.1.length (x.toInt.toNat + y.toInt.toNat)) else if 4 + x.toInt.toNat ≤ k ∧ k < 4 + i ∧ gT S.1 (k - 4) < z.toInt.toNat then nI z.toInt.toNat else fv k)) → (s = zcnt (fun k => decide (zext (gT S.1) S.1.length k < z.toInt.toNat)) x.toInt.toNat (i - x.toInt.toNat)) → zTr g mX13_passes (zR 1 0) 0 0 79 [(0, .ref (za g b)), (1, .int (nI (x.toInt.toNat))), (2, .int (nI (y.toInt.toNat))), (3, .int (nI (z.toInt.toNat))), (4, .int (nI (s))), (5, .int (nI (i)))] [] wi (fun o w' => ∃ th' f' r, o = .inl (some (.int r)) ∧ zFr w w' b (b + 11) ∧ Mx g w' b (th') ch ea fa sv tn po en ln kn wr dg (f') fb fs fp fh ft fl fi ∧ th' = (if spF 0 x.toInt y.toInt z.toInt S = 0 then th else nI (plc 0 (spF 0 x.toInt y.toInt z.toInt S))) ∧ VS f' (if spF 0 x.toInt y.toInt z.toInt S = 0 then spS 0 x.toInt y.toInt z.toInt S else S) ∧ (spF 0 x.toInt y.toInt z.toInt S = 0 → r = nI (spA 0 x.toInt y.toInt z.toInt S))) := by
    intro hF0
    have hp0 := fPass0 hF0
    intro mm
    induction mm with
    | zero => intros; omega
    | succ mm ih =>
      intro i s wi f9 hm hfi hmi hxi hiy hi hs
      refine z_iload dX13_passes_79 rfl ?_
      refine z_iload_n dX13_passes_81 rfl ?_
      refine z_iload_n dX13_passes_82 rfl ?_
      refine z_iadd_n (a := x.toInt.toNat) (b := y.toInt.toNat) dX13_passes_83 ?_
      refine z_icmp_ge_n (a := i) (b := (x.toInt.toNat) + (y.toInt.toNat)) (tgt := 119) dX13_passes_84 (by decide) (by omega) (by omega) (fun h_84_1 => ?_) (fun h_84_1 => ?_)
      · refine z_aload_n dX13_passes_119 rfl ?_
        refine z_getf (j := b) dX13_passes_120 kF_RX13_16 rfl (by omega) hmi.ce rfl ?_
        refine z_iconst (v := nI 3) dX13_passes_123 rfl ?_
        refine z_dup2 dX13_passes_124 rfl rfl ?_
        refine z_iald_v (j := b + 1) (N := 410) (a := 3) (x := S.2.2.2) (f := f9) dX13_passes_125 (by omega) hmi.r1 (by omega) (by omega) (by rw [hi _ (by omega), if_neg (by omega), if_neg (by omega)]; exact hv.trs) ?_
        refine z_iconst (v := nI 1) dX13_passes_126 rfl ?_
        refine z_iadd_n (a := S.2.2.2) (b := 1) dX13_passes_127 ?_
        refine z_iast_n (j := b + 1) (N := 410) (a := 3) (f := f9) dX13_passes_128 (by omega) hmi.r1 (by omega) (by omega) ?_
        obtain ⟨w2, ew3⟩ : ∃ wz : zW, wz = va_up wi (b + 1) (zI g 410 (upd (f9) (3) ((nI ((S.2.2.2) + (1)))))) := ⟨_, rfl⟩
        refine z_weq (w' := w2) ew3.symm ?_
        have hf4 : zFr wi w2 (b + 1) (b + 1 + 1) := by rw [ew3]; exact zFr.up (by omega)
        have hw5 : w2 (b + 1) = zI g 410 (upd (f9) (3) ((nI ((S.2.2.2) + (1))))) := by rw [ew3, zup_s]
        have hx6 := hmi.setV hf4 hw5
        refine z_iload dX13_passes_129 rfl ?_
        refine z_iret dX13_passes_131 rfl (by decide) (by decide) ?_
        have hi9 : i = x.toInt.toNat + y.toInt.toNat := by omega
        have hF : spF 0 x.toInt y.toInt z.toInt S = 0 := hF0
        refine ⟨_, _, _, rfl, hfi.tr (hf4.wk (by omega) (by omega)), hx6, by rw [if_pos hF], ?_, fun _ => by rw [hs, hi9, show x.toInt.toNat + y.toInt.toNat - x.toInt.toNat = y.toInt.toNat by omega]; rfl⟩
        rw [if_pos hF]
        refine hv.mkT (by simp only [upd]; rw [if_neg (by omega), hi _ (by omega), if_pos rfl]) ?_ ?_ (by simp [upd]) (fun k hk => ?_) (fun m hm => ?_) (fun k hk => ?_) (by omega) (hv.mo.up (by omega)) (fun k hk => by unfold passF; have := hv.le k; (repeat' split) <;> first | omega | (rw [zext_gT]; omega))
        · simp only [upd]; rw [if_neg (by omega), hi _ (by omega), if_neg (by omega), if_neg (by omega)]; exact hv.mks
        · simp only [upd]; rw [if_neg (by omega), hi _ (by omega), if_neg (by omega), if_neg (by omega)]
        · simp only [upd]; rw [if_neg (by omega), hi _ (by omega), if_neg (by omega), hi9]
          unfold passF
          simp only [zext_gT, show 4 + k - 4 = k by omega]
          by_cases c1 : x.toInt.toNat ≤ k ∧ k < x.toInt.toNat + y.toInt.toNat ∧ gT S.1 k < z.toInt.toNat
          · rw [if_pos (by omega), if_pos (by omega), if_pos c1]
          · rw [if_neg (by omega), if_neg c1, hv.tick hk]
            by_cases c2 : k < max S.1.length (x.toInt.toNat + y.toInt.toNat)
            · rw [if_pos c2]
            · rw [if_neg c2, gT_out (by omega)]
        · have hm9 := hl.2.2; have hm8 : m < S.2.1.length := hm
          simp only [upd]; rw [if_neg (by omega), hi _ (by omega), if_neg (by omega), if_neg (by omega)]; exact hv.mark hm8
        · simp only [upd]; rw [if_neg (by omega), hi _ (by omega), if_neg (by omega), if_neg (by omega)]
      · refine z_aload_n dX13_passes_87 rfl ?_
        refine z_iload dX13_passes_88 rfl ?_
        refine z_callE (As := [.int (nI (i))]) (rest := []) (b := b) (ci := 12) (v := some (.int (nI (gT S.1 (i))))) (R2 := zR 0 0) dX13_passes_90 kV_RX13_65 rfl ⟨⟨by decide, by decide⟩, by decide, by decide⟩ (by omega) hmi.ce rfl rfl rfl (Nat.le_of_ble_eq_true rfl) rfl (c_X13_level (t := i) (x := gT S.1 (i)) h0 hmi (by omega) (by rw [hi _ (by omega), if_neg (by omega), if_neg (by omega)]; exact hv.tick (by omega))) ?_
        refine z_iload_n dX13_passes_93 rfl ?_
        have hlv := hv.le i
        refine z_icmp_lt_n (a := gT S.1 (i)) (b := z.toInt.toNat) (tgt := 100) dX13_passes_94 (by decide) (by omega) (by omega) (fun h_94_8 => ?_) (fun h_94_8 => ?_)
        · refine z_aload_n dX13_passes_100 rfl ?_
          refine z_getf (j := b) dX13_passes_101 kF_RX13_16 rfl (by omega) hmi.ce rfl ?_
          refine z_iconst (v := nI 4) dX13_passes_104 rfl ?_
          refine z_iload dX13_passes_105 rfl ?_
          refine z_iadd_n (a := 4) (b := i) dX13_passes_107 ?_
          refine z_iload_n dX13_passes_108 rfl ?_
          refine z_iast_n (j := b + 1) (N := 410) (a := (4) + (i)) (f := f9) dX13_passes_109 (by omega) hmi.r1 (by omega) (by omega) ?_
          obtain ⟨w9, ew10⟩ : ∃ wz : zW, wz = va_up wi (b + 1) (zI g 410 (upd (f9) ((4) + (i)) ((nI (z.toInt.toNat))))) := ⟨_, rfl⟩
          refine z_weq (w' := w9) ew10.symm ?_
          have hf11 : zFr wi w9 (b + 1) (b + 1 + 1) := by rw [ew10]; exact zFr.up (by omega)
          have hw12 : w9 (b + 1) = zI g 410 (upd (f9) ((4) + (i)) ((nI (z.toInt.toNat)))) := by rw [ew10, zup_s]
          have hx13 := hmi.setV hf11 hw12
          refine z_iinc_n (n := 1) (a := s) (lv' := [(0, .ref (za g b)), (1, .int (nI (x.toInt.toNat))), (2, .int (nI (y.toInt.toNat))), (3, .int (nI (z.toInt.toNat))), (4, .int (nI (s + 1))), (5, .int (nI (i)))]) dX13_passes_110 rfl (by decide) rfl ?_
          refine z_iinc_n (n := 1) (a := i) (lv' := [(0, .ref (za g b)), (1, .int (nI (x.toInt.toNat))), (2, .int (nI (y.toInt.toNat))), (3, .int (nI (z.toInt.toNat))), (4, .int (nI (s + 1))), (5, .int (nI (i + 1)))]) dX13_passes_113 rfl (by decide) rfl ?_
          refine z_goto (tgt := 79) dX13_passes_116 (by decide) ?_
          refine ih (i + 1) (s + 1) _ _ (by omega) (hfi.tr (hf11.wk (by omega) (by omega))) hx13 (by omega) (by omega) (fun k hk => ?_) ?_
          · simp only [upd]
            by_cases c : k = 4 + i
            · rw [if_pos c, c, if_neg (by omega), if_pos ⟨by omega, by omega, by rw [show 4 + i - 4 = i by omega]; omega⟩]
            · rw [if_neg c, hi k hk]
              (repeat' split) <;> first | rfl | (exfalso; omega)
          · rw [hs, zcnt_s hxi, if_pos (by rw [zext_gT]; simpa using h_94_8)]
        · refine z_goto (tgt := 113) dX13_passes_97 (by decide) ?_
          refine z_iinc_n (n := 1) (a := i) (lv' := [(0, .ref (za g b)), (1, .int (nI (x.toInt.toNat))), (2, .int (nI (y.toInt.toNat))), (3, .int (nI (z.toInt.toNat))), (4, .int (nI (s))), (5, .int (nI (i + 1)))]) dX13_passes_113 rfl (by decide) rfl ?_
          refine z_goto (tgt := 79) dX13_passes_116 (by decide) ?_
          refine ih (i + 1) s _ _ (by omega) (hfi.tr zFr.rf) hmi (by omega) (by omega) (fun k hk => ?_) ?_
          · by_cases c : k = 4 + i
            · rw [hi k hk, c, if_neg (by omega), if_neg (by omega), if_neg (by omega), if_neg (by rw [show 4 + i - 4 = i by omega]; omega)]
            · rw [hi k hk]
              (repeat' split) <;> first | rfl | (exfalso; omega)
          · rw [hs, zcnt_s hxi, if_neg (by rw [zext_gT]; simpa using h_94_8), Nat.add_zero]
  refine z_iload_n dX13_passes_0 rfl ?_
  refine z_iconst (v := nI 0) dX13_passes_1 rfl ?_
  refine z_sipush (v := nI 199) dX13_passes_2 rfl ?_
  by_cases hc1 : ((0 : Nat) : Int) ≤ ((x)).toInt ∧ ((x)).toInt ≤ ((199 : Nat) : Int)
  · refine z_callSE (As := [.int (x), .int (nI (0)), .int (nI (199))]) (rest := []) (v := some (.int (nI (1)))) (R2 := zR 0 0) dX13_passes_5 kS_RX13_57 rfl rfl ⟨⟨by decide, by decide⟩, by decide, by decide⟩ rfl (Nat.le_of_ble_eq_true rfl) rfl (c_X13_isIn_y (x := (x)) (y := (nI (0))) (z := (nI (199))) h0 (by have q0 := nI_toInt (n := 0) (by omega); have q1 := nI_toInt (n := 199) (by omega); omega)) ?_
    refine z_if_eq_n (a := 1) (tgt := 31) dX13_passes_8 (by decide) (by omega) (fun h_8_3 => ?_) (fun h_8_3 => ?_)
    · exact absurd h_8_3 (by decide)
    · refine z_iload_n dX13_passes_11 rfl ?_
      refine z_iconst (v := nI 1) dX13_passes_12 rfl ?_
      refine z_bipush (v := nI 50) dX13_passes_13 rfl ?_
      by_cases hc4 : ((1 : Nat) : Int) ≤ ((y)).toInt ∧ ((y)).toInt ≤ ((50 : Nat) : Int)
      · refine z_callSE (As := [.int (y), .int (nI (1)), .int (nI (50))]) (rest := []) (v := some (.int (nI (1)))) (R2 := zR 0 0) dX13_passes_15 kS_RX13_57 rfl rfl ⟨⟨by decide, by decide⟩, by decide, by decide⟩ rfl (Nat.le_of_ble_eq_true rfl) rfl (c_X13_isIn_y (x := (y)) (y := (nI (1))) (z := (nI (50))) h0 (by have q0 := nI_toInt (n := 1) (by omega); have q1 := nI_toInt (n := 50) (by omega); omega)) ?_
        refine z_if_eq_n (a := 1) (tgt := 31) dX13_passes_18 (by decide) (by omega) (fun h_18_6 => ?_) (fun h_18_6 => ?_)
        · exact absurd h_18_6 (by decide)
        · refine z_iload_n dX13_passes_21 rfl ?_
          refine z_iconst (v := nI 1) dX13_passes_22 rfl ?_
          refine z_bipush (v := nI 9) dX13_passes_23 rfl ?_
          by_cases hc7 : ((1 : Nat) : Int) ≤ ((z)).toInt ∧ ((z)).toInt ≤ ((9 : Nat) : Int)
          · refine z_callSE (As := [.int (z), .int (nI (1)), .int (nI (9))]) (rest := []) (v := some (.int (nI (1)))) (R2 := zR 0 0) dX13_passes_25 kS_RX13_57 rfl rfl ⟨⟨by decide, by decide⟩, by decide, by decide⟩ rfl (Nat.le_of_ble_eq_true rfl) rfl (c_X13_isIn_y (x := (z)) (y := (nI (1))) (z := (nI (9))) h0 (by have q0 := nI_toInt (n := 1) (by omega); have q1 := nI_toInt (n := 9) (by omega); omega)) ?_
            refine z_if_ne_n (a := 1) (tgt := 37) dX13_passes_28 (by decide) (by omega) (fun h_28_9 => ?_) (fun h_28_9 => ?_)
            · refine z_iload_n dX13_passes_37 rfl ?_
              refine z_iload_n dX13_passes_38 rfl ?_
              refine z_iadd dX13_passes_39 ?_
              have e_r1 := i_rng x
              have e_r2 := i_rng y
              have e_a : (x + y).toInt = x.toInt + y.toInt := i_add (by omega) (by omega)
              refine z_sipush (v := nI 200) dX13_passes_40 rfl ?_
              have hk11 := nI_toInt (n := 200) (by omega)
              refine z_icmp_le_z (tgt := 52) dX13_passes_43 (by decide) (fun h_43_10 => ?_) (fun h_43_10 => ?_)
              · refine z_eq (lv' := [(0, .ref (za g b)), (1, .int (nI (x.toInt.toNat))), (2, .int (nI (y.toInt.toNat))), (3, .int (nI (z.toInt.toNat)))]) rfl rfl (by rw [← i_nat (x := x) (by omega), ← i_nat (x := y) (by omega), ← i_nat (x := z) (by omega)]) ?_
                refine z_aload_n dX13_passes_52 rfl ?_
                refine z_getf (j := b) dX13_passes_53 kF_RX13_16 rfl (by omega) h.ce rfl ?_
                refine z_iconst (v := nI 0) dX13_passes_56 rfl ?_
                refine z_iald_v (j := b + 1) (N := 410) (a := 0) (x := S.1.length) (f := fv) dX13_passes_57 (by omega) h.r1 (by omega) (by omega) (hv.dur) ?_
                refine z_iload_n dX13_passes_58 rfl ?_
                refine z_iload_n dX13_passes_59 rfl ?_
                refine z_iadd_n (a := x.toInt.toNat) (b := y.toInt.toNat) dX13_passes_60 ?_
                refine z_icmp_ge_n (a := S.1.length) (b := (x.toInt.toNat) + (y.toInt.toNat)) (tgt := 73) dX13_passes_61 (by decide) (by omega) (by omega) (fun h_61_12 => ?_) (fun h_61_12 => ?_)
                · refine z_iconst (v := nI 0) dX13_passes_73 rfl ?_
                  refine z_istore (lv' := [(0, .ref (za g b)), (1, .int (nI (x.toInt.toNat))), (2, .int (nI (y.toInt.toNat))), (3, .int (nI (z.toInt.toNat))), (4, .int (nI (0)))]) dX13_passes_74 (by decide) rfl ?_
                  refine z_iload_n dX13_passes_76 rfl ?_
                  refine z_istore (lv' := [(0, .ref (za g b)), (1, .int (nI (x.toInt.toNat))), (2, .int (nI (y.toInt.toNat))), (3, .int (nI (z.toInt.toNat))), (4, .int (nI (0))), (5, .int (nI (x.toInt.toNat)))]) dX13_passes_77 (by decide) rfl ?_
                  have hF0 : fPass x.toInt y.toInt z.toInt = 0 := by unfold fPass; (repeat' split) <;> omega
                  refine loop hF0 (x.toInt.toNat + y.toInt.toNat + 2) x.toInt.toNat 0 _ _ (by omega) zFr.rf h (Nat.le_refl _) (by omega) (fun k hk => ?_) (by rw [Nat.sub_self]; rfl)
                  by_cases c : k = 0
                  · rw [if_pos c, c, show max S.1.length (x.toInt.toNat + y.toInt.toNat) = S.1.length by omega]; exact hv.dur
                  · rw [if_neg c, if_neg (by omega)]
                · refine z_aload_n dX13_passes_64 rfl ?_
                  refine z_getf (j := b) dX13_passes_65 kF_RX13_16 rfl (by omega) h.ce rfl ?_
                  refine z_iconst (v := nI 0) dX13_passes_68 rfl ?_
                  refine z_iload_n dX13_passes_69 rfl ?_
                  refine z_iload_n dX13_passes_70 rfl ?_
                  refine z_iadd_n (a := x.toInt.toNat) (b := y.toInt.toNat) dX13_passes_71 ?_
                  refine z_iast_n (j := b + 1) (N := 410) (a := 0) (f := fv) dX13_passes_72 (by omega) h.r1 (by omega) (by omega) ?_
                  obtain ⟨w13, ew14⟩ : ∃ wz : zW, wz = va_up w (b + 1) (zI g 410 (upd (fv) (0) ((nI ((x.toInt.toNat) + (y.toInt.toNat)))))) := ⟨_, rfl⟩
                  refine z_weq (w' := w13) ew14.symm ?_
                  have hf15 : zFr w w13 (b + 1) (b + 1 + 1) := by rw [ew14]; exact zFr.up (by omega)
                  have hw16 : w13 (b + 1) = zI g 410 (upd (fv) (0) ((nI ((x.toInt.toNat) + (y.toInt.toNat))))) := by rw [ew14, zup_s]
                  have hx17 := h.setV hf15 hw16
                  refine z_iconst (v := nI 0) dX13_passes_73 rfl ?_
                  refine z_istore (lv' := [(0, .ref (za g b)), (1, .int (nI (x.toInt.toNat))), (2, .int (nI (y.toInt.toNat))), (3, .int (nI (z.toInt.toNat))), (4, .int (nI (0)))]) dX13_passes_74 (by decide) rfl ?_
                  refine z_iload_n dX13_passes_76 rfl ?_
                  refine z_istore (lv' := [(0, .ref (za g b)), (1, .int (nI (x.toInt.toNat))), (2, .int (nI (y.toInt.toNat))), (3, .int (nI (z.toInt.toNat))), (4, .int (nI (0))), (5, .int (nI (x.toInt.toNat)))]) dX13_passes_77 (by decide) rfl ?_
                  have hF0 : fPass x.toInt y.toInt z.toInt = 0 := by unfold fPass; (repeat' split) <;> omega
                  refine loop hF0 (x.toInt.toNat + y.toInt.toNat + 2) x.toInt.toNat 0 _ _ (by omega) (hf15.wk (by omega) (by omega)) hx17 (Nat.le_refl _) (by omega) (fun k hk => ?_) (by rw [Nat.sub_self]; rfl)
                  simp only [upd]
                  by_cases c : k = 0
                  · rw [if_pos c, if_pos c, show max S.1.length (x.toInt.toNat + y.toInt.toNat) = x.toInt.toNat + y.toInt.toNat by omega]
                  · rw [if_neg c, if_neg c, if_neg (by omega)]
              · refine z_aload_n dX13_passes_46 rfl ?_
                refine z_iconst (v := nI 2) dX13_passes_47 rfl ?_
                refine z_callR (As := [.int (nI (2))]) (rest := []) (b := b) (ci := 12) (v := some (.int (nI (0)))) (R2 := zR 0 0) dX13_passes_48 kV_RX13_61 rfl ⟨⟨by decide, by decide⟩, by decide, by decide⟩ (by omega) h.ce rfl rfl rfl (Nat.le_of_ble_eq_true rfl) rfl (c_X13_fail (x := (nI (2))) h0 h) (fun w18 pw18 => ?_)
                obtain ⟨hf19, hx20⟩ := pw18
                refine z_iret dX13_passes_51 rfl (by decide) (by decide) ?_
                have hF : spF 0 x.toInt y.toInt z.toInt S = 3 := by simp only [spF]; unfold fPass; (repeat' split) <;> omega
                exact ⟨_, _, _, rfl, hf19, hx20, by rw [hF]; rfl, by rw [if_neg (by rw [hF]; decide)]; exact hv, fun q9 => absurd (hF.symm.trans q9) (by decide)⟩
            · exact absurd h_28_9 (by decide)
          · refine z_callSE (As := [.int (z), .int (nI (1)), .int (nI (9))]) (rest := []) (v := some (.int (nI (0)))) (R2 := zR 0 0) dX13_passes_25 kS_RX13_57 rfl rfl ⟨⟨by decide, by decide⟩, by decide, by decide⟩ rfl (Nat.le_of_ble_eq_true rfl) rfl (c_X13_isIn_n (x := (z)) (y := (nI (1))) (z := (nI (9))) h0 (by have q0 := nI_toInt (n := 1) (by omega); have q1 := nI_toInt (n := 9) (by omega); omega)) ?_
            refine z_if_ne_n (a := 0) (tgt := 37) dX13_passes_28 (by decide) (by omega) (fun h_28_22 => ?_) (fun h_28_22 => ?_)
            · exact absurd h_28_22 (by decide)
            · refine z_aload_n dX13_passes_31 rfl ?_
              refine z_iconst (v := nI 1) dX13_passes_32 rfl ?_
              refine z_callR (As := [.int (nI (1))]) (rest := []) (b := b) (ci := 12) (v := some (.int (nI (0)))) (R2 := zR 0 0) dX13_passes_33 kV_RX13_61 rfl ⟨⟨by decide, by decide⟩, by decide, by decide⟩ (by omega) h.ce rfl rfl rfl (Nat.le_of_ble_eq_true rfl) rfl (c_X13_fail (x := (nI (1))) h0 h) (fun w23 pw23 => ?_)
              obtain ⟨hf24, hx25⟩ := pw23
              refine z_iret dX13_passes_36 rfl (by decide) (by decide) ?_
              have hF : spF 0 x.toInt y.toInt z.toInt S = 2 := by simp only [spF]; unfold fPass; (repeat' split) <;> omega
              exact ⟨_, _, _, rfl, hf24, hx25, by rw [hF]; rfl, by rw [if_neg (by rw [hF]; decide)]; exact hv, fun q9 => absurd (hF.symm.trans q9) (by decide)⟩
      · refine z_callSE (As := [.int (y), .int (nI (1)), .int (nI (50))]) (rest := []) (v := some (.int (nI (0)))) (R2 := zR 0 0) dX13_passes_15 kS_RX13_57 rfl rfl ⟨⟨by decide, by decide⟩, by decide, by decide⟩ rfl (Nat.le_of_ble_eq_true rfl) rfl (c_X13_isIn_n (x := (y)) (y := (nI (1))) (z := (nI (50))) h0 (by have q0 := nI_toInt (n := 1) (by omega); have q1 := nI_toInt (n := 50) (by omega); omega)) ?_
        refine z_if_eq_n (a := 0) (tgt := 31) dX13_passes_18 (by decide) (by omega) (fun h_18_27 => ?_) (fun h_18_27 => ?_)
        · refine z_aload_n dX13_passes_31 rfl ?_
          refine z_iconst (v := nI 1) dX13_passes_32 rfl ?_
          refine z_callR (As := [.int (nI (1))]) (rest := []) (b := b) (ci := 12) (v := some (.int (nI (0)))) (R2 := zR 0 0) dX13_passes_33 kV_RX13_61 rfl ⟨⟨by decide, by decide⟩, by decide, by decide⟩ (by omega) h.ce rfl rfl rfl (Nat.le_of_ble_eq_true rfl) rfl (c_X13_fail (x := (nI (1))) h0 h) (fun w28 pw28 => ?_)
          obtain ⟨hf29, hx30⟩ := pw28
          refine z_iret dX13_passes_36 rfl (by decide) (by decide) ?_
          have hF : spF 0 x.toInt y.toInt z.toInt S = 2 := by simp only [spF]; unfold fPass; (repeat' split) <;> omega
          exact ⟨_, _, _, rfl, hf29, hx30, by rw [hF]; rfl, by rw [if_neg (by rw [hF]; decide)]; exact hv, fun q9 => absurd (hF.symm.trans q9) (by decide)⟩
        · exact absurd h_18_27 (by decide)
  · refine z_callSE (As := [.int (x), .int (nI (0)), .int (nI (199))]) (rest := []) (v := some (.int (nI (0)))) (R2 := zR 0 0) dX13_passes_5 kS_RX13_57 rfl rfl ⟨⟨by decide, by decide⟩, by decide, by decide⟩ rfl (Nat.le_of_ble_eq_true rfl) rfl (c_X13_isIn_n (x := (x)) (y := (nI (0))) (z := (nI (199))) h0 (by have q0 := nI_toInt (n := 0) (by omega); have q1 := nI_toInt (n := 199) (by omega); omega)) ?_
    refine z_if_eq_n (a := 0) (tgt := 31) dX13_passes_8 (by decide) (by omega) (fun h_8_32 => ?_) (fun h_8_32 => ?_)
    · refine z_aload_n dX13_passes_31 rfl ?_
      refine z_iconst (v := nI 1) dX13_passes_32 rfl ?_
      refine z_callR (As := [.int (nI (1))]) (rest := []) (b := b) (ci := 12) (v := some (.int (nI (0)))) (R2 := zR 0 0) dX13_passes_33 kV_RX13_61 rfl ⟨⟨by decide, by decide⟩, by decide, by decide⟩ (by omega) h.ce rfl rfl rfl (Nat.le_of_ble_eq_true rfl) rfl (c_X13_fail (x := (nI (1))) h0 h) (fun w33 pw33 => ?_)
      obtain ⟨hf34, hx35⟩ := pw33
      refine z_iret dX13_passes_36 rfl (by decide) (by decide) ?_
      have hF : spF 0 x.toInt y.toInt z.toInt S = 2 := by simp only [spF]; unfold fPass; (repeat' split) <;> omega
      exact ⟨_, _, _, rfl, hf34, hx35, by rw [hF]; rfl, by rw [if_neg (by rw [hF]; decide)]; exact hv, fun q9 => absurd (hF.symm.trans q9) (by decide)⟩
    · exact absurd h_8_32 (by decide)
set_option maxRecDepth 100000 in
set_option maxHeartbeats 4000000 in
theorem c_X13_mutes {g : zGT} {w : zW} {b : Nat} {th ch ea fa sv tn po en ln kn wr dg : Int32} {fv fb fs fp fh ft fl fi : Nat → Int32} {S : zSt} {x y : Int32} (h0 : zG0 g) (h : Mx g w b th ch ea fa sv tn po en ln kn wr dg fv fb fs fp fh ft fl fi) (hv : VS fv S) : zCt g mX13_mutes (zR 1 0) [.ref (za g b), .int (x), .int (y)] w (fun o w' => ∃ th' f' r, o = .inl (some (.int r)) ∧ zFr w w' b (b + 11) ∧ Mx g w' b (th') ch ea fa sv tn po en ln kn wr dg (f') fb fs fp fh ft fl fi ∧ th' = (if spF 3 x.toInt y.toInt 0 S = 0 then th else nI (plc 3 (spF 3 x.toInt y.toInt 0 S))) ∧ VS f' (if spF 3 x.toInt y.toInt 0 S = 0 then spS 3 x.toInt y.toInt 0 S else S) ∧ (spF 3 x.toInt y.toInt 0 S = 0 → r = nI (spA 3 x.toInt y.toInt 0 S))) := by
  have hb := h.1
  have hl := hv.len
  refine zCt_of (by decide +kernel) h0 [(0, .ref (za g b)), (1, .int (x)), (2, .int (y))] rfl (Nat.le_of_ble_eq_true rfl) ?_
  have loop : fIv S.1.length x.toInt y.toInt = 0 → ∀ (mm : Nat) (i s : Nat) (wi : zW) (f9 : Nat → Int32), y.toInt.toNat + 1 - i < mm → (zFr w wi b (b + 11)) → (Mx g wi b th ch ea fa sv tn po en ln kn wr dg f9 fb fs fp fh ft fl fi) → (x.toInt.toNat ≤ i) → (i ≤ y.toInt.toNat) → (∀ k, k < 410 → f9 k = (if 4 + x.toInt.toNat ≤ k ∧ k < 4 + i then nI 0 else fv k)) → (s = zcnt (fun k => decide (gT S.1 k ≠ 0)) x.toInt.toNat (i - x.toInt.toNat)) → zTr g mX13_mutes (zR 1 0) 0 0 20 [(0, .ref (za g b)), (1, .int (nI (x.toInt.toNat))), (2, .int (nI (y.toInt.toNat))), (3, .int (nI (s))), (4, .int (nI (i)))] [] wi (fun o w' => ∃ th' f' r, o = .inl (some (.int r)) ∧ zFr w w' b (b + 11) ∧ Mx g w' b (th') ch ea fa sv tn po en ln kn wr dg (f') fb fs fp fh ft fl fi ∧ th' = (if spF 3 x.toInt y.toInt 0 S = 0 then th else nI (plc 3 (spF 3 x.toInt y.toInt 0 S))) ∧ VS f' (if spF 3 x.toInt y.toInt 0 S = 0 then spS 3 x.toInt y.toInt 0 S else S) ∧ (spF 3 x.toInt y.toInt 0 S = 0 → r = nI (spA 3 x.toInt y.toInt 0 S))) := by
    intro hF0
    have hp0 := fIv0 hF0
    intro mm
    induction mm with
    | zero => intros; omega
    | succ mm ih =>
      intro i s wi f9 hm hfi hmi hxi hiy hi hs
      refine z_iload dX13_mutes_20 rfl ?_
      refine z_iload_n dX13_mutes_22 rfl ?_
      refine z_icmp_ge_n (a := i) (b := y.toInt.toNat) (tgt := 59) dX13_mutes_23 (by decide) (by omega) (by omega) (fun h_23_1 => ?_) (fun h_23_1 => ?_)
      · refine z_iload_n dX13_mutes_59 rfl ?_
        refine z_iret dX13_mutes_60 rfl (by decide) (by decide) ?_
        have hi9 : i = y.toInt.toNat := by omega
        have hF : spF 3 x.toInt y.toInt 0 S = 0 := hF0
        refine ⟨_, _, _, rfl, hfi.tr zFr.rf, hmi, by rw [if_pos hF], ?_, fun _ => by rw [hs, hi9]; rfl⟩
        rw [if_pos hF]
        refine hv.mkT ((hi _ (by omega)).trans (by rw [if_neg (by omega)]; exact hv.dur)) ((hi _ (by omega)).trans (by rw [if_neg (by omega)]; exact hv.mks)) ((hi _ (by omega)).trans (by rw [if_neg (by omega)])) ((hi _ (by omega)).trans (by rw [if_neg (by omega)]; exact hv.trs)) (fun k hk => ?_) (fun m hm => (hi _ (by have hm8 : m < S.2.1.length := hm; omega)).trans (by rw [if_neg (by omega)]; exact hv.mark hm)) (fun k hk => (hi _ (by omega)).trans (by rw [if_neg (by omega)])) hl.1 hv.mo (fun k hk => by unfold mutF; have := hv.le k; split <;> omega)
        rw [hi _ (by omega), hi9]
        unfold mutF
        by_cases c1 : x.toInt.toNat ≤ k ∧ k < y.toInt.toNat
        · rw [if_pos (by omega), if_pos (by omega), if_pos c1]
        · rw [if_neg (by omega), if_neg c1, hv.tick hk]
          by_cases c2 : k < S.1.length
          · rw [if_pos c2]
          · rw [if_neg c2, gT_out (by omega)]
      · refine z_iload_n dX13_mutes_26 rfl ?_
        refine z_aload_n dX13_mutes_27 rfl ?_
        refine z_iload dX13_mutes_28 rfl ?_
        refine z_callE (As := [.int (nI (i))]) (rest := [.int (nI (s))]) (b := b) (ci := 12) (v := some (.int (nI (gT S.1 (i))))) (R2 := zR 0 0) dX13_mutes_30 kV_RX13_65 rfl ⟨⟨by decide, by decide⟩, by decide, by decide⟩ (by omega) hmi.ce rfl rfl rfl (Nat.le_of_ble_eq_true rfl) rfl (c_X13_level (t := i) (x := gT S.1 (i)) h0 hmi (by omega) (by rw [hi _ (by omega), if_neg (by omega)]; exact hv.tick (by omega))) ?_
        have hlv := hv.le i
        refine z_if_le_n (a := gT S.1 (i)) (tgt := 40) dX13_mutes_33 (by decide) (by omega) (fun h_33_3 => ?_) (fun h_33_3 => ?_)
        · refine z_iconst (v := nI 0) dX13_mutes_40 rfl ?_
          refine z_iadd_n (a := s) (b := 0) dX13_mutes_41 ?_
          refine z_istore_n (lv' := [(0, .ref (za g b)), (1, .int (nI (x.toInt.toNat))), (2, .int (nI (y.toInt.toNat))), (3, .int (nI ((s) + (0)))), (4, .int (nI (i)))]) dX13_mutes_42 (by decide) rfl ?_
          refine z_aload_n dX13_mutes_43 rfl ?_
          refine z_getf (j := b) dX13_mutes_44 kF_RX13_16 rfl (by omega) hmi.ce rfl ?_
          refine z_iconst (v := nI 4) dX13_mutes_47 rfl ?_
          refine z_iload dX13_mutes_48 rfl ?_
          refine z_iadd_n (a := 4) (b := i) dX13_mutes_50 ?_
          refine z_iconst (v := nI 0) dX13_mutes_51 rfl ?_
          refine z_iast_n (j := b + 1) (N := 410) (a := (4) + (i)) (f := f9) dX13_mutes_52 (by omega) hmi.r1 (by omega) (by omega) ?_
          obtain ⟨w4, ew5⟩ : ∃ wz : zW, wz = va_up wi (b + 1) (zI g 410 (upd (f9) ((4) + (i)) ((nI (0))))) := ⟨_, rfl⟩
          refine z_weq (w' := w4) ew5.symm ?_
          have hf6 : zFr wi w4 (b + 1) (b + 1 + 1) := by rw [ew5]; exact zFr.up (by omega)
          have hw7 : w4 (b + 1) = zI g 410 (upd (f9) ((4) + (i)) ((nI (0)))) := by rw [ew5, zup_s]
          have hx8 := hmi.setV hf6 hw7
          refine z_iinc_n (n := 1) (a := i) (lv' := [(0, .ref (za g b)), (1, .int (nI (x.toInt.toNat))), (2, .int (nI (y.toInt.toNat))), (3, .int (nI ((s) + (0)))), (4, .int (nI (i + 1)))]) dX13_mutes_53 rfl (by decide) rfl ?_
          refine z_goto (tgt := 20) dX13_mutes_56 (by decide) ?_
          refine ih (i + 1) _ _ _ (by omega) (hfi.tr (hf6.wk (by omega) (by omega))) hx8 (by omega) (by omega) (fun k hk => ?_) ?_
          · simp only [upd]
            by_cases c : k = 4 + i
            · rw [if_pos c, c]; rw [if_pos (by omega)]
            · rw [if_neg c, hi k hk]
              (repeat' split) <;> first | rfl | (exfalso; omega)
          · rw [zcnt_s hxi, if_neg (by simp only [decide_eq_true_eq]; omega), hs]
        · refine z_iconst (v := nI 1) dX13_mutes_36 rfl ?_
          refine z_goto (tgt := 41) dX13_mutes_37 (by decide) ?_
          refine z_iadd_n (a := s) (b := 1) dX13_mutes_41 ?_
          refine z_istore_n (lv' := [(0, .ref (za g b)), (1, .int (nI (x.toInt.toNat))), (2, .int (nI (y.toInt.toNat))), (3, .int (nI ((s) + (1)))), (4, .int (nI (i)))]) dX13_mutes_42 (by decide) rfl ?_
          refine z_aload_n dX13_mutes_43 rfl ?_
          refine z_getf (j := b) dX13_mutes_44 kF_RX13_16 rfl (by omega) hmi.ce rfl ?_
          refine z_iconst (v := nI 4) dX13_mutes_47 rfl ?_
          refine z_iload dX13_mutes_48 rfl ?_
          refine z_iadd_n (a := 4) (b := i) dX13_mutes_50 ?_
          refine z_iconst (v := nI 0) dX13_mutes_51 rfl ?_
          refine z_iast_n (j := b + 1) (N := 410) (a := (4) + (i)) (f := f9) dX13_mutes_52 (by omega) hmi.r1 (by omega) (by omega) ?_
          obtain ⟨w9, ew10⟩ : ∃ wz : zW, wz = va_up wi (b + 1) (zI g 410 (upd (f9) ((4) + (i)) ((nI (0))))) := ⟨_, rfl⟩
          refine z_weq (w' := w9) ew10.symm ?_
          have hf11 : zFr wi w9 (b + 1) (b + 1 + 1) := by rw [ew10]; exact zFr.up (by omega)
          have hw12 : w9 (b + 1) = zI g 410 (upd (f9) ((4) + (i)) ((nI (0)))) := by rw [ew10, zup_s]
          have hx13 := hmi.setV hf11 hw12
          refine z_iinc_n (n := 1) (a := i) (lv' := [(0, .ref (za g b)), (1, .int (nI (x.toInt.toNat))), (2, .int (nI (y.toInt.toNat))), (3, .int (nI ((s) + (1)))), (4, .int (nI (i + 1)))]) dX13_mutes_53 rfl (by decide) rfl ?_
          refine z_goto (tgt := 20) dX13_mutes_56 (by decide) ?_
          refine ih (i + 1) _ _ _ (by omega) (hfi.tr (hf11.wk (by omega) (by omega))) hx13 (by omega) (by omega) (fun k hk => ?_) ?_
          · simp only [upd]
            by_cases c : k = 4 + i
            · rw [if_pos c, c]; rw [if_pos (by omega)]
            · rw [if_neg c, hi k hk]
              (repeat' split) <;> first | rfl | (exfalso; omega)
          · rw [zcnt_s hxi, if_pos (by simp only [decide_eq_true_eq]; omega), hs]
  refine z_aload_n dX13_mutes_0 rfl ?_
  refine z_iload_n dX13_mutes_1 rfl ?_
  refine z_iload_n dX13_mutes_2 rfl ?_
  by_cases hc1 : 0 ≤ ((x)).toInt ∧ ((x)).toInt ≤ ((y)).toInt ∧ ((y)).toInt ≤ (S.1.length : Nat)
  · refine z_callE (As := [.int (x), .int (y)]) (rest := []) (b := b) (ci := 12) (v := some (.int (nI (1)))) (R2 := zR 0 0) dX13_mutes_3 kV_RX13_86 rfl ⟨⟨by decide, by decide⟩, by decide, by decide⟩ (by omega) h.ce rfl rfl rfl (Nat.le_of_ble_eq_true rfl) rfl (c_X13_isInterval_y h0 h hv hc1) ?_
    refine z_if_ne_n (a := 1) (tgt := 15) dX13_mutes_6 (by decide) (by omega) (fun h_6_3 => ?_) (fun h_6_3 => ?_)
    · refine z_eq (lv' := [(0, .ref (za g b)), (1, .int (nI (x.toInt.toNat))), (2, .int (nI (y.toInt.toNat)))]) rfl rfl (by rw [← i_nat (x := x) (by omega), ← i_nat (x := y) (by omega)]) ?_
      refine z_iconst (v := nI 0) dX13_mutes_15 rfl ?_
      refine z_istore_n (lv' := [(0, .ref (za g b)), (1, .int (nI (x.toInt.toNat))), (2, .int (nI (y.toInt.toNat))), (3, .int (nI (0)))]) dX13_mutes_16 (by decide) rfl ?_
      refine z_iload_n dX13_mutes_17 rfl ?_
      refine z_istore (lv' := [(0, .ref (za g b)), (1, .int (nI (x.toInt.toNat))), (2, .int (nI (y.toInt.toNat))), (3, .int (nI (0))), (4, .int (nI (x.toInt.toNat)))]) dX13_mutes_18 (by decide) rfl ?_
      have hF0 : fIv S.1.length x.toInt y.toInt = 0 := by unfold fIv; rw [if_pos (by omega)]
      exact loop hF0 (y.toInt.toNat + 2) x.toInt.toNat 0 w fv (by omega) zFr.rf h (Nat.le_refl _) (by omega) (fun k hk => by rw [if_neg (by omega)]) (by rw [Nat.sub_self]; rfl)
    · exact absurd h_6_3 (by decide)
  · refine z_callE (As := [.int (x), .int (y)]) (rest := []) (b := b) (ci := 12) (v := some (.int (nI (0)))) (R2 := zR 0 0) dX13_mutes_3 kV_RX13_86 rfl ⟨⟨by decide, by decide⟩, by decide, by decide⟩ (by omega) h.ce rfl rfl rfl (Nat.le_of_ble_eq_true rfl) rfl (c_X13_isInterval_n h0 h hv hc1) ?_
    refine z_if_ne_n (a := 0) (tgt := 15) dX13_mutes_6 (by decide) (by omega) (fun h_6_5 => ?_) (fun h_6_5 => ?_)
    · exact absurd h_6_5 (by decide)
    · refine z_aload_n dX13_mutes_9 rfl ?_
      refine z_iconst (v := nI 1) dX13_mutes_10 rfl ?_
      refine z_callR (As := [.int (nI (1))]) (rest := []) (b := b) (ci := 12) (v := some (.int (nI (0)))) (R2 := zR 0 0) dX13_mutes_11 kV_RX13_61 rfl ⟨⟨by decide, by decide⟩, by decide, by decide⟩ (by omega) h.ce rfl rfl rfl (Nat.le_of_ble_eq_true rfl) rfl (c_X13_fail (x := (nI (1))) h0 h) (fun w6 pw6 => ?_)
      obtain ⟨hf7, hx8⟩ := pw6
      refine z_iret dX13_mutes_14 rfl (by decide) (by decide) ?_
      have hF : spF 3 x.toInt y.toInt 0 S = 1 := by simp only [spF]; unfold fIv; (repeat' split) <;> omega
      exact ⟨_, _, _, rfl, hf7, hx8, by rw [hF]; rfl, by rw [if_neg (by rw [hF]; decide)]; exact hv, fun q9 => absurd (hF.symm.trans q9) (by decide)⟩
set_option maxRecDepth 100000 in
set_option maxHeartbeats 4000000 in
theorem c_X13_shifts {g : zGT} {w : zW} {b : Nat} {th ch ea fa sv tn po en ln kn wr dg : Int32} {fv fb fs fp fh ft fl fi : Nat → Int32} {S : zSt} {x y z : Int32} (h0 : zG0 g) (h : Mx g w b th ch ea fa sv tn po en ln kn wr dg fv fb fs fp fh ft fl fi) (hv : VS fv S) : zCt g mX13_shifts (zR 1 0) [.ref (za g b), .int (x), .int (y), .int (z)] w (fun o w' => ∃ th' f' r, o = .inl (some (.int r)) ∧ zFr w w' b (b + 11) ∧ Mx g w' b (th') ch ea fa sv tn po en ln kn wr dg (f') fb fs fp fh ft fl fi ∧ th' = (if spF 6 x.toInt y.toInt z.toInt S = 0 then th else nI (plc 6 (spF 6 x.toInt y.toInt z.toInt S))) ∧ VS f' (if spF 6 x.toInt y.toInt z.toInt S = 0 then spS 6 x.toInt y.toInt z.toInt S else S) ∧ (spF 6 x.toInt y.toInt z.toInt S = 0 → r = nI (spA 6 x.toInt y.toInt z.toInt S))) := by
  have hb := h.1
  have hl := hv.len
  refine zCt_of (by decide +kernel) h0 [(0, .ref (za g b)), (1, .int (x)), (2, .int (y)), (3, .int (z))] rfl (Nat.le_of_ble_eq_true rfl) ?_
  have loop : fMod S.1.length x.toInt y.toInt z.toInt = 0 → ∀ (mm : Nat) (i s : Nat) (wi : zW) (f9 : Nat → Int32), y.toInt.toNat + 1 - i < mm → (zFr w wi b (b + 11)) → (Mx g wi b th ch ea fa sv tn po en ln kn wr dg f9 fb fs fp fh ft fl fi) → (x.toInt.toNat ≤ i) → (i ≤ y.toInt.toNat) → (∀ k, k < 410 → f9 k = (if 4 + x.toInt.toNat ≤ k ∧ k < 4 + i then nI (shf z.toInt (gT S.1 (k - 4))) else fv k)) → (s = zcnt (fun k => decide (shf z.toInt (gT S.1 k) ≠ gT S.1 k)) x.toInt.toNat (i - x.toInt.toNat)) → zTr g mX13_shifts (zR 1 0) 0 0 42 [(0, .ref (za g b)), (1, .int (nI (x.toInt.toNat))), (2, .int (nI (y.toInt.toNat))), (3, .int (z)), (4, .int (nI (s))), (5, .int (nI (i)))] [] wi (fun o w' => ∃ th' f' r, o = .inl (some (.int r)) ∧ zFr w w' b (b + 11) ∧ Mx g w' b (th') ch ea fa sv tn po en ln kn wr dg (f') fb fs fp fh ft fl fi ∧ th' = (if spF 6 x.toInt y.toInt z.toInt S = 0 then th else nI (plc 6 (spF 6 x.toInt y.toInt z.toInt S))) ∧ VS f' (if spF 6 x.toInt y.toInt z.toInt S = 0 then spS 6 x.toInt y.toInt z.toInt S else S) ∧ (spF 6 x.toInt y.toInt z.toInt S = 0 → r = nI (spA 6 x.toInt y.toInt z.toInt S))) := by
    intro hF0
    have hp0 := fMod0 hF0
    intro mm
    induction mm with
    | zero => intros; omega
    | succ mm ih =>
      intro i s wi f9 hm hfi hmi hxi hiy hi hs
      refine z_iload dX13_shifts_42 rfl ?_
      refine z_iload_n dX13_shifts_44 rfl ?_
      refine z_icmp_ge_n (a := i) (b := y.toInt.toNat) (tgt := 133) dX13_shifts_45 (by decide) (by omega) (by omega) (fun h_45_1 => ?_) (fun h_45_1 => ?_)
      · refine z_iload dX13_shifts_133 rfl ?_
        refine z_iret dX13_shifts_135 rfl (by decide) (by decide) ?_
        have hi9 : i = y.toInt.toNat := by omega
        have hF : spF 6 x.toInt y.toInt z.toInt S = 0 := hF0
        refine ⟨_, _, _, rfl, hfi.tr zFr.rf, hmi, by rw [if_pos hF], ?_, fun _ => by rw [hs, hi9]; rfl⟩
        rw [if_pos hF]
        refine hv.mkT ((hi _ (by omega)).trans (by rw [if_neg (by omega)]; exact hv.dur)) ((hi _ (by omega)).trans (by rw [if_neg (by omega)]; exact hv.mks)) ((hi _ (by omega)).trans (by rw [if_neg (by omega)])) ((hi _ (by omega)).trans (by rw [if_neg (by omega)]; exact hv.trs)) (fun k hk => ?_) (fun m hm => (hi _ (by have hm8 : m < S.2.1.length := hm; omega)).trans (by rw [if_neg (by omega)]; exact hv.mark hm)) (fun k hk => (hi _ (by omega)).trans (by rw [if_neg (by omega)])) hl.1 hv.mo (fun k hk => by unfold shfF; have := hv.le k; split; exact shf_le this; omega)
        rw [hi _ (by omega), hi9]
        unfold shfF
        by_cases c1 : x.toInt.toNat ≤ k ∧ k < y.toInt.toNat
        · rw [if_pos (by omega), if_pos (by omega), if_pos c1, show 4 + k - 4 = k by omega]
        · rw [if_neg (by omega), if_neg c1, hv.tick hk]
          by_cases c2 : k < S.1.length
          · rw [if_pos c2]
          · rw [if_neg c2, gT_out (by omega)]
      · refine z_aload_n dX13_shifts_48 rfl ?_
        refine z_iload dX13_shifts_49 rfl ?_
        refine z_callE (As := [.int (nI (i))]) (rest := []) (b := b) (ci := 12) (v := some (.int (nI (gT S.1 (i))))) (R2 := zR 0 0) dX13_shifts_51 kV_RX13_65 rfl ⟨⟨by decide, by decide⟩, by decide, by decide⟩ (by omega) hmi.ce rfl rfl rfl (Nat.le_of_ble_eq_true rfl) rfl (c_X13_level (t := i) (x := gT S.1 (i)) h0 hmi (by omega) (by rw [hi _ (by omega), if_neg (by omega)]; exact hv.tick (by omega))) ?_
        have hlv := hv.le i
        have e_t := nI_toInt (n := gT S.1 (i)) (by omega)
        have e_a : (nI (gT S.1 (i)) + z).toInt = (gT S.1 (i) : Int) + z.toInt := by rw [← e_t]; exact i_add (by omega) (by omega)
        refine z_istore (lv' := [(0, .ref (za g b)), (1, .int (nI (x.toInt.toNat))), (2, .int (nI (y.toInt.toNat))), (3, .int (z)), (4, .int (nI (s))), (5, .int (nI (i))), (6, .int (nI (gT S.1 (i))))]) dX13_shifts_54 (by decide) rfl ?_
        refine z_iload dX13_shifts_56 rfl ?_
        refine z_iload_n dX13_shifts_58 rfl ?_
        refine z_iadd dX13_shifts_59 ?_
        refine z_istore (lv' := [(0, .ref (za g b)), (1, .int (nI (x.toInt.toNat))), (2, .int (nI (y.toInt.toNat))), (3, .int (z)), (4, .int (nI (s))), (5, .int (nI (i))), (6, .int (nI (gT S.1 (i)))), (7, .int ((nI (gT S.1 (i))) + (z)))]) dX13_shifts_60 (by decide) rfl ?_
        refine z_iload dX13_shifts_62 rfl ?_
        refine z_if_ne_n (a := gT S.1 (i)) (tgt := 70) dX13_shifts_64 (by decide) (by omega) (fun h_64_3 => ?_) (fun h_64_3 => ?_)
        · refine z_aload_n dX13_shifts_70 rfl ?_
          refine z_getf (j := b) dX13_shifts_71 kF_RX13_16 rfl (by omega) hmi.ce rfl ?_
          refine z_iconst (v := nI 4) dX13_shifts_74 rfl ?_
          refine z_iload dX13_shifts_75 rfl ?_
          refine z_iadd_n (a := 4) (b := i) dX13_shifts_77 ?_
          refine z_iload dX13_shifts_78 rfl ?_
          refine z_iconst (v := nI 1) dX13_shifts_80 rfl ?_
          have hk5 := nI_toInt (n := 1) (by omega)
          refine z_icmp_ge_z (tgt := 88) dX13_shifts_81 (by decide) (fun h_81_4 => ?_) (fun h_81_4 => ?_)
          · refine z_iload dX13_shifts_88 rfl ?_
            refine z_bipush (v := nI 9) dX13_shifts_90 rfl ?_
            have hk7 := nI_toInt (n := 9) (by omega)
            refine z_icmp_le_z (tgt := 100) dX13_shifts_92 (by decide) (fun h_92_6 => ?_) (fun h_92_6 => ?_)
            · refine z_iload dX13_shifts_100 rfl ?_
              refine z_eq (st' := [.int (nI (shf z.toInt (gT S.1 (i)))), .int (nI ((4) + (i))), .ref (za g (b + 1))]) rfl (by unfold shf; rw [if_neg (by omega), if_neg (by omega), if_neg (by omega)]; rw [show nI (gT S.1 (i)) + z = nI ((gT S.1 (i) : Int) + z.toInt).toNat from by apply Int32.toInt_inj.mp; rw [e_a, nI_toInt (by omega)]; omega]; rfl) rfl ?_
              have hsh9 := shf_le (s := z.toInt) (hv.le i)
              refine z_iast_n (j := b + 1) (N := 410) (a := (4) + (i)) (f := f9) dX13_shifts_102 (by omega) hmi.r1 (by omega) (by omega) ?_
              obtain ⟨w8, ew9⟩ : ∃ wz : zW, wz = va_up wi (b + 1) (zI g 410 (upd (f9) ((4) + (i)) ((nI (shf z.toInt (gT S.1 (i))))))) := ⟨_, rfl⟩
              refine z_weq (w' := w8) ew9.symm ?_
              have hf10 : zFr wi w8 (b + 1) (b + 1 + 1) := by rw [ew9]; exact zFr.up (by omega)
              have hw11 : w8 (b + 1) = zI g 410 (upd (f9) ((4) + (i)) ((nI (shf z.toInt (gT S.1 (i)))))) := by rw [ew9, zup_s]
              have hx12 := hmi.setV hf10 hw11
              refine z_iload dX13_shifts_103 rfl ?_
              refine z_aload_n dX13_shifts_105 rfl ?_
              refine z_getf (j := b) dX13_shifts_106 kF_RX13_16 rfl (by omega) hx12.ce rfl ?_
              refine z_iconst (v := nI 4) dX13_shifts_109 rfl ?_
              refine z_iload dX13_shifts_110 rfl ?_
              refine z_iadd_n (a := 4) (b := i) dX13_shifts_112 ?_
              refine z_iald_v (j := b + 1) (N := 410) (a := (4) + (i)) (x := shf z.toInt (gT S.1 (i))) (f := upd (f9) ((4) + (i)) ((nI (shf z.toInt (gT S.1 (i)))))) dX13_shifts_113 (by omega) hx12.r1 (by omega) (by omega) (by simp [upd]) ?_
              refine z_iload dX13_shifts_114 rfl ?_
              refine z_icmp_ne_n (a := shf z.toInt (gT S.1 (i))) (b := gT S.1 (i)) (tgt := 123) dX13_shifts_116 (by decide) (by omega) (by omega) (fun h_116_13 => ?_) (fun h_116_13 => ?_)
              · refine z_iconst (v := nI 1) dX13_shifts_123 rfl ?_
                refine z_iadd_n (a := s) (b := 1) dX13_shifts_124 ?_
                refine z_istore (lv' := [(0, .ref (za g b)), (1, .int (nI (x.toInt.toNat))), (2, .int (nI (y.toInt.toNat))), (3, .int (z)), (4, .int (nI ((s) + (1)))), (5, .int (nI (i))), (6, .int (nI (gT S.1 (i)))), (7, .int ((nI (gT S.1 (i))) + (z)))]) dX13_shifts_125 (by decide) rfl ?_
                refine z_iinc_n (n := 1) (a := i) (lv' := [(0, .ref (za g b)), (1, .int (nI (x.toInt.toNat))), (2, .int (nI (y.toInt.toNat))), (3, .int (z)), (4, .int (nI ((s) + (1)))), (5, .int (nI (i + 1))), (6, .int (nI (gT S.1 (i)))), (7, .int ((nI (gT S.1 (i))) + (z)))]) dX13_shifts_127 rfl (by decide) rfl ?_
                refine z_goto (tgt := 42) dX13_shifts_130 (by decide) ?_
                refine z_sub (lv' := [(0, .ref (za g b)), (1, .int (nI (x.toInt.toNat))), (2, .int (nI (y.toInt.toNat))), (3, .int (z)), (4, .int (nI ((s) + (1)))), (5, .int (nI (i + 1)))]) [0, 1, 2, 3, 4, 5] rfl ?_
                refine ih (i + 1) _ _ _ (by omega) (hfi.tr (hf10.wk (by omega) (by omega))) hx12 (by omega) (by omega) (fun k hk => ?_) ?_
                · simp only [upd]
                  by_cases c : k = 4 + i
                  · rw [if_pos c, c, if_pos (by omega), show 4 + i - 4 = i by omega]
                  · rw [if_neg c, hi k hk]
                    (repeat' split) <;> first | rfl | (exfalso; omega)
                · rw [zcnt_s hxi, if_pos (by simp only [decide_eq_true_eq]; omega), hs]
              · refine z_iconst (v := nI 0) dX13_shifts_119 rfl ?_
                refine z_goto (tgt := 124) dX13_shifts_120 (by decide) ?_
                refine z_iadd_n (a := s) (b := 0) dX13_shifts_124 ?_
                refine z_istore (lv' := [(0, .ref (za g b)), (1, .int (nI (x.toInt.toNat))), (2, .int (nI (y.toInt.toNat))), (3, .int (z)), (4, .int (nI ((s) + (0)))), (5, .int (nI (i))), (6, .int (nI (gT S.1 (i)))), (7, .int ((nI (gT S.1 (i))) + (z)))]) dX13_shifts_125 (by decide) rfl ?_
                refine z_iinc_n (n := 1) (a := i) (lv' := [(0, .ref (za g b)), (1, .int (nI (x.toInt.toNat))), (2, .int (nI (y.toInt.toNat))), (3, .int (z)), (4, .int (nI ((s) + (0)))), (5, .int (nI (i + 1))), (6, .int (nI (gT S.1 (i)))), (7, .int ((nI (gT S.1 (i))) + (z)))]) dX13_shifts_127 rfl (by decide) rfl ?_
                refine z_goto (tgt := 42) dX13_shifts_130 (by decide) ?_
                refine z_sub (lv' := [(0, .ref (za g b)), (1, .int (nI (x.toInt.toNat))), (2, .int (nI (y.toInt.toNat))), (3, .int (z)), (4, .int (nI ((s) + (0)))), (5, .int (nI (i + 1)))]) [0, 1, 2, 3, 4, 5] rfl ?_
                refine ih (i + 1) _ _ _ (by omega) (hfi.tr (hf10.wk (by omega) (by omega))) hx12 (by omega) (by omega) (fun k hk => ?_) ?_
                · simp only [upd]
                  by_cases c : k = 4 + i
                  · rw [if_pos c, c, if_pos (by omega), show 4 + i - 4 = i by omega]
                  · rw [if_neg c, hi k hk]
                    (repeat' split) <;> first | rfl | (exfalso; omega)
                · rw [zcnt_s hxi, if_neg (by simp only [decide_eq_true_eq]; omega), hs]
            · refine z_bipush (v := nI 9) dX13_shifts_95 rfl ?_
              refine z_goto (tgt := 102) dX13_shifts_97 (by decide) ?_
              refine z_eq (st' := [.int (nI (shf z.toInt (gT S.1 (i)))), .int (nI ((4) + (i))), .ref (za g (b + 1))]) rfl (by unfold shf; rw [if_neg (by omega), if_neg (by omega), if_pos (by omega)]; rfl) rfl ?_
              have hsh9 := shf_le (s := z.toInt) (hv.le i)
              refine z_iast_n (j := b + 1) (N := 410) (a := (4) + (i)) (f := f9) dX13_shifts_102 (by omega) hmi.r1 (by omega) (by omega) ?_
              obtain ⟨w14, ew15⟩ : ∃ wz : zW, wz = va_up wi (b + 1) (zI g 410 (upd (f9) ((4) + (i)) ((nI (shf z.toInt (gT S.1 (i))))))) := ⟨_, rfl⟩
              refine z_weq (w' := w14) ew15.symm ?_
              have hf16 : zFr wi w14 (b + 1) (b + 1 + 1) := by rw [ew15]; exact zFr.up (by omega)
              have hw17 : w14 (b + 1) = zI g 410 (upd (f9) ((4) + (i)) ((nI (shf z.toInt (gT S.1 (i)))))) := by rw [ew15, zup_s]
              have hx18 := hmi.setV hf16 hw17
              refine z_iload dX13_shifts_103 rfl ?_
              refine z_aload_n dX13_shifts_105 rfl ?_
              refine z_getf (j := b) dX13_shifts_106 kF_RX13_16 rfl (by omega) hx18.ce rfl ?_
              refine z_iconst (v := nI 4) dX13_shifts_109 rfl ?_
              refine z_iload dX13_shifts_110 rfl ?_
              refine z_iadd_n (a := 4) (b := i) dX13_shifts_112 ?_
              refine z_iald_v (j := b + 1) (N := 410) (a := (4) + (i)) (x := shf z.toInt (gT S.1 (i))) (f := upd (f9) ((4) + (i)) ((nI (shf z.toInt (gT S.1 (i)))))) dX13_shifts_113 (by omega) hx18.r1 (by omega) (by omega) (by simp [upd]) ?_
              refine z_iload dX13_shifts_114 rfl ?_
              refine z_icmp_ne_n (a := shf z.toInt (gT S.1 (i))) (b := gT S.1 (i)) (tgt := 123) dX13_shifts_116 (by decide) (by omega) (by omega) (fun h_116_19 => ?_) (fun h_116_19 => ?_)
              · refine z_iconst (v := nI 1) dX13_shifts_123 rfl ?_
                refine z_iadd_n (a := s) (b := 1) dX13_shifts_124 ?_
                refine z_istore (lv' := [(0, .ref (za g b)), (1, .int (nI (x.toInt.toNat))), (2, .int (nI (y.toInt.toNat))), (3, .int (z)), (4, .int (nI ((s) + (1)))), (5, .int (nI (i))), (6, .int (nI (gT S.1 (i)))), (7, .int ((nI (gT S.1 (i))) + (z)))]) dX13_shifts_125 (by decide) rfl ?_
                refine z_iinc_n (n := 1) (a := i) (lv' := [(0, .ref (za g b)), (1, .int (nI (x.toInt.toNat))), (2, .int (nI (y.toInt.toNat))), (3, .int (z)), (4, .int (nI ((s) + (1)))), (5, .int (nI (i + 1))), (6, .int (nI (gT S.1 (i)))), (7, .int ((nI (gT S.1 (i))) + (z)))]) dX13_shifts_127 rfl (by decide) rfl ?_
                refine z_goto (tgt := 42) dX13_shifts_130 (by decide) ?_
                refine z_sub (lv' := [(0, .ref (za g b)), (1, .int (nI (x.toInt.toNat))), (2, .int (nI (y.toInt.toNat))), (3, .int (z)), (4, .int (nI ((s) + (1)))), (5, .int (nI (i + 1)))]) [0, 1, 2, 3, 4, 5] rfl ?_
                refine ih (i + 1) _ _ _ (by omega) (hfi.tr (hf16.wk (by omega) (by omega))) hx18 (by omega) (by omega) (fun k hk => ?_) ?_
                · simp only [upd]
                  by_cases c : k = 4 + i
                  · rw [if_pos c, c, if_pos (by omega), show 4 + i - 4 = i by omega]
                  · rw [if_neg c, hi k hk]
                    (repeat' split) <;> first | rfl | (exfalso; omega)
                · rw [zcnt_s hxi, if_pos (by simp only [decide_eq_true_eq]; omega), hs]
              · refine z_iconst (v := nI 0) dX13_shifts_119 rfl ?_
                refine z_goto (tgt := 124) dX13_shifts_120 (by decide) ?_
                refine z_iadd_n (a := s) (b := 0) dX13_shifts_124 ?_
                refine z_istore (lv' := [(0, .ref (za g b)), (1, .int (nI (x.toInt.toNat))), (2, .int (nI (y.toInt.toNat))), (3, .int (z)), (4, .int (nI ((s) + (0)))), (5, .int (nI (i))), (6, .int (nI (gT S.1 (i)))), (7, .int ((nI (gT S.1 (i))) + (z)))]) dX13_shifts_125 (by decide) rfl ?_
                refine z_iinc_n (n := 1) (a := i) (lv' := [(0, .ref (za g b)), (1, .int (nI (x.toInt.toNat))), (2, .int (nI (y.toInt.toNat))), (3, .int (z)), (4, .int (nI ((s) + (0)))), (5, .int (nI (i + 1))), (6, .int (nI (gT S.1 (i)))), (7, .int ((nI (gT S.1 (i))) + (z)))]) dX13_shifts_127 rfl (by decide) rfl ?_
                refine z_goto (tgt := 42) dX13_shifts_130 (by decide) ?_
                refine z_sub (lv' := [(0, .ref (za g b)), (1, .int (nI (x.toInt.toNat))), (2, .int (nI (y.toInt.toNat))), (3, .int (z)), (4, .int (nI ((s) + (0)))), (5, .int (nI (i + 1)))]) [0, 1, 2, 3, 4, 5] rfl ?_
                refine ih (i + 1) _ _ _ (by omega) (hfi.tr (hf16.wk (by omega) (by omega))) hx18 (by omega) (by omega) (fun k hk => ?_) ?_
                · simp only [upd]
                  by_cases c : k = 4 + i
                  · rw [if_pos c, c, if_pos (by omega), show 4 + i - 4 = i by omega]
                  · rw [if_neg c, hi k hk]
                    (repeat' split) <;> first | rfl | (exfalso; omega)
                · rw [zcnt_s hxi, if_neg (by simp only [decide_eq_true_eq]; omega), hs]
          · refine z_iconst (v := nI 1) dX13_shifts_84 rfl ?_
            refine z_goto (tgt := 102) dX13_shifts_85 (by decide) ?_
            refine z_eq (st' := [.int (nI (shf z.toInt (gT S.1 (i)))), .int (nI ((4) + (i))), .ref (za g (b + 1))]) rfl (by unfold shf; rw [if_neg (by omega), if_pos (by omega)]; rfl) rfl ?_
            have hsh9 := shf_le (s := z.toInt) (hv.le i)
            refine z_iast_n (j := b + 1) (N := 410) (a := (4) + (i)) (f := f9) dX13_shifts_102 (by omega) hmi.r1 (by omega) (by omega) ?_
            obtain ⟨w20, ew21⟩ : ∃ wz : zW, wz = va_up wi (b + 1) (zI g 410 (upd (f9) ((4) + (i)) ((nI (shf z.toInt (gT S.1 (i))))))) := ⟨_, rfl⟩
            refine z_weq (w' := w20) ew21.symm ?_
            have hf22 : zFr wi w20 (b + 1) (b + 1 + 1) := by rw [ew21]; exact zFr.up (by omega)
            have hw23 : w20 (b + 1) = zI g 410 (upd (f9) ((4) + (i)) ((nI (shf z.toInt (gT S.1 (i)))))) := by rw [ew21, zup_s]
            have hx24 := hmi.setV hf22 hw23
            refine z_iload dX13_shifts_103 rfl ?_
            refine z_aload_n dX13_shifts_105 rfl ?_
            refine z_getf (j := b) dX13_shifts_106 kF_RX13_16 rfl (by omega) hx24.ce rfl ?_
            refine z_iconst (v := nI 4) dX13_shifts_109 rfl ?_
            refine z_iload dX13_shifts_110 rfl ?_
            refine z_iadd_n (a := 4) (b := i) dX13_shifts_112 ?_
            refine z_iald_v (j := b + 1) (N := 410) (a := (4) + (i)) (x := shf z.toInt (gT S.1 (i))) (f := upd (f9) ((4) + (i)) ((nI (shf z.toInt (gT S.1 (i)))))) dX13_shifts_113 (by omega) hx24.r1 (by omega) (by omega) (by simp [upd]) ?_
            refine z_iload dX13_shifts_114 rfl ?_
            refine z_icmp_ne_n (a := shf z.toInt (gT S.1 (i))) (b := gT S.1 (i)) (tgt := 123) dX13_shifts_116 (by decide) (by omega) (by omega) (fun h_116_25 => ?_) (fun h_116_25 => ?_)
            · refine z_iconst (v := nI 1) dX13_shifts_123 rfl ?_
              refine z_iadd_n (a := s) (b := 1) dX13_shifts_124 ?_
              refine z_istore (lv' := [(0, .ref (za g b)), (1, .int (nI (x.toInt.toNat))), (2, .int (nI (y.toInt.toNat))), (3, .int (z)), (4, .int (nI ((s) + (1)))), (5, .int (nI (i))), (6, .int (nI (gT S.1 (i)))), (7, .int ((nI (gT S.1 (i))) + (z)))]) dX13_shifts_125 (by decide) rfl ?_
              refine z_iinc_n (n := 1) (a := i) (lv' := [(0, .ref (za g b)), (1, .int (nI (x.toInt.toNat))), (2, .int (nI (y.toInt.toNat))), (3, .int (z)), (4, .int (nI ((s) + (1)))), (5, .int (nI (i + 1))), (6, .int (nI (gT S.1 (i)))), (7, .int ((nI (gT S.1 (i))) + (z)))]) dX13_shifts_127 rfl (by decide) rfl ?_
              refine z_goto (tgt := 42) dX13_shifts_130 (by decide) ?_
              refine z_sub (lv' := [(0, .ref (za g b)), (1, .int (nI (x.toInt.toNat))), (2, .int (nI (y.toInt.toNat))), (3, .int (z)), (4, .int (nI ((s) + (1)))), (5, .int (nI (i + 1)))]) [0, 1, 2, 3, 4, 5] rfl ?_
              refine ih (i + 1) _ _ _ (by omega) (hfi.tr (hf22.wk (by omega) (by omega))) hx24 (by omega) (by omega) (fun k hk => ?_) ?_
              · simp only [upd]
                by_cases c : k = 4 + i
                · rw [if_pos c, c, if_pos (by omega), show 4 + i - 4 = i by omega]
                · rw [if_neg c, hi k hk]
                  (repeat' split) <;> first | rfl | (exfalso; omega)
              · rw [zcnt_s hxi, if_pos (by simp only [decide_eq_true_eq]; omega), hs]
            · refine z_iconst (v := nI 0) dX13_shifts_119 rfl ?_
              refine z_goto (tgt := 124) dX13_shifts_120 (by decide) ?_
              refine z_iadd_n (a := s) (b := 0) dX13_shifts_124 ?_
              refine z_istore (lv' := [(0, .ref (za g b)), (1, .int (nI (x.toInt.toNat))), (2, .int (nI (y.toInt.toNat))), (3, .int (z)), (4, .int (nI ((s) + (0)))), (5, .int (nI (i))), (6, .int (nI (gT S.1 (i)))), (7, .int ((nI (gT S.1 (i))) + (z)))]) dX13_shifts_125 (by decide) rfl ?_
              refine z_iinc_n (n := 1) (a := i) (lv' := [(0, .ref (za g b)), (1, .int (nI (x.toInt.toNat))), (2, .int (nI (y.toInt.toNat))), (3, .int (z)), (4, .int (nI ((s) + (0)))), (5, .int (nI (i + 1))), (6, .int (nI (gT S.1 (i)))), (7, .int ((nI (gT S.1 (i))) + (z)))]) dX13_shifts_127 rfl (by decide) rfl ?_
              refine z_goto (tgt := 42) dX13_shifts_130 (by decide) ?_
              refine z_sub (lv' := [(0, .ref (za g b)), (1, .int (nI (x.toInt.toNat))), (2, .int (nI (y.toInt.toNat))), (3, .int (z)), (4, .int (nI ((s) + (0)))), (5, .int (nI (i + 1)))]) [0, 1, 2, 3, 4, 5] rfl ?_
              refine ih (i + 1) _ _ _ (by omega) (hfi.tr (hf22.wk (by omega) (by omega))) hx24 (by omega) (by omega) (fun k hk => ?_) ?_
              · simp only [upd]
                by_cases c : k = 4 + i
                · rw [if_pos c, c, if_pos (by omega), show 4 + i - 4 = i by omega]
                · rw [if_neg c, hi k hk]
                  (repeat' split) <;> first | rfl | (exfalso; omega)
              · rw [zcnt_s hxi, if_neg (by simp only [decide_eq_true_eq]; omega), hs]
        · refine z_goto (tgt := 127) dX13_shifts_67 (by decide) ?_
          refine z_iinc_n (n := 1) (a := i) (lv' := [(0, .ref (za g b)), (1, .int (nI (x.toInt.toNat))), (2, .int (nI (y.toInt.toNat))), (3, .int (z)), (4, .int (nI (s))), (5, .int (nI (i + 1))), (6, .int (nI (gT S.1 (i)))), (7, .int ((nI (gT S.1 (i))) + (z)))]) dX13_shifts_127 rfl (by decide) rfl ?_
          refine z_goto (tgt := 42) dX13_shifts_130 (by decide) ?_
          refine z_sub (lv' := [(0, .ref (za g b)), (1, .int (nI (x.toInt.toNat))), (2, .int (nI (y.toInt.toNat))), (3, .int (z)), (4, .int (nI (s))), (5, .int (nI (i + 1)))]) [0, 1, 2, 3, 4, 5] rfl ?_
          have hs0 : shf z.toInt (gT S.1 i) = gT S.1 i := by unfold shf; rw [if_pos (by omega)]; omega
          refine ih (i + 1) _ _ _ (by omega) (hfi.tr zFr.rf) hmi (by omega) (by omega) (fun k hk => ?_) ?_
          · by_cases c : k = 4 + i
            · rw [hi k hk, c, if_neg (by omega), if_pos (by omega), show 4 + i - 4 = i by omega, hs0]; exact hv.tick (by omega)
            · rw [hi k hk]
              (repeat' split) <;> first | rfl | (exfalso; omega)
          · rw [zcnt_s hxi, if_neg (by simp only [decide_eq_true_eq]; omega), hs, Nat.add_zero]
  refine z_aload_n dX13_shifts_0 rfl ?_
  refine z_iload_n dX13_shifts_1 rfl ?_
  refine z_iload_n dX13_shifts_2 rfl ?_
  by_cases hc1 : 0 ≤ ((x)).toInt ∧ ((x)).toInt ≤ ((y)).toInt ∧ ((y)).toInt ≤ (S.1.length : Nat)
  · refine z_callE (As := [.int (x), .int (y)]) (rest := []) (b := b) (ci := 12) (v := some (.int (nI (1)))) (R2 := zR 0 0) dX13_shifts_3 kV_RX13_86 rfl ⟨⟨by decide, by decide⟩, by decide, by decide⟩ (by omega) h.ce rfl rfl rfl (Nat.le_of_ble_eq_true rfl) rfl (c_X13_isInterval_y h0 h hv hc1) ?_
    refine z_if_ne_n (a := 1) (tgt := 15) dX13_shifts_6 (by decide) (by omega) (fun h_6_3 => ?_) (fun h_6_3 => ?_)
    · refine z_iload_n dX13_shifts_15 rfl ?_
      refine z_if_eq_z (tgt := 30) dX13_shifts_16 (by decide) (fun h_16_4 => ?_) (fun h_16_4 => ?_)
      · refine z_aload_n dX13_shifts_30 rfl ?_
        refine z_iconst (v := nI 2) dX13_shifts_31 rfl ?_
        refine z_callR (As := [.int (nI (2))]) (rest := []) (b := b) (ci := 12) (v := some (.int (nI (0)))) (R2 := zR 0 0) dX13_shifts_32 kV_RX13_61 rfl ⟨⟨by decide, by decide⟩, by decide, by decide⟩ (by omega) h.ce rfl rfl rfl (Nat.le_of_ble_eq_true rfl) rfl (c_X13_fail (x := (nI (2))) h0 h) (fun w5 pw5 => ?_)
        obtain ⟨hf6, hx7⟩ := pw5
        refine z_iret dX13_shifts_35 rfl (by decide) (by decide) ?_
        have hF : spF 6 x.toInt y.toInt z.toInt S = 2 := by simp only [spF]; unfold fMod; (repeat' split) <;> omega
        exact ⟨_, _, _, rfl, hf6, hx7, by rw [hF]; rfl, by rw [if_neg (by rw [hF]; decide)]; exact hv, fun q9 => absurd (hF.symm.trans q9) (by decide)⟩
      · refine z_iload_n dX13_shifts_19 rfl ?_
        refine z_bipush (v := -8) dX13_shifts_20 rfl ?_
        refine z_bipush (v := nI 8) dX13_shifts_22 rfl ?_
        by_cases hc8 : (-8 : Int) ≤ ((z)).toInt ∧ ((z)).toInt ≤ ((8 : Nat) : Int)
        · refine z_callSE (As := [.int (z), .int (-8), .int (nI (8))]) (rest := []) (v := some (.int (nI (1)))) (R2 := zR 0 0) dX13_shifts_24 kS_RX13_57 rfl rfl ⟨⟨by decide, by decide⟩, by decide, by decide⟩ rfl (Nat.le_of_ble_eq_true rfl) rfl (c_X13_isIn_y (x := (z)) (y := (-8)) (z := (nI (8))) h0 (by have q0 := (show ((-8 : Int32)).toInt = -8 from by decide); have q1 := nI_toInt (n := 8) (by omega); omega)) ?_
          refine z_if_ne_n (a := 1) (tgt := 36) dX13_shifts_27 (by decide) (by omega) (fun h_27_10 => ?_) (fun h_27_10 => ?_)
          · refine z_eq (lv' := [(0, .ref (za g b)), (1, .int (nI (x.toInt.toNat))), (2, .int (nI (y.toInt.toNat))), (3, .int (z))]) rfl rfl (by rw [← i_nat (x := x) (by omega), ← i_nat (x := y) (by omega)]) ?_
            refine z_iconst (v := nI 0) dX13_shifts_36 rfl ?_
            refine z_istore (lv' := [(0, .ref (za g b)), (1, .int (nI (x.toInt.toNat))), (2, .int (nI (y.toInt.toNat))), (3, .int (z)), (4, .int (nI (0)))]) dX13_shifts_37 (by decide) rfl ?_
            refine z_iload_n dX13_shifts_39 rfl ?_
            refine z_istore (lv' := [(0, .ref (za g b)), (1, .int (nI (x.toInt.toNat))), (2, .int (nI (y.toInt.toNat))), (3, .int (z)), (4, .int (nI (0))), (5, .int (nI (x.toInt.toNat)))]) dX13_shifts_40 (by decide) rfl ?_
            have hF0 : fMod S.1.length x.toInt y.toInt z.toInt = 0 := by unfold fMod; (repeat' split) <;> omega
            exact loop hF0 (y.toInt.toNat + 2) x.toInt.toNat 0 w fv (by omega) zFr.rf h (Nat.le_refl _) (by omega) (fun k hk => by rw [if_neg (by omega)]) (by rw [Nat.sub_self]; rfl)
          · exact absurd h_27_10 (by decide)
        · refine z_callSE (As := [.int (z), .int (-8), .int (nI (8))]) (rest := []) (v := some (.int (nI (0)))) (R2 := zR 0 0) dX13_shifts_24 kS_RX13_57 rfl rfl ⟨⟨by decide, by decide⟩, by decide, by decide⟩ rfl (Nat.le_of_ble_eq_true rfl) rfl (c_X13_isIn_n (x := (z)) (y := (-8)) (z := (nI (8))) h0 (by have q0 := (show ((-8 : Int32)).toInt = -8 from by decide); have q1 := nI_toInt (n := 8) (by omega); omega)) ?_
          refine z_if_ne_n (a := 0) (tgt := 36) dX13_shifts_27 (by decide) (by omega) (fun h_27_12 => ?_) (fun h_27_12 => ?_)
          · exact absurd h_27_12 (by decide)
          · refine z_aload_n dX13_shifts_30 rfl ?_
            refine z_iconst (v := nI 2) dX13_shifts_31 rfl ?_
            refine z_callR (As := [.int (nI (2))]) (rest := []) (b := b) (ci := 12) (v := some (.int (nI (0)))) (R2 := zR 0 0) dX13_shifts_32 kV_RX13_61 rfl ⟨⟨by decide, by decide⟩, by decide, by decide⟩ (by omega) h.ce rfl rfl rfl (Nat.le_of_ble_eq_true rfl) rfl (c_X13_fail (x := (nI (2))) h0 h) (fun w13 pw13 => ?_)
            obtain ⟨hf14, hx15⟩ := pw13
            refine z_iret dX13_shifts_35 rfl (by decide) (by decide) ?_
            have hF : spF 6 x.toInt y.toInt z.toInt S = 2 := by simp only [spF]; unfold fMod; (repeat' split) <;> omega
            exact ⟨_, _, _, rfl, hf14, hx15, by rw [hF]; rfl, by rw [if_neg (by rw [hF]; decide)]; exact hv, fun q9 => absurd (hF.symm.trans q9) (by decide)⟩
    · exact absurd h_6_3 (by decide)
  · refine z_callE (As := [.int (x), .int (y)]) (rest := []) (b := b) (ci := 12) (v := some (.int (nI (0)))) (R2 := zR 0 0) dX13_shifts_3 kV_RX13_86 rfl ⟨⟨by decide, by decide⟩, by decide, by decide⟩ (by omega) h.ce rfl rfl rfl (Nat.le_of_ble_eq_true rfl) rfl (c_X13_isInterval_n h0 h hv hc1) ?_
    refine z_if_ne_n (a := 0) (tgt := 15) dX13_shifts_6 (by decide) (by omega) (fun h_6_17 => ?_) (fun h_6_17 => ?_)
    · exact absurd h_6_17 (by decide)
    · refine z_aload_n dX13_shifts_9 rfl ?_
      refine z_iconst (v := nI 1) dX13_shifts_10 rfl ?_
      refine z_callR (As := [.int (nI (1))]) (rest := []) (b := b) (ci := 12) (v := some (.int (nI (0)))) (R2 := zR 0 0) dX13_shifts_11 kV_RX13_61 rfl ⟨⟨by decide, by decide⟩, by decide, by decide⟩ (by omega) h.ce rfl rfl rfl (Nat.le_of_ble_eq_true rfl) rfl (c_X13_fail (x := (nI (1))) h0 h) (fun w18 pw18 => ?_)
      obtain ⟨hf19, hx20⟩ := pw18
      refine z_iret dX13_shifts_14 rfl (by decide) (by decide) ?_
      have hF : spF 6 x.toInt y.toInt z.toInt S = 1 := by simp only [spF]; unfold fMod; (repeat' split) <;> omega
      exact ⟨_, _, _, rfl, hf19, hx20, by rw [hF]; rfl, by rw [if_neg (by rw [hF]; decide)]; exact hv, fun q9 => absurd (hF.symm.trans q9) (by decide)⟩
set_option maxRecDepth 100000 in
set_option maxHeartbeats 4000000 in
theorem c_X13_copies {g : zGT} {w : zW} {b : Nat} {th ch ea fa sv tn po en ln kn wr dg : Int32} {fv fb fs fp fh ft fl fi : Nat → Int32} {S : zSt} {x y : Int32} (h0 : zG0 g) (h : Mx g w b th ch ea fa sv tn po en ln kn wr dg fv fb fs fp fh ft fl fi) (hv : VS fv S) : zCt g mX13_copies (zR 1 0) [.ref (za g b), .int (x), .int (y)] w (fun o w' => ∃ th' f' r, o = .inl (some (.int r)) ∧ zFr w w' b (b + 11) ∧ Mx g w' b (th') ch ea fa sv tn po en ln kn wr dg (f') fb fs fp fh ft fl fi ∧ th' = (if spF 5 x.toInt y.toInt 0 S = 0 then th else nI (plc 5 (spF 5 x.toInt y.toInt 0 S))) ∧ VS f' (if spF 5 x.toInt y.toInt 0 S = 0 then spS 5 x.toInt y.toInt 0 S else S) ∧ (spF 5 x.toInt y.toInt 0 S = 0 → r = nI (spA 5 x.toInt y.toInt 0 S))) := by
  have hb := h.1
  have hl := hv.len
  refine zCt_of (by decide +kernel) h0 [(0, .ref (za g b)), (1, .int (x)), (2, .int (y))] rfl (Nat.le_of_ble_eq_true rfl) ?_
  have loop : fIv S.1.length x.toInt y.toInt = 0 → ∀ (mm : Nat) (i : Nat) (wi : zW) (f9 : Nat → Int32), 201 - i < mm → (zFr w wi b (b + 11)) → (Mx g wi b th ch ea fa sv tn po en ln kn wr dg f9 fb fs fp fh ft fl fi) → (i ≤ 200) → (∀ k, k < 410 → f9 k = (if 210 ≤ k ∧ k < 210 + i then nI (if x.toInt.toNat + (k - 210) < y.toInt.toNat then gT S.1 (x.toInt.toNat + (k - 210)) else 0) else fv k)) → zTr g mX13_copies (zR 1 0) 0 0 17 [(0, .ref (za g b)), (1, .int (nI (x.toInt.toNat))), (2, .int (nI (y.toInt.toNat))), (3, .int (nI (i)))] [] wi (fun o w' => ∃ th' f' r, o = .inl (some (.int r)) ∧ zFr w w' b (b + 11) ∧ Mx g w' b (th') ch ea fa sv tn po en ln kn wr dg (f') fb fs fp fh ft fl fi ∧ th' = (if spF 5 x.toInt y.toInt 0 S = 0 then th else nI (plc 5 (spF 5 x.toInt y.toInt 0 S))) ∧ VS f' (if spF 5 x.toInt y.toInt 0 S = 0 then spS 5 x.toInt y.toInt 0 S else S) ∧ (spF 5 x.toInt y.toInt 0 S = 0 → r = nI (spA 5 x.toInt y.toInt 0 S))) := by
    intro hF0
    have hp0 := fIv0 hF0
    intro mm
    induction mm with
    | zero => intros; omega
    | succ mm ih =>
      intro i wi f9 hm hfi hmi hi2 hi
      refine z_iload_n dX13_copies_17 rfl ?_
      refine z_sipush (v := nI 200) dX13_copies_18 rfl ?_
      refine z_icmp_ge_n (a := i) (b := 200) (tgt := 58) dX13_copies_21 (by decide) (by omega) (by omega) (fun h_21_1 => ?_) (fun h_21_1 => ?_)
      · refine z_aload_n dX13_copies_58 rfl ?_
        refine z_getf (j := b) dX13_copies_59 kF_RX13_16 rfl (by omega) hmi.ce rfl ?_
        refine z_iconst (v := nI 2) dX13_copies_62 rfl ?_
        refine z_iload_n dX13_copies_63 rfl ?_
        refine z_iload_n dX13_copies_64 rfl ?_
        refine z_isub_n (a := y.toInt.toNat) (b := x.toInt.toNat) dX13_copies_65 (by omega) ?_
        refine z_iast_n (j := b + 1) (N := 410) (a := 2) (f := f9) dX13_copies_66 (by omega) hmi.r1 (by omega) (by omega) ?_
        obtain ⟨w2, ew3⟩ : ∃ wz : zW, wz = va_up wi (b + 1) (zI g 410 (upd (f9) (2) ((nI ((y.toInt.toNat) - (x.toInt.toNat)))))) := ⟨_, rfl⟩
        refine z_weq (w' := w2) ew3.symm ?_
        have hf4 : zFr wi w2 (b + 1) (b + 1 + 1) := by rw [ew3]; exact zFr.up (by omega)
        have hw5 : w2 (b + 1) = zI g 410 (upd (f9) (2) ((nI ((y.toInt.toNat) - (x.toInt.toNat))))) := by rw [ew3, zup_s]
        have hx6 := hmi.setV hf4 hw5
        refine z_aload_n dX13_copies_67 rfl ?_
        refine z_getf (j := b) dX13_copies_68 kF_RX13_16 rfl (by omega) hx6.ce rfl ?_
        refine z_iconst (v := nI 2) dX13_copies_71 rfl ?_
        refine z_iald_v (j := b + 1) (N := 410) (a := 2) (x := (y.toInt.toNat) - (x.toInt.toNat)) (f := upd (f9) (2) ((nI ((y.toInt.toNat) - (x.toInt.toNat))))) dX13_copies_72 (by omega) hx6.r1 (by omega) (by omega) (by simp [upd]) ?_
        refine z_iret dX13_copies_73 rfl (by decide) (by decide) ?_
        have hi9 : i = 200 := by omega
        have hF : spF 5 x.toInt y.toInt 0 S = 0 := hF0
        refine ⟨_, _, _, rfl, hfi.tr (hf4.wk (by omega) (by omega)), hx6, by rw [if_pos hF], ?_, fun _ => rfl⟩
        rw [if_pos hF]
        refine hv.mkC (by simp [upd]) (fun k hk hk2 => ?_) (fun k hk => ?_) (by omega) (fun k hk => hv.le _)
        · simp only [upd]; rw [if_neg hk2, hi _ (by omega), if_neg (by omega)]
        · simp only [upd]; rw [if_neg (by omega), hi _ (by omega), if_pos (by omega), show 210 + k - 210 = k by omega, if_pos (by omega)]
      · refine z_aload_n dX13_copies_24 rfl ?_
        refine z_getf (j := b) dX13_copies_25 kF_RX13_16 rfl (by omega) hmi.ce rfl ?_
        refine z_sipush (v := nI 210) dX13_copies_28 rfl ?_
        refine z_iload_n dX13_copies_31 rfl ?_
        refine z_iadd_n (a := 210) (b := i) dX13_copies_32 ?_
        refine z_iload_n dX13_copies_33 rfl ?_
        refine z_iload_n dX13_copies_34 rfl ?_
        refine z_iadd_n (a := x.toInt.toNat) (b := i) dX13_copies_35 ?_
        refine z_iload_n dX13_copies_36 rfl ?_
        refine z_icmp_ge_n (a := (x.toInt.toNat) + (i)) (b := y.toInt.toNat) (tgt := 50) dX13_copies_37 (by decide) (by omega) (by omega) (fun h_37_7 => ?_) (fun h_37_7 => ?_)
        · refine z_iconst (v := nI 0) dX13_copies_50 rfl ?_
          refine z_iast_n (j := b + 1) (N := 410) (a := (210) + (i)) (f := f9) dX13_copies_51 (by omega) hmi.r1 (by omega) (by omega) ?_
          obtain ⟨w8, ew9⟩ : ∃ wz : zW, wz = va_up wi (b + 1) (zI g 410 (upd (f9) ((210) + (i)) ((nI (0))))) := ⟨_, rfl⟩
          refine z_weq (w' := w8) ew9.symm ?_
          have hf10 : zFr wi w8 (b + 1) (b + 1 + 1) := by rw [ew9]; exact zFr.up (by omega)
          have hw11 : w8 (b + 1) = zI g 410 (upd (f9) ((210) + (i)) ((nI (0)))) := by rw [ew9, zup_s]
          have hx12 := hmi.setV hf10 hw11
          refine z_iinc_n (n := 1) (a := i) (lv' := [(0, .ref (za g b)), (1, .int (nI (x.toInt.toNat))), (2, .int (nI (y.toInt.toNat))), (3, .int (nI (i + 1)))]) dX13_copies_52 rfl (by decide) rfl ?_
          refine z_goto (tgt := 17) dX13_copies_55 (by decide) ?_
          refine ih (i + 1) _ _ (by omega) (hfi.tr (hf10.wk (by omega) (by omega))) hx12 (by omega) (fun k hk => ?_)
          simp only [upd]
          by_cases c : k = 210 + i
          · rw [if_pos c, c]; rw [if_pos (by omega), show 210 + i - 210 = i by omega, if_neg (by omega)]
          · rw [if_neg c, hi k hk]
            (repeat' split) <;> first | rfl | (exfalso; omega)
        · refine z_aload_n dX13_copies_40 rfl ?_
          refine z_iload_n dX13_copies_41 rfl ?_
          refine z_iload_n dX13_copies_42 rfl ?_
          refine z_iadd_n (a := x.toInt.toNat) (b := i) dX13_copies_43 ?_
          refine z_callE (As := [.int (nI ((x.toInt.toNat) + (i)))]) (rest := [.int (nI ((210) + (i))), .ref (za g (b + 1))]) (b := b) (ci := 12) (v := some (.int (nI (gT S.1 ((x.toInt.toNat) + (i)))))) (R2 := zR 0 0) dX13_copies_44 kV_RX13_65 rfl ⟨⟨by decide, by decide⟩, by decide, by decide⟩ (by omega) hmi.ce rfl rfl rfl (Nat.le_of_ble_eq_true rfl) rfl (c_X13_level (t := (x.toInt.toNat) + (i)) (x := gT S.1 ((x.toInt.toNat) + (i))) h0 hmi (by omega) (by rw [hi _ (by omega), if_neg (by omega)]; exact hv.tick (by omega))) ?_
          refine z_goto (tgt := 51) dX13_copies_47 (by decide) ?_
          refine z_iast_n (j := b + 1) (N := 410) (a := (210) + (i)) (f := f9) dX13_copies_51 (by omega) hmi.r1 (by omega) (by omega) ?_
          obtain ⟨w14, ew15⟩ : ∃ wz : zW, wz = va_up wi (b + 1) (zI g 410 (upd (f9) ((210) + (i)) ((nI (gT S.1 ((x.toInt.toNat) + (i))))))) := ⟨_, rfl⟩
          refine z_weq (w' := w14) ew15.symm ?_
          have hf16 : zFr wi w14 (b + 1) (b + 1 + 1) := by rw [ew15]; exact zFr.up (by omega)
          have hw17 : w14 (b + 1) = zI g 410 (upd (f9) ((210) + (i)) ((nI (gT S.1 ((x.toInt.toNat) + (i)))))) := by rw [ew15, zup_s]
          have hx18 := hmi.setV hf16 hw17
          refine z_iinc_n (n := 1) (a := i) (lv' := [(0, .ref (za g b)), (1, .int (nI (x.toInt.toNat))), (2, .int (nI (y.toInt.toNat))), (3, .int (nI (i + 1)))]) dX13_copies_52 rfl (by decide) rfl ?_
          refine z_goto (tgt := 17) dX13_copies_55 (by decide) ?_
          refine ih (i + 1) _ _ (by omega) (hfi.tr (hf16.wk (by omega) (by omega))) hx18 (by omega) (fun k hk => ?_)
          simp only [upd]
          by_cases c : k = 210 + i
          · rw [if_pos c, c]; rw [if_pos (by omega), show 210 + i - 210 = i by omega, if_pos (by omega)]
          · rw [if_neg c, hi k hk]
            (repeat' split) <;> first | rfl | (exfalso; omega)
  refine z_aload_n dX13_copies_0 rfl ?_
  refine z_iload_n dX13_copies_1 rfl ?_
  refine z_iload_n dX13_copies_2 rfl ?_
  by_cases hc1 : 0 ≤ ((x)).toInt ∧ ((x)).toInt ≤ ((y)).toInt ∧ ((y)).toInt ≤ (S.1.length : Nat)
  · refine z_callE (As := [.int (x), .int (y)]) (rest := []) (b := b) (ci := 12) (v := some (.int (nI (1)))) (R2 := zR 0 0) dX13_copies_3 kV_RX13_86 rfl ⟨⟨by decide, by decide⟩, by decide, by decide⟩ (by omega) h.ce rfl rfl rfl (Nat.le_of_ble_eq_true rfl) rfl (c_X13_isInterval_y h0 h hv hc1) ?_
    refine z_if_ne_n (a := 1) (tgt := 15) dX13_copies_6 (by decide) (by omega) (fun h_6_3 => ?_) (fun h_6_3 => ?_)
    · refine z_eq (lv' := [(0, .ref (za g b)), (1, .int (nI (x.toInt.toNat))), (2, .int (nI (y.toInt.toNat)))]) rfl rfl (by rw [← i_nat (x := x) (by omega), ← i_nat (x := y) (by omega)]) ?_
      refine z_iconst (v := nI 0) dX13_copies_15 rfl ?_
      refine z_istore_n (lv' := [(0, .ref (za g b)), (1, .int (nI (x.toInt.toNat))), (2, .int (nI (y.toInt.toNat))), (3, .int (nI (0)))]) dX13_copies_16 (by decide) rfl ?_
      have hF0 : fIv S.1.length x.toInt y.toInt = 0 := by unfold fIv; rw [if_pos (by omega)]
      exact loop hF0 202 0 w fv (by omega) zFr.rf h (by omega) (fun k hk => by rw [if_neg (by omega)])
    · exact absurd h_6_3 (by decide)
  · refine z_callE (As := [.int (x), .int (y)]) (rest := []) (b := b) (ci := 12) (v := some (.int (nI (0)))) (R2 := zR 0 0) dX13_copies_3 kV_RX13_86 rfl ⟨⟨by decide, by decide⟩, by decide, by decide⟩ (by omega) h.ce rfl rfl rfl (Nat.le_of_ble_eq_true rfl) rfl (c_X13_isInterval_n h0 h hv hc1) ?_
    refine z_if_ne_n (a := 0) (tgt := 15) dX13_copies_6 (by decide) (by omega) (fun h_6_5 => ?_) (fun h_6_5 => ?_)
    · exact absurd h_6_5 (by decide)
    · refine z_aload_n dX13_copies_9 rfl ?_
      refine z_iconst (v := nI 1) dX13_copies_10 rfl ?_
      refine z_callR (As := [.int (nI (1))]) (rest := []) (b := b) (ci := 12) (v := some (.int (nI (0)))) (R2 := zR 0 0) dX13_copies_11 kV_RX13_61 rfl ⟨⟨by decide, by decide⟩, by decide, by decide⟩ (by omega) h.ce rfl rfl rfl (Nat.le_of_ble_eq_true rfl) rfl (c_X13_fail (x := (nI (1))) h0 h) (fun w6 pw6 => ?_)
      obtain ⟨hf7, hx8⟩ := pw6
      refine z_iret dX13_copies_14 rfl (by decide) (by decide) ?_
      have hF : spF 5 x.toInt y.toInt 0 S = 1 := by simp only [spF]; unfold fIv; (repeat' split) <;> omega
      exact ⟨_, _, _, rfl, hf7, hx8, by rw [hF]; rfl, by rw [if_neg (by rw [hF]; decide)]; exact hv, fun q9 => absurd (hF.symm.trans q9) (by decide)⟩
