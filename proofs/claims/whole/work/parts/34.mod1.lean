/-! the reference: editing -/
set_option maxRecDepth 100000 in
set_option maxHeartbeats 4000000 in
theorem c_X13_isInterval_y {g : zGT} {w : zW} {b : Nat} {th ch ea fa sv tn po en ln kn wr dg : Int32} {fv fb fs fp fh ft fl fi : Nat → Int32} {S : zSt} {x y : Int32} (h0 : zG0 g) (h : Mx g w b th ch ea fa sv tn po en ln kn wr dg fv fb fs fp fh ft fl fi) (hv : VS fv S) (e : 0 ≤ x.toInt ∧ x.toInt ≤ y.toInt ∧ y.toInt ≤ (S.1.length : Nat)) : zCt g mX13_isInterval (zR 0 0) [.ref (za g b), .int (x), .int (y)] w (fun o w' => o = .inl (some (.int (nI 1))) ∧ w' = w) := by
  have hb := h.1
  have hl := hv.len
  refine zCt_of (by decide +kernel) h0 [(0, .ref (za g b)), (1, .int (x)), (2, .int (y))] rfl (Nat.le_of_ble_eq_true rfl) ?_
  refine z_iload_n dX13_isInterval_0 rfl ?_
  refine z_if_lt_z (tgt := 23) dX13_isInterval_1 (by decide) (fun h_1_1 => ?_) (fun h_1_1 => ?_)
  · refine z_iconst (v := nI 0) dX13_isInterval_23 rfl ?_
    refine z_zret (ty := .boolean) dX13_isInterval_24 rfl (by decide) (by decide) rfl ?_
    first | exact ⟨rfl, rfl⟩ | (exfalso; omega)
  · refine z_iload_n dX13_isInterval_4 rfl ?_
    refine z_iload_n dX13_isInterval_5 rfl ?_
    refine z_icmp_gt_z (tgt := 23) dX13_isInterval_6 (by decide) (fun h_6_2 => ?_) (fun h_6_2 => ?_)
    · refine z_iconst (v := nI 0) dX13_isInterval_23 rfl ?_
      refine z_zret (ty := .boolean) dX13_isInterval_24 rfl (by decide) (by decide) rfl ?_
      first | exact ⟨rfl, rfl⟩ | (exfalso; omega)
    · refine z_iload_n dX13_isInterval_9 rfl ?_
      refine z_aload_n dX13_isInterval_10 rfl ?_
      refine z_getf (j := b) dX13_isInterval_11 kF_RX13_16 rfl (by omega) h.ce rfl ?_
      refine z_iconst (v := nI 0) dX13_isInterval_14 rfl ?_
      refine z_iald_v (j := b + 1) (N := 410) (a := 0) (x := S.1.length) (f := fv) dX13_isInterval_15 (by omega) h.r1 (by omega) (by omega) (hv.dur) ?_
      have hk4 := nI_toInt (n := S.1.length) (by omega)
      refine z_icmp_gt_z (tgt := 23) dX13_isInterval_16 (by decide) (fun h_16_3 => ?_) (fun h_16_3 => ?_)
      · refine z_iconst (v := nI 0) dX13_isInterval_23 rfl ?_
        refine z_zret (ty := .boolean) dX13_isInterval_24 rfl (by decide) (by decide) rfl ?_
        first | exact ⟨rfl, rfl⟩ | (exfalso; omega)
      · refine z_iconst (v := nI 1) dX13_isInterval_19 rfl ?_
        refine z_goto (tgt := 24) dX13_isInterval_20 (by decide) ?_
        refine z_zret (ty := .boolean) dX13_isInterval_24 rfl (by decide) (by decide) rfl ?_
        first | exact ⟨rfl, rfl⟩ | (exfalso; omega)
set_option maxRecDepth 100000 in
set_option maxHeartbeats 4000000 in
theorem c_X13_isInterval_n {g : zGT} {w : zW} {b : Nat} {th ch ea fa sv tn po en ln kn wr dg : Int32} {fv fb fs fp fh ft fl fi : Nat → Int32} {S : zSt} {x y : Int32} (h0 : zG0 g) (h : Mx g w b th ch ea fa sv tn po en ln kn wr dg fv fb fs fp fh ft fl fi) (hv : VS fv S) (e : ¬ (0 ≤ x.toInt ∧ x.toInt ≤ y.toInt ∧ y.toInt ≤ (S.1.length : Nat))) : zCt g mX13_isInterval (zR 0 0) [.ref (za g b), .int (x), .int (y)] w (fun o w' => o = .inl (some (.int (nI 0))) ∧ w' = w) := by
  have hb := h.1
  have hl := hv.len
  refine zCt_of (by decide +kernel) h0 [(0, .ref (za g b)), (1, .int (x)), (2, .int (y))] rfl (Nat.le_of_ble_eq_true rfl) ?_
  refine z_iload_n dX13_isInterval_0 rfl ?_
  refine z_if_lt_z (tgt := 23) dX13_isInterval_1 (by decide) (fun h_1_1 => ?_) (fun h_1_1 => ?_)
  · refine z_iconst (v := nI 0) dX13_isInterval_23 rfl ?_
    refine z_zret (ty := .boolean) dX13_isInterval_24 rfl (by decide) (by decide) rfl ?_
    first | exact ⟨rfl, rfl⟩ | (exfalso; omega)
  · refine z_iload_n dX13_isInterval_4 rfl ?_
    refine z_iload_n dX13_isInterval_5 rfl ?_
    refine z_icmp_gt_z (tgt := 23) dX13_isInterval_6 (by decide) (fun h_6_2 => ?_) (fun h_6_2 => ?_)
    · refine z_iconst (v := nI 0) dX13_isInterval_23 rfl ?_
      refine z_zret (ty := .boolean) dX13_isInterval_24 rfl (by decide) (by decide) rfl ?_
      first | exact ⟨rfl, rfl⟩ | (exfalso; omega)
    · refine z_iload_n dX13_isInterval_9 rfl ?_
      refine z_aload_n dX13_isInterval_10 rfl ?_
      refine z_getf (j := b) dX13_isInterval_11 kF_RX13_16 rfl (by omega) h.ce rfl ?_
      refine z_iconst (v := nI 0) dX13_isInterval_14 rfl ?_
      refine z_iald_v (j := b + 1) (N := 410) (a := 0) (x := S.1.length) (f := fv) dX13_isInterval_15 (by omega) h.r1 (by omega) (by omega) (hv.dur) ?_
      have hk4 := nI_toInt (n := S.1.length) (by omega)
      refine z_icmp_gt_z (tgt := 23) dX13_isInterval_16 (by decide) (fun h_16_3 => ?_) (fun h_16_3 => ?_)
      · refine z_iconst (v := nI 0) dX13_isInterval_23 rfl ?_
        refine z_zret (ty := .boolean) dX13_isInterval_24 rfl (by decide) (by decide) rfl ?_
        first | exact ⟨rfl, rfl⟩ | (exfalso; omega)
      · refine z_iconst (v := nI 1) dX13_isInterval_19 rfl ?_
        refine z_goto (tgt := 24) dX13_isInterval_20 (by decide) ?_
        refine z_zret (ty := .boolean) dX13_isInterval_24 rfl (by decide) (by decide) rfl ?_
        first | exact ⟨rfl, rfl⟩ | (exfalso; omega)
set_option maxRecDepth 100000 in
set_option maxHeartbeats 4000000 in
theorem c_X13_level {g : zGT} {w : zW} {b : Nat} {th ch ea fa sv tn po en ln kn wr dg : Int32} {fv fb fs fp fh ft fl fi : Nat → Int32} {t x : Nat} (h0 : zG0 g) (h : Mx g w b th ch ea fa sv tn po en ln kn wr dg fv fb fs fp fh ft fl fi) (ht : t < 200) (hx : fv (4 + t) = nI x) : zCt g mX13_level (zR 0 0) [.ref (za g b), .int (nI (t))] w (fun o w' => o = .inl (some (.int (nI x))) ∧ w' = w) := by
  have hb := h.1
  refine zCt_of (by decide +kernel) h0 [(0, .ref (za g b)), (1, .int (nI (t)))] rfl (Nat.le_of_ble_eq_true rfl) ?_
  refine z_aload_n dX13_level_0 rfl ?_
  refine z_getf (j := b) dX13_level_1 kF_RX13_16 rfl (by omega) h.ce rfl ?_
  refine z_iconst (v := nI 4) dX13_level_4 rfl ?_
  refine z_iload_n dX13_level_5 rfl ?_
  refine z_iadd_n (a := 4) (b := t) dX13_level_6 ?_
  refine z_iald_v (j := b + 1) (N := 410) (a := (4) + (t)) (x := x) (f := fv) dX13_level_7 (by omega) h.r1 (by omega) (by omega) (hx) ?_
  refine z_iret dX13_level_8 rfl (by decide) (by decide) ?_
  exact ⟨rfl, rfl⟩
set_option maxRecDepth 100000 in
set_option maxHeartbeats 4000000 in
theorem c_X13_inserts {g : zGT} {w : zW} {b : Nat} {th ch ea fa sv tn po en ln kn wr dg : Int32} {fv fb fs fp fh ft fl fi : Nat → Int32} {S : zSt} {t n : Nat} (h0 : zG0 g) (h : Mx g w b th ch ea fa sv tn po en ln kn wr dg fv fb fs fp fh ft fl fi) (hv : VS fv S) (ht : t ≤ S.1.length) (hk : S.1.length + n ≤ 200) : zCt g mX13_inserts (zR 0 0) [.ref (za g b), .int (nI (t)), .int (nI (n))] w (fun o w' => o = .inl none ∧ zFr w w' b (b + 11) ∧ ∃ f', Mx g w' b th ch ea fa sv tn po en ln kn wr dg (f') fb fs fp fh ft fl fi ∧ VS f' (ltab (S.1.length + n) (insF (gT S.1) t n), S.2.1.map (insM t n), S.2.2)) := by
  have hb := h.1
  have hl := hv.len
  refine zCt_of (by decide +kernel) h0 [(0, .ref (za g b)), (1, .int (nI (t))), (2, .int (nI (n)))] rfl (Nat.le_of_ble_eq_true rfl) ?_
  have loop3 : ∀ (mm : Nat) (i : Nat) (wi : zW) (f9 : Nat → Int32), S.2.1.length + 1 - i < mm → (i ≤ S.2.1.length) → (zFr w wi b (b + 11)) → (Mx g wi b th ch ea fa sv tn po en ln kn wr dg f9 fb fs fp fh ft fl fi) → (∀ k, k < 410 → f9 k = (if 204 ≤ k ∧ k < 204 + i then nI (insM t n (S.2.1.getD (k - 204) 0)) else (if 4 + t ≤ k ∧ k < 4 + (t + n) then nI 0 else (if 4 + t + n ≤ k ∧ k < 4 + S.1.length + n then fv (k - n) else fv k)))) → zTr g mX13_inserts (zR 0 0) 0 0 64 [(0, .ref (za g b)), (1, .int (nI (t))), (2, .int (nI (n))), (3, .int (nI (i)))] [] wi (fun o w' => o = .inl none ∧ zFr w w' b (b + 11) ∧ ∃ f', Mx g w' b th ch ea fa sv tn po en ln kn wr dg (f') fb fs fp fh ft fl fi ∧ VS f' (ltab (S.1.length + n) (insF (gT S.1) t n), S.2.1.map (insM t n), S.2.2)) := by
    intro mm
    induction mm with
    | zero => intros; omega
    | succ mm ih =>
      intro i wi f9 hm him hfi hmi hi
      refine z_iload_n dX13_inserts_64 rfl ?_
      refine z_aload_n dX13_inserts_65 rfl ?_
      refine z_getf (j := b) dX13_inserts_66 kF_RX13_16 rfl (by omega) hmi.ce rfl ?_
      refine z_iconst (v := nI 1) dX13_inserts_69 rfl ?_
      refine z_iald_v (j := b + 1) (N := 410) (a := 1) (x := S.2.1.length) (f := f9) dX13_inserts_70 (by omega) hmi.r1 (by omega) (by omega) (by rw [hi _ (by omega), if_neg (by omega), if_neg (by omega), if_neg (by omega)]; exact hv.mks) ?_
      refine z_icmp_ge_n (a := i) (b := S.2.1.length) (tgt := 112) dX13_inserts_71 (by decide) (by omega) (by omega) (fun h_71_1 => ?_) (fun h_71_1 => ?_)
      · refine z_aload_n dX13_inserts_112 rfl ?_
        refine z_getf (j := b) dX13_inserts_113 kF_RX13_16 rfl (by omega) hmi.ce rfl ?_
        refine z_iconst (v := nI 0) dX13_inserts_116 rfl ?_
        refine z_dup2 dX13_inserts_117 rfl rfl ?_
        refine z_iald_v (j := b + 1) (N := 410) (a := 0) (x := S.1.length) (f := f9) dX13_inserts_118 (by omega) hmi.r1 (by omega) (by omega) (by rw [hi _ (by omega), if_neg (by omega), if_neg (by omega), if_neg (by omega)]; exact hv.dur) ?_
        refine z_iload_n dX13_inserts_119 rfl ?_
        refine z_iadd_n (a := S.1.length) (b := n) dX13_inserts_120 ?_
        refine z_iast_n (j := b + 1) (N := 410) (a := 0) (f := f9) dX13_inserts_121 (by omega) hmi.r1 (by omega) (by omega) ?_
        obtain ⟨w2, ew3⟩ : ∃ wz : zW, wz = va_up wi (b + 1) (zI g 410 (upd (f9) (0) ((nI ((S.1.length) + (n)))))) := ⟨_, rfl⟩
        refine z_weq (w' := w2) ew3.symm ?_
        have hf4 : zFr wi w2 (b + 1) (b + 1 + 1) := by rw [ew3]; exact zFr.up (by omega)
        have hw5 : w2 (b + 1) = zI g 410 (upd (f9) (0) ((nI ((S.1.length) + (n))))) := by rw [ew3, zup_s]
        have hx6 := hmi.setV hf4 hw5
        refine z_vret dX13_inserts_122 rfl (by decide) (by decide) ?_
        refine ⟨rfl, hfi.tr (hf4.wk (by omega) (by omega)), _, hx6, ?_⟩
        have hi9 : i = S.2.1.length := by omega
        subst hi9
        refine hv.mkT (by simp only [upd, if_pos]) ?_ ?_ ?_ (fun k hk => ?_) (fun m hm => ?_) (fun k hk => ?_) (by omega) (hv.mo.map (fun a b9 h => by unfold insM; (repeat' split) <;> omega) (fun a h => by unfold insM; split <;> omega)) (fun k hk => by unfold insF; (repeat' split) <;> first | exact hv.le _ | omega)
        · simp only [upd]; rw [if_neg (by omega), hi _ (by omega), if_neg (by omega), if_neg (by omega), if_neg (by omega), List.length_map]; exact hv.mks
        · simp only [upd]; rw [if_neg (by omega), hi _ (by omega), if_neg (by omega), if_neg (by omega), if_neg (by omega)]
        · simp only [upd]; rw [if_neg (by omega), hi _ (by omega), if_neg (by omega), if_neg (by omega), if_neg (by omega)]; exact hv.trs
        · simp only [upd]; rw [if_neg (by omega), hi _ (by omega), if_neg (by omega)]
          unfold insF
          by_cases c1 : k < t
          · rw [if_neg (by omega), if_neg (by omega), if_pos (by omega), if_pos c1]; exact hv.tick hk
          · by_cases c2 : k < t + n
            · rw [if_pos (by omega), if_pos (by omega), if_neg c1, if_pos c2]
            · by_cases c3 : k < S.1.length + n
              · rw [if_neg (by omega), if_pos (by omega), if_pos c3, if_neg c1, if_neg c2, show 4 + k - n = 4 + (k - n) by omega]; exact hv.tick (by omega)
              · rw [if_neg (by omega), if_neg (by omega), if_neg c3, hv.tick hk, gT_out (by omega)]
        · rw [List.length_map] at hm
          simp only [upd]; rw [if_neg (by omega), hi _ (by omega), if_pos (by omega), show 204 + m - 204 = m by omega, gD_map hm]
        · simp only [upd]; rw [if_neg (by omega), hi _ (by omega), if_neg (by omega), if_neg (by omega), if_neg (by omega)]
      · have hmk := hv.mo.2.1 i (by omega)
        refine z_aload_n dX13_inserts_74 rfl ?_
        refine z_getf (j := b) dX13_inserts_75 kF_RX13_16 rfl (by omega) hmi.ce rfl ?_
        refine z_sipush (v := nI 204) dX13_inserts_78 rfl ?_
        refine z_iload_n dX13_inserts_81 rfl ?_
        refine z_iadd_n (a := 204) (b := i) dX13_inserts_82 ?_
        refine z_dup2 dX13_inserts_83 rfl rfl ?_
        refine z_iald_v (j := b + 1) (N := 410) (a := (204) + (i)) (x := S.2.1.getD (i) 0) (f := f9) dX13_inserts_84 (by omega) hmi.r1 (by omega) (by omega) (by rw [hi _ (by omega), if_neg (by omega), if_neg (by omega), if_neg (by omega)]; exact hv.mark (by omega)) ?_
        refine z_aload_n dX13_inserts_85 rfl ?_
        refine z_getf (j := b) dX13_inserts_86 kF_RX13_16 rfl (by omega) hmi.ce rfl ?_
        refine z_sipush (v := nI 204) dX13_inserts_89 rfl ?_
        refine z_iload_n dX13_inserts_92 rfl ?_
        refine z_iadd_n (a := 204) (b := i) dX13_inserts_93 ?_
        refine z_iald_v (j := b + 1) (N := 410) (a := (204) + (i)) (x := S.2.1.getD (i) 0) (f := f9) dX13_inserts_94 (by omega) hmi.r1 (by omega) (by omega) (by rw [hi _ (by omega), if_neg (by omega), if_neg (by omega), if_neg (by omega)]; exact hv.mark (by omega)) ?_
        refine z_iload_n dX13_inserts_95 rfl ?_
        refine z_icmp_le_n (a := S.2.1.getD (i) 0) (b := t) (tgt := 103) dX13_inserts_96 (by decide) (by omega) (by omega) (fun h_96_7 => ?_) (fun h_96_7 => ?_)
        · refine z_iconst (v := nI 0) dX13_inserts_103 rfl ?_
          refine z_iadd_n (a := S.2.1.getD (i) 0) (b := 0) dX13_inserts_104 ?_
          refine z_iast_n (j := b + 1) (N := 410) (a := (204) + (i)) (f := f9) dX13_inserts_105 (by omega) hmi.r1 (by omega) (by omega) ?_
          obtain ⟨w8, ew9⟩ : ∃ wz : zW, wz = va_up wi (b + 1) (zI g 410 (upd (f9) ((204) + (i)) ((nI ((S.2.1.getD (i) 0) + (0)))))) := ⟨_, rfl⟩
          refine z_weq (w' := w8) ew9.symm ?_
          have hf10 : zFr wi w8 (b + 1) (b + 1 + 1) := by rw [ew9]; exact zFr.up (by omega)
          have hw11 : w8 (b + 1) = zI g 410 (upd (f9) ((204) + (i)) ((nI ((S.2.1.getD (i) 0) + (0))))) := by rw [ew9, zup_s]
          have hx12 := hmi.setV hf10 hw11
          refine z_iinc_n (n := 1) (a := i) (lv' := [(0, .ref (za g b)), (1, .int (nI (t))), (2, .int (nI (n))), (3, .int (nI (i + 1)))]) dX13_inserts_106 rfl (by decide) rfl ?_
          refine z_goto (tgt := 64) dX13_inserts_109 (by decide) ?_
          refine ih (i + 1) _ _ (by omega) (by omega) (hfi.tr (hf10.wk (by omega) (by omega))) hx12 (fun k hk => ?_)
          simp only [upd]
          by_cases c : k = 204 + i
          · rw [if_pos c, c]; rw [if_pos (by omega), show 204 + i - 204 = i by omega]; unfold insM; rw [if_neg (by omega)]; rfl
          · rw [if_neg c, hi k hk]
            (repeat' split) <;> first | rfl | (exfalso; omega)
        · refine z_iload_n dX13_inserts_99 rfl ?_
          refine z_goto (tgt := 104) dX13_inserts_100 (by decide) ?_
          refine z_iadd_n (a := S.2.1.getD (i) 0) (b := n) dX13_inserts_104 ?_
          refine z_iast_n (j := b + 1) (N := 410) (a := (204) + (i)) (f := f9) dX13_inserts_105 (by omega) hmi.r1 (by omega) (by omega) ?_
          obtain ⟨w13, ew14⟩ : ∃ wz : zW, wz = va_up wi (b + 1) (zI g 410 (upd (f9) ((204) + (i)) ((nI ((S.2.1.getD (i) 0) + (n)))))) := ⟨_, rfl⟩
          refine z_weq (w' := w13) ew14.symm ?_
          have hf15 : zFr wi w13 (b + 1) (b + 1 + 1) := by rw [ew14]; exact zFr.up (by omega)
          have hw16 : w13 (b + 1) = zI g 410 (upd (f9) ((204) + (i)) ((nI ((S.2.1.getD (i) 0) + (n))))) := by rw [ew14, zup_s]
          have hx17 := hmi.setV hf15 hw16
          refine z_iinc_n (n := 1) (a := i) (lv' := [(0, .ref (za g b)), (1, .int (nI (t))), (2, .int (nI (n))), (3, .int (nI (i + 1)))]) dX13_inserts_106 rfl (by decide) rfl ?_
          refine z_goto (tgt := 64) dX13_inserts_109 (by decide) ?_
          refine ih (i + 1) _ _ (by omega) (by omega) (hfi.tr (hf15.wk (by omega) (by omega))) hx17 (fun k hk => ?_)
          simp only [upd]
          by_cases c : k = 204 + i
          · rw [if_pos c, c]; rw [if_pos (by omega), show 204 + i - 204 = i by omega]; unfold insM; rw [if_pos (by omega)]
          · rw [if_neg c, hi k hk]
            (repeat' split) <;> first | rfl | (exfalso; omega)
  have loop2 : ∀ (mm : Nat) (i : Nat) (wi : zW) (f9 : Nat → Int32), t + n + 1 - i < mm → (t ≤ i) → (i ≤ t + n) → (zFr w wi b (b + 11)) → (Mx g wi b th ch ea fa sv tn po en ln kn wr dg f9 fb fs fp fh ft fl fi) → (∀ k, k < 410 → f9 k = (if 4 + t ≤ k ∧ k < 4 + i then nI 0 else (if 4 + t + n ≤ k ∧ k < 4 + S.1.length + n then fv (k - n) else fv k))) → zTr g mX13_inserts (zR 0 0) 0 0 40 [(0, .ref (za g b)), (1, .int (nI (t))), (2, .int (nI (n))), (3, .int (nI (i)))] [] wi (fun o w' => o = .inl none ∧ zFr w w' b (b + 11) ∧ ∃ f', Mx g w' b th ch ea fa sv tn po en ln kn wr dg (f') fb fs fp fh ft fl fi ∧ VS f' (ltab (S.1.length + n) (insF (gT S.1) t n), S.2.1.map (insM t n), S.2.2)) := by
    intro mm
    induction mm with
    | zero => intros; omega
    | succ mm ih =>
      intro i wi f9 hm hti hin hfi hmi hi
      refine z_iload_n dX13_inserts_40 rfl ?_
      refine z_iload_n dX13_inserts_41 rfl ?_
      refine z_iload_n dX13_inserts_42 rfl ?_
      refine z_iadd_n (a := t) (b := n) dX13_inserts_43 ?_
      refine z_icmp_ge_n (a := i) (b := (t) + (n)) (tgt := 62) dX13_inserts_44 (by decide) (by omega) (by omega) (fun h_44_1 => ?_) (fun h_44_1 => ?_)
      · refine z_iconst (v := nI 0) dX13_inserts_62 rfl ?_
        refine z_istore_n (lv' := [(0, .ref (za g b)), (1, .int (nI (t))), (2, .int (nI (n))), (3, .int (nI (0)))]) dX13_inserts_63 (by decide) rfl ?_
        exact loop3 (S.2.1.length + 2) 0 wi f9 (by omega) (Nat.zero_le _) hfi hmi (fun k hk => by rw [hi k hk, show i = t + n by omega, if_neg (show ¬ (204 ≤ k ∧ k < 204 + 0) by omega)])
      · refine z_aload_n dX13_inserts_47 rfl ?_
        refine z_getf (j := b) dX13_inserts_48 kF_RX13_16 rfl (by omega) hmi.ce rfl ?_
        refine z_iconst (v := nI 4) dX13_inserts_51 rfl ?_
        refine z_iload_n dX13_inserts_52 rfl ?_
        refine z_iadd_n (a := 4) (b := i) dX13_inserts_53 ?_
        refine z_iconst (v := nI 0) dX13_inserts_54 rfl ?_
        refine z_iast_n (j := b + 1) (N := 410) (a := (4) + (i)) (f := f9) dX13_inserts_55 (by omega) hmi.r1 (by omega) (by omega) ?_
        obtain ⟨w2, ew3⟩ : ∃ wz : zW, wz = va_up wi (b + 1) (zI g 410 (upd (f9) ((4) + (i)) ((nI (0))))) := ⟨_, rfl⟩
        refine z_weq (w' := w2) ew3.symm ?_
        have hf4 : zFr wi w2 (b + 1) (b + 1 + 1) := by rw [ew3]; exact zFr.up (by omega)
        have hw5 : w2 (b + 1) = zI g 410 (upd (f9) ((4) + (i)) ((nI (0)))) := by rw [ew3, zup_s]
        have hx6 := hmi.setV hf4 hw5
        refine z_iinc_n (n := 1) (a := i) (lv' := [(0, .ref (za g b)), (1, .int (nI (t))), (2, .int (nI (n))), (3, .int (nI (i + 1)))]) dX13_inserts_56 rfl (by decide) rfl ?_
        refine z_goto (tgt := 40) dX13_inserts_59 (by decide) ?_
        refine ih (i + 1) _ _ (by omega) (by omega) (by omega) (hfi.tr (hf4.wk (by omega) (by omega))) hx6 (fun k hk => ?_)
        simp only [upd]
        by_cases c : k = 4 + i
        · rw [if_pos c, c]; rw [if_pos (by omega)]
        · rw [if_neg c, hi k hk]
          (repeat' split) <;> first | rfl | (exfalso; omega)
  have loop1 : ∀ (mm : Nat) (a : Nat) (wi : zW) (f9 : Nat → Int32), a < mm → (t ≤ a) → (a ≤ S.1.length) → (zFr w wi b (b + 11)) → (Mx g wi b th ch ea fa sv tn po en ln kn wr dg f9 fb fs fp fh ft fl fi) → (∀ k, k < 410 → f9 k = (if 4 + a + n ≤ k ∧ k < 4 + S.1.length + n then fv (k - n) else fv k)) → zTr g mX13_inserts (zR 0 0) 0 0 9 [(0, .ref (za g b)), (1, .int (nI (t))), (2, .int (nI (n))), (3, .int (nI a - nI 1))] [] wi (fun o w' => o = .inl none ∧ zFr w w' b (b + 11) ∧ ∃ f', Mx g w' b th ch ea fa sv tn po en ln kn wr dg (f') fb fs fp fh ft fl fi ∧ VS f' (ltab (S.1.length + n) (insF (gT S.1) t n), S.2.1.map (insM t n), S.2.2)) := by
    intro mm
    induction mm with
    | zero => intros; omega
    | succ mm ih =>
      intro a wi f9 hm hta han hfi hmi hi
      have hz := pk_sub_toInt (a := a) (b := 1) (by omega) (by omega)
      have hzp := nI_toInt (n := t) (by omega)
      refine z_iload_n dX13_inserts_9 rfl ?_
      refine z_iload_n dX13_inserts_10 rfl ?_
      have hk2 := nI_toInt (n := t) (by omega)
      refine z_icmp_lt_z (tgt := 38) dX13_inserts_11 (by decide) (fun h_11_1 => ?_) (fun h_11_1 => ?_)
      · refine z_iload_n dX13_inserts_38 rfl ?_
        refine z_istore_n (lv' := [(0, .ref (za g b)), (1, .int (nI (t))), (2, .int (nI (n))), (3, .int (nI (t)))]) dX13_inserts_39 (by decide) rfl ?_
        exact loop2 (t + n + 2) t wi f9 (by omega) (Nat.le_refl _) (by omega) hfi hmi (fun k hk => by rw [hi k hk, show a = t by omega, if_neg (show ¬ (4 + t ≤ k ∧ k < 4 + t) by omega)])
      · refine z_eq (lv' := [(0, .ref (za g b)), (1, .int (nI (t))), (2, .int (nI (n))), (3, .int (nI (a - 1)))]) rfl rfl (by rw [pk_sub (show 1 ≤ a by omega)]) ?_
        refine z_aload_n dX13_inserts_14 rfl ?_
        refine z_getf (j := b) dX13_inserts_15 kF_RX13_16 rfl (by omega) hmi.ce rfl ?_
        refine z_iconst (v := nI 4) dX13_inserts_18 rfl ?_
        refine z_iload_n dX13_inserts_19 rfl ?_
        refine z_iadd_n (a := 4) (b := a - 1) dX13_inserts_20 ?_
        refine z_iload_n dX13_inserts_21 rfl ?_
        refine z_iadd_n (a := (4) + (a - 1)) (b := n) dX13_inserts_22 ?_
        refine z_aload_n dX13_inserts_23 rfl ?_
        refine z_getf (j := b) dX13_inserts_24 kF_RX13_16 rfl (by omega) hmi.ce rfl ?_
        refine z_iconst (v := nI 4) dX13_inserts_27 rfl ?_
        refine z_iload_n dX13_inserts_28 rfl ?_
        refine z_iadd_n (a := 4) (b := a - 1) dX13_inserts_29 ?_
        refine z_iald_n (j := b + 1) (N := 410) (a := (4) + (a - 1)) (f := f9) dX13_inserts_30 (by omega) hmi.r1 (by omega) (by omega) ?_
        refine z_iast_n (j := b + 1) (N := 410) (a := ((4) + (a - 1)) + (n)) (f := f9) dX13_inserts_31 (by omega) hmi.r1 (by omega) (by omega) ?_
        obtain ⟨w3, ew4⟩ : ∃ wz : zW, wz = va_up wi (b + 1) (zI g 410 (upd (f9) (((4) + (a - 1)) + (n)) (((f9) ((4) + (a - 1)))))) := ⟨_, rfl⟩
        refine z_weq (w' := w3) ew4.symm ?_
        have hf5 : zFr wi w3 (b + 1) (b + 1 + 1) := by rw [ew4]; exact zFr.up (by omega)
        have hw6 : w3 (b + 1) = zI g 410 (upd (f9) (((4) + (a - 1)) + (n)) (((f9) ((4) + (a - 1))))) := by rw [ew4, zup_s]
        have hx7 := hmi.setV hf5 hw6
        refine z_iinc (lv' := [(0, .ref (za g b)), (1, .int (nI (t))), (2, .int (nI (n))), (3, .int (nI (a - 1) - nI 1))]) dX13_inserts_32 rfl (by rw [Int32.sub_eq_add_neg]; rfl) (by decide) rfl ?_
        refine z_goto (tgt := 9) dX13_inserts_35 (by decide) ?_
        refine ih (a - 1) _ _ (by omega) (by omega) (by omega) (hfi.tr (hf5.wk (by omega) (by omega))) hx7 (fun k hk => ?_)
        simp only [upd]
        by_cases c : k = 4 + (a - 1) + n
        · rw [if_pos c, c]; rw [if_pos (by omega), hi _ (by omega), if_neg (by omega), show 4 + (a - 1) + n - n = 4 + (a - 1) by omega]
        · rw [if_neg c, hi k hk]
          (repeat' split) <;> first | rfl | (exfalso; omega)
  refine z_aload_n dX13_inserts_0 rfl ?_
  refine z_getf (j := b) dX13_inserts_1 kF_RX13_16 rfl (by omega) h.ce rfl ?_
  refine z_iconst (v := nI 0) dX13_inserts_4 rfl ?_
  refine z_iald_v (j := b + 1) (N := 410) (a := 0) (x := S.1.length) (f := fv) dX13_inserts_5 (by omega) h.r1 (by omega) (by omega) (hv.dur) ?_
  refine z_iconst (v := nI 1) dX13_inserts_6 rfl ?_
  refine z_isub dX13_inserts_7 ?_
  refine z_istore_n (lv' := [(0, .ref (za g b)), (1, .int (nI (t))), (2, .int (nI (n))), (3, .int ((nI (S.1.length)) - (nI (1))))]) dX13_inserts_8 (by decide) rfl ?_
  exact loop1 (S.1.length + 1) S.1.length w fv (by omega) ht (Nat.le_refl _) zFr.rf h (fun k hk => by rw [if_neg (by omega)])
/-- the place of a fault among a call's exceptions -/
def plc (i F : Nat) : Nat := if F = 0 then 0 else if i = 0 then F - 1 else if i = 8 then (if F = 4 then 2 else F) else if i = 9 then (if F = 3 then 2 else F) else F
theorem plc_i {i F j : Nat} (h : F = j) : plc i F = plc i j := by rw [h]
set_option maxRecDepth 100000 in
set_option maxHeartbeats 4000000 in
theorem c_X13_rests {g : zGT} {w : zW} {b : Nat} {th ch ea fa sv tn po en ln kn wr dg : Int32} {fv fb fs fp fh ft fl fi : Nat → Int32} {S : zSt} {x y : Int32} (h0 : zG0 g) (h : Mx g w b th ch ea fa sv tn po en ln kn wr dg fv fb fs fp fh ft fl fi) (hv : VS fv S) : zCt g mX13_rests (zR 1 0) [.ref (za g b), .int (x), .int (y)] w (fun o w' => ∃ th' f' r, o = .inl (some (.int r)) ∧ zFr w w' b (b + 11) ∧ Mx g w' b (th') ch ea fa sv tn po en ln kn wr dg (f') fb fs fp fh ft fl fi ∧ th' = (if spF 1 x.toInt y.toInt 0 S = 0 then th else nI (plc 1 (spF 1 x.toInt y.toInt 0 S))) ∧ VS f' (if spF 1 x.toInt y.toInt 0 S = 0 then spS 1 x.toInt y.toInt 0 S else S) ∧ (spF 1 x.toInt y.toInt 0 S = 0 → r = nI (spA 1 x.toInt y.toInt 0 S))) := by
  have hb := h.1
  have hl := hv.len
  refine zCt_of (by decide +kernel) h0 [(0, .ref (za g b)), (1, .int (x)), (2, .int (y))] rfl (Nat.le_of_ble_eq_true rfl) ?_
  refine z_iload_n dX13_rests_0 rfl ?_
  refine z_iconst (v := nI 0) dX13_rests_1 rfl ?_
  refine z_aload_n dX13_rests_2 rfl ?_
  refine z_getf (j := b) dX13_rests_3 kF_RX13_16 rfl (by omega) h.ce rfl ?_
  refine z_iconst (v := nI 0) dX13_rests_6 rfl ?_
  refine z_iald_v (j := b + 1) (N := 410) (a := 0) (x := S.1.length) (f := fv) dX13_rests_7 (by omega) h.r1 (by omega) (by omega) (hv.dur) ?_
  by_cases hc1 : ((0 : Nat) : Int) ≤ ((x)).toInt ∧ ((x)).toInt ≤ ((S.1.length : Nat) : Int)
  · refine z_callSE (As := [.int (x), .int (nI (0)), .int (nI (S.1.length))]) (rest := []) (v := some (.int (nI (1)))) (R2 := zR 0 0) dX13_rests_8 kS_RX13_57 rfl rfl ⟨⟨by decide, by decide⟩, by decide, by decide⟩ rfl (Nat.le_of_ble_eq_true rfl) rfl (c_X13_isIn_y (x := (x)) (y := (nI (0))) (z := (nI (S.1.length))) h0 (by have q0 := nI_toInt (n := 0) (by omega); have q1 := nI_toInt (n := S.1.length) (by omega); omega)) ?_
    refine z_if_ne_n (a := 1) (tgt := 20) dX13_rests_11 (by decide) (by omega) (fun h_11_3 => ?_) (fun h_11_3 => ?_)
    · refine z_iload_n dX13_rests_20 rfl ?_
      refine z_iconst (v := nI 1) dX13_rests_21 rfl ?_
      refine z_bipush (v := nI 50) dX13_rests_22 rfl ?_
      by_cases hc4 : ((1 : Nat) : Int) ≤ ((y)).toInt ∧ ((y)).toInt ≤ ((50 : Nat) : Int)
      · refine z_callSE (As := [.int (y), .int (nI (1)), .int (nI (50))]) (rest := []) (v := some (.int (nI (1)))) (R2 := zR 0 0) dX13_rests_24 kS_RX13_57 rfl rfl ⟨⟨by decide, by decide⟩, by decide, by decide⟩ rfl (Nat.le_of_ble_eq_true rfl) rfl (c_X13_isIn_y (x := (y)) (y := (nI (1))) (z := (nI (50))) h0 (by have q0 := nI_toInt (n := 1) (by omega); have q1 := nI_toInt (n := 50) (by omega); omega)) ?_
        refine z_if_ne_n (a := 1) (tgt := 36) dX13_rests_27 (by decide) (by omega) (fun h_27_6 => ?_) (fun h_27_6 => ?_)
        · refine z_aload_n dX13_rests_36 rfl ?_
          refine z_getf (j := b) dX13_rests_37 kF_RX13_16 rfl (by omega) h.ce rfl ?_
          refine z_iconst (v := nI 0) dX13_rests_40 rfl ?_
          refine z_iald_v (j := b + 1) (N := 410) (a := 0) (x := S.1.length) (f := fv) dX13_rests_41 (by omega) h.r1 (by omega) (by omega) (hv.dur) ?_
          refine z_iload_n dX13_rests_42 rfl ?_
          refine z_iadd dX13_rests_43 ?_
          have e_r := i_rng y
          have e_d := nI_toInt (n := S.1.length) (by omega)
          have e_a : (nI (S.1.length) + y).toInt = (S.1.length : Int) + y.toInt := by rw [← e_d]; exact i_add (by omega) (by omega)
          refine z_sipush (v := nI 200) dX13_rests_44 rfl ?_
          have hk8 := nI_toInt (n := 200) (by omega)
          refine z_icmp_le_z (tgt := 56) dX13_rests_47 (by decide) (fun h_47_7 => ?_) (fun h_47_7 => ?_)
          · refine z_eq (lv' := [(0, .ref (za g b)), (1, .int (nI (x.toInt.toNat))), (2, .int (nI (y.toInt.toNat)))]) rfl rfl (by rw [← i_nat (x := x) (by omega), ← i_nat (x := y) (by omega)]) ?_
            refine z_aload_n dX13_rests_56 rfl ?_
            refine z_iload_n dX13_rests_57 rfl ?_
            refine z_iload_n dX13_rests_58 rfl ?_
            refine z_callR (As := [.int (nI (x.toInt.toNat)), .int (nI (y.toInt.toNat))]) (rest := []) (b := b) (ci := 12) (v := none) (R2 := zR 0 0) dX13_rests_59 kV_RX13_78 rfl ⟨⟨by decide, by decide⟩, by decide, by decide⟩ (by omega) h.ce rfl rfl rfl (Nat.le_of_ble_eq_true rfl) rfl (c_X13_inserts (t := x.toInt.toNat) (n := y.toInt.toNat) h0 h hv (by omega) (by omega)) (fun w9 pw9 => ?_)
            obtain ⟨hf10, g11, hx12, hv13⟩ := pw9
            have hv13l := hv13.len
            refine z_aload_n dX13_rests_62 rfl ?_
            refine z_getf (j := b) dX13_rests_63 kF_RX13_16 rfl (by omega) hx12.ce rfl ?_
            refine z_iconst (v := nI 0) dX13_rests_66 rfl ?_
            refine z_iald_v (j := b + 1) (N := 410) (a := 0) (x := S.1.length + y.toInt.toNat) (f := g11) dX13_rests_67 (by omega) hx12.r1 (by omega) (by omega) ((hv13.dur).trans (by show nI (ltab _ _).length = _; rw [ltab_len])) ?_
            refine z_iret dX13_rests_68 rfl (by decide) (by decide) ?_
            have hF : spF 1 x.toInt y.toInt 0 S = 0 := by simp only [spF]; unfold fRest; (repeat' split) <;> omega
            exact ⟨_, _, _, rfl, hf10, hx12, by rw [if_pos hF], by rw [if_pos hF]; exact hv13, fun _ => by simp only [spA]⟩
          · refine z_aload_n dX13_rests_50 rfl ?_
            refine z_iconst (v := nI 3) dX13_rests_51 rfl ?_
            refine z_callR (As := [.int (nI (3))]) (rest := []) (b := b) (ci := 12) (v := some (.int (nI (0)))) (R2 := zR 0 0) dX13_rests_52 kV_RX13_61 rfl ⟨⟨by decide, by decide⟩, by decide, by decide⟩ (by omega) h.ce rfl rfl rfl (Nat.le_of_ble_eq_true rfl) rfl (c_X13_fail (x := (nI (3))) h0 h) (fun w14 pw14 => ?_)
            obtain ⟨hf15, hx16⟩ := pw14
            refine z_iret dX13_rests_55 rfl (by decide) (by decide) ?_
            have hF : spF 1 x.toInt y.toInt 0 S = 3 := by simp only [spF]; unfold fRest; (repeat' split) <;> omega
            exact ⟨_, _, _, rfl, hf15, hx16, by rw [hF]; rfl, by rw [if_neg (by rw [hF]; decide)]; exact hv, fun q9 => absurd (hF.symm.trans q9) (by decide)⟩
        · exact absurd h_27_6 (by decide)
      · refine z_callSE (As := [.int (y), .int (nI (1)), .int (nI (50))]) (rest := []) (v := some (.int (nI (0)))) (R2 := zR 0 0) dX13_rests_24 kS_RX13_57 rfl rfl ⟨⟨by decide, by decide⟩, by decide, by decide⟩ rfl (Nat.le_of_ble_eq_true rfl) rfl (c_X13_isIn_n (x := (y)) (y := (nI (1))) (z := (nI (50))) h0 (by have q0 := nI_toInt (n := 1) (by omega); have q1 := nI_toInt (n := 50) (by omega); omega)) ?_
        refine z_if_ne_n (a := 0) (tgt := 36) dX13_rests_27 (by decide) (by omega) (fun h_27_18 => ?_) (fun h_27_18 => ?_)
        · exact absurd h_27_18 (by decide)
        · refine z_aload_n dX13_rests_30 rfl ?_
          refine z_iconst (v := nI 2) dX13_rests_31 rfl ?_
          refine z_callR (As := [.int (nI (2))]) (rest := []) (b := b) (ci := 12) (v := some (.int (nI (0)))) (R2 := zR 0 0) dX13_rests_32 kV_RX13_61 rfl ⟨⟨by decide, by decide⟩, by decide, by decide⟩ (by omega) h.ce rfl rfl rfl (Nat.le_of_ble_eq_true rfl) rfl (c_X13_fail (x := (nI (2))) h0 h) (fun w19 pw19 => ?_)
          obtain ⟨hf20, hx21⟩ := pw19
          refine z_iret dX13_rests_35 rfl (by decide) (by decide) ?_
          have hF : spF 1 x.toInt y.toInt 0 S = 2 := by simp only [spF]; unfold fRest; (repeat' split) <;> omega
          exact ⟨_, _, _, rfl, hf20, hx21, by rw [hF]; rfl, by rw [if_neg (by rw [hF]; decide)]; exact hv, fun q9 => absurd (hF.symm.trans q9) (by decide)⟩
    · exact absurd h_11_3 (by decide)
  · refine z_callSE (As := [.int (x), .int (nI (0)), .int (nI (S.1.length))]) (rest := []) (v := some (.int (nI (0)))) (R2 := zR 0 0) dX13_rests_8 kS_RX13_57 rfl rfl ⟨⟨by decide, by decide⟩, by decide, by decide⟩ rfl (Nat.le_of_ble_eq_true rfl) rfl (c_X13_isIn_n (x := (x)) (y := (nI (0))) (z := (nI (S.1.length))) h0 (by have q0 := nI_toInt (n := 0) (by omega); have q1 := nI_toInt (n := S.1.length) (by omega); omega)) ?_
    refine z_if_ne_n (a := 0) (tgt := 20) dX13_rests_11 (by decide) (by omega) (fun h_11_23 => ?_) (fun h_11_23 => ?_)
    · exact absurd h_11_23 (by decide)
    · refine z_aload_n dX13_rests_14 rfl ?_
      refine z_iconst (v := nI 1) dX13_rests_15 rfl ?_
      refine z_callR (As := [.int (nI (1))]) (rest := []) (b := b) (ci := 12) (v := some (.int (nI (0)))) (R2 := zR 0 0) dX13_rests_16 kV_RX13_61 rfl ⟨⟨by decide, by decide⟩, by decide, by decide⟩ (by omega) h.ce rfl rfl rfl (Nat.le_of_ble_eq_true rfl) rfl (c_X13_fail (x := (nI (1))) h0 h) (fun w24 pw24 => ?_)
      obtain ⟨hf25, hx26⟩ := pw24
      refine z_iret dX13_rests_19 rfl (by decide) (by decide) ?_
      have hF : spF 1 x.toInt y.toInt 0 S = 1 := by simp only [spF]; unfold fRest; (repeat' split) <;> omega
      exact ⟨_, _, _, rfl, hf25, hx26, by rw [hF]; rfl, by rw [if_neg (by rw [hF]; decide)]; exact hv, fun q9 => absurd (hF.symm.trans q9) (by decide)⟩
