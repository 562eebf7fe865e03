/-! the reference: a notation -/
def HR (f : Nat → Int32) (T : List Nat) (t : Nat) : Prop := T.length = min 200 t ∧ ∀ j, j < T.length → f j = nI (gT T j)
theorem pN_b {I : List Nat} {lo p br : Nat} : (pN I lo p br).2.2 ≤ 1 := by unfold pN; (repeat' split) <;> (dsimp only; omega)
theorem pfill_len {T : List Nat} {l m : Nat} : (pfill T l m).length = min 200 (T.length + m) := by unfold pfill; rw [ltab_len]
theorem pfill_get {T : List Nat} {l m j : Nat} (h : j < min 200 (T.length + m)) : gT (pfill T l m) j = if j < T.length then gT T j else l := by unfold pfill; exact gT_tab h
theorem pRn_in {I : List Nat} {p : Nat} (hp : p ≤ I.length) (hg : ∀ k, I.length ≤ k → I.getD k 0 = 0) : (pRn I p).2.1 ≤ I.length := by
  have h1 : (pRa I p).2.1 ≤ I.length := by
    unfold pRa
    by_cases c : I.getD p 0 = 114
    · rw [if_pos c]
      show p + 1 ≤ _
      rcases Nat.lt_or_ge p I.length with q | q
      · exact q
      · have := hg p q; omega
    · rw [if_neg c]
      have h2 := pExp_in (I := I) (c := 104) (p := p) (br := 0) (by omega) hp
      unfold pDig
      by_cases c2 : (pExp I 104 p 0).2 = 0 ∧ 49 ≤ I.getD (pExp I 104 p 0).1 0 ∧ I.getD (pExp I 104 p 0).1 0 ≤ 57
      · rw [if_pos c2]
        show (pExp I 104 p 0).1 + 1 ≤ _
        rcases Nat.lt_or_ge (pExp I 104 p 0).1 I.length with q | q
        · exact q
        · have := hg _ q; omega
      · rw [if_neg c2]; exact h2.1
  have h3 := pExp_in (I := I) (c := 58) (p := (pRa I p).2.1) (br := (pRa I p).2.2) (by omega) h1
  exact pN_in (by omega) h3.1
set_option maxRecDepth 100000 in
set_option maxHeartbeats 4000000 in
theorem l_X13_run148 {g : zGT} {w wi : zW} {b : Nat} {th ch ea fa sv tn po en ln wr dg : Int32} {fv fb fs fp fh ft fl fi : Nat → Int32} {v1 lv : Int32} {t n l : Nat} {T : List Nat} (h0 : zG0 g) (hfi0 : zFr w wi b (b + 11)) (h : Mx g wi b th ch ea fa sv tn po en ln (nI t) wr dg fv fb fs fp fh ft fl fi) (hT : HR fh T t) (hlv : 0 < n → lv = nI l) (ht : t + n < 100000) : zTr g mX13_run (zR 2 0) 0 0 148 [(0, .ref (za g b)), (1, .int (v1)), (2, .int (lv)), (3, .int (nI (n))), (4, .int (nI (0)))] [] wi (fun o w' => o = .inl none ∧ zFr w w' b (b + 11) ∧ ∃ f', Mx g w' b th ch ea fa sv tn po en ln (nI (t + n)) wr dg fv fb fs fp (f') ft fl fi ∧ HR f' (pfill T l n) (t + n)) := by
  have hb := h.1
  have hT1 := hT.1
  have loop : ∀ (mm : Nat) (k : Nat) (wi : zW) (f9 : Nat → Int32), n + 1 - k < mm → (k ≤ n) → (zFr w wi b (b + 11)) → (Mx g wi b th ch ea fa sv tn po en ln (nI (t + k)) wr dg fv fb fs fp f9 ft fl fi) → (∀ j, j < min 200 (t + k) → f9 j = nI (if j < T.length then gT T j else l)) → zTr g mX13_run (zR 2 0) 0 0 148 [(0, .ref (za g b)), (1, .int (v1)), (2, .int (lv)), (3, .int (nI (n))), (4, .int (nI (k)))] [] wi (fun o w' => o = .inl none ∧ zFr w w' b (b + 11) ∧ ∃ f', Mx g w' b th ch ea fa sv tn po en ln (nI (t + n)) wr dg fv fb fs fp (f') ft fl fi ∧ HR f' (pfill T l n) (t + n)) := by
    intro mm
    induction mm with
    | zero => intros; omega
    | succ mm ih =>
      intro k wi f9 hm hkn hfi hmi hi
      refine z_iload dX13_run_148 rfl ?_
      refine z_iload_n dX13_run_150 rfl ?_
      refine z_icmp_ge_n (a := k) (b := n) (tgt := 190) dX13_run_151 (by decide) (by omega) (by omega) (fun h_151_1 => ?_) (fun h_151_1 => ?_)
      · refine z_vret dX13_run_190 rfl (by decide) (by decide) ?_
        have hk9 : k = n := by omega
        subst hk9
        refine ⟨rfl, hfi, f9, hmi, by rw [pfill_len]; omega, fun j hj => ?_⟩
        rw [pfill_len] at hj
        rw [pfill_get hj, hi j (by omega)]
      · refine z_aload_n dX13_run_154 rfl ?_
        refine z_getf (j := b) dX13_run_155 kF_RX13_206 rfl (by omega) hmi.ce rfl ?_
        refine z_sipush (v := nI 200) dX13_run_158 rfl ?_
        refine z_icmp_ge_n (a := t + k) (b := 200) (tgt := 174) dX13_run_161 (by decide) (by omega) (by omega) (fun h_161_2 => ?_) (fun h_161_2 => ?_)
        · refine z_aload_n dX13_run_174 rfl ?_
          refine z_dup dX13_run_175 rfl ?_
          refine z_getf (j := b) dX13_run_176 kF_RX13_206 rfl (by omega) hmi.ce rfl ?_
          refine z_iconst (v := nI 1) dX13_run_179 rfl ?_
          refine z_iadd_n (a := t + k) (b := 1) dX13_run_180 ?_
          refine z_putf (j := b) dX13_run_181 kF_RX13_206 zt_12_19 rfl (by omega) hmi.ce rfl rfl (Nat.le_of_ble_eq_true rfl) ?_
          obtain ⟨w3, ew4⟩ : ∃ wz : zW, wz = va_up wi (b) (zO 12 [.int (th), .int (ch), .int (ea), .int (fa), .int (sv), .ref (za g (b + 1)), .ref (za g (b + 2)), .ref (za g (b + 3)), .ref (za g (b + 4)), .ref (za g (b + 5)), .ref (za g (b + 6)), .ref (za g (b + 7)), .ref (za g (b + 8)), .ref (za g (b + 9)), .ref (za g (b + 10)), .int (tn), .int (po), .int (en), .int (ln), .int (nI ((t + k) + (1))), .int (wr), .int (dg)]) := ⟨_, rfl⟩
          refine z_weq (w' := w3) ew4.symm ?_
          have hf5 : zFr wi w3 (b) (b + 1) := by rw [ew4]; exact zFr.up (by omega)
          have hw6 : w3 (b) = zO 12 [.int (th), .int (ch), .int (ea), .int (fa), .int (sv), .ref (za g (b + 1)), .ref (za g (b + 2)), .ref (za g (b + 3)), .ref (za g (b + 4)), .ref (za g (b + 5)), .ref (za g (b + 6)), .ref (za g (b + 7)), .ref (za g (b + 8)), .ref (za g (b + 9)), .ref (za g (b + 10)), .int (tn), .int (po), .int (en), .int (ln), .int (nI ((t + k) + (1))), .int (wr), .int (dg)] := by rw [ew4, zup_s]
          have hx7 := hmi.setC hf5 hw6
          refine z_iinc_n (n := 1) (a := k) (lv' := [(0, .ref (za g b)), (1, .int (v1)), (2, .int (lv)), (3, .int (nI (n))), (4, .int (nI (k + 1)))]) dX13_run_184 rfl (by decide) rfl ?_
          refine z_goto (tgt := 148) dX13_run_187 (by decide) ?_
          refine ih (k + 1) _ _ (by omega) (by omega) (hfi.tr (hf5.wk (by omega) (by omega))) hx7 (fun j hj => ?_)
          exact hi j (by omega)
        · refine z_aload_n dX13_run_164 rfl ?_
          refine z_getf (j := b) dX13_run_165 kF_RX13_29 rfl (by omega) hmi.ce rfl ?_
          refine z_aload_n dX13_run_168 rfl ?_
          refine z_getf (j := b) dX13_run_169 kF_RX13_206 rfl (by omega) hmi.ce rfl ?_
          refine z_iload_n dX13_run_172 rfl ?_
          refine z_iast_n (j := b + 5) (N := 200) (a := t + k) (f := f9) dX13_run_173 (by omega) hmi.r5 (by omega) (by omega) ?_
          obtain ⟨w8, ew9⟩ : ∃ wz : zW, wz = va_up wi (b + 5) (zI g 200 (upd (f9) (t + k) ((lv)))) := ⟨_, rfl⟩
          refine z_weq (w' := w8) ew9.symm ?_
          have hf10 : zFr wi w8 (b + 5) (b + 5 + 1) := by rw [ew9]; exact zFr.up (by omega)
          have hw11 : w8 (b + 5) = zI g 200 (upd (f9) (t + k) ((lv))) := by rw [ew9, zup_s]
          have hx12 := hmi.setH hf10 hw11
          refine z_aload_n dX13_run_174 rfl ?_
          refine z_dup dX13_run_175 rfl ?_
          refine z_getf (j := b) dX13_run_176 kF_RX13_206 rfl (by omega) hx12.ce rfl ?_
          refine z_iconst (v := nI 1) dX13_run_179 rfl ?_
          refine z_iadd_n (a := t + k) (b := 1) dX13_run_180 ?_
          refine z_putf (j := b) dX13_run_181 kF_RX13_206 zt_12_19 rfl (by omega) hx12.ce rfl rfl (Nat.le_of_ble_eq_true rfl) ?_
          obtain ⟨w13, ew14⟩ : ∃ wz : zW, wz = va_up w8 (b) (zO 12 [.int (th), .int (ch), .int (ea), .int (fa), .int (sv), .ref (za g (b + 1)), .ref (za g (b + 2)), .ref (za g (b + 3)), .ref (za g (b + 4)), .ref (za g (b + 5)), .ref (za g (b + 6)), .ref (za g (b + 7)), .ref (za g (b + 8)), .ref (za g (b + 9)), .ref (za g (b + 10)), .int (tn), .int (po), .int (en), .int (ln), .int (nI ((t + k) + (1))), .int (wr), .int (dg)]) := ⟨_, rfl⟩
          refine z_weq (w' := w13) ew14.symm ?_
          have hf15 : zFr w8 w13 (b) (b + 1) := by rw [ew14]; exact zFr.up (by omega)
          have hw16 : w13 (b) = zO 12 [.int (th), .int (ch), .int (ea), .int (fa), .int (sv), .ref (za g (b + 1)), .ref (za g (b + 2)), .ref (za g (b + 3)), .ref (za g (b + 4)), .ref (za g (b + 5)), .ref (za g (b + 6)), .ref (za g (b + 7)), .ref (za g (b + 8)), .ref (za g (b + 9)), .ref (za g (b + 10)), .int (tn), .int (po), .int (en), .int (ln), .int (nI ((t + k) + (1))), .int (wr), .int (dg)] := by rw [ew14, zup_s]
          have hx17 := hx12.setC hf15 hw16
          refine z_iinc_n (n := 1) (a := k) (lv' := [(0, .ref (za g b)), (1, .int (v1)), (2, .int (lv)), (3, .int (nI (n))), (4, .int (nI (k + 1)))]) dX13_run_184 rfl (by decide) rfl ?_
          refine z_goto (tgt := 148) dX13_run_187 (by decide) ?_
          refine ih (k + 1) _ _ (by omega) (by omega) ((hfi.tr (hf10.wk (by omega) (by omega))).tr (hf15.wk (by omega) (by omega))) hx17 (fun j hj => ?_)
          simp only [upd]
          by_cases c : j = t + k
          · rw [if_pos c, hlv (by omega), if_neg (by omega)]
          · rw [if_neg c]; exact hi j (by omega)
  exact loop (n + 2) 0 wi fh (by omega) (Nat.zero_le _) hfi0 h (fun j hj => by rw [if_pos (by omega)]; exact hT.2 j (by omega))
set_option maxRecDepth 100000 in
set_option maxHeartbeats 4000000 in
theorem l_X13_run95 {g : zGT} {w wi : zW} {b : Nat} {th ch ea fa sv tn  ln dg : Int32} {fv fb fs fp fh ft fl fi : Nat → Int32} {v1 lv : Int32} {t l pa ba : Nat} {T I : List Nat} (h0 : zG0 g) (hfi : zFr w wi b (b + 11)) (h : Mx g wi b th ch ea fa sv tn (nI pa) (nI I.length) ln (nI t) (nI ba) dg fv fb fs fp fh ft fl fi) (htx : TxR ft I) (hT : HR fh T t) (hlv : ba = 0 → lv = nI l) (hpa : pa ≤ I.length) (hba : ba ≤ 1) (ht : t < 90000) : zTr g mX13_run (zR 2 0) 0 0 95 [(0, .ref (za g b)), (1, .int (v1)), (2, .int (lv))] [] wi (fun o w' => o = .inl none ∧ zFr w w' b (b + 11) ∧ ∃ f', Mx g w' b th ch ea fa sv tn (nI (pN I 49 (pExp I 58 pa ba).1 (pExp I 58 pa ba).2).2.1) (nI I.length) ln (nI (t + (pN I 49 (pExp I 58 pa ba).1 (pExp I 58 pa ba).2).1)) (nI (pN I 49 (pExp I 58 pa ba).1 (pExp I 58 pa ba).2).2.2) dg fv fb fs fp (f') ft fl fi ∧ HR f' (pfill T l (pN I 49 (pExp I 58 pa ba).1 (pExp I 58 pa ba).2).1) (t + (pN I 49 (pExp I 58 pa ba).1 (pExp I 58 pa ba).2).1)) := by
  have hb := h.1
  have htl := htx.1
  refine z_aload_n dX13_run_95 rfl ?_
  refine z_bipush (v := nI 58) dX13_run_96 rfl ?_
  refine z_callR (As := [.int (nI (58))]) (rest := []) (b := b) (ci := 12) (v := none) (R2 := zR 1 0) dX13_run_98 kV_RX13_200 rfl ⟨⟨by decide, by decide⟩, by decide, by decide⟩ (by omega) h.ce rfl rfl rfl (Nat.le_of_ble_eq_true rfl) rfl (c_X13_mark (p := pa) (br := ba) (c := 58) h0 h htx (by omega) (by omega) (by omega)) (fun w1 pw1 => ?_)
  obtain ⟨hf2, hx3⟩ := pw1
  have hpe4 := pExp_in (I := I) (c := 58) (p := pa) (br := ba) (by omega) (by omega)
  have hpb2 : (pExp I 58 pa ba).2 = 0 ∨ (pExp I 58 pa ba).2 = 1 := by omega
  rcases hpb2 with hB | hB
  · have hxB := hx3
    rw [hB] at hxB
    refine z_aload_n dX13_run_101 rfl ?_
    refine z_dup dX13_run_102 rfl ?_
    refine z_getf (j := b) dX13_run_103 kF_RX13_193 rfl (by omega) hxB.ce rfl ?_
    refine z_aload_n dX13_run_106 rfl ?_
    by_cases hc105 : (pExp I 58 (pa) (ba)).1 < I.length
    · have hch106 := htx.2.2 _ (get_mem hc105)
      refine z_callE (As := []) (rest := [.int (nI (0)), .ref (za g b)]) (b := b) (ci := 12) (v := some (.int (nI (I.getD ((pExp I 58 (pa) (ba)).1) 0)))) (R2 := zR 0 0) dX13_run_107 kV_RX13_197 rfl ⟨⟨by decide, by decide⟩, by decide, by decide⟩ (by omega) hxB.ce rfl rfl rfl (Nat.le_of_ble_eq_true rfl) rfl (c_X13_sign_y (p := (pExp I 58 (pa) (ba)).1) h0 hxB htx (by omega) hc105) ?_
      refine z_bipush (v := nI 49) dX13_run_110 rfl ?_
      refine z_bipush (v := nI 57) dX13_run_112 rfl ?_
      by_cases hc108 : ((49 : Nat) : Int) ≤ ((I.getD ((pExp I 58 (pa) (ba)).1) 0 : Nat) : Int) ∧ ((I.getD ((pExp I 58 (pa) (ba)).1) 0 : Nat) : Int) ≤ ((57 : Nat) : Int)
      · refine z_callSE (As := [.int (nI (I.getD ((pExp I 58 (pa) (ba)).1) 0)), .int (nI (49)), .int (nI (57))]) (rest := [.int (nI (0)), .ref (za g b)]) (v := some (.int (nI (1)))) (R2 := zR 0 0) dX13_run_114 kS_RX13_57 rfl rfl ⟨⟨by decide, by decide⟩, by decide, by decide⟩ rfl (Nat.le_of_ble_eq_true rfl) rfl (c_X13_isIn_y (x := (nI (I.getD ((pExp I 58 (pa) (ba)).1) 0))) (y := (nI (49))) (z := (nI (57))) h0 (by have q0 := nI_toInt (n := I.getD ((pExp I 58 (pa) (ba)).1) 0) (by omega); have q1 := nI_toInt (n := 49) (by omega); have q2 := nI_toInt (n := 57) (by omega); omega)) ?_
        refine z_if_ne_n (a := 1) (tgt := 124) dX13_run_117 (by decide) (by omega) (fun h_117_110 => ?_) (fun h_117_110 => ?_)
        · refine z_iconst (v := nI 0) dX13_run_124 rfl ?_
          refine z_ior dX13_run_125 ?_
          refine z_eq (st' := [.int (nI (0)), .ref (za g b)]) rfl (by rfl) rfl ?_
          refine z_putf (j := b) dX13_run_126 kF_RX13_193 zt_12_20 rfl (by omega) hxB.ce rfl rfl (Nat.le_of_ble_eq_true rfl) ?_
          obtain ⟨w111, ew112⟩ : ∃ wz : zW, wz = va_up w1 (b) (zO 12 [.int (th), .int (ch), .int (ea), .int (fa), .int (sv), .ref (za g (b + 1)), .ref (za g (b + 2)), .ref (za g (b + 3)), .ref (za g (b + 4)), .ref (za g (b + 5)), .ref (za g (b + 6)), .ref (za g (b + 7)), .ref (za g (b + 8)), .ref (za g (b + 9)), .ref (za g (b + 10)), .int (tn), .int (nI ((pExp I 58 (pa) (ba)).1)), .int (nI (I.length)), .int (ln), .int (nI (t)), .int (nI (0)), .int (dg)]) := ⟨_, rfl⟩
          refine z_weq (w' := w111) ew112.symm ?_
          have hf113 : zFr w1 w111 (b) (b + 1) := by rw [ew112]; exact zFr.up (by omega)
          have hw114 : w111 (b) = zO 12 [.int (th), .int (ch), .int (ea), .int (fa), .int (sv), .ref (za g (b + 1)), .ref (za g (b + 2)), .ref (za g (b + 3)), .ref (za g (b + 4)), .ref (za g (b + 5)), .ref (za g (b + 6)), .ref (za g (b + 7)), .ref (za g (b + 8)), .ref (za g (b + 9)), .ref (za g (b + 10)), .int (tn), .int (nI ((pExp I 58 (pa) (ba)).1)), .int (nI (I.length)), .int (ln), .int (nI (t)), .int (nI (0)), .int (dg)] := by rw [ew112, zup_s]
          have hx115 := hxB.setC hf113 hw114
          refine z_aload_n dX13_run_129 rfl ?_
          refine z_getf (j := b) dX13_run_130 kF_RX13_193 rfl (by omega) hx115.ce rfl ?_
          refine z_if_eq_n (a := 0) (tgt := 140) dX13_run_133 (by decide) (by omega) (fun h_133_116 => ?_) (fun h_133_116 => ?_)
          · refine z_aload_n dX13_run_140 rfl ?_
            refine z_callR (As := []) (rest := []) (b := b) (ci := 12) (v := some (.int (nI ((pN I 48 ((pExp I 58 (pa) (ba)).1) (0)).1)))) (R2 := zR 1 0) dX13_run_141 kV_RX13_203 rfl ⟨⟨by decide, by decide⟩, by decide, by decide⟩ (by omega) hx115.ce rfl rfl rfl (Nat.le_of_ble_eq_true rfl) rfl (c_X13_digits (p := (pExp I 58 (pa) (ba)).1) (br := 0) h0 hx115 htx (by omega) (by omega)) (fun w117 pw117 => ?_)
            obtain ⟨hf118, hx119⟩ := pw117
            have hpn120 := pN_in (I := I) (lo := 48) (p := (pExp I 58 (pa) (ba)).1) (br := 0) (by omega) (by omega)
            have hpb121 := pN_b (I := I) (lo := 48) (p := (pExp I 58 (pa) (ba)).1) (br := 0)
            have hpl122 := pN_le (I := I) (lo := 48) (p := (pExp I 58 (pa) (ba)).1) (br := 0) (by omega)
            refine z_istore_n (lv' := [(0, .ref (za g b)), (1, .int (v1)), (2, .int (lv)), (3, .int (nI ((pN I 48 ((pExp I 58 (pa) (ba)).1) (0)).1)))]) dX13_run_144 (by decide) rfl ?_
            refine z_iconst (v := nI 0) dX13_run_145 rfl ?_
            refine z_istore (lv' := [(0, .ref (za g b)), (1, .int (v1)), (2, .int (lv)), (3, .int (nI ((pN I 48 ((pExp I 58 (pa) (ba)).1) (0)).1))), (4, .int (nI (0)))]) dX13_run_146 (by decide) rfl ?_
            have eR : (pN I 49 (pExp I 58 pa ba).1 (pExp I 58 pa ba).2) = pN I 48 (pExp I 58 pa ba).1 0 := by rw [hB, pN_49, if_pos (by omega)]
            rw [eR]
            exact l_X13_run148 (n := (pN I 48 ((pExp I 58 (pa) (ba)).1) (0)).1) h0 (((hfi.tr hf2).tr (hf113.wk (by omega) (by omega))).tr hf118) hx119 hT (fun _ => hlv (pExp_br hB).1) (by omega)
          · exact absurd h_133_116 (by decide)
        · exact absurd h_117_110 (by decide)
      · refine z_callSE (As := [.int (nI (I.getD ((pExp I 58 (pa) (ba)).1) 0)), .int (nI (49)), .int (nI (57))]) (rest := [.int (nI (0)), .ref (za g b)]) (v := some (.int (nI (0)))) (R2 := zR 0 0) dX13_run_114 kS_RX13_57 rfl rfl ⟨⟨by decide, by decide⟩, by decide, by decide⟩ rfl (Nat.le_of_ble_eq_true rfl) rfl (c_X13_isIn_n (x := (nI (I.getD ((pExp I 58 (pa) (ba)).1) 0))) (y := (nI (49))) (z := (nI (57))) h0 (by have q0 := nI_toInt (n := I.getD ((pExp I 58 (pa) (ba)).1) 0) (by omega); have q1 := nI_toInt (n := 49) (by omega); have q2 := nI_toInt (n := 57) (by omega); omega)) ?_
        refine z_if_ne_n (a := 0) (tgt := 124) dX13_run_117 (by decide) (by omega) (fun h_117_124 => ?_) (fun h_117_124 => ?_)
        · exact absurd h_117_124 (by decide)
        · refine z_iconst (v := nI 1) dX13_run_120 rfl ?_
          refine z_goto (tgt := 125) dX13_run_121 (by decide) ?_
          refine z_ior dX13_run_125 ?_
          refine z_eq (st' := [.int (nI (1)), .ref (za g b)]) rfl (by rfl) rfl ?_
          refine z_putf (j := b) dX13_run_126 kF_RX13_193 zt_12_20 rfl (by omega) hxB.ce rfl rfl (Nat.le_of_ble_eq_true rfl) ?_
          obtain ⟨w125, ew126⟩ : ∃ wz : zW, wz = va_up w1 (b) (zO 12 [.int (th), .int (ch), .int (ea), .int (fa), .int (sv), .ref (za g (b + 1)), .ref (za g (b + 2)), .ref (za g (b + 3)), .ref (za g (b + 4)), .ref (za g (b + 5)), .ref (za g (b + 6)), .ref (za g (b + 7)), .ref (za g (b + 8)), .ref (za g (b + 9)), .ref (za g (b + 10)), .int (tn), .int (nI ((pExp I 58 (pa) (ba)).1)), .int (nI (I.length)), .int (ln), .int (nI (t)), .int (nI (1)), .int (dg)]) := ⟨_, rfl⟩
          refine z_weq (w' := w125) ew126.symm ?_
          have hf127 : zFr w1 w125 (b) (b + 1) := by rw [ew126]; exact zFr.up (by omega)
          have hw128 : w125 (b) = zO 12 [.int (th), .int (ch), .int (ea), .int (fa), .int (sv), .ref (za g (b + 1)), .ref (za g (b + 2)), .ref (za g (b + 3)), .ref (za g (b + 4)), .ref (za g (b + 5)), .ref (za g (b + 6)), .ref (za g (b + 7)), .ref (za g (b + 8)), .ref (za g (b + 9)), .ref (za g (b + 10)), .int (tn), .int (nI ((pExp I 58 (pa) (ba)).1)), .int (nI (I.length)), .int (ln), .int (nI (t)), .int (nI (1)), .int (dg)] := by rw [ew126, zup_s]
          have hx129 := hxB.setC hf127 hw128
          refine z_aload_n dX13_run_129 rfl ?_
          refine z_getf (j := b) dX13_run_130 kF_RX13_193 rfl (by omega) hx129.ce rfl ?_
          refine z_if_eq_n (a := 1) (tgt := 140) dX13_run_133 (by decide) (by omega) (fun h_133_130 => ?_) (fun h_133_130 => ?_)
          · exact absurd h_133_130 (by decide)
          · refine z_iconst (v := nI 0) dX13_run_136 rfl ?_
            refine z_goto (tgt := 144) dX13_run_137 (by decide) ?_
            refine z_istore_n (lv' := [(0, .ref (za g b)), (1, .int (v1)), (2, .int (lv)), (3, .int (nI (0)))]) dX13_run_144 (by decide) rfl ?_
            refine z_iconst (v := nI 0) dX13_run_145 rfl ?_
            refine z_istore (lv' := [(0, .ref (za g b)), (1, .int (v1)), (2, .int (lv)), (3, .int (nI (0))), (4, .int (nI (0)))]) dX13_run_146 (by decide) rfl ?_
            have eR : (pN I 49 (pExp I 58 pa ba).1 (pExp I 58 pa ba).2) = (0, (pExp I 58 pa ba).1, 1) := by rw [hB, pN_49, if_neg (by omega)]
            rw [eR]
            exact l_X13_run148 (n := 0) h0 ((hfi.tr hf2).tr (hf127.wk (by omega) (by omega))) hx129 hT (fun z => absurd z (by decide)) (by omega)
    · have hgz131 : I.getD ((pExp I 58 (pa) (ba)).1) 0 = 0 := gD_ge (by omega)
      have hm1132 : (-1 : Int32).toInt = -1 := by decide
      refine z_callE (As := []) (rest := [.int (nI (0)), .ref (za g b)]) (b := b) (ci := 12) (v := some (.int (-1))) (R2 := zR 0 0) dX13_run_107 kV_RX13_197 rfl ⟨⟨by decide, by decide⟩, by decide, by decide⟩ (by omega) hxB.ce rfl rfl rfl (Nat.le_of_ble_eq_true rfl) rfl (c_X13_sign_n (p := (pExp I 58 (pa) (ba)).1) h0 hxB htx (by omega) hc105) ?_
      refine z_bipush (v := nI 49) dX13_run_110 rfl ?_
      refine z_bipush (v := nI 57) dX13_run_112 rfl ?_
      by_cases hc134 : ((49 : Nat) : Int) ≤ (-1 : Int) ∧ (-1 : Int) ≤ ((57 : Nat) : Int)
      · refine z_callSE (As := [.int (-1), .int (nI (49)), .int (nI (57))]) (rest := [.int (nI (0)), .ref (za g b)]) (v := some (.int (nI (1)))) (R2 := zR 0 0) dX13_run_114 kS_RX13_57 rfl rfl ⟨⟨by decide, by decide⟩, by decide, by decide⟩ rfl (Nat.le_of_ble_eq_true rfl) rfl (c_X13_isIn_y (x := (-1)) (y := (nI (49))) (z := (nI (57))) h0 (by have q0 := (show ((-1 : Int32)).toInt = -1 from by decide); have q1 := nI_toInt (n := 49) (by omega); have q2 := nI_toInt (n := 57) (by omega); omega)) ?_
        refine z_if_ne_n (a := 1) (tgt := 124) dX13_run_117 (by decide) (by omega) (fun h_117_136 => ?_) (fun h_117_136 => ?_)
        · refine z_iconst (v := nI 0) dX13_run_124 rfl ?_
          refine z_ior dX13_run_125 ?_
          refine z_eq (st' := [.int (nI (0)), .ref (za g b)]) rfl (by rfl) rfl ?_
          refine z_putf (j := b) dX13_run_126 kF_RX13_193 zt_12_20 rfl (by omega) hxB.ce rfl rfl (Nat.le_of_ble_eq_true rfl) ?_
          obtain ⟨w137, ew138⟩ : ∃ wz : zW, wz = va_up w1 (b) (zO 12 [.int (th), .int (ch), .int (ea), .int (fa), .int (sv), .ref (za g (b + 1)), .ref (za g (b + 2)), .ref (za g (b + 3)), .ref (za g (b + 4)), .ref (za g (b + 5)), .ref (za g (b + 6)), .ref (za g (b + 7)), .ref (za g (b + 8)), .ref (za g (b + 9)), .ref (za g (b + 10)), .int (tn), .int (nI ((pExp I 58 (pa) (ba)).1)), .int (nI (I.length)), .int (ln), .int (nI (t)), .int (nI (0)), .int (dg)]) := ⟨_, rfl⟩
          refine z_weq (w' := w137) ew138.symm ?_
          have hf139 : zFr w1 w137 (b) (b + 1) := by rw [ew138]; exact zFr.up (by omega)
          have hw140 : w137 (b) = zO 12 [.int (th), .int (ch), .int (ea), .int (fa), .int (sv), .ref (za g (b + 1)), .ref (za g (b + 2)), .ref (za g (b + 3)), .ref (za g (b + 4)), .ref (za g (b + 5)), .ref (za g (b + 6)), .ref (za g (b + 7)), .ref (za g (b + 8)), .ref (za g (b + 9)), .ref (za g (b + 10)), .int (tn), .int (nI ((pExp I 58 (pa) (ba)).1)), .int (nI (I.length)), .int (ln), .int (nI (t)), .int (nI (0)), .int (dg)] := by rw [ew138, zup_s]
          have hx141 := hxB.setC hf139 hw140
          refine z_aload_n dX13_run_129 rfl ?_
          refine z_getf (j := b) dX13_run_130 kF_RX13_193 rfl (by omega) hx141.ce rfl ?_
          refine z_if_eq_n (a := 0) (tgt := 140) dX13_run_133 (by decide) (by omega) (fun h_133_142 => ?_) (fun h_133_142 => ?_)
          · refine z_aload_n dX13_run_140 rfl ?_
            refine z_callR (As := []) (rest := []) (b := b) (ci := 12) (v := some (.int (nI ((pN I 48 ((pExp I 58 (pa) (ba)).1) (0)).1)))) (R2 := zR 1 0) dX13_run_141 kV_RX13_203 rfl ⟨⟨by decide, by decide⟩, by decide, by decide⟩ (by omega) hx141.ce rfl rfl rfl (Nat.le_of_ble_eq_true rfl) rfl (c_X13_digits (p := (pExp I 58 (pa) (ba)).1) (br := 0) h0 hx141 htx (by omega) (by omega)) (fun w143 pw143 => ?_)
            obtain ⟨hf144, hx145⟩ := pw143
            have hpn146 := pN_in (I := I) (lo := 48) (p := (pExp I 58 (pa) (ba)).1) (br := 0) (by omega) (by omega)
            have hpb147 := pN_b (I := I) (lo := 48) (p := (pExp I 58 (pa) (ba)).1) (br := 0)
            have hpl148 := pN_le (I := I) (lo := 48) (p := (pExp I 58 (pa) (ba)).1) (br := 0) (by omega)
            refine z_istore_n (lv' := [(0, .ref (za g b)), (1, .int (v1)), (2, .int (lv)), (3, .int (nI ((pN I 48 ((pExp I 58 (pa) (ba)).1) (0)).1)))]) dX13_run_144 (by decide) rfl ?_
            refine z_iconst (v := nI 0) dX13_run_145 rfl ?_
            refine z_istore (lv' := [(0, .ref (za g b)), (1, .int (v1)), (2, .int (lv)), (3, .int (nI ((pN I 48 ((pExp I 58 (pa) (ba)).1) (0)).1))), (4, .int (nI (0)))]) dX13_run_146 (by decide) rfl ?_
            have eR : (pN I 49 (pExp I 58 pa ba).1 (pExp I 58 pa ba).2) = pN I 48 (pExp I 58 pa ba).1 0 := by rw [hB, pN_49, if_pos (by omega)]
            rw [eR]
            exact l_X13_run148 (n := (pN I 48 ((pExp I 58 (pa) (ba)).1) (0)).1) h0 (((hfi.tr hf2).tr (hf139.wk (by omega) (by omega))).tr hf144) hx145 hT (fun _ => hlv (pExp_br hB).1) (by omega)
          · exact absurd h_133_142 (by decide)
        · exact absurd h_117_136 (by decide)
      · refine z_callSE (As := [.int (-1), .int (nI (49)), .int (nI (57))]) (rest := [.int (nI (0)), .ref (za g b)]) (v := some (.int (nI (0)))) (R2 := zR 0 0) dX13_run_114 kS_RX13_57 rfl rfl ⟨⟨by decide, by decide⟩, by decide, by decide⟩ rfl (Nat.le_of_ble_eq_true rfl) rfl (c_X13_isIn_n (x := (-1)) (y := (nI (49))) (z := (nI (57))) h0 (by have q0 := (show ((-1 : Int32)).toInt = -1 from by decide); have q1 := nI_toInt (n := 49) (by omega); have q2 := nI_toInt (n := 57) (by omega); omega)) ?_
        refine z_if_ne_n (a := 0) (tgt := 124) dX13_run_117 (by decide) (by omega) (fun h_117_150 => ?_) (fun h_117_150 => ?_)
        · exact absurd h_117_150 (by decide)
        · refine z_iconst (v := nI 1) dX13_run_120 rfl ?_
          refine z_goto (tgt := 125) dX13_run_121 (by decide) ?_
          refine z_ior dX13_run_125 ?_
          refine z_eq (st' := [.int (nI (1)), .ref (za g b)]) rfl (by rfl) rfl ?_
          refine z_putf (j := b) dX13_run_126 kF_RX13_193 zt_12_20 rfl (by omega) hxB.ce rfl rfl (Nat.le_of_ble_eq_true rfl) ?_
          obtain ⟨w151, ew152⟩ : ∃ wz : zW, wz = va_up w1 (b) (zO 12 [.int (th), .int (ch), .int (ea), .int (fa), .int (sv), .ref (za g (b + 1)), .ref (za g (b + 2)), .ref (za g (b + 3)), .ref (za g (b + 4)), .ref (za g (b + 5)), .ref (za g (b + 6)), .ref (za g (b + 7)), .ref (za g (b + 8)), .ref (za g (b + 9)), .ref (za g (b + 10)), .int (tn), .int (nI ((pExp I 58 (pa) (ba)).1)), .int (nI (I.length)), .int (ln), .int (nI (t)), .int (nI (1)), .int (dg)]) := ⟨_, rfl⟩
          refine z_weq (w' := w151) ew152.symm ?_
          have hf153 : zFr w1 w151 (b) (b + 1) := by rw [ew152]; exact zFr.up (by omega)
          have hw154 : w151 (b) = zO 12 [.int (th), .int (ch), .int (ea), .int (fa), .int (sv), .ref (za g (b + 1)), .ref (za g (b + 2)), .ref (za g (b + 3)), .ref (za g (b + 4)), .ref (za g (b + 5)), .ref (za g (b + 6)), .ref (za g (b + 7)), .ref (za g (b + 8)), .ref (za g (b + 9)), .ref (za g (b + 10)), .int (tn), .int (nI ((pExp I 58 (pa) (ba)).1)), .int (nI (I.length)), .int (ln), .int (nI (t)), .int (nI (1)), .int (dg)] := by rw [ew152, zup_s]
          have hx155 := hxB.setC hf153 hw154
          refine z_aload_n dX13_run_129 rfl ?_
          refine z_getf (j := b) dX13_run_130 kF_RX13_193 rfl (by omega) hx155.ce rfl ?_
          refine z_if_eq_n (a := 1) (tgt := 140) dX13_run_133 (by decide) (by omega) (fun h_133_156 => ?_) (fun h_133_156 => ?_)
          · exact absurd h_133_156 (by decide)
          · refine z_iconst (v := nI 0) dX13_run_136 rfl ?_
            refine z_goto (tgt := 144) dX13_run_137 (by decide) ?_
            refine z_istore_n (lv' := [(0, .ref (za g b)), (1, .int (v1)), (2, .int (lv)), (3, .int (nI (0)))]) dX13_run_144 (by decide) rfl ?_
            refine z_iconst (v := nI 0) dX13_run_145 rfl ?_
            refine z_istore (lv' := [(0, .ref (za g b)), (1, .int (v1)), (2, .int (lv)), (3, .int (nI (0))), (4, .int (nI (0)))]) dX13_run_146 (by decide) rfl ?_
            have eR : (pN I 49 (pExp I 58 pa ba).1 (pExp I 58 pa ba).2) = (0, (pExp I 58 pa ba).1, 1) := by rw [hB, pN_49, if_neg (by omega)]
            rw [eR]
            exact l_X13_run148 (n := 0) h0 ((hfi.tr hf2).tr (hf153.wk (by omega) (by omega))) hx155 hT (fun z => absurd z (by decide)) (by omega)
  · have hxB := hx3
    rw [hB] at hxB
    refine z_aload_n dX13_run_101 rfl ?_
    refine z_dup dX13_run_102 rfl ?_
    refine z_getf (j := b) dX13_run_103 kF_RX13_193 rfl (by omega) hxB.ce rfl ?_
    refine z_aload_n dX13_run_106 rfl ?_
    by_cases hc205 : (pExp I 58 (pa) (ba)).1 < I.length
    · have hch206 := htx.2.2 _ (get_mem hc205)
      refine z_callE (As := []) (rest := [.int (nI (1)), .ref (za g b)]) (b := b) (ci := 12) (v := some (.int (nI (I.getD ((pExp I 58 (pa) (ba)).1) 0)))) (R2 := zR 0 0) dX13_run_107 kV_RX13_197 rfl ⟨⟨by decide, by decide⟩, by decide, by decide⟩ (by omega) hxB.ce rfl rfl rfl (Nat.le_of_ble_eq_true rfl) rfl (c_X13_sign_y (p := (pExp I 58 (pa) (ba)).1) h0 hxB htx (by omega) hc205) ?_
      refine z_bipush (v := nI 49) dX13_run_110 rfl ?_
      refine z_bipush (v := nI 57) dX13_run_112 rfl ?_
      by_cases hc208 : ((49 : Nat) : Int) ≤ ((I.getD ((pExp I 58 (pa) (ba)).1) 0 : Nat) : Int) ∧ ((I.getD ((pExp I 58 (pa) (ba)).1) 0 : Nat) : Int) ≤ ((57 : Nat) : Int)
      · refine z_callSE (As := [.int (nI (I.getD ((pExp I 58 (pa) (ba)).1) 0)), .int (nI (49)), .int (nI (57))]) (rest := [.int (nI (1)), .ref (za g b)]) (v := some (.int (nI (1)))) (R2 := zR 0 0) dX13_run_114 kS_RX13_57 rfl rfl ⟨⟨by decide, by decide⟩, by decide, by decide⟩ rfl (Nat.le_of_ble_eq_true rfl) rfl (c_X13_isIn_y (x := (nI (I.getD ((pExp I 58 (pa) (ba)).1) 0))) (y := (nI (49))) (z := (nI (57))) h0 (by have q0 := nI_toInt (n := I.getD ((pExp I 58 (pa) (ba)).1) 0) (by omega); have q1 := nI_toInt (n := 49) (by omega); have q2 := nI_toInt (n := 57) (by omega); omega)) ?_
        refine z_if_ne_n (a := 1) (tgt := 124) dX13_run_117 (by decide) (by omega) (fun h_117_210 => ?_) (fun h_117_210 => ?_)
        · refine z_iconst (v := nI 0) dX13_run_124 rfl ?_
          refine z_ior dX13_run_125 ?_
          refine z_eq (st' := [.int (nI (1)), .ref (za g b)]) rfl (by rfl) rfl ?_
          refine z_putf (j := b) dX13_run_126 kF_RX13_193 zt_12_20 rfl (by omega) hxB.ce rfl rfl (Nat.le_of_ble_eq_true rfl) ?_
          obtain ⟨w211, ew212⟩ : ∃ wz : zW, wz = va_up w1 (b) (zO 12 [.int (th), .int (ch), .int (ea), .int (fa), .int (sv), .ref (za g (b + 1)), .ref (za g (b + 2)), .ref (za g (b + 3)), .ref (za g (b + 4)), .ref (za g (b + 5)), .ref (za g (b + 6)), .ref (za g (b + 7)), .ref (za g (b + 8)), .ref (za g (b + 9)), .ref (za g (b + 10)), .int (tn), .int (nI ((pExp I 58 (pa) (ba)).1)), .int (nI (I.length)), .int (ln), .int (nI (t)), .int (nI (1)), .int (dg)]) := ⟨_, rfl⟩
          refine z_weq (w' := w211) ew212.symm ?_
          have hf213 : zFr w1 w211 (b) (b + 1) := by rw [ew212]; exact zFr.up (by omega)
          have hw214 : w211 (b) = zO 12 [.int (th), .int (ch), .int (ea), .int (fa), .int (sv), .ref (za g (b + 1)), .ref (za g (b + 2)), .ref (za g (b + 3)), .ref (za g (b + 4)), .ref (za g (b + 5)), .ref (za g (b + 6)), .ref (za g (b + 7)), .ref (za g (b + 8)), .ref (za g (b + 9)), .ref (za g (b + 10)), .int (tn), .int (nI ((pExp I 58 (pa) (ba)).1)), .int (nI (I.length)), .int (ln), .int (nI (t)), .int (nI (1)), .int (dg)] := by rw [ew212, zup_s]
          have hx215 := hxB.setC hf213 hw214
          refine z_aload_n dX13_run_129 rfl ?_
          refine z_getf (j := b) dX13_run_130 kF_RX13_193 rfl (by omega) hx215.ce rfl ?_
          refine z_if_eq_n (a := 1) (tgt := 140) dX13_run_133 (by decide) (by omega) (fun h_133_216 => ?_) (fun h_133_216 => ?_)
          · exact absurd h_133_216 (by decide)
          · refine z_iconst (v := nI 0) dX13_run_136 rfl ?_
            refine z_goto (tgt := 144) dX13_run_137 (by decide) ?_
            refine z_istore_n (lv' := [(0, .ref (za g b)), (1, .int (v1)), (2, .int (lv)), (3, .int (nI (0)))]) dX13_run_144 (by decide) rfl ?_
            refine z_iconst (v := nI 0) dX13_run_145 rfl ?_
            refine z_istore (lv' := [(0, .ref (za g b)), (1, .int (v1)), (2, .int (lv)), (3, .int (nI (0))), (4, .int (nI (0)))]) dX13_run_146 (by decide) rfl ?_
            have eR : (pN I 49 (pExp I 58 pa ba).1 (pExp I 58 pa ba).2) = (0, (pExp I 58 pa ba).1, 1) := by rw [hB, pN_49, if_neg (by omega)]
            rw [eR]
            exact l_X13_run148 (n := 0) h0 ((hfi.tr hf2).tr (hf213.wk (by omega) (by omega))) hx215 hT (fun z => absurd z (by decide)) (by omega)
        · exact absurd h_117_210 (by decide)
      · refine z_callSE (As := [.int (nI (I.getD ((pExp I 58 (pa) (ba)).1) 0)), .int (nI (49)), .int (nI (57))]) (rest := [.int (nI (1)), .ref (za g b)]) (v := some (.int (nI (0)))) (R2 := zR 0 0) dX13_run_114 kS_RX13_57 rfl rfl ⟨⟨by decide, by decide⟩, by decide, by decide⟩ rfl (Nat.le_of_ble_eq_true rfl) rfl (c_X13_isIn_n (x := (nI (I.getD ((pExp I 58 (pa) (ba)).1) 0))) (y := (nI (49))) (z := (nI (57))) h0 (by have q0 := nI_toInt (n := I.getD ((pExp I 58 (pa) (ba)).1) 0) (by omega); have q1 := nI_toInt (n := 49) (by omega); have q2 := nI_toInt (n := 57) (by omega); omega)) ?_
        refine z_if_ne_n (a := 0) (tgt := 124) dX13_run_117 (by decide) (by omega) (fun h_117_218 => ?_) (fun h_117_218 => ?_)
        · exact absurd h_117_218 (by decide)
        · refine z_iconst (v := nI 1) dX13_run_120 rfl ?_
          refine z_goto (tgt := 125) dX13_run_121 (by decide) ?_
          refine z_ior dX13_run_125 ?_
          refine z_eq (st' := [.int (nI (1)), .ref (za g b)]) rfl (by rfl) rfl ?_
          refine z_putf (j := b) dX13_run_126 kF_RX13_193 zt_12_20 rfl (by omega) hxB.ce rfl rfl (Nat.le_of_ble_eq_true rfl) ?_
          obtain ⟨w219, ew220⟩ : ∃ wz : zW, wz = va_up w1 (b) (zO 12 [.int (th), .int (ch), .int (ea), .int (fa), .int (sv), .ref (za g (b + 1)), .ref (za g (b + 2)), .ref (za g (b + 3)), .ref (za g (b + 4)), .ref (za g (b + 5)), .ref (za g (b + 6)), .ref (za g (b + 7)), .ref (za g (b + 8)), .ref (za g (b + 9)), .ref (za g (b + 10)), .int (tn), .int (nI ((pExp I 58 (pa) (ba)).1)), .int (nI (I.length)), .int (ln), .int (nI (t)), .int (nI (1)), .int (dg)]) := ⟨_, rfl⟩
          refine z_weq (w' := w219) ew220.symm ?_
          have hf221 : zFr w1 w219 (b) (b + 1) := by rw [ew220]; exact zFr.up (by omega)
          have hw222 : w219 (b) = zO 12 [.int (th), .int (ch), .int (ea), .int (fa), .int (sv), .ref (za g (b + 1)), .ref (za g (b + 2)), .ref (za g (b + 3)), .ref (za g (b + 4)), .ref (za g (b + 5)), .ref (za g (b + 6)), .ref (za g (b + 7)), .ref (za g (b + 8)), .ref (za g (b + 9)), .ref (za g (b + 10)), .int (tn), .int (nI ((pExp I 58 (pa) (ba)).1)), .int (nI (I.length)), .int (ln), .int (nI (t)), .int (nI (1)), .int (dg)] := by rw [ew220, zup_s]
          have hx223 := hxB.setC hf221 hw222
          refine z_aload_n dX13_run_129 rfl ?_
          refine z_getf (j := b) dX13_run_130 kF_RX13_193 rfl (by omega) hx223.ce rfl ?_
          refine z_if_eq_n (a := 1) (tgt := 140) dX13_run_133 (by decide) (by omega) (fun h_133_224 => ?_) (fun h_133_224 => ?_)
          · exact absurd h_133_224 (by decide)
          · refine z_iconst (v := nI 0) dX13_run_136 rfl ?_
            refine z_goto (tgt := 144) dX13_run_137 (by decide) ?_
            refine z_istore_n (lv' := [(0, .ref (za g b)), (1, .int (v1)), (2, .int (lv)), (3, .int (nI (0)))]) dX13_run_144 (by decide) rfl ?_
            refine z_iconst (v := nI 0) dX13_run_145 rfl ?_
            refine z_istore (lv' := [(0, .ref (za g b)), (1, .int (v1)), (2, .int (lv)), (3, .int (nI (0))), (4, .int (nI (0)))]) dX13_run_146 (by decide) rfl ?_
            have eR : (pN I 49 (pExp I 58 pa ba).1 (pExp I 58 pa ba).2) = (0, (pExp I 58 pa ba).1, 1) := by rw [hB, pN_49, if_neg (by omega)]
            rw [eR]
            exact l_X13_run148 (n := 0) h0 ((hfi.tr hf2).tr (hf221.wk (by omega) (by omega))) hx223 hT (fun z => absurd z (by decide)) (by omega)
    · have hgz225 : I.getD ((pExp I 58 (pa) (ba)).1) 0 = 0 := gD_ge (by omega)
      have hm1226 : (-1 : Int32).toInt = -1 := by decide
      refine z_callE (As := []) (rest := [.int (nI (1)), .ref (za g b)]) (b := b) (ci := 12) (v := some (.int (-1))) (R2 := zR 0 0) dX13_run_107 kV_RX13_197 rfl ⟨⟨by decide, by decide⟩, by decide, by decide⟩ (by omega) hxB.ce rfl rfl rfl (Nat.le_of_ble_eq_true rfl) rfl (c_X13_sign_n (p := (pExp I 58 (pa) (ba)).1) h0 hxB htx (by omega) hc205) ?_
      refine z_bipush (v := nI 49) dX13_run_110 rfl ?_
      refine z_bipush (v := nI 57) dX13_run_112 rfl ?_
      by_cases hc228 : ((49 : Nat) : Int) ≤ (-1 : Int) ∧ (-1 : Int) ≤ ((57 : Nat) : Int)
      · refine z_callSE (As := [.int (-1), .int (nI (49)), .int (nI (57))]) (rest := [.int (nI (1)), .ref (za g b)]) (v := some (.int (nI (1)))) (R2 := zR 0 0) dX13_run_114 kS_RX13_57 rfl rfl ⟨⟨by decide, by decide⟩, by decide, by decide⟩ rfl (Nat.le_of_ble_eq_true rfl) rfl (c_X13_isIn_y (x := (-1)) (y := (nI (49))) (z := (nI (57))) h0 (by have q0 := (show ((-1 : Int32)).toInt = -1 from by decide); have q1 := nI_toInt (n := 49) (by omega); have q2 := nI_toInt (n := 57) (by omega); omega)) ?_
        refine z_if_ne_n (a := 1) (tgt := 124) dX13_run_117 (by decide) (by omega) (fun h_117_230 => ?_) (fun h_117_230 => ?_)
        · refine z_iconst (v := nI 0) dX13_run_124 rfl ?_
          refine z_ior dX13_run_125 ?_
          refine z_eq (st' := [.int (nI (1)), .ref (za g b)]) rfl (by rfl) rfl ?_
          refine z_putf (j := b) dX13_run_126 kF_RX13_193 zt_12_20 rfl (by omega) hxB.ce rfl rfl (Nat.le_of_ble_eq_true rfl) ?_
          obtain ⟨w231, ew232⟩ : ∃ wz : zW, wz = va_up w1 (b) (zO 12 [.int (th), .int (ch), .int (ea), .int (fa), .int (sv), .ref (za g (b + 1)), .ref (za g (b + 2)), .ref (za g (b + 3)), .ref (za g (b + 4)), .ref (za g (b + 5)), .ref (za g (b + 6)), .ref (za g (b + 7)), .ref (za g (b + 8)), .ref (za g (b + 9)), .ref (za g (b + 10)), .int (tn), .int (nI ((pExp I 58 (pa) (ba)).1)), .int (nI (I.length)), .int (ln), .int (nI (t)), .int (nI (1)), .int (dg)]) := ⟨_, rfl⟩
          refine z_weq (w' := w231) ew232.symm ?_
          have hf233 : zFr w1 w231 (b) (b + 1) := by rw [ew232]; exact zFr.up (by omega)
          have hw234 : w231 (b) = zO 12 [.int (th), .int (ch), .int (ea), .int (fa), .int (sv), .ref (za g (b + 1)), .ref (za g (b + 2)), .ref (za g (b + 3)), .ref (za g (b + 4)), .ref (za g (b + 5)), .ref (za g (b + 6)), .ref (za g (b + 7)), .ref (za g (b + 8)), .ref (za g (b + 9)), .ref (za g (b + 10)), .int (tn), .int (nI ((pExp I 58 (pa) (ba)).1)), .int (nI (I.length)), .int (ln), .int (nI (t)), .int (nI (1)), .int (dg)] := by rw [ew232, zup_s]
          have hx235 := hxB.setC hf233 hw234
          refine z_aload_n dX13_run_129 rfl ?_
          refine z_getf (j := b) dX13_run_130 kF_RX13_193 rfl (by omega) hx235.ce rfl ?_
          refine z_if_eq_n (a := 1) (tgt := 140) dX13_run_133 (by decide) (by omega) (fun h_133_236 => ?_) (fun h_133_236 => ?_)
          · exact absurd h_133_236 (by decide)
          · refine z_iconst (v := nI 0) dX13_run_136 rfl ?_
            refine z_goto (tgt := 144) dX13_run_137 (by decide) ?_
            refine z_istore_n (lv' := [(0, .ref (za g b)), (1, .int (v1)), (2, .int (lv)), (3, .int (nI (0)))]) dX13_run_144 (by decide) rfl ?_
            refine z_iconst (v := nI 0) dX13_run_145 rfl ?_
            refine z_istore (lv' := [(0, .ref (za g b)), (1, .int (v1)), (2, .int (lv)), (3, .int (nI (0))), (4, .int (nI (0)))]) dX13_run_146 (by decide) rfl ?_
            have eR : (pN I 49 (pExp I 58 pa ba).1 (pExp I 58 pa ba).2) = (0, (pExp I 58 pa ba).1, 1) := by rw [hB, pN_49, if_neg (by omega)]
            rw [eR]
            exact l_X13_run148 (n := 0) h0 ((hfi.tr hf2).tr (hf233.wk (by omega) (by omega))) hx235 hT (fun z => absurd z (by decide)) (by omega)
        · exact absurd h_117_230 (by decide)
      · refine z_callSE (As := [.int (-1), .int (nI (49)), .int (nI (57))]) (rest := [.int (nI (1)), .ref (za g b)]) (v := some (.int (nI (0)))) (R2 := zR 0 0) dX13_run_114 kS_RX13_57 rfl rfl ⟨⟨by decide, by decide⟩, by decide, by decide⟩ rfl (Nat.le_of_ble_eq_true rfl) rfl (c_X13_isIn_n (x := (-1)) (y := (nI (49))) (z := (nI (57))) h0 (by have q0 := (show ((-1 : Int32)).toInt = -1 from by decide); have q1 := nI_toInt (n := 49) (by omega); have q2 := nI_toInt (n := 57) (by omega); omega)) ?_
        refine z_if_ne_n (a := 0) (tgt := 124) dX13_run_117 (by decide) (by omega) (fun h_117_238 => ?_) (fun h_117_238 => ?_)
        · exact absurd h_117_238 (by decide)
        · refine z_iconst (v := nI 1) dX13_run_120 rfl ?_
          refine z_goto (tgt := 125) dX13_run_121 (by decide) ?_
          refine z_ior dX13_run_125 ?_
          refine z_eq (st' := [.int (nI (1)), .ref (za g b)]) rfl (by rfl) rfl ?_
          refine z_putf (j := b) dX13_run_126 kF_RX13_193 zt_12_20 rfl (by omega) hxB.ce rfl rfl (Nat.le_of_ble_eq_true rfl) ?_
          obtain ⟨w239, ew240⟩ : ∃ wz : zW, wz = va_up w1 (b) (zO 12 [.int (th), .int (ch), .int (ea), .int (fa), .int (sv), .ref (za g (b + 1)), .ref (za g (b + 2)), .ref (za g (b + 3)), .ref (za g (b + 4)), .ref (za g (b + 5)), .ref (za g (b + 6)), .ref (za g (b + 7)), .ref (za g (b + 8)), .ref (za g (b + 9)), .ref (za g (b + 10)), .int (tn), .int (nI ((pExp I 58 (pa) (ba)).1)), .int (nI (I.length)), .int (ln), .int (nI (t)), .int (nI (1)), .int (dg)]) := ⟨_, rfl⟩
          refine z_weq (w' := w239) ew240.symm ?_
          have hf241 : zFr w1 w239 (b) (b + 1) := by rw [ew240]; exact zFr.up (by omega)
          have hw242 : w239 (b) = zO 12 [.int (th), .int (ch), .int (ea), .int (fa), .int (sv), .ref (za g (b + 1)), .ref (za g (b + 2)), .ref (za g (b + 3)), .ref (za g (b + 4)), .ref (za g (b + 5)), .ref (za g (b + 6)), .ref (za g (b + 7)), .ref (za g (b + 8)), .ref (za g (b + 9)), .ref (za g (b + 10)), .int (tn), .int (nI ((pExp I 58 (pa) (ba)).1)), .int (nI (I.length)), .int (ln), .int (nI (t)), .int (nI (1)), .int (dg)] := by rw [ew240, zup_s]
          have hx243 := hxB.setC hf241 hw242
          refine z_aload_n dX13_run_129 rfl ?_
          refine z_getf (j := b) dX13_run_130 kF_RX13_193 rfl (by omega) hx243.ce rfl ?_
          refine z_if_eq_n (a := 1) (tgt := 140) dX13_run_133 (by decide) (by omega) (fun h_133_244 => ?_) (fun h_133_244 => ?_)
          · exact absurd h_133_244 (by decide)
          · refine z_iconst (v := nI 0) dX13_run_136 rfl ?_
            refine z_goto (tgt := 144) dX13_run_137 (by decide) ?_
            refine z_istore_n (lv' := [(0, .ref (za g b)), (1, .int (v1)), (2, .int (lv)), (3, .int (nI (0)))]) dX13_run_144 (by decide) rfl ?_
            refine z_iconst (v := nI 0) dX13_run_145 rfl ?_
            refine z_istore (lv' := [(0, .ref (za g b)), (1, .int (v1)), (2, .int (lv)), (3, .int (nI (0))), (4, .int (nI (0)))]) dX13_run_146 (by decide) rfl ?_
            have eR : (pN I 49 (pExp I 58 pa ba).1 (pExp I 58 pa ba).2) = (0, (pExp I 58 pa ba).1, 1) := by rw [hB, pN_49, if_neg (by omega)]
            rw [eR]
            exact l_X13_run148 (n := 0) h0 ((hfi.tr hf2).tr (hf241.wk (by omega) (by omega))) hx243 hT (fun z => absurd z (by decide)) (by omega)
set_option maxRecDepth 100000 in
set_option maxHeartbeats 4000000 in
theorem c_X13_run {g : zGT} {w : zW} {b : Nat} {th ch ea fa sv tn ln dg : Int32} {fv fb fs fp fh ft fl fi : Nat → Int32} {T I : List Nat} {p t : Nat} (h0 : zG0 g) (h : Mx g w b th ch ea fa sv tn (nI p) (nI I.length) ln (nI t) (nI 0) dg fv fb fs fp fh ft fl fi) (htx : TxR ft I) (hT : HR fh T t) (hp9 : p ≤ I.length) (ht : t < 90000) : zCt g mX13_run (zR 2 0) [.ref (za g b)] w (fun o w' => o = .inl none ∧ zFr w w' b (b + 11) ∧ ∃ f', Mx g w' b th ch ea fa sv tn (nI (pRn I p).2.1) (nI I.length) ln (nI (t + (pRn I p).1)) (nI (pRn I p).2.2) dg fv fb fs fp (f') ft fl fi ∧ HR f' (pfill T (pRa I p).1 (pRn I p).1) (t + (pRn I p).1)) := by
  have hb := h.1
  have htl := htx.1
  refine zCt_of (by decide +kernel) h0 [(0, .ref (za g b))] rfl (Nat.le_of_ble_eq_true rfl) ?_
  refine z_aload_n dX13_run_0 rfl ?_
  by_cases hc1 : p < I.length
  · have hch2 := htx.2.2 _ (get_mem hc1)
    refine z_callE (As := []) (rest := []) (b := b) (ci := 12) (v := some (.int (nI (I.getD (p) 0)))) (R2 := zR 0 0) dX13_run_1 kV_RX13_197 rfl ⟨⟨by decide, by decide⟩, by decide, by decide⟩ (by omega) h.ce rfl rfl rfl (Nat.le_of_ble_eq_true rfl) rfl (c_X13_sign_y (p := p) h0 h htx (by omega) hc1) ?_
    refine z_bipush (v := nI 114) dX13_run_4 rfl ?_
    refine z_icmp_ne_n (a := I.getD (p) 0) (b := 114) (tgt := 13) dX13_run_6 (by decide) (by omega) (by omega) (fun h_6_4 => ?_) (fun h_6_4 => ?_)
    · refine z_iconst (v := nI 0) dX13_run_13 rfl ?_
      refine z_istore_n (lv' := [(0, .ref (za g b)), (1, .int (nI (0)))]) dX13_run_14 (by decide) rfl ?_
      refine z_iconst (v := nI 0) dX13_run_15 rfl ?_
      refine z_istore_n (lv' := [(0, .ref (za g b)), (1, .int (nI (0))), (2, .int (nI (0)))]) dX13_run_16 (by decide) rfl ?_
      refine z_aload_n dX13_run_17 rfl ?_
      refine z_iload_n dX13_run_18 rfl ?_
      refine z_if_eq_n (a := 0) (tgt := 27) dX13_run_19 (by decide) (by omega) (fun h_19_5 => ?_) (fun h_19_5 => ?_)
      · refine z_bipush (v := nI 104) dX13_run_27 rfl ?_
        refine z_callR (As := [.int (nI (104))]) (rest := []) (b := b) (ci := 12) (v := none) (R2 := zR 1 0) dX13_run_29 kV_RX13_200 rfl ⟨⟨by decide, by decide⟩, by decide, by decide⟩ (by omega) h.ce rfl rfl rfl (Nat.le_of_ble_eq_true rfl) rfl (c_X13_mark (p := p) (br := 0) (c := 104) h0 h htx (by omega) (by omega) (by omega)) (fun w6 pw6 => ?_)
        obtain ⟨hf7, hx8⟩ := pw6
        have hpe9 := pExp_in (I := I) (c := 104) (p := p) (br := 0) (by omega) (by omega)
        refine z_iload_n dX13_run_32 rfl ?_
        refine z_if_ne_n (a := 0) (tgt := 95) dX13_run_33 (by decide) (by omega) (fun h_33_10 => ?_) (fun h_33_10 => ?_)
        · exact absurd h_33_10 (by decide)
        · refine z_aload_n dX13_run_36 rfl ?_
          refine z_getf (j := b) dX13_run_37 kF_RX13_193 rfl (by omega) hx8.ce rfl ?_
          refine z_if_ne_n (a := (pExp I 104 (p) (0)).2) (tgt := 95) dX13_run_40 (by decide) (by omega) (fun h_40_11 => ?_) (fun h_40_11 => ?_)
          · have hr0 : I.getD p 0 ≠ 114 := by omega
            have hb9 : (pExp I 104 p 0).2 = 1 := by omega
            have eRa : pRa I p = (0, (pExp I 104 p 0).1, 1) := by unfold pRa; rw [if_neg hr0]; unfold pDig; rw [if_neg (by omega)]
            have hx9 := hx8
            rw [hb9] at hx9
            have eR : pRn I p = pN I 49 (pExp I 58 ((pExp I 104 p 0).1) 1).1 (pExp I 58 ((pExp I 104 p 0).1) 1).2 := by unfold pRn pRc; rw [eRa]
            rw [eR, eRa]
            exact l_X13_run95 (pa := (pExp I 104 p 0).1) (ba := 1) (l := 0) h0 hf7 hx9 htx hT (fun z => absurd z (by decide)) (by omega) (by omega) (by omega)
          · refine z_aload_n dX13_run_43 rfl ?_
            refine z_aload_n dX13_run_44 rfl ?_
            by_cases hc12 : (pExp I 104 (p) (0)).1 < I.length
            · have hch13 := htx.2.2 _ (get_mem hc12)
              refine z_callE (As := []) (rest := [.ref (za g b)]) (b := b) (ci := 12) (v := some (.int (nI (I.getD ((pExp I 104 (p) (0)).1) 0)))) (R2 := zR 0 0) dX13_run_45 kV_RX13_197 rfl ⟨⟨by decide, by decide⟩, by decide, by decide⟩ (by omega) hx8.ce rfl rfl rfl (Nat.le_of_ble_eq_true rfl) rfl (c_X13_sign_y (p := (pExp I 104 (p) (0)).1) h0 hx8 htx (by omega) hc12) ?_
              refine z_bipush (v := nI 49) dX13_run_48 rfl ?_
              refine z_bipush (v := nI 57) dX13_run_50 rfl ?_
              by_cases hc15 : ((49 : Nat) : Int) ≤ ((I.getD ((pExp I 104 (p) (0)).1) 0 : Nat) : Int) ∧ ((I.getD ((pExp I 104 (p) (0)).1) 0 : Nat) : Int) ≤ ((57 : Nat) : Int)
              · refine z_callSE (As := [.int (nI (I.getD ((pExp I 104 (p) (0)).1) 0)), .int (nI (49)), .int (nI (57))]) (rest := [.ref (za g b)]) (v := some (.int (nI (1)))) (R2 := zR 0 0) dX13_run_52 kS_RX13_57 rfl rfl ⟨⟨by decide, by decide⟩, by decide, by decide⟩ rfl (Nat.le_of_ble_eq_true rfl) rfl (c_X13_isIn_y (x := (nI (I.getD ((pExp I 104 (p) (0)).1) 0))) (y := (nI (49))) (z := (nI (57))) h0 (by have q0 := nI_toInt (n := I.getD ((pExp I 104 (p) (0)).1) 0) (by omega); have q1 := nI_toInt (n := 49) (by omega); have q2 := nI_toInt (n := 57) (by omega); omega)) ?_
                refine z_if_ne_n (a := 1) (tgt := 62) dX13_run_55 (by decide) (by omega) (fun h_55_17 => ?_) (fun h_55_17 => ?_)
                · refine z_iconst (v := nI 0) dX13_run_62 rfl ?_
                  refine z_putf (j := b) dX13_run_63 kF_RX13_193 zt_12_20 rfl (by omega) hx8.ce rfl rfl (Nat.le_of_ble_eq_true rfl) ?_
                  obtain ⟨w18, ew19⟩ : ∃ wz : zW, wz = va_up w6 (b) (zO 12 [.int (th), .int (ch), .int (ea), .int (fa), .int (sv), .ref (za g (b + 1)), .ref (za g (b + 2)), .ref (za g (b + 3)), .ref (za g (b + 4)), .ref (za g (b + 5)), .ref (za g (b + 6)), .ref (za g (b + 7)), .ref (za g (b + 8)), .ref (za g (b + 9)), .ref (za g (b + 10)), .int (tn), .int (nI ((pExp I 104 (p) (0)).1)), .int (nI (I.length)), .int (ln), .int (nI (t)), .int (nI (0)), .int (dg)]) := ⟨_, rfl⟩
                  refine z_weq (w' := w18) ew19.symm ?_
                  have hf20 : zFr w6 w18 (b) (b + 1) := by rw [ew19]; exact zFr.up (by omega)
                  have hw21 : w18 (b) = zO 12 [.int (th), .int (ch), .int (ea), .int (fa), .int (sv), .ref (za g (b + 1)), .ref (za g (b + 2)), .ref (za g (b + 3)), .ref (za g (b + 4)), .ref (za g (b + 5)), .ref (za g (b + 6)), .ref (za g (b + 7)), .ref (za g (b + 8)), .ref (za g (b + 9)), .ref (za g (b + 10)), .int (tn), .int (nI ((pExp I 104 (p) (0)).1)), .int (nI (I.length)), .int (ln), .int (nI (t)), .int (nI (0)), .int (dg)] := by rw [ew19, zup_s]
                  have hx22 := hx8.setC hf20 hw21
                  refine z_aload_n dX13_run_66 rfl ?_
                  refine z_callE (As := []) (rest := []) (b := b) (ci := 12) (v := some (.int (nI (I.getD ((pExp I 104 (p) (0)).1) 0)))) (R2 := zR 0 0) dX13_run_67 kV_RX13_197 rfl ⟨⟨by decide, by decide⟩, by decide, by decide⟩ (by omega) hx22.ce rfl rfl rfl (Nat.le_of_ble_eq_true rfl) rfl (c_X13_sign_y (p := (pExp I 104 (p) (0)).1) h0 hx22 htx (by omega) hc12) ?_
                  refine z_bipush (v := nI 48) dX13_run_70 rfl ?_
                  refine z_isub_n (a := I.getD ((pExp I 104 (p) (0)).1) 0) (b := 48) dX13_run_72 (by omega) ?_
                  refine z_istore_n (lv' := [(0, .ref (za g b)), (1, .int (nI (0))), (2, .int (nI ((I.getD ((pExp I 104 (p) (0)).1) 0) - (48))))]) dX13_run_73 (by decide) rfl ?_
                  refine z_aload_n dX13_run_74 rfl ?_
                  refine z_dup dX13_run_75 rfl ?_
                  refine z_getf (j := b) dX13_run_76 kF_RX13_187 rfl (by omega) hx22.ce rfl ?_
                  refine z_aload_n dX13_run_79 rfl ?_
                  refine z_getf (j := b) dX13_run_80 kF_RX13_193 rfl (by omega) hx22.ce rfl ?_
                  refine z_if_eq_n (a := 0) (tgt := 90) dX13_run_83 (by decide) (by omega) (fun h_83_24 => ?_) (fun h_83_24 => ?_)
                  · refine z_iconst (v := nI 1) dX13_run_90 rfl ?_
                    refine z_iadd_n (a := (pExp I 104 (p) (0)).1) (b := 1) dX13_run_91 ?_
                    refine z_putf (j := b) dX13_run_92 kF_RX13_187 zt_12_16 rfl (by omega) hx22.ce rfl rfl (Nat.le_of_ble_eq_true rfl) ?_
                    obtain ⟨w25, ew26⟩ : ∃ wz : zW, wz = va_up w18 (b) (zO 12 [.int (th), .int (ch), .int (ea), .int (fa), .int (sv), .ref (za g (b + 1)), .ref (za g (b + 2)), .ref (za g (b + 3)), .ref (za g (b + 4)), .ref (za g (b + 5)), .ref (za g (b + 6)), .ref (za g (b + 7)), .ref (za g (b + 8)), .ref (za g (b + 9)), .ref (za g (b + 10)), .int (tn), .int (nI (((pExp I 104 (p) (0)).1) + (1))), .int (nI (I.length)), .int (ln), .int (nI (t)), .int (nI (0)), .int (dg)]) := ⟨_, rfl⟩
                    refine z_weq (w' := w25) ew26.symm ?_
                    have hf27 : zFr w18 w25 (b) (b + 1) := by rw [ew26]; exact zFr.up (by omega)
                    have hw28 : w25 (b) = zO 12 [.int (th), .int (ch), .int (ea), .int (fa), .int (sv), .ref (za g (b + 1)), .ref (za g (b + 2)), .ref (za g (b + 3)), .ref (za g (b + 4)), .ref (za g (b + 5)), .ref (za g (b + 6)), .ref (za g (b + 7)), .ref (za g (b + 8)), .ref (za g (b + 9)), .ref (za g (b + 10)), .int (tn), .int (nI (((pExp I 104 (p) (0)).1) + (1))), .int (nI (I.length)), .int (ln), .int (nI (t)), .int (nI (0)), .int (dg)] := by rw [ew26, zup_s]
                    have hx29 := hx22.setC hf27 hw28
                    have hr0 : I.getD p 0 ≠ 114 := by omega
                    have eRa : pRa I p = ((I.getD (pExp I 104 p 0).1 0 - 48), (pExp I 104 p 0).1 + 1, 0) := by unfold pRa; rw [if_neg hr0]; unfold pDig; rw [if_pos (by omega)]
                    have hpx9 : (pExp I 104 p 0).1 + 1 ≤ I.length := by omega
                    have eR : pRn I p = pN I 49 (pExp I 58 ((pExp I 104 p 0).1 + 1) 0).1 (pExp I 58 ((pExp I 104 p 0).1 + 1) 0).2 := by unfold pRn pRc; rw [eRa]
                    rw [eR, eRa]
                    exact l_X13_run95 (pa := (pExp I 104 p 0).1 + 1) (ba := 0) (l := (I.getD (pExp I 104 p 0).1 0 - 48)) h0 ((hf7.tr (hf20.wk (by omega) (by omega))).tr (hf27.wk (by omega) (by omega))) hx29 htx hT (fun _ => rfl) (by omega) (by omega) (by omega)
                  · exact absurd h_83_24 (by decide)
                · exact absurd h_55_17 (by decide)
              · refine z_callSE (As := [.int (nI (I.getD ((pExp I 104 (p) (0)).1) 0)), .int (nI (49)), .int (nI (57))]) (rest := [.ref (za g b)]) (v := some (.int (nI (0)))) (R2 := zR 0 0) dX13_run_52 kS_RX13_57 rfl rfl ⟨⟨by decide, by decide⟩, by decide, by decide⟩ rfl (Nat.le_of_ble_eq_true rfl) rfl (c_X13_isIn_n (x := (nI (I.getD ((pExp I 104 (p) (0)).1) 0))) (y := (nI (49))) (z := (nI (57))) h0 (by have q0 := nI_toInt (n := I.getD ((pExp I 104 (p) (0)).1) 0) (by omega); have q1 := nI_toInt (n := 49) (by omega); have q2 := nI_toInt (n := 57) (by omega); omega)) ?_
                refine z_if_ne_n (a := 0) (tgt := 62) dX13_run_55 (by decide) (by omega) (fun h_55_31 => ?_) (fun h_55_31 => ?_)
                · exact absurd h_55_31 (by decide)
                · refine z_iconst (v := nI 1) dX13_run_58 rfl ?_
                  refine z_goto (tgt := 63) dX13_run_59 (by decide) ?_
                  refine z_putf (j := b) dX13_run_63 kF_RX13_193 zt_12_20 rfl (by omega) hx8.ce rfl rfl (Nat.le_of_ble_eq_true rfl) ?_
                  obtain ⟨w32, ew33⟩ : ∃ wz : zW, wz = va_up w6 (b) (zO 12 [.int (th), .int (ch), .int (ea), .int (fa), .int (sv), .ref (za g (b + 1)), .ref (za g (b + 2)), .ref (za g (b + 3)), .ref (za g (b + 4)), .ref (za g (b + 5)), .ref (za g (b + 6)), .ref (za g (b + 7)), .ref (za g (b + 8)), .ref (za g (b + 9)), .ref (za g (b + 10)), .int (tn), .int (nI ((pExp I 104 (p) (0)).1)), .int (nI (I.length)), .int (ln), .int (nI (t)), .int (nI (1)), .int (dg)]) := ⟨_, rfl⟩
                  refine z_weq (w' := w32) ew33.symm ?_
                  have hf34 : zFr w6 w32 (b) (b + 1) := by rw [ew33]; exact zFr.up (by omega)
                  have hw35 : w32 (b) = zO 12 [.int (th), .int (ch), .int (ea), .int (fa), .int (sv), .ref (za g (b + 1)), .ref (za g (b + 2)), .ref (za g (b + 3)), .ref (za g (b + 4)), .ref (za g (b + 5)), .ref (za g (b + 6)), .ref (za g (b + 7)), .ref (za g (b + 8)), .ref (za g (b + 9)), .ref (za g (b + 10)), .int (tn), .int (nI ((pExp I 104 (p) (0)).1)), .int (nI (I.length)), .int (ln), .int (nI (t)), .int (nI (1)), .int (dg)] := by rw [ew33, zup_s]
                  have hx36 := hx8.setC hf34 hw35
                  refine z_aload_n dX13_run_66 rfl ?_
                  refine z_callE (As := []) (rest := []) (b := b) (ci := 12) (v := some (.int (nI (I.getD ((pExp I 104 (p) (0)).1) 0)))) (R2 := zR 0 0) dX13_run_67 kV_RX13_197 rfl ⟨⟨by decide, by decide⟩, by decide, by decide⟩ (by omega) hx36.ce rfl rfl rfl (Nat.le_of_ble_eq_true rfl) rfl (c_X13_sign_y (p := (pExp I 104 (p) (0)).1) h0 hx36 htx (by omega) hc12) ?_
                  refine z_bipush (v := nI 48) dX13_run_70 rfl ?_
                  refine z_isub dX13_run_72 ?_
                  refine z_istore_n (lv' := [(0, .ref (za g b)), (1, .int (nI (0))), (2, .int ((nI (I.getD ((pExp I 104 (p) (0)).1) 0)) - (nI (48))))]) dX13_run_73 (by decide) rfl ?_
                  refine z_aload_n dX13_run_74 rfl ?_
                  refine z_dup dX13_run_75 rfl ?_
                  refine z_getf (j := b) dX13_run_76 kF_RX13_187 rfl (by omega) hx36.ce rfl ?_
                  refine z_aload_n dX13_run_79 rfl ?_
                  refine z_getf (j := b) dX13_run_80 kF_RX13_193 rfl (by omega) hx36.ce rfl ?_
                  refine z_if_eq_n (a := 1) (tgt := 90) dX13_run_83 (by decide) (by omega) (fun h_83_38 => ?_) (fun h_83_38 => ?_)
                  · exact absurd h_83_38 (by decide)
                  · refine z_iconst (v := nI 0) dX13_run_86 rfl ?_
                    refine z_goto (tgt := 91) dX13_run_87 (by decide) ?_
                    refine z_iadd_n (a := (pExp I 104 (p) (0)).1) (b := 0) dX13_run_91 ?_
                    refine z_putf (j := b) dX13_run_92 kF_RX13_187 zt_12_16 rfl (by omega) hx36.ce rfl rfl (Nat.le_of_ble_eq_true rfl) ?_
                    obtain ⟨w39, ew40⟩ : ∃ wz : zW, wz = va_up w32 (b) (zO 12 [.int (th), .int (ch), .int (ea), .int (fa), .int (sv), .ref (za g (b + 1)), .ref (za g (b + 2)), .ref (za g (b + 3)), .ref (za g (b + 4)), .ref (za g (b + 5)), .ref (za g (b + 6)), .ref (za g (b + 7)), .ref (za g (b + 8)), .ref (za g (b + 9)), .ref (za g (b + 10)), .int (tn), .int (nI (((pExp I 104 (p) (0)).1) + (0))), .int (nI (I.length)), .int (ln), .int (nI (t)), .int (nI (1)), .int (dg)]) := ⟨_, rfl⟩
                    refine z_weq (w' := w39) ew40.symm ?_
                    have hf41 : zFr w32 w39 (b) (b + 1) := by rw [ew40]; exact zFr.up (by omega)
                    have hw42 : w39 (b) = zO 12 [.int (th), .int (ch), .int (ea), .int (fa), .int (sv), .ref (za g (b + 1)), .ref (za g (b + 2)), .ref (za g (b + 3)), .ref (za g (b + 4)), .ref (za g (b + 5)), .ref (za g (b + 6)), .ref (za g (b + 7)), .ref (za g (b + 8)), .ref (za g (b + 9)), .ref (za g (b + 10)), .int (tn), .int (nI (((pExp I 104 (p) (0)).1) + (0))), .int (nI (I.length)), .int (ln), .int (nI (t)), .int (nI (1)), .int (dg)] := by rw [ew40, zup_s]
                    have hx43 := hx36.setC hf41 hw42
                    have hr0 : I.getD p 0 ≠ 114 := by omega
                    have eRa : pRa I p = (0, (pExp I 104 p 0).1, 1) := by unfold pRa; rw [if_neg hr0]; unfold pDig; rw [if_neg (by omega)]
                    have eR : pRn I p = pN I 49 (pExp I 58 ((pExp I 104 p 0).1) 1).1 (pExp I 58 ((pExp I 104 p 0).1) 1).2 := by unfold pRn pRc; rw [eRa]
                    rw [eR, eRa]
                    exact l_X13_run95 (pa := (pExp I 104 p 0).1) (ba := 1) (l := 0) h0 ((hf7.tr (hf34.wk (by omega) (by omega))).tr (hf41.wk (by omega) (by omega))) hx43 htx hT (fun z => absurd z (by decide)) (by omega) (by omega) (by omega)
            · have hgz44 : I.getD ((pExp I 104 (p) (0)).1) 0 = 0 := gD_ge (by omega)
              have hm145 : (-1 : Int32).toInt = -1 := by decide
              refine z_callE (As := []) (rest := [.ref (za g b)]) (b := b) (ci := 12) (v := some (.int (-1))) (R2 := zR 0 0) dX13_run_45 kV_RX13_197 rfl ⟨⟨by decide, by decide⟩, by decide, by decide⟩ (by omega) hx8.ce rfl rfl rfl (Nat.le_of_ble_eq_true rfl) rfl (c_X13_sign_n (p := (pExp I 104 (p) (0)).1) h0 hx8 htx (by omega) hc12) ?_
              refine z_bipush (v := nI 49) dX13_run_48 rfl ?_
              refine z_bipush (v := nI 57) dX13_run_50 rfl ?_
              by_cases hc47 : ((49 : Nat) : Int) ≤ (-1 : Int) ∧ (-1 : Int) ≤ ((57 : Nat) : Int)
              · refine z_callSE (As := [.int (-1), .int (nI (49)), .int (nI (57))]) (rest := [.ref (za g b)]) (v := some (.int (nI (1)))) (R2 := zR 0 0) dX13_run_52 kS_RX13_57 rfl rfl ⟨⟨by decide, by decide⟩, by decide, by decide⟩ rfl (Nat.le_of_ble_eq_true rfl) rfl (c_X13_isIn_y (x := (-1)) (y := (nI (49))) (z := (nI (57))) h0 (by have q0 := (show ((-1 : Int32)).toInt = -1 from by decide); have q1 := nI_toInt (n := 49) (by omega); have q2 := nI_toInt (n := 57) (by omega); omega)) ?_
                refine z_if_ne_n (a := 1) (tgt := 62) dX13_run_55 (by decide) (by omega) (fun h_55_49 => ?_) (fun h_55_49 => ?_)
                · refine z_iconst (v := nI 0) dX13_run_62 rfl ?_
                  refine z_putf (j := b) dX13_run_63 kF_RX13_193 zt_12_20 rfl (by omega) hx8.ce rfl rfl (Nat.le_of_ble_eq_true rfl) ?_
                  obtain ⟨w50, ew51⟩ : ∃ wz : zW, wz = va_up w6 (b) (zO 12 [.int (th), .int (ch), .int (ea), .int (fa), .int (sv), .ref (za g (b + 1)), .ref (za g (b + 2)), .ref (za g (b + 3)), .ref (za g (b + 4)), .ref (za g (b + 5)), .ref (za g (b + 6)), .ref (za g (b + 7)), .ref (za g (b + 8)), .ref (za g (b + 9)), .ref (za g (b + 10)), .int (tn), .int (nI ((pExp I 104 (p) (0)).1)), .int (nI (I.length)), .int (ln), .int (nI (t)), .int (nI (0)), .int (dg)]) := ⟨_, rfl⟩
                  refine z_weq (w' := w50) ew51.symm ?_
                  have hf52 : zFr w6 w50 (b) (b + 1) := by rw [ew51]; exact zFr.up (by omega)
                  have hw53 : w50 (b) = zO 12 [.int (th), .int (ch), .int (ea), .int (fa), .int (sv), .ref (za g (b + 1)), .ref (za g (b + 2)), .ref (za g (b + 3)), .ref (za g (b + 4)), .ref (za g (b + 5)), .ref (za g (b + 6)), .ref (za g (b + 7)), .ref (za g (b + 8)), .ref (za g (b + 9)), .ref (za g (b + 10)), .int (tn), .int (nI ((pExp I 104 (p) (0)).1)), .int (nI (I.length)), .int (ln), .int (nI (t)), .int (nI (0)), .int (dg)] := by rw [ew51, zup_s]
                  have hx54 := hx8.setC hf52 hw53
                  refine z_aload_n dX13_run_66 rfl ?_
                  refine z_callE (As := []) (rest := []) (b := b) (ci := 12) (v := some (.int (-1))) (R2 := zR 0 0) dX13_run_67 kV_RX13_197 rfl ⟨⟨by decide, by decide⟩, by decide, by decide⟩ (by omega) hx54.ce rfl rfl rfl (Nat.le_of_ble_eq_true rfl) rfl (c_X13_sign_n (p := (pExp I 104 (p) (0)).1) h0 hx54 htx (by omega) hc12) ?_
                  refine z_bipush (v := nI 48) dX13_run_70 rfl ?_
                  refine z_isub dX13_run_72 ?_
                  refine z_istore_n (lv' := [(0, .ref (za g b)), (1, .int (nI (0))), (2, .int ((-1) - (nI (48))))]) dX13_run_73 (by decide) rfl ?_
                  refine z_aload_n dX13_run_74 rfl ?_
                  refine z_dup dX13_run_75 rfl ?_
                  refine z_getf (j := b) dX13_run_76 kF_RX13_187 rfl (by omega) hx54.ce rfl ?_
                  refine z_aload_n dX13_run_79 rfl ?_
                  refine z_getf (j := b) dX13_run_80 kF_RX13_193 rfl (by omega) hx54.ce rfl ?_
                  refine z_if_eq_n (a := 0) (tgt := 90) dX13_run_83 (by decide) (by omega) (fun h_83_56 => ?_) (fun h_83_56 => ?_)
                  · refine z_iconst (v := nI 1) dX13_run_90 rfl ?_
                    refine z_iadd_n (a := (pExp I 104 (p) (0)).1) (b := 1) dX13_run_91 ?_
                    refine z_putf (j := b) dX13_run_92 kF_RX13_187 zt_12_16 rfl (by omega) hx54.ce rfl rfl (Nat.le_of_ble_eq_true rfl) ?_
                    obtain ⟨w57, ew58⟩ : ∃ wz : zW, wz = va_up w50 (b) (zO 12 [.int (th), .int (ch), .int (ea), .int (fa), .int (sv), .ref (za g (b + 1)), .ref (za g (b + 2)), .ref (za g (b + 3)), .ref (za g (b + 4)), .ref (za g (b + 5)), .ref (za g (b + 6)), .ref (za g (b + 7)), .ref (za g (b + 8)), .ref (za g (b + 9)), .ref (za g (b + 10)), .int (tn), .int (nI (((pExp I 104 (p) (0)).1) + (1))), .int (nI (I.length)), .int (ln), .int (nI (t)), .int (nI (0)), .int (dg)]) := ⟨_, rfl⟩
                    refine z_weq (w' := w57) ew58.symm ?_
                    have hf59 : zFr w50 w57 (b) (b + 1) := by rw [ew58]; exact zFr.up (by omega)
                    have hw60 : w57 (b) = zO 12 [.int (th), .int (ch), .int (ea), .int (fa), .int (sv), .ref (za g (b + 1)), .ref (za g (b + 2)), .ref (za g (b + 3)), .ref (za g (b + 4)), .ref (za g (b + 5)), .ref (za g (b + 6)), .ref (za g (b + 7)), .ref (za g (b + 8)), .ref (za g (b + 9)), .ref (za g (b + 10)), .int (tn), .int (nI (((pExp I 104 (p) (0)).1) + (1))), .int (nI (I.length)), .int (ln), .int (nI (t)), .int (nI (0)), .int (dg)] := by rw [ew58, zup_s]
                    have hx61 := hx54.setC hf59 hw60
                    exfalso; omega
                  · exact absurd h_83_56 (by decide)
                · exact absurd h_55_49 (by decide)
              · refine z_callSE (As := [.int (-1), .int (nI (49)), .int (nI (57))]) (rest := [.ref (za g b)]) (v := some (.int (nI (0)))) (R2 := zR 0 0) dX13_run_52 kS_RX13_57 rfl rfl ⟨⟨by decide, by decide⟩, by decide, by decide⟩ rfl (Nat.le_of_ble_eq_true rfl) rfl (c_X13_isIn_n (x := (-1)) (y := (nI (49))) (z := (nI (57))) h0 (by have q0 := (show ((-1 : Int32)).toInt = -1 from by decide); have q1 := nI_toInt (n := 49) (by omega); have q2 := nI_toInt (n := 57) (by omega); omega)) ?_
                refine z_if_ne_n (a := 0) (tgt := 62) dX13_run_55 (by decide) (by omega) (fun h_55_63 => ?_) (fun h_55_63 => ?_)
                · exact absurd h_55_63 (by decide)
                · refine z_iconst (v := nI 1) dX13_run_58 rfl ?_
                  refine z_goto (tgt := 63) dX13_run_59 (by decide) ?_
                  refine z_putf (j := b) dX13_run_63 kF_RX13_193 zt_12_20 rfl (by omega) hx8.ce rfl rfl (Nat.le_of_ble_eq_true rfl) ?_
                  obtain ⟨w64, ew65⟩ : ∃ wz : zW, wz = va_up w6 (b) (zO 12 [.int (th), .int (ch), .int (ea), .int (fa), .int (sv), .ref (za g (b + 1)), .ref (za g (b + 2)), .ref (za g (b + 3)), .ref (za g (b + 4)), .ref (za g (b + 5)), .ref (za g (b + 6)), .ref (za g (b + 7)), .ref (za g (b + 8)), .ref (za g (b + 9)), .ref (za g (b + 10)), .int (tn), .int (nI ((pExp I 104 (p) (0)).1)), .int (nI (I.length)), .int (ln), .int (nI (t)), .int (nI (1)), .int (dg)]) := ⟨_, rfl⟩
                  refine z_weq (w' := w64) ew65.symm ?_
                  have hf66 : zFr w6 w64 (b) (b + 1) := by rw [ew65]; exact zFr.up (by omega)
                  have hw67 : w64 (b) = zO 12 [.int (th), .int (ch), .int (ea), .int (fa), .int (sv), .ref (za g (b + 1)), .ref (za g (b + 2)), .ref (za g (b + 3)), .ref (za g (b + 4)), .ref (za g (b + 5)), .ref (za g (b + 6)), .ref (za g (b + 7)), .ref (za g (b + 8)), .ref (za g (b + 9)), .ref (za g (b + 10)), .int (tn), .int (nI ((pExp I 104 (p) (0)).1)), .int (nI (I.length)), .int (ln), .int (nI (t)), .int (nI (1)), .int (dg)] := by rw [ew65, zup_s]
                  have hx68 := hx8.setC hf66 hw67
                  refine z_aload_n dX13_run_66 rfl ?_
                  refine z_callE (As := []) (rest := []) (b := b) (ci := 12) (v := some (.int (-1))) (R2 := zR 0 0) dX13_run_67 kV_RX13_197 rfl ⟨⟨by decide, by decide⟩, by decide, by decide⟩ (by omega) hx68.ce rfl rfl rfl (Nat.le_of_ble_eq_true rfl) rfl (c_X13_sign_n (p := (pExp I 104 (p) (0)).1) h0 hx68 htx (by omega) hc12) ?_
                  refine z_bipush (v := nI 48) dX13_run_70 rfl ?_
                  refine z_isub dX13_run_72 ?_
                  refine z_istore_n (lv' := [(0, .ref (za g b)), (1, .int (nI (0))), (2, .int ((-1) - (nI (48))))]) dX13_run_73 (by decide) rfl ?_
                  refine z_aload_n dX13_run_74 rfl ?_
                  refine z_dup dX13_run_75 rfl ?_
                  refine z_getf (j := b) dX13_run_76 kF_RX13_187 rfl (by omega) hx68.ce rfl ?_
                  refine z_aload_n dX13_run_79 rfl ?_
                  refine z_getf (j := b) dX13_run_80 kF_RX13_193 rfl (by omega) hx68.ce rfl ?_
                  refine z_if_eq_n (a := 1) (tgt := 90) dX13_run_83 (by decide) (by omega) (fun h_83_70 => ?_) (fun h_83_70 => ?_)
                  · exact absurd h_83_70 (by decide)
                  · refine z_iconst (v := nI 0) dX13_run_86 rfl ?_
                    refine z_goto (tgt := 91) dX13_run_87 (by decide) ?_
                    refine z_iadd_n (a := (pExp I 104 (p) (0)).1) (b := 0) dX13_run_91 ?_
                    refine z_putf (j := b) dX13_run_92 kF_RX13_187 zt_12_16 rfl (by omega) hx68.ce rfl rfl (Nat.le_of_ble_eq_true rfl) ?_
                    obtain ⟨w71, ew72⟩ : ∃ wz : zW, wz = va_up w64 (b) (zO 12 [.int (th), .int (ch), .int (ea), .int (fa), .int (sv), .ref (za g (b + 1)), .ref (za g (b + 2)), .ref (za g (b + 3)), .ref (za g (b + 4)), .ref (za g (b + 5)), .ref (za g (b + 6)), .ref (za g (b + 7)), .ref (za g (b + 8)), .ref (za g (b + 9)), .ref (za g (b + 10)), .int (tn), .int (nI (((pExp I 104 (p) (0)).1) + (0))), .int (nI (I.length)), .int (ln), .int (nI (t)), .int (nI (1)), .int (dg)]) := ⟨_, rfl⟩
                    refine z_weq (w' := w71) ew72.symm ?_
                    have hf73 : zFr w64 w71 (b) (b + 1) := by rw [ew72]; exact zFr.up (by omega)
                    have hw74 : w71 (b) = zO 12 [.int (th), .int (ch), .int (ea), .int (fa), .int (sv), .ref (za g (b + 1)), .ref (za g (b + 2)), .ref (za g (b + 3)), .ref (za g (b + 4)), .ref (za g (b + 5)), .ref (za g (b + 6)), .ref (za g (b + 7)), .ref (za g (b + 8)), .ref (za g (b + 9)), .ref (za g (b + 10)), .int (tn), .int (nI (((pExp I 104 (p) (0)).1) + (0))), .int (nI (I.length)), .int (ln), .int (nI (t)), .int (nI (1)), .int (dg)] := by rw [ew72, zup_s]
                    have hx75 := hx68.setC hf73 hw74
                    have hr0 : I.getD p 0 ≠ 114 := by omega
                    have eRa : pRa I p = (0, (pExp I 104 p 0).1, 1) := by unfold pRa; rw [if_neg hr0]; unfold pDig; rw [if_neg (by omega)]
                    have eR : pRn I p = pN I 49 (pExp I 58 ((pExp I 104 p 0).1) 1).1 (pExp I 58 ((pExp I 104 p 0).1) 1).2 := by unfold pRn pRc; rw [eRa]
                    rw [eR, eRa]
                    exact l_X13_run95 (pa := (pExp I 104 p 0).1) (ba := 1) (l := 0) h0 ((hf7.tr (hf66.wk (by omega) (by omega))).tr (hf73.wk (by omega) (by omega))) hx75 htx hT (fun z => absurd z (by decide)) (by omega) (by omega) (by omega)
      · exact absurd h_19_5 (by decide)
    · refine z_iconst (v := nI 1) dX13_run_9 rfl ?_
      refine z_goto (tgt := 14) dX13_run_10 (by decide) ?_
      refine z_istore_n (lv' := [(0, .ref (za g b)), (1, .int (nI (1)))]) dX13_run_14 (by decide) rfl ?_
      refine z_iconst (v := nI 0) dX13_run_15 rfl ?_
      refine z_istore_n (lv' := [(0, .ref (za g b)), (1, .int (nI (1))), (2, .int (nI (0)))]) dX13_run_16 (by decide) rfl ?_
      refine z_aload_n dX13_run_17 rfl ?_
      refine z_iload_n dX13_run_18 rfl ?_
      refine z_if_eq_n (a := 1) (tgt := 27) dX13_run_19 (by decide) (by omega) (fun h_19_76 => ?_) (fun h_19_76 => ?_)
      · exact absurd h_19_76 (by decide)
      · refine z_bipush (v := nI 114) dX13_run_22 rfl ?_
        refine z_goto (tgt := 29) dX13_run_24 (by decide) ?_
        refine z_callR (As := [.int (nI (114))]) (rest := []) (b := b) (ci := 12) (v := none) (R2 := zR 1 0) dX13_run_29 kV_RX13_200 rfl ⟨⟨by decide, by decide⟩, by decide, by decide⟩ (by omega) h.ce rfl rfl rfl (Nat.le_of_ble_eq_true rfl) rfl (c_X13_mark (p := p) (br := 0) (c := 114) h0 h htx (by omega) (by omega) (by omega)) (fun w77 pw77 => ?_)
        obtain ⟨hf78, hx79⟩ := pw77
        have hpe80 := pExp_in (I := I) (c := 114) (p := p) (br := 0) (by omega) (by omega)
        refine z_iload_n dX13_run_32 rfl ?_
        refine z_if_ne_n (a := 1) (tgt := 95) dX13_run_33 (by decide) (by omega) (fun h_33_81 => ?_) (fun h_33_81 => ?_)
        · have hr0 : I.getD p 0 = 114 := by omega
          have e1 : pExp I 114 p 0 = (p + 1, 0) := by unfold pExp; rw [if_pos ⟨rfl, hr0⟩]
          have eRa : pRa I p = (0, p + 1, 0) := by unfold pRa; rw [if_pos hr0]
          have hx9 := hx79
          rw [e1] at hx9
          have hpx9 : p + 1 ≤ I.length := by have q9 := pExp_in (I := I) (c := 114) (p := p) (br := 0) (by omega) (by omega); rw [e1] at q9; exact q9.1
          have eR : pRn I p = pN I 49 (pExp I 58 (p + 1) 0).1 (pExp I 58 (p + 1) 0).2 := by unfold pRn pRc; rw [eRa]
          rw [eR, eRa]
          exact l_X13_run95 (pa := p + 1) (ba := 0) (l := 0) h0 hf78 hx9 htx hT (fun _ => rfl) (by omega) (by omega) (by omega)
        · exact absurd h_33_81 (by decide)
  · have hgz82 : I.getD (p) 0 = 0 := gD_ge (by omega)
    have hm183 : (-1 : Int32).toInt = -1 := by decide
    refine z_callE (As := []) (rest := []) (b := b) (ci := 12) (v := some (.int (-1))) (R2 := zR 0 0) dX13_run_1 kV_RX13_197 rfl ⟨⟨by decide, by decide⟩, by decide, by decide⟩ (by omega) h.ce rfl rfl rfl (Nat.le_of_ble_eq_true rfl) rfl (c_X13_sign_n (p := p) h0 h htx (by omega) hc1) ?_
    refine z_bipush (v := nI 114) dX13_run_4 rfl ?_
    have hk86 : (-1 : Int32).toInt = -1 := by decide
    have hk87 := nI_toInt (n := 114) (by omega)
    refine z_icmp_ne_z (tgt := 13) dX13_run_6 (by decide) (fun h_6_85 => ?_) (fun h_6_85 => ?_)
    · refine z_iconst (v := nI 0) dX13_run_13 rfl ?_
      refine z_istore_n (lv' := [(0, .ref (za g b)), (1, .int (nI (0)))]) dX13_run_14 (by decide) rfl ?_
      refine z_iconst (v := nI 0) dX13_run_15 rfl ?_
      refine z_istore_n (lv' := [(0, .ref (za g b)), (1, .int (nI (0))), (2, .int (nI (0)))]) dX13_run_16 (by decide) rfl ?_
      refine z_aload_n dX13_run_17 rfl ?_
      refine z_iload_n dX13_run_18 rfl ?_
      refine z_if_eq_n (a := 0) (tgt := 27) dX13_run_19 (by decide) (by omega) (fun h_19_88 => ?_) (fun h_19_88 => ?_)
      · refine z_bipush (v := nI 104) dX13_run_27 rfl ?_
        refine z_callR (As := [.int (nI (104))]) (rest := []) (b := b) (ci := 12) (v := none) (R2 := zR 1 0) dX13_run_29 kV_RX13_200 rfl ⟨⟨by decide, by decide⟩, by decide, by decide⟩ (by omega) h.ce rfl rfl rfl (Nat.le_of_ble_eq_true rfl) rfl (c_X13_mark (p := p) (br := 0) (c := 104) h0 h htx (by omega) (by omega) (by omega)) (fun w89 pw89 => ?_)
        obtain ⟨hf90, hx91⟩ := pw89
        have hpe92 := pExp_in (I := I) (c := 104) (p := p) (br := 0) (by omega) (by omega)
        refine z_iload_n dX13_run_32 rfl ?_
        refine z_if_ne_n (a := 0) (tgt := 95) dX13_run_33 (by decide) (by omega) (fun h_33_93 => ?_) (fun h_33_93 => ?_)
        · exact absurd h_33_93 (by decide)
        · refine z_aload_n dX13_run_36 rfl ?_
          refine z_getf (j := b) dX13_run_37 kF_RX13_193 rfl (by omega) hx91.ce rfl ?_
          refine z_if_ne_n (a := (pExp I 104 (p) (0)).2) (tgt := 95) dX13_run_40 (by decide) (by omega) (fun h_40_94 => ?_) (fun h_40_94 => ?_)
          · have hr0 : I.getD p 0 ≠ 114 := by omega
            have hb9 : (pExp I 104 p 0).2 = 1 := by omega
            have eRa : pRa I p = (0, (pExp I 104 p 0).1, 1) := by unfold pRa; rw [if_neg hr0]; unfold pDig; rw [if_neg (by omega)]
            have hx9 := hx91
            rw [hb9] at hx9
            have eR : pRn I p = pN I 49 (pExp I 58 ((pExp I 104 p 0).1) 1).1 (pExp I 58 ((pExp I 104 p 0).1) 1).2 := by unfold pRn pRc; rw [eRa]
            rw [eR, eRa]
            exact l_X13_run95 (pa := (pExp I 104 p 0).1) (ba := 1) (l := 0) h0 hf90 hx9 htx hT (fun z => absurd z (by decide)) (by omega) (by omega) (by omega)
          · refine z_aload_n dX13_run_43 rfl ?_
            refine z_aload_n dX13_run_44 rfl ?_
            by_cases hc95 : (pExp I 104 (p) (0)).1 < I.length
            · have hch96 := htx.2.2 _ (get_mem hc95)
              refine z_callE (As := []) (rest := [.ref (za g b)]) (b := b) (ci := 12) (v := some (.int (nI (I.getD ((pExp I 104 (p) (0)).1) 0)))) (R2 := zR 0 0) dX13_run_45 kV_RX13_197 rfl ⟨⟨by decide, by decide⟩, by decide, by decide⟩ (by omega) hx91.ce rfl rfl rfl (Nat.le_of_ble_eq_true rfl) rfl (c_X13_sign_y (p := (pExp I 104 (p) (0)).1) h0 hx91 htx (by omega) hc95) ?_
              refine z_bipush (v := nI 49) dX13_run_48 rfl ?_
              refine z_bipush (v := nI 57) dX13_run_50 rfl ?_
              by_cases hc98 : ((49 : Nat) : Int) ≤ ((I.getD ((pExp I 104 (p) (0)).1) 0 : Nat) : Int) ∧ ((I.getD ((pExp I 104 (p) (0)).1) 0 : Nat) : Int) ≤ ((57 : Nat) : Int)
              · refine z_callSE (As := [.int (nI (I.getD ((pExp I 104 (p) (0)).1) 0)), .int (nI (49)), .int (nI (57))]) (rest := [.ref (za g b)]) (v := some (.int (nI (1)))) (R2 := zR 0 0) dX13_run_52 kS_RX13_57 rfl rfl ⟨⟨by decide, by decide⟩, by decide, by decide⟩ rfl (Nat.le_of_ble_eq_true rfl) rfl (c_X13_isIn_y (x := (nI (I.getD ((pExp I 104 (p) (0)).1) 0))) (y := (nI (49))) (z := (nI (57))) h0 (by have q0 := nI_toInt (n := I.getD ((pExp I 104 (p) (0)).1) 0) (by omega); have q1 := nI_toInt (n := 49) (by omega); have q2 := nI_toInt (n := 57) (by omega); omega)) ?_
                refine z_if_ne_n (a := 1) (tgt := 62) dX13_run_55 (by decide) (by omega) (fun h_55_100 => ?_) (fun h_55_100 => ?_)
                · refine z_iconst (v := nI 0) dX13_run_62 rfl ?_
                  refine z_putf (j := b) dX13_run_63 kF_RX13_193 zt_12_20 rfl (by omega) hx91.ce rfl rfl (Nat.le_of_ble_eq_true rfl) ?_
                  obtain ⟨w101, ew102⟩ : ∃ wz : zW, wz = va_up w89 (b) (zO 12 [.int (th), .int (ch), .int (ea), .int (fa), .int (sv), .ref (za g (b + 1)), .ref (za g (b + 2)), .ref (za g (b + 3)), .ref (za g (b + 4)), .ref (za g (b + 5)), .ref (za g (b + 6)), .ref (za g (b + 7)), .ref (za g (b + 8)), .ref (za g (b + 9)), .ref (za g (b + 10)), .int (tn), .int (nI ((pExp I 104 (p) (0)).1)), .int (nI (I.length)), .int (ln), .int (nI (t)), .int (nI (0)), .int (dg)]) := ⟨_, rfl⟩
                  refine z_weq (w' := w101) ew102.symm ?_
                  have hf103 : zFr w89 w101 (b) (b + 1) := by rw [ew102]; exact zFr.up (by omega)
                  have hw104 : w101 (b) = zO 12 [.int (th), .int (ch), .int (ea), .int (fa), .int (sv), .ref (za g (b + 1)), .ref (za g (b + 2)), .ref (za g (b + 3)), .ref (za g (b + 4)), .ref (za g (b + 5)), .ref (za g (b + 6)), .ref (za g (b + 7)), .ref (za g (b + 8)), .ref (za g (b + 9)), .ref (za g (b + 10)), .int (tn), .int (nI ((pExp I 104 (p) (0)).1)), .int (nI (I.length)), .int (ln), .int (nI (t)), .int (nI (0)), .int (dg)] := by rw [ew102, zup_s]
                  have hx105 := hx91.setC hf103 hw104
                  refine z_aload_n dX13_run_66 rfl ?_
                  refine z_callE (As := []) (rest := []) (b := b) (ci := 12) (v := some (.int (nI (I.getD ((pExp I 104 (p) (0)).1) 0)))) (R2 := zR 0 0) dX13_run_67 kV_RX13_197 rfl ⟨⟨by decide, by decide⟩, by decide, by decide⟩ (by omega) hx105.ce rfl rfl rfl (Nat.le_of_ble_eq_true rfl) rfl (c_X13_sign_y (p := (pExp I 104 (p) (0)).1) h0 hx105 htx (by omega) hc95) ?_
                  refine z_bipush (v := nI 48) dX13_run_70 rfl ?_
                  refine z_isub_n (a := I.getD ((pExp I 104 (p) (0)).1) 0) (b := 48) dX13_run_72 (by omega) ?_
                  refine z_istore_n (lv' := [(0, .ref (za g b)), (1, .int (nI (0))), (2, .int (nI ((I.getD ((pExp I 104 (p) (0)).1) 0) - (48))))]) dX13_run_73 (by decide) rfl ?_
                  refine z_aload_n dX13_run_74 rfl ?_
                  refine z_dup dX13_run_75 rfl ?_
                  refine z_getf (j := b) dX13_run_76 kF_RX13_187 rfl (by omega) hx105.ce rfl ?_
                  refine z_aload_n dX13_run_79 rfl ?_
                  refine z_getf (j := b) dX13_run_80 kF_RX13_193 rfl (by omega) hx105.ce rfl ?_
                  refine z_if_eq_n (a := 0) (tgt := 90) dX13_run_83 (by decide) (by omega) (fun h_83_107 => ?_) (fun h_83_107 => ?_)
                  · refine z_iconst (v := nI 1) dX13_run_90 rfl ?_
                    refine z_iadd_n (a := (pExp I 104 (p) (0)).1) (b := 1) dX13_run_91 ?_
                    refine z_putf (j := b) dX13_run_92 kF_RX13_187 zt_12_16 rfl (by omega) hx105.ce rfl rfl (Nat.le_of_ble_eq_true rfl) ?_
                    obtain ⟨w108, ew109⟩ : ∃ wz : zW, wz = va_up w101 (b) (zO 12 [.int (th), .int (ch), .int (ea), .int (fa), .int (sv), .ref (za g (b + 1)), .ref (za g (b + 2)), .ref (za g (b + 3)), .ref (za g (b + 4)), .ref (za g (b + 5)), .ref (za g (b + 6)), .ref (za g (b + 7)), .ref (za g (b + 8)), .ref (za g (b + 9)), .ref (za g (b + 10)), .int (tn), .int (nI (((pExp I 104 (p) (0)).1) + (1))), .int (nI (I.length)), .int (ln), .int (nI (t)), .int (nI (0)), .int (dg)]) := ⟨_, rfl⟩
                    refine z_weq (w' := w108) ew109.symm ?_
                    have hf110 : zFr w101 w108 (b) (b + 1) := by rw [ew109]; exact zFr.up (by omega)
                    have hw111 : w108 (b) = zO 12 [.int (th), .int (ch), .int (ea), .int (fa), .int (sv), .ref (za g (b + 1)), .ref (za g (b + 2)), .ref (za g (b + 3)), .ref (za g (b + 4)), .ref (za g (b + 5)), .ref (za g (b + 6)), .ref (za g (b + 7)), .ref (za g (b + 8)), .ref (za g (b + 9)), .ref (za g (b + 10)), .int (tn), .int (nI (((pExp I 104 (p) (0)).1) + (1))), .int (nI (I.length)), .int (ln), .int (nI (t)), .int (nI (0)), .int (dg)] := by rw [ew109, zup_s]
                    have hx112 := hx105.setC hf110 hw111
                    have hr0 : I.getD p 0 ≠ 114 := by omega
                    have eRa : pRa I p = ((I.getD (pExp I 104 p 0).1 0 - 48), (pExp I 104 p 0).1 + 1, 0) := by unfold pRa; rw [if_neg hr0]; unfold pDig; rw [if_pos (by omega)]
                    have hpx9 : (pExp I 104 p 0).1 + 1 ≤ I.length := by omega
                    have eR : pRn I p = pN I 49 (pExp I 58 ((pExp I 104 p 0).1 + 1) 0).1 (pExp I 58 ((pExp I 104 p 0).1 + 1) 0).2 := by unfold pRn pRc; rw [eRa]
                    rw [eR, eRa]
                    exact l_X13_run95 (pa := (pExp I 104 p 0).1 + 1) (ba := 0) (l := (I.getD (pExp I 104 p 0).1 0 - 48)) h0 ((hf90.tr (hf103.wk (by omega) (by omega))).tr (hf110.wk (by omega) (by omega))) hx112 htx hT (fun _ => rfl) (by omega) (by omega) (by omega)
                  · exact absurd h_83_107 (by decide)
                · exact absurd h_55_100 (by decide)
              · refine z_callSE (As := [.int (nI (I.getD ((pExp I 104 (p) (0)).1) 0)), .int (nI (49)), .int (nI (57))]) (rest := [.ref (za g b)]) (v := some (.int (nI (0)))) (R2 := zR 0 0) dX13_run_52 kS_RX13_57 rfl rfl ⟨⟨by decide, by decide⟩, by decide, by decide⟩ rfl (Nat.le_of_ble_eq_true rfl) rfl (c_X13_isIn_n (x := (nI (I.getD ((pExp I 104 (p) (0)).1) 0))) (y := (nI (49))) (z := (nI (57))) h0 (by have q0 := nI_toInt (n := I.getD ((pExp I 104 (p) (0)).1) 0) (by omega); have q1 := nI_toInt (n := 49) (by omega); have q2 := nI_toInt (n := 57) (by omega); omega)) ?_
                refine z_if_ne_n (a := 0) (tgt := 62) dX13_run_55 (by decide) (by omega) (fun h_55_114 => ?_) (fun h_55_114 => ?_)
                · exact absurd h_55_114 (by decide)
                · refine z_iconst (v := nI 1) dX13_run_58 rfl ?_
                  refine z_goto (tgt := 63) dX13_run_59 (by decide) ?_
                  refine z_putf (j := b) dX13_run_63 kF_RX13_193 zt_12_20 rfl (by omega) hx91.ce rfl rfl (Nat.le_of_ble_eq_true rfl) ?_
                  obtain ⟨w115, ew116⟩ : ∃ wz : zW, wz = va_up w89 (b) (zO 12 [.int (th), .int (ch), .int (ea), .int (fa), .int (sv), .ref (za g (b + 1)), .ref (za g (b + 2)), .ref (za g (b + 3)), .ref (za g (b + 4)), .ref (za g (b + 5)), .ref (za g (b + 6)), .ref (za g (b + 7)), .ref (za g (b + 8)), .ref (za g (b + 9)), .ref (za g (b + 10)), .int (tn), .int (nI ((pExp I 104 (p) (0)).1)), .int (nI (I.length)), .int (ln), .int (nI (t)), .int (nI (1)), .int (dg)]) := ⟨_, rfl⟩
                  refine z_weq (w' := w115) ew116.symm ?_
                  have hf117 : zFr w89 w115 (b) (b + 1) := by rw [ew116]; exact zFr.up (by omega)
                  have hw118 : w115 (b) = zO 12 [.int (th), .int (ch), .int (ea), .int (fa), .int (sv), .ref (za g (b + 1)), .ref (za g (b + 2)), .ref (za g (b + 3)), .ref (za g (b + 4)), .ref (za g (b + 5)), .ref (za g (b + 6)), .ref (za g (b + 7)), .ref (za g (b + 8)), .ref (za g (b + 9)), .ref (za g (b + 10)), .int (tn), .int (nI ((pExp I 104 (p) (0)).1)), .int (nI (I.length)), .int (ln), .int (nI (t)), .int (nI (1)), .int (dg)] := by rw [ew116, zup_s]
                  have hx119 := hx91.setC hf117 hw118
                  refine z_aload_n dX13_run_66 rfl ?_
                  refine z_callE (As := []) (rest := []) (b := b) (ci := 12) (v := some (.int (nI (I.getD ((pExp I 104 (p) (0)).1) 0)))) (R2 := zR 0 0) dX13_run_67 kV_RX13_197 rfl ⟨⟨by decide, by decide⟩, by decide, by decide⟩ (by omega) hx119.ce rfl rfl rfl (Nat.le_of_ble_eq_true rfl) rfl (c_X13_sign_y (p := (pExp I 104 (p) (0)).1) h0 hx119 htx (by omega) hc95) ?_
                  refine z_bipush (v := nI 48) dX13_run_70 rfl ?_
                  refine z_isub dX13_run_72 ?_
                  refine z_istore_n (lv' := [(0, .ref (za g b)), (1, .int (nI (0))), (2, .int ((nI (I.getD ((pExp I 104 (p) (0)).1) 0)) - (nI (48))))]) dX13_run_73 (by decide) rfl ?_
                  refine z_aload_n dX13_run_74 rfl ?_
                  refine z_dup dX13_run_75 rfl ?_
                  refine z_getf (j := b) dX13_run_76 kF_RX13_187 rfl (by omega) hx119.ce rfl ?_
                  refine z_aload_n dX13_run_79 rfl ?_
                  refine z_getf (j := b) dX13_run_80 kF_RX13_193 rfl (by omega) hx119.ce rfl ?_
                  refine z_if_eq_n (a := 1) (tgt := 90) dX13_run_83 (by decide) (by omega) (fun h_83_121 => ?_) (fun h_83_121 => ?_)
                  · exact absurd h_83_121 (by decide)
                  · refine z_iconst (v := nI 0) dX13_run_86 rfl ?_
                    refine z_goto (tgt := 91) dX13_run_87 (by decide) ?_
                    refine z_iadd_n (a := (pExp I 104 (p) (0)).1) (b := 0) dX13_run_91 ?_
                    refine z_putf (j := b) dX13_run_92 kF_RX13_187 zt_12_16 rfl (by omega) hx119.ce rfl rfl (Nat.le_of_ble_eq_true rfl) ?_
                    obtain ⟨w122, ew123⟩ : ∃ wz : zW, wz = va_up w115 (b) (zO 12 [.int (th), .int (ch), .int (ea), .int (fa), .int (sv), .ref (za g (b + 1)), .ref (za g (b + 2)), .ref (za g (b + 3)), .ref (za g (b + 4)), .ref (za g (b + 5)), .ref (za g (b + 6)), .ref (za g (b + 7)), .ref (za g (b + 8)), .ref (za g (b + 9)), .ref (za g (b + 10)), .int (tn), .int (nI (((pExp I 104 (p) (0)).1) + (0))), .int (nI (I.length)), .int (ln), .int (nI (t)), .int (nI (1)), .int (dg)]) := ⟨_, rfl⟩
                    refine z_weq (w' := w122) ew123.symm ?_
                    have hf124 : zFr w115 w122 (b) (b + 1) := by rw [ew123]; exact zFr.up (by omega)
                    have hw125 : w122 (b) = zO 12 [.int (th), .int (ch), .int (ea), .int (fa), .int (sv), .ref (za g (b + 1)), .ref (za g (b + 2)), .ref (za g (b + 3)), .ref (za g (b + 4)), .ref (za g (b + 5)), .ref (za g (b + 6)), .ref (za g (b + 7)), .ref (za g (b + 8)), .ref (za g (b + 9)), .ref (za g (b + 10)), .int (tn), .int (nI (((pExp I 104 (p) (0)).1) + (0))), .int (nI (I.length)), .int (ln), .int (nI (t)), .int (nI (1)), .int (dg)] := by rw [ew123, zup_s]
                    have hx126 := hx119.setC hf124 hw125
                    have hr0 : I.getD p 0 ≠ 114 := by omega
                    have eRa : pRa I p = (0, (pExp I 104 p 0).1, 1) := by unfold pRa; rw [if_neg hr0]; unfold pDig; rw [if_neg (by omega)]
                    have eR : pRn I p = pN I 49 (pExp I 58 ((pExp I 104 p 0).1) 1).1 (pExp I 58 ((pExp I 104 p 0).1) 1).2 := by unfold pRn pRc; rw [eRa]
                    rw [eR, eRa]
                    exact l_X13_run95 (pa := (pExp I 104 p 0).1) (ba := 1) (l := 0) h0 ((hf90.tr (hf117.wk (by omega) (by omega))).tr (hf124.wk (by omega) (by omega))) hx126 htx hT (fun z => absurd z (by decide)) (by omega) (by omega) (by omega)
            · have hgz127 : I.getD ((pExp I 104 (p) (0)).1) 0 = 0 := gD_ge (by omega)
              have hm1128 : (-1 : Int32).toInt = -1 := by decide
              refine z_callE (As := []) (rest := [.ref (za g b)]) (b := b) (ci := 12) (v := some (.int (-1))) (R2 := zR 0 0) dX13_run_45 kV_RX13_197 rfl ⟨⟨by decide, by decide⟩, by decide, by decide⟩ (by omega) hx91.ce rfl rfl rfl (Nat.le_of_ble_eq_true rfl) rfl (c_X13_sign_n (p := (pExp I 104 (p) (0)).1) h0 hx91 htx (by omega) hc95) ?_
              refine z_bipush (v := nI 49) dX13_run_48 rfl ?_
              refine z_bipush (v := nI 57) dX13_run_50 rfl ?_
              by_cases hc130 : ((49 : Nat) : Int) ≤ (-1 : Int) ∧ (-1 : Int) ≤ ((57 : Nat) : Int)
              · refine z_callSE (As := [.int (-1), .int (nI (49)), .int (nI (57))]) (rest := [.ref (za g b)]) (v := some (.int (nI (1)))) (R2 := zR 0 0) dX13_run_52 kS_RX13_57 rfl rfl ⟨⟨by decide, by decide⟩, by decide, by decide⟩ rfl (Nat.le_of_ble_eq_true rfl) rfl (c_X13_isIn_y (x := (-1)) (y := (nI (49))) (z := (nI (57))) h0 (by have q0 := (show ((-1 : Int32)).toInt = -1 from by decide); have q1 := nI_toInt (n := 49) (by omega); have q2 := nI_toInt (n := 57) (by omega); omega)) ?_
                refine z_if_ne_n (a := 1) (tgt := 62) dX13_run_55 (by decide) (by omega) (fun h_55_132 => ?_) (fun h_55_132 => ?_)
                · refine z_iconst (v := nI 0) dX13_run_62 rfl ?_
                  refine z_putf (j := b) dX13_run_63 kF_RX13_193 zt_12_20 rfl (by omega) hx91.ce rfl rfl (Nat.le_of_ble_eq_true rfl) ?_
                  obtain ⟨w133, ew134⟩ : ∃ wz : zW, wz = va_up w89 (b) (zO 12 [.int (th), .int (ch), .int (ea), .int (fa), .int (sv), .ref (za g (b + 1)), .ref (za g (b + 2)), .ref (za g (b + 3)), .ref (za g (b + 4)), .ref (za g (b + 5)), .ref (za g (b + 6)), .ref (za g (b + 7)), .ref (za g (b + 8)), .ref (za g (b + 9)), .ref (za g (b + 10)), .int (tn), .int (nI ((pExp I 104 (p) (0)).1)), .int (nI (I.length)), .int (ln), .int (nI (t)), .int (nI (0)), .int (dg)]) := ⟨_, rfl⟩
                  refine z_weq (w' := w133) ew134.symm ?_
                  have hf135 : zFr w89 w133 (b) (b + 1) := by rw [ew134]; exact zFr.up (by omega)
                  have hw136 : w133 (b) = zO 12 [.int (th), .int (ch), .int (ea), .int (fa), .int (sv), .ref (za g (b + 1)), .ref (za g (b + 2)), .ref (za g (b + 3)), .ref (za g (b + 4)), .ref (za g (b + 5)), .ref (za g (b + 6)), .ref (za g (b + 7)), .ref (za g (b + 8)), .ref (za g (b + 9)), .ref (za g (b + 10)), .int (tn), .int (nI ((pExp I 104 (p) (0)).1)), .int (nI (I.length)), .int (ln), .int (nI (t)), .int (nI (0)), .int (dg)] := by rw [ew134, zup_s]
                  have hx137 := hx91.setC hf135 hw136
                  refine z_aload_n dX13_run_66 rfl ?_
                  refine z_callE (As := []) (rest := []) (b := b) (ci := 12) (v := some (.int (-1))) (R2 := zR 0 0) dX13_run_67 kV_RX13_197 rfl ⟨⟨by decide, by decide⟩, by decide, by decide⟩ (by omega) hx137.ce rfl rfl rfl (Nat.le_of_ble_eq_true rfl) rfl (c_X13_sign_n (p := (pExp I 104 (p) (0)).1) h0 hx137 htx (by omega) hc95) ?_
                  refine z_bipush (v := nI 48) dX13_run_70 rfl ?_
                  refine z_isub dX13_run_72 ?_
                  refine z_istore_n (lv' := [(0, .ref (za g b)), (1, .int (nI (0))), (2, .int ((-1) - (nI (48))))]) dX13_run_73 (by decide) rfl ?_
                  refine z_aload_n dX13_run_74 rfl ?_
                  refine z_dup dX13_run_75 rfl ?_
                  refine z_getf (j := b) dX13_run_76 kF_RX13_187 rfl (by omega) hx137.ce rfl ?_
                  refine z_aload_n dX13_run_79 rfl ?_
                  refine z_getf (j := b) dX13_run_80 kF_RX13_193 rfl (by omega) hx137.ce rfl ?_
                  refine z_if_eq_n (a := 0) (tgt := 90) dX13_run_83 (by decide) (by omega) (fun h_83_139 => ?_) (fun h_83_139 => ?_)
                  · refine z_iconst (v := nI 1) dX13_run_90 rfl ?_
                    refine z_iadd_n (a := (pExp I 104 (p) (0)).1) (b := 1) dX13_run_91 ?_
                    refine z_putf (j := b) dX13_run_92 kF_RX13_187 zt_12_16 rfl (by omega) hx137.ce rfl rfl (Nat.le_of_ble_eq_true rfl) ?_
                    obtain ⟨w140, ew141⟩ : ∃ wz : zW, wz = va_up w133 (b) (zO 12 [.int (th), .int (ch), .int (ea), .int (fa), .int (sv), .ref (za g (b + 1)), .ref (za g (b + 2)), .ref (za g (b + 3)), .ref (za g (b + 4)), .ref (za g (b + 5)), .ref (za g (b + 6)), .ref (za g (b + 7)), .ref (za g (b + 8)), .ref (za g (b + 9)), .ref (za g (b + 10)), .int (tn), .int (nI (((pExp I 104 (p) (0)).1) + (1))), .int (nI (I.length)), .int (ln), .int (nI (t)), .int (nI (0)), .int (dg)]) := ⟨_, rfl⟩
                    refine z_weq (w' := w140) ew141.symm ?_
                    have hf142 : zFr w133 w140 (b) (b + 1) := by rw [ew141]; exact zFr.up (by omega)
                    have hw143 : w140 (b) = zO 12 [.int (th), .int (ch), .int (ea), .int (fa), .int (sv), .ref (za g (b + 1)), .ref (za g (b + 2)), .ref (za g (b + 3)), .ref (za g (b + 4)), .ref (za g (b + 5)), .ref (za g (b + 6)), .ref (za g (b + 7)), .ref (za g (b + 8)), .ref (za g (b + 9)), .ref (za g (b + 10)), .int (tn), .int (nI (((pExp I 104 (p) (0)).1) + (1))), .int (nI (I.length)), .int (ln), .int (nI (t)), .int (nI (0)), .int (dg)] := by rw [ew141, zup_s]
                    have hx144 := hx137.setC hf142 hw143
                    exfalso; omega
                  · exact absurd h_83_139 (by decide)
                · exact absurd h_55_132 (by decide)
              · refine z_callSE (As := [.int (-1), .int (nI (49)), .int (nI (57))]) (rest := [.ref (za g b)]) (v := some (.int (nI (0)))) (R2 := zR 0 0) dX13_run_52 kS_RX13_57 rfl rfl ⟨⟨by decide, by decide⟩, by decide, by decide⟩ rfl (Nat.le_of_ble_eq_true rfl) rfl (c_X13_isIn_n (x := (-1)) (y := (nI (49))) (z := (nI (57))) h0 (by have q0 := (show ((-1 : Int32)).toInt = -1 from by decide); have q1 := nI_toInt (n := 49) (by omega); have q2 := nI_toInt (n := 57) (by omega); omega)) ?_
                refine z_if_ne_n (a := 0) (tgt := 62) dX13_run_55 (by decide) (by omega) (fun h_55_146 => ?_) (fun h_55_146 => ?_)
                · exact absurd h_55_146 (by decide)
                · refine z_iconst (v := nI 1) dX13_run_58 rfl ?_
                  refine z_goto (tgt := 63) dX13_run_59 (by decide) ?_
                  refine z_putf (j := b) dX13_run_63 kF_RX13_193 zt_12_20 rfl (by omega) hx91.ce rfl rfl (Nat.le_of_ble_eq_true rfl) ?_
                  obtain ⟨w147, ew148⟩ : ∃ wz : zW, wz = va_up w89 (b) (zO 12 [.int (th), .int (ch), .int (ea), .int (fa), .int (sv), .ref (za g (b + 1)), .ref (za g (b + 2)), .ref (za g (b + 3)), .ref (za g (b + 4)), .ref (za g (b + 5)), .ref (za g (b + 6)), .ref (za g (b + 7)), .ref (za g (b + 8)), .ref (za g (b + 9)), .ref (za g (b + 10)), .int (tn), .int (nI ((pExp I 104 (p) (0)).1)), .int (nI (I.length)), .int (ln), .int (nI (t)), .int (nI (1)), .int (dg)]) := ⟨_, rfl⟩
                  refine z_weq (w' := w147) ew148.symm ?_
                  have hf149 : zFr w89 w147 (b) (b + 1) := by rw [ew148]; exact zFr.up (by omega)
                  have hw150 : w147 (b) = zO 12 [.int (th), .int (ch), .int (ea), .int (fa), .int (sv), .ref (za g (b + 1)), .ref (za g (b + 2)), .ref (za g (b + 3)), .ref (za g (b + 4)), .ref (za g (b + 5)), .ref (za g (b + 6)), .ref (za g (b + 7)), .ref (za g (b + 8)), .ref (za g (b + 9)), .ref (za g (b + 10)), .int (tn), .int (nI ((pExp I 104 (p) (0)).1)), .int (nI (I.length)), .int (ln), .int (nI (t)), .int (nI (1)), .int (dg)] := by rw [ew148, zup_s]
                  have hx151 := hx91.setC hf149 hw150
                  refine z_aload_n dX13_run_66 rfl ?_
                  refine z_callE (As := []) (rest := []) (b := b) (ci := 12) (v := some (.int (-1))) (R2 := zR 0 0) dX13_run_67 kV_RX13_197 rfl ⟨⟨by decide, by decide⟩, by decide, by decide⟩ (by omega) hx151.ce rfl rfl rfl (Nat.le_of_ble_eq_true rfl) rfl (c_X13_sign_n (p := (pExp I 104 (p) (0)).1) h0 hx151 htx (by omega) hc95) ?_
                  refine z_bipush (v := nI 48) dX13_run_70 rfl ?_
                  refine z_isub dX13_run_72 ?_
                  refine z_istore_n (lv' := [(0, .ref (za g b)), (1, .int (nI (0))), (2, .int ((-1) - (nI (48))))]) dX13_run_73 (by decide) rfl ?_
                  refine z_aload_n dX13_run_74 rfl ?_
                  refine z_dup dX13_run_75 rfl ?_
                  refine z_getf (j := b) dX13_run_76 kF_RX13_187 rfl (by omega) hx151.ce rfl ?_
                  refine z_aload_n dX13_run_79 rfl ?_
                  refine z_getf (j := b) dX13_run_80 kF_RX13_193 rfl (by omega) hx151.ce rfl ?_
                  refine z_if_eq_n (a := 1) (tgt := 90) dX13_run_83 (by decide) (by omega) (fun h_83_153 => ?_) (fun h_83_153 => ?_)
                  · exact absurd h_83_153 (by decide)
                  · refine z_iconst (v := nI 0) dX13_run_86 rfl ?_
                    refine z_goto (tgt := 91) dX13_run_87 (by decide) ?_
                    refine z_iadd_n (a := (pExp I 104 (p) (0)).1) (b := 0) dX13_run_91 ?_
                    refine z_putf (j := b) dX13_run_92 kF_RX13_187 zt_12_16 rfl (by omega) hx151.ce rfl rfl (Nat.le_of_ble_eq_true rfl) ?_
                    obtain ⟨w154, ew155⟩ : ∃ wz : zW, wz = va_up w147 (b) (zO 12 [.int (th), .int (ch), .int (ea), .int (fa), .int (sv), .ref (za g (b + 1)), .ref (za g (b + 2)), .ref (za g (b + 3)), .ref (za g (b + 4)), .ref (za g (b + 5)), .ref (za g (b + 6)), .ref (za g (b + 7)), .ref (za g (b + 8)), .ref (za g (b + 9)), .ref (za g (b + 10)), .int (tn), .int (nI (((pExp I 104 (p) (0)).1) + (0))), .int (nI (I.length)), .int (ln), .int (nI (t)), .int (nI (1)), .int (dg)]) := ⟨_, rfl⟩
                    refine z_weq (w' := w154) ew155.symm ?_
                    have hf156 : zFr w147 w154 (b) (b + 1) := by rw [ew155]; exact zFr.up (by omega)
                    have hw157 : w154 (b) = zO 12 [.int (th), .int (ch), .int (ea), .int (fa), .int (sv), .ref (za g (b + 1)), .ref (za g (b + 2)), .ref (za g (b + 3)), .ref (za g (b + 4)), .ref (za g (b + 5)), .ref (za g (b + 6)), .ref (za g (b + 7)), .ref (za g (b + 8)), .ref (za g (b + 9)), .ref (za g (b + 10)), .int (tn), .int (nI (((pExp I 104 (p) (0)).1) + (0))), .int (nI (I.length)), .int (ln), .int (nI (t)), .int (nI (1)), .int (dg)] := by rw [ew155, zup_s]
                    have hx158 := hx151.setC hf156 hw157
                    have hr0 : I.getD p 0 ≠ 114 := by omega
                    have eRa : pRa I p = (0, (pExp I 104 p 0).1, 1) := by unfold pRa; rw [if_neg hr0]; unfold pDig; rw [if_neg (by omega)]
                    have eR : pRn I p = pN I 49 (pExp I 58 ((pExp I 104 p 0).1) 1).1 (pExp I 58 ((pExp I 104 p 0).1) 1).2 := by unfold pRn pRc; rw [eRa]
                    rw [eR, eRa]
                    exact l_X13_run95 (pa := (pExp I 104 p 0).1) (ba := 1) (l := 0) h0 ((hf90.tr (hf149.wk (by omega) (by omega))).tr (hf156.wk (by omega) (by omega))) hx158 htx hT (fun z => absurd z (by decide)) (by omega) (by omega) (by omega)
      · exact absurd h_19_88 (by decide)
    · refine z_iconst (v := nI 1) dX13_run_9 rfl ?_
      refine z_goto (tgt := 14) dX13_run_10 (by decide) ?_
      refine z_istore_n (lv' := [(0, .ref (za g b)), (1, .int (nI (1)))]) dX13_run_14 (by decide) rfl ?_
      refine z_iconst (v := nI 0) dX13_run_15 rfl ?_
      refine z_istore_n (lv' := [(0, .ref (za g b)), (1, .int (nI (1))), (2, .int (nI (0)))]) dX13_run_16 (by decide) rfl ?_
      refine z_aload_n dX13_run_17 rfl ?_
      refine z_iload_n dX13_run_18 rfl ?_
      refine z_if_eq_n (a := 1) (tgt := 27) dX13_run_19 (by decide) (by omega) (fun h_19_159 => ?_) (fun h_19_159 => ?_)
      · exact absurd h_19_159 (by decide)
      · refine z_bipush (v := nI 114) dX13_run_22 rfl ?_
        refine z_goto (tgt := 29) dX13_run_24 (by decide) ?_
        refine z_callR (As := [.int (nI (114))]) (rest := []) (b := b) (ci := 12) (v := none) (R2 := zR 1 0) dX13_run_29 kV_RX13_200 rfl ⟨⟨by decide, by decide⟩, by decide, by decide⟩ (by omega) h.ce rfl rfl rfl (Nat.le_of_ble_eq_true rfl) rfl (c_X13_mark (p := p) (br := 0) (c := 114) h0 h htx (by omega) (by omega) (by omega)) (fun w160 pw160 => ?_)
        obtain ⟨hf161, hx162⟩ := pw160
        have hpe163 := pExp_in (I := I) (c := 114) (p := p) (br := 0) (by omega) (by omega)
        refine z_iload_n dX13_run_32 rfl ?_
        refine z_if_ne_n (a := 1) (tgt := 95) dX13_run_33 (by decide) (by omega) (fun h_33_164 => ?_) (fun h_33_164 => ?_)
        · have hr0 : I.getD p 0 = 114 := by omega
          have e1 : pExp I 114 p 0 = (p + 1, 0) := by unfold pExp; rw [if_pos ⟨rfl, hr0⟩]
          have eRa : pRa I p = (0, p + 1, 0) := by unfold pRa; rw [if_pos hr0]
          have hx9 := hx162
          rw [e1] at hx9
          have hpx9 : p + 1 ≤ I.length := by have q9 := pExp_in (I := I) (c := 114) (p := p) (br := 0) (by omega) (by omega); rw [e1] at q9; exact q9.1
          have eR : pRn I p = pN I 49 (pExp I 58 (p + 1) 0).1 (pExp I 58 (p + 1) 0).2 := by unfold pRn pRc; rw [eRa]
          rw [eR, eRa]
          exact l_X13_run95 (pa := p + 1) (ba := 0) (l := 0) h0 hf161 hx9 htx hT (fun _ => rfl) (by omega) (by omega) (by omega)
        · exact absurd h_33_164 (by decide)
