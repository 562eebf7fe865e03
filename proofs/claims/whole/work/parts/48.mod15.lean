/-! the reference: a word as a whole, numbers behind it -/
theorem wm_in_max {I : List Nat} {p n : Nat} (hp : p ≤ I.length) (h : n ≤ nmax (fun j => wm I p (zwd j)) 11) : p + n ≤ I.length := by
  have : nmax (fun j => wm I p (zwd j)) 11 ≤ I.length - p := nmax_le (fun k hk => by have := wm_in (I := I) (W := zwd k) (p := p) (zwd_ne hk) hp; omega)
  omega
theorem wm_max9 {I : List Nat} {p : Nat} : nmax (fun j => wm I p (zwd j)) 11 ≤ 9 := nmax_le (fun k hk => Nat.le_trans wm_le (zwd_ok hk).2.1)
set_option maxRecDepth 100000 in
set_option maxHeartbeats 4000000 in
theorem c_X13_word {g : zGT} {w : zW} {b : Nat} {th ch ea fa sv tn  ln kn dg : Int32} {fv fb fs fp fh ft fl fi : Nat → Int32} {I : List Nat} {p : Nat} (h0 : zG0 g) (h : Mx g w b th ch ea fa sv tn (nI p) (nI I.length) ln kn (nI 0) dg fv fb fs fp fh ft fl fi) (htx : TxR ft I) (hpl : p ≤ I.length) : zCt g mX13_word (zR 2 0) [.ref (za g b)] w (fun o w' => (∃ (d : Nat) (f' : Nat → Int32), d < 11 ∧ pVi I p = (d : Int) ∧ o = .inl (some (.int (nI d))) ∧ zFr w w' b (b + 11) ∧ Mx g w' b th ch ea fa sv tn (nI (pVp I p)) (nI I.length) ln kn (nI 0) dg fv fb fs fp fh ft fl (f')) ∨ (∃ (f' : Nat → Int32), pVi I p < 0 ∧ o = .inl (some (.int (-1))) ∧ zFr w w' b (b + 11) ∧ Mx g w' b th ch ea fa sv tn (nI (pVp I p)) (nI I.length) ln kn (nI 1) dg fv fb fs fp fh ft fl (f'))) := by
  have hb := h.1
  have htl := htx.1
  refine zCt_of (by decide +kernel) h0 [(0, .ref (za g b))] rfl (Nat.le_of_ble_eq_true rfl) ?_
  have loop : ∀ (mm : Nat) (n : Nat) (wi : zW) (f9 : Nat → Int32), 11 - n < mm → (zFr w wi b (b + 11)) → (Mx g wi b th ch ea fa sv tn (nI (p + n)) (nI I.length) ln kn (nI 0) dg fv fb fs fp fh ft fl f9) → (∀ k, k < 11 → f9 k = nI (lfE I p n k)) → (∀ j, j < 11 → wful I p j → n < (zwd j).length) → (n ≤ nmax (fun j => wm I p (zwd j)) 11) → (p + n ≤ I.length) → (n ≤ 9) → zTr g mX13_word (zR 2 0) 0 0 25 [(0, .ref (za g b)), (1, .int (nI (n))), (2, .int (-1))] [] wi (fun o w' => (∃ (d : Nat) (f' : Nat → Int32), d < 11 ∧ pVi I p = (d : Int) ∧ o = .inl (some (.int (nI d))) ∧ zFr w w' b (b + 11) ∧ Mx g w' b th ch ea fa sv tn (nI (pVp I p)) (nI I.length) ln kn (nI 0) dg fv fb fs fp fh ft fl (f')) ∨ (∃ (f' : Nat → Int32), pVi I p < 0 ∧ o = .inl (some (.int (-1))) ∧ zFr w w' b (b + 11) ∧ Mx g w' b th ch ea fa sv tn (nI (pVp I p)) (nI I.length) ln kn (nI 1) dg fv fb fs fp fh ft fl (f'))) := by
    intro mm
    induction mm with
    | zero => intros; omega
    | succ mm ih =>
      intro n wi f9 hm hfi hmi hf hno hex hpn hn9
      refine z_iload_n dX13_word_25 rfl ?_
      refine z_if_ge_z (tgt := 222) dX13_word_26 (by decide) (fun h_26_1 => ?_) (fun h_26_1 => ?_)
      · exact absurd h_26_1 (by decide)
      · refine z_aload_n dX13_word_29 rfl ?_
        refine z_getf (j := b) dX13_word_30 kF_RX13_193 rfl (by omega) hmi.ce rfl ?_
        refine z_if_ne_n (a := 0) (tgt := 222) dX13_word_33 (by decide) (by omega) (fun h_33_2 => ?_) (fun h_33_2 => ?_)
        · exact absurd h_33_2 (by decide)
        · refine z_iconst (v := nI 0) dX13_word_36 rfl ?_
          refine z_istore_n (lv' := [(0, .ref (za g b)), (1, .int (nI (n))), (2, .int (-1)), (3, .int (nI (0)))]) dX13_word_37 (by decide) rfl ?_
          refine z_iconst (v := nI 0) dX13_word_38 rfl ?_
          refine z_istore (lv' := [(0, .ref (za g b)), (1, .int (nI (n))), (2, .int (-1)), (3, .int (nI (0))), (4, .int (nI (0)))]) dX13_word_39 (by decide) rfl ?_
          refine l_X13_word41 h0 hfi hmi htx hpn hn9 hf (fun m w1 f1 hmB hm1 hm0 hf1 hx1 he1 => ?_)
          have hm2 : m = 0 ∨ m = 1 := by clear hm1 hm0; omega
          rcases hm2 with rfl | rfl
          · have hnm : nmax (fun j => wm I p (zwd j)) 11 ≤ n := nmax_le (fun k hk => by have q8 := hm0 rfl k hk; omega)
            replace hm0 := hm0 rfl
            clear hm1
            refine z_aload_n dX13_word_130 rfl ?_
            refine z_iload_n dX13_word_131 rfl ?_
            refine z_if_ne_n (a := 0) (tgt := 139) dX13_word_132 (by decide) (by omega) (fun h_132_103 => ?_) (fun h_132_103 => ?_)
            · exact absurd h_132_103 (by decide)
            · refine z_iconst (v := nI 1) dX13_word_135 rfl ?_
              refine z_goto (tgt := 140) dX13_word_136 (by decide) ?_
              refine z_putf (j := b) dX13_word_140 kF_RX13_193 zt_12_20 rfl (by omega) hx1.ce rfl rfl (Nat.le_of_ble_eq_true rfl) ?_
              obtain ⟨w104, ew105⟩ : ∃ wz : zW, wz = va_up w1 (b) (zO 12 [.int (th), .int (ch), .int (ea), .int (fa), .int (sv), .ref (za g (b + 1)), .ref (za g (b + 2)), .ref (za g (b + 3)), .ref (za g (b + 4)), .ref (za g (b + 5)), .ref (za g (b + 6)), .ref (za g (b + 7)), .ref (za g (b + 8)), .ref (za g (b + 9)), .ref (za g (b + 10)), .int (tn), .int (nI (p + n)), .int (nI (I.length)), .int (ln), .int (kn), .int (nI (1)), .int (dg)]) := ⟨_, rfl⟩
              refine z_weq (w' := w104) ew105.symm ?_
              have hf106 : zFr w1 w104 (b) (b + 1) := by rw [ew105]; exact zFr.up (by omega)
              have hw107 : w104 (b) = zO 12 [.int (th), .int (ch), .int (ea), .int (fa), .int (sv), .ref (za g (b + 1)), .ref (za g (b + 2)), .ref (za g (b + 3)), .ref (za g (b + 4)), .ref (za g (b + 5)), .ref (za g (b + 6)), .ref (za g (b + 7)), .ref (za g (b + 8)), .ref (za g (b + 9)), .ref (za g (b + 10)), .int (tn), .int (nI (p + n)), .int (nI (I.length)), .int (ln), .int (kn), .int (nI (1)), .int (dg)] := by rw [ew105, zup_s]
              have hx108 := hx1.setC hf106 hw107
              refine z_aload_n dX13_word_143 rfl ?_
              refine z_dup dX13_word_144 rfl ?_
              refine z_getf (j := b) dX13_word_145 kF_RX13_187 rfl (by omega) hx108.ce rfl ?_
              refine z_iload_n dX13_word_148 rfl ?_
              refine z_if_eq_n (a := 0) (tgt := 156) dX13_word_149 (by decide) (by omega) (fun h_149_109 => ?_) (fun h_149_109 => ?_)
              · refine z_iconst (v := nI 0) dX13_word_156 rfl ?_
                refine z_iadd_n (a := p + n) (b := 0) dX13_word_157 ?_
                refine z_putf (j := b) dX13_word_158 kF_RX13_187 zt_12_16 rfl (by omega) hx108.ce rfl rfl (Nat.le_of_ble_eq_true rfl) ?_
                obtain ⟨w110, ew111⟩ : ∃ wz : zW, wz = va_up w104 (b) (zO 12 [.int (th), .int (ch), .int (ea), .int (fa), .int (sv), .ref (za g (b + 1)), .ref (za g (b + 2)), .ref (za g (b + 3)), .ref (za g (b + 4)), .ref (za g (b + 5)), .ref (za g (b + 6)), .ref (za g (b + 7)), .ref (za g (b + 8)), .ref (za g (b + 9)), .ref (za g (b + 10)), .int (tn), .int (nI ((p + n) + (0))), .int (nI (I.length)), .int (ln), .int (kn), .int (nI (1)), .int (dg)]) := ⟨_, rfl⟩
                refine z_weq (w' := w110) ew111.symm ?_
                have hf112 : zFr w104 w110 (b) (b + 1) := by rw [ew111]; exact zFr.up (by omega)
                have hw113 : w110 (b) = zO 12 [.int (th), .int (ch), .int (ea), .int (fa), .int (sv), .ref (za g (b + 1)), .ref (za g (b + 2)), .ref (za g (b + 3)), .ref (za g (b + 4)), .ref (za g (b + 5)), .ref (za g (b + 6)), .ref (za g (b + 7)), .ref (za g (b + 8)), .ref (za g (b + 9)), .ref (za g (b + 10)), .int (tn), .int (nI ((p + n) + (0))), .int (nI (I.length)), .int (ln), .int (kn), .int (nI (1)), .int (dg)] := by rw [ew111, zup_s]
                have hx114 := hx108.setC hf112 hw113
                refine z_iinc_n (n := 1) (a := n) (lv' := [(0, .ref (za g b)), (1, .int (nI (n + 1))), (2, .int (-1)), (3, .int (nI (0))), (4, .int (nI (11)))]) dX13_word_161 rfl (by decide) rfl ?_
                refine z_iconst (v := nI 0) dX13_word_164 rfl ?_
                refine z_istore (lv' := [(0, .ref (za g b)), (1, .int (nI (n + 1))), (2, .int (-1)), (3, .int (nI (0))), (4, .int (nI (0)))]) dX13_word_165 (by decide) rfl ?_
                refine l_X13_word167 (n := n + 1) (mv := nI (0)) h0 hx114 (by omega) he1 (fun is his => ?_)
                rcases his with ⟨e1, e2⟩ | ⟨d, e1, e2, e3⟩
                · subst e1
                  refine z_iload_n dX13_word_25 rfl ?_
                  refine z_if_ge_z (tgt := 222) dX13_word_26 (by decide) (fun h_26_215 => ?_) (fun h_26_215 => ?_)
                  · exact absurd h_26_215 (by decide)
                  · refine z_aload_n dX13_word_29 rfl ?_
                    refine z_getf (j := b) dX13_word_30 kF_RX13_193 rfl (by omega) hx114.ce rfl ?_
                    refine z_if_ne_n (a := 1) (tgt := 222) dX13_word_33 (by decide) (by omega) (fun h_33_216 => ?_) (fun h_33_216 => ?_)
                    · refine z_iload_n dX13_word_222 rfl ?_
                      refine z_iret dX13_word_223 rfl (by decide) (by decide) ?_
                      have hno2 : pVi I p = -1 := fidx_no (fun k hk => by
                        show decide (wm I p (zwd k) = (zwd k).length) = false
                        refine decide_eq_false (fun z => ?_)
                        have q8 := hno k hk z
                        exact hm0 k hk (by omega))
                      have hvp : pVp I p = p + n := by unfold pVp; rw [if_pos (by omega)]; omega
                      rw [hvp]
                      exact Or.inr ⟨f1, by omega, rfl, ((hf1.tr (hf106.wk (by omega) (by omega))).tr (hf112.wk (by omega) (by omega))), hx114⟩
                    · exact absurd h_33_216 (by decide)
                · exact absurd e3.1 (hm0 d e1)
              · exact absurd h_149_109 (by decide)
          · have hnm : n + 1 ≤ nmax (fun j => wm I p (zwd j)) 11 := by obtain ⟨k, h8, h9⟩ := hm1 rfl; exact Nat.le_trans h9 (nmax_ge (F := fun j => wm I p (zwd j)) h8)
            clear hm1 hm0
            refine z_aload_n dX13_word_130 rfl ?_
            refine z_iload_n dX13_word_131 rfl ?_
            refine z_if_ne_n (a := 1) (tgt := 139) dX13_word_132 (by decide) (by omega) (fun h_132_203 => ?_) (fun h_132_203 => ?_)
            · refine z_iconst (v := nI 0) dX13_word_139 rfl ?_
              refine z_putf (j := b) dX13_word_140 kF_RX13_193 zt_12_20 rfl (by omega) hx1.ce rfl rfl (Nat.le_of_ble_eq_true rfl) ?_
              obtain ⟨w204, ew205⟩ : ∃ wz : zW, wz = va_up w1 (b) (zO 12 [.int (th), .int (ch), .int (ea), .int (fa), .int (sv), .ref (za g (b + 1)), .ref (za g (b + 2)), .ref (za g (b + 3)), .ref (za g (b + 4)), .ref (za g (b + 5)), .ref (za g (b + 6)), .ref (za g (b + 7)), .ref (za g (b + 8)), .ref (za g (b + 9)), .ref (za g (b + 10)), .int (tn), .int (nI (p + n)), .int (nI (I.length)), .int (ln), .int (kn), .int (nI (0)), .int (dg)]) := ⟨_, rfl⟩
              refine z_weq (w' := w204) ew205.symm ?_
              have hf206 : zFr w1 w204 (b) (b + 1) := by rw [ew205]; exact zFr.up (by omega)
              have hw207 : w204 (b) = zO 12 [.int (th), .int (ch), .int (ea), .int (fa), .int (sv), .ref (za g (b + 1)), .ref (za g (b + 2)), .ref (za g (b + 3)), .ref (za g (b + 4)), .ref (za g (b + 5)), .ref (za g (b + 6)), .ref (za g (b + 7)), .ref (za g (b + 8)), .ref (za g (b + 9)), .ref (za g (b + 10)), .int (tn), .int (nI (p + n)), .int (nI (I.length)), .int (ln), .int (kn), .int (nI (0)), .int (dg)] := by rw [ew205, zup_s]
              have hx208 := hx1.setC hf206 hw207
              refine z_aload_n dX13_word_143 rfl ?_
              refine z_dup dX13_word_144 rfl ?_
              refine z_getf (j := b) dX13_word_145 kF_RX13_187 rfl (by omega) hx208.ce rfl ?_
              refine z_iload_n dX13_word_148 rfl ?_
              refine z_if_eq_n (a := 1) (tgt := 156) dX13_word_149 (by decide) (by omega) (fun h_149_209 => ?_) (fun h_149_209 => ?_)
              · exact absurd h_149_209 (by decide)
              · refine z_iconst (v := nI 1) dX13_word_152 rfl ?_
                refine z_goto (tgt := 157) dX13_word_153 (by decide) ?_
                refine z_iadd_n (a := p + n) (b := 1) dX13_word_157 ?_
                refine z_putf (j := b) dX13_word_158 kF_RX13_187 zt_12_16 rfl (by omega) hx208.ce rfl rfl (Nat.le_of_ble_eq_true rfl) ?_
                obtain ⟨w210, ew211⟩ : ∃ wz : zW, wz = va_up w204 (b) (zO 12 [.int (th), .int (ch), .int (ea), .int (fa), .int (sv), .ref (za g (b + 1)), .ref (za g (b + 2)), .ref (za g (b + 3)), .ref (za g (b + 4)), .ref (za g (b + 5)), .ref (za g (b + 6)), .ref (za g (b + 7)), .ref (za g (b + 8)), .ref (za g (b + 9)), .ref (za g (b + 10)), .int (tn), .int (nI ((p + n) + (1))), .int (nI (I.length)), .int (ln), .int (kn), .int (nI (0)), .int (dg)]) := ⟨_, rfl⟩
                refine z_weq (w' := w210) ew211.symm ?_
                have hf212 : zFr w204 w210 (b) (b + 1) := by rw [ew211]; exact zFr.up (by omega)
                have hw213 : w210 (b) = zO 12 [.int (th), .int (ch), .int (ea), .int (fa), .int (sv), .ref (za g (b + 1)), .ref (za g (b + 2)), .ref (za g (b + 3)), .ref (za g (b + 4)), .ref (za g (b + 5)), .ref (za g (b + 6)), .ref (za g (b + 7)), .ref (za g (b + 8)), .ref (za g (b + 9)), .ref (za g (b + 10)), .int (tn), .int (nI ((p + n) + (1))), .int (nI (I.length)), .int (ln), .int (kn), .int (nI (0)), .int (dg)] := by rw [ew211, zup_s]
                have hx214 := hx208.setC hf212 hw213
                refine z_iinc_n (n := 1) (a := n) (lv' := [(0, .ref (za g b)), (1, .int (nI (n + 1))), (2, .int (-1)), (3, .int (nI (1))), (4, .int (nI (11)))]) dX13_word_161 rfl (by decide) rfl ?_
                refine z_iconst (v := nI 0) dX13_word_164 rfl ?_
                refine z_istore (lv' := [(0, .ref (za g b)), (1, .int (nI (n + 1))), (2, .int (-1)), (3, .int (nI (1))), (4, .int (nI (0)))]) dX13_word_165 (by decide) rfl ?_
                refine l_X13_word167 (n := n + 1) (mv := nI (1)) h0 hx214 (by omega) he1 (fun is his => ?_)
                rcases his with ⟨e1, e2⟩ | ⟨d, e1, e2, e3⟩
                · subst e1
                  exact ih (n + 1) _ _ (by omega) ((hf1.tr (hf206.wk (by omega) (by omega))).tr (hf212.wk (by omega) (by omega))) hx214 he1 (fun j hj z => by
                    have q8 := hno j hj z
                    have q7 : ¬ ((zwd j).length = n + 1) := fun z9 => e2 j hj ⟨by rw [← z9]; exact Nat.le_of_eq z.symm, z9⟩
                    omega) hnm (by have q8 := wm_in_max (I := I) (p := p) (n := n + 1) hpl hnm; omega) (by have q8 := wm_max9 (I := I) (p := p); omega)
                · subst e2
                  refine z_iload_n dX13_word_25 rfl ?_
                  refine z_if_ge_n (a := d) dX13_word_26 222 (by decide) (by omega) ?_
                  refine z_iload_n dX13_word_222 rfl ?_
                  refine z_iret dX13_word_223 rfl (by decide) (by decide) ?_
                  have hwl := wm_le (I := I) (W := zwd d) (p := p)
                  have hfd : wful I p d := by have q7 := e3.1; have q6 := e3.2; show wm I p (zwd d) = _; omega
                  have hvi : pVi I p = (d : Int) := fidx_hit e1 (fun k hk => by
                      show decide (wm I p (zwd k) = (zwd k).length) = false
                      refine decide_eq_false (fun z => ?_)
                      have q8 := wful_uniq (show k < 11 by omega) e1 z hfd
                      omega) (decide_eq_true hfd)
                  have hvp : pVp I p = p + (n + 1) := by unfold pVp; rw [if_neg (by omega), hvi]; show p + (zwd d).length = _; rw [e3.2]
                  rw [hvp]
                  exact Or.inl ⟨d, f1, e1, hvi, rfl, ((hf1.tr (hf206.wk (by omega) (by omega))).tr (hf212.wk (by omega) (by omega))), hx214⟩
            · exact absurd h_132_203 (by decide)
  have loop1 : ∀ (mm : Nat) (j : Nat) (wi : zW) (f9 : Nat → Int32), 12 - j < mm → (j ≤ 11) → (zFr w wi b (b + 11)) → (Mx g wi b th ch ea fa sv tn (nI p) (nI I.length) ln kn (nI 0) dg fv fb fs fp fh ft fl f9) → (∀ k, k < j → f9 k = nI 1) → zTr g mX13_word (zR 2 0) 0 0 2 [(0, .ref (za g b)), (1, .int (nI (j)))] [] wi (fun o w' => (∃ (d : Nat) (f' : Nat → Int32), d < 11 ∧ pVi I p = (d : Int) ∧ o = .inl (some (.int (nI d))) ∧ zFr w w' b (b + 11) ∧ Mx g w' b th ch ea fa sv tn (nI (pVp I p)) (nI I.length) ln kn (nI 0) dg fv fb fs fp fh ft fl (f')) ∨ (∃ (f' : Nat → Int32), pVi I p < 0 ∧ o = .inl (some (.int (-1))) ∧ zFr w w' b (b + 11) ∧ Mx g w' b th ch ea fa sv tn (nI (pVp I p)) (nI I.length) ln kn (nI 1) dg fv fb fs fp fh ft fl (f'))) := by
    intro mm
    induction mm with
    | zero => intros; omega
    | succ mm ih =>
      intro j wi f9 hm hj hfi hmi hi
      refine z_iload_n dX13_word_2 rfl ?_
      refine z_bipush (v := nI 11) dX13_word_3 rfl ?_
      refine z_icmp_ge_n (a := j) (b := 11) (tgt := 21) dX13_word_5 (by decide) (by omega) (by omega) (fun h_5_1 => ?_) (fun h_5_1 => ?_)
      · refine z_iconst (v := nI 0) dX13_word_21 rfl ?_
        refine z_istore_n (lv' := [(0, .ref (za g b)), (1, .int (nI (0)))]) dX13_word_22 (by decide) rfl ?_
        refine z_iconst (v := -1) dX13_word_23 rfl ?_
        refine z_istore_n (lv' := [(0, .ref (za g b)), (1, .int (nI (0))), (2, .int (-1))]) dX13_word_24 (by decide) rfl ?_
        exact loop 12 0 _ _ (by omega) hfi hmi (fun k hk => by rw [hi k (by omega)]; unfold lfE; rw [if_pos (Nat.zero_le _)]) (fun j hj z => (zwd_ok hj).1) (Nat.zero_le _) hpl (by omega)
      · refine z_aload_n dX13_word_8 rfl ?_
        refine z_getf (j := b) dX13_word_9 kF_RX13_38 rfl (by omega) hmi.ce rfl ?_
        refine z_iload_n dX13_word_12 rfl ?_
        refine z_iconst (v := nI 1) dX13_word_13 rfl ?_
        refine z_iast_n (j := b + 8) (N := 11) (a := j) (f := f9) dX13_word_14 (by omega) hmi.r8 (by omega) (by omega) ?_
        obtain ⟨w2, ew3⟩ : ∃ wz : zW, wz = va_up wi (b + 8) (zI g 11 (upd (f9) (j) ((nI (1))))) := ⟨_, rfl⟩
        refine z_weq (w' := w2) ew3.symm ?_
        have hf4 : zFr wi w2 (b + 8) (b + 8 + 1) := by rw [ew3]; exact zFr.up (by omega)
        have hw5 : w2 (b + 8) = zI g 11 (upd (f9) (j) ((nI (1)))) := by rw [ew3, zup_s]
        have hx6 := hmi.setI hf4 hw5
        refine z_iinc_n (n := 1) (a := j) (lv' := [(0, .ref (za g b)), (1, .int (nI (j + 1)))]) dX13_word_15 rfl (by decide) rfl ?_
        refine z_goto (tgt := 2) dX13_word_18 (by decide) ?_
        refine ih (j + 1) _ _ (by omega) (by omega) (hfi.tr (hf4.wk (by omega) (by omega))) hx6 (fun k hk => ?_)
        simp only [upd]
        by_cases c : k = j
        · rw [if_pos c]
        · rw [if_neg c]; exact hi k (by omega)
  refine z_iconst (v := nI 0) dX13_word_0 rfl ?_
  refine z_istore_n (lv' := [(0, .ref (za g b)), (1, .int (nI (0)))]) dX13_word_1 (by decide) rfl ?_
  exact loop1 13 0 _ _ (by omega) (Nat.zero_le _) zFr.rf h (fun k hk => absurd hk (Nat.not_lt_zero k))
set_option maxRecDepth 100000 in
set_option maxHeartbeats 4000000 in
theorem c_X13_behind {g : zGT} {w : zW} {b : Nat} {th ch ea fa sv tn  ln kn dg : Int32} {fv fb fs fp fh ft fl fi : Nat → Int32} {I : List Nat} {p : Nat} (h0 : zG0 g) (h : Mx g w b th ch ea fa sv tn (nI p) (nI I.length) ln kn (nI 0) dg fv fb fs fp fh ft fl fi) (htx : TxR ft I) (hpl : p ≤ I.length) : zCt g mX13_behind (zR 2 0) [.ref (za g b)] w (fun o w' => o = .inl (some (.int (nI (pN I 48 (pExp I 32 p 0).1 (pExp I 32 p 0).2).1))) ∧ zFr w w' b (b + 11) ∧ Mx g w' b th ch ea fa sv tn (nI (pN I 48 (pExp I 32 p 0).1 (pExp I 32 p 0).2).2.1) (nI I.length) ln kn (nI (pN I 48 (pExp I 32 p 0).1 (pExp I 32 p 0).2).2.2) dg fv fb fs fp fh ft fl fi) := by
  have hb := h.1
  have htl := htx.1
  refine zCt_of (by decide +kernel) h0 [(0, .ref (za g b))] rfl (Nat.le_of_ble_eq_true rfl) ?_
  refine z_aload_n dX13_behind_0 rfl ?_
  refine z_bipush (v := nI 32) dX13_behind_1 rfl ?_
  refine z_callR (As := [.int (nI (32))]) (rest := []) (b := b) (ci := 12) (v := none) (R2 := zR 1 0) dX13_behind_3 kV_RX13_200 rfl ⟨⟨by decide, by decide⟩, by decide, by decide⟩ (by omega) h.ce rfl rfl rfl (Nat.le_of_ble_eq_true rfl) rfl (c_X13_mark (p := p) (br := 0) (c := 32) h0 h htx (by omega) (by omega) (by omega)) (fun w1 pw1 => ?_)
  obtain ⟨hf2, hx3⟩ := pw1
  have hpe4 := pExp_in (I := I) (c := 32) (p := p) (br := 0) (by omega) (by omega)
  refine z_aload_n dX13_behind_6 rfl ?_
  refine z_getf (j := b) dX13_behind_7 kF_RX13_193 rfl (by omega) hx3.ce rfl ?_
  refine z_if_eq_n (a := (pExp I 32 (p) (0)).2) (tgt := 17) dX13_behind_10 (by decide) (by omega) (fun h_10_5 => ?_) (fun h_10_5 => ?_)
  · refine z_aload_n dX13_behind_17 rfl ?_
    refine z_callR (As := []) (rest := []) (b := b) (ci := 12) (v := some (.int (nI ((pN I 48 ((pExp I 32 (p) (0)).1) ((pExp I 32 (p) (0)).2)).1)))) (R2 := zR 1 0) dX13_behind_18 kV_RX13_203 rfl ⟨⟨by decide, by decide⟩, by decide, by decide⟩ (by omega) hx3.ce rfl rfl rfl (Nat.le_of_ble_eq_true rfl) rfl (c_X13_digits (p := (pExp I 32 (p) (0)).1) (br := (pExp I 32 (p) (0)).2) h0 hx3 htx (by omega) (by omega)) (fun w6 pw6 => ?_)
    obtain ⟨hf7, hx8⟩ := pw6
    have hpn9 := pN_in (I := I) (lo := 48) (p := (pExp I 32 (p) (0)).1) (br := (pExp I 32 (p) (0)).2) (by omega) (by omega)
    have hpb10 := pN_b (I := I) (lo := 48) (p := (pExp I 32 (p) (0)).1) (br := (pExp I 32 (p) (0)).2)
    have hpl11 := pN_le (I := I) (lo := 48) (p := (pExp I 32 (p) (0)).1) (br := (pExp I 32 (p) (0)).2) (by omega)
    refine z_iret dX13_behind_21 rfl (by decide) (by decide) ?_
    exact ⟨rfl, (hf2.tr hf7), hx8⟩
  · refine z_iconst (v := nI 0) dX13_behind_13 rfl ?_
    refine z_goto (tgt := 21) dX13_behind_14 (by decide) ?_
    refine z_iret dX13_behind_21 rfl (by decide) (by decide) ?_
    have hpe1 : (pExp I 32 p 0).2 = 1 := by omega
    have eX : (pN I 48 (pExp I 32 p 0).1 (pExp I 32 p 0).2) = (0, (pExp I 32 p 0).1, 1) := by unfold pN; rw [if_neg (by omega)]
    have hx9 := hx3
    rw [hpe1] at hx9
    rw [eX]
    exact ⟨rfl, hf2, hx9⟩
theorem pExp_y {I : List Nat} {c p : Nat} (h : I.getD p 0 = c) : pExp I c p 0 = (p + 1, 0) := by unfold pExp; rw [if_pos ⟨rfl, h⟩]
theorem pExp_n1 {I : List Nat} {c p : Nat} : pExp I c p 1 = (p, 1) := by unfold pExp; rw [if_neg (by omega)]
theorem pN_n1 {I : List Nat} {lo p : Nat} : pN I lo p 1 = (0, p, 1) := by unfold pN; rw [if_neg (by omega)]
theorem i_neg {x : Int32} : -x = -1 * x := by rw [Int32.neg_mul, Int32.one_mul]
theorem i_one {x : Int32} : x = 1 * x := (Int32.one_mul x).symm
set_option maxRecDepth 100000 in
set_option maxHeartbeats 4000000 in
theorem c_X13_shift {g : zGT} {w : zW} {b : Nat} {th ch ea fa sv tn  ln kn dg : Int32} {fv fb fs fp fh ft fl fi : Nat → Int32} {I : List Nat} {p : Nat} (h0 : zG0 g) (h : Mx g w b th ch ea fa sv tn (nI p) (nI I.length) ln kn (nI 0) dg fv fb fs fp fh ft fl fi) (htx : TxR ft I) (hpl : p ≤ I.length) : zCt g mX13_shift (zR 2 0) [.ref (za g b)] w (fun o w' => o = .inl (some (.int ((pSign I (pExp I 32 p 0).1 (pExp I 32 p 0).2).1 * nI (pN I 48 (pSign I (pExp I 32 p 0).1 (pExp I 32 p 0).2).2.1 (pSign I (pExp I 32 p 0).1 (pExp I 32 p 0).2).2.2).1))) ∧ zFr w w' b (b + 11) ∧ Mx g w' b th ch ea fa sv tn (nI (pN I 48 (pSign I (pExp I 32 p 0).1 (pExp I 32 p 0).2).2.1 (pSign I (pExp I 32 p 0).1 (pExp I 32 p 0).2).2.2).2.1) (nI I.length) ln kn (nI (pN I 48 (pSign I (pExp I 32 p 0).1 (pExp I 32 p 0).2).2.1 (pSign I (pExp I 32 p 0).1 (pExp I 32 p 0).2).2.2).2.2) dg fv fb fs fp fh ft fl fi) := by
  have hb := h.1
  have htl := htx.1
  refine zCt_of (by decide +kernel) h0 [(0, .ref (za g b))] rfl (Nat.le_of_ble_eq_true rfl) ?_
  refine z_aload_n dX13_shift_0 rfl ?_
  refine z_bipush (v := nI 32) dX13_shift_1 rfl ?_
  refine z_callR (As := [.int (nI (32))]) (rest := []) (b := b) (ci := 12) (v := none) (R2 := zR 1 0) dX13_shift_3 kV_RX13_200 rfl ⟨⟨by decide, by decide⟩, by decide, by decide⟩ (by omega) h.ce rfl rfl rfl (Nat.le_of_ble_eq_true rfl) rfl (c_X13_mark (p := p) (br := 0) (c := 32) h0 h htx (by omega) (by omega) (by omega)) (fun w1 pw1 => ?_)
  obtain ⟨hf2, hx3⟩ := pw1
  have hpe4 := pExp_in (I := I) (c := 32) (p := p) (br := 0) (by omega) (by omega)
  refine z_aload_n dX13_shift_6 rfl ?_
  by_cases hc5 : (pExp I 32 (p) (0)).1 < I.length
  · have hch6 := htx.2.2 _ (get_mem hc5)
    refine z_callE (As := []) (rest := []) (b := b) (ci := 12) (v := some (.int (nI (I.getD ((pExp I 32 (p) (0)).1) 0)))) (R2 := zR 0 0) dX13_shift_7 kV_RX13_197 rfl ⟨⟨by decide, by decide⟩, by decide, by decide⟩ (by omega) hx3.ce rfl rfl rfl (Nat.le_of_ble_eq_true rfl) rfl (c_X13_sign_y (p := (pExp I 32 (p) (0)).1) h0 hx3 htx (by omega) hc5) ?_
    refine z_bipush (v := nI 45) dX13_shift_10 rfl ?_
    refine z_icmp_ne_n (a := I.getD ((pExp I 32 (p) (0)).1) 0) (b := 45) (tgt := 19) dX13_shift_12 (by decide) (by omega) (by omega) (fun h_12_8 => ?_) (fun h_12_8 => ?_)
    · refine z_iconst (v := nI 0) dX13_shift_19 rfl ?_
      refine z_istore_n (lv' := [(0, .ref (za g b)), (1, .int (nI (0)))]) dX13_shift_20 (by decide) rfl ?_
      refine z_aload_n dX13_shift_21 rfl ?_
      refine z_iload_n dX13_shift_22 rfl ?_
      refine z_if_eq_n (a := 0) (tgt := 31) dX13_shift_23 (by decide) (by omega) (fun h_23_9 => ?_) (fun h_23_9 => ?_)
      · refine z_bipush (v := nI 43) dX13_shift_31 rfl ?_
        refine z_callR (As := [.int (nI (43))]) (rest := []) (b := b) (ci := 12) (v := none) (R2 := zR 1 0) dX13_shift_33 kV_RX13_200 rfl ⟨⟨by decide, by decide⟩, by decide, by decide⟩ (by omega) hx3.ce rfl rfl rfl (Nat.le_of_ble_eq_true rfl) rfl (c_X13_mark (p := (pExp I 32 (p) (0)).1) (br := (pExp I 32 (p) (0)).2) (c := 43) h0 hx3 htx (by omega) (by omega) (by omega)) (fun w10 pw10 => ?_)
        obtain ⟨hf11, hx12⟩ := pw10
        have hpe13 := pExp_in (I := I) (c := 43) (p := (pExp I 32 (p) (0)).1) (br := (pExp I 32 (p) (0)).2) (by omega) (by omega)
        refine z_aload_n dX13_shift_36 rfl ?_
        refine z_getf (j := b) dX13_shift_37 kF_RX13_193 rfl (by omega) hx12.ce rfl ?_
        refine z_if_eq_n (a := (pExp I 43 ((pExp I 32 (p) (0)).1) ((pExp I 32 (p) (0)).2)).2) (tgt := 47) dX13_shift_40 (by decide) (by omega) (fun h_40_14 => ?_) (fun h_40_14 => ?_)
        · refine z_aload_n dX13_shift_47 rfl ?_
          refine z_callR (As := []) (rest := []) (b := b) (ci := 12) (v := some (.int (nI ((pN I 48 ((pExp I 43 ((pExp I 32 (p) (0)).1) ((pExp I 32 (p) (0)).2)).1) ((pExp I 43 ((pExp I 32 (p) (0)).1) ((pExp I 32 (p) (0)).2)).2)).1)))) (R2 := zR 1 0) dX13_shift_48 kV_RX13_203 rfl ⟨⟨by decide, by decide⟩, by decide, by decide⟩ (by omega) hx12.ce rfl rfl rfl (Nat.le_of_ble_eq_true rfl) rfl (c_X13_digits (p := (pExp I 43 ((pExp I 32 (p) (0)).1) ((pExp I 32 (p) (0)).2)).1) (br := (pExp I 43 ((pExp I 32 (p) (0)).1) ((pExp I 32 (p) (0)).2)).2) h0 hx12 htx (by omega) (by omega)) (fun w15 pw15 => ?_)
          obtain ⟨hf16, hx17⟩ := pw15
          have hpn18 := pN_in (I := I) (lo := 48) (p := (pExp I 43 ((pExp I 32 (p) (0)).1) ((pExp I 32 (p) (0)).2)).1) (br := (pExp I 43 ((pExp I 32 (p) (0)).1) ((pExp I 32 (p) (0)).2)).2) (by omega) (by omega)
          have hpb19 := pN_b (I := I) (lo := 48) (p := (pExp I 43 ((pExp I 32 (p) (0)).1) ((pExp I 32 (p) (0)).2)).1) (br := (pExp I 43 ((pExp I 32 (p) (0)).1) ((pExp I 32 (p) (0)).2)).2)
          have hpl20 := pN_le (I := I) (lo := 48) (p := (pExp I 43 ((pExp I 32 (p) (0)).1) ((pExp I 32 (p) (0)).2)).1) (br := (pExp I 43 ((pExp I 32 (p) (0)).1) ((pExp I 32 (p) (0)).2)).2) (by omega)
          refine z_istore_n (lv' := [(0, .ref (za g b)), (1, .int (nI (0))), (2, .int (nI ((pN I 48 ((pExp I 43 ((pExp I 32 (p) (0)).1) ((pExp I 32 (p) (0)).2)).1) ((pExp I 43 ((pExp I 32 (p) (0)).1) ((pExp I 32 (p) (0)).2)).2)).1)))]) dX13_shift_51 (by decide) rfl ?_
          refine z_iload_n dX13_shift_52 rfl ?_
          refine z_if_eq_n (a := 0) (tgt := 61) dX13_shift_53 (by decide) (by omega) (fun h_53_21 => ?_) (fun h_53_21 => ?_)
          · refine z_iload_n dX13_shift_61 rfl ?_
            refine z_iret dX13_shift_62 rfl (by decide) (by decide) ?_
            have hbb : (pExp I 32 p 0).2 = 0 ∨ (pExp I 32 p 0).2 = 1 := by omega
            rcases hbb with hB | hB
            · have hx9 := hx17
              have eS : (pSign I (pExp I 32 p 0).1 (pExp I 32 p 0).2) = (1, pExp I 43 (pExp I 32 p 0).1 (pExp I 32 p 0).2) := by unfold pSign; rw [if_neg (fun z => by omega)]
              rw [eS]
              exact ⟨by dsimp only; rw [Int32.one_mul], ((hf2.tr hf11).tr hf16), hx9⟩
            · exfalso
              have e2 : pExp I 43 (pExp I 32 p 0).1 (pExp I 32 p 0).2 = ((pExp I 32 p 0).1, 1) := by rw [hB]; exact pExp_n1
              rw [e2] at h_40_14
              exact absurd (show (1 : Nat) = 0 from h_40_14) (by decide)
          · exact absurd h_53_21 (by decide)
        · refine z_iconst (v := nI 0) dX13_shift_43 rfl ?_
          refine z_goto (tgt := 51) dX13_shift_44 (by decide) ?_
          refine z_istore_n (lv' := [(0, .ref (za g b)), (1, .int (nI (0))), (2, .int (nI (0)))]) dX13_shift_51 (by decide) rfl ?_
          refine z_iload_n dX13_shift_52 rfl ?_
          refine z_if_eq_n (a := 0) (tgt := 61) dX13_shift_53 (by decide) (by omega) (fun h_53_22 => ?_) (fun h_53_22 => ?_)
          · refine z_iload_n dX13_shift_61 rfl ?_
            refine z_iret dX13_shift_62 rfl (by decide) (by decide) ?_
            have hbb : (pExp I 32 p 0).2 = 0 ∨ (pExp I 32 p 0).2 = 1 := by omega
            rcases hbb with hB | hB
            · have hx9 := hx12
              have eS : (pSign I (pExp I 32 p 0).1 (pExp I 32 p 0).2) = (1, pExp I 43 (pExp I 32 p 0).1 (pExp I 32 p 0).2) := by unfold pSign; rw [if_neg (fun z => by omega)]
              rw [eS]
              have e3 : (pExp I 43 (pExp I 32 p 0).1 (pExp I 32 p 0).2).2 = 1 := by omega
              rw [e3] at hx9
              have e4 : pN I 48 (pExp I 43 (pExp I 32 p 0).1 (pExp I 32 p 0).2).1 (pExp I 43 (pExp I 32 p 0).1 (pExp I 32 p 0).2).2 = (0, (pExp I 43 (pExp I 32 p 0).1 (pExp I 32 p 0).2).1, 1) := by rw [e3]; exact pN_n1
              rw [e4]
              exact ⟨by rfl, (hf2.tr hf11), hx9⟩
            · have hx9 := hx12
              have eS : (pSign I (pExp I 32 p 0).1 (pExp I 32 p 0).2) = (1, (pExp I 32 p 0).1, 1) := by unfold pSign; rw [if_neg (fun z => by omega), hB, pExp_n1]
              have e2 : pExp I 43 (pExp I 32 p 0).1 (pExp I 32 p 0).2 = ((pExp I 32 p 0).1, 1) := by rw [hB]; exact pExp_n1
              rw [e2] at hx9
              rw [eS]
              rw [pN_n1]
              exact ⟨by first | rfl | (dsimp only; rw [show (-nI 0 : Int32) = 1 * nI 0 by decide]), (hf2.tr hf11), hx9⟩
          · exact absurd h_53_22 (by decide)
      · exact absurd h_23_9 (by decide)
    · refine z_iconst (v := nI 1) dX13_shift_15 rfl ?_
      refine z_goto (tgt := 20) dX13_shift_16 (by decide) ?_
      refine z_istore_n (lv' := [(0, .ref (za g b)), (1, .int (nI (1)))]) dX13_shift_20 (by decide) rfl ?_
      refine z_aload_n dX13_shift_21 rfl ?_
      refine z_iload_n dX13_shift_22 rfl ?_
      refine z_if_eq_n (a := 1) (tgt := 31) dX13_shift_23 (by decide) (by omega) (fun h_23_23 => ?_) (fun h_23_23 => ?_)
      · exact absurd h_23_23 (by decide)
      · refine z_bipush (v := nI 45) dX13_shift_26 rfl ?_
        refine z_goto (tgt := 33) dX13_shift_28 (by decide) ?_
        refine z_callR (As := [.int (nI (45))]) (rest := []) (b := b) (ci := 12) (v := none) (R2 := zR 1 0) dX13_shift_33 kV_RX13_200 rfl ⟨⟨by decide, by decide⟩, by decide, by decide⟩ (by omega) hx3.ce rfl rfl rfl (Nat.le_of_ble_eq_true rfl) rfl (c_X13_mark (p := (pExp I 32 (p) (0)).1) (br := (pExp I 32 (p) (0)).2) (c := 45) h0 hx3 htx (by omega) (by omega) (by omega)) (fun w24 pw24 => ?_)
        obtain ⟨hf25, hx26⟩ := pw24
        have hpe27 := pExp_in (I := I) (c := 45) (p := (pExp I 32 (p) (0)).1) (br := (pExp I 32 (p) (0)).2) (by omega) (by omega)
        refine z_aload_n dX13_shift_36 rfl ?_
        refine z_getf (j := b) dX13_shift_37 kF_RX13_193 rfl (by omega) hx26.ce rfl ?_
        refine z_if_eq_n (a := (pExp I 45 ((pExp I 32 (p) (0)).1) ((pExp I 32 (p) (0)).2)).2) (tgt := 47) dX13_shift_40 (by decide) (by omega) (fun h_40_28 => ?_) (fun h_40_28 => ?_)
        · refine z_aload_n dX13_shift_47 rfl ?_
          refine z_callR (As := []) (rest := []) (b := b) (ci := 12) (v := some (.int (nI ((pN I 48 ((pExp I 45 ((pExp I 32 (p) (0)).1) ((pExp I 32 (p) (0)).2)).1) ((pExp I 45 ((pExp I 32 (p) (0)).1) ((pExp I 32 (p) (0)).2)).2)).1)))) (R2 := zR 1 0) dX13_shift_48 kV_RX13_203 rfl ⟨⟨by decide, by decide⟩, by decide, by decide⟩ (by omega) hx26.ce rfl rfl rfl (Nat.le_of_ble_eq_true rfl) rfl (c_X13_digits (p := (pExp I 45 ((pExp I 32 (p) (0)).1) ((pExp I 32 (p) (0)).2)).1) (br := (pExp I 45 ((pExp I 32 (p) (0)).1) ((pExp I 32 (p) (0)).2)).2) h0 hx26 htx (by omega) (by omega)) (fun w29 pw29 => ?_)
          obtain ⟨hf30, hx31⟩ := pw29
          have hpn32 := pN_in (I := I) (lo := 48) (p := (pExp I 45 ((pExp I 32 (p) (0)).1) ((pExp I 32 (p) (0)).2)).1) (br := (pExp I 45 ((pExp I 32 (p) (0)).1) ((pExp I 32 (p) (0)).2)).2) (by omega) (by omega)
          have hpb33 := pN_b (I := I) (lo := 48) (p := (pExp I 45 ((pExp I 32 (p) (0)).1) ((pExp I 32 (p) (0)).2)).1) (br := (pExp I 45 ((pExp I 32 (p) (0)).1) ((pExp I 32 (p) (0)).2)).2)
          have hpl34 := pN_le (I := I) (lo := 48) (p := (pExp I 45 ((pExp I 32 (p) (0)).1) ((pExp I 32 (p) (0)).2)).1) (br := (pExp I 45 ((pExp I 32 (p) (0)).1) ((pExp I 32 (p) (0)).2)).2) (by omega)
          refine z_istore_n (lv' := [(0, .ref (za g b)), (1, .int (nI (1))), (2, .int (nI ((pN I 48 ((pExp I 45 ((pExp I 32 (p) (0)).1) ((pExp I 32 (p) (0)).2)).1) ((pExp I 45 ((pExp I 32 (p) (0)).1) ((pExp I 32 (p) (0)).2)).2)).1)))]) dX13_shift_51 (by decide) rfl ?_
          refine z_iload_n dX13_shift_52 rfl ?_
          refine z_if_eq_n (a := 1) (tgt := 61) dX13_shift_53 (by decide) (by omega) (fun h_53_35 => ?_) (fun h_53_35 => ?_)
          · exact absurd h_53_35 (by decide)
          · refine z_iload_n dX13_shift_56 rfl ?_
            refine z_ineg dX13_shift_57 ?_
            refine z_goto (tgt := 62) dX13_shift_58 (by decide) ?_
            refine z_iret dX13_shift_62 rfl (by decide) (by decide) ?_
            have hbb : (pExp I 32 p 0).2 = 0 ∨ (pExp I 32 p 0).2 = 1 := by omega
            rcases hbb with hB | hB
            · have hx9 := hx31
              have eS : (pSign I (pExp I 32 p 0).1 (pExp I 32 p 0).2) = (-1, (pExp I 32 p 0).1 + 1, 0) := by unfold pSign; rw [if_pos ⟨hB, by omega⟩]
              have e2 : pExp I 45 (pExp I 32 p 0).1 (pExp I 32 p 0).2 = ((pExp I 32 p 0).1 + 1, 0) := by rw [hB]; exact pExp_y (by omega)
              rw [e2] at hx9
              rw [eS]
              rw [e2]
              exact ⟨by dsimp only; rw [Int32.neg_mul, Int32.one_mul], ((hf2.tr hf25).tr hf30), hx9⟩
            · exfalso
              have e2 : pExp I 45 (pExp I 32 p 0).1 (pExp I 32 p 0).2 = ((pExp I 32 p 0).1, 1) := by rw [hB]; exact pExp_n1
              rw [e2] at h_40_28
              exact absurd (show (1 : Nat) = 0 from h_40_28) (by decide)
        · refine z_iconst (v := nI 0) dX13_shift_43 rfl ?_
          refine z_goto (tgt := 51) dX13_shift_44 (by decide) ?_
          refine z_istore_n (lv' := [(0, .ref (za g b)), (1, .int (nI (1))), (2, .int (nI (0)))]) dX13_shift_51 (by decide) rfl ?_
          refine z_iload_n dX13_shift_52 rfl ?_
          refine z_if_eq_n (a := 1) (tgt := 61) dX13_shift_53 (by decide) (by omega) (fun h_53_36 => ?_) (fun h_53_36 => ?_)
          · exact absurd h_53_36 (by decide)
          · refine z_iload_n dX13_shift_56 rfl ?_
            refine z_ineg dX13_shift_57 ?_
            refine z_goto (tgt := 62) dX13_shift_58 (by decide) ?_
            refine z_iret dX13_shift_62 rfl (by decide) (by decide) ?_
            have hbb : (pExp I 32 p 0).2 = 0 ∨ (pExp I 32 p 0).2 = 1 := by omega
            rcases hbb with hB | hB
            · exfalso
              have e2 : pExp I 45 (pExp I 32 p 0).1 (pExp I 32 p 0).2 = ((pExp I 32 p 0).1 + 1, 0) := by rw [hB]; exact pExp_y (by omega)
              rw [e2] at h_40_28
              exact h_40_28 rfl
            · have hx9 := hx26
              have eS : (pSign I (pExp I 32 p 0).1 (pExp I 32 p 0).2) = (1, (pExp I 32 p 0).1, 1) := by unfold pSign; rw [if_neg (fun z => by omega), hB, pExp_n1]
              have e2 : pExp I 45 (pExp I 32 p 0).1 (pExp I 32 p 0).2 = ((pExp I 32 p 0).1, 1) := by rw [hB]; exact pExp_n1
              rw [e2] at hx9
              rw [eS]
              rw [pN_n1]
              exact ⟨by first | rfl | (dsimp only; rw [show (-nI 0 : Int32) = 1 * nI 0 by decide]), (hf2.tr hf25), hx9⟩
  · have hgz37 : I.getD ((pExp I 32 (p) (0)).1) 0 = 0 := gD_ge (by omega)
    have hm138 : (-1 : Int32).toInt = -1 := by decide
    refine z_callE (As := []) (rest := []) (b := b) (ci := 12) (v := some (.int (-1))) (R2 := zR 0 0) dX13_shift_7 kV_RX13_197 rfl ⟨⟨by decide, by decide⟩, by decide, by decide⟩ (by omega) hx3.ce rfl rfl rfl (Nat.le_of_ble_eq_true rfl) rfl (c_X13_sign_n (p := (pExp I 32 (p) (0)).1) h0 hx3 htx (by omega) hc5) ?_
    refine z_bipush (v := nI 45) dX13_shift_10 rfl ?_
    have hk41 : (-1 : Int32).toInt = -1 := by decide
    have hk42 := nI_toInt (n := 45) (by omega)
    refine z_icmp_ne_z (tgt := 19) dX13_shift_12 (by decide) (fun h_12_40 => ?_) (fun h_12_40 => ?_)
    · refine z_iconst (v := nI 0) dX13_shift_19 rfl ?_
      refine z_istore_n (lv' := [(0, .ref (za g b)), (1, .int (nI (0)))]) dX13_shift_20 (by decide) rfl ?_
      refine z_aload_n dX13_shift_21 rfl ?_
      refine z_iload_n dX13_shift_22 rfl ?_
      refine z_if_eq_n (a := 0) (tgt := 31) dX13_shift_23 (by decide) (by omega) (fun h_23_43 => ?_) (fun h_23_43 => ?_)
      · refine z_bipush (v := nI 43) dX13_shift_31 rfl ?_
        refine z_callR (As := [.int (nI (43))]) (rest := []) (b := b) (ci := 12) (v := none) (R2 := zR 1 0) dX13_shift_33 kV_RX13_200 rfl ⟨⟨by decide, by decide⟩, by decide, by decide⟩ (by omega) hx3.ce rfl rfl rfl (Nat.le_of_ble_eq_true rfl) rfl (c_X13_mark (p := (pExp I 32 (p) (0)).1) (br := (pExp I 32 (p) (0)).2) (c := 43) h0 hx3 htx (by omega) (by omega) (by omega)) (fun w44 pw44 => ?_)
        obtain ⟨hf45, hx46⟩ := pw44
        have hpe47 := pExp_in (I := I) (c := 43) (p := (pExp I 32 (p) (0)).1) (br := (pExp I 32 (p) (0)).2) (by omega) (by omega)
        refine z_aload_n dX13_shift_36 rfl ?_
        refine z_getf (j := b) dX13_shift_37 kF_RX13_193 rfl (by omega) hx46.ce rfl ?_
        refine z_if_eq_n (a := (pExp I 43 ((pExp I 32 (p) (0)).1) ((pExp I 32 (p) (0)).2)).2) (tgt := 47) dX13_shift_40 (by decide) (by omega) (fun h_40_48 => ?_) (fun h_40_48 => ?_)
        · refine z_aload_n dX13_shift_47 rfl ?_
          refine z_callR (As := []) (rest := []) (b := b) (ci := 12) (v := some (.int (nI ((pN I 48 ((pExp I 43 ((pExp I 32 (p) (0)).1) ((pExp I 32 (p) (0)).2)).1) ((pExp I 43 ((pExp I 32 (p) (0)).1) ((pExp I 32 (p) (0)).2)).2)).1)))) (R2 := zR 1 0) dX13_shift_48 kV_RX13_203 rfl ⟨⟨by decide, by decide⟩, by decide, by decide⟩ (by omega) hx46.ce rfl rfl rfl (Nat.le_of_ble_eq_true rfl) rfl (c_X13_digits (p := (pExp I 43 ((pExp I 32 (p) (0)).1) ((pExp I 32 (p) (0)).2)).1) (br := (pExp I 43 ((pExp I 32 (p) (0)).1) ((pExp I 32 (p) (0)).2)).2) h0 hx46 htx (by omega) (by omega)) (fun w49 pw49 => ?_)
          obtain ⟨hf50, hx51⟩ := pw49
          have hpn52 := pN_in (I := I) (lo := 48) (p := (pExp I 43 ((pExp I 32 (p) (0)).1) ((pExp I 32 (p) (0)).2)).1) (br := (pExp I 43 ((pExp I 32 (p) (0)).1) ((pExp I 32 (p) (0)).2)).2) (by omega) (by omega)
          have hpb53 := pN_b (I := I) (lo := 48) (p := (pExp I 43 ((pExp I 32 (p) (0)).1) ((pExp I 32 (p) (0)).2)).1) (br := (pExp I 43 ((pExp I 32 (p) (0)).1) ((pExp I 32 (p) (0)).2)).2)
          have hpl54 := pN_le (I := I) (lo := 48) (p := (pExp I 43 ((pExp I 32 (p) (0)).1) ((pExp I 32 (p) (0)).2)).1) (br := (pExp I 43 ((pExp I 32 (p) (0)).1) ((pExp I 32 (p) (0)).2)).2) (by omega)
          refine z_istore_n (lv' := [(0, .ref (za g b)), (1, .int (nI (0))), (2, .int (nI ((pN I 48 ((pExp I 43 ((pExp I 32 (p) (0)).1) ((pExp I 32 (p) (0)).2)).1) ((pExp I 43 ((pExp I 32 (p) (0)).1) ((pExp I 32 (p) (0)).2)).2)).1)))]) dX13_shift_51 (by decide) rfl ?_
          refine z_iload_n dX13_shift_52 rfl ?_
          refine z_if_eq_n (a := 0) (tgt := 61) dX13_shift_53 (by decide) (by omega) (fun h_53_55 => ?_) (fun h_53_55 => ?_)
          · refine z_iload_n dX13_shift_61 rfl ?_
            refine z_iret dX13_shift_62 rfl (by decide) (by decide) ?_
            have hbb : (pExp I 32 p 0).2 = 0 ∨ (pExp I 32 p 0).2 = 1 := by omega
            rcases hbb with hB | hB
            · have hx9 := hx51
              have eS : (pSign I (pExp I 32 p 0).1 (pExp I 32 p 0).2) = (1, pExp I 43 (pExp I 32 p 0).1 (pExp I 32 p 0).2) := by unfold pSign; rw [if_neg (fun z => by omega)]
              rw [eS]
              exact ⟨by dsimp only; rw [Int32.one_mul], ((hf2.tr hf45).tr hf50), hx9⟩
            · exfalso
              have e2 : pExp I 43 (pExp I 32 p 0).1 (pExp I 32 p 0).2 = ((pExp I 32 p 0).1, 1) := by rw [hB]; exact pExp_n1
              rw [e2] at h_40_48
              exact absurd (show (1 : Nat) = 0 from h_40_48) (by decide)
          · exact absurd h_53_55 (by decide)
        · refine z_iconst (v := nI 0) dX13_shift_43 rfl ?_
          refine z_goto (tgt := 51) dX13_shift_44 (by decide) ?_
          refine z_istore_n (lv' := [(0, .ref (za g b)), (1, .int (nI (0))), (2, .int (nI (0)))]) dX13_shift_51 (by decide) rfl ?_
          refine z_iload_n dX13_shift_52 rfl ?_
          refine z_if_eq_n (a := 0) (tgt := 61) dX13_shift_53 (by decide) (by omega) (fun h_53_56 => ?_) (fun h_53_56 => ?_)
          · refine z_iload_n dX13_shift_61 rfl ?_
            refine z_iret dX13_shift_62 rfl (by decide) (by decide) ?_
            have hbb : (pExp I 32 p 0).2 = 0 ∨ (pExp I 32 p 0).2 = 1 := by omega
            rcases hbb with hB | hB
            · have hx9 := hx46
              have eS : (pSign I (pExp I 32 p 0).1 (pExp I 32 p 0).2) = (1, pExp I 43 (pExp I 32 p 0).1 (pExp I 32 p 0).2) := by unfold pSign; rw [if_neg (fun z => by omega)]
              rw [eS]
              have e3 : (pExp I 43 (pExp I 32 p 0).1 (pExp I 32 p 0).2).2 = 1 := by omega
              rw [e3] at hx9
              have e4 : pN I 48 (pExp I 43 (pExp I 32 p 0).1 (pExp I 32 p 0).2).1 (pExp I 43 (pExp I 32 p 0).1 (pExp I 32 p 0).2).2 = (0, (pExp I 43 (pExp I 32 p 0).1 (pExp I 32 p 0).2).1, 1) := by rw [e3]; exact pN_n1
              rw [e4]
              exact ⟨by rfl, (hf2.tr hf45), hx9⟩
            · have hx9 := hx46
              have eS : (pSign I (pExp I 32 p 0).1 (pExp I 32 p 0).2) = (1, (pExp I 32 p 0).1, 1) := by unfold pSign; rw [if_neg (fun z => by omega), hB, pExp_n1]
              have e2 : pExp I 43 (pExp I 32 p 0).1 (pExp I 32 p 0).2 = ((pExp I 32 p 0).1, 1) := by rw [hB]; exact pExp_n1
              rw [e2] at hx9
              rw [eS]
              rw [pN_n1]
              exact ⟨by first | rfl | (dsimp only; rw [show (-nI 0 : Int32) = 1 * nI 0 by decide]), (hf2.tr hf45), hx9⟩
          · exact absurd h_53_56 (by decide)
      · exact absurd h_23_43 (by decide)
    · refine z_iconst (v := nI 1) dX13_shift_15 rfl ?_
      refine z_goto (tgt := 20) dX13_shift_16 (by decide) ?_
      refine z_istore_n (lv' := [(0, .ref (za g b)), (1, .int (nI (1)))]) dX13_shift_20 (by decide) rfl ?_
      refine z_aload_n dX13_shift_21 rfl ?_
      refine z_iload_n dX13_shift_22 rfl ?_
      refine z_if_eq_n (a := 1) (tgt := 31) dX13_shift_23 (by decide) (by omega) (fun h_23_57 => ?_) (fun h_23_57 => ?_)
      · exact absurd h_23_57 (by decide)
      · refine z_bipush (v := nI 45) dX13_shift_26 rfl ?_
        refine z_goto (tgt := 33) dX13_shift_28 (by decide) ?_
        refine z_callR (As := [.int (nI (45))]) (rest := []) (b := b) (ci := 12) (v := none) (R2 := zR 1 0) dX13_shift_33 kV_RX13_200 rfl ⟨⟨by decide, by decide⟩, by decide, by decide⟩ (by omega) hx3.ce rfl rfl rfl (Nat.le_of_ble_eq_true rfl) rfl (c_X13_mark (p := (pExp I 32 (p) (0)).1) (br := (pExp I 32 (p) (0)).2) (c := 45) h0 hx3 htx (by omega) (by omega) (by omega)) (fun w58 pw58 => ?_)
        obtain ⟨hf59, hx60⟩ := pw58
        have hpe61 := pExp_in (I := I) (c := 45) (p := (pExp I 32 (p) (0)).1) (br := (pExp I 32 (p) (0)).2) (by omega) (by omega)
        refine z_aload_n dX13_shift_36 rfl ?_
        refine z_getf (j := b) dX13_shift_37 kF_RX13_193 rfl (by omega) hx60.ce rfl ?_
        refine z_if_eq_n (a := (pExp I 45 ((pExp I 32 (p) (0)).1) ((pExp I 32 (p) (0)).2)).2) (tgt := 47) dX13_shift_40 (by decide) (by omega) (fun h_40_62 => ?_) (fun h_40_62 => ?_)
        · refine z_aload_n dX13_shift_47 rfl ?_
          refine z_callR (As := []) (rest := []) (b := b) (ci := 12) (v := some (.int (nI ((pN I 48 ((pExp I 45 ((pExp I 32 (p) (0)).1) ((pExp I 32 (p) (0)).2)).1) ((pExp I 45 ((pExp I 32 (p) (0)).1) ((pExp I 32 (p) (0)).2)).2)).1)))) (R2 := zR 1 0) dX13_shift_48 kV_RX13_203 rfl ⟨⟨by decide, by decide⟩, by decide, by decide⟩ (by omega) hx60.ce rfl rfl rfl (Nat.le_of_ble_eq_true rfl) rfl (c_X13_digits (p := (pExp I 45 ((pExp I 32 (p) (0)).1) ((pExp I 32 (p) (0)).2)).1) (br := (pExp I 45 ((pExp I 32 (p) (0)).1) ((pExp I 32 (p) (0)).2)).2) h0 hx60 htx (by omega) (by omega)) (fun w63 pw63 => ?_)
          obtain ⟨hf64, hx65⟩ := pw63
          have hpn66 := pN_in (I := I) (lo := 48) (p := (pExp I 45 ((pExp I 32 (p) (0)).1) ((pExp I 32 (p) (0)).2)).1) (br := (pExp I 45 ((pExp I 32 (p) (0)).1) ((pExp I 32 (p) (0)).2)).2) (by omega) (by omega)
          have hpb67 := pN_b (I := I) (lo := 48) (p := (pExp I 45 ((pExp I 32 (p) (0)).1) ((pExp I 32 (p) (0)).2)).1) (br := (pExp I 45 ((pExp I 32 (p) (0)).1) ((pExp I 32 (p) (0)).2)).2)
          have hpl68 := pN_le (I := I) (lo := 48) (p := (pExp I 45 ((pExp I 32 (p) (0)).1) ((pExp I 32 (p) (0)).2)).1) (br := (pExp I 45 ((pExp I 32 (p) (0)).1) ((pExp I 32 (p) (0)).2)).2) (by omega)
          refine z_istore_n (lv' := [(0, .ref (za g b)), (1, .int (nI (1))), (2, .int (nI ((pN I 48 ((pExp I 45 ((pExp I 32 (p) (0)).1) ((pExp I 32 (p) (0)).2)).1) ((pExp I 45 ((pExp I 32 (p) (0)).1) ((pExp I 32 (p) (0)).2)).2)).1)))]) dX13_shift_51 (by decide) rfl ?_
          refine z_iload_n dX13_shift_52 rfl ?_
          refine z_if_eq_n (a := 1) (tgt := 61) dX13_shift_53 (by decide) (by omega) (fun h_53_69 => ?_) (fun h_53_69 => ?_)
          · exact absurd h_53_69 (by decide)
          · refine z_iload_n dX13_shift_56 rfl ?_
            refine z_ineg dX13_shift_57 ?_
            refine z_goto (tgt := 62) dX13_shift_58 (by decide) ?_
            refine z_iret dX13_shift_62 rfl (by decide) (by decide) ?_
            exfalso; omega
        · refine z_iconst (v := nI 0) dX13_shift_43 rfl ?_
          refine z_goto (tgt := 51) dX13_shift_44 (by decide) ?_
          refine z_istore_n (lv' := [(0, .ref (za g b)), (1, .int (nI (1))), (2, .int (nI (0)))]) dX13_shift_51 (by decide) rfl ?_
          refine z_iload_n dX13_shift_52 rfl ?_
          refine z_if_eq_n (a := 1) (tgt := 61) dX13_shift_53 (by decide) (by omega) (fun h_53_70 => ?_) (fun h_53_70 => ?_)
          · exact absurd h_53_70 (by decide)
          · refine z_iload_n dX13_shift_56 rfl ?_
            refine z_ineg dX13_shift_57 ?_
            refine z_goto (tgt := 62) dX13_shift_58 (by decide) ?_
            refine z_iret dX13_shift_62 rfl (by decide) (by decide) ?_
            exfalso; omega
