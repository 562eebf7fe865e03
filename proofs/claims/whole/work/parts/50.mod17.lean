/-! the reference: scripts -/
theorem pB_in {I : List Nat} {v p br : Nat} (hp : p ≤ I.length) (hb : br ≤ 1) : (pB I v p br).2.1 ≤ I.length ∧ (pB I v p br).2.2 ≤ 1 := by
  unfold pB
  by_cases c : 1 < vnum v
  · rw [if_pos c]; exact ⟨pN_in (by omega) (pExp_in (by omega) hp).1, pN_b⟩
  · rw [if_neg c]; exact ⟨hp, hb⟩
theorem pS_in {I : List Nat} {v p br : Nat} (hp : p ≤ I.length) : (pS I v p br).2.1 ≤ I.length := by
  have h1 := (pExp_in (I := I) (c := 32) (p := p) (br := br) (by omega) hp).1
  unfold pS
  by_cases c : v = 6
  · rw [if_pos c]
    unfold pSign
    by_cases c2 : (pExp I 32 p br).2 = 0 ∧ I.getD (pExp I 32 p br).1 0 = 45
    · rw [if_pos c2]
      show (pExp I 32 p br).1 + 1 ≤ _
      rcases Nat.lt_or_ge (pExp I 32 p br).1 I.length with q | q
      · exact q
      · have := gD_ge (L := I) q; omega
    · rw [if_neg c2]; exact (pExp_in (I := I) (c := 43) (by omega) h1).1
  · rw [if_neg c]; exact h1
theorem pC_in {I : List Nat} {v p br : Nat} (hp : p ≤ I.length) (hb : br ≤ 1) : (pC I v p br).2.1 ≤ I.length ∧ (pC I v p br).2.2 ≤ 1 := by
  unfold pC
  by_cases c : 2 < vnum v
  · rw [if_pos c]; exact ⟨pN_in (by omega) (pS_in hp), pN_b⟩
  · rw [if_neg c]; exact ⟨hp, hb⟩
theorem pCmd_in {I : List Nat} {p : Nat} (hp : p ≤ I.length) : (pCmd I p).2.1 ≤ I.length ∧ (pCmd I p).2.2 ≤ 1 := by
  unfold pCmd
  by_cases c : pVi I p < 0
  · rw [if_pos c]
    refine ⟨?_, Nat.le_refl _⟩
    show pVp I p ≤ _
    unfold pVp; rw [if_pos c]
    exact wm_in_max hp (Nat.le_refl _)
  · rw [if_neg c]
    have h1 := (pVp_5 (I := I) (p := p) (by omega) hp).2
    have hA : (pA I p).2.1 ≤ I.length ∧ (pA I p).2.2 ≤ 1 := ⟨pN_in (by omega) h1, pN_b⟩
    have hB := pB_in (I := I) (v := pX I p) hA.1 hA.2
    exact pC_in (I := I) (v := pX I p) hB.1 hB.2
theorem pCmd_one {I : List Nat} {p : Nat} (h : (pCmd I p).2.2 = 0) : (pCmd I p).1 = [(pCmd I p).1.getD 0 zc0] := by
  unfold pCmd at h ⊢
  by_cases c : pVi I p < 0
  · rw [if_pos c] at h; exact absurd (show (1 : Nat) = 0 from h) (by decide)
  · rw [if_neg c]; rfl
theorem pCmds_pre {I : List Nat} : ∀ {k p : Nat} {K : List zCmd}, ∃ R, (pCmds I k p K).1 = K ++ R
  | 0, p, K => ⟨[], by rw [pCmds, List.append_nil]⟩
  | k + 1, p, K => by
    rw [pCmds]
    split
    · obtain ⟨R, e⟩ := pCmds_pre (I := I) (k := k) (p := (pCmd I p).2.1 + 1) (K := K ++ (pCmd I p).1)
      exact ⟨(pCmd I p).1 ++ R, by rw [e, List.append_assoc]⟩
    · exact ⟨(pCmd I p).1, rfl⟩
theorem pCmds_ok {I : List Nat} {k p : Nat} {K : List zCmd} (h : (pCmds I (k + 1) p K).2.2 = 0) : (pCmd I p).2.2 = 0 ∧ ((pCmd I p).2.1 < I.length → I.getD (pCmd I p).2.1 0 = 59) := by
  rw [pCmds] at h
  by_cases c : (pCmd I p).2.2 = 0 ∧ I.getD (pCmd I p).2.1 0 = 59
  · exact ⟨c.1, fun _ => c.2⟩
  · rw [if_neg c] at h
    have h2 : (if (pCmd I p).2.1 < I.length then 1 else (pCmd I p).2.2) = 0 := h
    by_cases c2 : (pCmd I p).2.1 < I.length
    · rw [if_pos c2] at h2; exact absurd h2 (by decide)
    · rw [if_neg c2] at h2; exact ⟨h2, fun z => absurd z c2⟩
theorem scrGo_app : ∀ {A B : List zCmd} {i : Nat} {S : zSt}, scrGo (A ++ B) i S = if (scrGo A i S).1 = -1 then scrGo B (i + A.length) (scrGo A i S).2 else scrGo A i S
  | [], B, i, S => by rw [List.nil_append]; show _ = if (-1 : Int) = -1 then _ else _; rw [if_pos rfl]; rfl
  | c :: A, B, i, S => by
    rw [List.cons_append, scrGo, scrGo]
    by_cases h : spF c.1 c.2.1.toInt c.2.2.1.toInt c.2.2.2.toInt S = 0
    · rw [if_pos h, if_pos h, scrGo_app, List.length_cons, show i + 1 + A.length = i + (A.length + 1) by omega]
    · rw [if_neg h, if_neg h, if_neg (show ¬ ((i : Int) = -1) by omega)]
theorem scrGo_one {c : zCmd} {i : Nat} {S : zSt} : scrGo [c] i S = if spF c.1 c.2.1.toInt c.2.2.1.toInt c.2.2.2.toInt S = 0 then (-1, spS c.1 c.2.1.toInt c.2.2.1.toInt c.2.2.2.toInt S) else ((i : Int), S) := by
  rw [scrGo]; rfl

set_option maxRecDepth 100000 in
set_option maxHeartbeats 4000000 in
theorem c_X13_commands_0 {g : zGT} {w : zW} {b : Nat} {ch ea fa sv tn po ln kn wr : Int32} {fv fb fs fp fh ft fl fi : Nat → Int32} {I : List Nat} (h0 : zG0 g) (h : Mx g w b (nI 0) ch ea fa sv tn po (nI I.length) ln kn wr (nI 0) fv fb fs fp fh ft fl fi) (htx : TxR ft I) : zCt g mX13_commands (zR 5 0) [.ref (za g b)] w (fun o w' => ∃ (r : Int32) (fi' : Nat → Int32), o = .inl (some (.int r)) ∧ zFr w w' b (b + 11) ∧ Mx g w' b (nI 0) ch ea fa sv tn (nI (pCmds I 60 0 []).2.1) (nI I.length) ln kn (nI (pCmds I 60 0 []).2.2) (nI 0) fv fb fs fp fh ft fl (fi')) := by
  have hb := h.1
  have htl := htx.1
  refine zCt_of (by decide +kernel) h0 [(0, .ref (za g b))] rfl (Nat.le_of_ble_eq_true rfl) ?_
  have loop : ∀ (mm : Nat) (i p : Nat) (wi : zW) (K : List zCmd) (f9 : Nat → Int32), 60 - i < mm → (7 * i ≤ p) → (p ≤ I.length) → (i ≤ 9) → (zFr w wi b (b + 11)) → (Mx g wi b (nI 0) ch ea fa sv tn (nI ((pCmd I p).2.1)) (nI I.length) ln kn (nI ((pCmd I p).2.2)) (nI 0) fv fb fs fp fh ft fl f9) → zTr g mX13_commands (zR 5 0) 0 0 16 [(0, .ref (za g b)), (1, .int (nI (i + 1)))] [] wi (fun o w' => ∃ (r : Int32) (fi' : Nat → Int32), o = .inl (some (.int r)) ∧ zFr w w' b (b + 11) ∧ Mx g w' b (nI 0) ch ea fa sv tn (nI (pCmds I (60 - i) p K).2.1) (nI I.length) ln kn (nI (pCmds I (60 - i) p K).2.2) (nI 0) fv fb fs fp fh ft fl (fi')) := by
    intro mm
    induction mm with
    | zero => intros; omega
    | succ mm ih =>
      intro i p wi K f9 hm hpi hpl hi9 hfi hmi
      have hpc := pCmd_in (I := I) hpl
      refine z_aload_n dX13_commands_16 rfl ?_
      refine z_getf (j := b) dX13_commands_17 kF_RX13_193 rfl (by omega) hmi.ce rfl ?_
      refine z_if_ne_n (a := (pCmd I p).2.2) (tgt := 64) dX13_commands_20 (by decide) (by omega) (fun h_20_1 => ?_) (fun h_20_1 => ?_)
      · have hb1 : (pCmd I p).2.2 = 1 := by omega
        have eX : (pCmds I (60 - i) p K).2 = ((pCmd I p).2.1, 1) := by
          rw [show 60 - i = (60 - (i + 1)) + 1 by omega, pCmds, if_neg (fun z => by omega)]
          by_cases c : (pCmd I p).2.1 < I.length
          · rw [if_pos c]
          · rw [if_neg c, hb1]
        have hx9 := hmi
        rw [hb1] at hx9
        refine z_iload_n dX13_commands_64 rfl ?_
        refine z_iret dX13_commands_65 rfl (by decide) (by decide) ?_
        rw [eX]
        exact ⟨_, _, rfl, hfi, hx9⟩
      · refine z_aload_n dX13_commands_23 rfl ?_
        refine z_getf (j := b) dX13_commands_24 kF_RX13_47 rfl (by omega) hmi.ce rfl ?_
        refine z_if_ne_n (a := 0) (tgt := 64) dX13_commands_27 (by decide) (by omega) (fun h_27_2 => ?_) (fun h_27_2 => ?_)
        · exact absurd h_27_2 (by decide)
        · refine z_aload_n dX13_commands_30 rfl ?_
          refine z_getf (j := b) dX13_commands_31 kF_RX13_187 rfl (by omega) hmi.ce rfl ?_
          refine z_aload_n dX13_commands_34 rfl ?_
          refine z_getf (j := b) dX13_commands_35 kF_RX13_190 rfl (by omega) hmi.ce rfl ?_
          refine z_icmp_ge_n (a := (pCmd I p).2.1) (b := I.length) (tgt := 64) dX13_commands_38 (by decide) (by omega) (by omega) (fun h_38_3 => ?_) (fun h_38_3 => ?_)
          · have hb1 : (pCmd I p).2.2 = 0 := by omega
            have hgz : I.getD (pCmd I p).2.1 0 = 0 := gD_ge (by omega)
            have eX : (pCmds I (60 - i) p K).2 = ((pCmd I p).2.1, 0) := by
              rw [show 60 - i = (60 - (i + 1)) + 1 by omega, pCmds, if_neg (fun z => by omega), if_neg (by omega), hb1]
            have hx9 := hmi
            rw [hb1] at hx9
            refine z_iload_n dX13_commands_64 rfl ?_
            refine z_iret dX13_commands_65 rfl (by decide) (by decide) ?_
            rw [eX]
            exact ⟨_, _, rfl, hfi, hx9⟩
          · have hb1 : (pCmd I p).2.2 = 0 := by omega
            have hx9 := hmi
            rw [hb1] at hx9
            refine z_aload_n dX13_commands_41 rfl ?_
            refine z_bipush (v := nI 59) dX13_commands_42 rfl ?_
            refine z_callR (As := [.int (nI (59))]) (rest := []) (b := b) (ci := 12) (v := none) (R2 := zR 1 0) dX13_commands_44 kV_RX13_200 rfl ⟨⟨by decide, by decide⟩, by decide, by decide⟩ (by omega) hx9.ce rfl rfl rfl (Nat.le_of_ble_eq_true rfl) rfl (c_X13_mark (p := (pCmd I p).2.1) (br := 0) (c := 59) h0 hx9 htx (by omega) (by omega) (by omega)) (fun w54 pw54 => ?_)
            obtain ⟨hf55, hx56⟩ := pw54
            have hpe57 := pExp_in (I := I) (c := 59) (p := (pCmd I p).2.1) (br := 0) (by omega) (by omega)
            by_cases hsp : I.getD (pCmd I p).2.1 0 = 59
            · have e1 : pExp I 59 (pCmd I p).2.1 0 = ((pCmd I p).2.1 + 1, 0) := pExp_y hsp
              have hx8 := hx56
              rw [e1] at hx8
              have hadv := pCmd_adv hpl hb1
              refine z_aload_n dX13_commands_47 rfl ?_
              refine z_getf (j := b) dX13_commands_48 kF_RX13_193 rfl (by omega) hx8.ce rfl ?_
              refine z_if_ne_n (a := 0) (tgt := 58) dX13_commands_51 (by decide) (by omega) (fun h_51_108 => ?_) (fun h_51_108 => ?_)
              · exact absurd h_51_108 (by decide)
              · refine z_aload_n dX13_commands_54 rfl ?_
                refine z_callR (As := []) (rest := []) (b := b) (ci := 12) (v := none) (R2 := zR 4 0) dX13_commands_55 kV_RX13_228 rfl ⟨⟨by decide, by decide⟩, by decide, by decide⟩ (by omega) hx8.ce rfl rfl rfl (Nat.le_of_ble_eq_true rfl) rfl (c_X13_command_0 (S := zs0) (p := (pCmd I p).2.1 + 1) h0 hx8 htx (by omega)) (fun w109 pw109 => ?_)
                obtain ⟨hf110, g111, hx112⟩ := pw109
                refine z_iinc_n (n := 1) (a := i + 1) (lv' := [(0, .ref (za g b)), (1, .int (nI (i + 1 + 1)))]) dX13_commands_58 rfl (by decide) rfl ?_
                refine z_goto (tgt := 16) dX13_commands_61 (by decide) ?_
                have eX : (pCmds I (60 - i) p K) = pCmds I (60 - (i + 1)) ((pCmd I p).2.1 + 1) (K ++ (pCmd I p).1) := by rw [show 60 - i = (60 - (i + 1)) + 1 by omega, pCmds, if_pos ⟨hb1, hsp⟩]
                rw [eX]
                exact ih (i + 1) ((pCmd I p).2.1 + 1) _ (K ++ (pCmd I p).1) _ (by omega) (by omega) (by omega) (by omega) ((hfi.tr hf55).tr hf110) hx112
            · have e1 : pExp I 59 (pCmd I p).2.1 0 = ((pCmd I p).2.1, 1) := by unfold pExp; rw [if_neg (fun z => hsp z.2)]
              have hx8 := hx56
              rw [e1] at hx8
              refine z_aload_n dX13_commands_47 rfl ?_
              refine z_getf (j := b) dX13_commands_48 kF_RX13_193 rfl (by omega) hx8.ce rfl ?_
              refine z_if_ne_n (a := 1) (tgt := 58) dX13_commands_51 (by decide) (by omega) (fun h_51_208 => ?_) (fun h_51_208 => ?_)
              · refine z_iinc_n (n := 1) (a := i + 1) (lv' := [(0, .ref (za g b)), (1, .int (nI (i + 1 + 1)))]) dX13_commands_58 rfl (by decide) rfl ?_
                refine z_goto (tgt := 16) dX13_commands_61 (by decide) ?_
                refine z_aload_n dX13_commands_16 rfl ?_
                refine z_getf (j := b) dX13_commands_17 kF_RX13_193 rfl (by omega) hx8.ce rfl ?_
                refine z_if_ne_n (a := 1) (tgt := 64) dX13_commands_20 (by decide) (by omega) (fun h_20_209 => ?_) (fun h_20_209 => ?_)
                · refine z_iload_n dX13_commands_64 rfl ?_
                  refine z_iret dX13_commands_65 rfl (by decide) (by decide) ?_
                  have eX : (pCmds I (60 - i) p K).2 = ((pCmd I p).2.1, 1) := by rw [show 60 - i = (60 - (i + 1)) + 1 by omega, pCmds, if_neg (fun z => hsp z.2), if_pos (by omega)]
                  rw [eX]
                  exact ⟨_, _, rfl, (hfi.tr hf55), hx8⟩
                · exact absurd h_20_209 (by decide)
              · exact absurd h_51_208 (by decide)
  refine z_aload_n dX13_commands_0 rfl ?_
  refine z_iconst (v := nI 0) dX13_commands_1 rfl ?_
  refine z_putf (j := b) dX13_commands_2 kF_RX13_187 zt_12_16 rfl (by omega) h.ce rfl rfl (Nat.le_of_ble_eq_true rfl) ?_
  obtain ⟨w1, ew2⟩ : ∃ wz : zW, wz = va_up w (b) (zO 12 [.int (nI (0)), .int (ch), .int (ea), .int (fa), .int (sv), .ref (za g (b + 1)), .ref (za g (b + 2)), .ref (za g (b + 3)), .ref (za g (b + 4)), .ref (za g (b + 5)), .ref (za g (b + 6)), .ref (za g (b + 7)), .ref (za g (b + 8)), .ref (za g (b + 9)), .ref (za g (b + 10)), .int (tn), .int (nI (0)), .int (nI (I.length)), .int (ln), .int (kn), .int (wr), .int (nI (0))]) := ⟨_, rfl⟩
  refine z_weq (w' := w1) ew2.symm ?_
  have hf3 : zFr w w1 (b) (b + 1) := by rw [ew2]; exact zFr.up (by omega)
  have hw4 : w1 (b) = zO 12 [.int (nI (0)), .int (ch), .int (ea), .int (fa), .int (sv), .ref (za g (b + 1)), .ref (za g (b + 2)), .ref (za g (b + 3)), .ref (za g (b + 4)), .ref (za g (b + 5)), .ref (za g (b + 6)), .ref (za g (b + 7)), .ref (za g (b + 8)), .ref (za g (b + 9)), .ref (za g (b + 10)), .int (tn), .int (nI (0)), .int (nI (I.length)), .int (ln), .int (kn), .int (wr), .int (nI (0))] := by rw [ew2, zup_s]
  have hx5 := h.setC hf3 hw4
  refine z_aload_n dX13_commands_5 rfl ?_
  refine z_iconst (v := nI 0) dX13_commands_6 rfl ?_
  refine z_putf (j := b) dX13_commands_7 kF_RX13_193 zt_12_20 rfl (by omega) hx5.ce rfl rfl (Nat.le_of_ble_eq_true rfl) ?_
  obtain ⟨w6, ew7⟩ : ∃ wz : zW, wz = va_up w1 (b) (zO 12 [.int (nI (0)), .int (ch), .int (ea), .int (fa), .int (sv), .ref (za g (b + 1)), .ref (za g (b + 2)), .ref (za g (b + 3)), .ref (za g (b + 4)), .ref (za g (b + 5)), .ref (za g (b + 6)), .ref (za g (b + 7)), .ref (za g (b + 8)), .ref (za g (b + 9)), .ref (za g (b + 10)), .int (tn), .int (nI (0)), .int (nI (I.length)), .int (ln), .int (kn), .int (nI (0)), .int (nI (0))]) := ⟨_, rfl⟩
  refine z_weq (w' := w6) ew7.symm ?_
  have hf8 : zFr w1 w6 (b) (b + 1) := by rw [ew7]; exact zFr.up (by omega)
  have hw9 : w6 (b) = zO 12 [.int (nI (0)), .int (ch), .int (ea), .int (fa), .int (sv), .ref (za g (b + 1)), .ref (za g (b + 2)), .ref (za g (b + 3)), .ref (za g (b + 4)), .ref (za g (b + 5)), .ref (za g (b + 6)), .ref (za g (b + 7)), .ref (za g (b + 8)), .ref (za g (b + 9)), .ref (za g (b + 10)), .int (tn), .int (nI (0)), .int (nI (I.length)), .int (ln), .int (kn), .int (nI (0)), .int (nI (0))] := by rw [ew7, zup_s]
  have hx10 := hx5.setC hf8 hw9
  refine z_iconst (v := nI 1) dX13_commands_10 rfl ?_
  refine z_istore_n (lv' := [(0, .ref (za g b)), (1, .int (nI (1)))]) dX13_commands_11 (by decide) rfl ?_
  refine z_aload_n dX13_commands_12 rfl ?_
  refine z_callR (As := []) (rest := []) (b := b) (ci := 12) (v := none) (R2 := zR 4 0) dX13_commands_13 kV_RX13_228 rfl ⟨⟨by decide, by decide⟩, by decide, by decide⟩ (by omega) hx10.ce rfl rfl rfl (Nat.le_of_ble_eq_true rfl) rfl (c_X13_command_0 (S := zs0) (p := 0) h0 hx10 htx (by omega)) (fun w11 pw11 => ?_)
  obtain ⟨hf12, g13, hx14⟩ := pw11
  exact loop 61 0 0 _ [] _ (by omega) (Nat.zero_le _) (Nat.zero_le _) (by omega) (((hf3.wk (by omega) (by omega)).tr (hf8.wk (by omega) (by omega))).tr hf12) hx14
