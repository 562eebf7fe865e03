/-! the reference: loading -/
set_option maxRecDepth 100000 in
set_option maxHeartbeats 4000000 in
theorem l_X13_load118 {g : zGT} {w wi : zW} {b : Nat} {dg : Int32} {fv fb fs fp fh ft fl fi : Nat → Int32} {S : zSt} {Hs : List zSt} {Sn : Option zSt} {I O : List Nat} {ep fc : Int32} {t P B : Nat} {T : List Nat} (h0 : zG0 g) (hfi0 : zFr w wi b (b + 11)) (h : Mx g wi b (nI 0) (nI Hs.length) ep fc (nI (if Sn.isSome then 1 else 0)) (nI 0) (nI P) (nI I.length) (nI O.length) (nI t) (nI B) dg fv fb fs fp fh ft fl fi) (hv : VS fv S) (hvb : VS fb S) (hp : PS fp Hs) (hsn : ∀ Y, Sn = some Y → VS fs Y) (hou : OuR fl O) (hep : -1 ≤ ep.toInt ∧ -1 ≤ fc.toInt) (hT : HR fh T t) (ht2 : t ≤ 200) (hT9 : ∀ k, gT T k ≤ 9) : zTr g mX13_load (zR 3 0) 0 0 118 [(0, .ref (za g b))] [] wi (fun o w' => ∃ r, o = .inl (some (.int r)) ∧ zFr w w' b (b + 11) ∧ (∃ f' fp', Mx g w' b (nI 0) (nI ((S :: Hs).take 8).length) ep fc (nI (if Sn.isSome then 1 else 0)) (nI 0) (nI P) (nI I.length) (nI O.length) (nI t) (nI B) dg (f') fb fs (fp') fh ft fl fi ∧ VS f' (T, ([] : List Nat), S.2.2) ∧ PS fp' ((S :: Hs).take 8)) ∧ r = nI T.length) := by
  have hb := h.1
  have hT1 := hT.1
  have htt : T.length = t := by omega
  have loop2 : ∀ (mm : Nat) (i : Nat) (wi : zW) (f9 : Nat → Int32), 7 - i < mm → (i ≤ 6) → (zFr w wi b (b + 11)) → (Mx g wi b (nI 0) (nI Hs.length) ep fc (nI (if Sn.isSome then 1 else 0)) (nI 0) (nI P) (nI I.length) (nI O.length) (nI t) (nI B) dg f9 fb fs fp fh ft fl fi) → (∀ k, k < 410 → f9 k = (if 204 ≤ k ∧ k < 204 + i then nI 0 else (if 4 ≤ k ∧ k < 4 + 200 then nI (gT T (k - 4)) else fv k))) → zTr g mX13_load (zR 3 0) 0 0 161 [(0, .ref (za g b)), (1, .int (nI (i)))] [] wi (fun o w' => ∃ r, o = .inl (some (.int r)) ∧ zFr w w' b (b + 11) ∧ (∃ f' fp', Mx g w' b (nI 0) (nI ((S :: Hs).take 8).length) ep fc (nI (if Sn.isSome then 1 else 0)) (nI 0) (nI P) (nI I.length) (nI O.length) (nI t) (nI B) dg (f') fb fs (fp') fh ft fl fi ∧ VS f' (T, ([] : List Nat), S.2.2) ∧ PS fp' ((S :: Hs).take 8)) ∧ r = nI T.length) := by
    intro mm
    induction mm with
    | zero => intros; omega
    | succ mm ih =>
      intro i wi f9 hm hin hfi hmi hi
      refine z_iload_n dX13_load_161 rfl ?_
      refine z_bipush (v := nI 6) dX13_load_162 rfl ?_
      refine z_icmp_ge_n (a := i) (b := 6) (tgt := 184) dX13_load_164 (by decide) (by omega) (by omega) (fun h_164_1 => ?_) (fun h_164_1 => ?_)
      · refine z_aload_n dX13_load_184 rfl ?_
        refine z_getf (j := b) dX13_load_185 kF_RX13_16 rfl (by omega) hmi.ce rfl ?_
        refine z_iconst (v := nI 1) dX13_load_188 rfl ?_
        refine z_iconst (v := nI 0) dX13_load_189 rfl ?_
        refine z_iast_n (j := b + 1) (N := 410) (a := 1) (f := f9) dX13_load_190 (by omega) hmi.r1 (by omega) (by omega) ?_
        obtain ⟨w2, ew3⟩ : ∃ wz : zW, wz = va_up wi (b + 1) (zI g 410 (upd (f9) (1) ((nI (0))))) := ⟨_, rfl⟩
        refine z_weq (w' := w2) ew3.symm ?_
        have hf4 : zFr wi w2 (b + 1) (b + 1 + 1) := by rw [ew3]; exact zFr.up (by omega)
        have hw5 : w2 (b + 1) = zI g 410 (upd (f9) (1) ((nI (0)))) := by rw [ew3, zup_s]
        have hx6 := hmi.setV hf4 hw5
        refine z_aload_n dX13_load_191 rfl ?_
        refine z_getf (j := b) dX13_load_192 kF_RX13_16 rfl (by omega) hx6.ce rfl ?_
        refine z_iconst (v := nI 0) dX13_load_195 rfl ?_
        refine z_aload_n dX13_load_196 rfl ?_
        refine z_getf (j := b) dX13_load_197 kF_RX13_206 rfl (by omega) hx6.ce rfl ?_
        refine z_iast_n (j := b + 1) (N := 410) (a := 0) (f := upd (f9) (1) ((nI (0)))) dX13_load_200 (by omega) hx6.r1 (by omega) (by omega) ?_
        obtain ⟨w7, ew8⟩ : ∃ wz : zW, wz = va_up w2 (b + 1) (zI g 410 (upd (upd (f9) (1) ((nI (0)))) (0) ((nI (t))))) := ⟨_, rfl⟩
        refine z_weq (w' := w7) ew8.symm ?_
        have hf9 : zFr w2 w7 (b + 1) (b + 1 + 1) := by rw [ew8]; exact zFr.up (by omega)
        have hw10 : w7 (b + 1) = zI g 410 (upd (upd (f9) (1) ((nI (0)))) (0) ((nI (t)))) := by rw [ew8, zup_s]
        have hx11 := hx6.setV hf9 hw10
        obtain ⟨f9u, hf9u⟩ : ∃ z : Nat → Int32, z = upd (upd (f9) (1) ((nI (0)))) (0) ((nI (t))) := ⟨_, rfl⟩
        have hi9 : i = 6 := by omega
        subst hi9
        have hvn : VS f9u (T, ([] : List Nat), S.2.2) := by
          have hl2 := hv.len
          refine ⟨⟨by rw [hf9u]; show _ = nI T.length; rw [htt]; simp [upd], by rw [hf9u]; simp [upd], ?_, ?_⟩, fun k hk => ?_, fun m hm => absurd hm (Nat.not_lt_zero m), fun k hk => ?_, ⟨by show T.length ≤ 200; omega, hl2.2.1, Mo.nil⟩, hT9, hv.cle⟩
          · rw [hf9u]; simp only [upd]; rw [if_neg (by omega), if_neg (by omega), hi _ (by omega), if_neg (by omega), if_neg (by omega)]; exact hv.cls
          · rw [hf9u]; simp only [upd]; rw [if_neg (by omega), if_neg (by omega), hi _ (by omega), if_neg (by omega), if_neg (by omega)]; exact hv.trs
          · rw [hf9u]; simp only [upd]; rw [if_neg (by omega), if_neg (by omega), hi _ (by omega), if_neg (by omega), if_pos (by omega), show 4 + k - 4 = k by omega]
          · have hk2 : k < S.2.2.1.length := hk
            rw [hf9u]; simp only [upd]; rw [if_neg (by omega), if_neg (by omega), hi _ (by omega), if_neg (by omega), if_neg (by omega)]; exact hv.clip hk2
        rw [← hf9u] at hx11
        refine z_aload_n dX13_load_201 rfl ?_
        refine z_aload_n dX13_load_202 rfl ?_
        refine z_getf (j := b) dX13_load_203 kF_RX13_16 rfl (by omega) hx11.ce rfl ?_
        refine z_iconst (v := nI 0) dX13_load_206 rfl ?_
        refine z_iald_v (j := b + 1) (N := 410) (a := 0) (x := t) (f := f9u) dX13_load_207 (by omega) hx11.r1 (by omega) (by omega) (by rw [hf9u]; simp [upd]) ?_
        refine z_callR (As := [.int (nI (t))]) (rest := []) (b := b) (ci := 12) (v := some (.int (nI (t)))) (R2 := zR 1 0) dX13_load_208 kV_RX13_75 rfl ⟨⟨by decide, by decide⟩, by decide, by decide⟩ (by omega) hx11.ce rfl rfl rfl (Nat.le_of_ble_eq_true rfl) rfl (c_X13_ends_y (th := nI 0) (ch := nI 0) (S := S) (Hs := Hs) h0 hx11 hp hvb) (fun w12 pw12 => ?_)
        obtain ⟨hf13, g14, hx15, hp16⟩ := pw12
        refine z_iret dX13_load_211 rfl (by decide) (by decide) ?_
        exact ⟨_, rfl, (((hfi.tr (hf4.wk (by omega) (by omega))).tr (hf9.wk (by omega) (by omega))).tr hf13), ⟨f9u, _, hx15, hvn, hp16⟩, by rw [htt]⟩
      · refine z_aload_n dX13_load_167 rfl ?_
        refine z_getf (j := b) dX13_load_168 kF_RX13_16 rfl (by omega) hmi.ce rfl ?_
        refine z_sipush (v := nI 204) dX13_load_171 rfl ?_
        refine z_iload_n dX13_load_174 rfl ?_
        refine z_iadd_n (a := 204) (b := i) dX13_load_175 ?_
        refine z_iconst (v := nI 0) dX13_load_176 rfl ?_
        refine z_iast_n (j := b + 1) (N := 410) (a := (204) + (i)) (f := f9) dX13_load_177 (by omega) hmi.r1 (by omega) (by omega) ?_
        obtain ⟨w17, ew18⟩ : ∃ wz : zW, wz = va_up wi (b + 1) (zI g 410 (upd (f9) ((204) + (i)) ((nI (0))))) := ⟨_, rfl⟩
        refine z_weq (w' := w17) ew18.symm ?_
        have hf19 : zFr wi w17 (b + 1) (b + 1 + 1) := by rw [ew18]; exact zFr.up (by omega)
        have hw20 : w17 (b + 1) = zI g 410 (upd (f9) ((204) + (i)) ((nI (0)))) := by rw [ew18, zup_s]
        have hx21 := hmi.setV hf19 hw20
        refine z_iinc_n (n := 1) (a := i) (lv' := [(0, .ref (za g b)), (1, .int (nI (i + 1)))]) dX13_load_178 rfl (by decide) rfl ?_
        refine z_goto (tgt := 161) dX13_load_181 (by decide) ?_
        refine ih (i + 1) _ _ (by omega) (by omega) (hfi.tr (hf19.wk (by omega) (by omega))) hx21 (fun k hk => ?_)
        simp only [upd]
        by_cases c : k = 204 + i
        · rw [if_pos c, c]; rw [if_pos (by omega)]
        · rw [if_neg c, hi k hk]
          (repeat' split) <;> first | rfl | (exfalso; omega)
  have loop1 : ∀ (mm : Nat) (i : Nat) (wi : zW) (f9 : Nat → Int32), 201 - i < mm → (i ≤ 200) → (zFr w wi b (b + 11)) → (Mx g wi b (nI 0) (nI Hs.length) ep fc (nI (if Sn.isSome then 1 else 0)) (nI 0) (nI P) (nI I.length) (nI O.length) (nI t) (nI B) dg f9 fb fs fp fh ft fl fi) → (∀ k, k < 410 → f9 k = (if 4 ≤ k ∧ k < 4 + i then nI (gT T (k - 4)) else fv k)) → zTr g mX13_load (zR 3 0) 0 0 120 [(0, .ref (za g b)), (1, .int (nI (i)))] [] wi (fun o w' => ∃ r, o = .inl (some (.int r)) ∧ zFr w w' b (b + 11) ∧ (∃ f' fp', Mx g w' b (nI 0) (nI ((S :: Hs).take 8).length) ep fc (nI (if Sn.isSome then 1 else 0)) (nI 0) (nI P) (nI I.length) (nI O.length) (nI t) (nI B) dg (f') fb fs (fp') fh ft fl fi ∧ VS f' (T, ([] : List Nat), S.2.2) ∧ PS fp' ((S :: Hs).take 8)) ∧ r = nI T.length) := by
    intro mm
    induction mm with
    | zero => intros; omega
    | succ mm ih =>
      intro i wi f9 hm hin hfi hmi hi
      refine z_iload_n dX13_load_120 rfl ?_
      refine z_sipush (v := nI 200) dX13_load_121 rfl ?_
      refine z_icmp_ge_n (a := i) (b := 200) (tgt := 159) dX13_load_124 (by decide) (by omega) (by omega) (fun h_124_1 => ?_) (fun h_124_1 => ?_)
      · refine z_iconst (v := nI 0) dX13_load_159 rfl ?_
        refine z_istore_n (lv' := [(0, .ref (za g b)), (1, .int (nI (0)))]) dX13_load_160 (by decide) rfl ?_
        exact loop2 8 0 wi f9 (by omega) (Nat.zero_le _) hfi hmi (fun k hk => by rw [hi k hk, show i = 200 by omega, if_neg (show ¬ (204 ≤ k ∧ k < 204 + 0) by omega)])
      · refine z_aload_n dX13_load_127 rfl ?_
        refine z_getf (j := b) dX13_load_128 kF_RX13_16 rfl (by omega) hmi.ce rfl ?_
        refine z_iconst (v := nI 4) dX13_load_131 rfl ?_
        refine z_iload_n dX13_load_132 rfl ?_
        refine z_iadd_n (a := 4) (b := i) dX13_load_133 ?_
        refine z_iload_n dX13_load_134 rfl ?_
        refine z_aload_n dX13_load_135 rfl ?_
        refine z_getf (j := b) dX13_load_136 kF_RX13_206 rfl (by omega) hmi.ce rfl ?_
        refine z_icmp_ge_n (a := i) (b := t) (tgt := 151) dX13_load_139 (by decide) (by omega) (by omega) (fun h_139_2 => ?_) (fun h_139_2 => ?_)
        · refine z_iconst (v := nI 0) dX13_load_151 rfl ?_
          refine z_iast_n (j := b + 1) (N := 410) (a := (4) + (i)) (f := f9) dX13_load_152 (by omega) hmi.r1 (by omega) (by omega) ?_
          obtain ⟨w3, ew4⟩ : ∃ wz : zW, wz = va_up wi (b + 1) (zI g 410 (upd (f9) ((4) + (i)) ((nI (0))))) := ⟨_, rfl⟩
          refine z_weq (w' := w3) ew4.symm ?_
          have hf5 : zFr wi w3 (b + 1) (b + 1 + 1) := by rw [ew4]; exact zFr.up (by omega)
          have hw6 : w3 (b + 1) = zI g 410 (upd (f9) ((4) + (i)) ((nI (0)))) := by rw [ew4, zup_s]
          have hx7 := hmi.setV hf5 hw6
          refine z_iinc_n (n := 1) (a := i) (lv' := [(0, .ref (za g b)), (1, .int (nI (i + 1)))]) dX13_load_153 rfl (by decide) rfl ?_
          refine z_goto (tgt := 120) dX13_load_156 (by decide) ?_
          refine ih (i + 1) _ _ (by omega) (by omega) (hfi.tr (hf5.wk (by omega) (by omega))) hx7 (fun k hk => ?_)
          simp only [upd]
          by_cases c : k = 4 + i
          · rw [if_pos c, if_pos (by omega), c, show 4 + i - 4 = i by omega]; rw [gT_out (by omega)]
          · rw [if_neg c, hi k hk]
            (repeat' split) <;> first | rfl | (exfalso; omega)
        · refine z_aload_n dX13_load_142 rfl ?_
          refine z_getf (j := b) dX13_load_143 kF_RX13_29 rfl (by omega) hmi.ce rfl ?_
          refine z_iload_n dX13_load_146 rfl ?_
          refine z_iald_v (j := b + 5) (N := 200) (a := i) (x := gT T (i)) (f := fh) dX13_load_147 (by omega) hmi.r5 (by omega) (by omega) (hT.2 _ (by omega)) ?_
          refine z_goto (tgt := 152) dX13_load_148 (by decide) ?_
          refine z_iast_n (j := b + 1) (N := 410) (a := (4) + (i)) (f := f9) dX13_load_152 (by omega) hmi.r1 (by omega) (by omega) ?_
          obtain ⟨w8, ew9⟩ : ∃ wz : zW, wz = va_up wi (b + 1) (zI g 410 (upd (f9) ((4) + (i)) ((nI (gT T (i)))))) := ⟨_, rfl⟩
          refine z_weq (w' := w8) ew9.symm ?_
          have hf10 : zFr wi w8 (b + 1) (b + 1 + 1) := by rw [ew9]; exact zFr.up (by omega)
          have hw11 : w8 (b + 1) = zI g 410 (upd (f9) ((4) + (i)) ((nI (gT T (i))))) := by rw [ew9, zup_s]
          have hx12 := hmi.setV hf10 hw11
          refine z_iinc_n (n := 1) (a := i) (lv' := [(0, .ref (za g b)), (1, .int (nI (i + 1)))]) dX13_load_153 rfl (by decide) rfl ?_
          refine z_goto (tgt := 120) dX13_load_156 (by decide) ?_
          refine ih (i + 1) _ _ (by omega) (by omega) (hfi.tr (hf10.wk (by omega) (by omega))) hx12 (fun k hk => ?_)
          simp only [upd]
          by_cases c : k = 4 + i
          · rw [if_pos c, if_pos (by omega), c, show 4 + i - 4 = i by omega]
          · rw [if_neg c, hi k hk]
            (repeat' split) <;> first | rfl | (exfalso; omega)
  refine z_iconst (v := nI 0) dX13_load_118 rfl ?_
  refine z_istore_n (lv' := [(0, .ref (za g b)), (1, .int (nI (0)))]) dX13_load_119 (by decide) rfl ?_
  exact loop1 202 0 wi fv (by omega) (Nat.zero_le _) hfi0 h (fun k hk => by rw [if_neg (by omega)])
set_option maxRecDepth 100000 in
set_option maxHeartbeats 4000000 in
theorem l_X13_load81 {g : zGT} {w wi : zW} {b : Nat} {dg : Int32} {fv fb fs fp fh ft fl fi : Nat → Int32} {S : zSt} {Hs : List zSt} {Sn : Option zSt} {I O : List Nat} {ep fc : Int32} {t P B : Nat} {T : List Nat} (h0 : zG0 g) (hfi : zFr w wi b (b + 11)) (h : Mx g wi b (nI 0) (nI Hs.length) ep fc (nI (if Sn.isSome then 1 else 0)) (nI 0) (nI P) (nI I.length) (nI O.length) (nI t) (nI B) dg fv fb fs fp fh ft fl fi) (hv : VS fv S) (hvb : VS fb S) (hp : PS fp Hs) (hsn : ∀ Y, Sn = some Y → VS fs Y) (hou : OuR fl O) (hep : -1 ≤ ep.toInt ∧ -1 ≤ fc.toInt) (hT : HR fh T t) (ht : t < 100000) (hP : P ≤ 100) (hB : B ≤ 1) (hT9 : ∀ k, gT T k ≤ 9) : zTr g mX13_load (zR 3 0) 0 0 81 [(0, .ref (za g b))] [] wi (fun o w' => ∃ r, o = .inl (some (.int r)) ∧ zFr w w' b (b + 11) ∧ Mq g w' b (if (if B = 0 then (if 200 < t then 2 else 0) else 1) = 0 then (T, [], S.2.2) else S) (if (if B = 0 then (if 200 < t then 2 else 0) else 1) = 0 then (S :: Hs).take 8 else Hs) (Sn) ([]) (O) (if B = 0 then ep else nI (P)) (fc) ((if B = 0 then (if 200 < t then 2 else 0) else 1)) ∧ ((if B = 0 then (if 200 < t then 2 else 0) else 1) = 0 → r = nI (T).length)) := by
  have hb := h.1
  refine z_aload_n dX13_load_81 rfl ?_
  refine z_getf (j := b) dX13_load_82 kF_RX13_193 rfl (by omega) h.ce rfl ?_
  refine z_if_eq_n (a := B) (tgt := 102) dX13_load_85 (by decide) (by omega) (fun h_85_1 => ?_) (fun h_85_1 => ?_)
  · refine z_aload_n dX13_load_102 rfl ?_
    refine z_getf (j := b) dX13_load_103 kF_RX13_206 rfl (by omega) h.ce rfl ?_
    refine z_sipush (v := nI 200) dX13_load_106 rfl ?_
    refine z_icmp_le_n (a := t) (b := 200) (tgt := 118) dX13_load_109 (by decide) (by omega) (by omega) (fun h_109_2 => ?_) (fun h_109_2 => ?_)
    · have hF : (if B = 0 then (if 200 < t then 2 else 0) else 1) = 0 := by rw [if_pos (by omega), if_neg (by omega)]
      refine z_post (l_X13_load118 (P := P) (B := B) (T := T) (t := t) h0 hfi h hv hvb hp hsn hou hep hT (by omega) hT9) (fun o9 w9 h9 => ?_)
      obtain ⟨r9, e1, e2, ⟨f9, fp9, e3, e4, e5⟩, e6⟩ := h9
      refine ⟨r9, e1, e2, ?_, fun _ => e6⟩
      rw [hF, if_pos rfl, if_pos rfl, if_pos (show B = 0 by omega)]
      exact ⟨_, _, _, _, _, _, _, _, _, _, _, _, _, e3, e4, e5, hsn, ⟨by decide, fun k hk => absurd hk (Nat.not_lt_zero k), fun z hz => absurd hz List.not_mem_nil⟩, hou, hep⟩
    · refine z_aload_n dX13_load_112 rfl ?_
      refine z_iconst (v := nI 2) dX13_load_113 rfl ?_
      refine z_callR (As := [.int (nI (2))]) (rest := []) (b := b) (ci := 12) (v := some (.int (nI (0)))) (R2 := zR 0 0) dX13_load_114 kV_RX13_61 rfl ⟨⟨by decide, by decide⟩, by decide, by decide⟩ (by omega) h.ce rfl rfl rfl (Nat.le_of_ble_eq_true rfl) rfl (c_X13_fail (x := (nI (2))) h0 h) (fun w3 pw3 => ?_)
      obtain ⟨hf4, hx5⟩ := pw3
      refine z_iret dX13_load_117 rfl (by decide) (by decide) ?_
      have hF : (if B = 0 then (if 200 < t then 2 else 0) else 1) = 2 := by rw [if_pos (by omega), if_pos (by omega)]
      refine ⟨_, rfl, (hfi.tr hf4), ?_, fun q9 => absurd (hF.symm.trans q9) (by decide)⟩
      rw [hF, if_neg (by decide), if_neg (by decide), if_pos (by omega)]
      exact ⟨_, _, _, _, _, _, _, _, _, _, _, _, _, hx5, hv, hp, hsn, ⟨by decide, fun k hk => absurd hk (Nat.not_lt_zero k), fun z hz => absurd hz List.not_mem_nil⟩, hou, hep⟩
  · refine z_aload_n dX13_load_88 rfl ?_
    refine z_aload_n dX13_load_89 rfl ?_
    refine z_getf (j := b) dX13_load_90 kF_RX13_187 rfl (by omega) h.ce rfl ?_
    refine z_putf (j := b) dX13_load_93 kF_RX13_7 zt_12_2 rfl (by omega) h.ce rfl rfl (Nat.le_of_ble_eq_true rfl) ?_
    obtain ⟨w6, ew7⟩ : ∃ wz : zW, wz = va_up wi (b) (zO 12 [.int (nI (0)), .int (nI (Hs.length)), .int (nI (P)), .int (fc), .int (nI (if Sn.isSome then 1 else 0)), .ref (za g (b + 1)), .ref (za g (b + 2)), .ref (za g (b + 3)), .ref (za g (b + 4)), .ref (za g (b + 5)), .ref (za g (b + 6)), .ref (za g (b + 7)), .ref (za g (b + 8)), .ref (za g (b + 9)), .ref (za g (b + 10)), .int (nI (0)), .int (nI (P)), .int (nI (I.length)), .int (nI (O.length)), .int (nI (t)), .int (nI (B)), .int (dg)]) := ⟨_, rfl⟩
    refine z_weq (w' := w6) ew7.symm ?_
    have hf8 : zFr wi w6 (b) (b + 1) := by rw [ew7]; exact zFr.up (by omega)
    have hw9 : w6 (b) = zO 12 [.int (nI (0)), .int (nI (Hs.length)), .int (nI (P)), .int (fc), .int (nI (if Sn.isSome then 1 else 0)), .ref (za g (b + 1)), .ref (za g (b + 2)), .ref (za g (b + 3)), .ref (za g (b + 4)), .ref (za g (b + 5)), .ref (za g (b + 6)), .ref (za g (b + 7)), .ref (za g (b + 8)), .ref (za g (b + 9)), .ref (za g (b + 10)), .int (nI (0)), .int (nI (P)), .int (nI (I.length)), .int (nI (O.length)), .int (nI (t)), .int (nI (B)), .int (dg)] := by rw [ew7, zup_s]
    have hx10 := h.setC hf8 hw9
    refine z_aload_n dX13_load_96 rfl ?_
    refine z_iconst (v := nI 1) dX13_load_97 rfl ?_
    refine z_callR (As := [.int (nI (1))]) (rest := []) (b := b) (ci := 12) (v := some (.int (nI (0)))) (R2 := zR 0 0) dX13_load_98 kV_RX13_61 rfl ⟨⟨by decide, by decide⟩, by decide, by decide⟩ (by omega) hx10.ce rfl rfl rfl (Nat.le_of_ble_eq_true rfl) rfl (c_X13_fail (x := (nI (1))) h0 hx10) (fun w11 pw11 => ?_)
    obtain ⟨hf12, hx13⟩ := pw11
    refine z_iret dX13_load_101 rfl (by decide) (by decide) ?_
    have hF : (if B = 0 then (if 200 < t then 2 else 0) else 1) = 1 := by rw [if_neg (by omega)]
    refine ⟨_, rfl, ((hfi.tr (hf8.wk (by omega) (by omega))).tr hf12), ?_, fun q9 => absurd (hF.symm.trans q9) (by decide)⟩
    rw [hF, if_neg (by decide), if_neg (by decide), if_neg (by omega)]
    exact ⟨_, _, _, _, _, _, _, _, _, _, _, _, _, hx13, hv, hp, hsn, ⟨by decide, fun k hk => absurd hk (Nat.not_lt_zero k), fun z hz => absurd hz List.not_mem_nil⟩, hou, ⟨by rw [nI_toInt (by omega)]; omega, hep.2⟩⟩
theorem pfill_le {T : List Nat} {l m : Nat} (h : ∀ k, gT T k ≤ 9) (hl : l ≤ 9) : ∀ k, gT (pfill T l m) k ≤ 9 := fun k => by
  by_cases c : k < min 200 (T.length + m)
  · rw [pfill_get c]; split
    · exact h k
    · exact hl
  · rw [gT_out (by rw [pfill_len]; omega)]; omega
set_option maxRecDepth 100000 in
set_option maxHeartbeats 4000000 in
set_option maxRecDepth 100000 in
set_option maxHeartbeats 4000000 in
theorem l_X13_load43 {g : zGT} {w : zW} {b : Nat} {dg : Int32} {fv fb fs fp ft fl fi : Nat → Int32} {S : zSt} {Hs : List zSt} {Sn : Option zSt} {I O : List Nat} {ep fc : Int32} (h0 : zG0 g) (hb : b + 10 < zn g) (htx : TxR ft I) (hv : VS fv S) (hvb : VS fb S) (hp : PS fp Hs) (hsn : ∀ Y, Sn = some Y → VS fs Y) (hou : OuR fl O) (hep : -1 ≤ ep.toInt ∧ -1 ≤ fc.toInt) : ∀ (mm : Nat) (i p t : Nat) (wi : zW) (T : List Nat) (f9 : Nat → Int32), 60 - i < mm → (4 * i ≤ p) → (p ≤ I.length) → (t ≤ 1000 * i) → (i ≤ 15) → (zFr w wi b (b + 11)) → (Mx g wi b (nI 0) (nI Hs.length) ep fc (nI (if Sn.isSome then 1 else 0)) (nI 0) (nI ((pRn I p).2.1)) (nI I.length) (nI O.length) (nI (t + (pRn I p).1)) (nI ((pRn I p).2.2)) dg fv fb fs fp f9 ft fl fi) → (HR f9 (pfill T (pRa I p).1 (pRn I p).1) (t + (pRn I p).1)) → (∀ k, gT (pfill T (pRa I p).1 (pRn I p).1) k ≤ 9) → zTr g mX13_load (zR 3 0) 0 0 43 [(0, .ref (za g b))] [] wi (fun o w' => ∃ r, o = .inl (some (.int r)) ∧ zFr w w' b (b + 11) ∧ Mq g w' b (if (if (pNot I (60 - i) p T t).2.2.2 = 0 then (if 200 < (pNot I (60 - i) p T t).2.1 then 2 else 0) else 1) = 0 then ((pNot I (60 - i) p T t).1, [], S.2.2) else S) (if (if (pNot I (60 - i) p T t).2.2.2 = 0 then (if 200 < (pNot I (60 - i) p T t).2.1 then 2 else 0) else 1) = 0 then (S :: Hs).take 8 else Hs) (Sn) ([]) (O) (if (pNot I (60 - i) p T t).2.2.2 = 0 then ep else nI ((pNot I (60 - i) p T t).2.2.1)) (fc) ((if (pNot I (60 - i) p T t).2.2.2 = 0 then (if 200 < (pNot I (60 - i) p T t).2.1 then 2 else 0) else 1)) ∧ ((if (pNot I (60 - i) p T t).2.2.2 = 0 then (if 200 < (pNot I (60 - i) p T t).2.1 then 2 else 0) else 1) = 0 → r = nI ((pNot I (60 - i) p T t).1).length)) := by
  have htl := htx.1
  intro mm
  induction mm with
  | zero => intros; omega
  | succ mm ih =>
    intro i p t wi T f9 hm hpi hpl hti hi60 hfi hmi hT hT9
    have hpr := pRn_in (I := I) (p := p) hpl (fun k hk => gD_ge hk)
    have hpb := pN_b (I := I) (lo := 49) (p := (pRc I p).1) (br := (pRc I p).2)
    have hpb2 : (pRn I p).2.2 ≤ 1 := hpb
    have hpl9 := pN_le (I := I) (lo := 49) (p := (pRc I p).1) (br := (pRc I p).2) (by omega)
    have hpl8 : (pRn I p).1 ≤ 999 := hpl9
    refine z_aload_n dX13_load_43 rfl ?_
    refine z_getf (j := b) dX13_load_44 kF_RX13_193 rfl (by omega) hmi.ce rfl ?_
    refine z_if_ne_n (a := (pRn I p).2.2) (tgt := 81) dX13_load_47 (by decide) (by omega) (fun h_47_1 => ?_) (fun h_47_1 => ?_)
    · have hb1 : (pRn I p).2.2 = 1 := by omega
      have hx9 := hmi
      rw [hb1] at hx9
      have eX : (pNot I (60 - i) p T t) = ((pfill T (pRa I p).1 (pRn I p).1), (t + (pRn I p).1), (pRn I p).2.1, 1) := by
        rw [show 60 - i = (60 - (i + 1)) + 1 by omega, pNot, if_neg (fun z => by omega)]
        by_cases c : (pRn I p).2.1 < I.length
        · rw [if_pos c]
        · rw [if_neg c, hb1]
      rw [eX]
      exact l_X13_load81 (P := (pRn I p).2.1) (B := 1) (t := (t + (pRn I p).1)) (T := (pfill T (pRa I p).1 (pRn I p).1)) h0 hfi hx9 hv hvb hp hsn hou hep hT (by omega) (by omega) (by omega) hT9
    · refine z_aload_n dX13_load_50 rfl ?_
      refine z_getf (j := b) dX13_load_51 kF_RX13_187 rfl (by omega) hmi.ce rfl ?_
      refine z_aload_n dX13_load_54 rfl ?_
      refine z_getf (j := b) dX13_load_55 kF_RX13_190 rfl (by omega) hmi.ce rfl ?_
      refine z_icmp_ge_n (a := (pRn I p).2.1) (b := I.length) (tgt := 81) dX13_load_58 (by decide) (by omega) (by omega) (fun h_58_2 => ?_) (fun h_58_2 => ?_)
      · have hb1 : (pRn I p).2.2 = 0 := by omega
        have hx9 := hmi
        rw [hb1] at hx9
        have hgz : I.getD (pRn I p).2.1 0 = 0 := gD_ge (by omega)
        have eX : (pNot I (60 - i) p T t) = ((pfill T (pRa I p).1 (pRn I p).1), (t + (pRn I p).1), (pRn I p).2.1, 0) := by
          rw [show 60 - i = (60 - (i + 1)) + 1 by omega, pNot, if_neg (fun z => by omega), if_neg (by omega), hb1]
        rw [eX]
        exact l_X13_load81 (P := (pRn I p).2.1) (B := 0) (t := (t + (pRn I p).1)) (T := (pfill T (pRa I p).1 (pRn I p).1)) h0 hfi hx9 hv hvb hp hsn hou hep hT (by omega) (by omega) (by omega) hT9
      · have hb1 : (pRn I p).2.2 = 0 := by omega
        have hx9 := hmi
        rw [hb1] at hx9
        refine z_aload_n dX13_load_61 rfl ?_
        refine z_bipush (v := nI 32) dX13_load_62 rfl ?_
        refine z_callR (As := [.int (nI (32))]) (rest := []) (b := b) (ci := 12) (v := none) (R2 := zR 1 0) dX13_load_64 kV_RX13_200 rfl ⟨⟨by decide, by decide⟩, by decide, by decide⟩ (by omega) hx9.ce rfl rfl rfl (Nat.le_of_ble_eq_true rfl) rfl (c_X13_mark (p := (pRn I p).2.1) (br := 0) (c := 32) h0 hx9 htx (by omega) (by omega) (by omega)) (fun w103 pw103 => ?_)
        obtain ⟨hf104, hx105⟩ := pw103
        have hpe106 := pExp_in (I := I) (c := 32) (p := (pRn I p).2.1) (br := 0) (by omega) (by omega)
        by_cases hsp : I.getD (pRn I p).2.1 0 = 32
        · have e1 : pExp I 32 (pRn I p).2.1 0 = ((pRn I p).2.1 + 1, 0) := by unfold pExp; rw [if_pos ⟨rfl, hsp⟩]
          have hx8 := hx105
          rw [e1] at hx8
          have hadv := pRn_adv hb1
          refine z_aload_n dX13_load_67 rfl ?_
          refine z_getf (j := b) dX13_load_68 kF_RX13_193 rfl (by omega) hx8.ce rfl ?_
          refine z_if_ne_n (a := 0) (tgt := 43) dX13_load_71 (by decide) (by omega) (fun h_71_207 => ?_) (fun h_71_207 => ?_)
          · exact absurd h_71_207 (by decide)
          · refine z_aload_n dX13_load_74 rfl ?_
            refine z_callR (As := []) (rest := []) (b := b) (ci := 12) (v := none) (R2 := zR 2 0) dX13_load_75 kV_RX13_209 rfl ⟨⟨by decide, by decide⟩, by decide, by decide⟩ (by omega) hx8.ce rfl rfl rfl (Nat.le_of_ble_eq_true rfl) rfl (c_X13_run (p := (pRn I p).2.1 + 1) (t := (t + (pRn I p).1)) (T := (pfill T (pRa I p).1 (pRn I p).1)) h0 hx8 htx hT (by omega) (by omega)) (fun w208 pw208 => ?_)
            obtain ⟨hf209, g210, hx211, hT212⟩ := pw208
            refine z_goto (tgt := 43) dX13_load_78 (by decide) ?_
            have eX : (pNot I (60 - i) p T t) = pNot I (60 - (i + 1)) ((pRn I p).2.1 + 1) (pfill T (pRa I p).1 (pRn I p).1) (t + (pRn I p).1) := by rw [show 60 - i = (60 - (i + 1)) + 1 by omega, pNot, if_pos ⟨hb1, hsp⟩]
            rw [eX]
            exact ih (i + 1) ((pRn I p).2.1 + 1) (t + (pRn I p).1) _ (pfill T (pRa I p).1 (pRn I p).1) _ (by omega) (by omega) (by omega) (by omega) (by omega) ((hfi.tr hf104).tr hf209) hx211 hT212 (pfill_le hT9 pRa_le)
        · have e1 : pExp I 32 (pRn I p).2.1 0 = ((pRn I p).2.1, 1) := by unfold pExp; rw [if_neg (fun z => hsp z.2)]
          have hx8 := hx105
          rw [e1] at hx8
          refine z_aload_n dX13_load_67 rfl ?_
          refine z_getf (j := b) dX13_load_68 kF_RX13_193 rfl (by omega) hx8.ce rfl ?_
          refine z_if_ne_n (a := 1) (tgt := 43) dX13_load_71 (by decide) (by omega) (fun h_71_307 => ?_) (fun h_71_307 => ?_)
          · refine z_aload_n dX13_load_43 rfl ?_
            refine z_getf (j := b) dX13_load_44 kF_RX13_193 rfl (by omega) hx8.ce rfl ?_
            refine z_if_ne_n (a := 1) (tgt := 81) dX13_load_47 (by decide) (by omega) (fun h_47_308 => ?_) (fun h_47_308 => ?_)
            · have eX : (pNot I (60 - i) p T t) = ((pfill T (pRa I p).1 (pRn I p).1), (t + (pRn I p).1), (pRn I p).2.1, 1) := by
                rw [show 60 - i = (60 - (i + 1)) + 1 by omega, pNot, if_neg (fun z => hsp z.2), if_pos (by omega)]
              rw [eX]
              exact l_X13_load81 (P := (pRn I p).2.1) (B := 1) (t := (t + (pRn I p).1)) (T := (pfill T (pRa I p).1 (pRn I p).1)) h0 (hfi.tr hf104) hx8 hv hvb hp hsn hou hep hT (by omega) (by omega) (by omega) hT9
            · exact absurd h_47_308 (by decide)
          · exact absurd h_71_307 (by decide)
set_option maxRecDepth 100000 in
set_option maxHeartbeats 4000000 in
theorem c_X13_load {g : zGT} {w : zW} {b : Nat} {S : zSt} {Hs : List zSt} {Sn : Option zSt} {I O : List Nat} {ep fc : Int32} {t : Nat} (h0 : zG0 g) (hq : Mq g w b (S) (Hs) (Sn) (I) (O) (ep) (fc) (t)) : zCt g mX13_load (zR 3 0) [.ref (za g b)] w (fun o w' => ∃ r, o = .inl (some (.int r)) ∧ zFr w w' b (b + 11) ∧ Mq g w' b (if (if (pNota I).2.2.2 = 0 then (if 200 < (pNota I).2.1 then 2 else 0) else 1) = 0 then ((pNota I).1, [], S.2.2) else S) (if (if (pNota I).2.2.2 = 0 then (if 200 < (pNota I).2.1 then 2 else 0) else 1) = 0 then (S :: Hs).take 8 else Hs) (Sn) ([]) (O) (if (pNota I).2.2.2 = 0 then ep else nI ((pNota I).2.2.1)) (fc) ((if (pNota I).2.2.2 = 0 then (if 200 < (pNota I).2.1 then 2 else 0) else 1)) ∧ ((if (pNota I).2.2.2 = 0 then (if 200 < (pNota I).2.1 then 2 else 0) else 1) = 0 → r = nI ((pNota I).1).length)) := by
  obtain ⟨po, en, kn, wr, dg, fv, fb, fs, fp, fh, ft, fl, fi, h, hv, hp, hsn, htx, hou, hep⟩ := hq
  have hb := h.1
  have hl := hv.len
  have htl := htx.1
  refine zCt_of (by decide +kernel) h0 [(0, .ref (za g b))] rfl (Nat.le_of_ble_eq_true rfl) ?_
  refine z_aload_n dX13_load_0 rfl ?_
  refine z_callR (As := []) (rest := []) (b := b) (ci := 12) (v := none) (R2 := zR 1 0) dX13_load_1 kV_RX13_68 rfl ⟨⟨by decide, by decide⟩, by decide, by decide⟩ (by omega) h.ce rfl rfl rfl (Nat.le_of_ble_eq_true rfl) rfl (c_X13_begins h0 h) (fun w1 pw1 => ?_)
  obtain ⟨hf2, g3, hx4, he5⟩ := pw1
  have hvb := hv.congr he5
  refine z_aload_n dX13_load_4 rfl ?_
  refine z_aload_n dX13_load_5 rfl ?_
  refine z_getf (j := b) dX13_load_6 kF_RX13_184 rfl (by omega) hx4.ce rfl ?_
  refine z_putf (j := b) dX13_load_9 kF_RX13_190 zt_12_17 rfl (by omega) hx4.ce rfl rfl (Nat.le_of_ble_eq_true rfl) ?_
  obtain ⟨w6, ew7⟩ : ∃ wz : zW, wz = va_up w1 (b) (zO 12 [.int (nI (0)), .int (nI (Hs.length)), .int (ep), .int (fc), .int (nI (if Sn.isSome then 1 else 0)), .ref (za g (b + 1)), .ref (za g (b + 2)), .ref (za g (b + 3)), .ref (za g (b + 4)), .ref (za g (b + 5)), .ref (za g (b + 6)), .ref (za g (b + 7)), .ref (za g (b + 8)), .ref (za g (b + 9)), .ref (za g (b + 10)), .int (nI (I.length)), .int (po), .int (nI (I.length)), .int (nI (O.length)), .int (kn), .int (wr), .int (dg)]) := ⟨_, rfl⟩
  refine z_weq (w' := w6) ew7.symm ?_
  have hf8 : zFr w1 w6 (b) (b + 1) := by rw [ew7]; exact zFr.up (by omega)
  have hw9 : w6 (b) = zO 12 [.int (nI (0)), .int (nI (Hs.length)), .int (ep), .int (fc), .int (nI (if Sn.isSome then 1 else 0)), .ref (za g (b + 1)), .ref (za g (b + 2)), .ref (za g (b + 3)), .ref (za g (b + 4)), .ref (za g (b + 5)), .ref (za g (b + 6)), .ref (za g (b + 7)), .ref (za g (b + 8)), .ref (za g (b + 9)), .ref (za g (b + 10)), .int (nI (I.length)), .int (po), .int (nI (I.length)), .int (nI (O.length)), .int (kn), .int (wr), .int (dg)] := by rw [ew7, zup_s]
  have hx10 := hx4.setC hf8 hw9
  refine z_aload_n dX13_load_12 rfl ?_
  refine z_iconst (v := nI 0) dX13_load_13 rfl ?_
  refine z_putf (j := b) dX13_load_14 kF_RX13_184 zt_12_15 rfl (by omega) hx10.ce rfl rfl (Nat.le_of_ble_eq_true rfl) ?_
  obtain ⟨w11, ew12⟩ : ∃ wz : zW, wz = va_up w6 (b) (zO 12 [.int (nI (0)), .int (nI (Hs.length)), .int (ep), .int (fc), .int (nI (if Sn.isSome then 1 else 0)), .ref (za g (b + 1)), .ref (za g (b + 2)), .ref (za g (b + 3)), .ref (za g (b + 4)), .ref (za g (b + 5)), .ref (za g (b + 6)), .ref (za g (b + 7)), .ref (za g (b + 8)), .ref (za g (b + 9)), .ref (za g (b + 10)), .int (nI (0)), .int (po), .int (nI (I.length)), .int (nI (O.length)), .int (kn), .int (wr), .int (dg)]) := ⟨_, rfl⟩
  refine z_weq (w' := w11) ew12.symm ?_
  have hf13 : zFr w6 w11 (b) (b + 1) := by rw [ew12]; exact zFr.up (by omega)
  have hw14 : w11 (b) = zO 12 [.int (nI (0)), .int (nI (Hs.length)), .int (ep), .int (fc), .int (nI (if Sn.isSome then 1 else 0)), .ref (za g (b + 1)), .ref (za g (b + 2)), .ref (za g (b + 3)), .ref (za g (b + 4)), .ref (za g (b + 5)), .ref (za g (b + 6)), .ref (za g (b + 7)), .ref (za g (b + 8)), .ref (za g (b + 9)), .ref (za g (b + 10)), .int (nI (0)), .int (po), .int (nI (I.length)), .int (nI (O.length)), .int (kn), .int (wr), .int (dg)] := by rw [ew12, zup_s]
  have hx15 := hx10.setC hf13 hw14
  refine z_aload_n dX13_load_17 rfl ?_
  refine z_iconst (v := nI 0) dX13_load_18 rfl ?_
  refine z_putf (j := b) dX13_load_19 kF_RX13_187 zt_12_16 rfl (by omega) hx15.ce rfl rfl (Nat.le_of_ble_eq_true rfl) ?_
  obtain ⟨w16, ew17⟩ : ∃ wz : zW, wz = va_up w11 (b) (zO 12 [.int (nI (0)), .int (nI (Hs.length)), .int (ep), .int (fc), .int (nI (if Sn.isSome then 1 else 0)), .ref (za g (b + 1)), .ref (za g (b + 2)), .ref (za g (b + 3)), .ref (za g (b + 4)), .ref (za g (b + 5)), .ref (za g (b + 6)), .ref (za g (b + 7)), .ref (za g (b + 8)), .ref (za g (b + 9)), .ref (za g (b + 10)), .int (nI (0)), .int (nI (0)), .int (nI (I.length)), .int (nI (O.length)), .int (kn), .int (wr), .int (dg)]) := ⟨_, rfl⟩
  refine z_weq (w' := w16) ew17.symm ?_
  have hf18 : zFr w11 w16 (b) (b + 1) := by rw [ew17]; exact zFr.up (by omega)
  have hw19 : w16 (b) = zO 12 [.int (nI (0)), .int (nI (Hs.length)), .int (ep), .int (fc), .int (nI (if Sn.isSome then 1 else 0)), .ref (za g (b + 1)), .ref (za g (b + 2)), .ref (za g (b + 3)), .ref (za g (b + 4)), .ref (za g (b + 5)), .ref (za g (b + 6)), .ref (za g (b + 7)), .ref (za g (b + 8)), .ref (za g (b + 9)), .ref (za g (b + 10)), .int (nI (0)), .int (nI (0)), .int (nI (I.length)), .int (nI (O.length)), .int (kn), .int (wr), .int (dg)] := by rw [ew17, zup_s]
  have hx20 := hx15.setC hf18 hw19
  refine z_aload_n dX13_load_22 rfl ?_
  refine z_iconst (v := nI 0) dX13_load_23 rfl ?_
  refine z_putf (j := b) dX13_load_24 kF_RX13_206 zt_12_19 rfl (by omega) hx20.ce rfl rfl (Nat.le_of_ble_eq_true rfl) ?_
  obtain ⟨w21, ew22⟩ : ∃ wz : zW, wz = va_up w16 (b) (zO 12 [.int (nI (0)), .int (nI (Hs.length)), .int (ep), .int (fc), .int (nI (if Sn.isSome then 1 else 0)), .ref (za g (b + 1)), .ref (za g (b + 2)), .ref (za g (b + 3)), .ref (za g (b + 4)), .ref (za g (b + 5)), .ref (za g (b + 6)), .ref (za g (b + 7)), .ref (za g (b + 8)), .ref (za g (b + 9)), .ref (za g (b + 10)), .int (nI (0)), .int (nI (0)), .int (nI (I.length)), .int (nI (O.length)), .int (nI (0)), .int (wr), .int (dg)]) := ⟨_, rfl⟩
  refine z_weq (w' := w21) ew22.symm ?_
  have hf23 : zFr w16 w21 (b) (b + 1) := by rw [ew22]; exact zFr.up (by omega)
  have hw24 : w21 (b) = zO 12 [.int (nI (0)), .int (nI (Hs.length)), .int (ep), .int (fc), .int (nI (if Sn.isSome then 1 else 0)), .ref (za g (b + 1)), .ref (za g (b + 2)), .ref (za g (b + 3)), .ref (za g (b + 4)), .ref (za g (b + 5)), .ref (za g (b + 6)), .ref (za g (b + 7)), .ref (za g (b + 8)), .ref (za g (b + 9)), .ref (za g (b + 10)), .int (nI (0)), .int (nI (0)), .int (nI (I.length)), .int (nI (O.length)), .int (nI (0)), .int (wr), .int (dg)] := by rw [ew22, zup_s]
  have hx25 := hx20.setC hf23 hw24
  refine z_aload_n dX13_load_27 rfl ?_
  refine z_iconst (v := nI 0) dX13_load_28 rfl ?_
  refine z_putf (j := b) dX13_load_29 kF_RX13_193 zt_12_20 rfl (by omega) hx25.ce rfl rfl (Nat.le_of_ble_eq_true rfl) ?_
  obtain ⟨w26, ew27⟩ : ∃ wz : zW, wz = va_up w21 (b) (zO 12 [.int (nI (0)), .int (nI (Hs.length)), .int (ep), .int (fc), .int (nI (if Sn.isSome then 1 else 0)), .ref (za g (b + 1)), .ref (za g (b + 2)), .ref (za g (b + 3)), .ref (za g (b + 4)), .ref (za g (b + 5)), .ref (za g (b + 6)), .ref (za g (b + 7)), .ref (za g (b + 8)), .ref (za g (b + 9)), .ref (za g (b + 10)), .int (nI (0)), .int (nI (0)), .int (nI (I.length)), .int (nI (O.length)), .int (nI (0)), .int (nI (0)), .int (dg)]) := ⟨_, rfl⟩
  refine z_weq (w' := w26) ew27.symm ?_
  have hf28 : zFr w21 w26 (b) (b + 1) := by rw [ew27]; exact zFr.up (by omega)
  have hw29 : w26 (b) = zO 12 [.int (nI (0)), .int (nI (Hs.length)), .int (ep), .int (fc), .int (nI (if Sn.isSome then 1 else 0)), .ref (za g (b + 1)), .ref (za g (b + 2)), .ref (za g (b + 3)), .ref (za g (b + 4)), .ref (za g (b + 5)), .ref (za g (b + 6)), .ref (za g (b + 7)), .ref (za g (b + 8)), .ref (za g (b + 9)), .ref (za g (b + 10)), .int (nI (0)), .int (nI (0)), .int (nI (I.length)), .int (nI (O.length)), .int (nI (0)), .int (nI (0)), .int (dg)] := by rw [ew27, zup_s]
  have hx30 := hx25.setC hf28 hw29
  refine z_aload_n dX13_load_32 rfl ?_
  refine z_getf (j := b) dX13_load_33 kF_RX13_190 rfl (by omega) hx30.ce rfl ?_
  refine z_if_le_n (a := I.length) (tgt := 43) dX13_load_36 (by decide) (by omega) (fun h_36_31 => ?_) (fun h_36_31 => ?_)
  · refine z_aload_n dX13_load_43 rfl ?_
    refine z_getf (j := b) dX13_load_44 kF_RX13_193 rfl (by omega) hx30.ce rfl ?_
    refine z_if_ne_n (a := 0) (tgt := 81) dX13_load_47 (by decide) (by omega) (fun h_47_132 => ?_) (fun h_47_132 => ?_)
    · exact absurd h_47_132 (by decide)
    · refine z_aload_n dX13_load_50 rfl ?_
      refine z_getf (j := b) dX13_load_51 kF_RX13_187 rfl (by omega) hx30.ce rfl ?_
      refine z_aload_n dX13_load_54 rfl ?_
      refine z_getf (j := b) dX13_load_55 kF_RX13_190 rfl (by omega) hx30.ce rfl ?_
      refine z_icmp_ge_n (a := 0) (b := I.length) (tgt := 81) dX13_load_58 (by decide) (by omega) (by omega) (fun h_58_133 => ?_) (fun h_58_133 => ?_)
      · have eN : pNota I = ([], 0, 0, 0) := by unfold pNota; rw [if_pos (by omega)]
        rw [eN]
        exact l_X13_load81 (P := 0) (B := 0) (t := 0) (T := []) h0 (((((hf2.tr (hf8.wk (by omega) (by omega))).tr (hf13.wk (by omega) (by omega))).tr (hf18.wk (by omega) (by omega))).tr (hf23.wk (by omega) (by omega))).tr (hf28.wk (by omega) (by omega))) hx30 hv hvb hp hsn hou hep ⟨by rfl, fun j hj => absurd hj (Nat.not_lt_zero j)⟩ (by omega) (by omega) (by omega) (fun k => Nat.zero_le _)
      · (exfalso; omega)
  · refine z_aload_n dX13_load_39 rfl ?_
    refine z_callR (As := []) (rest := []) (b := b) (ci := 12) (v := none) (R2 := zR 2 0) dX13_load_40 kV_RX13_209 rfl ⟨⟨by decide, by decide⟩, by decide, by decide⟩ (by omega) hx30.ce rfl rfl rfl (Nat.le_of_ble_eq_true rfl) rfl (c_X13_run (p := 0) (t := 0) (T := []) h0 hx30 htx ⟨by rfl, fun j hj => absurd hj (Nat.not_lt_zero j)⟩ (Nat.zero_le _) (by omega)) (fun w32 pw32 => ?_)
    obtain ⟨hf33, g34, hx35, hT36⟩ := pw32
    have eN : pNota I = pNot I (60 - 0) 0 [] 0 := by unfold pNota; rw [if_neg (by omega)]
    rw [eN]
    exact l_X13_load43 h0 hb htx hv hvb hp hsn hou hep 61 0 0 0 _ [] _ (by omega) (Nat.zero_le _) (Nat.zero_le _) (Nat.zero_le _) (by omega) ((((((hf2.tr (hf8.wk (by omega) (by omega))).tr (hf13.wk (by omega) (by omega))).tr (hf18.wk (by omega) (by omega))).tr (hf23.wk (by omega) (by omega))).tr (hf28.wk (by omega) (by omega))).tr hf33) hx35 hT36 (pfill_le (fun k => Nat.zero_le _) pRa_le)
