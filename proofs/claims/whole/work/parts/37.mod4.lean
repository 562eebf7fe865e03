/-! the reference: markers put in, ticks taken out -/
def rmP (L : List Nat) (p q x : Nat) : Bool := !(decide (p < x ∧ x < q)) && !(decide (x = q ∧ p ∈ L))
def rmC (p q x : Nat) : Nat := if q ≤ x then x - (q - p) else x
theorem take_get {L : List Nat} {i : Nat} (h : i < L.length) : L.take (i + 1) = L.take i ++ [L.getD i 0] := by
  rw [List.take_succ, gD_lt h, List.getElem?_eq_getElem h]; rfl
theorem mem_take {L : List Nat} {i y : Nat} (h : y ∈ L.take i) : ∃ k, k < i ∧ k < L.length ∧ L.getD k 0 = y := by
  obtain ⟨k, hk, e⟩ := List.getElem_of_mem h
  rw [List.length_take] at hk
  refine ⟨k, by omega, by omega, ?_⟩
  rw [gD_lt (by omega), ← e, List.getElem_take]
theorem get_mem {L : List Nat} {k : Nat} (h : k < L.length) : L.getD k 0 ∈ L := by rw [gD_lt h]; exact List.getElem_mem h
theorem lclose_eq {L : List Nat} {n p q : Nat} (h : Mo L n) (hpq : p < q) : lclose p q L = (L.filter (rmP L p q)).map (rmC p q) := by
  have key : ∀ i, i ≤ L.length → (L.take i).foldl (lclS p q) [] = ((L.take i).filter (rmP L p q)).map (rmC p q) := by
    intro i
    induction i with
    | zero => intro _; rfl
    | succ i ih =>
      intro hi
      rw [take_get (by omega), List.foldl_append, ih (by omega), List.filter_append, List.map_append]
      obtain ⟨x, hx⟩ : ∃ x, x = L.getD i 0 := ⟨_, rfl⟩
      rw [← hx]
      have hlt : ∀ y, y ∈ L.take i → y < x := fun y hy => by
        obtain ⟨k, h1, h2, h3⟩ := mem_take hy
        rw [← h3, hx]; exact h.1 k i h1 (by omega)
      show lclS p q _ x = _
      unfold lclS
      by_cases c1 : p < x ∧ x < q
      · rw [if_pos (Or.inl c1)]
        rw [List.filter_cons_of_neg (by unfold rmP; simp [c1])]; simp
      · by_cases c2 : x < q
        · rw [if_pos c2]
          have hno : x ∉ List.map (rmC p q) (List.filter (rmP L p q) (List.take i L)) := fun z => by
            obtain ⟨y, hy, e⟩ := List.mem_map.mp z
            have hy2 := hlt y (List.mem_filter.mp hy).1
            unfold rmC at e
            rw [if_neg (by omega)] at e
            omega
          rw [if_neg (fun z => z.elim c1 hno)]
          rw [List.filter_cons_of_pos (by unfold rmP; simp [c1]; omega)]
          simp [rmC, show ¬ q ≤ x by omega]
        · rw [if_neg c2]
          by_cases c3 : x = q ∧ p ∈ L
          · have hyes : x - (q - p) ∈ List.map (rmC p q) (List.filter (rmP L p q) (List.take i L)) := by
              refine List.mem_map.mpr ⟨p, List.mem_filter.mpr ⟨?_, by unfold rmP; simp; omega⟩, by unfold rmC; rw [if_neg (by omega)]; omega⟩
              obtain ⟨k, hk, e⟩ := List.getElem_of_mem c3.2
              have hki : k < i := by
                rcases Nat.lt_or_ge k i with z | z
                · exact z
                · have := h.mono i k z hk
                  rw [gD_lt hk, e] at this; omega
              have q9 : k < (L.take i).length := by rw [List.length_take]; omega
              have q8 := List.getElem_mem q9
              rw [List.getElem_take, e] at q8
              exact q8
            rw [if_pos (Or.inr hyes)]
            rw [List.filter_cons_of_neg (by unfold rmP; simp [c3])]; simp
          · have hno : x - (q - p) ∉ List.map (rmC p q) (List.filter (rmP L p q) (List.take i L)) := fun z => by
              obtain ⟨y, hy, e⟩ := List.mem_map.mp z
              obtain ⟨hy1, hy2⟩ := List.mem_filter.mp hy
              have hyx := hlt y hy1
              unfold rmC at e
              split at e
              · omega
              · unfold rmP at hy2
                simp only [Bool.and_eq_true, Bool.not_eq_true', decide_eq_false_iff_not] at hy2
                have hyp : y = p := by omega
                exact c3 ⟨by omega, by rw [← hyp]; exact List.mem_of_mem_take hy1⟩
            rw [if_neg (fun z => z.elim c1 hno)]
            rw [List.filter_cons_of_pos (by unfold rmP; simp only [Bool.and_eq_true, Bool.not_eq_true', decide_eq_false_iff_not]; exact ⟨c1, c3⟩)]
            simp [rmC, show q ≤ x by omega]
  have := key L.length (Nat.le_refl _)
  rwa [List.take_length] at this
theorem lclose_id {L : List Nat} {n p : Nat} (h : Mo L n) : lclose p p L = L := by
  have key : ∀ i, i ≤ L.length → (L.take i).foldl (lclS p p) [] = L.take i := by
    intro i
    induction i with
    | zero => intro _; rfl
    | succ i ih =>
      intro hi
      rw [take_get (by omega), List.foldl_append, ih (by omega)]
      show lclS p p _ _ = _
      unfold lclS
      have e : (if L.getD i 0 < p then L.getD i 0 else L.getD i 0 - (p - p)) = L.getD i 0 := by split <;> omega
      rw [e, if_neg]
      intro z
      rcases z with z | z
      · omega
      · obtain ⟨k, h1, h2, h3⟩ := mem_take z
        have := h.1 k i h1 (by omega); omega
  have := key L.length (Nat.le_refl _)
  rwa [List.take_length] at this
def rmL (L : List Nat) (p q a : Nat) : List Nat := L.take a ++ (L.drop a).filter (rmP L p q)
theorem rmL_len {L : List Nat} {p q a : Nat} (h : a ≤ L.length) : a ≤ (rmL L p q a).length ∧ (rmL L p q a).length ≤ L.length := by
  unfold rmL
  have := List.length_filter_le (rmP L p q) (L.drop a)
  rw [List.length_append, List.length_take]
  rw [List.length_drop] at this
  omega
theorem rmL_get {L : List Nat} {p q a k : Nat} (h : a ≤ L.length) (hk : k < a) : (rmL L p q a).getD k 0 = L.getD k 0 := by
  unfold rmL
  rw [List.getD_eq_getElem?_getD, List.getElem?_append_left (by rw [List.length_take]; omega), List.getElem?_take_of_lt hk, ← List.getD_eq_getElem?_getD]
theorem drop_get {L : List Nat} {i : Nat} (h : i < L.length) : L.drop i = L.getD i 0 :: L.drop (i + 1) := by rw [List.drop_eq_getElem_cons h, gD_lt h]
theorem rmL_keep {L : List Nat} {p q a : Nat} (h : a < L.length) (hp : rmP L p q (L.getD a 0) = true) : rmL L p q (a + 1) = rmL L p q a := by
  unfold rmL
  rw [drop_get h, List.filter_cons_of_pos hp, take_get h, List.append_assoc]; rfl
theorem rmL_drop {L : List Nat} {p q a : Nat} (h : a < L.length) (hp : rmP L p q (L.getD a 0) = false) : (rmL L p q (a + 1)).eraseIdx a = rmL L p q a := by
  unfold rmL
  have hl : (L.take a).length = a := by rw [List.length_take]; omega
  rw [drop_get h, List.filter_cons_of_neg (by rw [hp]; decide), take_get h, List.append_assoc, List.eraseIdx_append_of_length_le (by omega), hl, Nat.sub_self]; rfl
theorem rmL_mem {L : List Nat} {p q a : Nat} (hpq : p < q) : p ∈ rmL L p q a ↔ p ∈ L := by
  unfold rmL
  have hp : rmP L p q p = true := by unfold rmP; simp; omega
  rw [List.mem_append, List.mem_filter]
  constructor
  · rintro (z | z)
    · exact List.mem_of_mem_take z
    · exact List.mem_of_mem_drop z.1
  · intro z
    rw [← List.take_append_drop a L] at z
    rcases List.mem_append.mp z with z | z
    · exact Or.inl z
    · exact Or.inr ⟨z, hp⟩
theorem rmL_0 {L : List Nat} {p q : Nat} : rmL L p q 0 = L.filter (rmP L p q) := by unfold rmL; simp
theorem rmL_n {L : List Nat} {p q : Nat} : rmL L p q L.length = L := by unfold rmL; simp
set_option maxRecDepth 100000 in
set_option maxHeartbeats 4000000 in
theorem c_X13_marks {g : zGT} {w : zW} {b : Nat} {th ch ea fa sv tn po en ln kn wr dg : Int32} {fv fb fs fp fh ft fl fi : Nat → Int32} {S : zSt} {x : Int32} (h0 : zG0 g) (h : Mx g w b th ch ea fa sv tn po en ln kn wr dg fv fb fs fp fh ft fl fi) (hv : VS fv S) : zCt g mX13_marks (zR 1 0) [.ref (za g b), .int (x)] w (fun o w' => ∃ th' f' r, o = .inl (some (.int r)) ∧ zFr w w' b (b + 11) ∧ Mx g w' b (th') ch ea fa sv tn po en ln kn wr dg (f') fb fs fp fh ft fl fi ∧ th' = (if spF 9 x.toInt 0 0 S = 0 then th else nI (plc 9 (spF 9 x.toInt 0 0 S))) ∧ VS f' (if spF 9 x.toInt 0 0 S = 0 then spS 9 x.toInt 0 0 S else S) ∧ (spF 9 x.toInt 0 0 S = 0 → r = nI (spA 9 x.toInt 0 0 S))) := by
  have hb := h.1
  have hl := hv.len
  refine zCt_of (by decide +kernel) h0 [(0, .ref (za g b)), (1, .int (x))] rfl (Nat.le_of_ble_eq_true rfl) ?_
  have loop : fMark S.1.length S.2.1 x.toInt = 0 → x.toInt.toNat ∉ S.2.1 → S.2.1.length < 6 → ∀ (mm : Nat) (a : Nat) (wi : zW) (f9 : Nat → Int32), a < mm → (zFr w wi b (b + 11)) → (Mx g wi b th ch ea fa sv tn po en ln kn wr dg f9 fb fs fp fh ft fl fi) → (a ≤ S.2.1.length) → (∀ k, k < 410 → f9 k = (if 204 + a < k ∧ k ≤ 204 + S.2.1.length then fv (k - 1) else fv k)) → (∀ q, a ≤ q → q < S.2.1.length → x.toInt.toNat < S.2.1.getD q 0) → zTr g mX13_marks (zR 1 0) 0 0 54 [(0, .ref (za g b)), (1, .int (nI (x.toInt.toNat))), (2, .int (nI (a)))] [] wi (fun o w' => ∃ th' f' r, o = .inl (some (.int r)) ∧ zFr w w' b (b + 11) ∧ Mx g w' b (th') ch ea fa sv tn po en ln kn wr dg (f') fb fs fp fh ft fl fi ∧ th' = (if spF 9 x.toInt 0 0 S = 0 then th else nI (plc 9 (spF 9 x.toInt 0 0 S))) ∧ VS f' (if spF 9 x.toInt 0 0 S = 0 then spS 9 x.toInt 0 0 S else S) ∧ (spF 9 x.toInt 0 0 S = 0 → r = nI (spA 9 x.toInt 0 0 S))) := by
    intro hF0 hnm hl6
    have hp0 := fMark0 hF0
    intro mm
    induction mm with
    | zero => intros; omega
    | succ mm ih =>
      intro a wi f9 hm hfi hmi haL hi hgt
      refine z_iload_n dX13_marks_54 rfl ?_
      refine z_if_le_n (a := a) (tgt := 102) dX13_marks_55 (by decide) (by omega) (fun h_55_1 => ?_) (fun h_55_1 => ?_)
      · refine z_aload_n dX13_marks_102 rfl ?_
        refine z_getf (j := b) dX13_marks_103 kF_RX13_16 rfl (by omega) hmi.ce rfl ?_
        refine z_sipush (v := nI 204) dX13_marks_106 rfl ?_
        refine z_iload_n dX13_marks_109 rfl ?_
        refine z_iadd_n (a := 204) (b := a) dX13_marks_110 ?_
        refine z_iload_n dX13_marks_111 rfl ?_
        refine z_iast_n (j := b + 1) (N := 410) (a := (204) + (a)) (f := f9) dX13_marks_112 (by omega) hmi.r1 (by omega) (by omega) ?_
        obtain ⟨w2, ew3⟩ : ∃ wz : zW, wz = va_up wi (b + 1) (zI g 410 (upd (f9) ((204) + (a)) ((nI (x.toInt.toNat))))) := ⟨_, rfl⟩
        refine z_weq (w' := w2) ew3.symm ?_
        have hf4 : zFr wi w2 (b + 1) (b + 1 + 1) := by rw [ew3]; exact zFr.up (by omega)
        have hw5 : w2 (b + 1) = zI g 410 (upd (f9) ((204) + (a)) ((nI (x.toInt.toNat)))) := by rw [ew3, zup_s]
        have hx6 := hmi.setV hf4 hw5
        refine z_aload_n dX13_marks_113 rfl ?_
        refine z_getf (j := b) dX13_marks_114 kF_RX13_16 rfl (by omega) hx6.ce rfl ?_
        refine z_iconst (v := nI 1) dX13_marks_117 rfl ?_
        refine z_dup2 dX13_marks_118 rfl rfl ?_
        refine z_iald_v (j := b + 1) (N := 410) (a := 1) (x := S.2.1.length) (f := upd (f9) ((204) + (a)) ((nI (x.toInt.toNat)))) dX13_marks_119 (by omega) hx6.r1 (by omega) (by omega) (by simp only [upd]; rw [if_neg (by omega), hi _ (by omega), if_neg (by omega)]; exact hv.mks) ?_
        refine z_iconst (v := nI 1) dX13_marks_120 rfl ?_
        refine z_iadd_n (a := S.2.1.length) (b := 1) dX13_marks_121 ?_
        refine z_iast_n (j := b + 1) (N := 410) (a := 1) (f := upd (f9) ((204) + (a)) ((nI (x.toInt.toNat)))) dX13_marks_122 (by omega) hx6.r1 (by omega) (by omega) ?_
        obtain ⟨w7, ew8⟩ : ∃ wz : zW, wz = va_up w2 (b + 1) (zI g 410 (upd (upd (f9) ((204) + (a)) ((nI (x.toInt.toNat)))) (1) ((nI ((S.2.1.length) + (1)))))) := ⟨_, rfl⟩
        refine z_weq (w' := w7) ew8.symm ?_
        have hf9 : zFr w2 w7 (b + 1) (b + 1 + 1) := by rw [ew8]; exact zFr.up (by omega)
        have hw10 : w7 (b + 1) = zI g 410 (upd (upd (f9) ((204) + (a)) ((nI (x.toInt.toNat)))) (1) ((nI ((S.2.1.length) + (1))))) := by rw [ew8, zup_s]
        have hx11 := hx6.setV hf9 hw10
        refine z_iconst (v := nI 1) dX13_marks_123 rfl ?_
        refine z_iret dX13_marks_124 rfl (by decide) (by decide) ?_
        have hF : spF 9 x.toInt 0 0 S = 0 := hF0
        have hlt : ∀ k, k < a → S.2.1.getD k 0 ≤ x.toInt.toNat := fun k hk => by
          have := hv.mo.mono k (a - 1) (by omega) (by omega)
          omega
        have hls := lins_at (t := x.toInt.toNat) (L := S.2.1) (j := a) haL hlt hgt
        refine ⟨_, _, _, rfl, hfi.tr ((hf4.wk (by omega) (by omega)).tr (hf9.wk (by omega) (by omega))), hx11, by rw [if_pos hF], ?_, fun _ => by show _ = nI (if x.toInt.toNat ∈ S.2.1 then 0 else 1); rw [if_neg hnm]⟩
        rw [if_pos hF]
        show VS _ (S.1, (if x.toInt.toNat ∈ S.2.1 then S.2.1 else lins x.toInt.toNat S.2.1), S.2.2)
        rw [if_neg hnm]
        have hll : (lins x.toInt.toNat S.2.1).length = S.2.1.length + 1 := by rw [hls, List.length_append, List.length_cons, List.length_take, List.length_drop]; omega
        refine hv.mkM ?_ (by simp only [upd]; rw [if_pos trivial, hll]) ?_ ?_ (fun k hk => ?_) (fun m hm => ?_) (fun k hk => ?_) (hv.mo.ins (by omega) hnm hl6)
        · simp only [upd]; rw [if_neg (by omega), if_neg (by omega), hi _ (by omega), if_neg (by omega)]
        · simp only [upd]; rw [if_neg (by omega), if_neg (by omega), hi _ (by omega), if_neg (by omega)]
        · simp only [upd]; rw [if_neg (by omega), if_neg (by omega), hi _ (by omega), if_neg (by omega)]
        · simp only [upd]; rw [if_neg (by omega), if_neg (by omega), hi _ (by omega), if_neg (by omega)]
        · rw [hll] at hm
          rw [hls, gD_mid haL]
          simp only [upd]; rw [if_neg (by omega)]
          by_cases c1 : m < a
          · rw [if_neg (by omega), if_pos c1, hi _ (by omega), if_neg (by omega)]; exact hv.mark (by omega)
          · by_cases c2 : m = a
            · rw [if_pos (by omega), if_neg c1, if_pos c2]
            · rw [if_neg (by omega), if_neg c1, if_neg c2, hi _ (by omega), if_pos (by omega), show 204 + m - 1 = 204 + (m - 1) by omega]; exact hv.mark (by omega)
        · simp only [upd]; rw [if_neg (by omega), if_neg (by omega), hi _ (by omega), if_neg (by omega)]
      · refine z_aload_n dX13_marks_58 rfl ?_
        refine z_getf (j := b) dX13_marks_59 kF_RX13_16 rfl (by omega) hmi.ce rfl ?_
        refine z_sipush (v := nI 204) dX13_marks_62 rfl ?_
        refine z_iload_n dX13_marks_65 rfl ?_
        refine z_iadd_n (a := 204) (b := a) dX13_marks_66 ?_
        refine z_iconst (v := nI 1) dX13_marks_67 rfl ?_
        refine z_isub_n (a := (204) + (a)) (b := 1) dX13_marks_68 (by omega) ?_
        refine z_iald_v (j := b + 1) (N := 410) (a := ((204) + (a)) - (1)) (x := S.2.1.getD (a - 1) 0) (f := f9) dX13_marks_69 (by omega) hmi.r1 (by omega) (by omega) (by rw [show ((204) + (a)) - (1) = 204 + (a - 1) by omega, hi _ (by omega), if_neg (by omega)]; exact hv.mark (by omega)) ?_
        refine z_iload_n dX13_marks_70 rfl ?_
        have hmk := hv.mo.2.1 (a - 1) (by omega)
        refine z_icmp_le_n (a := S.2.1.getD (a - 1) 0) (b := x.toInt.toNat) (tgt := 102) dX13_marks_71 (by decide) (by omega) (by omega) (fun h_71_12 => ?_) (fun h_71_12 => ?_)
        · refine z_aload_n dX13_marks_102 rfl ?_
          refine z_getf (j := b) dX13_marks_103 kF_RX13_16 rfl (by omega) hmi.ce rfl ?_
          refine z_sipush (v := nI 204) dX13_marks_106 rfl ?_
          refine z_iload_n dX13_marks_109 rfl ?_
          refine z_iadd_n (a := 204) (b := a) dX13_marks_110 ?_
          refine z_iload_n dX13_marks_111 rfl ?_
          refine z_iast_n (j := b + 1) (N := 410) (a := (204) + (a)) (f := f9) dX13_marks_112 (by omega) hmi.r1 (by omega) (by omega) ?_
          obtain ⟨w13, ew14⟩ : ∃ wz : zW, wz = va_up wi (b + 1) (zI g 410 (upd (f9) ((204) + (a)) ((nI (x.toInt.toNat))))) := ⟨_, rfl⟩
          refine z_weq (w' := w13) ew14.symm ?_
          have hf15 : zFr wi w13 (b + 1) (b + 1 + 1) := by rw [ew14]; exact zFr.up (by omega)
          have hw16 : w13 (b + 1) = zI g 410 (upd (f9) ((204) + (a)) ((nI (x.toInt.toNat)))) := by rw [ew14, zup_s]
          have hx17 := hmi.setV hf15 hw16
          refine z_aload_n dX13_marks_113 rfl ?_
          refine z_getf (j := b) dX13_marks_114 kF_RX13_16 rfl (by omega) hx17.ce rfl ?_
          refine z_iconst (v := nI 1) dX13_marks_117 rfl ?_
          refine z_dup2 dX13_marks_118 rfl rfl ?_
          refine z_iald_v (j := b + 1) (N := 410) (a := 1) (x := S.2.1.length) (f := upd (f9) ((204) + (a)) ((nI (x.toInt.toNat)))) dX13_marks_119 (by omega) hx17.r1 (by omega) (by omega) (by simp only [upd]; rw [if_neg (by omega), hi _ (by omega), if_neg (by omega)]; exact hv.mks) ?_
          refine z_iconst (v := nI 1) dX13_marks_120 rfl ?_
          refine z_iadd_n (a := S.2.1.length) (b := 1) dX13_marks_121 ?_
          refine z_iast_n (j := b + 1) (N := 410) (a := 1) (f := upd (f9) ((204) + (a)) ((nI (x.toInt.toNat)))) dX13_marks_122 (by omega) hx17.r1 (by omega) (by omega) ?_
          obtain ⟨w18, ew19⟩ : ∃ wz : zW, wz = va_up w13 (b + 1) (zI g 410 (upd (upd (f9) ((204) + (a)) ((nI (x.toInt.toNat)))) (1) ((nI ((S.2.1.length) + (1)))))) := ⟨_, rfl⟩
          refine z_weq (w' := w18) ew19.symm ?_
          have hf20 : zFr w13 w18 (b + 1) (b + 1 + 1) := by rw [ew19]; exact zFr.up (by omega)
          have hw21 : w18 (b + 1) = zI g 410 (upd (upd (f9) ((204) + (a)) ((nI (x.toInt.toNat)))) (1) ((nI ((S.2.1.length) + (1))))) := by rw [ew19, zup_s]
          have hx22 := hx17.setV hf20 hw21
          refine z_iconst (v := nI 1) dX13_marks_123 rfl ?_
          refine z_iret dX13_marks_124 rfl (by decide) (by decide) ?_
          have hF : spF 9 x.toInt 0 0 S = 0 := hF0
          have hlt : ∀ k, k < a → S.2.1.getD k 0 ≤ x.toInt.toNat := fun k hk => by
            have := hv.mo.mono k (a - 1) (by omega) (by omega)
            omega
          have hls := lins_at (t := x.toInt.toNat) (L := S.2.1) (j := a) haL hlt hgt
          refine ⟨_, _, _, rfl, hfi.tr ((hf15.wk (by omega) (by omega)).tr (hf20.wk (by omega) (by omega))), hx22, by rw [if_pos hF], ?_, fun _ => by show _ = nI (if x.toInt.toNat ∈ S.2.1 then 0 else 1); rw [if_neg hnm]⟩
          rw [if_pos hF]
          show VS _ (S.1, (if x.toInt.toNat ∈ S.2.1 then S.2.1 else lins x.toInt.toNat S.2.1), S.2.2)
          rw [if_neg hnm]
          have hll : (lins x.toInt.toNat S.2.1).length = S.2.1.length + 1 := by rw [hls, List.length_append, List.length_cons, List.length_take, List.length_drop]; omega
          refine hv.mkM ?_ (by simp only [upd]; rw [if_pos trivial, hll]) ?_ ?_ (fun k hk => ?_) (fun m hm => ?_) (fun k hk => ?_) (hv.mo.ins (by omega) hnm hl6)
          · simp only [upd]; rw [if_neg (by omega), if_neg (by omega), hi _ (by omega), if_neg (by omega)]
          · simp only [upd]; rw [if_neg (by omega), if_neg (by omega), hi _ (by omega), if_neg (by omega)]
          · simp only [upd]; rw [if_neg (by omega), if_neg (by omega), hi _ (by omega), if_neg (by omega)]
          · simp only [upd]; rw [if_neg (by omega), if_neg (by omega), hi _ (by omega), if_neg (by omega)]
          · rw [hll] at hm
            rw [hls, gD_mid haL]
            simp only [upd]; rw [if_neg (by omega)]
            by_cases c1 : m < a
            · rw [if_neg (by omega), if_pos c1, hi _ (by omega), if_neg (by omega)]; exact hv.mark (by omega)
            · by_cases c2 : m = a
              · rw [if_pos (by omega), if_neg c1, if_pos c2]
              · rw [if_neg (by omega), if_neg c1, if_neg c2, hi _ (by omega), if_pos (by omega), show 204 + m - 1 = 204 + (m - 1) by omega]; exact hv.mark (by omega)
          · simp only [upd]; rw [if_neg (by omega), if_neg (by omega), hi _ (by omega), if_neg (by omega)]
        · refine z_aload_n dX13_marks_74 rfl ?_
          refine z_getf (j := b) dX13_marks_75 kF_RX13_16 rfl (by omega) hmi.ce rfl ?_
          refine z_sipush (v := nI 204) dX13_marks_78 rfl ?_
          refine z_iload_n dX13_marks_81 rfl ?_
          refine z_iadd_n (a := 204) (b := a) dX13_marks_82 ?_
          refine z_aload_n dX13_marks_83 rfl ?_
          refine z_getf (j := b) dX13_marks_84 kF_RX13_16 rfl (by omega) hmi.ce rfl ?_
          refine z_sipush (v := nI 204) dX13_marks_87 rfl ?_
          refine z_iload_n dX13_marks_90 rfl ?_
          refine z_iadd_n (a := 204) (b := a) dX13_marks_91 ?_
          refine z_iconst (v := nI 1) dX13_marks_92 rfl ?_
          refine z_isub_n (a := (204) + (a)) (b := 1) dX13_marks_93 (by omega) ?_
          refine z_iald_v (j := b + 1) (N := 410) (a := ((204) + (a)) - (1)) (x := S.2.1.getD (a - 1) 0) (f := f9) dX13_marks_94 (by omega) hmi.r1 (by omega) (by omega) (by rw [show ((204) + (a)) - (1) = 204 + (a - 1) by omega, hi _ (by omega), if_neg (by omega)]; exact hv.mark (by omega)) ?_
          refine z_iast_n (j := b + 1) (N := 410) (a := (204) + (a)) (f := f9) dX13_marks_95 (by omega) hmi.r1 (by omega) (by omega) ?_
          obtain ⟨w23, ew24⟩ : ∃ wz : zW, wz = va_up wi (b + 1) (zI g 410 (upd (f9) ((204) + (a)) ((nI (S.2.1.getD (a - 1) 0))))) := ⟨_, rfl⟩
          refine z_weq (w' := w23) ew24.symm ?_
          have hf25 : zFr wi w23 (b + 1) (b + 1 + 1) := by rw [ew24]; exact zFr.up (by omega)
          have hw26 : w23 (b + 1) = zI g 410 (upd (f9) ((204) + (a)) ((nI (S.2.1.getD (a - 1) 0)))) := by rw [ew24, zup_s]
          have hx27 := hmi.setV hf25 hw26
          refine z_idec_n (a := a) (lv' := [(0, .ref (za g b)), (1, .int (nI (x.toInt.toNat))), (2, .int (nI (a - 1)))]) dX13_marks_96 rfl (by omega) (by decide) rfl ?_
          refine z_goto (tgt := 54) dX13_marks_99 (by decide) ?_
          refine ih (a - 1) _ _ (by omega) (hfi.tr (hf25.wk (by omega) (by omega))) hx27 (by omega) (fun k hk => ?_) (fun q hq1 hq2 => ?_)
          · simp only [upd]
            by_cases c : k = 204 + a
            · rw [if_pos c, c, if_pos (by omega), show 204 + a - 1 = 204 + (a - 1) by omega]; exact (hv.mark (by omega)).symm
            · rw [if_neg c, hi k hk]
              (repeat' split) <;> first | rfl | (exfalso; omega)
          · by_cases c : q = a - 1
            · rw [c]; omega
            · exact hgt q (by omega) hq2
  refine z_iload_n dX13_marks_0 rfl ?_
  refine z_iconst (v := nI 0) dX13_marks_1 rfl ?_
  refine z_aload_n dX13_marks_2 rfl ?_
  refine z_getf (j := b) dX13_marks_3 kF_RX13_16 rfl (by omega) h.ce rfl ?_
  refine z_iconst (v := nI 0) dX13_marks_6 rfl ?_
  refine z_iald_v (j := b + 1) (N := 410) (a := 0) (x := S.1.length) (f := fv) dX13_marks_7 (by omega) h.r1 (by omega) (by omega) (hv.dur) ?_
  by_cases hc1 : ((0 : Nat) : Int) ≤ ((x)).toInt ∧ ((x)).toInt ≤ ((S.1.length : Nat) : Int)
  · refine z_callSE (As := [.int (x), .int (nI (0)), .int (nI (S.1.length))]) (rest := []) (v := some (.int (nI (1)))) (R2 := zR 0 0) dX13_marks_8 kS_RX13_57 rfl rfl ⟨⟨by decide, by decide⟩, by decide, by decide⟩ rfl (Nat.le_of_ble_eq_true rfl) rfl (c_X13_isIn_y (x := (x)) (y := (nI (0))) (z := (nI (S.1.length))) h0 (by have q0 := nI_toInt (n := 0) (by omega); have q1 := nI_toInt (n := S.1.length) (by omega); omega)) ?_
    refine z_if_ne_n (a := 1) (tgt := 20) dX13_marks_11 (by decide) (by omega) (fun h_11_3 => ?_) (fun h_11_3 => ?_)
    · refine z_aload_n dX13_marks_20 rfl ?_
      refine z_iload_n dX13_marks_21 rfl ?_
      refine z_callV (As := [.int (x)]) (rest := []) (b := b) (ci := 12) (R2 := zR 0 0) dX13_marks_22 kV_RX13_90 rfl ⟨⟨by decide, by decide⟩, by decide, by decide⟩ (by omega) h.ce rfl rfl rfl (Nat.le_of_ble_eq_true rfl) rfl (c_X13_markerAt (x := (x)) h0 h hv) (fun E w1 h => by rcases h with ⟨-, ⟨e, -⟩ | ⟨r, -, e, -⟩⟩ <;> cases e) (fun v4 w5 h6 => ?_)
      rcases h6 with ⟨ew, ⟨ev, e9⟩ | ⟨d, hd, ev, e9, e8⟩⟩
      · subst ew
        cases ev
        refine z_if_lt_z (tgt := 30) dX13_marks_25 (by decide) (fun h_25_7 => ?_) (fun h_25_7 => ?_)
        · refine z_aload_n dX13_marks_30 rfl ?_
          refine z_getf (j := b) dX13_marks_31 kF_RX13_16 rfl (by omega) h.ce rfl ?_
          refine z_iconst (v := nI 1) dX13_marks_34 rfl ?_
          refine z_iald_v (j := b + 1) (N := 410) (a := 1) (x := S.2.1.length) (f := fv) dX13_marks_35 (by omega) h.r1 (by omega) (by omega) (hv.mks) ?_
          refine z_bipush (v := nI 6) dX13_marks_36 rfl ?_
          refine z_icmp_ne_n (a := S.2.1.length) (b := 6) (tgt := 47) dX13_marks_38 (by decide) (by omega) (by omega) (fun h_38_8 => ?_) (fun h_38_8 => ?_)
          · refine z_eq (lv' := [(0, .ref (za g b)), (1, .int (nI (x.toInt.toNat)))]) rfl rfl (by rw [← i_nat (x := x) (by omega)]) ?_
            refine z_aload_n dX13_marks_47 rfl ?_
            refine z_getf (j := b) dX13_marks_48 kF_RX13_16 rfl (by omega) h.ce rfl ?_
            refine z_iconst (v := nI 1) dX13_marks_51 rfl ?_
            refine z_iald_v (j := b + 1) (N := 410) (a := 1) (x := S.2.1.length) (f := fv) dX13_marks_52 (by omega) h.r1 (by omega) (by omega) (hv.mks) ?_
            refine z_istore_n (lv' := [(0, .ref (za g b)), (1, .int (nI (x.toInt.toNat))), (2, .int (nI (S.2.1.length)))]) dX13_marks_53 (by decide) rfl ?_
            have hnm : x.toInt.toNat ∉ S.2.1 := (lidx_mem2 (t := x.toInt) (L := S.2.1) (by omega)).mp e9
            have hF0 : fMark S.1.length S.2.1 x.toInt = 0 := by unfold fMark; rw [if_pos (by omega), if_neg (fun z => by omega)]
            exact loop hF0 hnm (by omega) (S.2.1.length + 1) S.2.1.length _ fv (by omega) zFr.rf h (Nat.le_refl _) (fun k hk => by rw [if_neg (by omega)]) (fun q h8 h9 => by omega)
          · refine z_aload_n dX13_marks_41 rfl ?_
            refine z_iconst (v := nI 2) dX13_marks_42 rfl ?_
            refine z_callR (As := [.int (nI (2))]) (rest := []) (b := b) (ci := 12) (v := some (.int (nI (0)))) (R2 := zR 0 0) dX13_marks_43 kV_RX13_61 rfl ⟨⟨by decide, by decide⟩, by decide, by decide⟩ (by omega) h.ce rfl rfl rfl (Nat.le_of_ble_eq_true rfl) rfl (c_X13_fail (x := (nI (2))) h0 h) (fun w9 pw9 => ?_)
            obtain ⟨hf10, hx11⟩ := pw9
            refine z_iret dX13_marks_46 rfl (by decide) (by decide) ?_
            have hnm : x.toInt.toNat ∉ S.2.1 := (lidx_mem2 (t := x.toInt) (L := S.2.1) (by omega)).mp e9
            have hF : spF 9 x.toInt 0 0 S = 3 := by simp only [spF]; unfold fMark; rw [if_pos (by omega), if_pos ⟨hnm, by omega⟩]
            exact ⟨_, _, _, rfl, hf10, hx11, by rw [hF]; rfl, by rw [if_neg (by rw [hF]; decide)]; exact hv, fun q9 => absurd (hF.symm.trans q9) (by decide)⟩
        · (have q9 := h_25_7; rw [show (-1 : Int32).toInt = -1 from rfl] at q9; omega)
      · subst ew
        cases ev
        refine z_if_lt_n (a := d) dX13_marks_25 30 (by decide) (by omega) ?_
        refine z_iconst (v := nI 0) dX13_marks_28 rfl ?_
        refine z_iret dX13_marks_29 rfl (by decide) (by decide) ?_
        have q9 : S.2.1.getD d 0 = x.toInt.toNat := by omega
        have hmem : x.toInt.toNat ∈ S.2.1 := by rw [← q9]; exact get_mem hd
        have hF : spF 9 x.toInt 0 0 S = 0 := by show fMark _ _ _ = 0; unfold fMark; rw [if_pos (by omega), if_neg (fun z => z.1 hmem)]
        exact ⟨_, _, _, rfl, zFr.rf, h, by rw [if_pos hF], by rw [if_pos hF]; show VS _ (S.1, (if x.toInt.toNat ∈ S.2.1 then S.2.1 else lins x.toInt.toNat S.2.1), S.2.2); rw [if_pos hmem]; exact hv, fun _ => by show _ = nI (if x.toInt.toNat ∈ S.2.1 then 0 else 1); rw [if_pos hmem]⟩
    · exact absurd h_11_3 (by decide)
  · refine z_callSE (As := [.int (x), .int (nI (0)), .int (nI (S.1.length))]) (rest := []) (v := some (.int (nI (0)))) (R2 := zR 0 0) dX13_marks_8 kS_RX13_57 rfl rfl ⟨⟨by decide, by decide⟩, by decide, by decide⟩ rfl (Nat.le_of_ble_eq_true rfl) rfl (c_X13_isIn_n (x := (x)) (y := (nI (0))) (z := (nI (S.1.length))) h0 (by have q0 := nI_toInt (n := 0) (by omega); have q1 := nI_toInt (n := S.1.length) (by omega); omega)) ?_
    refine z_if_ne_n (a := 0) (tgt := 20) dX13_marks_11 (by decide) (by omega) (fun h_11_14 => ?_) (fun h_11_14 => ?_)
    · exact absurd h_11_14 (by decide)
    · refine z_aload_n dX13_marks_14 rfl ?_
      refine z_iconst (v := nI 1) dX13_marks_15 rfl ?_
      refine z_callR (As := [.int (nI (1))]) (rest := []) (b := b) (ci := 12) (v := some (.int (nI (0)))) (R2 := zR 0 0) dX13_marks_16 kV_RX13_61 rfl ⟨⟨by decide, by decide⟩, by decide, by decide⟩ (by omega) h.ce rfl rfl rfl (Nat.le_of_ble_eq_true rfl) rfl (c_X13_fail (x := (nI (1))) h0 h) (fun w15 pw15 => ?_)
      obtain ⟨hf16, hx17⟩ := pw15
      refine z_iret dX13_marks_19 rfl (by decide) (by decide) ?_
      have hF : spF 9 x.toInt 0 0 S = 1 := by simp only [spF]; unfold fMark; rw [if_neg (by omega)]
      exact ⟨_, _, _, rfl, hf16, hx17, by rw [hF]; rfl, by rw [if_neg (by rw [hF]; decide)]; exact hv, fun q9 => absurd (hF.symm.trans q9) (by decide)⟩
set_option maxRecDepth 100000 in
set_option maxHeartbeats 4000000 in
theorem c_X13_removes {g : zGT} {w : zW} {b : Nat} {th ch ea fa sv tn po en ln kn wr dg : Int32} {fv fb fs fp fh ft fl fi : Nat → Int32} {S : zSt} {x y : Int32} (h0 : zG0 g) (h : Mx g w b th ch ea fa sv tn po en ln kn wr dg fv fb fs fp fh ft fl fi) (hv : VS fv S) : zCt g mX13_removes (zR 1 0) [.ref (za g b), .int (x), .int (y)] w (fun o w' => ∃ th' f' r, o = .inl (some (.int r)) ∧ zFr w w' b (b + 11) ∧ Mx g w' b (th') ch ea fa sv tn po en ln kn wr dg (f') fb fs fp fh ft fl fi ∧ th' = (if spF 2 x.toInt y.toInt 0 S = 0 then th else nI (plc 2 (spF 2 x.toInt y.toInt 0 S))) ∧ VS f' (if spF 2 x.toInt y.toInt 0 S = 0 then spS 2 x.toInt y.toInt 0 S else S) ∧ (spF 2 x.toInt y.toInt 0 S = 0 → r = nI (spA 2 x.toInt y.toInt 0 S))) := by
  have hb := h.1
  have hl := hv.len
  refine zCt_of (by decide +kernel) h0 [(0, .ref (za g b)), (1, .int (x)), (2, .int (y))] rfl (Nat.le_of_ble_eq_true rfl) ?_
  have loop2 : ∀ f5 : Nat → Int32, VS f5 (S.1, (rmL S.2.1 x.toInt.toNat y.toInt.toNat 0), S.2.2) → (∀ k, k < S.2.2.1.length → f5 (210 + k) = fv (210 + k)) → fIv S.1.length x.toInt y.toInt = 0 → x.toInt.toNat < y.toInt.toNat → ∀ (mm : Nat) (i : Nat) (wi : zW) (f9 : Nat → Int32), (rmL S.2.1 x.toInt.toNat y.toInt.toNat 0).length + 1 - i < mm → (zFr w wi b (b + 11)) → (Mx g wi b th ch ea fa sv tn po en ln kn wr dg f9 fb fs fp fh ft fl fi) → (i ≤ (rmL S.2.1 x.toInt.toNat y.toInt.toNat 0).length) → (∀ k, k < 410 → f9 k = (if 204 ≤ k ∧ k < 204 + i then nI (rmC x.toInt.toNat y.toInt.toNat ((rmL S.2.1 x.toInt.toNat y.toInt.toNat 0).getD (k - 204) 0)) else f5 k)) → zTr g mX13_removes (zR 1 0) 0 0 125 [(0, .ref (za g b)), (1, .int (nI (x.toInt.toNat))), (2, .int (nI (y.toInt.toNat))), (3, .int (nI ((y.toInt.toNat) - (x.toInt.toNat)))), (4, .int (nI (i)))] [] wi (fun o w' => ∃ th' f' r, o = .inl (some (.int r)) ∧ zFr w w' b (b + 11) ∧ Mx g w' b (th') ch ea fa sv tn po en ln kn wr dg (f') fb fs fp fh ft fl fi ∧ th' = (if spF 2 x.toInt y.toInt 0 S = 0 then th else nI (plc 2 (spF 2 x.toInt y.toInt 0 S))) ∧ VS f' (if spF 2 x.toInt y.toInt 0 S = 0 then spS 2 x.toInt y.toInt 0 S else S) ∧ (spF 2 x.toInt y.toInt 0 S = 0 → r = nI (spA 2 x.toInt y.toInt 0 S))) := by
    intro f5 hv5 hck hF0 hxy
    have hp0 := fIv0 hF0
    have hlf := (rmL_len (L := S.2.1) (p := x.toInt.toNat) (q := y.toInt.toNat) (a := 0) (Nat.zero_le _)).2
    have loop4 : ∀ (mm : Nat) (i : Nat) (wi : zW) (f9 : Nat → Int32), S.1.length + 1 - i < mm → (zFr w wi b (b + 11)) → (Mx g wi b th ch ea fa sv tn po en ln kn wr dg f9 fb fs fp fh ft fl fi) → (S.1.length - ((y.toInt.toNat) - (x.toInt.toNat)) ≤ i) → (i ≤ S.1.length) → (∀ k, k < 410 → f9 k = (if 4 + (S.1.length - ((y.toInt.toNat) - (x.toInt.toNat))) ≤ k ∧ k < 4 + i then nI 0 else (if 4 + x.toInt.toNat ≤ k ∧ k < 4 + S.1.length - ((y.toInt.toNat) - (x.toInt.toNat)) then f5 (k + ((y.toInt.toNat) - (x.toInt.toNat))) else (if 204 ≤ k ∧ k < 204 + (rmL S.2.1 x.toInt.toNat y.toInt.toNat 0).length then nI (rmC x.toInt.toNat y.toInt.toNat ((rmL S.2.1 x.toInt.toNat y.toInt.toNat 0).getD (k - 204) 0)) else f5 k)))) → zTr g mX13_removes (zR 1 0) 0 0 226 [(0, .ref (za g b)), (1, .int (nI (x.toInt.toNat))), (2, .int (nI (y.toInt.toNat))), (3, .int (nI ((y.toInt.toNat) - (x.toInt.toNat)))), (4, .int (nI (i)))] [] wi (fun o w' => ∃ th' f' r, o = .inl (some (.int r)) ∧ zFr w w' b (b + 11) ∧ Mx g w' b (th') ch ea fa sv tn po en ln kn wr dg (f') fb fs fp fh ft fl fi ∧ th' = (if spF 2 x.toInt y.toInt 0 S = 0 then th else nI (plc 2 (spF 2 x.toInt y.toInt 0 S))) ∧ VS f' (if spF 2 x.toInt y.toInt 0 S = 0 then spS 2 x.toInt y.toInt 0 S else S) ∧ (spF 2 x.toInt y.toInt 0 S = 0 → r = nI (spA 2 x.toInt y.toInt 0 S))) := by
      intro mm
      induction mm with
      | zero => intros; omega
      | succ mm ih =>
        intro i wi f9 hm hfi hmi hni hin hi
        refine z_iload dX13_removes_226 rfl ?_
        refine z_aload_n dX13_removes_228 rfl ?_
        refine z_getf (j := b) dX13_removes_229 kF_RX13_16 rfl (by omega) hmi.ce rfl ?_
        refine z_iconst (v := nI 0) dX13_removes_232 rfl ?_
        refine z_iald_v (j := b + 1) (N := 410) (a := 0) (x := S.1.length) (f := f9) dX13_removes_233 (by omega) hmi.r1 (by omega) (by omega) (by rw [hi _ (by omega), if_neg (by omega), if_neg (by omega), if_neg (by omega)]; exact hv5.dur) ?_
        refine z_icmp_ge_n (a := i) (b := S.1.length) (tgt := 253) dX13_removes_234 (by decide) (by omega) (by omega) (fun h_234_1 => ?_) (fun h_234_1 => ?_)
        · refine z_aload_n dX13_removes_253 rfl ?_
          refine z_getf (j := b) dX13_removes_254 kF_RX13_16 rfl (by omega) hmi.ce rfl ?_
          refine z_iconst (v := nI 0) dX13_removes_257 rfl ?_
          refine z_dup2 dX13_removes_258 rfl rfl ?_
          refine z_iald_v (j := b + 1) (N := 410) (a := 0) (x := S.1.length) (f := f9) dX13_removes_259 (by omega) hmi.r1 (by omega) (by omega) (by rw [hi _ (by omega), if_neg (by omega), if_neg (by omega), if_neg (by omega)]; exact hv5.dur) ?_
          refine z_iload_n dX13_removes_260 rfl ?_
          refine z_isub_n (a := S.1.length) (b := (y.toInt.toNat) - (x.toInt.toNat)) dX13_removes_261 (by omega) ?_
          refine z_iast_n (j := b + 1) (N := 410) (a := 0) (f := f9) dX13_removes_262 (by omega) hmi.r1 (by omega) (by omega) ?_
          obtain ⟨w2, ew3⟩ : ∃ wz : zW, wz = va_up wi (b + 1) (zI g 410 (upd (f9) (0) ((nI ((S.1.length) - ((y.toInt.toNat) - (x.toInt.toNat))))))) := ⟨_, rfl⟩
          refine z_weq (w' := w2) ew3.symm ?_
          have hf4 : zFr wi w2 (b + 1) (b + 1 + 1) := by rw [ew3]; exact zFr.up (by omega)
          have hw5 : w2 (b + 1) = zI g 410 (upd (f9) (0) ((nI ((S.1.length) - ((y.toInt.toNat) - (x.toInt.toNat)))))) := by rw [ew3, zup_s]
          have hx6 := hmi.setV hf4 hw5
          refine z_aload_n dX13_removes_263 rfl ?_
          refine z_getf (j := b) dX13_removes_264 kF_RX13_16 rfl (by omega) hx6.ce rfl ?_
          refine z_iconst (v := nI 0) dX13_removes_267 rfl ?_
          refine z_iald_v (j := b + 1) (N := 410) (a := 0) (x := (S.1.length) - ((y.toInt.toNat) - (x.toInt.toNat))) (f := upd (f9) (0) ((nI ((S.1.length) - ((y.toInt.toNat) - (x.toInt.toNat)))))) dX13_removes_268 (by omega) hx6.r1 (by omega) (by omega) (by simp [upd]) ?_
          refine z_iret dX13_removes_269 rfl (by decide) (by decide) ?_
          have hi9 : i = S.1.length := by omega
          subst hi9
          have hF : spF 2 x.toInt y.toInt 0 S = 0 := hF0
          refine ⟨_, _, _, rfl, hfi.tr (hf4.wk (by omega) (by omega)), hx6, by rw [if_pos hF], ?_, fun _ => rfl⟩
          rw [if_pos hF]
          have hle := lclose_eq (p := x.toInt.toNat) (q := y.toInt.toNat) hv.mo hxy
          rw [← rmL_0] at hle
          have hll : (lclose x.toInt.toNat y.toInt.toNat S.2.1).length = (rmL S.2.1 x.toInt.toNat y.toInt.toNat 0).length := by rw [hle, List.length_map]
          refine hv.mkT (by simp [upd]) ?_ ?_ ?_ (fun k hk => ?_) (fun m hm => ?_) (fun k hk => ?_) (by omega) (hv.mo.close (by omega) (by omega)) (fun k hk => by unfold cutF; split <;> exact hv.le _)
          · simp only [upd]; rw [if_neg (by omega), hi _ (by omega), if_neg (by omega), if_neg (by omega), if_neg (by omega), hll]; exact hv5.mks
          · simp only [upd]; rw [if_neg (by omega), hi _ (by omega), if_neg (by omega), if_neg (by omega), if_neg (by omega), hv5.cls]; exact hv.cls.symm
          · simp only [upd]; rw [if_neg (by omega), hi _ (by omega), if_neg (by omega), if_neg (by omega), if_neg (by omega)]; exact hv5.trs
          · simp only [upd]; rw [if_neg (by omega), hi _ (by omega)]
            unfold cutF
            by_cases c1 : k < S.1.length - ((y.toInt.toNat) - (x.toInt.toNat))
            · rw [if_neg (by omega), if_pos c1]
              by_cases c2 : k < x.toInt.toNat
              · rw [if_neg (by omega), if_neg (by omega), if_pos c2]; exact hv5.tick hk
              · rw [if_pos (by omega), if_neg c2, show 4 + k + ((y.toInt.toNat) - (x.toInt.toNat)) = 4 + (k + ((y.toInt.toNat) - (x.toInt.toNat))) by omega]; exact hv5.tick (by omega)
            · rw [if_neg c1]
              by_cases c3 : k < S.1.length
              · rw [if_pos (by omega)]
              · rw [if_neg (by omega), if_neg (by omega), if_neg (by omega), hv5.tick hk]; show nI (gT S.1 k) = nI 0; rw [gT_out (by omega)]
          · rw [hll] at hm
            simp only [upd]; rw [if_neg (by omega), hi _ (by omega), if_neg (by omega), if_neg (by omega), if_pos (by omega), show 204 + m - 204 = m by omega, hle, gD_map hm]
          · simp only [upd]; rw [if_neg (by omega), hi _ (by omega), if_neg (by omega), if_neg (by omega), if_neg (by omega)]; exact hck k hk
        · refine z_aload_n dX13_removes_237 rfl ?_
          refine z_getf (j := b) dX13_removes_238 kF_RX13_16 rfl (by omega) hmi.ce rfl ?_
          refine z_iconst (v := nI 4) dX13_removes_241 rfl ?_
          refine z_iload dX13_removes_242 rfl ?_
          refine z_iadd_n (a := 4) (b := i) dX13_removes_244 ?_
          refine z_iconst (v := nI 0) dX13_removes_245 rfl ?_
          refine z_iast_n (j := b + 1) (N := 410) (a := (4) + (i)) (f := f9) dX13_removes_246 (by omega) hmi.r1 (by omega) (by omega) ?_
          obtain ⟨w7, ew8⟩ : ∃ wz : zW, wz = va_up wi (b + 1) (zI g 410 (upd (f9) ((4) + (i)) ((nI (0))))) := ⟨_, rfl⟩
          refine z_weq (w' := w7) ew8.symm ?_
          have hf9 : zFr wi w7 (b + 1) (b + 1 + 1) := by rw [ew8]; exact zFr.up (by omega)
          have hw10 : w7 (b + 1) = zI g 410 (upd (f9) ((4) + (i)) ((nI (0)))) := by rw [ew8, zup_s]
          have hx11 := hmi.setV hf9 hw10
          refine z_iinc_n (n := 1) (a := i) (lv' := [(0, .ref (za g b)), (1, .int (nI (x.toInt.toNat))), (2, .int (nI (y.toInt.toNat))), (3, .int (nI ((y.toInt.toNat) - (x.toInt.toNat)))), (4, .int (nI (i + 1)))]) dX13_removes_247 rfl (by decide) rfl ?_
          refine z_goto (tgt := 226) dX13_removes_250 (by decide) ?_
          refine ih (i + 1) _ _ (by omega) (hfi.tr (hf9.wk (by omega) (by omega))) hx11 (by omega) (by omega) (fun k hk => ?_)
          simp only [upd]
          by_cases c : k = 4 + i
          · rw [if_pos c, c]; rw [if_pos (by omega)]
          · rw [if_neg c, hi k hk]
            (repeat' split) <;> first | rfl | (exfalso; omega)
    have loop3 : ∀ (mm : Nat) (i : Nat) (wi : zW) (f9 : Nat → Int32), S.1.length + 1 - i < mm → (zFr w wi b (b + 11)) → (Mx g wi b th ch ea fa sv tn po en ln kn wr dg f9 fb fs fp fh ft fl fi) → (y.toInt.toNat ≤ i) → (i ≤ S.1.length) → (∀ k, k < 410 → f9 k = (if 4 + x.toInt.toNat ≤ k ∧ k < 4 + i - ((y.toInt.toNat) - (x.toInt.toNat)) then f5 (k + ((y.toInt.toNat) - (x.toInt.toNat))) else (if 204 ≤ k ∧ k < 204 + (rmL S.2.1 x.toInt.toNat y.toInt.toNat 0).length then nI (rmC x.toInt.toNat y.toInt.toNat ((rmL S.2.1 x.toInt.toNat y.toInt.toNat 0).getD (k - 204) 0)) else f5 k))) → zTr g mX13_removes (zR 1 0) 0 0 179 [(0, .ref (za g b)), (1, .int (nI (x.toInt.toNat))), (2, .int (nI (y.toInt.toNat))), (3, .int (nI ((y.toInt.toNat) - (x.toInt.toNat)))), (4, .int (nI (i)))] [] wi (fun o w' => ∃ th' f' r, o = .inl (some (.int r)) ∧ zFr w w' b (b + 11) ∧ Mx g w' b (th') ch ea fa sv tn po en ln kn wr dg (f') fb fs fp fh ft fl fi ∧ th' = (if spF 2 x.toInt y.toInt 0 S = 0 then th else nI (plc 2 (spF 2 x.toInt y.toInt 0 S))) ∧ VS f' (if spF 2 x.toInt y.toInt 0 S = 0 then spS 2 x.toInt y.toInt 0 S else S) ∧ (spF 2 x.toInt y.toInt 0 S = 0 → r = nI (spA 2 x.toInt y.toInt 0 S))) := by
      intro mm
      induction mm with
      | zero => intros; omega
      | succ mm ih =>
        intro i wi f9 hm hfi hmi hni hin hi
        refine z_iload dX13_removes_179 rfl ?_
        refine z_aload_n dX13_removes_181 rfl ?_
        refine z_getf (j := b) dX13_removes_182 kF_RX13_16 rfl (by omega) hmi.ce rfl ?_
        refine z_iconst (v := nI 0) dX13_removes_185 rfl ?_
        refine z_iald_v (j := b + 1) (N := 410) (a := 0) (x := S.1.length) (f := f9) dX13_removes_186 (by omega) hmi.r1 (by omega) (by omega) (by rw [hi _ (by omega), if_neg (by omega), if_neg (by omega)]; exact hv5.dur) ?_
        refine z_icmp_ge_n (a := i) (b := S.1.length) (tgt := 216) dX13_removes_187 (by decide) (by omega) (by omega) (fun h_187_1 => ?_) (fun h_187_1 => ?_)
        · refine z_aload_n dX13_removes_216 rfl ?_
          refine z_getf (j := b) dX13_removes_217 kF_RX13_16 rfl (by omega) hmi.ce rfl ?_
          refine z_iconst (v := nI 0) dX13_removes_220 rfl ?_
          refine z_iald_v (j := b + 1) (N := 410) (a := 0) (x := S.1.length) (f := f9) dX13_removes_221 (by omega) hmi.r1 (by omega) (by omega) (by rw [hi _ (by omega), if_neg (by omega), if_neg (by omega)]; exact hv5.dur) ?_
          refine z_iload_n dX13_removes_222 rfl ?_
          refine z_isub_n (a := S.1.length) (b := (y.toInt.toNat) - (x.toInt.toNat)) dX13_removes_223 (by omega) ?_
          refine z_istore (lv' := [(0, .ref (za g b)), (1, .int (nI (x.toInt.toNat))), (2, .int (nI (y.toInt.toNat))), (3, .int (nI ((y.toInt.toNat) - (x.toInt.toNat)))), (4, .int (nI ((S.1.length) - ((y.toInt.toNat) - (x.toInt.toNat)))))]) dX13_removes_224 (by decide) rfl ?_
          refine loop4 (S.1.length + 2) (S.1.length - ((y.toInt.toNat) - (x.toInt.toNat))) wi f9 (by omega) hfi hmi (Nat.le_refl _) (by omega) (fun k hk => ?_)
          rw [hi k hk, show i = S.1.length by omega, if_neg (show ¬ (4 + (S.1.length - ((y.toInt.toNat) - (x.toInt.toNat))) ≤ k ∧ k < 4 + (S.1.length - ((y.toInt.toNat) - (x.toInt.toNat)))) by omega)]
        · refine z_aload_n dX13_removes_190 rfl ?_
          refine z_getf (j := b) dX13_removes_191 kF_RX13_16 rfl (by omega) hmi.ce rfl ?_
          refine z_iconst (v := nI 4) dX13_removes_194 rfl ?_
          refine z_iload dX13_removes_195 rfl ?_
          refine z_iadd_n (a := 4) (b := i) dX13_removes_197 ?_
          refine z_iload_n dX13_removes_198 rfl ?_
          refine z_isub_n (a := (4) + (i)) (b := (y.toInt.toNat) - (x.toInt.toNat)) dX13_removes_199 (by omega) ?_
          refine z_aload_n dX13_removes_200 rfl ?_
          refine z_getf (j := b) dX13_removes_201 kF_RX13_16 rfl (by omega) hmi.ce rfl ?_
          refine z_iconst (v := nI 4) dX13_removes_204 rfl ?_
          refine z_iload dX13_removes_205 rfl ?_
          refine z_iadd_n (a := 4) (b := i) dX13_removes_207 ?_
          refine z_iald_n (j := b + 1) (N := 410) (a := (4) + (i)) (f := f9) dX13_removes_208 (by omega) hmi.r1 (by omega) (by omega) ?_
          refine z_iast_n (j := b + 1) (N := 410) (a := ((4) + (i)) - ((y.toInt.toNat) - (x.toInt.toNat))) (f := f9) dX13_removes_209 (by omega) hmi.r1 (by omega) (by omega) ?_
          obtain ⟨w2, ew3⟩ : ∃ wz : zW, wz = va_up wi (b + 1) (zI g 410 (upd (f9) (((4) + (i)) - ((y.toInt.toNat) - (x.toInt.toNat))) (((f9) ((4) + (i)))))) := ⟨_, rfl⟩
          refine z_weq (w' := w2) ew3.symm ?_
          have hf4 : zFr wi w2 (b + 1) (b + 1 + 1) := by rw [ew3]; exact zFr.up (by omega)
          have hw5 : w2 (b + 1) = zI g 410 (upd (f9) (((4) + (i)) - ((y.toInt.toNat) - (x.toInt.toNat))) (((f9) ((4) + (i))))) := by rw [ew3, zup_s]
          have hx6 := hmi.setV hf4 hw5
          refine z_iinc_n (n := 1) (a := i) (lv' := [(0, .ref (za g b)), (1, .int (nI (x.toInt.toNat))), (2, .int (nI (y.toInt.toNat))), (3, .int (nI ((y.toInt.toNat) - (x.toInt.toNat)))), (4, .int (nI (i + 1)))]) dX13_removes_210 rfl (by decide) rfl ?_
          refine z_goto (tgt := 179) dX13_removes_213 (by decide) ?_
          refine ih (i + 1) _ _ (by omega) (hfi.tr (hf4.wk (by omega) (by omega))) hx6 (by omega) (by omega) (fun k hk => ?_)
          simp only [upd]
          by_cases c : k = 4 + i - ((y.toInt.toNat) - (x.toInt.toNat))
          · rw [if_pos c, c]; rw [if_pos (by omega), hi _ (by omega), if_neg (by omega), if_neg (by omega)]; congr 1; omega
          · rw [if_neg c, hi k hk]
            (repeat' split) <;> first | rfl | (exfalso; omega)
    intro mm
    induction mm with
    | zero => intros; omega
    | succ mm ih =>
      intro i wi f9 hm hfi hmi him hi
      refine z_iload dX13_removes_125 rfl ?_
      refine z_aload_n dX13_removes_127 rfl ?_
      refine z_getf (j := b) dX13_removes_128 kF_RX13_16 rfl (by omega) hmi.ce rfl ?_
      refine z_iconst (v := nI 1) dX13_removes_131 rfl ?_
      refine z_iald_v (j := b + 1) (N := 410) (a := 1) (x := (rmL S.2.1 x.toInt.toNat y.toInt.toNat 0).length) (f := f9) dX13_removes_132 (by omega) hmi.r1 (by omega) (by omega) (by rw [hi _ (by omega), if_neg (by omega)]; exact hv5.mks) ?_
      refine z_icmp_ge_n (a := i) (b := (rmL S.2.1 x.toInt.toNat y.toInt.toNat 0).length) (tgt := 176) dX13_removes_133 (by decide) (by omega) (by omega) (fun h_133_1 => ?_) (fun h_133_1 => ?_)
      · refine z_iload_n dX13_removes_176 rfl ?_
        refine z_istore (lv' := [(0, .ref (za g b)), (1, .int (nI (x.toInt.toNat))), (2, .int (nI (y.toInt.toNat))), (3, .int (nI ((y.toInt.toNat) - (x.toInt.toNat)))), (4, .int (nI (y.toInt.toNat)))]) dX13_removes_177 (by decide) rfl ?_
        refine loop3 (S.1.length + 2) (y.toInt.toNat) wi f9 (by omega) hfi hmi (Nat.le_refl _) (by omega) (fun k hk => ?_)
        rw [hi k hk, show i = (rmL S.2.1 x.toInt.toNat y.toInt.toNat 0).length by omega, if_neg (show ¬ (4 + x.toInt.toNat ≤ k ∧ k < 4 + y.toInt.toNat - ((y.toInt.toNat) - (x.toInt.toNat))) by omega)]
      · have hmk : (rmL S.2.1 x.toInt.toNat y.toInt.toNat 0).getD i 0 ≤ S.1.length := hv5.mo.2.1 i (by show _ < (rmL _ _ _ _).length; omega)
        refine z_aload_n dX13_removes_136 rfl ?_
        refine z_getf (j := b) dX13_removes_137 kF_RX13_16 rfl (by omega) hmi.ce rfl ?_
        refine z_sipush (v := nI 204) dX13_removes_140 rfl ?_
        refine z_iload dX13_removes_143 rfl ?_
        refine z_iadd_n (a := 204) (b := i) dX13_removes_145 ?_
        refine z_dup2 dX13_removes_146 rfl rfl ?_
        refine z_iald_v (j := b + 1) (N := 410) (a := (204) + (i)) (x := (rmL S.2.1 x.toInt.toNat y.toInt.toNat 0).getD (i) 0) (f := f9) dX13_removes_147 (by omega) hmi.r1 (by omega) (by omega) (by rw [hi _ (by omega), if_neg (by omega)]; exact hv5.mark (by show _ < (rmL _ _ _ _).length; omega)) ?_
        refine z_aload_n dX13_removes_148 rfl ?_
        refine z_getf (j := b) dX13_removes_149 kF_RX13_16 rfl (by omega) hmi.ce rfl ?_
        refine z_sipush (v := nI 204) dX13_removes_152 rfl ?_
        refine z_iload dX13_removes_155 rfl ?_
        refine z_iadd_n (a := 204) (b := i) dX13_removes_157 ?_
        refine z_iald_v (j := b + 1) (N := 410) (a := (204) + (i)) (x := (rmL S.2.1 x.toInt.toNat y.toInt.toNat 0).getD (i) 0) (f := f9) dX13_removes_158 (by omega) hmi.r1 (by omega) (by omega) (by rw [hi _ (by omega), if_neg (by omega)]; exact hv5.mark (by show _ < (rmL _ _ _ _).length; omega)) ?_
        refine z_iload_n dX13_removes_159 rfl ?_
        refine z_icmp_lt_n (a := (rmL S.2.1 x.toInt.toNat y.toInt.toNat 0).getD (i) 0) (b := y.toInt.toNat) (tgt := 167) dX13_removes_160 (by decide) (by omega) (by omega) (fun h_160_2 => ?_) (fun h_160_2 => ?_)
        · refine z_iconst (v := nI 0) dX13_removes_167 rfl ?_
          refine z_isub_n (a := (rmL S.2.1 x.toInt.toNat y.toInt.toNat 0).getD (i) 0) (b := 0) dX13_removes_168 (by omega) ?_
          refine z_iast_n (j := b + 1) (N := 410) (a := (204) + (i)) (f := f9) dX13_removes_169 (by omega) hmi.r1 (by omega) (by omega) ?_
          obtain ⟨w3, ew4⟩ : ∃ wz : zW, wz = va_up wi (b + 1) (zI g 410 (upd (f9) ((204) + (i)) ((nI (((rmL S.2.1 x.toInt.toNat y.toInt.toNat 0).getD (i) 0) - (0)))))) := ⟨_, rfl⟩
          refine z_weq (w' := w3) ew4.symm ?_
          have hf5 : zFr wi w3 (b + 1) (b + 1 + 1) := by rw [ew4]; exact zFr.up (by omega)
          have hw6 : w3 (b + 1) = zI g 410 (upd (f9) ((204) + (i)) ((nI (((rmL S.2.1 x.toInt.toNat y.toInt.toNat 0).getD (i) 0) - (0))))) := by rw [ew4, zup_s]
          have hx7 := hmi.setV hf5 hw6
          refine z_iinc_n (n := 1) (a := i) (lv' := [(0, .ref (za g b)), (1, .int (nI (x.toInt.toNat))), (2, .int (nI (y.toInt.toNat))), (3, .int (nI ((y.toInt.toNat) - (x.toInt.toNat)))), (4, .int (nI (i + 1)))]) dX13_removes_170 rfl (by decide) rfl ?_
          refine z_goto (tgt := 125) dX13_removes_173 (by decide) ?_
          refine ih (i + 1) _ _ (by omega) (hfi.tr (hf5.wk (by omega) (by omega))) hx7 (by omega) (fun k hk => ?_)
          simp only [upd]
          by_cases c : k = 204 + i
          · rw [if_pos c, c]; rw [if_pos (by omega), show 204 + i - 204 = i by omega]; unfold rmC; rw [if_neg (by omega)]; rfl
          · rw [if_neg c, hi k hk]
            (repeat' split) <;> first | rfl | (exfalso; omega)
        · refine z_iload_n dX13_removes_163 rfl ?_
          refine z_goto (tgt := 168) dX13_removes_164 (by decide) ?_
          refine z_isub_n (a := (rmL S.2.1 x.toInt.toNat y.toInt.toNat 0).getD (i) 0) (b := (y.toInt.toNat) - (x.toInt.toNat)) dX13_removes_168 (by omega) ?_
          refine z_iast_n (j := b + 1) (N := 410) (a := (204) + (i)) (f := f9) dX13_removes_169 (by omega) hmi.r1 (by omega) (by omega) ?_
          obtain ⟨w8, ew9⟩ : ∃ wz : zW, wz = va_up wi (b + 1) (zI g 410 (upd (f9) ((204) + (i)) ((nI (((rmL S.2.1 x.toInt.toNat y.toInt.toNat 0).getD (i) 0) - ((y.toInt.toNat) - (x.toInt.toNat))))))) := ⟨_, rfl⟩
          refine z_weq (w' := w8) ew9.symm ?_
          have hf10 : zFr wi w8 (b + 1) (b + 1 + 1) := by rw [ew9]; exact zFr.up (by omega)
          have hw11 : w8 (b + 1) = zI g 410 (upd (f9) ((204) + (i)) ((nI (((rmL S.2.1 x.toInt.toNat y.toInt.toNat 0).getD (i) 0) - ((y.toInt.toNat) - (x.toInt.toNat)))))) := by rw [ew9, zup_s]
          have hx12 := hmi.setV hf10 hw11
          refine z_iinc_n (n := 1) (a := i) (lv' := [(0, .ref (za g b)), (1, .int (nI (x.toInt.toNat))), (2, .int (nI (y.toInt.toNat))), (3, .int (nI ((y.toInt.toNat) - (x.toInt.toNat)))), (4, .int (nI (i + 1)))]) dX13_removes_170 rfl (by decide) rfl ?_
          refine z_goto (tgt := 125) dX13_removes_173 (by decide) ?_
          refine ih (i + 1) _ _ (by omega) (hfi.tr (hf10.wk (by omega) (by omega))) hx12 (by omega) (fun k hk => ?_)
          simp only [upd]
          by_cases c : k = 204 + i
          · rw [if_pos c, c]; rw [if_pos (by omega), show 204 + i - 204 = i by omega]; unfold rmC; rw [if_pos (by omega)]
          · rw [if_neg c, hi k hk]
            (repeat' split) <;> first | rfl | (exfalso; omega)
  have loop1 : fIv S.1.length x.toInt y.toInt = 0 → x.toInt.toNat < y.toInt.toNat → ∀ (mm : Nat) (a : Nat) (wi : zW) (f9 : Nat → Int32), a < mm → (zFr w wi b (b + 11)) → (Mx g wi b th ch ea fa sv tn po en ln kn wr dg f9 fb fs fp fh ft fl fi) → (a ≤ S.2.1.length) → (VS f9 (S.1, (rmL S.2.1 x.toInt.toNat y.toInt.toNat a), S.2.2)) → (∀ k, k < S.2.2.1.length → f9 (210 + k) = fv (210 + k)) → zTr g mX13_removes (zR 1 0) 0 0 40 [(0, .ref (za g b)), (1, .int (nI (x.toInt.toNat))), (2, .int (nI (y.toInt.toNat))), (3, .int (nI ((y.toInt.toNat) - (x.toInt.toNat)))), (4, .int (nI a - nI 1))] [] wi (fun o w' => ∃ th' f' r, o = .inl (some (.int r)) ∧ zFr w w' b (b + 11) ∧ Mx g w' b (th') ch ea fa sv tn po en ln kn wr dg (f') fb fs fp fh ft fl fi ∧ th' = (if spF 2 x.toInt y.toInt 0 S = 0 then th else nI (plc 2 (spF 2 x.toInt y.toInt 0 S))) ∧ VS f' (if spF 2 x.toInt y.toInt 0 S = 0 then spS 2 x.toInt y.toInt 0 S else S) ∧ (spF 2 x.toInt y.toInt 0 S = 0 → r = nI (spA 2 x.toInt y.toInt 0 S))) := by
    intro hF0 hxy
    have hp0 := fIv0 hF0
    intro mm
    induction mm with
    | zero => intros; omega
    | succ mm ih =>
      intro a wi f9 hm hfi hmi haL hv9 hck
      have hl9 := rmL_len (L := S.2.1) (p := x.toInt.toNat) (q := y.toInt.toNat) haL
      refine z_iload dX13_removes_40 rfl ?_
      have hz := pk_sub_toInt (a := a) (b := 1) (by omega) (by omega)
      refine z_if_lt_z (tgt := 122) dX13_removes_42 (by decide) (fun h_42_1 => ?_) (fun h_42_1 => ?_)
      · refine z_iconst (v := nI 0) dX13_removes_122 rfl ?_
        refine z_istore (lv' := [(0, .ref (za g b)), (1, .int (nI (x.toInt.toNat))), (2, .int (nI (y.toInt.toNat))), (3, .int (nI ((y.toInt.toNat) - (x.toInt.toNat)))), (4, .int (nI (0)))]) dX13_removes_123 (by decide) rfl ?_
        have ha0 : a = 0 := by omega
        subst ha0
        exact loop2 f9 hv9 hck hF0 hxy ((rmL S.2.1 x.toInt.toNat y.toInt.toNat 0).length + 2) 0 wi f9 (by omega) hfi hmi (Nat.zero_le _) (fun k hk => by rw [if_neg (by omega)])
      · refine z_eq (lv' := [(0, .ref (za g b)), (1, .int (nI (x.toInt.toNat))), (2, .int (nI (y.toInt.toNat))), (3, .int (nI ((y.toInt.toNat) - (x.toInt.toNat)))), (4, .int (nI (a - 1)))]) rfl rfl (by rw [pk_sub (show 1 ≤ a by omega)]) ?_
        have hmk := hv.mo.2.1 (a - 1) (by omega)
        refine z_aload_n dX13_removes_45 rfl ?_
        refine z_getf (j := b) dX13_removes_46 kF_RX13_16 rfl (by omega) hmi.ce rfl ?_
        refine z_sipush (v := nI 204) dX13_removes_49 rfl ?_
        refine z_iload dX13_removes_52 rfl ?_
        refine z_iadd_n (a := 204) (b := a - 1) dX13_removes_54 ?_
        refine z_iald_v (j := b + 1) (N := 410) (a := (204) + (a - 1)) (x := S.2.1.getD (a - 1) 0) (f := f9) dX13_removes_55 (by omega) hmi.r1 (by omega) (by omega) (by rw [hv9.mark (by show _ < (rmL _ _ _ _).length; omega)]; show nI ((rmL S.2.1 x.toInt.toNat y.toInt.toNat a).getD _ 0) = _; rw [rmL_get haL (by omega)]) ?_
        refine z_iload_n dX13_removes_56 rfl ?_
        refine z_icmp_le_n (a := S.2.1.getD (a - 1) 0) (b := x.toInt.toNat) (tgt := 79) dX13_removes_57 (by decide) (by omega) (by omega) (fun h_57_2 => ?_) (fun h_57_2 => ?_)
        · refine z_iconst (v := nI 0) dX13_removes_79 rfl ?_
          refine z_istore (lv' := [(0, .ref (za g b)), (1, .int (nI (x.toInt.toNat))), (2, .int (nI (y.toInt.toNat))), (3, .int (nI ((y.toInt.toNat) - (x.toInt.toNat)))), (4, .int (nI (a - 1))), (5, .int (nI (0)))]) dX13_removes_80 (by decide) rfl ?_
          refine z_iload dX13_removes_82 rfl ?_
          refine z_if_ne_n (a := 0) (tgt := 110) dX13_removes_84 (by decide) (by omega) (fun h_84_3 => ?_) (fun h_84_3 => ?_)
          · exact absurd h_84_3 (by decide)
          · refine z_aload_n dX13_removes_87 rfl ?_
            refine z_getf (j := b) dX13_removes_88 kF_RX13_16 rfl (by omega) hmi.ce rfl ?_
            refine z_sipush (v := nI 204) dX13_removes_91 rfl ?_
            refine z_iload dX13_removes_94 rfl ?_
            refine z_iadd_n (a := 204) (b := a - 1) dX13_removes_96 ?_
            refine z_iald_v (j := b + 1) (N := 410) (a := (204) + (a - 1)) (x := S.2.1.getD (a - 1) 0) (f := f9) dX13_removes_97 (by omega) hmi.r1 (by omega) (by omega) (by rw [hv9.mark (by show _ < (rmL _ _ _ _).length; omega)]; show nI ((rmL S.2.1 x.toInt.toNat y.toInt.toNat a).getD _ 0) = _; rw [rmL_get haL (by omega)]) ?_
            refine z_iload_n dX13_removes_98 rfl ?_
            refine z_icmp_ne_n (a := S.2.1.getD (a - 1) 0) (b := y.toInt.toNat) (tgt := 116) dX13_removes_99 (by decide) (by omega) (by omega) (fun h_99_4 => ?_) (fun h_99_4 => ?_)
            · refine z_sub (lv' := [(0, .ref (za g b)), (1, .int (nI (x.toInt.toNat))), (2, .int (nI (y.toInt.toNat))), (3, .int (nI ((y.toInt.toNat) - (x.toInt.toNat)))), (4, .int (nI (a - 1)))]) [0, 1, 2, 3, 4] rfl ?_
              refine z_iinc (lv' := [(0, .ref (za g b)), (1, .int (nI (x.toInt.toNat))), (2, .int (nI (y.toInt.toNat))), (3, .int (nI ((y.toInt.toNat) - (x.toInt.toNat)))), (4, .int (nI (a - 1) - nI 1))]) dX13_removes_116 rfl (by rw [Int32.sub_eq_add_neg]; rfl) (by decide) rfl ?_
              refine z_goto (tgt := 40) dX13_removes_119 (by decide) ?_
              have hrm := rmL_keep (L := S.2.1) (p := x.toInt.toNat) (q := y.toInt.toNat) (a := a - 1) (by omega) (by unfold rmP; rw [Bool.and_eq_true]; refine ⟨by simp only [Bool.not_eq_true', decide_eq_false_iff_not]; omega, ?_⟩; simp only [Bool.not_eq_true', decide_eq_false_iff_not]; exact fun z => by omega)
              rw [show a - 1 + 1 = a by omega] at hrm
              refine ih (a - 1) _ _ (by omega) (hfi.tr zFr.rf) hmi (by omega) (by have q9 := hv9; rw [hrm] at q9; exact q9) (fun k hk => hck k hk)
            · refine z_aload_n dX13_removes_102 rfl ?_
              refine z_iload_n dX13_removes_103 rfl ?_
              refine z_callV (As := [.int (nI (x.toInt.toNat))]) (rest := []) (b := b) (ci := 12) (R2 := zR 0 0) dX13_removes_104 kV_RX13_90 rfl ⟨⟨by decide, by decide⟩, by decide, by decide⟩ (by omega) hmi.ce rfl rfl rfl (Nat.le_of_ble_eq_true rfl) rfl (c_X13_markerAt (x := nI (x.toInt.toNat)) h0 hmi hv9) (fun E w1 h => by rcases h with ⟨-, ⟨e, -⟩ | ⟨r, -, e, -⟩⟩ <;> cases e) (fun v5 w6 h7 => ?_)
              rcases h7 with ⟨ew, ⟨ev, e9⟩ | ⟨d, hd, ev, e9, e8⟩⟩
              · subst ew
                cases ev
                have hmemX : x.toInt.toNat ∉ S.2.1 := fun z => by
                  have q9 := (lidx_mem2 (t := (nI (x.toInt.toNat)).toInt) (L := (rmL S.2.1 x.toInt.toNat y.toInt.toNat a)) (by rw [nI_toInt (by omega)]; omega)).mp e9
                  rw [nI_toInt (by omega), Int.toNat_natCast] at q9
                  exact q9 ((rmL_mem hxy).mpr z)
                refine z_if_lt_z (tgt := 116) dX13_removes_107 (by decide) (fun h_107_8 => ?_) (fun h_107_8 => ?_)
                · refine z_sub (lv' := [(0, .ref (za g b)), (1, .int (nI (x.toInt.toNat))), (2, .int (nI (y.toInt.toNat))), (3, .int (nI ((y.toInt.toNat) - (x.toInt.toNat)))), (4, .int (nI (a - 1)))]) [0, 1, 2, 3, 4] rfl ?_
                  refine z_iinc (lv' := [(0, .ref (za g b)), (1, .int (nI (x.toInt.toNat))), (2, .int (nI (y.toInt.toNat))), (3, .int (nI ((y.toInt.toNat) - (x.toInt.toNat)))), (4, .int (nI (a - 1) - nI 1))]) dX13_removes_116 rfl (by rw [Int32.sub_eq_add_neg]; rfl) (by decide) rfl ?_
                  refine z_goto (tgt := 40) dX13_removes_119 (by decide) ?_
                  have hrm := rmL_keep (L := S.2.1) (p := x.toInt.toNat) (q := y.toInt.toNat) (a := a - 1) (by omega) (by unfold rmP; rw [Bool.and_eq_true]; refine ⟨by simp only [Bool.not_eq_true', decide_eq_false_iff_not]; omega, ?_⟩; simp only [Bool.not_eq_true', decide_eq_false_iff_not]; exact fun z => hmemX z.2)
                  rw [show a - 1 + 1 = a by omega] at hrm
                  refine ih (a - 1) _ _ (by omega) (hfi.tr zFr.rf) hmi (by omega) (by have q9 := hv9; rw [hrm] at q9; exact q9) (fun k hk => hck k hk)
                · (have q9 := h_107_8; rw [show (-1 : Int32).toInt = -1 from rfl] at q9; omega)
              · subst ew
                cases ev
                rw [nI_toInt (by omega)] at e8
                have q9 : (rmL S.2.1 x.toInt.toNat y.toInt.toNat a).getD d 0 = x.toInt.toNat := Int.ofNat.inj e8
                have hd2 : d < (rmL S.2.1 x.toInt.toNat y.toInt.toNat a).length := hd
                have q8 : (rmL S.2.1 x.toInt.toNat y.toInt.toNat a).getD d 0 ∈ (rmL S.2.1 x.toInt.toNat y.toInt.toNat a) := get_mem hd
                rw [q9] at q8
                have hmemX : x.toInt.toNat ∈ S.2.1 := (rmL_mem (a := a) hxy).mp q8
                refine z_if_lt_n (a := d) dX13_removes_107 116 (by decide) (by omega) ?_
                refine z_aload_n dX13_removes_110 rfl ?_
                refine z_iload dX13_removes_111 rfl ?_
                refine z_callR (As := [.int (nI (a - 1))]) (rest := []) (b := b) (ci := 12) (v := none) (R2 := zR 0 0) dX13_removes_113 kV_RX13_93 rfl ⟨⟨by decide, by decide⟩, by decide, by decide⟩ (by omega) hmi.ce rfl rfl rfl (Nat.le_of_ble_eq_true rfl) rfl (c_X13_dropsMarker (d := a - 1) h0 hmi hv9 ((by show _ < (rmL _ _ _ _).length; omega))) (fun w10 pw10 => ?_)
                obtain ⟨hf11, g12, hx13, hv14⟩ := pw10
                refine z_sub (lv' := [(0, .ref (za g b)), (1, .int (nI (x.toInt.toNat))), (2, .int (nI (y.toInt.toNat))), (3, .int (nI ((y.toInt.toNat) - (x.toInt.toNat)))), (4, .int (nI (a - 1)))]) [0, 1, 2, 3, 4] rfl ?_
                refine z_iinc (lv' := [(0, .ref (za g b)), (1, .int (nI (x.toInt.toNat))), (2, .int (nI (y.toInt.toNat))), (3, .int (nI ((y.toInt.toNat) - (x.toInt.toNat)))), (4, .int (nI (a - 1) - nI 1))]) dX13_removes_116 rfl (by rw [Int32.sub_eq_add_neg]; rfl) (by decide) rfl ?_
                refine z_goto (tgt := 40) dX13_removes_119 (by decide) ?_
                have hrm := rmL_drop (L := S.2.1) (p := x.toInt.toNat) (q := y.toInt.toNat) (a := a - 1) (by omega) (by unfold rmP; rw [Bool.and_eq_false_iff]; right; simp only [Bool.not_eq_false', decide_eq_true_eq]; exact ⟨by omega, hmemX⟩)
                rw [show a - 1 + 1 = a by omega] at hrm
                refine ih (a - 1) _ _ (by omega) (hfi.tr hf11) hx13 (by omega) (by have q9 := hv14; rw [hrm] at q9; exact q9) (fun k hk => ?_)
                have q8 := hv14.clip (k := k) hk; rw [q8]; exact (hv.clip hk).symm
        · refine z_aload_n dX13_removes_60 rfl ?_
          refine z_getf (j := b) dX13_removes_61 kF_RX13_16 rfl (by omega) hmi.ce rfl ?_
          refine z_sipush (v := nI 204) dX13_removes_64 rfl ?_
          refine z_iload dX13_removes_67 rfl ?_
          refine z_iadd_n (a := 204) (b := a - 1) dX13_removes_69 ?_
          refine z_iald_v (j := b + 1) (N := 410) (a := (204) + (a - 1)) (x := S.2.1.getD (a - 1) 0) (f := f9) dX13_removes_70 (by omega) hmi.r1 (by omega) (by omega) (by rw [hv9.mark (by show _ < (rmL _ _ _ _).length; omega)]; show nI ((rmL S.2.1 x.toInt.toNat y.toInt.toNat a).getD _ 0) = _; rw [rmL_get haL (by omega)]) ?_
          refine z_iload_n dX13_removes_71 rfl ?_
          refine z_icmp_ge_n (a := S.2.1.getD (a - 1) 0) (b := y.toInt.toNat) (tgt := 79) dX13_removes_72 (by decide) (by omega) (by omega) (fun h_72_15 => ?_) (fun h_72_15 => ?_)
          · refine z_iconst (v := nI 0) dX13_removes_79 rfl ?_
            refine z_istore (lv' := [(0, .ref (za g b)), (1, .int (nI (x.toInt.toNat))), (2, .int (nI (y.toInt.toNat))), (3, .int (nI ((y.toInt.toNat) - (x.toInt.toNat)))), (4, .int (nI (a - 1))), (5, .int (nI (0)))]) dX13_removes_80 (by decide) rfl ?_
            refine z_iload dX13_removes_82 rfl ?_
            refine z_if_ne_n (a := 0) (tgt := 110) dX13_removes_84 (by decide) (by omega) (fun h_84_16 => ?_) (fun h_84_16 => ?_)
            · exact absurd h_84_16 (by decide)
            · refine z_aload_n dX13_removes_87 rfl ?_
              refine z_getf (j := b) dX13_removes_88 kF_RX13_16 rfl (by omega) hmi.ce rfl ?_
              refine z_sipush (v := nI 204) dX13_removes_91 rfl ?_
              refine z_iload dX13_removes_94 rfl ?_
              refine z_iadd_n (a := 204) (b := a - 1) dX13_removes_96 ?_
              refine z_iald_v (j := b + 1) (N := 410) (a := (204) + (a - 1)) (x := S.2.1.getD (a - 1) 0) (f := f9) dX13_removes_97 (by omega) hmi.r1 (by omega) (by omega) (by rw [hv9.mark (by show _ < (rmL _ _ _ _).length; omega)]; show nI ((rmL S.2.1 x.toInt.toNat y.toInt.toNat a).getD _ 0) = _; rw [rmL_get haL (by omega)]) ?_
              refine z_iload_n dX13_removes_98 rfl ?_
              refine z_icmp_ne_n (a := S.2.1.getD (a - 1) 0) (b := y.toInt.toNat) (tgt := 116) dX13_removes_99 (by decide) (by omega) (by omega) (fun h_99_17 => ?_) (fun h_99_17 => ?_)
              · refine z_sub (lv' := [(0, .ref (za g b)), (1, .int (nI (x.toInt.toNat))), (2, .int (nI (y.toInt.toNat))), (3, .int (nI ((y.toInt.toNat) - (x.toInt.toNat)))), (4, .int (nI (a - 1)))]) [0, 1, 2, 3, 4] rfl ?_
                refine z_iinc (lv' := [(0, .ref (za g b)), (1, .int (nI (x.toInt.toNat))), (2, .int (nI (y.toInt.toNat))), (3, .int (nI ((y.toInt.toNat) - (x.toInt.toNat)))), (4, .int (nI (a - 1) - nI 1))]) dX13_removes_116 rfl (by rw [Int32.sub_eq_add_neg]; rfl) (by decide) rfl ?_
                refine z_goto (tgt := 40) dX13_removes_119 (by decide) ?_
                have hrm := rmL_keep (L := S.2.1) (p := x.toInt.toNat) (q := y.toInt.toNat) (a := a - 1) (by omega) (by unfold rmP; rw [Bool.and_eq_true]; refine ⟨by simp only [Bool.not_eq_true', decide_eq_false_iff_not]; omega, ?_⟩; simp only [Bool.not_eq_true', decide_eq_false_iff_not]; exact fun z => by omega)
                rw [show a - 1 + 1 = a by omega] at hrm
                refine ih (a - 1) _ _ (by omega) (hfi.tr zFr.rf) hmi (by omega) (by have q9 := hv9; rw [hrm] at q9; exact q9) (fun k hk => hck k hk)
              · refine z_aload_n dX13_removes_102 rfl ?_
                refine z_iload_n dX13_removes_103 rfl ?_
                refine z_callV (As := [.int (nI (x.toInt.toNat))]) (rest := []) (b := b) (ci := 12) (R2 := zR 0 0) dX13_removes_104 kV_RX13_90 rfl ⟨⟨by decide, by decide⟩, by decide, by decide⟩ (by omega) hmi.ce rfl rfl rfl (Nat.le_of_ble_eq_true rfl) rfl (c_X13_markerAt (x := nI (x.toInt.toNat)) h0 hmi hv9) (fun E w1 h => by rcases h with ⟨-, ⟨e, -⟩ | ⟨r, -, e, -⟩⟩ <;> cases e) (fun v18 w19 h20 => ?_)
                rcases h20 with ⟨ew, ⟨ev, e9⟩ | ⟨d, hd, ev, e9, e8⟩⟩
                · subst ew
                  cases ev
                  have hmemX : x.toInt.toNat ∉ S.2.1 := fun z => by
                    have q9 := (lidx_mem2 (t := (nI (x.toInt.toNat)).toInt) (L := (rmL S.2.1 x.toInt.toNat y.toInt.toNat a)) (by rw [nI_toInt (by omega)]; omega)).mp e9
                    rw [nI_toInt (by omega), Int.toNat_natCast] at q9
                    exact q9 ((rmL_mem hxy).mpr z)
                  refine z_if_lt_z (tgt := 116) dX13_removes_107 (by decide) (fun h_107_21 => ?_) (fun h_107_21 => ?_)
                  · refine z_sub (lv' := [(0, .ref (za g b)), (1, .int (nI (x.toInt.toNat))), (2, .int (nI (y.toInt.toNat))), (3, .int (nI ((y.toInt.toNat) - (x.toInt.toNat)))), (4, .int (nI (a - 1)))]) [0, 1, 2, 3, 4] rfl ?_
                    refine z_iinc (lv' := [(0, .ref (za g b)), (1, .int (nI (x.toInt.toNat))), (2, .int (nI (y.toInt.toNat))), (3, .int (nI ((y.toInt.toNat) - (x.toInt.toNat)))), (4, .int (nI (a - 1) - nI 1))]) dX13_removes_116 rfl (by rw [Int32.sub_eq_add_neg]; rfl) (by decide) rfl ?_
                    refine z_goto (tgt := 40) dX13_removes_119 (by decide) ?_
                    have hrm := rmL_keep (L := S.2.1) (p := x.toInt.toNat) (q := y.toInt.toNat) (a := a - 1) (by omega) (by unfold rmP; rw [Bool.and_eq_true]; refine ⟨by simp only [Bool.not_eq_true', decide_eq_false_iff_not]; omega, ?_⟩; simp only [Bool.not_eq_true', decide_eq_false_iff_not]; exact fun z => hmemX z.2)
                    rw [show a - 1 + 1 = a by omega] at hrm
                    refine ih (a - 1) _ _ (by omega) (hfi.tr zFr.rf) hmi (by omega) (by have q9 := hv9; rw [hrm] at q9; exact q9) (fun k hk => hck k hk)
                  · (have q9 := h_107_21; rw [show (-1 : Int32).toInt = -1 from rfl] at q9; omega)
                · subst ew
                  cases ev
                  rw [nI_toInt (by omega)] at e8
                  have q9 : (rmL S.2.1 x.toInt.toNat y.toInt.toNat a).getD d 0 = x.toInt.toNat := Int.ofNat.inj e8
                  have hd2 : d < (rmL S.2.1 x.toInt.toNat y.toInt.toNat a).length := hd
                  have q8 : (rmL S.2.1 x.toInt.toNat y.toInt.toNat a).getD d 0 ∈ (rmL S.2.1 x.toInt.toNat y.toInt.toNat a) := get_mem hd
                  rw [q9] at q8
                  have hmemX : x.toInt.toNat ∈ S.2.1 := (rmL_mem (a := a) hxy).mp q8
                  refine z_if_lt_n (a := d) dX13_removes_107 116 (by decide) (by omega) ?_
                  refine z_aload_n dX13_removes_110 rfl ?_
                  refine z_iload dX13_removes_111 rfl ?_
                  refine z_callR (As := [.int (nI (a - 1))]) (rest := []) (b := b) (ci := 12) (v := none) (R2 := zR 0 0) dX13_removes_113 kV_RX13_93 rfl ⟨⟨by decide, by decide⟩, by decide, by decide⟩ (by omega) hmi.ce rfl rfl rfl (Nat.le_of_ble_eq_true rfl) rfl (c_X13_dropsMarker (d := a - 1) h0 hmi hv9 ((by show _ < (rmL _ _ _ _).length; omega))) (fun w23 pw23 => ?_)
                  obtain ⟨hf24, g25, hx26, hv27⟩ := pw23
                  refine z_sub (lv' := [(0, .ref (za g b)), (1, .int (nI (x.toInt.toNat))), (2, .int (nI (y.toInt.toNat))), (3, .int (nI ((y.toInt.toNat) - (x.toInt.toNat)))), (4, .int (nI (a - 1)))]) [0, 1, 2, 3, 4] rfl ?_
                  refine z_iinc (lv' := [(0, .ref (za g b)), (1, .int (nI (x.toInt.toNat))), (2, .int (nI (y.toInt.toNat))), (3, .int (nI ((y.toInt.toNat) - (x.toInt.toNat)))), (4, .int (nI (a - 1) - nI 1))]) dX13_removes_116 rfl (by rw [Int32.sub_eq_add_neg]; rfl) (by decide) rfl ?_
                  refine z_goto (tgt := 40) dX13_removes_119 (by decide) ?_
                  have hrm := rmL_drop (L := S.2.1) (p := x.toInt.toNat) (q := y.toInt.toNat) (a := a - 1) (by omega) (by unfold rmP; rw [Bool.and_eq_false_iff]; right; simp only [Bool.not_eq_false', decide_eq_true_eq]; exact ⟨by omega, hmemX⟩)
                  rw [show a - 1 + 1 = a by omega] at hrm
                  refine ih (a - 1) _ _ (by omega) (hfi.tr hf24) hx26 (by omega) (by have q9 := hv27; rw [hrm] at q9; exact q9) (fun k hk => ?_)
                  have q8 := hv27.clip (k := k) hk; rw [q8]; exact (hv.clip hk).symm
          · refine z_iconst (v := nI 1) dX13_removes_75 rfl ?_
            refine z_goto (tgt := 80) dX13_removes_76 (by decide) ?_
            refine z_istore (lv' := [(0, .ref (za g b)), (1, .int (nI (x.toInt.toNat))), (2, .int (nI (y.toInt.toNat))), (3, .int (nI ((y.toInt.toNat) - (x.toInt.toNat)))), (4, .int (nI (a - 1))), (5, .int (nI (1)))]) dX13_removes_80 (by decide) rfl ?_
            refine z_iload dX13_removes_82 rfl ?_
            refine z_if_ne_n (a := 1) (tgt := 110) dX13_removes_84 (by decide) (by omega) (fun h_84_28 => ?_) (fun h_84_28 => ?_)
            · refine z_aload_n dX13_removes_110 rfl ?_
              refine z_iload dX13_removes_111 rfl ?_
              refine z_callR (As := [.int (nI (a - 1))]) (rest := []) (b := b) (ci := 12) (v := none) (R2 := zR 0 0) dX13_removes_113 kV_RX13_93 rfl ⟨⟨by decide, by decide⟩, by decide, by decide⟩ (by omega) hmi.ce rfl rfl rfl (Nat.le_of_ble_eq_true rfl) rfl (c_X13_dropsMarker (d := a - 1) h0 hmi hv9 ((by show _ < (rmL _ _ _ _).length; omega))) (fun w29 pw29 => ?_)
              obtain ⟨hf30, g31, hx32, hv33⟩ := pw29
              refine z_sub (lv' := [(0, .ref (za g b)), (1, .int (nI (x.toInt.toNat))), (2, .int (nI (y.toInt.toNat))), (3, .int (nI ((y.toInt.toNat) - (x.toInt.toNat)))), (4, .int (nI (a - 1)))]) [0, 1, 2, 3, 4] rfl ?_
              refine z_iinc (lv' := [(0, .ref (za g b)), (1, .int (nI (x.toInt.toNat))), (2, .int (nI (y.toInt.toNat))), (3, .int (nI ((y.toInt.toNat) - (x.toInt.toNat)))), (4, .int (nI (a - 1) - nI 1))]) dX13_removes_116 rfl (by rw [Int32.sub_eq_add_neg]; rfl) (by decide) rfl ?_
              refine z_goto (tgt := 40) dX13_removes_119 (by decide) ?_
              have hrm := rmL_drop (L := S.2.1) (p := x.toInt.toNat) (q := y.toInt.toNat) (a := a - 1) (by omega) (by unfold rmP; rw [Bool.and_eq_false_iff]; left; simp only [Bool.not_eq_false', decide_eq_true_eq]; omega)
              rw [show a - 1 + 1 = a by omega] at hrm
              refine ih (a - 1) _ _ (by omega) (hfi.tr hf30) hx32 (by omega) (by have q9 := hv33; rw [hrm] at q9; exact q9) (fun k hk => ?_)
              have q8 := hv33.clip (k := k) hk; rw [q8]; exact (hv.clip hk).symm
            · exact absurd h_84_28 (by decide)
  refine z_aload_n dX13_removes_0 rfl ?_
  refine z_iload_n dX13_removes_1 rfl ?_
  refine z_iload_n dX13_removes_2 rfl ?_
  by_cases hc1 : 0 ≤ ((x)).toInt ∧ ((x)).toInt ≤ ((y)).toInt ∧ ((y)).toInt ≤ (S.1.length : Nat)
  · refine z_callE (As := [.int (x), .int (y)]) (rest := []) (b := b) (ci := 12) (v := some (.int (nI (1)))) (R2 := zR 0 0) dX13_removes_3 kV_RX13_86 rfl ⟨⟨by decide, by decide⟩, by decide, by decide⟩ (by omega) h.ce rfl rfl rfl (Nat.le_of_ble_eq_true rfl) rfl (c_X13_isInterval_y h0 h hv hc1) ?_
    refine z_if_ne_n (a := 1) (tgt := 15) dX13_removes_6 (by decide) (by omega) (fun h_6_3 => ?_) (fun h_6_3 => ?_)
    · refine z_eq (lv' := [(0, .ref (za g b)), (1, .int (nI (x.toInt.toNat))), (2, .int (nI (y.toInt.toNat)))]) rfl rfl (by rw [← i_nat (x := x) (by omega), ← i_nat (x := y) (by omega)]) ?_
      refine z_iload_n dX13_removes_15 rfl ?_
      refine z_iload_n dX13_removes_16 rfl ?_
      refine z_isub_n (a := y.toInt.toNat) (b := x.toInt.toNat) dX13_removes_17 (by omega) ?_
      refine z_istore_n (lv' := [(0, .ref (za g b)), (1, .int (nI (x.toInt.toNat))), (2, .int (nI (y.toInt.toNat))), (3, .int (nI ((y.toInt.toNat) - (x.toInt.toNat))))]) dX13_removes_18 (by decide) rfl ?_
      refine z_iload_n dX13_removes_19 rfl ?_
      refine z_if_ne_n (a := (y.toInt.toNat) - (x.toInt.toNat)) (tgt := 30) dX13_removes_20 (by decide) (by omega) (fun h_20_4 => ?_) (fun h_20_4 => ?_)
      · refine z_aload_n dX13_removes_30 rfl ?_
        refine z_getf (j := b) dX13_removes_31 kF_RX13_16 rfl (by omega) h.ce rfl ?_
        refine z_iconst (v := nI 1) dX13_removes_34 rfl ?_
        refine z_iald_v (j := b + 1) (N := 410) (a := 1) (x := S.2.1.length) (f := fv) dX13_removes_35 (by omega) h.r1 (by omega) (by omega) (hv.mks) ?_
        refine z_iconst (v := nI 1) dX13_removes_36 rfl ?_
        refine z_isub dX13_removes_37 ?_
        refine z_istore (lv' := [(0, .ref (za g b)), (1, .int (nI (x.toInt.toNat))), (2, .int (nI (y.toInt.toNat))), (3, .int (nI ((y.toInt.toNat) - (x.toInt.toNat)))), (4, .int ((nI (S.2.1.length)) - (nI (1))))]) dX13_removes_38 (by decide) rfl ?_
        have hF0 : fIv S.1.length x.toInt y.toInt = 0 := by unfold fIv; rw [if_pos (by omega)]
        exact loop1 hF0 (by omega) (S.2.1.length + 1) S.2.1.length w fv (by omega) zFr.rf h (Nat.le_refl _) (by rw [rmL_n]; exact hv) (fun k hk => rfl)
      · refine z_aload_n dX13_removes_23 rfl ?_
        refine z_getf (j := b) dX13_removes_24 kF_RX13_16 rfl (by omega) h.ce rfl ?_
        refine z_iconst (v := nI 0) dX13_removes_27 rfl ?_
        refine z_iald_v (j := b + 1) (N := 410) (a := 0) (x := S.1.length) (f := fv) dX13_removes_28 (by omega) h.r1 (by omega) (by omega) (hv.dur) ?_
        refine z_iret dX13_removes_29 rfl (by decide) (by decide) ?_
        have hF0 : fIv S.1.length x.toInt y.toInt = 0 := by unfold fIv; rw [if_pos (by omega)]
        have hF : spF 2 x.toInt y.toInt 0 S = 0 := hF0
        have hxy : x.toInt.toNat = y.toInt.toNat := by omega
        refine ⟨_, _, _, rfl, zFr.rf, h, by rw [if_pos hF], ?_, fun _ => by show _ = nI (S.1.length - (y.toInt.toNat - x.toInt.toNat)); rw [show S.1.length - (y.toInt.toNat - x.toInt.toNat) = S.1.length by omega]⟩
        rw [if_pos hF]
        have hid := lclose_id (p := y.toInt.toNat) hv.mo
        show VS fv (ltab (S.1.length - (y.toInt.toNat - x.toInt.toNat)) (cutF (gT S.1) x.toInt.toNat y.toInt.toNat), lclose x.toInt.toNat y.toInt.toNat S.2.1, S.2.2)
        rw [hxy, hid, Nat.sub_self, Nat.sub_zero]
        refine hv.mkT hv.dur hv.mks rfl hv.trs (fun k hk => ?_) (fun m hm => hv.mark hm) (fun k hk => rfl) hl.1 hv.mo (fun k hk => by unfold cutF; split <;> exact hv.le _)
        rw [hv.tick hk]; unfold cutF; by_cases c2 : k < S.1.length
        · rw [if_pos c2, Nat.sub_self, Nat.add_zero]; split <;> rfl
        · rw [if_neg c2, gT_out (by omega)]
    · exact absurd h_6_3 (by decide)
  · refine z_callE (As := [.int (x), .int (y)]) (rest := []) (b := b) (ci := 12) (v := some (.int (nI (0)))) (R2 := zR 0 0) dX13_removes_3 kV_RX13_86 rfl ⟨⟨by decide, by decide⟩, by decide, by decide⟩ (by omega) h.ce rfl rfl rfl (Nat.le_of_ble_eq_true rfl) rfl (c_X13_isInterval_n h0 h hv hc1) ?_
    refine z_if_ne_n (a := 0) (tgt := 15) dX13_removes_6 (by decide) (by omega) (fun h_6_6 => ?_) (fun h_6_6 => ?_)
    · exact absurd h_6_6 (by decide)
    · refine z_aload_n dX13_removes_9 rfl ?_
      refine z_iconst (v := nI 1) dX13_removes_10 rfl ?_
      refine z_callR (As := [.int (nI (1))]) (rest := []) (b := b) (ci := 12) (v := some (.int (nI (0)))) (R2 := zR 0 0) dX13_removes_11 kV_RX13_61 rfl ⟨⟨by decide, by decide⟩, by decide, by decide⟩ (by omega) h.ce rfl rfl rfl (Nat.le_of_ble_eq_true rfl) rfl (c_X13_fail (x := (nI (1))) h0 h) (fun w7 pw7 => ?_)
      obtain ⟨hf8, hx9⟩ := pw7
      refine z_iret dX13_removes_14 rfl (by decide) (by decide) ?_
      have hF : spF 2 x.toInt y.toInt 0 S = 1 := by simp only [spF]; unfold fIv; (repeat' split) <;> omega
      exact ⟨_, _, _, rfl, hf8, hx9, by rw [hF]; rfl, by rw [if_neg (by rw [hF]; decide)]; exact hv, fun q9 => absurd (hF.symm.trans q9) (by decide)⟩
