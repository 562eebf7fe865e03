/-! the reference: a word -/
theorem wm_succ {I : List Nat} : ∀ {W : List Nat} {p n : Nat}, n + 1 ≤ wm I p W ↔ n ≤ wm I p W ∧ n < W.length ∧ I.getD (p + n) 0 = W.getD n 0
  | [], p, n => by simp [wm]
  | c :: W, p, n => by
    rw [wm]
    by_cases e : I.getD p 0 = c
    · rw [if_pos e]
      cases n with
      | zero => simp only [Nat.add_zero, List.getD_cons_zero, List.length_cons]; exact ⟨fun _ => ⟨Nat.zero_le _, by omega, e⟩, fun _ => by omega⟩
      | succ n =>
        have ih := wm_succ (I := I) (W := W) (p := p + 1) (n := n)
        simp only [List.getD_cons_succ, List.length_cons]
        rw [show p + (n + 1) = p + 1 + n by omega]
        constructor
        · intro z; have := ih.mp (by omega); exact ⟨by omega, by omega, this.2.2⟩
        · intro z; have := ih.mpr ⟨by omega, by omega, z.2.2⟩; omega
    · rw [if_neg e]
      cases n with
      | zero => simp only [Nat.add_zero, List.getD_cons_zero]; exact ⟨fun z => absurd z (by omega), fun z => absurd z.2.2 e⟩
      | succ n => exact ⟨fun z => by omega, fun z => by omega⟩
theorem wm_let {I W : List Nat} {p : Nat} : ∀ {m : Nat}, m ≤ wm I p W → ∀ k, k < m → I.getD (p + k) 0 = W.getD k 0
  | 0, _, k, hk => absurd hk (Nat.not_lt_zero k)
  | m + 1, h, k, hk => by
    have h2 := wm_succ.mp h
    by_cases c : k < m
    · exact wm_let h2.1 k c
    · rw [show k = m by omega]; exact h2.2.2
theorem zwd_sp {i : Nat} (h : i < 11) : (zwd i).getD ((zwd i).length - 1) 0 = 32 ∧ ∀ k, k < (zwd i).length - 1 → (zwd i).getD k 0 ≠ 32 := by
  have key : ∀ i : Fin 11, (zwd i.val).getD ((zwd i.val).length - 1) 0 = 32 ∧ ∀ k : Fin ((zwd i.val).length - 1), (zwd i.val).getD k.val 0 ≠ 32 := by decide +kernel
  exact ⟨(key ⟨i, h⟩).1, fun k hk => (key ⟨i, h⟩).2 ⟨k, hk⟩⟩
theorem zwd_inj {i j : Nat} (hi : i < 11) (hj : j < 11) (e : zwd i = zwd j) : i = j := by
  have key : ∀ i j : Fin 11, zwd i.val = zwd j.val → i = j := by decide +kernel
  exact congrArg Fin.val (key ⟨i, hi⟩ ⟨j, hj⟩ e)
/-- a word stands at p -/
def wful (I : List Nat) (p i : Nat) : Prop := wm I p (zwd i) = (zwd i).length
theorem wful_uniq {I : List Nat} {p i j : Nat} (hi : i < 11) (hj : j < 11) (h1 : wful I p i) (h2 : wful I p j) : i = j := by
  have o1 := zwd_ok hi
  have o2 := zwd_ok hj
  have s1 := zwd_sp hi
  have s2 := zwd_sp hj
  have l1 := wm_let (I := I) (W := zwd i) (p := p) (m := (zwd i).length) (by rw [h1]; exact Nat.le_refl _)
  have l2 := wm_let (I := I) (W := zwd j) (p := p) (m := (zwd j).length) (by rw [h2]; exact Nat.le_refl _)
  have hl : (zwd i).length = (zwd j).length := by
    rcases Nat.lt_trichotomy (zwd i).length (zwd j).length with q | q | q
    · exact absurd ((l2 _ (by omega)).symm.trans ((l1 ((zwd i).length - 1) (by omega)).trans s1.1)) (s2.2 _ (by omega))
    · exact q
    · exact absurd ((l1 _ (by omega)).symm.trans ((l2 ((zwd j).length - 1) (by omega)).trans s2.1)) (s1.2 _ (by omega))
  refine zwd_inj hi hj (List.ext_getElem hl (fun k h8 h9 => ?_))
  have := (l1 k h8).symm.trans (l2 k h9)
  rwa [gD_lt h8, gD_lt h9] at this
theorem wat_ok {j : Nat} (h : j < 11) : wat.getD (j + 1) 0 = wat.getD j 0 + (zwd j).length ∧ wat.getD (j + 1) 0 ≤ 69 ∧ ∀ k, k < (zwd j).length → wds.getD (wat.getD j 0 + k) 0 = (zwd j).getD k 0 := by
  have key : ∀ j : Fin 11, wat.getD (j.val + 1) 0 = wat.getD j.val 0 + (zwd j.val).length ∧ wat.getD (j.val + 1) 0 ≤ 69 ∧ ∀ k : Fin (zwd j.val).length, wds.getD (wat.getD j.val 0 + k.val) 0 = (zwd j.val).getD k.val 0 := by decide +kernel
  exact ⟨(key ⟨j, h⟩).1, (key ⟨j, h⟩).2.1, fun k hk => (key ⟨j, h⟩).2.2 ⟨k, hk⟩⟩
def lfE (I : List Nat) (p n j : Nat) : Nat := if n ≤ wm I p (zwd j) then 1 else 0
theorem lfE_le {I : List Nat} {p n j : Nat} : lfE I p n j ≤ 1 := by unfold lfE; split <;> omega
theorem lfE_1 {I : List Nat} {p n j : Nat} : lfE I p n j = 1 ↔ n ≤ wm I p (zwd j) := by unfold lfE; split <;> simp_all
theorem lfE_y {I : List Nat} {p n j : Nat} (h1 : n < (zwd j).length) (h2 : I.getD (p + n) 0 = (zwd j).getD n 0) : lfE I p (n + 1) j = lfE I p n j := by
  unfold lfE
  by_cases c : n ≤ wm I p (zwd j)
  · rw [if_pos c, if_pos (wm_succ.mpr ⟨c, h1, h2⟩)]
  · rw [if_neg c, if_neg (by omega)]
theorem lfE_n {I : List Nat} {p n j : Nat} (h : ¬ (n < (zwd j).length ∧ I.getD (p + n) 0 = (zwd j).getD n 0)) : lfE I p (n + 1) j = 0 := by
  unfold lfE
  exact if_neg (fun z => h (wm_succ.mp z).2)
theorem and_1 {a : Nat} (h : a ≤ 1) : nI a &&& nI 1 = nI a := by rcases (show a = 0 ∨ a = 1 by omega) with q | q <;> (rw [q]; decide)
theorem and_0 {a : Nat} (h : a ≤ 1) : nI a &&& nI 0 = nI 0 := by rcases (show a = 0 ∨ a = 1 by omega) with q | q <;> (rw [q]; decide)
/-- a word ends at n -/
def wend (I : List Nat) (p n j : Nat) : Prop := n ≤ wm I p (zwd j) ∧ (zwd j).length = n
set_option maxRecDepth 100000 in
set_option maxHeartbeats 4000000 in
theorem l_X13_word41 {g : zGT} {w w0 : zW} {b : Nat} {th ch ea fa sv tn  ln kn dg : Int32} {fv fb fs fp fh ft fl fi : Nat → Int32} {I : List Nat} {p n : Nat} {Post : zP} (h0 : zG0 g) (hf0 : zFr w w0 b (b + 11)) (h : Mx g w0 b th ch ea fa sv tn (nI (p + n)) (nI I.length) ln kn (nI 0) dg fv fb fs fp fh ft fl fi) (htx : TxR ft I) (hpn : p + n ≤ I.length) (hn9 : n ≤ 9) (hf : ∀ k, k < 11 → fi k = nI (lfE I p n k)) (kk : ∀ (m : Nat) (w' : zW) (f' : Nat → Int32), m ≤ 1 → (m = 1 → ∃ k, k < 11 ∧ n + 1 ≤ wm I p (zwd k)) → (m = 0 → ∀ k, k < 11 → ¬ n + 1 ≤ wm I p (zwd k)) → zFr w w' b (b + 11) → Mx g w' b th ch ea fa sv tn (nI (p + n)) (nI I.length) ln kn (nI 0) dg fv fb fs fp fh ft fl (f') → (∀ k, k < 11 → f' k = nI (lfE I p (n + 1) k)) → zTr g mX13_word (zR 2 0) 0 0 130 [(0, .ref (za g b)), (1, .int (nI (n))), (2, .int (-1)), (3, .int (nI (m))), (4, .int (nI (11)))] [] w' Post) : zTr g mX13_word (zR 2 0) 0 0 41 [(0, .ref (za g b)), (1, .int (nI (n))), (2, .int (-1)), (3, .int (nI (0))), (4, .int (nI (0)))] [] w0 Post := by
  have hb := h.1
  have htl := htx.1
  have loop : ∀ (mm : Nat) (j m : Nat) (wi : zW) (f8 : Nat → Int32), 12 - j < mm → (j ≤ 11) → (zFr w wi b (b + 11)) → (Mx g wi b th ch ea fa sv tn (nI (p + n)) (nI I.length) ln kn (nI 0) dg fv fb fs fp fh ft fl f8) → (∀ k, k < 11 → f8 k = if k < j then nI (lfE I p (n + 1) k) else nI (lfE I p n k)) → (m ≤ 1) → (m = 1 → ∃ k, k < j ∧ n + 1 ≤ wm I p (zwd k)) → (m = 0 → ∀ k, k < j → ¬ n + 1 ≤ wm I p (zwd k)) → zTr g mX13_word (zR 2 0) 0 0 41 [(0, .ref (za g b)), (1, .int (nI (n))), (2, .int (-1)), (3, .int (nI (m))), (4, .int (nI (j)))] [] wi (fun o w' => Post o w') := by
    intro mm
    induction mm with
    | zero => intros; omega
    | succ mm ih =>
      intro j m wi f8 hm hj hfi hmi hi hmB hm1 hm0
      refine z_iload dX13_word_41 rfl ?_
      refine z_bipush (v := nI 11) dX13_word_43 rfl ?_
      refine z_icmp_ge_n (a := j) (b := 11) (tgt := 130) dX13_word_45 (by decide) (by omega) (by omega) (fun h_45_1 => ?_) (fun h_45_1 => ?_)
      · have hj9 : j = 11 := by omega
        subst hj9
        exact kk m wi f8 hmB hm1 hm0 hfi hmi (fun k hk => by rw [hi k hk, if_pos hk])
      · refine z_aload_n dX13_word_48 rfl ?_
        refine z_getf (j := b) dX13_word_49 kF_RX13_38 rfl (by omega) hmi.ce rfl ?_
        refine z_iload dX13_word_52 rfl ?_
        refine z_dup2 dX13_word_54 rfl rfl ?_
        have hwa := wat_ok (j := j) (by omega)
        have hzo := zwd_ok (i := j) (by omega)
        have hlf := lfE_le (I := I) (p := p) (n := n) (j := j)
        have hlf2 := lfE_le (I := I) (p := p) (n := n + 1) (j := j)
        refine z_iald_v (j := b + 8) (N := 11) (a := j) (x := lfE I p n j) (f := f8) dX13_word_55 (by omega) hmi.r8 (by omega) (by omega) (by rw [hi j (by omega), if_neg (by omega)]) ?_
        refine z_aload_n dX13_word_56 rfl ?_
        refine z_getf (j := b) dX13_word_57 kF_RX13_44 rfl (by omega) hmi.ce rfl ?_
        refine z_iload dX13_word_60 rfl ?_
        refine z_iald_v (j := b + 10) (N := 12) (a := j) (x := wat.getD j 0) (f := waF) dX13_word_62 (by omega) hmi.r10 (by omega) (by omega) (rfl) ?_
        refine z_iload_n dX13_word_63 rfl ?_
        refine z_iadd_n (a := wat.getD j 0) (b := n) dX13_word_64 ?_
        refine z_aload_n dX13_word_65 rfl ?_
        refine z_getf (j := b) dX13_word_66 kF_RX13_44 rfl (by omega) hmi.ce rfl ?_
        refine z_iload dX13_word_69 rfl ?_
        refine z_iconst (v := nI 1) dX13_word_71 rfl ?_
        refine z_iadd_n (a := j) (b := 1) dX13_word_72 ?_
        refine z_iald_v (j := b + 10) (N := 12) (a := (j) + (1)) (x := wat.getD (j + 1) 0) (f := waF) dX13_word_73 (by omega) hmi.r10 (by omega) (by omega) (rfl) ?_
        refine z_icmp_ge_n (a := (wat.getD j 0) + (n)) (b := wat.getD (j + 1) 0) (tgt := 102) dX13_word_74 (by decide) (by omega) (by omega) (fun h_74_2 => ?_) (fun h_74_2 => ?_)
        · refine z_iconst (v := nI 0) dX13_word_102 rfl ?_
          refine z_iand dX13_word_103 ?_
          refine z_eq (st' := [.int (nI (lfE I p (n + 1) j)), .int (nI (j)), .ref (za g (b + 8))]) rfl (by rw [and_0 lfE_le, lfE_n (fun z => by omega)]; first | done | rfl) rfl ?_
          refine z_iast_n (j := b + 8) (N := 11) (a := j) (f := f8) dX13_word_104 (by omega) hmi.r8 (by omega) (by omega) ?_
          obtain ⟨w3, ew4⟩ : ∃ wz : zW, wz = va_up wi (b + 8) (zI g 11 (upd (f8) (j) ((nI (lfE I p (n + 1) j))))) := ⟨_, rfl⟩
          refine z_weq (w' := w3) ew4.symm ?_
          have hf5 : zFr wi w3 (b + 8) (b + 8 + 1) := by rw [ew4]; exact zFr.up (by omega)
          have hw6 : w3 (b + 8) = zI g 11 (upd (f8) (j) ((nI (lfE I p (n + 1) j)))) := by rw [ew4, zup_s]
          have hx7 := hmi.setI hf5 hw6
          refine z_iload_n dX13_word_105 rfl ?_
          refine z_aload_n dX13_word_106 rfl ?_
          refine z_getf (j := b) dX13_word_107 kF_RX13_38 rfl (by omega) hx7.ce rfl ?_
          refine z_iload dX13_word_110 rfl ?_
          refine z_iald_v (j := b + 8) (N := 11) (a := j) (x := lfE I p (n + 1) j) (f := upd (f8) (j) ((nI (lfE I p (n + 1) j)))) dX13_word_112 (by omega) hx7.r8 (by omega) (by omega) (by simp [upd]) ?_
          refine z_iconst (v := nI 1) dX13_word_113 rfl ?_
          refine z_icmp_ne_n (a := lfE I p (n + 1) j) (b := 1) (tgt := 121) dX13_word_114 (by decide) (by omega) (by omega) (fun h_114_8 => ?_) (fun h_114_8 => ?_)
          · refine z_iconst (v := nI 0) dX13_word_121 rfl ?_
            refine z_ior dX13_word_122 ?_
            refine z_eq (st' := [.int (nI (m))]) rfl (by rw [or_0 (a := m) (by omega)]; first | done | rfl) rfl ?_
            refine z_istore_n (lv' := [(0, .ref (za g b)), (1, .int (nI (n))), (2, .int (-1)), (3, .int (nI (m))), (4, .int (nI (j)))]) dX13_word_123 (by decide) rfl ?_
            refine z_iinc_n (n := 1) (a := j) (lv' := [(0, .ref (za g b)), (1, .int (nI (n))), (2, .int (-1)), (3, .int (nI (m))), (4, .int (nI (j + 1)))]) dX13_word_124 rfl (by decide) rfl ?_
            refine z_goto (tgt := 41) dX13_word_127 (by decide) ?_
            refine ih (j + 1) m _ _ (by clear hm1 hm0; omega) (by clear hm1 hm0; omega) (hfi.tr (hf5.wk (by omega) (by omega))) hx7 (fun k hk => ?_) (by clear hm1 hm0; omega) (fun z => ?_) (fun z k hk => ?_)
            · simp only [upd]
              by_cases c : k = j
              · rw [if_pos c, if_pos (by omega), c]
              · rw [if_neg c, hi k hk]
                (repeat' split) <;> first | rfl | (exfalso; omega)
            · obtain ⟨k, h8, h9⟩ := hm1 z
              exact ⟨k, by omega, h9⟩
            · by_cases c : k < j
              · exact hm0 z k c
              · rw [show k = j by omega]; exact fun z9 => h_114_8 (lfE_1.mpr z9)
          · refine z_iconst (v := nI 1) dX13_word_117 rfl ?_
            refine z_goto (tgt := 122) dX13_word_118 (by decide) ?_
            refine z_ior dX13_word_122 ?_
            refine z_eq (st' := [.int (nI (1))]) rfl (by rw [or_1 (a := m) (by omega)]; first | done | rfl) rfl ?_
            refine z_istore_n (lv' := [(0, .ref (za g b)), (1, .int (nI (n))), (2, .int (-1)), (3, .int (nI (1))), (4, .int (nI (j)))]) dX13_word_123 (by decide) rfl ?_
            refine z_iinc_n (n := 1) (a := j) (lv' := [(0, .ref (za g b)), (1, .int (nI (n))), (2, .int (-1)), (3, .int (nI (1))), (4, .int (nI (j + 1)))]) dX13_word_124 rfl (by decide) rfl ?_
            refine z_goto (tgt := 41) dX13_word_127 (by decide) ?_
            refine ih (j + 1) 1 _ _ (by clear hm1 hm0; omega) (by clear hm1 hm0; omega) (hfi.tr (hf5.wk (by omega) (by omega))) hx7 (fun k hk => ?_) (by clear hm1 hm0; omega) (fun z => ?_) (fun z k hk => ?_)
            · simp only [upd]
              by_cases c : k = j
              · rw [if_pos c, if_pos (by omega), c]
              · rw [if_neg c, hi k hk]
                (repeat' split) <;> first | rfl | (exfalso; omega)
            · exact ⟨j, by omega, lfE_1.mp (by omega)⟩
            · exact absurd z (by decide)
        · refine z_aload_n dX13_word_77 rfl ?_
          refine z_getf (j := b) dX13_word_78 kF_RX13_41 rfl (by omega) hmi.ce rfl ?_
          refine z_aload_n dX13_word_81 rfl ?_
          refine z_getf (j := b) dX13_word_82 kF_RX13_44 rfl (by omega) hmi.ce rfl ?_
          refine z_iload dX13_word_85 rfl ?_
          refine z_iald_v (j := b + 10) (N := 12) (a := j) (x := wat.getD j 0) (f := waF) dX13_word_87 (by omega) hmi.r10 (by omega) (by omega) (rfl) ?_
          refine z_iload_n dX13_word_88 rfl ?_
          refine z_iadd_n (a := wat.getD j 0) (b := n) dX13_word_89 ?_
          have hzl := hzo.2.2 n (by omega)
          refine z_iald_v (j := b + 9) (N := 69) (a := (wat.getD j 0) + (n)) (x := (zwd j).getD n 0) (f := wdF) dX13_word_90 (by omega) hmi.r9 (by omega) (by omega) (by show nI (wds.getD _ 0) = _; rw [hwa.2.2 n (by omega)]) ?_
          refine z_aload_n dX13_word_91 rfl ?_
          by_cases hc9 : p + n < I.length
          · have hch10 := htx.2.2 _ (get_mem hc9)
            refine z_callE (As := []) (rest := [.int (nI ((zwd j).getD n 0)), .int (nI (lfE I p n j)), .int (nI (j)), .ref (za g (b + 8))]) (b := b) (ci := 12) (v := some (.int (nI (I.getD (p + n) 0)))) (R2 := zR 0 0) dX13_word_92 kV_RX13_197 rfl ⟨⟨by decide, by decide⟩, by decide, by decide⟩ (by omega) hmi.ce rfl rfl rfl (Nat.le_of_ble_eq_true rfl) rfl (c_X13_sign_y (p := p + n) h0 hmi htx (by omega) hc9) ?_
            refine z_icmp_ne_n (a := (zwd j).getD n 0) (b := I.getD (p + n) 0) (tgt := 102) dX13_word_95 (by decide) (by omega) (by omega) (fun h_95_12 => ?_) (fun h_95_12 => ?_)
            · refine z_iconst (v := nI 0) dX13_word_102 rfl ?_
              refine z_iand dX13_word_103 ?_
              refine z_eq (st' := [.int (nI (lfE I p (n + 1) j)), .int (nI (j)), .ref (za g (b + 8))]) rfl (by rw [and_0 lfE_le, lfE_n (fun z => by omega)]; first | done | rfl) rfl ?_
              refine z_iast_n (j := b + 8) (N := 11) (a := j) (f := f8) dX13_word_104 (by omega) hmi.r8 (by omega) (by omega) ?_
              obtain ⟨w13, ew14⟩ : ∃ wz : zW, wz = va_up wi (b + 8) (zI g 11 (upd (f8) (j) ((nI (lfE I p (n + 1) j))))) := ⟨_, rfl⟩
              refine z_weq (w' := w13) ew14.symm ?_
              have hf15 : zFr wi w13 (b + 8) (b + 8 + 1) := by rw [ew14]; exact zFr.up (by omega)
              have hw16 : w13 (b + 8) = zI g 11 (upd (f8) (j) ((nI (lfE I p (n + 1) j)))) := by rw [ew14, zup_s]
              have hx17 := hmi.setI hf15 hw16
              refine z_iload_n dX13_word_105 rfl ?_
              refine z_aload_n dX13_word_106 rfl ?_
              refine z_getf (j := b) dX13_word_107 kF_RX13_38 rfl (by omega) hx17.ce rfl ?_
              refine z_iload dX13_word_110 rfl ?_
              refine z_iald_v (j := b + 8) (N := 11) (a := j) (x := lfE I p (n + 1) j) (f := upd (f8) (j) ((nI (lfE I p (n + 1) j)))) dX13_word_112 (by omega) hx17.r8 (by omega) (by omega) (by simp [upd]) ?_
              refine z_iconst (v := nI 1) dX13_word_113 rfl ?_
              refine z_icmp_ne_n (a := lfE I p (n + 1) j) (b := 1) (tgt := 121) dX13_word_114 (by decide) (by omega) (by omega) (fun h_114_18 => ?_) (fun h_114_18 => ?_)
              · refine z_iconst (v := nI 0) dX13_word_121 rfl ?_
                refine z_ior dX13_word_122 ?_
                refine z_eq (st' := [.int (nI (m))]) rfl (by rw [or_0 (a := m) (by omega)]; first | done | rfl) rfl ?_
                refine z_istore_n (lv' := [(0, .ref (za g b)), (1, .int (nI (n))), (2, .int (-1)), (3, .int (nI (m))), (4, .int (nI (j)))]) dX13_word_123 (by decide) rfl ?_
                refine z_iinc_n (n := 1) (a := j) (lv' := [(0, .ref (za g b)), (1, .int (nI (n))), (2, .int (-1)), (3, .int (nI (m))), (4, .int (nI (j + 1)))]) dX13_word_124 rfl (by decide) rfl ?_
                refine z_goto (tgt := 41) dX13_word_127 (by decide) ?_
                refine ih (j + 1) m _ _ (by clear hm1 hm0; omega) (by clear hm1 hm0; omega) (hfi.tr (hf15.wk (by omega) (by omega))) hx17 (fun k hk => ?_) (by clear hm1 hm0; omega) (fun z => ?_) (fun z k hk => ?_)
                · simp only [upd]
                  by_cases c : k = j
                  · rw [if_pos c, if_pos (by omega), c]
                  · rw [if_neg c, hi k hk]
                    (repeat' split) <;> first | rfl | (exfalso; omega)
                · obtain ⟨k, h8, h9⟩ := hm1 z
                  exact ⟨k, by omega, h9⟩
                · by_cases c : k < j
                  · exact hm0 z k c
                  · rw [show k = j by omega]; exact fun z9 => h_114_18 (lfE_1.mpr z9)
              · refine z_iconst (v := nI 1) dX13_word_117 rfl ?_
                refine z_goto (tgt := 122) dX13_word_118 (by decide) ?_
                refine z_ior dX13_word_122 ?_
                refine z_eq (st' := [.int (nI (1))]) rfl (by rw [or_1 (a := m) (by omega)]; first | done | rfl) rfl ?_
                refine z_istore_n (lv' := [(0, .ref (za g b)), (1, .int (nI (n))), (2, .int (-1)), (3, .int (nI (1))), (4, .int (nI (j)))]) dX13_word_123 (by decide) rfl ?_
                refine z_iinc_n (n := 1) (a := j) (lv' := [(0, .ref (za g b)), (1, .int (nI (n))), (2, .int (-1)), (3, .int (nI (1))), (4, .int (nI (j + 1)))]) dX13_word_124 rfl (by decide) rfl ?_
                refine z_goto (tgt := 41) dX13_word_127 (by decide) ?_
                refine ih (j + 1) 1 _ _ (by clear hm1 hm0; omega) (by clear hm1 hm0; omega) (hfi.tr (hf15.wk (by omega) (by omega))) hx17 (fun k hk => ?_) (by clear hm1 hm0; omega) (fun z => ?_) (fun z k hk => ?_)
                · simp only [upd]
                  by_cases c : k = j
                  · rw [if_pos c, if_pos (by omega), c]
                  · rw [if_neg c, hi k hk]
                    (repeat' split) <;> first | rfl | (exfalso; omega)
                · exact ⟨j, by omega, lfE_1.mp (by omega)⟩
                · exact absurd z (by decide)
            · refine z_iconst (v := nI 1) dX13_word_98 rfl ?_
              refine z_goto (tgt := 103) dX13_word_99 (by decide) ?_
              refine z_iand dX13_word_103 ?_
              refine z_eq (st' := [.int (nI (lfE I p (n + 1) j)), .int (nI (j)), .ref (za g (b + 8))]) rfl (by rw [and_1 lfE_le, lfE_y (by omega) (by omega)]; first | done | rfl) rfl ?_
              refine z_iast_n (j := b + 8) (N := 11) (a := j) (f := f8) dX13_word_104 (by omega) hmi.r8 (by omega) (by omega) ?_
              obtain ⟨w19, ew20⟩ : ∃ wz : zW, wz = va_up wi (b + 8) (zI g 11 (upd (f8) (j) ((nI (lfE I p (n + 1) j))))) := ⟨_, rfl⟩
              refine z_weq (w' := w19) ew20.symm ?_
              have hf21 : zFr wi w19 (b + 8) (b + 8 + 1) := by rw [ew20]; exact zFr.up (by omega)
              have hw22 : w19 (b + 8) = zI g 11 (upd (f8) (j) ((nI (lfE I p (n + 1) j)))) := by rw [ew20, zup_s]
              have hx23 := hmi.setI hf21 hw22
              refine z_iload_n dX13_word_105 rfl ?_
              refine z_aload_n dX13_word_106 rfl ?_
              refine z_getf (j := b) dX13_word_107 kF_RX13_38 rfl (by omega) hx23.ce rfl ?_
              refine z_iload dX13_word_110 rfl ?_
              refine z_iald_v (j := b + 8) (N := 11) (a := j) (x := lfE I p (n + 1) j) (f := upd (f8) (j) ((nI (lfE I p (n + 1) j)))) dX13_word_112 (by omega) hx23.r8 (by omega) (by omega) (by simp [upd]) ?_
              refine z_iconst (v := nI 1) dX13_word_113 rfl ?_
              refine z_icmp_ne_n (a := lfE I p (n + 1) j) (b := 1) (tgt := 121) dX13_word_114 (by decide) (by omega) (by omega) (fun h_114_24 => ?_) (fun h_114_24 => ?_)
              · refine z_iconst (v := nI 0) dX13_word_121 rfl ?_
                refine z_ior dX13_word_122 ?_
                refine z_eq (st' := [.int (nI (m))]) rfl (by rw [or_0 (a := m) (by omega)]; first | done | rfl) rfl ?_
                refine z_istore_n (lv' := [(0, .ref (za g b)), (1, .int (nI (n))), (2, .int (-1)), (3, .int (nI (m))), (4, .int (nI (j)))]) dX13_word_123 (by decide) rfl ?_
                refine z_iinc_n (n := 1) (a := j) (lv' := [(0, .ref (za g b)), (1, .int (nI (n))), (2, .int (-1)), (3, .int (nI (m))), (4, .int (nI (j + 1)))]) dX13_word_124 rfl (by decide) rfl ?_
                refine z_goto (tgt := 41) dX13_word_127 (by decide) ?_
                refine ih (j + 1) m _ _ (by clear hm1 hm0; omega) (by clear hm1 hm0; omega) (hfi.tr (hf21.wk (by omega) (by omega))) hx23 (fun k hk => ?_) (by clear hm1 hm0; omega) (fun z => ?_) (fun z k hk => ?_)
                · simp only [upd]
                  by_cases c : k = j
                  · rw [if_pos c, if_pos (by omega), c]
                  · rw [if_neg c, hi k hk]
                    (repeat' split) <;> first | rfl | (exfalso; omega)
                · obtain ⟨k, h8, h9⟩ := hm1 z
                  exact ⟨k, by omega, h9⟩
                · by_cases c : k < j
                  · exact hm0 z k c
                  · rw [show k = j by omega]; exact fun z9 => h_114_24 (lfE_1.mpr z9)
              · refine z_iconst (v := nI 1) dX13_word_117 rfl ?_
                refine z_goto (tgt := 122) dX13_word_118 (by decide) ?_
                refine z_ior dX13_word_122 ?_
                refine z_eq (st' := [.int (nI (1))]) rfl (by rw [or_1 (a := m) (by omega)]; first | done | rfl) rfl ?_
                refine z_istore_n (lv' := [(0, .ref (za g b)), (1, .int (nI (n))), (2, .int (-1)), (3, .int (nI (1))), (4, .int (nI (j)))]) dX13_word_123 (by decide) rfl ?_
                refine z_iinc_n (n := 1) (a := j) (lv' := [(0, .ref (za g b)), (1, .int (nI (n))), (2, .int (-1)), (3, .int (nI (1))), (4, .int (nI (j + 1)))]) dX13_word_124 rfl (by decide) rfl ?_
                refine z_goto (tgt := 41) dX13_word_127 (by decide) ?_
                refine ih (j + 1) 1 _ _ (by clear hm1 hm0; omega) (by clear hm1 hm0; omega) (hfi.tr (hf21.wk (by omega) (by omega))) hx23 (fun k hk => ?_) (by clear hm1 hm0; omega) (fun z => ?_) (fun z k hk => ?_)
                · simp only [upd]
                  by_cases c : k = j
                  · rw [if_pos c, if_pos (by omega), c]
                  · rw [if_neg c, hi k hk]
                    (repeat' split) <;> first | rfl | (exfalso; omega)
                · exact ⟨j, by omega, lfE_1.mp (by omega)⟩
                · exact absurd z (by decide)
          · have hgz25 : I.getD (p + n) 0 = 0 := gD_ge (by omega)
            have hm126 : (-1 : Int32).toInt = -1 := by decide
            refine z_callE (As := []) (rest := [.int (nI ((zwd j).getD n 0)), .int (nI (lfE I p n j)), .int (nI (j)), .ref (za g (b + 8))]) (b := b) (ci := 12) (v := some (.int (-1))) (R2 := zR 0 0) dX13_word_92 kV_RX13_197 rfl ⟨⟨by decide, by decide⟩, by decide, by decide⟩ (by omega) hmi.ce rfl rfl rfl (Nat.le_of_ble_eq_true rfl) rfl (c_X13_sign_n (p := p + n) h0 hmi htx (by omega) hc9) ?_
            have hk29 := nI_toInt (n := (zwd j).getD n 0) (by omega)
            have hk30 : (-1 : Int32).toInt = -1 := by decide
            refine z_icmp_ne_z (tgt := 102) dX13_word_95 (by decide) (fun h_95_28 => ?_) (fun h_95_28 => ?_)
            · refine z_iconst (v := nI 0) dX13_word_102 rfl ?_
              refine z_iand dX13_word_103 ?_
              refine z_eq (st' := [.int (nI (lfE I p (n + 1) j)), .int (nI (j)), .ref (za g (b + 8))]) rfl (by rw [and_0 lfE_le, lfE_n (fun z => by omega)]; first | done | rfl) rfl ?_
              refine z_iast_n (j := b + 8) (N := 11) (a := j) (f := f8) dX13_word_104 (by omega) hmi.r8 (by omega) (by omega) ?_
              obtain ⟨w31, ew32⟩ : ∃ wz : zW, wz = va_up wi (b + 8) (zI g 11 (upd (f8) (j) ((nI (lfE I p (n + 1) j))))) := ⟨_, rfl⟩
              refine z_weq (w' := w31) ew32.symm ?_
              have hf33 : zFr wi w31 (b + 8) (b + 8 + 1) := by rw [ew32]; exact zFr.up (by omega)
              have hw34 : w31 (b + 8) = zI g 11 (upd (f8) (j) ((nI (lfE I p (n + 1) j)))) := by rw [ew32, zup_s]
              have hx35 := hmi.setI hf33 hw34
              refine z_iload_n dX13_word_105 rfl ?_
              refine z_aload_n dX13_word_106 rfl ?_
              refine z_getf (j := b) dX13_word_107 kF_RX13_38 rfl (by omega) hx35.ce rfl ?_
              refine z_iload dX13_word_110 rfl ?_
              refine z_iald_v (j := b + 8) (N := 11) (a := j) (x := lfE I p (n + 1) j) (f := upd (f8) (j) ((nI (lfE I p (n + 1) j)))) dX13_word_112 (by omega) hx35.r8 (by omega) (by omega) (by simp [upd]) ?_
              refine z_iconst (v := nI 1) dX13_word_113 rfl ?_
              refine z_icmp_ne_n (a := lfE I p (n + 1) j) (b := 1) (tgt := 121) dX13_word_114 (by decide) (by omega) (by omega) (fun h_114_36 => ?_) (fun h_114_36 => ?_)
              · refine z_iconst (v := nI 0) dX13_word_121 rfl ?_
                refine z_ior dX13_word_122 ?_
                refine z_eq (st' := [.int (nI (m))]) rfl (by rw [or_0 (a := m) (by omega)]; first | done | rfl) rfl ?_
                refine z_istore_n (lv' := [(0, .ref (za g b)), (1, .int (nI (n))), (2, .int (-1)), (3, .int (nI (m))), (4, .int (nI (j)))]) dX13_word_123 (by decide) rfl ?_
                refine z_iinc_n (n := 1) (a := j) (lv' := [(0, .ref (za g b)), (1, .int (nI (n))), (2, .int (-1)), (3, .int (nI (m))), (4, .int (nI (j + 1)))]) dX13_word_124 rfl (by decide) rfl ?_
                refine z_goto (tgt := 41) dX13_word_127 (by decide) ?_
                refine ih (j + 1) m _ _ (by clear hm1 hm0; omega) (by clear hm1 hm0; omega) (hfi.tr (hf33.wk (by omega) (by omega))) hx35 (fun k hk => ?_) (by clear hm1 hm0; omega) (fun z => ?_) (fun z k hk => ?_)
                · simp only [upd]
                  by_cases c : k = j
                  · rw [if_pos c, if_pos (by omega), c]
                  · rw [if_neg c, hi k hk]
                    (repeat' split) <;> first | rfl | (exfalso; omega)
                · obtain ⟨k, h8, h9⟩ := hm1 z
                  exact ⟨k, by omega, h9⟩
                · by_cases c : k < j
                  · exact hm0 z k c
                  · rw [show k = j by omega]; exact fun z9 => h_114_36 (lfE_1.mpr z9)
              · refine z_iconst (v := nI 1) dX13_word_117 rfl ?_
                refine z_goto (tgt := 122) dX13_word_118 (by decide) ?_
                refine z_ior dX13_word_122 ?_
                refine z_eq (st' := [.int (nI (1))]) rfl (by rw [or_1 (a := m) (by omega)]; first | done | rfl) rfl ?_
                refine z_istore_n (lv' := [(0, .ref (za g b)), (1, .int (nI (n))), (2, .int (-1)), (3, .int (nI (1))), (4, .int (nI (j)))]) dX13_word_123 (by decide) rfl ?_
                refine z_iinc_n (n := 1) (a := j) (lv' := [(0, .ref (za g b)), (1, .int (nI (n))), (2, .int (-1)), (3, .int (nI (1))), (4, .int (nI (j + 1)))]) dX13_word_124 rfl (by decide) rfl ?_
                refine z_goto (tgt := 41) dX13_word_127 (by decide) ?_
                refine ih (j + 1) 1 _ _ (by clear hm1 hm0; omega) (by clear hm1 hm0; omega) (hfi.tr (hf33.wk (by omega) (by omega))) hx35 (fun k hk => ?_) (by clear hm1 hm0; omega) (fun z => ?_) (fun z k hk => ?_)
                · simp only [upd]
                  by_cases c : k = j
                  · rw [if_pos c, if_pos (by omega), c]
                  · rw [if_neg c, hi k hk]
                    (repeat' split) <;> first | rfl | (exfalso; omega)
                · exact ⟨j, by omega, lfE_1.mp (by omega)⟩
                · exact absurd z (by decide)
            · (exfalso; omega)
  exact loop 13 0 0 w0 fi (by omega) (Nat.zero_le _) hf0 h (fun k hk => by rw [if_neg (by omega)]; exact hf k hk) (by omega) (fun z => absurd z (by decide)) (fun _ k hk => absurd hk (Nat.not_lt_zero k))
set_option maxRecDepth 100000 in
set_option maxHeartbeats 4000000 in
theorem l_X13_word167 {g : zGT} {w : zW} {b : Nat} {th ch ea fa sv tn po en ln kn wr dg : Int32} {fv fb fs fp fh ft fl fi : Nat → Int32} {I : List Nat} {p n : Nat} {mv : Int32} {Post : zP} (h0 : zG0 g) (h : Mx g w b th ch ea fa sv tn po en ln kn wr dg fv fb fs fp fh ft fl fi) (hn9 : n ≤ 20) (hf : ∀ k, k < 11 → fi k = nI (lfE I p n k)) (kk : ∀ is : Int32, ((is = -1 ∧ ∀ k, k < 11 → ¬ wend I p n k) ∨ ∃ d, d < 11 ∧ is = nI d ∧ wend I p n d) → zTr g mX13_word (zR 2 0) 0 0 25 [(0, .ref (za g b)), (1, .int (nI (n))), (2, .int (is))] [] w Post) : zTr g mX13_word (zR 2 0) 0 0 167 [(0, .ref (za g b)), (1, .int (nI (n))), (2, .int (-1)), (3, .int (mv)), (4, .int (nI (0)))] [] w Post := by
  have hb := h.1
  have loop : ∀ (mm : Nat) (j : Nat) (is : Int32), 12 - j < mm → (j ≤ 11) → ((is = -1 ∧ ∀ k, k < j → ¬ wend I p n k) ∨ ∃ d, d < j ∧ is = nI d ∧ wend I p n d) → zTr g mX13_word (zR 2 0) 0 0 167 [(0, .ref (za g b)), (1, .int (nI (n))), (2, .int (is)), (3, .int (mv)), (4, .int (nI (j)))] [] w (fun o w' => Post o w') := by
    intro mm
    induction mm with
    | zero => intros; omega
    | succ mm ih =>
      intro j is hm hj his
      refine z_iload dX13_word_167 rfl ?_
      refine z_bipush (v := nI 11) dX13_word_169 rfl ?_
      refine z_icmp_ge_n (a := j) (b := 11) (tgt := 219) dX13_word_171 (by decide) (by omega) (by omega) (fun h_171_1 => ?_) (fun h_171_1 => ?_)
      · refine z_sub (lv' := [(0, .ref (za g b)), (1, .int (nI (n))), (2, .int (is))]) [0, 1, 2] rfl ?_
        have hj9 : j = 11 := by omega
        subst hj9
        refine z_goto (tgt := 25) dX13_word_219 (by decide) ?_
        exact kk is his
      · refine z_aload_n dX13_word_174 rfl ?_
        refine z_getf (j := b) dX13_word_175 kF_RX13_38 rfl (by omega) h.ce rfl ?_
        refine z_iload dX13_word_178 rfl ?_
        have hwa := wat_ok (j := j) (by omega)
        have hzo := zwd_ok (i := j) (by omega)
        have hlf := lfE_le (I := I) (p := p) (n := n) (j := j)
        refine z_iald_v (j := b + 8) (N := 11) (a := j) (x := lfE I p n j) (f := fi) dX13_word_180 (by omega) h.r8 (by omega) (by omega) (hf j (by omega)) ?_
        refine z_iconst (v := nI 1) dX13_word_181 rfl ?_
        refine z_icmp_ne_n (a := lfE I p n j) (b := 1) (tgt := 211) dX13_word_182 (by decide) (by omega) (by omega) (fun h_182_2 => ?_) (fun h_182_2 => ?_)
        · refine z_iload_n dX13_word_211 rfl ?_
          refine z_istore_n (lv' := [(0, .ref (za g b)), (1, .int (nI (n))), (2, .int (is)), (3, .int (mv)), (4, .int (nI (j)))]) dX13_word_212 (by decide) rfl ?_
          refine z_iinc_n (n := 1) (a := j) (lv' := [(0, .ref (za g b)), (1, .int (nI (n))), (2, .int (is)), (3, .int (mv)), (4, .int (nI (j + 1)))]) dX13_word_213 rfl (by decide) rfl ?_
          refine z_goto (tgt := 167) dX13_word_216 (by decide) ?_
          have hwj : ¬ wend I p n j := fun z => by have q9 := lfE_1.mpr z.1; omega
          refine ih (j + 1) is (by omega) (by omega) ?_
          rcases his with ⟨e1, e2⟩ | ⟨d, e1, e2, e3⟩
          · refine Or.inl ⟨e1, fun k hk => ?_⟩
            by_cases c : k < j
            · exact e2 k c
            · rw [show k = j by omega]; exact hwj
          · exact Or.inr ⟨d, by omega, e2, e3⟩
        · refine z_aload_n dX13_word_185 rfl ?_
          refine z_getf (j := b) dX13_word_186 kF_RX13_44 rfl (by omega) h.ce rfl ?_
          refine z_iload dX13_word_189 rfl ?_
          refine z_iald_v (j := b + 10) (N := 12) (a := j) (x := wat.getD j 0) (f := waF) dX13_word_191 (by omega) h.r10 (by omega) (by omega) (rfl) ?_
          refine z_iload_n dX13_word_192 rfl ?_
          refine z_iadd_n (a := wat.getD j 0) (b := n) dX13_word_193 ?_
          refine z_aload_n dX13_word_194 rfl ?_
          refine z_getf (j := b) dX13_word_195 kF_RX13_44 rfl (by omega) h.ce rfl ?_
          refine z_iload dX13_word_198 rfl ?_
          refine z_iconst (v := nI 1) dX13_word_200 rfl ?_
          refine z_iadd_n (a := j) (b := 1) dX13_word_201 ?_
          refine z_iald_v (j := b + 10) (N := 12) (a := (j) + (1)) (x := wat.getD (j + 1) 0) (f := waF) dX13_word_202 (by omega) h.r10 (by omega) (by omega) (rfl) ?_
          refine z_icmp_ne_n (a := (wat.getD j 0) + (n)) (b := wat.getD (j + 1) 0) (tgt := 211) dX13_word_203 (by decide) (by omega) (by omega) (fun h_203_3 => ?_) (fun h_203_3 => ?_)
          · refine z_iload_n dX13_word_211 rfl ?_
            refine z_istore_n (lv' := [(0, .ref (za g b)), (1, .int (nI (n))), (2, .int (is)), (3, .int (mv)), (4, .int (nI (j)))]) dX13_word_212 (by decide) rfl ?_
            refine z_iinc_n (n := 1) (a := j) (lv' := [(0, .ref (za g b)), (1, .int (nI (n))), (2, .int (is)), (3, .int (mv)), (4, .int (nI (j + 1)))]) dX13_word_213 rfl (by decide) rfl ?_
            refine z_goto (tgt := 167) dX13_word_216 (by decide) ?_
            have hwj : ¬ wend I p n j := fun z => by have q9 := z.2; omega
            refine ih (j + 1) is (by omega) (by omega) ?_
            rcases his with ⟨e1, e2⟩ | ⟨d, e1, e2, e3⟩
            · refine Or.inl ⟨e1, fun k hk => ?_⟩
              by_cases c : k < j
              · exact e2 k c
              · rw [show k = j by omega]; exact hwj
            · exact Or.inr ⟨d, by omega, e2, e3⟩
          · refine z_iload dX13_word_206 rfl ?_
            refine z_goto (tgt := 212) dX13_word_208 (by decide) ?_
            refine z_istore_n (lv' := [(0, .ref (za g b)), (1, .int (nI (n))), (2, .int (nI (j))), (3, .int (mv)), (4, .int (nI (j)))]) dX13_word_212 (by decide) rfl ?_
            refine z_iinc_n (n := 1) (a := j) (lv' := [(0, .ref (za g b)), (1, .int (nI (n))), (2, .int (nI (j))), (3, .int (mv)), (4, .int (nI (j + 1)))]) dX13_word_213 rfl (by decide) rfl ?_
            refine z_goto (tgt := 167) dX13_word_216 (by decide) ?_
            have hwj : wend I p n j := ⟨lfE_1.mp (by omega), by omega⟩
            refine ih (j + 1) (nI j) (by omega) (by omega) (Or.inr ⟨j, by omega, rfl, hwj⟩)
  exact loop 13 0 (-1) (by omega) (Nat.zero_le _) (Or.inl ⟨rfl, fun k hk => absurd hk (Nat.not_lt_zero k)⟩)
