/-! RailTimeline: output, input, scripts, undo, snapshot -/
theorem dig3_1 {x : Nat} (h : x < 10) : dig3 x = [48 + x] := by
  unfold dig3; rw [if_neg (by omega), if_neg (by omega), show x % 10 = x by omega]; rfl
set_option maxRecDepth 100000 in
set_option maxHeartbeats 4000000 in
theorem c_X7_appendNumber_s {g : zGT} {w : zW} {b x : Nat} {O : List Nat} (h0 : zG0 g) (hO : Ox g w b O) (hlt : O.length + 1 ≤ 1000) (hx9 : x < 10) : zCt g mX7_appendNumber (zR 1 0) [.ref (za g b), .int (nI (x))] w (fun o w' => o = .inl none ∧ zFr w w' b (b + 2) ∧ Ox g w' b (O ++ dig3 x)) := by
  have hb := hO.1
  have hw := hO.2.1
  refine zCt_of (by decide +kernel) h0 [(0, .ref (za g b)), (1, .int (nI (x)))] rfl (Nat.le_of_ble_eq_true rfl) ?_
  refine z_iload_n dX7_appendNumber_0 rfl ?_
  refine z_bipush (v := nI 100) dX7_appendNumber_1 rfl ?_
  refine z_icmp_lt_n (a := x) (b := 100) (tgt := 18) dX7_appendNumber_3 (by decide) (by omega) (by omega) (fun h_3_1 => ?_) (fun h_3_1 => ?_)
  · refine z_iload_n dX7_appendNumber_18 rfl ?_
    refine z_bipush (v := nI 10) dX7_appendNumber_19 rfl ?_
    refine z_icmp_lt_n (a := x) (b := 10) (tgt := 39) dX7_appendNumber_21 (by decide) (by omega) (by omega) (fun h_21_2 => ?_) (fun h_21_2 => ?_)
    · refine z_aload_n dX7_appendNumber_39 rfl ?_
      refine z_bipush (v := nI 48) dX7_appendNumber_40 rfl ?_
      refine z_iload_n dX7_appendNumber_42 rfl ?_
      refine z_bipush (v := nI 10) dX7_appendNumber_43 rfl ?_
      refine z_irem_n (a := x) (b := 10) dX7_appendNumber_45 (by omega) (by omega) (by omega) ?_
      refine z_iadd_n (a := 48) (b := (x) % (10)) dX7_appendNumber_46 ?_
      refine z_i2c_n (a := (48) + ((x) % (10))) dX7_appendNumber_47 (by omega) ?_
      refine z_callR (As := [.int (nI ((48) + ((x) % (10))))]) (rest := []) (b := b) (ci := 7) (v := none) (R2 := zR 0 0) dX7_appendNumber_48 kV_RX7_19 rfl ⟨⟨by decide, by decide⟩, by decide, by decide⟩ (by omega) hw rfl rfl rfl (Nat.le_of_ble_eq_true rfl) rfl (c_X7_append (c := (48) + ((x) % (10))) h0 hO (by omega) (by omega)) (fun w3 pw3 => ?_)
      obtain ⟨hf_w3, hOn⟩ := pw3
      refine z_vret dX7_appendNumber_51 rfl (by decide) (by decide) ?_
      refine ⟨rfl, hf_w3, ?_⟩
      rw [dig3_1 hx9]; rw [show (48) + ((x) % (10)) = 48 + x by omega] at hOn; exact hOn
    · exact absurd h_21_2 (by omega)
  · exact absurd h_3_1 (by omega)
/-- how a run is written -/
def noteR (v l : Nat) : List Nat := (if v = 0 then [114] else 104 :: dig3 v) ++ (58 :: dig3 l)
def noteT (T : Nat → Nat) (n : Nat) : Nat → List Nat
  | 0 => []
  | k + 1 => noteT T n k ++ (if stB T k then (if k = 0 then [] else [32]) ++ noteR (T k) (lenF T n k) else [])
theorem dig3_l {x : Nat} (h : 1 ≤ x) (h2 : x ≤ 999) : 1 ≤ (dig3 x).length ∧ (dig3 x).length ≤ x ∧ (dig3 x).length ≤ 3 ∧ (x < 10 → (dig3 x).length = 1) := by
  unfold dig3
  by_cases c1 : 100 ≤ x
  · rw [if_pos c1, if_pos (by omega)]; simp; omega
  · rw [if_neg c1]
    by_cases c2 : 10 ≤ x
    · rw [if_pos c2]; simp; omega
    · rw [if_neg c2]; simp; omega
theorem noteR_l {v l : Nat} (hv : v ≤ 9) (hl : 1 ≤ l) (hl2 : l ≤ 999) : (noteR v l).length + 1 ≤ 5 * l := by
  have h1 := dig3_l hl hl2
  unfold noteR
  by_cases c : v = 0
  · rw [if_pos c]; simp; omega
  · rw [if_neg c, dig3_1 (by omega)]; simp; omega
section NT
variable {T : Nat → Nat} {n m : Nat} {s l v : Nat → Nat}
theorem IsR.note (h : IsR T n m s l v) {r : Nat} (hr : r < m) : noteT T n (s r + l r) = noteT T n (s r) ++ ((if r = 0 then [] else [32]) ++ noteR (v r) (l r)) := by
  have h6 := h.2.2.2.2.2.1 r hr
  have key : ∀ j, j < l r → noteT T n (s r + (j + 1)) = noteT T n (s r) ++ ((if r = 0 then [] else [32]) ++ noteR (v r) (l r)) := by
    intro j
    induction j with
    | zero =>
      intro _
      rw [show s r + (0 + 1) = s r + 1 by omega, noteT, if_pos (h.st hr), h.lev hr, h.lenR hr]
      by_cases c : r = 0
      · subst c; rw [h.2.2.1 (by omega)]
      · have := h.mono r hr 0 (by omega)
        rw [if_neg (show ¬ s r = 0 by omega), if_neg c]
    | succ j ih => intro hj; rw [show s r + (j + 1 + 1) = (s r + (j + 1)) + 1 by omega, noteT, ih (by omega), h.inn hr (by omega) (by omega)]; simp
  have := key (l r - 1) (by omega)
  rwa [show l r - 1 + 1 = l r by omega] at this
def posR (s l : Nat → Nat) : Nat → Nat
  | 0 => 0
  | r + 1 => s r + l r
theorem IsR.pos (h : IsR T n m s l v) {r : Nat} (hr : r < m) : posR s l r = s r := by
  cases r with
  | zero => rw [h.2.2.1 hr]; rfl
  | succ r => rw [h.2.2.2.1 r hr]; rfl
theorem IsR.pos_n (h : IsR T n m s l v) : posR s l m = n := by
  rcases Nat.eq_zero_or_pos m with q | q
  · rw [h.2.1 q, q]; rfl
  · obtain ⟨r, rfl⟩ : ∃ r, m = r + 1 := ⟨m - 1, by omega⟩
    exact h.2.2.2.2.1 q
end NT
/-- how the bars are written up to the time k -/
def barsT (T : Nat → Nat) (L : List Nat) (n : Nat) : Nat → List Nat
  | 0 => []
  | k + 1 => barsT T L n k ++ ((if k ∈ L then [124] else []) ++ (if k < n then dig3 (T k) else []))
theorem barsT_l {T : Nat → Nat} {L : List Nat} {n : Nat} : ∀ {k : Nat}, (barsT T L n k).length ≤ 4 * k
  | 0 => by simp [barsT]
  | k + 1 => by
    have := barsT_l (T := T) (L := L) (n := n) (k := k)
    have h3 := dig3_len (x := T k)
    rw [barsT, List.length_append, List.length_append]
    split <;> split <;> simp <;> omega
set_option maxRecDepth 100000 in
set_option maxHeartbeats 4000000 in
theorem c_X12_renderRun {g : zGT} {w : zW} {b : Nat} {S : zSt} {Hs : List zSt} {Sn : Option zSt} {I O : List Nat} {ep fc : Int32} {v l : Nat} (h0 : zG0 g) (h1 : zST g) (h : Rx g w b S Hs Sn I O ep fc) (hv : v ≤ 9) (hl : 1 ≤ l ∧ l ≤ 200) (hO4 : O.length + 4 ≤ 1000) (hO6 : 10 ≤ l → O.length + 6 ≤ 1000) : zCt g mX12_renderRun (zR 2 0) [.ref (za g b), .int (nI (v)), .int (nI (l))] w (fun o w' => o = .inl none ∧ zFr w w' (b + 99) (b + 101) ∧ Rx g w' b S Hs Sn I (O ++ noteR v l) ep fc) := by
  have hb := h.1
  refine zCt_of (by decide +kernel) h0 [(0, .ref (za g b)), (1, .int (nI (v))), (2, .int (nI (l)))] rfl (Nat.le_of_ble_eq_true rfl) ?_
  refine z_iload_n dX12_renderRun_0 rfl ?_
  refine z_if_ne_n (a := v) (tgt := 16) dX12_renderRun_1 (by decide) (by omega) (fun h_1_1 => ?_) (fun h_1_1 => ?_)
  · refine z_aload_n dX12_renderRun_16 rfl ?_
    refine z_getf (j := b) dX12_renderRun_17 kF_RX12_64 rfl (by omega) h.ce rfl ?_
    refine z_bipush (v := nI 104) dX12_renderRun_20 rfl ?_
    refine z_callR (As := [.int (nI (104))]) (rest := []) (b := b + 99) (ci := 7) (v := none) (R2 := zR 0 0) dX12_renderRun_22 kV_RX12_359 rfl ⟨⟨by decide, by decide⟩, by decide, by decide⟩ (by omega) h.ou.2.1 rfl rfl rfl (Nat.le_of_ble_eq_true rfl) rfl (c_X7_append (c := 104) h0 h.ou (by (try simp only [List.length_append, List.length_singleton, List.length_cons, List.length_nil]); omega) (by omega)) (fun w2 pw2 => ?_)
    obtain ⟨hf3, hn4⟩ := pw2
    have hx5 := h.setOu hf3 hn4
    refine z_aload_n dX12_renderRun_25 rfl ?_
    refine z_getf (j := b) dX12_renderRun_26 kF_RX12_64 rfl (by omega) hx5.ce rfl ?_
    refine z_iload_n dX12_renderRun_29 rfl ?_
    refine z_callR (As := [.int (nI (v))]) (rest := []) (b := b + 99) (ci := 7) (v := none) (R2 := zR 1 0) dX12_renderRun_30 kV_RX12_369 rfl ⟨⟨by decide, by decide⟩, by decide, by decide⟩ (by omega) hx5.ou.2.1 rfl rfl rfl (Nat.le_of_ble_eq_true rfl) rfl (c_X7_appendNumber_s (x := v) h0 hx5.ou (by (try simp only [List.length_append, List.length_singleton, List.length_cons, List.length_nil]); omega) (by omega)) (fun w6 pw6 => ?_)
    obtain ⟨hf7, hn8⟩ := pw6
    have hx9 := hx5.setOu hf7 hn8
    have hdv : v < 10 → (dig3 v).length = 1 := fun q9 => by rw [dig3_1 q9]; rfl
    refine z_aload_n dX12_renderRun_33 rfl ?_
    refine z_getf (j := b) dX12_renderRun_34 kF_RX12_64 rfl (by omega) hx9.ce rfl ?_
    refine z_bipush (v := nI 58) dX12_renderRun_37 rfl ?_
    refine z_callR (As := [.int (nI (58))]) (rest := []) (b := b + 99) (ci := 7) (v := none) (R2 := zR 0 0) dX12_renderRun_39 kV_RX12_359 rfl ⟨⟨by decide, by decide⟩, by decide, by decide⟩ (by omega) hx9.ou.2.1 rfl rfl rfl (Nat.le_of_ble_eq_true rfl) rfl (c_X7_append (c := 58) h0 hx9.ou (by (try simp only [List.length_append, List.length_singleton, List.length_cons, List.length_nil]); omega) (by omega)) (fun w10 pw10 => ?_)
    obtain ⟨hf11, hn12⟩ := pw10
    have hx13 := hx9.setOu hf11 hn12
    refine z_aload_n dX12_renderRun_42 rfl ?_
    refine z_getf (j := b) dX12_renderRun_43 kF_RX12_64 rfl (by omega) hx13.ce rfl ?_
    refine z_iload_n dX12_renderRun_46 rfl ?_
    by_cases hc14 : (l) < 10
    · refine z_callR (As := [.int (nI (l))]) (rest := []) (b := b + 99) (ci := 7) (v := none) (R2 := zR 1 0) dX12_renderRun_47 kV_RX12_369 rfl ⟨⟨by decide, by decide⟩, by decide, by decide⟩ (by omega) hx13.ou.2.1 rfl rfl rfl (Nat.le_of_ble_eq_true rfl) rfl (c_X7_appendNumber_s (x := l) h0 hx13.ou (by (try simp only [List.length_append, List.length_singleton, List.length_cons, List.length_nil]); omega) hc14) (fun w15 pw15 => ?_)
      obtain ⟨hf16, hn17⟩ := pw15
      have hx18 := hx13.setOu hf16 hn17
      refine z_vret dX12_renderRun_50 rfl (by decide) (by decide) ?_
      have e9 : noteR v l = (104 :: dig3 v) ++ (58 :: dig3 l) := by unfold noteR; rw [if_neg (by omega)]
      refine ⟨rfl, ((((hf3.wk (by omega) (by omega)).tr (hf7.wk (by omega) (by omega))).tr (hf11.wk (by omega) (by omega))).tr (hf16.wk (by omega) (by omega))), ?_⟩
      rw [e9]
      have h9 := hx18
      simp only [List.append_assoc, List.cons_append, List.nil_append, List.singleton_append] at h9 ⊢
      exact h9
    · refine z_callR (As := [.int (nI (l))]) (rest := []) (b := b + 99) (ci := 7) (v := none) (R2 := zR 1 0) dX12_renderRun_47 kV_RX12_369 rfl ⟨⟨by decide, by decide⟩, by decide, by decide⟩ (by omega) hx13.ou.2.1 rfl rfl rfl (Nat.le_of_ble_eq_true rfl) rfl (c_X7_appendNumber (x := l) h0 hx13.ou (by (try simp only [List.length_append, List.length_singleton, List.length_cons, List.length_nil]); omega) (by omega)) (fun w19 pw19 => ?_)
      obtain ⟨hf20, hn21⟩ := pw19
      have hx22 := hx13.setOu hf20 hn21
      refine z_vret dX12_renderRun_50 rfl (by decide) (by decide) ?_
      have e9 : noteR v l = (104 :: dig3 v) ++ (58 :: dig3 l) := by unfold noteR; rw [if_neg (by omega)]
      refine ⟨rfl, ((((hf3.wk (by omega) (by omega)).tr (hf7.wk (by omega) (by omega))).tr (hf11.wk (by omega) (by omega))).tr (hf20.wk (by omega) (by omega))), ?_⟩
      rw [e9]
      have h9 := hx22
      simp only [List.append_assoc, List.cons_append, List.nil_append, List.singleton_append] at h9 ⊢
      exact h9
  · refine z_aload_n dX12_renderRun_4 rfl ?_
    refine z_getf (j := b) dX12_renderRun_5 kF_RX12_64 rfl (by omega) h.ce rfl ?_
    refine z_bipush (v := nI 114) dX12_renderRun_8 rfl ?_
    refine z_callR (As := [.int (nI (114))]) (rest := []) (b := b + 99) (ci := 7) (v := none) (R2 := zR 0 0) dX12_renderRun_10 kV_RX12_359 rfl ⟨⟨by decide, by decide⟩, by decide, by decide⟩ (by omega) h.ou.2.1 rfl rfl rfl (Nat.le_of_ble_eq_true rfl) rfl (c_X7_append (c := 114) h0 h.ou (by (try simp only [List.length_append, List.length_singleton, List.length_cons, List.length_nil]); omega) (by omega)) (fun w23 pw23 => ?_)
    obtain ⟨hf24, hn25⟩ := pw23
    have hx26 := h.setOu hf24 hn25
    refine z_goto (tgt := 33) dX12_renderRun_13 (by decide) ?_
    have hdv : v < 10 → (dig3 v).length = 1 := fun q9 => by rw [dig3_1 q9]; rfl
    refine z_aload_n dX12_renderRun_33 rfl ?_
    refine z_getf (j := b) dX12_renderRun_34 kF_RX12_64 rfl (by omega) hx26.ce rfl ?_
    refine z_bipush (v := nI 58) dX12_renderRun_37 rfl ?_
    refine z_callR (As := [.int (nI (58))]) (rest := []) (b := b + 99) (ci := 7) (v := none) (R2 := zR 0 0) dX12_renderRun_39 kV_RX12_359 rfl ⟨⟨by decide, by decide⟩, by decide, by decide⟩ (by omega) hx26.ou.2.1 rfl rfl rfl (Nat.le_of_ble_eq_true rfl) rfl (c_X7_append (c := 58) h0 hx26.ou (by (try simp only [List.length_append, List.length_singleton, List.length_cons, List.length_nil]); omega) (by omega)) (fun w27 pw27 => ?_)
    obtain ⟨hf28, hn29⟩ := pw27
    have hx30 := hx26.setOu hf28 hn29
    refine z_aload_n dX12_renderRun_42 rfl ?_
    refine z_getf (j := b) dX12_renderRun_43 kF_RX12_64 rfl (by omega) hx30.ce rfl ?_
    refine z_iload_n dX12_renderRun_46 rfl ?_
    by_cases hc31 : (l) < 10
    · refine z_callR (As := [.int (nI (l))]) (rest := []) (b := b + 99) (ci := 7) (v := none) (R2 := zR 1 0) dX12_renderRun_47 kV_RX12_369 rfl ⟨⟨by decide, by decide⟩, by decide, by decide⟩ (by omega) hx30.ou.2.1 rfl rfl rfl (Nat.le_of_ble_eq_true rfl) rfl (c_X7_appendNumber_s (x := l) h0 hx30.ou (by (try simp only [List.length_append, List.length_singleton, List.length_cons, List.length_nil]); omega) hc31) (fun w32 pw32 => ?_)
      obtain ⟨hf33, hn34⟩ := pw32
      have hx35 := hx30.setOu hf33 hn34
      refine z_vret dX12_renderRun_50 rfl (by decide) (by decide) ?_
      have e9 : noteR v l = [114] ++ (58 :: dig3 l) := by unfold noteR; rw [if_pos (by omega)]
      refine ⟨rfl, (((hf24.wk (by omega) (by omega)).tr (hf28.wk (by omega) (by omega))).tr (hf33.wk (by omega) (by omega))), ?_⟩
      rw [e9]
      have h9 := hx35
      simp only [List.append_assoc, List.cons_append, List.nil_append, List.singleton_append] at h9 ⊢
      exact h9
    · refine z_callR (As := [.int (nI (l))]) (rest := []) (b := b + 99) (ci := 7) (v := none) (R2 := zR 1 0) dX12_renderRun_47 kV_RX12_369 rfl ⟨⟨by decide, by decide⟩, by decide, by decide⟩ (by omega) hx30.ou.2.1 rfl rfl rfl (Nat.le_of_ble_eq_true rfl) rfl (c_X7_appendNumber (x := l) h0 hx30.ou (by (try simp only [List.length_append, List.length_singleton, List.length_cons, List.length_nil]); omega) (by omega)) (fun w36 pw36 => ?_)
      obtain ⟨hf37, hn38⟩ := pw36
      have hx39 := hx30.setOu hf37 hn38
      refine z_vret dX12_renderRun_50 rfl (by decide) (by decide) ?_
      have e9 : noteR v l = [114] ++ (58 :: dig3 l) := by unfold noteR; rw [if_pos (by omega)]
      refine ⟨rfl, (((hf24.wk (by omega) (by omega)).tr (hf28.wk (by omega) (by omega))).tr (hf37.wk (by omega) (by omega))), ?_⟩
      rw [e9]
      have h9 := hx39
      simp only [List.append_assoc, List.cons_append, List.nil_append, List.singleton_append] at h9 ⊢
      exact h9
theorem IsR.noteL {T : Nat → Nat} {n m : Nat} {s l v : Nat → Nat} (h : IsR T n m s l v) (hv : ∀ r, r < m → v r ≤ 9) (hn : n ≤ 200) : ∀ r, r ≤ m → (noteT T n (posR s l r)).length + (if r = 0 then 0 else 1) ≤ 5 * posR s l r := by
  intro r
  induction r with
  | zero => intro _; simp [posR, noteT]
  | succ r ih =>
    intro hr
    have h1 := ih (by omega)
    have h6 := h.2.2.2.2.2.1 r (by omega)
    have h7 := noteR_l (hv r (by omega)) h6.1 (by omega : l r ≤ 999)
    rw [h.pos (by omega)] at h1
    rw [posR, h.note (by omega), List.length_append, List.length_append, if_neg (show ¬ (r + 1 = 0) by omega)]
    by_cases c : r = 0
    · rw [if_pos c] at h1 ⊢; simp only [List.length_nil]; omega
    · rw [if_neg c] at h1 ⊢; simp only [List.length_singleton]; omega
set_option maxRecDepth 100000 in
set_option maxHeartbeats 4000000 in
theorem l_X12_renderNotation {g : zGT} {w : zW} {b : Nat} {S : zSt} {Hs : List zSt} {Sn : Option zSt} {I O : List Nat} {ep fc : Int32} {m : Nat} {s l v : Nat → Nat} (h0 : zG0 g) (h1 : zST g) (h : Rx g w b S Hs Sn I O ep fc) (hIs : IsR (gT S.1) S.1.length m s l v) (hv9 : ∀ r, r < m → v r ≤ 9) : ∀ (mm : Nat) (r : Nat) (wi : zW) (Oi : List Nat), m - r < mm → (r ≤ m) → (zFr w wi b (b + 101)) → (Rx g wi b S Hs Sn I Oi ep fc) → (Rn g wi (b + 80) m s l v) → (Oi = noteT (gT S.1) S.1.length (posR s l r)) → zTr g mX12_renderNotation (zR 3 0) 0 0 14 [(0, .ref (za g b)), (1, .ref (za g (b + 80))), (2, .int (nI (r)))] [] wi (fun o w' => o = .inl (some (.int (nI (noteT (gT S.1) S.1.length S.1.length).length))) ∧ zFr w w' b (b + 101) ∧ Rx g w' b S Hs Sn I (noteT (gT S.1) S.1.length S.1.length) ep fc) := by
  have hb := h.1
  have hn := h.st.len
  have loop : ∀ (mm : Nat) (r : Nat) (wi : zW) (Oi : List Nat), m - r < mm → (r ≤ m) → (zFr w wi b (b + 101)) → (Rx g wi b S Hs Sn I Oi ep fc) → (Rn g wi (b + 80) m s l v) → (Oi = noteT (gT S.1) S.1.length (posR s l r)) → zTr g mX12_renderNotation (zR 3 0) 0 0 14 [(0, .ref (za g b)), (1, .ref (za g (b + 80))), (2, .int (nI (r)))] [] wi (fun o w' => o = .inl (some (.int (nI (noteT (gT S.1) S.1.length S.1.length).length))) ∧ zFr w w' b (b + 101) ∧ Rx g w' b S Hs Sn I (noteT (gT S.1) S.1.length S.1.length) ep fc) := by
    intro mm
    induction mm with
    | zero => intros; omega
    | succ mm ih =>
      intro r wi Oi hm hrm hfi hi9 hRi hOi
      have hm2 := hRi.2.2.1
      refine z_iload_n dX12_renderNotation_14 rfl ?_
      refine z_aload_n dX12_renderNotation_15 rfl ?_
      refine z_callE (As := []) (rest := [.int (nI (r))]) (b := b + 80) (ci := 8) (v := some (.int (nI (m)))) (R2 := zR 0 0) dX12_renderNotation_16 kV_RX12_190 rfl ⟨⟨by decide, by decide⟩, by decide, by decide⟩ (by omega) hRi.2.1 rfl rfl rfl (Nat.le_of_ble_eq_true rfl) rfl (c_X8_count h0 hRi) ?_
      refine z_icmp_ge_n (a := r) (b := m) (tgt := 55) dX12_renderNotation_19 (by decide) (by omega) (by omega) (fun h_19_2 => ?_) (fun h_19_2 => ?_)
      · refine z_aload_n dX12_renderNotation_55 rfl ?_
        refine z_getf (j := b) dX12_renderNotation_56 kF_RX12_64 rfl (by omega) hi9.ce rfl ?_
        refine z_callE (As := []) (rest := []) (b := b + 99) (ci := 7) (v := some (.int (nI (Oi.length)))) (R2 := zR 0 0) dX12_renderNotation_59 kV_RX12_366 rfl ⟨⟨by decide, by decide⟩, by decide, by decide⟩ (by omega) hi9.ou.2.1 rfl rfl rfl (Nat.le_of_ble_eq_true rfl) rfl (c_X7_length h0 hi9.ou) ?_
        refine z_iret dX12_renderNotation_62 rfl (by decide) (by decide) ?_
        have er : r = m := by omega
        rw [er, hIs.pos_n] at hOi
        exact ⟨by rw [hOi], hfi.tr zFr.rf, by rw [← hOi]; exact hi9⟩
      · have hpos := hIs.pos (r := r) (by omega)
        have hnl := hIs.noteL hv9 hn.1 r (by omega)
        rw [← hOi, hpos] at hnl
        have hlr := hIs.2.2.2.2.2.1 r (by omega)
        have hvr := hv9 r (by omega)
        refine z_iload_n dX12_renderNotation_22 rfl ?_
        refine z_if_le_n (a := r) (tgt := 35) dX12_renderNotation_23 (by decide) (by omega) (fun h_23_4 => ?_) (fun h_23_4 => ?_)
        · refine z_aload_n dX12_renderNotation_35 rfl ?_
          refine z_aload_n dX12_renderNotation_36 rfl ?_
          refine z_iload_n dX12_renderNotation_37 rfl ?_
          refine z_callE (As := [.int (nI (r))]) (rest := [.ref (za g b)]) (b := b + 80) (ci := 8) (v := some (.int (nI (v (r))))) (R2 := zR 0 0) dX12_renderNotation_38 kV_RX12_203 rfl ⟨⟨by decide, by decide⟩, by decide, by decide⟩ (by omega) hRi.2.1 rfl rfl rfl (Nat.le_of_ble_eq_true rfl) rfl (c_X8_levelOf (t := r) h0 hRi (by omega)) ?_
          refine z_aload_n dX12_renderNotation_41 rfl ?_
          refine z_iload_n dX12_renderNotation_42 rfl ?_
          refine z_callE (As := [.int (nI (r))]) (rest := [.int (nI (v (r))), .ref (za g b)]) (b := b + 80) (ci := 8) (v := some (.int (nI (l (r))))) (R2 := zR 0 0) dX12_renderNotation_43 kV_RX12_200 rfl ⟨⟨by decide, by decide⟩, by decide, by decide⟩ (by omega) hRi.2.1 rfl rfl rfl (Nat.le_of_ble_eq_true rfl) rfl (c_X8_lengthOf (t := r) h0 hRi (by omega)) ?_
          refine z_callR (As := [.int (nI (v (r))), .int (nI (l (r)))]) (rest := []) (b := b) (ci := 11) (v := none) (R2 := zR 2 0) dX12_renderNotation_46 kV_RX12_363 rfl ⟨⟨by decide, by decide⟩, by decide, by decide⟩ (by omega) hi9.ce rfl rfl rfl (Nat.le_of_ble_eq_true rfl) rfl (c_X12_renderRun (v := v (r)) (l := l (r)) h0 h1 hi9 (by omega) (by omega) (by (try simp only [List.length_append, List.length_singleton, List.length_cons, List.length_nil]); omega) (fun q9 => (by (try simp only [List.length_append, List.length_singleton, List.length_cons, List.length_nil]); omega))) (fun w7 pw7 => ?_)
          obtain ⟨hf8, hx9⟩ := pw7
          have hR10 := hRi.fr hf8 (by omega)
          refine z_iinc_n (n := 1) (a := r) (lv' := [(0, .ref (za g b)), (1, .ref (za g (b + 80))), (2, .int (nI (r + 1)))]) dX12_renderNotation_49 rfl (by decide) rfl ?_
          refine z_goto (tgt := 14) dX12_renderNotation_52 (by decide) ?_
          have e9 := hIs.note (r := r) (by omega)
          rw [if_pos (by omega)] at e9
          refine ih (r + 1) _ _ (by omega) (by omega) (hfi.tr (hf8.wk (by omega) (by omega))) hx9 hR10 ?_
          rw [posR, e9, hOi, hpos]; simp
        · rw [if_neg (by omega)] at hnl
          refine z_aload_n dX12_renderNotation_26 rfl ?_
          refine z_getf (j := b) dX12_renderNotation_27 kF_RX12_64 rfl (by omega) hi9.ce rfl ?_
          refine z_bipush (v := nI 32) dX12_renderNotation_30 rfl ?_
          refine z_callR (As := [.int (nI (32))]) (rest := []) (b := b + 99) (ci := 7) (v := none) (R2 := zR 0 0) dX12_renderNotation_32 kV_RX12_359 rfl ⟨⟨by decide, by decide⟩, by decide, by decide⟩ (by omega) hi9.ou.2.1 rfl rfl rfl (Nat.le_of_ble_eq_true rfl) rfl (c_X7_append (c := 32) h0 hi9.ou (by (try simp only [List.length_append, List.length_singleton, List.length_cons, List.length_nil]); omega) (by omega)) (fun w11 pw11 => ?_)
          obtain ⟨hf12, hn13⟩ := pw11
          have hx14 := hi9.setOu hf12 hn13
          have hR15 := hRi.fr hf12 (by omega)
          refine z_aload_n dX12_renderNotation_35 rfl ?_
          refine z_aload_n dX12_renderNotation_36 rfl ?_
          refine z_iload_n dX12_renderNotation_37 rfl ?_
          refine z_callE (As := [.int (nI (r))]) (rest := [.ref (za g b)]) (b := b + 80) (ci := 8) (v := some (.int (nI (v (r))))) (R2 := zR 0 0) dX12_renderNotation_38 kV_RX12_203 rfl ⟨⟨by decide, by decide⟩, by decide, by decide⟩ (by omega) hR15.2.1 rfl rfl rfl (Nat.le_of_ble_eq_true rfl) rfl (c_X8_levelOf (t := r) h0 hR15 (by omega)) ?_
          refine z_aload_n dX12_renderNotation_41 rfl ?_
          refine z_iload_n dX12_renderNotation_42 rfl ?_
          refine z_callE (As := [.int (nI (r))]) (rest := [.int (nI (v (r))), .ref (za g b)]) (b := b + 80) (ci := 8) (v := some (.int (nI (l (r))))) (R2 := zR 0 0) dX12_renderNotation_43 kV_RX12_200 rfl ⟨⟨by decide, by decide⟩, by decide, by decide⟩ (by omega) hR15.2.1 rfl rfl rfl (Nat.le_of_ble_eq_true rfl) rfl (c_X8_lengthOf (t := r) h0 hR15 (by omega)) ?_
          refine z_callR (As := [.int (nI (v (r))), .int (nI (l (r)))]) (rest := []) (b := b) (ci := 11) (v := none) (R2 := zR 2 0) dX12_renderNotation_46 kV_RX12_363 rfl ⟨⟨by decide, by decide⟩, by decide, by decide⟩ (by omega) hx14.ce rfl rfl rfl (Nat.le_of_ble_eq_true rfl) rfl (c_X12_renderRun (v := v (r)) (l := l (r)) h0 h1 hx14 (by omega) (by omega) (by (try simp only [List.length_append, List.length_singleton, List.length_cons, List.length_nil]); omega) (fun q9 => (by (try simp only [List.length_append, List.length_singleton, List.length_cons, List.length_nil]); omega))) (fun w18 pw18 => ?_)
          obtain ⟨hf19, hx20⟩ := pw18
          have hR21 := hR15.fr hf19 (by omega)
          refine z_iinc_n (n := 1) (a := r) (lv' := [(0, .ref (za g b)), (1, .ref (za g (b + 80))), (2, .int (nI (r + 1)))]) dX12_renderNotation_49 rfl (by decide) rfl ?_
          refine z_goto (tgt := 14) dX12_renderNotation_52 (by decide) ?_
          have e9 := hIs.note (r := r) (by omega)
          rw [if_neg (by omega)] at e9
          refine ih (r + 1) _ _ (by omega) (by omega) (hfi.tr ((hf12.wk (by omega) (by omega)).tr (hf19.wk (by omega) (by omega)))) hx20 hR21 ?_
          rw [posR, e9, hOi, hpos]; simp
  exact loop
set_option maxRecDepth 100000 in
set_option maxHeartbeats 4000000 in
theorem c_X12_renderNotation {g : zGT} {w : zW} {b : Nat} {S : zSt} {Hs : List zSt} {Sn : Option zSt} {I O : List Nat} {ep fc : Int32} (h0 : zG0 g) (h1 : zST g) (h : Rx g w b S Hs Sn I O ep fc) : zCt g mX12_renderNotation (zR 3 0) [.ref (za g b)] w (fun o w' => o = .inl (some (.int (nI (noteT (gT S.1) S.1.length S.1.length).length))) ∧ zFr w w' b (b + 101) ∧ Rx g w' b S Hs Sn I (noteT (gT S.1) S.1.length S.1.length) ep fc) := by
  have hb := h.1
  have hn := h.st.len
  refine zCt_of (by decide +kernel) h0 [(0, .ref (za g b))] rfl (Nat.le_of_ble_eq_true rfl) ?_
  refine z_aload_n dX12_renderNotation_0 rfl ?_
  refine z_getf (j := b) dX12_renderNotation_1 kF_RX12_64 rfl (by omega) h.ce rfl ?_
  refine z_callR (As := []) (rest := []) (b := b + 99) (ci := 7) (v := none) (R2 := zR 0 0) dX12_renderNotation_4 kV_RX12_356 rfl ⟨⟨by decide, by decide⟩, by decide, by decide⟩ (by omega) h.ou.2.1 rfl rfl rfl (Nat.le_of_ble_eq_true rfl) rfl (c_X7_clear h0 h.ou) (fun w1 pw1 => ?_)
  obtain ⟨hf2, hn3⟩ := pw1
  have hx4 := h.setOu hf2 hn3
  refine z_aload_n dX12_renderNotation_7 rfl ?_
  refine z_callR (As := []) (rest := []) (b := b) (ci := 11) (v := some (.ref (za g (b + 80)))) (R2 := zR 2 0) dX12_renderNotation_8 kV_RX12_186 rfl ⟨⟨by decide, by decide⟩, by decide, by decide⟩ (by omega) hx4.ce rfl rfl rfl (Nat.le_of_ble_eq_true rfl) rfl (c_X12_currentRuns h0 h1 hx4) (fun w5 pw5 => ?_)
  obtain ⟨hf6, hx6, m6, s6, l6, v6, hR6, hI6⟩ := pw5
  have hm6 := hR6.2.2.1
  refine z_astore_n (lv' := [(0, .ref (za g b)), (1, .ref (za g (b + 80)))]) dX12_renderNotation_11 (by decide) rfl ?_
  refine z_iconst (v := nI 0) dX12_renderNotation_12 rfl ?_
  refine z_istore_n (lv' := [(0, .ref (za g b)), (1, .ref (za g (b + 80))), (2, .int (nI (0)))]) dX12_renderNotation_13 (by decide) rfl ?_
  have hv9 : ∀ r, r < m6 → v6 r ≤ 9 := fun r hr => by have q9 := hI6.2.2.2.2.2.2.1 r hr _ (Nat.le_refl _) (by have := (hI6.2.2.2.2.2.1 r hr).1; omega); rw [← q9]; exact h.st.tl.le (by have := (hI6.2.2.2.2.2.1 r hr); omega)
  exact l_X12_renderNotation h0 h1 h hI6 hv9 (m6 + 1) 0 _ _ (by omega) (Nat.zero_le _) ((hf2.wk (by omega) (by omega)).tr hf6) hx6 hR6 rfl
set_option maxRecDepth 100000 in
set_option maxHeartbeats 4000000 in
theorem c_X12_renderBars {g : zGT} {w : zW} {b : Nat} {S : zSt} {Hs : List zSt} {Sn : Option zSt} {I O : List Nat} {ep fc : Int32} (h0 : zG0 g) (h1 : zST g) (h : Rx g w b S Hs Sn I O ep fc) : zCt g mX12_renderBars (zR 3 0) [.ref (za g b)] w (fun o w' => o = .inl (some (.int (nI (barsT (gT S.1) S.2.1 S.1.length (S.1.length + 1)).length))) ∧ zFr w w' b (b + 101) ∧ Rx g w' b S Hs Sn I (barsT (gT S.1) S.2.1 S.1.length (S.1.length + 1)) ep fc) := by
  have hb := h.1
  have hn := h.st.len
  have hm6 := h.st.mks.2.2.2.1
  refine zCt_of (by decide +kernel) h0 [(0, .ref (za g b))] rfl (Nat.le_of_ble_eq_true rfl) ?_
  have loop : ∀ (mm : Nat) (i : Nat) (wi : zW) (Oi : List Nat), S.1.length + 1 - i < mm → (i ≤ S.1.length + 1) → (zFr w wi b (b + 101)) → (Rx g wi b S Hs Sn I Oi ep fc) → (Oi = barsT (gT S.1) S.2.1 S.1.length i) → zTr g mX12_renderBars (zR 3 0) 0 0 9 [(0, .ref (za g b)), (1, .int (nI (i)))] [] wi (fun o w' => o = .inl (some (.int (nI (barsT (gT S.1) S.2.1 S.1.length (S.1.length + 1)).length))) ∧ zFr w w' b (b + 101) ∧ Rx g w' b S Hs Sn I (barsT (gT S.1) S.2.1 S.1.length (S.1.length + 1)) ep fc) := by
    intro mm
    induction mm with
    | zero => intros; omega
    | succ mm ih =>
      intro i wi Oi hm hin hfi hi9 hOi
      refine z_iload_n dX12_renderBars_9 rfl ?_
      refine z_aload_n dX12_renderBars_10 rfl ?_
      refine z_getf (j := b) dX12_renderBars_11 kF_RX12_12 rfl (by omega) hi9.ce rfl ?_
      refine z_getfN (j := b + 1) dX12_renderBars_14 kN_RX12_167 rfl (by omega) hi9.st.cell rfl ?_
      refine z_callE (As := []) (rest := [.int (nI (i))]) (b := b + 1 + 1) (ci := 5) (v := some (.int (nI (S.1.length)))) (R2 := zR 0 0) dX12_renderBars_17 kV_RX12_170 rfl ⟨⟨by decide, by decide⟩, by decide, by decide⟩ (by omega) hi9.st.tl.cell rfl rfl rfl (Nat.le_of_ble_eq_true rfl) rfl (tc_size h0 hi9.st.tl) ?_
      refine z_icmp_gt_n (a := i) (b := S.1.length) (tgt := 85) dX12_renderBars_20 (by decide) (by omega) (by omega) (fun h_20_2 => ?_) (fun h_20_2 => ?_)
      · refine z_aload_n dX12_renderBars_85 rfl ?_
        refine z_getf (j := b) dX12_renderBars_86 kF_RX12_64 rfl (by omega) hi9.ce rfl ?_
        refine z_callE (As := []) (rest := []) (b := b + 99) (ci := 7) (v := some (.int (nI (Oi.length)))) (R2 := zR 0 0) dX12_renderBars_89 kV_RX12_366 rfl ⟨⟨by decide, by decide⟩, by decide, by decide⟩ (by omega) hi9.ou.2.1 rfl rfl rfl (Nat.le_of_ble_eq_true rfl) rfl (c_X7_length h0 hi9.ou) ?_
        refine z_iret dX12_renderBars_92 rfl (by decide) (by decide) ?_
        have er : i = S.1.length + 1 := by omega
        rw [er] at hOi
        exact ⟨by rw [hOi], hfi.tr zFr.rf, by rw [← hOi]; exact hi9⟩
      · have e_n := nI_toInt (n := i) (by omega)
        have e_i := lidx_toInt (fun j9 => decide ((j9 : Int) = (nI (i)).toInt)) (L := S.2.1) hm6
        have e_m : lidx (fun j9 => decide ((j9 : Int) = (nI (i)).toInt)) S.2.1 0 = -1 ↔ i ∉ S.2.1 := by have q9 := lidx_mem2 (t := (nI (i)).toInt) (L := S.2.1) (by rw [e_n]; omega); rw [e_n, Int.toNat_natCast] at q9; rw [e_n]; exact q9
        have hbl := barsT_l (T := gT S.1) (L := S.2.1) (n := S.1.length) (k := i)
        rw [← hOi] at hbl
        refine z_aload_n dX12_renderBars_23 rfl ?_
        refine z_getf (j := b) dX12_renderBars_24 kF_RX12_12 rfl (by omega) hi9.ce rfl ?_
        refine z_getfN (j := b + 1) dX12_renderBars_27 kN_RX12_301 rfl (by omega) hi9.st.cell rfl ?_
        refine z_iload_n dX12_renderBars_30 rfl ?_
        refine z_callE (As := [.int (nI (i))]) (rest := []) (b := b + 1 + 3) (ci := 6) (v := some (.int (Int32.ofInt (lidx (fun j9 => decide ((j9 : Int) = ((nI (i))).toInt)) S.2.1 0)))) (R2 := zR 1 0) dX12_renderBars_31 kV_RX12_373 rfl ⟨⟨by decide, by decide⟩, by decide, by decide⟩ (by omega) hi9.st.mks.2.1 rfl rfl rfl (Nat.le_of_ble_eq_true rfl) rfl (c_X6_indexAt h0 hi9.st.mks) ?_
        refine z_iconst (v := -1) dX12_renderBars_34 rfl ?_
        have hk6 : (-1 : Int32).toInt = -1 := by decide
        refine z_icmp_eq_z (tgt := 47) dX12_renderBars_35 (by decide) (fun h_35_5 => ?_) (fun h_35_5 => ?_)
        · refine z_aload_n dX12_renderBars_47 rfl ?_
          refine z_getf (j := b) dX12_renderBars_48 kF_RX12_12 rfl (by omega) hi9.ce rfl ?_
          refine z_getfN (j := b + 1) dX12_renderBars_51 kN_RX12_167 rfl (by omega) hi9.st.cell rfl ?_
          refine z_iload_n dX12_renderBars_54 rfl ?_
          by_cases hc7 : i < S.1.length
          · refine z_callE (As := [.int (nI (i))]) (rest := []) (b := b + 1 + 1) (ci := 5) (v := some (.int (nI (1)))) (R2 := zR 0 0) dX12_renderBars_55 kV_RX12_174 rfl ⟨⟨by decide, by decide⟩, by decide, by decide⟩ (by omega) hi9.st.tl.cell rfl rfl rfl (Nat.le_of_ble_eq_true rfl) rfl (tc_hasTick_y h0 hi9.st.tl ⟨by rw [e_n]; omega, by rw [e_n]; omega⟩) ?_
            refine z_if_eq_n (a := 1) (tgt := 79) dX12_renderBars_58 (by decide) (by omega) (fun h_58_9 => ?_) (fun h_58_9 => ?_)
            · exact absurd h_58_9 (by decide)
            · refine z_aload_n dX12_renderBars_61 rfl ?_
              refine z_getf (j := b) dX12_renderBars_62 kF_RX12_64 rfl (by omega) hi9.ce rfl ?_
              refine z_aload_n dX12_renderBars_65 rfl ?_
              refine z_getf (j := b) dX12_renderBars_66 kF_RX12_12 rfl (by omega) hi9.ce rfl ?_
              refine z_getfN (j := b + 1) dX12_renderBars_69 kN_RX12_167 rfl (by omega) hi9.st.cell rfl ?_
              refine z_iload_n dX12_renderBars_72 rfl ?_
              refine z_callE (As := [.int (nI (i))]) (rest := [.ref (za g (b + 99))]) (b := b + 1 + 1) (ci := 5) (v := some (.int (nI (gT S.1 (i))))) (R2 := zR 0 0) dX12_renderBars_73 kV_RX12_182 rfl ⟨⟨by decide, by decide⟩, by decide, by decide⟩ (by omega) hi9.st.tl.cell rfl rfl rfl (Nat.le_of_ble_eq_true rfl) rfl (tc_at (t := i) h0 hi9.st.tl (by omega)) ?_
              have hle9 := h.st.tl.le (k := i) (by omega)
              refine z_callR (As := [.int (nI (gT S.1 (i)))]) (rest := []) (b := b + 99) (ci := 7) (v := none) (R2 := zR 1 0) dX12_renderBars_76 kV_RX12_369 rfl ⟨⟨by decide, by decide⟩, by decide, by decide⟩ (by omega) hi9.ou.2.1 rfl rfl rfl (Nat.le_of_ble_eq_true rfl) rfl (c_X7_appendNumber_s (x := gT S.1 (i)) h0 hi9.ou (by (try simp only [List.length_append, List.length_singleton, List.length_cons, List.length_nil]); omega) (by omega)) (fun w11 pw11 => ?_)
              obtain ⟨hf12, hn13⟩ := pw11
              have hx14 := hi9.setOu hf12 hn13
              refine z_iinc_n (n := 1) (a := i) (lv' := [(0, .ref (za g b)), (1, .int (nI (i + 1)))]) dX12_renderBars_79 rfl (by decide) rfl ?_
              refine z_goto (tgt := 9) dX12_renderBars_82 (by decide) ?_
              have hmem : i ∉ S.2.1 := e_m.mp (by omega)
              refine ih (i + 1) _ _ (by omega) (by omega) (hfi.tr (hf12.wk (by omega) (by omega))) hx14 ?_
              rw [hOi, barsT, if_neg hmem, if_pos hc7]; simp
          · refine z_callE (As := [.int (nI (i))]) (rest := []) (b := b + 1 + 1) (ci := 5) (v := some (.int (nI (0)))) (R2 := zR 0 0) dX12_renderBars_55 kV_RX12_174 rfl ⟨⟨by decide, by decide⟩, by decide, by decide⟩ (by omega) hi9.st.tl.cell rfl rfl rfl (Nat.le_of_ble_eq_true rfl) rfl (tc_hasTick_n h0 hi9.st.tl (by rw [e_n]; omega)) ?_
            refine z_if_eq_n (a := 0) (tgt := 79) dX12_renderBars_58 (by decide) (by omega) (fun h_58_16 => ?_) (fun h_58_16 => ?_)
            · refine z_iinc_n (n := 1) (a := i) (lv' := [(0, .ref (za g b)), (1, .int (nI (i + 1)))]) dX12_renderBars_79 rfl (by decide) rfl ?_
              refine z_goto (tgt := 9) dX12_renderBars_82 (by decide) ?_
              have hmem : i ∉ S.2.1 := e_m.mp (by omega)
              refine ih (i + 1) _ _ (by omega) (by omega) (hfi.tr zFr.rf) hi9 ?_
              rw [hOi, barsT, if_neg hmem, if_neg hc7]; simp
            · exact absurd h_58_16 (by decide)
        · refine z_aload_n dX12_renderBars_38 rfl ?_
          refine z_getf (j := b) dX12_renderBars_39 kF_RX12_64 rfl (by omega) hi9.ce rfl ?_
          refine z_bipush (v := nI 124) dX12_renderBars_42 rfl ?_
          refine z_callR (As := [.int (nI (124))]) (rest := []) (b := b + 99) (ci := 7) (v := none) (R2 := zR 0 0) dX12_renderBars_44 kV_RX12_359 rfl ⟨⟨by decide, by decide⟩, by decide, by decide⟩ (by omega) hi9.ou.2.1 rfl rfl rfl (Nat.le_of_ble_eq_true rfl) rfl (c_X7_append (c := 124) h0 hi9.ou (by (try simp only [List.length_append, List.length_singleton, List.length_cons, List.length_nil]); omega) (by omega)) (fun w17 pw17 => ?_)
          obtain ⟨hf18, hn19⟩ := pw17
          have hx20 := hi9.setOu hf18 hn19
          refine z_aload_n dX12_renderBars_47 rfl ?_
          refine z_getf (j := b) dX12_renderBars_48 kF_RX12_12 rfl (by omega) hx20.ce rfl ?_
          refine z_getfN (j := b + 1) dX12_renderBars_51 kN_RX12_167 rfl (by omega) hx20.st.cell rfl ?_
          refine z_iload_n dX12_renderBars_54 rfl ?_
          by_cases hc21 : i < S.1.length
          · refine z_callE (As := [.int (nI (i))]) (rest := []) (b := b + 1 + 1) (ci := 5) (v := some (.int (nI (1)))) (R2 := zR 0 0) dX12_renderBars_55 kV_RX12_174 rfl ⟨⟨by decide, by decide⟩, by decide, by decide⟩ (by omega) hx20.st.tl.cell rfl rfl rfl (Nat.le_of_ble_eq_true rfl) rfl (tc_hasTick_y h0 hx20.st.tl ⟨by rw [e_n]; omega, by rw [e_n]; omega⟩) ?_
            refine z_if_eq_n (a := 1) (tgt := 79) dX12_renderBars_58 (by decide) (by omega) (fun h_58_23 => ?_) (fun h_58_23 => ?_)
            · exact absurd h_58_23 (by decide)
            · refine z_aload_n dX12_renderBars_61 rfl ?_
              refine z_getf (j := b) dX12_renderBars_62 kF_RX12_64 rfl (by omega) hx20.ce rfl ?_
              refine z_aload_n dX12_renderBars_65 rfl ?_
              refine z_getf (j := b) dX12_renderBars_66 kF_RX12_12 rfl (by omega) hx20.ce rfl ?_
              refine z_getfN (j := b + 1) dX12_renderBars_69 kN_RX12_167 rfl (by omega) hx20.st.cell rfl ?_
              refine z_iload_n dX12_renderBars_72 rfl ?_
              refine z_callE (As := [.int (nI (i))]) (rest := [.ref (za g (b + 99))]) (b := b + 1 + 1) (ci := 5) (v := some (.int (nI (gT S.1 (i))))) (R2 := zR 0 0) dX12_renderBars_73 kV_RX12_182 rfl ⟨⟨by decide, by decide⟩, by decide, by decide⟩ (by omega) hx20.st.tl.cell rfl rfl rfl (Nat.le_of_ble_eq_true rfl) rfl (tc_at (t := i) h0 hx20.st.tl (by omega)) ?_
              have hle9 := h.st.tl.le (k := i) (by omega)
              refine z_callR (As := [.int (nI (gT S.1 (i)))]) (rest := []) (b := b + 99) (ci := 7) (v := none) (R2 := zR 1 0) dX12_renderBars_76 kV_RX12_369 rfl ⟨⟨by decide, by decide⟩, by decide, by decide⟩ (by omega) hx20.ou.2.1 rfl rfl rfl (Nat.le_of_ble_eq_true rfl) rfl (c_X7_appendNumber_s (x := gT S.1 (i)) h0 hx20.ou (by (try simp only [List.length_append, List.length_singleton, List.length_cons, List.length_nil]); omega) (by omega)) (fun w25 pw25 => ?_)
              obtain ⟨hf26, hn27⟩ := pw25
              have hx28 := hx20.setOu hf26 hn27
              refine z_iinc_n (n := 1) (a := i) (lv' := [(0, .ref (za g b)), (1, .int (nI (i + 1)))]) dX12_renderBars_79 rfl (by decide) rfl ?_
              refine z_goto (tgt := 9) dX12_renderBars_82 (by decide) ?_
              have hmem : i ∈ S.2.1 := Classical.byContradiction (fun z => absurd (e_m.mpr z) (by omega))
              refine ih (i + 1) _ _ (by omega) (by omega) (hfi.tr ((hf18.wk (by omega) (by omega)).tr (hf26.wk (by omega) (by omega)))) hx28 ?_
              rw [hOi, barsT, if_pos hmem, if_pos hc21]; simp
          · refine z_callE (As := [.int (nI (i))]) (rest := []) (b := b + 1 + 1) (ci := 5) (v := some (.int (nI (0)))) (R2 := zR 0 0) dX12_renderBars_55 kV_RX12_174 rfl ⟨⟨by decide, by decide⟩, by decide, by decide⟩ (by omega) hx20.st.tl.cell rfl rfl rfl (Nat.le_of_ble_eq_true rfl) rfl (tc_hasTick_n h0 hx20.st.tl (by rw [e_n]; omega)) ?_
            refine z_if_eq_n (a := 0) (tgt := 79) dX12_renderBars_58 (by decide) (by omega) (fun h_58_30 => ?_) (fun h_58_30 => ?_)
            · refine z_iinc_n (n := 1) (a := i) (lv' := [(0, .ref (za g b)), (1, .int (nI (i + 1)))]) dX12_renderBars_79 rfl (by decide) rfl ?_
              refine z_goto (tgt := 9) dX12_renderBars_82 (by decide) ?_
              have hmem : i ∈ S.2.1 := Classical.byContradiction (fun z => absurd (e_m.mpr z) (by omega))
              refine ih (i + 1) _ _ (by omega) (by omega) (hfi.tr (hf18.wk (by omega) (by omega))) hx20 ?_
              rw [hOi, barsT, if_pos hmem, if_neg hc21]; simp
            · exact absurd h_58_30 (by decide)
  refine z_aload_n dX12_renderBars_0 rfl ?_
  refine z_getf (j := b) dX12_renderBars_1 kF_RX12_64 rfl (by omega) h.ce rfl ?_
  refine z_callR (As := []) (rest := []) (b := b + 99) (ci := 7) (v := none) (R2 := zR 0 0) dX12_renderBars_4 kV_RX12_356 rfl ⟨⟨by decide, by decide⟩, by decide, by decide⟩ (by omega) h.ou.2.1 rfl rfl rfl (Nat.le_of_ble_eq_true rfl) rfl (c_X7_clear h0 h.ou) (fun w1 pw1 => ?_)
  obtain ⟨hf2, hn3⟩ := pw1
  have hx4 := h.setOu hf2 hn3
  refine z_iconst (v := nI 0) dX12_renderBars_7 rfl ?_
  refine z_istore_n (lv' := [(0, .ref (za g b)), (1, .int (nI (0)))]) dX12_renderBars_8 (by decide) rfl ?_
  exact loop (S.1.length + 2) 0 _ _ (by omega) (Nat.zero_le _) (hf2.wk (by omega) (by omega)) hx4 rfl
set_option maxRecDepth 100000 in
set_option maxHeartbeats 4000000 in
theorem c_X12_outputAt {g : zGT} {w : zW} {b : Nat} {S : zSt} {Hs : List zSt} {Sn : Option zSt} {I O : List Nat} {ep fc : Int32} {x : Int32} (h0 : zG0 g) (h1 : zST g) (h : Rx g w b S Hs Sn I O ep fc) : zCt g mX12_outputAt (zR 2 1) [.ref (za g b), .int (x)] w (fun o w' => o = zAns (if 0 ≤ x.toInt ∧ x.toInt < O.length then 0 else 1) (some (.int (nI (O.getD x.toInt.toNat 0)))) ∧ zFr w w' b (b + 101) ∧ Rx g w' b S Hs Sn I O ep fc) := by
  have hb := h.1
  have hn := h.st.len
  have hO9 := h.ou.2.2.2
  refine zCt_of (by decide +kernel) h0 [(0, .ref (za g b)), (1, .int (x))] rfl (Nat.le_of_ble_eq_true rfl) ?_
  refine z_iload_n dX12_outputAt_0 rfl ?_
  refine z_if_lt_z (tgt := 19) dX12_outputAt_1 (by decide) (fun h_1_1 => ?_) (fun h_1_1 => ?_)
  · refine z_iconst (v := nI 0) dX12_outputAt_19 rfl ?_
    refine z_gets dX12_outputAt_20 kG_RX12_130 rfl (h1.fl (i := 1) (by decide)) ?_
    refine z_callSX (As := [.int (nI (0)), .ref (ze g 1)]) (rest := []) (k := 1) (R2 := zR 1 1) dX12_outputAt_23 kS_RX12_178 rfl rfl ⟨⟨by decide, by decide⟩, by decide, by decide⟩ rfl (Nat.le_of_ble_eq_true rfl) rfl (c_X12_raiseUnless_n (f := 1) h0 h1 (by decide) (by decide)) ?_
    exact ⟨zAns_n (by (repeat' split) <;> omega) (by decide), zFr.rf, h⟩
  · refine z_iload_n dX12_outputAt_4 rfl ?_
    refine z_aload_n dX12_outputAt_5 rfl ?_
    refine z_getf (j := b) dX12_outputAt_6 kF_RX12_64 rfl (by omega) h.ce rfl ?_
    refine z_callE (As := []) (rest := [.int (x)]) (b := b + 99) (ci := 7) (v := some (.int (nI (O.length)))) (R2 := zR 0 0) dX12_outputAt_9 kV_RX12_366 rfl ⟨⟨by decide, by decide⟩, by decide, by decide⟩ (by omega) h.ou.2.1 rfl rfl rfl (Nat.le_of_ble_eq_true rfl) rfl (c_X7_length h0 h.ou) ?_
    have hk4 := nI_toInt (n := O.length) (by omega)
    refine z_icmp_ge_z (tgt := 19) dX12_outputAt_12 (by decide) (fun h_12_3 => ?_) (fun h_12_3 => ?_)
    · refine z_iconst (v := nI 0) dX12_outputAt_19 rfl ?_
      refine z_gets dX12_outputAt_20 kG_RX12_130 rfl (h1.fl (i := 1) (by decide)) ?_
      refine z_callSX (As := [.int (nI (0)), .ref (ze g 1)]) (rest := []) (k := 1) (R2 := zR 1 1) dX12_outputAt_23 kS_RX12_178 rfl rfl ⟨⟨by decide, by decide⟩, by decide, by decide⟩ rfl (Nat.le_of_ble_eq_true rfl) rfl (c_X12_raiseUnless_n (f := 1) h0 h1 (by decide) (by decide)) ?_
      exact ⟨zAns_n (by (repeat' split) <;> omega) (by decide), zFr.rf, h⟩
    · refine z_iconst (v := nI 1) dX12_outputAt_15 rfl ?_
      refine z_goto (tgt := 20) dX12_outputAt_16 (by decide) ?_
      refine z_gets dX12_outputAt_20 kG_RX12_130 rfl (h1.fl (i := 1) (by decide)) ?_
      refine z_callSE (As := [.int (nI (1)), .ref (ze g 1)]) (rest := []) (v := none) (R2 := zR 1 1) dX12_outputAt_23 kS_RX12_178 rfl rfl ⟨⟨by decide, by decide⟩, by decide, by decide⟩ rfl (Nat.le_of_ble_eq_true rfl) rfl (c_X12_raiseUnless_y h0 h1) ?_
      refine z_eq (lv' := [(0, .ref (za g b)), (1, .int (nI (x.toInt.toNat)))]) rfl rfl (by rw [← i_nat (x := x) (by omega)]) ?_
      refine z_aload_n dX12_outputAt_26 rfl ?_
      refine z_getf (j := b) dX12_outputAt_27 kF_RX12_64 rfl (by omega) h.ce rfl ?_
      refine z_iload_n dX12_outputAt_30 rfl ?_
      refine z_callE (As := [.int (nI (x.toInt.toNat))]) (rest := []) (b := b + 99) (ci := 7) (v := some (.int (nI (O.getD (x.toInt.toNat) 0)))) (R2 := zR 0 0) dX12_outputAt_31 kV_RX12_376 rfl ⟨⟨by decide, by decide⟩, by decide, by decide⟩ (by omega) h.ou.2.1 rfl rfl rfl (Nat.le_of_ble_eq_true rfl) rfl (c_X7_at (t := x.toInt.toNat) h0 h.ou (by omega)) ?_
      refine z_zret (ty := .char) dX12_outputAt_34 rfl (by decide) (by decide) ((pk_charN (getD_lt65 hO9.2)).1) ?_
      exact ⟨zAns_y (by (repeat' split) <;> omega) rfl, zFr.rf, h⟩
set_option maxRecDepth 100000 in
set_option maxHeartbeats 4000000 in
theorem c_X12_type {g : zGT} {w : zW} {b : Nat} {S : zSt} {Hs : List zSt} {Sn : Option zSt} {I O : List Nat} {ep fc : Int32} {c : Nat} (h0 : zG0 g) (h1 : zST g) (h : Rx g w b S Hs Sn I O ep fc) (hc : c < 65536) : zCt g mX12_type (zR 2 2) [.ref (za g b), .int (nI (c))] w (fun o w' => o = zAns (if 32 ≤ c ∧ c ≤ 126 then (if I.length < 60 then 0 else 3) else 2) (some (.int (nI (I.length + 1)))) ∧ zFr w w' b (b + 101) ∧ Rx g w' b S Hs Sn (if (if 32 ≤ c ∧ c ≤ 126 then (if I.length < 60 then 0 else 3) else 2) = 0 then I ++ [c] else I) O ep fc) := by
  have hb := h.1
  have hn := h.st.len
  refine zCt_of (by decide +kernel) h0 [(0, .ref (za g b)), (1, .int (nI (c)))] rfl (Nat.le_of_ble_eq_true rfl) ?_
  refine z_iload_n dX12_type_0 rfl ?_
  refine z_bipush (v := nI 32) dX12_type_1 rfl ?_
  refine z_icmp_lt_n (a := c) (b := 32) (tgt := 16) dX12_type_3 (by decide) (by omega) (by omega) (fun h_3_1 => ?_) (fun h_3_1 => ?_)
  · refine z_iconst (v := nI 0) dX12_type_16 rfl ?_
    refine z_gets dX12_type_17 kG_RX12_143 rfl (h1.fl (i := 2) (by decide)) ?_
    refine z_callSX (As := [.int (nI (0)), .ref (ze g 2)]) (rest := []) (k := 2) (R2 := zR 1 1) dX12_type_20 kS_RX12_178 rfl rfl ⟨⟨by decide, by decide⟩, by decide, by decide⟩ rfl (Nat.le_of_ble_eq_true rfl) rfl (c_X12_raiseUnless_n (f := 2) h0 h1 (by decide) (by decide)) ?_
    have hF : (if 32 ≤ c ∧ c ≤ 126 then (if I.length < 60 then 0 else 3) else 2) = 2 := by (repeat' split) <;> omega
    exact ⟨zAns_n hF (by decide), zFr.rf, by rw [if_neg (by rw [hF]; decide)]; exact h⟩
  · refine z_iload_n dX12_type_6 rfl ?_
    refine z_bipush (v := nI 126) dX12_type_7 rfl ?_
    refine z_icmp_gt_n (a := c) (b := 126) (tgt := 16) dX12_type_9 (by decide) (by omega) (by omega) (fun h_9_2 => ?_) (fun h_9_2 => ?_)
    · refine z_iconst (v := nI 0) dX12_type_16 rfl ?_
      refine z_gets dX12_type_17 kG_RX12_143 rfl (h1.fl (i := 2) (by decide)) ?_
      refine z_callSX (As := [.int (nI (0)), .ref (ze g 2)]) (rest := []) (k := 2) (R2 := zR 1 1) dX12_type_20 kS_RX12_178 rfl rfl ⟨⟨by decide, by decide⟩, by decide, by decide⟩ rfl (Nat.le_of_ble_eq_true rfl) rfl (c_X12_raiseUnless_n (f := 2) h0 h1 (by decide) (by decide)) ?_
      have hF : (if 32 ≤ c ∧ c ≤ 126 then (if I.length < 60 then 0 else 3) else 2) = 2 := by (repeat' split) <;> omega
      exact ⟨zAns_n hF (by decide), zFr.rf, by rw [if_neg (by rw [hF]; decide)]; exact h⟩
    · refine z_iconst (v := nI 1) dX12_type_12 rfl ?_
      refine z_goto (tgt := 17) dX12_type_13 (by decide) ?_
      refine z_gets dX12_type_17 kG_RX12_143 rfl (h1.fl (i := 2) (by decide)) ?_
      refine z_callSE (As := [.int (nI (1)), .ref (ze g 2)]) (rest := []) (v := none) (R2 := zR 1 1) dX12_type_20 kS_RX12_178 rfl rfl ⟨⟨by decide, by decide⟩, by decide, by decide⟩ rfl (Nat.le_of_ble_eq_true rfl) rfl (c_X12_raiseUnless_y h0 h1) ?_
      refine z_aload_n dX12_type_23 rfl ?_
      refine z_getf (j := b) dX12_type_24 kF_RX12_43 rfl (by omega) h.ce rfl ?_
      obtain ⟨pphI4, brhI4, hI4⟩ := h.inp
      have hlhI4 := hI4.2.2.2.1
      refine z_callE (As := []) (rest := []) (b := b + 95) (ci := 4) (v := some (.int (nI (I.length)))) (R2 := zR 0 0) dX12_type_27 kV_RX12_379 rfl ⟨⟨by decide, by decide⟩, by decide, by decide⟩ (by omega) hI4.2.1 rfl rfl rfl (Nat.le_of_ble_eq_true rfl) rfl (c_X4_length h0 hI4) ?_
      refine z_bipush (v := nI 60) dX12_type_30 rfl ?_
      refine z_icmp_ge_n (a := I.length) (b := 60) (tgt := 39) dX12_type_32 (by decide) (by omega) (by omega) (fun h_32_6 => ?_) (fun h_32_6 => ?_)
      · refine z_iconst (v := nI 0) dX12_type_39 rfl ?_
        refine z_gets dX12_type_40 kG_RX12_151 rfl (h1.fl (i := 3) (by decide)) ?_
        refine z_callSX (As := [.int (nI (0)), .ref (ze g 3)]) (rest := []) (k := 3) (R2 := zR 1 1) dX12_type_43 kS_RX12_178 rfl rfl ⟨⟨by decide, by decide⟩, by decide, by decide⟩ rfl (Nat.le_of_ble_eq_true rfl) rfl (c_X12_raiseUnless_n (f := 3) h0 h1 (by decide) (by decide)) ?_
        have hF : (if 32 ≤ c ∧ c ≤ 126 then (if I.length < 60 then 0 else 3) else 2) = 3 := by (repeat' split) <;> omega
        exact ⟨zAns_n hF (by decide), zFr.rf, by rw [if_neg (by rw [hF]; decide)]; exact h⟩
      · refine z_iconst (v := nI 1) dX12_type_35 rfl ?_
        refine z_goto (tgt := 40) dX12_type_36 (by decide) ?_
        refine z_gets dX12_type_40 kG_RX12_151 rfl (h1.fl (i := 3) (by decide)) ?_
        refine z_callSE (As := [.int (nI (1)), .ref (ze g 3)]) (rest := []) (v := none) (R2 := zR 1 1) dX12_type_43 kS_RX12_178 rfl rfl ⟨⟨by decide, by decide⟩, by decide, by decide⟩ rfl (Nat.le_of_ble_eq_true rfl) rfl (c_X12_raiseUnless_y h0 h1) ?_
        refine z_aload_n dX12_type_46 rfl ?_
        refine z_getf (j := b) dX12_type_47 kF_RX12_43 rfl (by omega) h.ce rfl ?_
        refine z_iload_n dX12_type_50 rfl ?_
        obtain ⟨pphI8, brhI8, hI8⟩ := h.inp
        refine z_callR (As := [.int (nI (c))]) (rest := []) (b := b + 95) (ci := 4) (v := none) (R2 := zR 0 0) dX12_type_51 kV_RX12_380 rfl ⟨⟨by decide, by decide⟩, by decide, by decide⟩ (by omega) hI8.2.1 rfl rfl rfl (Nat.le_of_ble_eq_true rfl) rfl (c_X4_append (c := c) h0 hI8 (by omega) (by omega)) (fun w9 pw9 => ?_)
        obtain ⟨hf10, hn11⟩ := pw9
        have hx12 := h.setIn hf10 hn11
        refine z_aload_n dX12_type_54 rfl ?_
        refine z_getf (j := b) dX12_type_55 kF_RX12_43 rfl (by omega) hx12.ce rfl ?_
        obtain ⟨pphI13, brhI13, hI13⟩ := hx12.inp
        have hlhI13 := hI13.2.2.2.1
        refine z_callE (As := []) (rest := []) (b := b + 95) (ci := 4) (v := some (.int (nI ((I ++ [c]).length)))) (R2 := zR 0 0) dX12_type_58 kV_RX12_379 rfl ⟨⟨by decide, by decide⟩, by decide, by decide⟩ (by omega) hI13.2.1 rfl rfl rfl (Nat.le_of_ble_eq_true rfl) rfl (c_X4_length h0 hI13) ?_
        refine z_iret dX12_type_61 rfl (by decide) (by decide) ?_
        have hF : (if 32 ≤ c ∧ c ≤ 126 then (if I.length < 60 then 0 else 3) else 2) = 0 := by (repeat' split) <;> omega
        exact ⟨zAns_y hF (by rw [List.length_append]; rfl), (hf10.wk (by omega) (by omega)), by rw [if_pos hF]; exact hx12⟩
