/-! the law from its first row -/
theorem y_toz {g : zGT} {M : zMD} {R : Room} {ce sl pc : Nat} {lv lv' : List (Nat × Value)} {st : List Value} {n : Nat} {w w' : zW} {Post : zP} (h0 : zG0 g) (hn : zn g = n) (hp : ∀ k, k < n → za g k = (zs g).heap.size + wP k ∧ wP k < n ∧ w' k = w (wP k)) (hlv : lv = lv') (k : zTr g M R ce sl pc lv' st w' Post) :
    yTr g M R (fun below args s => vx_MQ below (zQc g Post) (zXc g Post) args s R.cells R.slots (zA g)) ce sl pc lv st n w := by
  subst hlv
  intro p e s m args below meth c H locs ls C hz hW hS hl
  refine k p e s m args below meth c H locs ls ⟨C.1.1, C.1.2.1, C.1.2.2.1, C.1.2.2.2.1, C.1.2.2.2.2.1, C.1.2.2.2.2.2.1, C.1.2.2.2.2.2.2.1, C.1.2.2.2.2.2.2.2.1, C.I, h0⟩ ?_ hS hl
  intro i q hq
  have hi : i < n := by
    have h9 := (List.getElem?_eq_some_iff.mp hq).1
    rw [zL_len, hn] at h9
    exact h9
  rw [zL_get (by rw [hn]; exact hi)] at hq
  cases hq
  obtain ⟨e1, e2, e3⟩ := hp i hi
  rw [e1, e3]
  exact hW (wP i) _ (zL_get (g := yG g n) e2)
abbrev lwQ (g : zGT) : yQ := fun below args s => vx_MQ below (zQc g lwPost) (zXc g lwPost) args s room_1.cells room_1.slots (zA g)
set_option maxRecDepth 1000000 in
set_option maxHeartbeats 4000000 in
theorem lw_main {l : Launch} {s : State} {D : va_G} {c : Nat → ClassId} {E : Nat → Nat} {g : zGT} (hg : g = lG l s D c E) {ar N : Nat} {xs : Nat → Int32} (h0 : zG0 g) (h1 : zST g) (hN : zNC g) (hy : yOk g) (hT : va_T .int ar N (fun j => .int (xs j)) (zA g) (zs g) (zs g).heap) (hN9 : N ≤ 2048) : yTr g mL_law room_1 (lwQ g) 0 0 0 [(0, .ref ar)] [] 0 (fun _ => .inr (0, [])) := by
  refine y_new dL_law_0 kL_RL_8 rfl (Nat.le_of_ble_eq_true rfl) (Nat.le_of_ble_eq_true rfl) ?_
  refine y_eq (pc' := 3) (ce' := 1) (sl' := 13) (n' := 1) rfl rfl rfl rfl rfl ?_
  refine y_dup dL_law_3 rfl ?_
  refine y_callI (R2 := yR 3 100 6701) dL_law_4 kI_X12 kk_RL_146 rfl ⟨⟨(Nat.le_of_ble_eq_true rfl), (Nat.le_of_ble_eq_true rfl)⟩, (Nat.le_of_ble_eq_true rfl), (Nat.le_of_ble_eq_true rfl)⟩ (Nat.le_of_ble_eq_true rfl) (c_yX12 (j := 0) (n := 1) hy h1 (by decide) (va_up_self _ _ _)) ?_
  refine y_eq (pc' := 7) (ce' := 101) (sl' := 6714) (n' := 101) rfl rfl rfl rfl rfl ?_
  refine y_astore_n (lv' := [(0, .ref ar), (1, .ref ((zs g).heap.size + 0))]) dL_law_7 (by decide) rfl ?_
  refine y_new dL_law_8 kL_RL_147 rfl (Nat.le_of_ble_eq_true rfl) (Nat.le_of_ble_eq_true rfl) ?_
  refine y_eq (pc' := 11) (ce' := 102) (sl' := 6736) (n' := 102) rfl rfl rfl rfl rfl ?_
  refine y_dup dL_law_11 rfl ?_
  refine y_callI (R2 := yR 0 10 6062) dL_law_12 kI_X13 kk_RL_149 rfl ⟨⟨(Nat.le_of_ble_eq_true rfl), (Nat.le_of_ble_eq_true rfl)⟩, (Nat.le_of_ble_eq_true rfl), (Nat.le_of_ble_eq_true rfl)⟩ (Nat.le_of_ble_eq_true rfl) (c_yX13 (j := 101) (n := 102) hy (by decide) (va_up_self _ _ _)) ?_
  refine y_eq (pc' := 15) (ce' := 112) (sl' := 12798) (n' := 112) rfl rfl rfl rfl rfl ?_
  refine y_astore_n (lv' := [(0, .ref ar), (1, .ref ((zs g).heap.size + 0)), (2, .ref ((zs g).heap.size + 101))]) dL_law_15 (by decide) rfl ?_
  refine y_iconst (v := nI 1) dL_law_16 rfl ?_
  refine y_newa (ty := .long) (t0 := 2) (a0 := (1, .inr (.inl (fun _ => 0)))) dL_law_17 rfl ka_long rfl (fun _ => rfl) (by decide) (by decide) (Nat.le_of_ble_eq_true rfl) (Nat.le_of_ble_eq_true rfl) ?_
  refine y_eq (pc' := 19) (ce' := 113) (sl' := 12799) (n' := 113) rfl rfl rfl rfl rfl ?_
  refine y_astore_n (lv' := [(0, .ref ar), (1, .ref ((zs g).heap.size + 0)), (2, .ref ((zs g).heap.size + 101)), (3, .ref ((zs g).heap.size + 112))]) dL_law_19 (by decide) rfl ?_
  refine y_iconst (v := nI 1) dL_law_20 rfl ?_
  refine y_newa (ty := .double) (t0 := 3) (a0 := (1, .inr (.inr (.inr (.inl (fun _ => 0)))))) dL_law_21 rfl ka_double rfl (fun _ => rfl) (by decide) (by decide) (Nat.le_of_ble_eq_true rfl) (Nat.le_of_ble_eq_true rfl) ?_
  refine y_eq (pc' := 23) (ce' := 114 + 2 * 0) (sl' := 12800 + 12 * 0) (n' := 114) rfl rfl rfl rfl rfl ?_
  refine y_astore (lv' := [(0, .ref ar), (1, .ref ((zs g).heap.size + 0)), (2, .ref ((zs g).heap.size + 101)), (3, .ref ((zs g).heap.size + 112)), (4, .ref ((zs g).heap.size + 113))]) dL_law_23 (by decide) rfl ?_
  refine y_iconst (v := nI 0) dL_law_25 rfl ?_
  refine y_istore (lv' := [(0, .ref ar), (1, .ref ((zs g).heap.size + 0)), (2, .ref ((zs g).heap.size + 101)), (3, .ref ((zs g).heap.size + 112)), (4, .ref ((zs g).heap.size + 113)), (5, .int (nI (4 * 0)))]) dL_law_26 (by decide) rfl ?_
  refine y_toz (n := 114) (w := wE g) (w' := fun k => wE g (wP k)) (lv' := [(0, .ref ar), (1, .ref (za g 0)), (2, .ref (za g 101)), (3, .ref (za g 112)), (4, .ref (za g 113)), (5, .int (nI (4 * 0)))]) h0 (by rw [hg]; rfl) (fun k hk => ⟨by rw [hg]; exact lG_a hk, wP_lt hk, rfl⟩) (by rw [hg]; rfl) ?_
  exact lw_loop h0 h1 hN hT hN9 (N + 4) 0 _ ([], [], [], 0) [] none [] [] (-1) (-1) (by omega) (by omega) (by rw [hg]; exact lw_init)
