/-! the start: the objects are made, the worlds put in the order of the places -/
/-- a place's number in the order of the making -/
def wP (k : Nat) : Nat := if k < 8 then k else if k < 66 then k + 14 else if k < 80 then k - 58 else if k < 85 then k else if k < 95 then k + 4 else if k < 99 then k - 10 else k
theorem wP_lt {k : Nat} (h : k < 114) : wP k < 114 := by
  unfold wP
  (repeat' split) <;> omega
theorem wP_inj {i j : Nat} (hi : i < 114) (hj : j < 114) (h : wP i = wP j) : i = j := by
  unfold wP at h
  (repeat' split at h) <;> omega
def lG (l : Launch) (s : State) (D : va_G) (c : Nat → ClassId) (E : Nat → Nat) : zGT := (l, s, D, c, fun k => if k < 1000000 then s.heap.size + wP k else E (k - 1000000), 114)
theorem lG_a {l : Launch} {s : State} {D : va_G} {c : Nat → ClassId} {E : Nat → Nat} {k : Nat} (h : k < 114) : za (lG l s D c E) k = s.heap.size + wP k := if_pos (show k < 1000000 by omega)
theorem lG_e {l : Launch} {s : State} {D : va_G} {c : Nat → ClassId} {E : Nat → Nat} {i : Nat} : ze (lG l s D c E) i = E i := by
  show (if 1000000 + i < 1000000 then s.heap.size + wP (1000000 + i) else E (1000000 + i - 1000000)) = E i
  rw [if_neg (by omega), Nat.add_sub_cancel_left]
theorem lG_0 {l : Launch} {s : State} {D : va_G} {c : Nat → ClassId} {E : Nat → Nat} (h : yOk (lG l s D c E)) : zG0 (lG l s D c E) := by
  refine ⟨h.1, fun i j hi hj e => ?_, fun i hi => ?_, h.2.1⟩
  · rw [lG_a hi, lG_a hj] at e
    exact wP_inj hi hj (Nat.add_left_cancel e)
  · rw [lG_a hi]
    exact Nat.le_add_right _ _
theorem va_En_ext {E d : String} {nm : List String} {F : List (String × String × String × List Int32)} {ad ad' : Nat → Nat} {A : Nat → Prop} {U : State} {H : Heap} (he : ∀ i, i < nm.length → ad' i = ad i) (h : va_En E d nm F ad A U H) : va_En E d nm F ad' A U H := by
  refine ⟨fun i hi => ?_, fun i j hi hj e => h.2 i j hi hj ?_⟩
  · rw [he i hi]
    exact h.1 i hi
  · rw [← he i hi, ← he j hj]
    exact e
theorem va_T_ext {ty : FieldType} {t N : Nat} {f f' : Nat → Value} {A : Nat → Prop} {U : State} {H : Heap} (he : ∀ j, j < N → f' j = f j) (h : va_T ty t N f A U H) : va_T ty t N f' A U H := by
  obtain ⟨cell, h1, h2, h3, h4, h5, h6, h7⟩ := h
  exact ⟨cell, h1, h2, h3, h4, h5, fun j hj => by rw [he j hj]; exact h6 j hj, h7⟩
set_option maxRecDepth 100000 in
set_option maxHeartbeats 4000000 in
theorem zST_of {l : Launch} {args : Array Value} {s : State} (hs : ∀ c ∈ lw_nar, c.before args s = true) (ht : ∀ w ∈ lw_tbl, w.before args s = true) (hfl : l.stackTraces = false) : ∃ E : Nat → Nat, ∀ (D : va_G) (c : Nat → ClassId), zST (lG l s D c E) := by
  have hA : ∀ a : Nat, a < s.heap.size → ¬ (fun q : Nat => s.heap.size ≤ q) a := fun a h => Nat.not_le.mpr h
  obtain ⟨fa, hfa, -⟩ := st_fault hs ht hA
  obtain ⟨ve, hve, hvt⟩ := st_verb hs ht hA
  obtain ⟨tS, hS1, hS2⟩ := st_sw hs ht hA
  obtain ⟨tV, hV1, hV2⟩ := st_verbs hs ht hA hvt
  obtain ⟨sa, sv, hst⟩ := st_str hs ht hA
  have hw := st_word hs ht hA hvt hst
  obtain ⟨x0, hx0⟩ := st_tx_0 hs ht hA
  obtain ⟨x1, hx1⟩ := st_tx_1 hs ht hA
  obtain ⟨x2, hx2⟩ := st_tx_2 hs ht hA
  obtain ⟨x3, hx3⟩ := st_tx_3 hs ht hA
  obtain ⟨x4, hx4⟩ := st_tx_4 hs ht hA
  refine ⟨fun i => if i < 10 then fa i else if i < 30 then ve (i - 10) else if i = 30 then tV else if i = 31 then tS else if i < 60 then sa (i - 40) else if i < 80 then sv (i - 60) else if i = 80 then x0 else if i = 81 then x1 else if i = 82 then x2 else if i = 83 then x3 else x4, fun D c => ?_⟩
  generalize hE : (fun i => if i < 10 then fa i else if i < 30 then ve (i - 10) else if i = 30 then tV else if i = 31 then tS else if i < 60 then sa (i - 40) else if i < 80 then sv (i - 60) else if i = 80 then x0 else if i = 81 then x1 else if i = 82 then x2 else if i = 83 then x3 else x4) = E
  have e0 : ∀ i, i < 5 → ze (lG l s D c E) i = fa i := fun i h => by rw [lG_e, ← hE]; exact if_pos (by omega)
  have e10 : ∀ i, i < 11 → ze (lG l s D c E) (10 + i) = ve i := fun i h => by rw [lG_e, ← hE]; show (if 10 + i < 10 then fa (10 + i) else if 10 + i < 30 then ve (10 + i - 10) else _) = ve i; rw [if_neg (by omega), if_pos (by omega), Nat.add_sub_cancel_left]
  have e30 : ze (lG l s D c E) 30 = tV := by rw [lG_e, ← hE]; rfl
  have e31 : ze (lG l s D c E) 31 = tS := by rw [lG_e, ← hE]; rfl
  have e40 : ∀ i, i < 11 → ze (lG l s D c E) (40 + i) = sa i := fun i h => by rw [lG_e, ← hE]; show (if 40 + i < 10 then fa (40 + i) else if 40 + i < 30 then ve (40 + i - 10) else if 40 + i = 30 then tV else if 40 + i = 31 then tS else if 40 + i < 60 then sa (40 + i - 40) else _) = sa i; rw [if_neg (by omega), if_neg (by omega), if_neg (by omega), if_neg (by omega), if_pos (by omega), Nat.add_sub_cancel_left]
  have e60 : ∀ i, i < 11 → ze (lG l s D c E) (60 + i) = sv i := fun i h => by rw [lG_e, ← hE]; show (if 60 + i < 10 then fa (60 + i) else if 60 + i < 30 then ve (60 + i - 10) else if 60 + i = 30 then tV else if 60 + i = 31 then tS else if 60 + i < 60 then sa (60 + i - 40) else if 60 + i < 80 then sv (60 + i - 60) else _) = sv i; rw [if_neg (by omega), if_neg (by omega), if_neg (by omega), if_neg (by omega), if_neg (by omega), if_pos (by omega), Nat.add_sub_cancel_left]
  have e80 : ze (lG l s D c E) 80 = x0 := by rw [lG_e, ← hE]; rfl
  have e81 : ze (lG l s D c E) 81 = x1 := by rw [lG_e, ← hE]; rfl
  have e82 : ze (lG l s D c E) 82 = x2 := by rw [lG_e, ← hE]; rfl
  have e83 : ze (lG l s D c E) 83 = x3 := by rw [lG_e, ← hE]; rfl
  have e84 : ze (lG l s D c E) 84 = x4 := by rw [lG_e, ← hE]; rfl
  refine ⟨va_En_ext e0 hfa, va_En_ext e10 hve, ⟨by rw [e31]; exact hS1, by rw [e31]; exact hS2⟩, ⟨by rw [e30]; exact hV1, by rw [e30]; exact va_T_ext (fun j hj => by rw [e10 j hj]) hV2⟩, ⟨fun i hi => ?_, fun i hi => ?_, fun i hi => ?_, fun i hi => ?_, fun i hi => ?_, ?_⟩, ⟨hfl, ?_, ?_, ?_, ?_, ?_, ?_, ?_⟩, ?_⟩
  · show va_OF _ _ _ (.ref (ze (lG l s D c E) (40 + i))) (ze (lG l s D c E) (10 + i)) _ _ _
    rw [e40 i hi, e10 i hi]; exact hw i hi
  · show va_OF _ _ _ (.ref (ze (lG l s D c E) (60 + i))) (ze (lG l s D c E) (40 + i)) _ _ _
    rw [e60 i hi, e40 i hi]; exact (hst i hi).2.2.1
  · show va_OF _ _ _ (.int 0) (ze (lG l s D c E) (40 + i)) _ _ _
    rw [e40 i hi]; exact (hst i hi).2.2.2.1
  · rw [e40 i hi]; exact (hst i hi).2.1
  · rw [e60 i hi]; exact (hst i hi).2.2.2.2
  · exact va_Zof (ht _ (tl_6 (i := 96) (by decide +kernel))) (ht _ (tz ki_RJ0)) (va_eqi (hs _ (ln (i := 221) (by decide +kernel)))) hA
  · exact vx_Zqof (ht _ (tl_2 (i := 119) (by decide +kernel))) (ht _ (tz ki_java_lang_Throwable)) (hs _ (ln (i := 59) (by decide +kernel))) hA
  · exact vx_Zqof (ht _ (tl_2 (i := 121) (by decide +kernel))) (ht _ (tz ki_java_lang_Throwable)) (hs _ (ln (i := 60) (by decide +kernel))) hA
  · rw [e80]; exact hx0
  · rw [e81]; exact hx1
  · rw [e82]; exact hx2
  · rw [e83]; exact hx3
  · rw [e84]; exact hx4
  · exact vx_Zqof (ht _ (tl_6 (i := 112) (by decide +kernel))) (ht _ (tz ki_RJ3)) (hs _ (ln (i := 222) (by decide +kernel))) hA
