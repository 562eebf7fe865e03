/-! Input: runs, notation, commands, scripts -/
section ZNULL
variable {g : zGT} {M : zMD} {R : Room} {ce sl pc : Nat} {lv lv' : List (Nat × Value)} {rest : List Value} {w : zW} {Post : zP}
theorem z_aload_nN {k4 : Fin 4} (d : decode M.2.1 pc = .ok (.aload_n k4, 1)) (hx : lv.lookup (k4 : Nat) = some .null) (k : zTr g M R ce sl (pc + 1) lv (.null :: rest) w Post) : zTr g M R ce sl pc lv (rest) w Post :=
  fun p e s m args below meth c H locs ls C hW hS hl => lv_aload_nN C.1 C.2.1 d rfl (lv_get hl hx) (k p e s m args below meth c H locs ls C hW hS hl)
theorem z_astore_nN {k4 : Fin 4} (d : decode M.2.1 pc = .ok (.astore_n k4, 1)) (hn : (k4 : Nat) < M.2.2.1) (hlv : lv_sto lv (k4 : Nat) .null = lv') (k : zTr g M R ce sl (pc + 1) lv' rest w Post) : zTr g M R ce sl pc lv (.null :: rest) w Post :=
  fun p e s m args below meth c H locs ls C hW hS hl => lv_astore_nN C.1 C.2.1 d rfl hl hn rfl (fun ls1 hl1 => k p e s m args below meth c H locs ls1 C hW hS (lv_re hl1 hlv))
end ZNULL
theorem pDig_le {I : List Nat} {p br : Nat} : (pDig I 49 p br).1 ≤ 9 := by unfold pDig; split <;> (dsimp only; omega)
theorem pN_le {I : List Nat} {lo p br : Nat} (h : 48 ≤ lo) : (pN I lo p br).1 ≤ 999 := by unfold pN; (repeat' split) <;> (dsimp only; omega)
theorem pN_br {I : List Nat} {lo p br : Nat} (h : (pN I lo p br).2.2 = 0) : br = 0 ∧ p + 1 ≤ (pN I lo p br).2.1 := by
  by_cases c : br = 0 ∧ lo ≤ I.getD p 0 ∧ I.getD p 0 ≤ 57
  · refine ⟨c.1, ?_⟩
    unfold pN
    rw [if_pos c]
    (repeat' split) <;> dsimp only <;> omega
  · unfold pN at h
    rw [if_neg c] at h
    exact absurd (show (1 : Nat) = 0 from h) (by decide)
theorem pExp_br {I : List Nat} {c p br : Nat} (h : (pExp I c p br).2 = 0) : br = 0 ∧ (pExp I c p br).1 = p + 1 := by
  by_cases e : br = 0 ∧ I.getD p 0 = c
  · unfold pExp; rw [if_pos e]; exact ⟨e.1, rfl⟩
  · unfold pExp at h
    rw [if_neg e] at h
    exact absurd (show (1 : Nat) = 0 from h) (by decide)
theorem pDig_br {I : List Nat} {c p br : Nat} (h : (pDig I c p br).2.2 = 0) : br = 0 ∧ (pDig I c p br).2.1 = p + 1 := by
  by_cases e : br = 0 ∧ c ≤ I.getD p 0 ∧ I.getD p 0 ≤ 57
  · unfold pDig; rw [if_pos e]; exact ⟨e.1, rfl⟩
  · unfold pDig at h
    rw [if_neg e] at h
    exact absurd (show (1 : Nat) = 0 from h) (by decide)
/-- a run from p on: its level, its ticks, where reading goes on, whether it broke -/
def pRa (I : List Nat) (p : Nat) : Nat × Nat × Nat := if I.getD p 0 = 114 then (0, p + 1, 0) else pDig I 49 (pExp I 104 p 0).1 (pExp I 104 p 0).2
def pRc (I : List Nat) (p : Nat) : Nat × Nat := pExp I 58 (pRa I p).2.1 (pRa I p).2.2
def pRn (I : List Nat) (p : Nat) : Nat × Nat × Nat := pN I 49 (pRc I p).1 (pRc I p).2
theorem pRa_le {I : List Nat} {p : Nat} : (pRa I p).1 ≤ 9 := by unfold pRa; split; exact Nat.zero_le _; exact pDig_le
theorem pRn_adv {I : List Nat} {p : Nat} (h : (pRn I p).2.2 = 0) : p + 3 ≤ (pRn I p).2.1 := by
  have h1 := pN_br h
  have h2 := pExp_br h1.1
  have h3 : p + 1 ≤ (pRa I p).2.1 := by
    have h4 := h2.1
    unfold pRa at h4 ⊢
    split
    · exact Nat.le_refl _
    · rename_i c
      rw [if_neg c] at h4
      have h5 := pDig_br h4
      have h6 := pExp_br h5.1
      omega
  have h7 := h1.2
  have h8 := h2.2
  unfold pRn
  unfold pRc at h7 ⊢
  omega
def pfill (T : List Nat) (l m : Nat) : List Nat := ltab (min 200 (T.length + m)) (fun k => if k < T.length then gT T k else l)
/-- a notation: the ticks that fit, how many it has, where reading stopped, whether it broke -/
def pNot (I : List Nat) : Nat → Nat → List Nat → Nat → List Nat × Nat × Nat × Nat
  | 0, p, T, t => (T, t, p, 0)
  | k + 1, p, T, t => if (pRn I p).2.2 = 0 ∧ I.getD (pRn I p).2.1 0 = 32 then pNot I k ((pRn I p).2.1 + 1) (pfill T (pRa I p).1 (pRn I p).1) (t + (pRn I p).1)
    else (pfill T (pRa I p).1 (pRn I p).1, t + (pRn I p).1, (pRn I p).2.1, if (pRn I p).2.1 < I.length then 1 else (pRn I p).2.2)
def pNota (I : List Nat) : List Nat × Nat × Nat × Nat := if I.length = 0 then ([], 0, 0, 0) else pNot I 60 0 [] 0
def vnum (i : Nat) : Nat := [3, 2, 2, 2, 2, 2, 3, 3, 1, 1, 1].getD i 0
def vsg (i : Nat) : Nat := if i = 6 then 1 else 0
theorem zST.num {g : zGT} (h : zST g) {i : Nat} (hi : i < 11) : va_OF "RailTimeline$Verb" "numbers" "I" (.int (nI (vnum i))) (ze g (10 + i)) (zA g) (zs g) (zs g).heap := by
  have h2 := h.vb hi (q := ("RailTimeline$Verb", "numbers", "I", [3, 2, 2, 2, 2, 2, 3, 3, 1, 1, 1])) (by simp [zvf])
  have e : ([3, 2, 2, 2, 2, 2, 3, 3, 1, 1, 1] : List Int32).getD i 0 = nI (vnum i) := by
    rcases (show i = 0 ∨ i = 1 ∨ i = 2 ∨ i = 3 ∨ i = 4 ∨ i = 5 ∨ i = 6 ∨ i = 7 ∨ i = 8 ∨ i = 9 ∨ i = 10 by omega) with h | h | h | h | h | h | h | h | h | h | h <;> subst h <;> rfl
  rw [← e]; exact h2
theorem zST.sgd {g : zGT} (h : zST g) {i : Nat} (hi : i < 11) : va_OF "RailTimeline$Verb" "isThirdSigned" "Z" (.int (nI (vsg i))) (ze g (10 + i)) (zA g) (zs g) (zs g).heap := by
  have h2 := h.vb hi (q := ("RailTimeline$Verb", "isThirdSigned", "Z", [0, 0, 0, 0, 0, 0, 1, 0, 0, 0, 0])) (by simp [zvf])
  have e : ([0, 0, 0, 0, 0, 0, 1, 0, 0, 0, 0] : List Int32).getD i 0 = nI (vsg i) := by
    rcases (show i = 0 ∨ i = 1 ∨ i = 2 ∨ i = 3 ∨ i = 4 ∨ i = 5 ∨ i = 6 ∨ i = 7 ∨ i = 8 ∨ i = 9 ∨ i = 10 by omega) with h | h | h | h | h | h | h | h | h | h | h <;> subst h <;> rfl
  rw [← e]; exact h2
theorem vnum_le {i : Nat} (h : i < 11) : vnum i ≤ 3 ∧ (vsg i = 1 ↔ i = 6) ∧ vsg i ≤ 1 := by
  rcases (show i = 0 ∨ i = 1 ∨ i = 2 ∨ i = 3 ∨ i = 4 ∨ i = 5 ∨ i = 6 ∨ i = 7 ∨ i = 8 ∨ i = 9 ∨ i = 10 by omega) with h | h | h | h | h | h | h | h | h | h | h <;> subst h <;> decide
/-- the second and the third number of a command -/
def pB (I : List Nat) (v p br : Nat) : Nat × Nat × Nat := if 1 < vnum v then pN I 48 (pExp I 32 p br).1 (pExp I 32 p br).2 else (0, p, br)
def pS (I : List Nat) (v p br : Nat) : Int32 × Nat × Nat := if v = 6 then pSign I (pExp I 32 p br).1 (pExp I 32 p br).2 else (nI 1, pExp I 32 p br)
def pC (I : List Nat) (v p br : Nat) : Int32 × Nat × Nat := if 2 < vnum v then ((pS I v p br).1 * nI (pN I 48 (pS I v p br).2.1 (pS I v p br).2.2).1, (pN I 48 (pS I v p br).2.1 (pS I v p br).2.2).2) else (nI 0, p, br)
def pX (I : List Nat) (p : Nat) : Nat := (pVi I p).toNat
def pA (I : List Nat) (p : Nat) : Nat × Nat × Nat := pN I 48 (pVp I p) 0
def pB2 (I : List Nat) (p : Nat) : Nat × Nat × Nat := pB I (pX I p) (pA I p).2.1 (pA I p).2.2
def pC2 (I : List Nat) (p : Nat) : Int32 × Nat × Nat := pC I (pX I p) (pB2 I p).2.1 (pB2 I p).2.2
/-- a command from p on: what it adds to the script, where reading goes on, whether it broke -/
def pCmd (I : List Nat) (p : Nat) : List zCmd × Nat × Nat := if pVi I p < 0 then ([], pVp I p, 1) else ([(pX I p, nI (pA I p).1, nI (pB2 I p).1, (pC2 I p).1)], (pC2 I p).2)
theorem pVi_rng {I : List Nat} {p : Nat} : pVi I p = -1 ∨ (0 ≤ pVi I p ∧ pX I p < 11 ∧ wm I p (zwd (pX I p)) = (zwd (pX I p)).length) := by
  unfold pX
  rcases fidx_cases (fun i => decide (wm I p (zwd i) = (zwd i).length)) 11 with ⟨h, -⟩ | ⟨i, h1, h2, h3, -⟩
  · exact Or.inl h
  · refine Or.inr ?_
    unfold pVi
    rw [h2]
    exact ⟨by omega, by simpa using h1, by simpa using h3⟩
theorem zwd_5 {i : Nat} (h : i < 11) : 5 ≤ (zwd i).length := by
  rcases (show i = 0 ∨ i = 1 ∨ i = 2 ∨ i = 3 ∨ i = 4 ∨ i = 5 ∨ i = 6 ∨ i = 7 ∨ i = 8 ∨ i = 9 ∨ i = 10 by omega) with h | h | h | h | h | h | h | h | h | h | h <;> subst h <;> decide +kernel
theorem pVp_5 {I : List Nat} {p : Nat} (h : 0 ≤ pVi I p) (hp : p ≤ I.length) : p + 5 ≤ pVp I p ∧ pVp I p ≤ I.length := by
  rcases pVi_rng (I := I) (p := p) with q | ⟨-, q1, q2⟩
  · omega
  · unfold pVp
    rw [if_neg (by omega)]
    have h5 := zwd_5 q1
    have h6 := wm_in (I := I) (p := p) (zwd_ne q1) hp
    unfold pX at h5 h6 q2
    omega
theorem pSign_br {I : List Nat} {p br : Nat} (h : (pSign I p br).2.2 = 0) : br = 0 ∧ p + 1 ≤ (pSign I p br).2.1 := by
  unfold pSign at h ⊢
  split
  · rename_i c; exact ⟨c.1, Nat.le_refl _⟩
  · rename_i c
    rw [if_neg c] at h
    have := pExp_br h
    exact ⟨this.1, by dsimp only; omega⟩
theorem pB_br {I : List Nat} {v p br : Nat} (h : (pB I v p br).2.2 = 0) : br = 0 ∧ p ≤ (pB I v p br).2.1 := by
  unfold pB at h ⊢
  split
  · rename_i c
    rw [if_pos c] at h
    have h1 := pN_br h
    have h2 := pExp_br h1.1
    omega
  · rename_i c
    rw [if_neg c] at h
    exact ⟨h, Nat.le_refl _⟩
theorem pS_br {I : List Nat} {v p br : Nat} (h : (pS I v p br).2.2 = 0) : br = 0 ∧ p ≤ (pS I v p br).2.1 := by
  unfold pS at h ⊢
  split
  · rename_i c
    rw [if_pos c] at h
    have h1 := pSign_br h
    have h2 := pExp_br h1.1
    omega
  · rename_i c
    rw [if_neg c] at h
    have h2 := pExp_br h
    dsimp only; omega
theorem pC_br {I : List Nat} {v p br : Nat} (h : (pC I v p br).2.2 = 0) : br = 0 ∧ p ≤ (pC I v p br).2.1 := by
  unfold pC at h ⊢
  split
  · rename_i c
    rw [if_pos c] at h
    have h1 := pN_br h
    have h2 := pS_br h1.1
    dsimp only; omega
  · rename_i c
    rw [if_neg c] at h
    exact ⟨h, Nat.le_refl _⟩
theorem pCmd_adv {I : List Nat} {p : Nat} (hp : p ≤ I.length) (h : (pCmd I p).2.2 = 0) : 0 ≤ pVi I p ∧ p + 6 ≤ (pCmd I p).2.1 := by
  unfold pCmd at h ⊢
  rcases pVi_rng (I := I) (p := p) with q | ⟨q, q1, -⟩
  · rw [if_pos (by omega)] at h; exact absurd (show (1 : Nat) = 0 from h) (by decide)
  · rw [if_neg (by omega)] at h ⊢
    have h1 := pC_br h
    have h2 := pB_br h1.1
    have h3 := pN_br h2.1
    have h4 := pVp_5 q hp
    have h5 : (pC2 I p).2.1 = (pC2 I p).2.1 := rfl
    refine ⟨q, ?_⟩
    show p + 6 ≤ (pC2 I p).2.1
    have e1 : (pB2 I p).2.1 ≤ (pC2 I p).2.1 := h1.2
    have e2 : (pA I p).2.1 ≤ (pB2 I p).2.1 := h2.2
    have e3 : pVp I p + 1 ≤ (pA I p).2.1 := h3.2
    omega
/-- a script: its commands, where reading stopped, whether it broke -/
def pCmds (I : List Nat) : Nat → Nat → List zCmd → List zCmd × Nat × Nat
  | 0, p, K => (K, p, 0)
  | k + 1, p, K => if (pCmd I p).2.2 = 0 ∧ I.getD (pCmd I p).2.1 0 = 59 then pCmds I k ((pCmd I p).2.1 + 1) (K ++ (pCmd I p).1)
    else (K ++ (pCmd I p).1, (pCmd I p).2.1, if (pCmd I p).2.1 < I.length then 1 else (pCmd I p).2.2)
theorem pN_in {I : List Nat} {lo p br : Nat} (h48 : 1 ≤ lo) (hp : p ≤ I.length) : (pN I lo p br).2.1 ≤ I.length := by
  have hc : ∀ k, I.getD k 0 ≠ 0 → k < I.length := fun k hk => by
    rcases Nat.lt_or_ge k I.length with q | q
    · exact q
    · exact absurd (gD_ge q) hk
  unfold pN
  (repeat' split) <;> dsimp only
  · have := hc (p + 1 + 1) (by omega); omega
  · have := hc (p + 1) (by omega); omega
  · have := hc p (by omega); omega
  · exact hp
set_option maxRecDepth 100000 in
set_option maxHeartbeats 4000000 in
theorem l_X4_readRun {g : zGT} {w wi : zW} {b n l q pp bb : Nat} {I : List Nat} {F : Nat → Nat} (h0 : zG0 g) (hb : b + 3 < zn g) (hn : n ≤ 200) (hl : l ≤ 9) (hq : q ≤ 999) (hfi : zFr w wi b (b + 4)) (hIi : Inp g wi b I pp bb) (hTi : LvT g wi (b + 2) F n) : zTr g mX4_readRun (zR 4 0) 0 0 40 [(0, .ref (za g b)), (1, .ref (za g (b + 2))), (2, .int (nI l)), (3, .int (nI q)), (4, .int (nI 0))] [] wi (fun o w' => o = .inl (some (.int (nI q))) ∧ zFr w w' b (b + 4) ∧ Inp g w' b I pp bb ∧ LvT g w' (b + 2) (fun k => if k < n then F k else l) (min 200 (n + q))) := by
  have loop : ∀ (mm : Nat) (i : Nat) (wi : zW) (Fi : Nat → Nat), q - i < mm → (i ≤ q) → (zFr w wi b (b + 4)) → (Inp g wi b I pp bb) → (LvT g wi (b + 2) Fi (min 200 (n + i))) → (∀ k, k < min 200 (n + i) → Fi k = if k < n then F k else l) → zTr g mX4_readRun (zR 4 0) 0 0 40 [(0, .ref (za g b)), (1, .ref (za g (b + 2))), (2, .int (nI (l))), (3, .int (nI (q))), (4, .int (nI (i)))] [] wi (fun o w' => o = .inl (some (.int (nI q))) ∧ zFr w w' b (b + 4) ∧ Inp g w' b I pp bb ∧ LvT g w' (b + 2) (fun k => if k < n then F k else l) (min 200 (n + q))) := by
    intro mm
    induction mm with
    | zero => intros; omega
    | succ mm ih =>
      intro i wi Fi hm hiq hfi hIi hTi hi
      refine z_iload dX4_readRun_40 rfl ?_
      refine z_iload_n dX4_readRun_42 rfl ?_
      refine z_icmp_ge_n (a := i) (b := q) (tgt := 57) dX4_readRun_43 (by decide) (by omega) (by omega) (fun h_43_1 => ?_) (fun h_43_1 => ?_)
      · refine z_iload_n dX4_readRun_57 rfl ?_
        refine z_iret dX4_readRun_58 rfl (by decide) (by decide) ?_
        exact ⟨rfl, hfi, hIi, by rw [show q = i by omega]; exact hTi.congr hi⟩
      · refine z_aload_n dX4_readRun_46 rfl ?_
        refine z_iload_n dX4_readRun_47 rfl ?_
        by_cases hc2 : (min 200 (n + i)) < 200
        · refine z_callR (As := [.int (nI (l))]) (rest := []) (b := b + 2) (ci := 5) (v := none) (R2 := zR 0 0) dX4_readRun_48 kV_RX4_56 rfl ⟨⟨by decide, by decide⟩, by decide, by decide⟩ (by omega) hTi.cell rfl rfl rfl (Nat.le_of_ble_eq_true rfl) rfl (tc_append (x := l) h0 hTi hc2 (by omega)) (fun w3 pw3 => ?_)
          obtain ⟨hf4, hn5⟩ := pw3
          have hc6 := hIi.fr hf4 (by omega)
          refine z_iinc_n (n := 1) (a := i) (lv' := [(0, .ref (za g b)), (1, .ref (za g (b + 2))), (2, .int (nI (l))), (3, .int (nI (q))), (4, .int (nI (i + 1)))]) dX4_readRun_51 rfl (by decide) rfl ?_
          refine z_goto (tgt := 40) dX4_readRun_54 (by decide) ?_
          have e9 : min 200 (n + (i + 1)) = min 200 (n + i) + 1 := by omega
          refine ih (i + 1) _ (va_up Fi (min 200 (n + i)) l) (by omega) (by omega) (hfi.tr (hf4.wk (by omega) (by omega))) hc6 (by rw [e9]; exact hn5) (fun k hk => ?_)
          rw [e9] at hk
          simp only [va_up]
          by_cases c1 : k = min 200 (n + i)
          · rw [if_pos c1, if_neg (by omega)]
          · rw [if_neg c1]; exact hi k (by omega)
        · refine z_callR (As := [.int (nI (l))]) (rest := []) (b := b + 2) (ci := 5) (v := none) (R2 := zR 0 0) dX4_readRun_48 kV_RX4_56 rfl ⟨⟨by decide, by decide⟩, by decide, by decide⟩ (by omega) hTi.cell rfl rfl rfl (Nat.le_of_ble_eq_true rfl) rfl (tc_append_full h0 hTi (by omega)) (fun w7 pw7 => ?_)
          obtain ⟨hf8, hn9⟩ := pw7
          have hc10 := hIi.fr hf8 (by omega)
          refine z_iinc_n (n := 1) (a := i) (lv' := [(0, .ref (za g b)), (1, .ref (za g (b + 2))), (2, .int (nI (l))), (3, .int (nI (q))), (4, .int (nI (i + 1)))]) dX4_readRun_51 rfl (by decide) rfl ?_
          refine z_goto (tgt := 40) dX4_readRun_54 (by decide) ?_
          have e9 : min 200 (n + (i + 1)) = min 200 (n + i) := by omega
          refine ih (i + 1) _ Fi (by omega) (by omega) (hfi.tr (hf8.wk (by omega) (by omega))) hc10 (by rw [e9]; exact hn9) (fun k hk => ?_)
          exact hi k (by omega)
  exact loop (q + 1) 0 wi F (by omega) (Nat.zero_le _) hfi hIi (by rw [show min 200 (n + 0) = n by omega]; exact hTi) (fun k hk => by rw [if_pos (by omega)])
set_option maxRecDepth 100000 in
set_option maxHeartbeats 4000000 in
theorem c_X4_readRun {g : zGT} {w : zW} {b p n : Nat} {I : List Nat} {F : Nat → Nat} (h0 : zG0 g) (hI : Inp g w b I p 0) (hT : LvT g w (b + 2) F n) : zCt g mX4_readRun (zR 4 0) [.ref (za g b), .ref (za g (b + 2))] w (fun o w' => o = .inl (some (.int (nI (pRn I p).1))) ∧ zFr w w' b (b + 4) ∧ Inp g w' b I (pRn I p).2.1 (pRn I p).2.2 ∧ LvT g w' (b + 2) (fun k => if k < n then F k else (pRa I p).1) (min 200 (n + (pRn I p).1))) := by
  have hb : b + 3 < zn g := hT.lt
  have hn := hT.len
  refine zCt_of (by decide +kernel) h0 [(0, .ref (za g b)), (1, .ref (za g (b + 2)))] rfl (Nat.le_of_ble_eq_true rfl) ?_
  refine z_iconst (v := nI 0) dX4_readRun_0 rfl ?_
  refine z_istore_n (lv' := [(0, .ref (za g b)), (1, .ref (za g (b + 2))), (2, .int (nI (0)))]) dX4_readRun_1 (by decide) rfl ?_
  refine z_aload_n dX4_readRun_2 rfl ?_
  refine z_bipush (v := nI 114) dX4_readRun_3 rfl ?_
  by_cases hc1 : 0 = 0 ∧ I.getD (p) 0 = 114
  · refine z_callR (As := [.int (nI (114))]) (rest := []) (b := b) (ci := 4) (v := some (.int (nI (1)))) (R2 := zR 1 0) dX4_readRun_5 kV_RX4_38 rfl ⟨⟨by decide, by decide⟩, by decide, by decide⟩ (by omega) hI.2.1 rfl rfl rfl (Nat.le_of_ble_eq_true rfl) rfl (c_X4_accept_y h0 hI (by omega) hc1) (fun w2 pw2 => ?_)
    obtain ⟨hf3, hn4⟩ := pw2
    have hc5 := hT.fr hf3 (by omega)
    refine z_if_ne_n (a := 1) (tgt := 24) dX4_readRun_8 (by decide) (by omega) (fun h_8_6 => ?_) (fun h_8_6 => ?_)
    · refine z_aload_n dX4_readRun_24 rfl ?_
      refine z_bipush (v := nI 58) dX4_readRun_25 rfl ?_
      refine z_callR (As := [.int (nI (58))]) (rest := []) (b := b) (ci := 4) (v := none) (R2 := zR 2 0) dX4_readRun_27 kV_RX4_45 rfl ⟨⟨by decide, by decide⟩, by decide, by decide⟩ (by omega) hn4.2.1 rfl rfl rfl (Nat.le_of_ble_eq_true rfl) rfl (c_X4_expect h0 hn4 (by omega)) (fun w7 pw7 => ?_)
      obtain ⟨hf8, hn9⟩ := pw7
      have hc10 := hc5.fr hf8 (by omega)
      refine z_aload_n dX4_readRun_30 rfl ?_
      refine z_bipush (v := nI 49) dX4_readRun_31 rfl ?_
      refine z_callR (As := [.int (nI (49))]) (rest := []) (b := b) (ci := 4) (v := some (.int (nI ((pN I 49 (pExp I 58 (p + 1) 0).1 (pExp I 58 (p + 1) 0).2).1)))) (R2 := zR 3 0) dX4_readRun_33 kV_RX4_53 rfl ⟨⟨by decide, by decide⟩, by decide, by decide⟩ (by omega) hn9.2.1 rfl rfl rfl (Nat.le_of_ble_eq_true rfl) rfl (c_X4_readNumber h0 hn9 (by omega)) (fun w11 pw11 => ?_)
      obtain ⟨hf12, hn13⟩ := pw11
      have hc14 := hc10.fr hf12 (by omega)
      refine z_istore_n (lv' := [(0, .ref (za g b)), (1, .ref (za g (b + 2))), (2, .int (nI (0))), (3, .int (nI ((pN I 49 (pExp I 58 (p + 1) 0).1 (pExp I 58 (p + 1) 0).2).1)))]) dX4_readRun_36 (by decide) rfl ?_
      refine z_iconst (v := nI 0) dX4_readRun_37 rfl ?_
      refine z_istore (lv' := [(0, .ref (za g b)), (1, .ref (za g (b + 2))), (2, .int (nI (0))), (3, .int (nI ((pN I 49 (pExp I 58 (p + 1) 0).1 (pExp I 58 (p + 1) 0).2).1))), (4, .int (nI (0)))]) dX4_readRun_38 (by decide) rfl ?_
      have ea : pRa I p = (0, p + 1, 0) := by unfold pRa; rw [if_pos hc1.2]
      have e1 : 0 = (pRa I p).1 := by rw [ea]
      have e2 : pRn I p = pN I 49 (pExp I 58 (p + 1) 0).1 (pExp I 58 (p + 1) 0).2 := by unfold pRn pRc; rw [ea]
      rw [e2, ← e1]
      exact l_X4_readRun h0 (by omega) hn (by rw [e1]; exact pRa_le) (pN_le (by omega)) ((((hf3.wk (by omega) (by omega)).tr (hf8.wk (by omega) (by omega))).tr (hf12.wk (by omega) (by omega)))) hn13 hc14
    · exact absurd h_8_6 (by decide)
  · refine z_callR (As := [.int (nI (114))]) (rest := []) (b := b) (ci := 4) (v := some (.int (nI (0)))) (R2 := zR 1 0) dX4_readRun_5 kV_RX4_38 rfl ⟨⟨by decide, by decide⟩, by decide, by decide⟩ (by omega) hI.2.1 rfl rfl rfl (Nat.le_of_ble_eq_true rfl) rfl (c_X4_accept_n h0 hI (by omega) hc1) (fun w15 pw15 => ?_)
    obtain ⟨hf16, hn17⟩ := pw15
    have hc18 := hT.fr hf16 (by omega)
    refine z_if_ne_n (a := 0) (tgt := 24) dX4_readRun_8 (by decide) (by omega) (fun h_8_19 => ?_) (fun h_8_19 => ?_)
    · exact absurd h_8_19 (by decide)
    · refine z_aload_n dX4_readRun_11 rfl ?_
      refine z_bipush (v := nI 104) dX4_readRun_12 rfl ?_
      refine z_callR (As := [.int (nI (104))]) (rest := []) (b := b) (ci := 4) (v := none) (R2 := zR 2 0) dX4_readRun_14 kV_RX4_45 rfl ⟨⟨by decide, by decide⟩, by decide, by decide⟩ (by omega) hn17.2.1 rfl rfl rfl (Nat.le_of_ble_eq_true rfl) rfl (c_X4_expect h0 hn17 (by omega)) (fun w20 pw20 => ?_)
      obtain ⟨hf21, hn22⟩ := pw20
      have hc23 := hc18.fr hf21 (by omega)
      refine z_aload_n dX4_readRun_17 rfl ?_
      refine z_bipush (v := nI 49) dX4_readRun_18 rfl ?_
      refine z_callR (As := [.int (nI (49))]) (rest := []) (b := b) (ci := 4) (v := some (.int (nI ((pDig I 49 (pExp I 104 p 0).1 (pExp I 104 p 0).2).1)))) (R2 := zR 2 0) dX4_readRun_20 kV_RX4_49 rfl ⟨⟨by decide, by decide⟩, by decide, by decide⟩ (by omega) hn22.2.1 rfl rfl rfl (Nat.le_of_ble_eq_true rfl) rfl (c_X4_readDigit h0 hn22 (by omega)) (fun w24 pw24 => ?_)
      obtain ⟨hf25, hn26⟩ := pw24
      have hc27 := hc23.fr hf25 (by omega)
      refine z_istore_n (lv' := [(0, .ref (za g b)), (1, .ref (za g (b + 2))), (2, .int (nI ((pDig I 49 (pExp I 104 p 0).1 (pExp I 104 p 0).2).1)))]) dX4_readRun_23 (by decide) rfl ?_
      refine z_aload_n dX4_readRun_24 rfl ?_
      refine z_bipush (v := nI 58) dX4_readRun_25 rfl ?_
      refine z_callR (As := [.int (nI (58))]) (rest := []) (b := b) (ci := 4) (v := none) (R2 := zR 2 0) dX4_readRun_27 kV_RX4_45 rfl ⟨⟨by decide, by decide⟩, by decide, by decide⟩ (by omega) hn26.2.1 rfl rfl rfl (Nat.le_of_ble_eq_true rfl) rfl (c_X4_expect h0 hn26 (by omega)) (fun w28 pw28 => ?_)
      obtain ⟨hf29, hn30⟩ := pw28
      have hc31 := hc27.fr hf29 (by omega)
      refine z_aload_n dX4_readRun_30 rfl ?_
      refine z_bipush (v := nI 49) dX4_readRun_31 rfl ?_
      refine z_callR (As := [.int (nI (49))]) (rest := []) (b := b) (ci := 4) (v := some (.int (nI ((pN I 49 (pExp I 58 (pDig I 49 (pExp I 104 p 0).1 (pExp I 104 p 0).2).2.1 (pDig I 49 (pExp I 104 p 0).1 (pExp I 104 p 0).2).2.2).1 (pExp I 58 (pDig I 49 (pExp I 104 p 0).1 (pExp I 104 p 0).2).2.1 (pDig I 49 (pExp I 104 p 0).1 (pExp I 104 p 0).2).2.2).2).1)))) (R2 := zR 3 0) dX4_readRun_33 kV_RX4_53 rfl ⟨⟨by decide, by decide⟩, by decide, by decide⟩ (by omega) hn30.2.1 rfl rfl rfl (Nat.le_of_ble_eq_true rfl) rfl (c_X4_readNumber h0 hn30 (by omega)) (fun w32 pw32 => ?_)
      obtain ⟨hf33, hn34⟩ := pw32
      have hc35 := hc31.fr hf33 (by omega)
      refine z_istore_n (lv' := [(0, .ref (za g b)), (1, .ref (za g (b + 2))), (2, .int (nI ((pDig I 49 (pExp I 104 p 0).1 (pExp I 104 p 0).2).1))), (3, .int (nI ((pN I 49 (pExp I 58 (pDig I 49 (pExp I 104 p 0).1 (pExp I 104 p 0).2).2.1 (pDig I 49 (pExp I 104 p 0).1 (pExp I 104 p 0).2).2.2).1 (pExp I 58 (pDig I 49 (pExp I 104 p 0).1 (pExp I 104 p 0).2).2.1 (pDig I 49 (pExp I 104 p 0).1 (pExp I 104 p 0).2).2.2).2).1)))]) dX4_readRun_36 (by decide) rfl ?_
      refine z_iconst (v := nI 0) dX4_readRun_37 rfl ?_
      refine z_istore (lv' := [(0, .ref (za g b)), (1, .ref (za g (b + 2))), (2, .int (nI ((pDig I 49 (pExp I 104 p 0).1 (pExp I 104 p 0).2).1))), (3, .int (nI ((pN I 49 (pExp I 58 (pDig I 49 (pExp I 104 p 0).1 (pExp I 104 p 0).2).2.1 (pDig I 49 (pExp I 104 p 0).1 (pExp I 104 p 0).2).2.2).1 (pExp I 58 (pDig I 49 (pExp I 104 p 0).1 (pExp I 104 p 0).2).2.1 (pDig I 49 (pExp I 104 p 0).1 (pExp I 104 p 0).2).2.2).2).1))), (4, .int (nI (0)))]) dX4_readRun_38 (by decide) rfl ?_
      have ea : pRa I p = pDig I 49 (pExp I 104 p 0).1 (pExp I 104 p 0).2 := by unfold pRa; rw [if_neg (fun z => hc1 ⟨rfl, z⟩)]
      have e1 : (pDig I 49 (pExp I 104 p 0).1 (pExp I 104 p 0).2).1 = (pRa I p).1 := by rw [ea]
      have e2 : pRn I p = pN I 49 (pExp I 58 (pDig I 49 (pExp I 104 p 0).1 (pExp I 104 p 0).2).2.1 (pDig I 49 (pExp I 104 p 0).1 (pExp I 104 p 0).2).2.2).1 (pExp I 58 (pDig I 49 (pExp I 104 p 0).1 (pExp I 104 p 0).2).2.1 (pDig I 49 (pExp I 104 p 0).1 (pExp I 104 p 0).2).2.2).2 := by unfold pRn pRc; rw [ea]
      rw [e2, ← e1]
      exact l_X4_readRun h0 (by omega) hn (by rw [e1]; exact pRa_le) (pN_le (by omega)) ((((((hf16.wk (by omega) (by omega)).tr (hf21.wk (by omega) (by omega))).tr (hf25.wk (by omega) (by omega))).tr (hf29.wk (by omega) (by omega))).tr (hf33.wk (by omega) (by omega)))) hn34 hc35
set_option maxRecDepth 100000 in
set_option maxHeartbeats 4000000 in
theorem c_X4_readNotation {g : zGT} {w : zW} {b p0 br0 n : Nat} {I : List Nat} {F : Nat → Nat} (h0 : zG0 g) (hI : Inp g w b I p0 br0) (hT : LvT g w (b + 2) F n) : zCt g mX4_readNotation (zR 5 0) [.ref (za g b), .ref (za g (b + 2))] w (fun o w' => o = .inl (some (.int (nI (pNota I).2.1))) ∧ zFr w w' b (b + 4) ∧ Inp g w' b I (pNota I).2.2.1 (pNota I).2.2.2 ∧ LvT g w' (b + 2) (gT (pNota I).1) (pNota I).1.length) := by
  have hb : b + 3 < zn g := hT.lt
  have hn := hT.len
  have hil := hI.2.2.2.1
  refine zCt_of (by decide +kernel) h0 [(0, .ref (za g b)), (1, .ref (za g (b + 2)))] rfl (Nat.le_of_ble_eq_true rfl) ?_
  have loop : ∀ (mm : Nat) (i p t : Nat) (wi : zW) (T : List Nat), 60 - i < mm → (4 * i ≤ p) → (p ≤ I.length) → (zFr w wi b (b + 4)) → (Inp g wi b I p 0) → (LvT g wi (b + 2) (gT T) T.length) → zTr g mX4_readNotation (zR 5 0) 0 0 21 [(0, .ref (za g b)), (1, .ref (za g (b + 2))), (2, .int (nI (t))), (3, .int (nI (i)))] [] wi (fun o w' => o = .inl (some (.int (nI (pNot I (60 - i) p T t).2.1))) ∧ zFr w w' b (b + 4) ∧ Inp g w' b I (pNot I (60 - i) p T t).2.2.1 (pNot I (60 - i) p T t).2.2.2 ∧ LvT g w' (b + 2) (gT (pNot I (60 - i) p T t).1) (pNot I (60 - i) p T t).1.length) := by
    intro mm
    induction mm with
    | zero => intros; omega
    | succ mm ih =>
      intro i p t wi T hm hpi hpl hfi hIi hTi
      have hi60 := hIi.2.2.2.1
      refine z_iload_n dX4_readNotation_21 rfl ?_
      refine z_bipush (v := nI 60) dX4_readNotation_22 rfl ?_
      refine z_icmp_ge_n (a := i) (b := 60) (tgt := 53) dX4_readNotation_24 (by decide) (by omega) (by omega) (fun h_24_1 => ?_) (fun h_24_1 => ?_)
      · exact absurd h_24_1 (by omega)
      · refine z_iload_n dX4_readNotation_27 rfl ?_
        refine z_aload_n dX4_readNotation_28 rfl ?_
        refine z_aload_n dX4_readNotation_29 rfl ?_
        refine z_callR (As := [.ref (za g (b + 2))]) (rest := [.int (nI (t))]) (b := b) (ci := 4) (v := some (.int (nI ((pRn I p).1)))) (R2 := zR 4 0) dX4_readNotation_30 kV_RX4_34 rfl ⟨⟨by decide, by decide⟩, by decide, by decide⟩ (by omega) hIi.2.1 rfl rfl rfl (Nat.le_of_ble_eq_true rfl) rfl (c_X4_readRun h0 hIi hTi) (fun w2 pw2 => ?_)
        obtain ⟨hf3, hi4, ht5⟩ := pw2
        refine z_iadd_n (a := t) (b := (pRn I p).1) dX4_readNotation_33 ?_
        refine z_istore_n (lv' := [(0, .ref (za g b)), (1, .ref (za g (b + 2))), (2, .int (nI ((t) + ((pRn I p).1)))), (3, .int (nI (i)))]) dX4_readNotation_34 (by decide) rfl ?_
        refine z_aload_n dX4_readNotation_35 rfl ?_
        refine z_bipush (v := nI 32) dX4_readNotation_36 rfl ?_
        by_cases hc6 : (pRn I p).2.2 = 0 ∧ I.getD ((pRn I p).2.1) 0 = 32
        · refine z_callR (As := [.int (nI (32))]) (rest := []) (b := b) (ci := 4) (v := some (.int (nI (1)))) (R2 := zR 1 0) dX4_readNotation_38 kV_RX4_38 rfl ⟨⟨by decide, by decide⟩, by decide, by decide⟩ (by omega) hi4.2.1 rfl rfl rfl (Nat.le_of_ble_eq_true rfl) rfl (c_X4_accept_y h0 hi4 (by omega) hc6) (fun w7 pw7 => ?_)
          obtain ⟨hf8, hn9⟩ := pw7
          have hc10 := ht5.fr hf8 (by omega)
          refine z_if_ne_n (a := 1) (tgt := 47) dX4_readNotation_41 (by decide) (by omega) (fun h_41_11 => ?_) (fun h_41_11 => ?_)
          · refine z_iinc_n (n := 1) (a := i) (lv' := [(0, .ref (za g b)), (1, .ref (za g (b + 2))), (2, .int (nI ((t) + ((pRn I p).1)))), (3, .int (nI (i + 1)))]) dX4_readNotation_47 rfl (by decide) rfl ?_
            refine z_goto (tgt := 21) dX4_readNotation_50 (by decide) ?_
            rw [show 60 - i = (60 - (i + 1)) + 1 by omega, pNot, if_pos hc6]
            have hadv := pRn_adv hc6.1
            have hlt := (hIi.chr (pRn I p).2.1).2 (by rw [hc6.2]; decide)
            exact ih (i + 1) ((pRn I p).2.1 + 1) (t + (pRn I p).1) _ (pfill T (pRa I p).1 (pRn I p).1) (by omega) (by omega) hlt (hfi.tr ((hf3.wk (by omega) (by omega)).tr (hf8.wk (by omega) (by omega)))) hn9 hc10.tab
          · exact absurd h_41_11 (by decide)
        · refine z_callR (As := [.int (nI (32))]) (rest := []) (b := b) (ci := 4) (v := some (.int (nI (0)))) (R2 := zR 1 0) dX4_readNotation_38 kV_RX4_38 rfl ⟨⟨by decide, by decide⟩, by decide, by decide⟩ (by omega) hi4.2.1 rfl rfl rfl (Nat.le_of_ble_eq_true rfl) rfl (c_X4_accept_n h0 hi4 (by omega) hc6) (fun w12 pw12 => ?_)
          obtain ⟨hf13, hn14⟩ := pw12
          have hc15 := ht5.fr hf13 (by omega)
          refine z_if_ne_n (a := 0) (tgt := 47) dX4_readNotation_41 (by decide) (by omega) (fun h_41_16 => ?_) (fun h_41_16 => ?_)
          · exact absurd h_41_16 (by decide)
          · refine z_goto (tgt := 53) dX4_readNotation_44 (by decide) ?_
            refine z_aload_n dX4_readNotation_53 rfl ?_
            refine z_callR (As := []) (rest := []) (b := b) (ci := 4) (v := none) (R2 := zR 0 0) dX4_readNotation_54 kV_RX4_42 rfl ⟨⟨by decide, by decide⟩, by decide, by decide⟩ (by omega) hn14.2.1 rfl rfl rfl (Nat.le_of_ble_eq_true rfl) rfl (c_X4_expectEnd h0 hn14) (fun w17 pw17 => ?_)
            obtain ⟨hf18, hn19⟩ := pw17
            have hc20 := hc15.fr hf18 (by omega)
            refine z_iload_n dX4_readNotation_57 rfl ?_
            refine z_iret dX4_readNotation_58 rfl (by decide) (by decide) ?_
            rw [show 60 - i = (60 - (i + 1)) + 1 by omega, pNot, if_neg hc6]
            exact ⟨rfl, hfi.tr (((hf3.wk (by omega) (by omega)).tr (hf13.wk (by omega) (by omega))).tr (hf18.wk (by omega) (by omega))), hn19, hc20.tab⟩
  refine z_aload_n dX4_readNotation_0 rfl ?_
  refine z_callR (As := []) (rest := []) (b := b) (ci := 4) (v := none) (R2 := zR 0 0) dX4_readNotation_1 kV_RX4_26 rfl ⟨⟨by decide, by decide⟩, by decide, by decide⟩ (by omega) hI.2.1 rfl rfl rfl (Nat.le_of_ble_eq_true rfl) rfl (c_X4_startReading h0 hI) (fun w1 pw1 => ?_)
  obtain ⟨hf2, hn3⟩ := pw1
  have hc4 := hT.fr hf2 (by omega)
  refine z_aload_n dX4_readNotation_4 rfl ?_
  refine z_callR (As := []) (rest := []) (b := b + 2) (ci := 5) (v := none) (R2 := zR 0 0) dX4_readNotation_5 kV_RX4_29 rfl ⟨⟨by decide, by decide⟩, by decide, by decide⟩ (by omega) hc4.cell rfl rfl rfl (Nat.le_of_ble_eq_true rfl) rfl (tc_clear h0 hc4) (fun w5 pw5 => ?_)
  obtain ⟨hf6, hn7⟩ := pw5
  have hc8 := hn3.fr hf6 (by omega)
  refine z_aload_n dX4_readNotation_8 rfl ?_
  refine z_getf (j := b) dX4_readNotation_9 kF_RX4_15 rfl (by omega) hc8.2.1 rfl ?_
  refine z_if_ne_n (a := I.length) (tgt := 17) dX4_readNotation_12 (by decide) (by omega) (fun h_12_9 => ?_) (fun h_12_9 => ?_)
  · refine z_iconst (v := nI 0) dX4_readNotation_17 rfl ?_
    refine z_istore_n (lv' := [(0, .ref (za g b)), (1, .ref (za g (b + 2))), (2, .int (nI (0)))]) dX4_readNotation_18 (by decide) rfl ?_
    refine z_iconst (v := nI 0) dX4_readNotation_19 rfl ?_
    refine z_istore_n (lv' := [(0, .ref (za g b)), (1, .ref (za g (b + 2))), (2, .int (nI (0))), (3, .int (nI (0)))]) dX4_readNotation_20 (by decide) rfl ?_
    have h9 := loop 61 0 0 0 _ [] (by omega) (Nat.zero_le _) (Nat.zero_le _) ((hf2.wk (by omega) (by omega)).tr (hf6.wk (by omega) (by omega))) hc8 (hn7.congr (fun k hk => absurd hk (Nat.not_lt_zero k)))
    unfold pNota; rw [if_neg (by assumption)]
    exact h9
  · refine z_iconst (v := nI 0) dX4_readNotation_15 rfl ?_
    refine z_iret dX4_readNotation_16 rfl (by decide) (by decide) ?_
    unfold pNota; rw [if_pos (by assumption)]
    exact ⟨rfl, ((hf2.wk (by omega) (by omega)).tr (hf6.wk (by omega) (by omega))), hc8, hn7.congr (fun k hk => absurd hk (Nat.not_lt_zero k))⟩
set_option maxRecDepth 100000 in
set_option maxHeartbeats 4000000 in
theorem c_X4_readCommand {g : zGT} {w : zW} {h b p : Nat} {I : List Nat} {K : List zCmd} (h0 : zG0 g) (h1 : zST g) (hhb : h + 10 = b) (hI : Inp g w b I p 0) (hK : Scx g w h K) (hpl : p ≤ I.length) (h7 : 7 * K.length ≤ p) : zCt g mX4_readCommand (zR 6 0) [.ref (za g b), .ref (za g h)] w (fun o w' => o = .inl none ∧ zFr w w' h (b + 2) ∧ Inp g w' b I (pCmd I p).2.1 (pCmd I p).2.2 ∧ Scx g w' h (K ++ (pCmd I p).1)) := by
  have hb := hI.1
  have hk := hK.lt
  have hil := hI.2.2.2.1
  refine zCt_of (by decide +kernel) h0 [(0, .ref (za g b)), (1, .ref (za g h))] rfl (Nat.le_of_ble_eq_true rfl) ?_
  refine z_aload_n dX4_readCommand_0 rfl ?_
  refine z_callV (As := []) (rest := []) (b := b) (ci := 4) (R2 := zR 5 0) dX4_readCommand_1 kV_RX4_67 rfl ⟨⟨by decide, by decide⟩, by decide, by decide⟩ (by omega) hI.2.1 rfl rfl rfl (Nat.le_of_ble_eq_true rfl) rfl (c_X4_readVerb h0 h1 hI hpl) (fun E w1 h => by rcases h with ⟨-, ⟨i, -, -, e, -⟩ | ⟨-, e, -⟩⟩ <;> cases e) (fun v1 w2 h3 => ?_)
  rcases h3 with ⟨hf1, ⟨i, hi, hvi, ev, hi1⟩ | ⟨hvi, ev, hi1⟩⟩
  · have hc4 := hK.fr hf1 (by omega)
    cases ev
    have hnum := vnum_le hi
    have hpx : pX I p = i := by unfold pX; rw [hvi]; rfl
    have hv5 := pVp_5 (I := I) (p := p) (by omega) hpl
    refine z_astore_n (lv' := [(0, .ref (za g b)), (1, .ref (za g h)), (2, .ref (ze g (10 + i)))]) dX4_readCommand_4 (by decide) rfl ?_
    refine z_aload_n dX4_readCommand_5 rfl ?_
    refine z_ifnonnull (tgt := 10) dX4_readCommand_6 (by decide) ?_
    refine z_aload_n dX4_readCommand_10 rfl ?_
    refine z_bipush (v := nI 48) dX4_readCommand_11 rfl ?_
    refine z_callR (As := [.int (nI (48))]) (rest := []) (b := b) (ci := 4) (v := some (.int (nI ((pN I 48 (pVp I p) 0).1)))) (R2 := zR 3 0) dX4_readCommand_13 kV_RX4_53 rfl ⟨⟨by decide, by decide⟩, by decide, by decide⟩ (by omega) hi1.2.1 rfl rfl rfl (Nat.le_of_ble_eq_true rfl) rfl (c_X4_readNumber h0 hi1 (by omega)) (fun w5 pw5 => ?_)
    obtain ⟨hf6, hn7⟩ := pw5
    have hc8 := hc4.fr hf6 (by omega)
    refine z_istore_n (lv' := [(0, .ref (za g b)), (1, .ref (za g h)), (2, .ref (ze g (10 + i))), (3, .int (nI ((pN I 48 (pVp I p) 0).1)))]) dX4_readCommand_16 (by decide) rfl ?_
    refine z_iconst (v := nI 0) dX4_readCommand_17 rfl ?_
    refine z_istore (lv' := [(0, .ref (za g b)), (1, .ref (za g h)), (2, .ref (ze g (10 + i))), (3, .int (nI ((pN I 48 (pVp I p) 0).1))), (4, .int (nI (0)))]) dX4_readCommand_18 (by decide) rfl ?_
    refine z_aload_n dX4_readCommand_20 rfl ?_
    refine z_getON dX4_readCommand_21 kH_RX4_71 rfl (h1.num hi) ?_
    refine z_iconst (v := nI 1) dX4_readCommand_24 rfl ?_
    refine z_icmp_le_n (a := vnum i) (b := 1) (tgt := 42) dX4_readCommand_25 (by decide) (by omega) (by omega) (fun h_25_9 => ?_) (fun h_25_9 => ?_)
    · refine z_iconst (v := nI 0) dX4_readCommand_42 rfl ?_
      refine z_istore (lv' := [(0, .ref (za g b)), (1, .ref (za g h)), (2, .ref (ze g (10 + i))), (3, .int (nI ((pN I 48 (pVp I p) 0).1))), (4, .int (nI (0))), (5, .int (nI (0)))]) dX4_readCommand_43 (by decide) rfl ?_
      refine z_aload_n dX4_readCommand_45 rfl ?_
      refine z_getON dX4_readCommand_46 kH_RX4_71 rfl (h1.num hi) ?_
      refine z_iconst (v := nI 2) dX4_readCommand_49 rfl ?_
      refine z_icmp_le_n (a := vnum i) (b := 2) (tgt := 87) dX4_readCommand_50 (by decide) (by omega) (by omega) (fun h_50_10 => ?_) (fun h_50_10 => ?_)
      · refine z_aload_n dX4_readCommand_87 rfl ?_
        refine z_aload_n dX4_readCommand_88 rfl ?_
        refine z_iload_n dX4_readCommand_89 rfl ?_
        refine z_iload dX4_readCommand_90 rfl ?_
        refine z_iload dX4_readCommand_92 rfl ?_
        refine z_callR (As := [.ref (ze g (10 + i)), .int (nI ((pN I 48 (pVp I p) 0).1)), .int (nI (0)), .int (nI (0))]) (rest := []) (b := h) (ci := 9) (v := none) (R2 := zR 1 0) dX4_readCommand_94 kV_RX4_83 rfl ⟨⟨by decide, by decide⟩, by decide, by decide⟩ (by omega) hc8.cell rfl rfl rfl (Nat.le_of_ble_eq_true rfl) rfl (c_X9_append (i := i) (x := (nI ((pN I 48 (pVp I p) 0).1))) (y := (nI (0))) (z := (nI (0))) h0 hc8 hi (by omega)) (fun w11 pw11 => ?_)
        obtain ⟨hf12, hn13⟩ := pw11
        have hc14 := hn7.fr hf12 (by omega)
        refine z_vret dX4_readCommand_97 rfl (by decide) (by decide) ?_
        have eB : pB2 I p = (0, (pA I p).2.1, (pA I p).2.2) := by unfold pB2 pB; rw [hpx, if_neg (by omega)]
        have eC : pC2 I p = (nI 0, (pB2 I p).2.1, (pB2 I p).2.2) := by unfold pC2 pC; rw [hpx, if_neg (by omega)]
        rw [eB] at eC
        have e : pCmd I p = ([(i, nI (pA I p).1, nI (pB2 I p).1, (pC2 I p).1)], (pC2 I p).2) := by unfold pCmd; rw [if_neg (by omega), hpx]
        rw [e, eC, eB]
        exact ⟨rfl, (((hf1.wk (by omega) (by omega)).tr (hf6.wk (by omega) (by omega))).tr (hf12.wk (by omega) (by omega))), hc14, hn13⟩
      · refine z_aload_n dX4_readCommand_53 rfl ?_
        refine z_bipush (v := nI 32) dX4_readCommand_54 rfl ?_
        refine z_callR (As := [.int (nI (32))]) (rest := []) (b := b) (ci := 4) (v := none) (R2 := zR 2 0) dX4_readCommand_56 kV_RX4_45 rfl ⟨⟨by decide, by decide⟩, by decide, by decide⟩ (by omega) hn7.2.1 rfl rfl rfl (Nat.le_of_ble_eq_true rfl) rfl (c_X4_expect h0 hn7 (by omega)) (fun w15 pw15 => ?_)
        obtain ⟨hf16, hn17⟩ := pw15
        have hc18 := hc8.fr hf16 (by omega)
        refine z_aload_n dX4_readCommand_59 rfl ?_
        refine z_getON dX4_readCommand_60 kH_RX4_76 rfl (h1.sgd hi) ?_
        refine z_if_eq_n (a := vsg i) (tgt := 73) dX4_readCommand_63 (by decide) (by omega) (fun h_63_19 => ?_) (fun h_63_19 => ?_)
        · refine z_iconst (v := nI 1) dX4_readCommand_73 rfl ?_
          refine z_istore (lv' := [(0, .ref (za g b)), (1, .ref (za g h)), (2, .ref (ze g (10 + i))), (3, .int (nI ((pN I 48 (pVp I p) 0).1))), (4, .int (nI (0))), (5, .int (nI (0))), (6, .int (nI (1)))]) dX4_readCommand_74 (by decide) rfl ?_
          refine z_iload dX4_readCommand_76 rfl ?_
          refine z_aload_n dX4_readCommand_78 rfl ?_
          refine z_bipush (v := nI 48) dX4_readCommand_79 rfl ?_
          refine z_callR (As := [.int (nI (48))]) (rest := [.int (nI (1))]) (b := b) (ci := 4) (v := some (.int (nI ((pN I 48 (pExp I 32 (pN I 48 (pVp I p) 0).2.1 (pN I 48 (pVp I p) 0).2.2).1 (pExp I 32 (pN I 48 (pVp I p) 0).2.1 (pN I 48 (pVp I p) 0).2.2).2).1)))) (R2 := zR 3 0) dX4_readCommand_81 kV_RX4_53 rfl ⟨⟨by decide, by decide⟩, by decide, by decide⟩ (by omega) hn17.2.1 rfl rfl rfl (Nat.le_of_ble_eq_true rfl) rfl (c_X4_readNumber h0 hn17 (by omega)) (fun w20 pw20 => ?_)
          obtain ⟨hf21, hn22⟩ := pw20
          have hc23 := hc18.fr hf21 (by omega)
          refine z_imul dX4_readCommand_84 ?_
          refine z_istore (lv' := [(0, .ref (za g b)), (1, .ref (za g h)), (2, .ref (ze g (10 + i))), (3, .int (nI ((pN I 48 (pVp I p) 0).1))), (4, .int (nI (0))), (5, .int (((nI (1))) * ((nI ((pN I 48 (pExp I 32 (pN I 48 (pVp I p) 0).2.1 (pN I 48 (pVp I p) 0).2.2).1 (pExp I 32 (pN I 48 (pVp I p) 0).2.1 (pN I 48 (pVp I p) 0).2.2).2).1))))), (6, .int (nI (1)))]) dX4_readCommand_85 (by decide) rfl ?_
          refine z_aload_n dX4_readCommand_87 rfl ?_
          refine z_aload_n dX4_readCommand_88 rfl ?_
          refine z_iload_n dX4_readCommand_89 rfl ?_
          refine z_iload dX4_readCommand_90 rfl ?_
          refine z_iload dX4_readCommand_92 rfl ?_
          refine z_callR (As := [.ref (ze g (10 + i)), .int (nI ((pN I 48 (pVp I p) 0).1)), .int (nI (0)), .int (((nI (1))) * ((nI ((pN I 48 (pExp I 32 (pN I 48 (pVp I p) 0).2.1 (pN I 48 (pVp I p) 0).2.2).1 (pExp I 32 (pN I 48 (pVp I p) 0).2.1 (pN I 48 (pVp I p) 0).2.2).2).1))))]) (rest := []) (b := h) (ci := 9) (v := none) (R2 := zR 1 0) dX4_readCommand_94 kV_RX4_83 rfl ⟨⟨by decide, by decide⟩, by decide, by decide⟩ (by omega) hc23.cell rfl rfl rfl (Nat.le_of_ble_eq_true rfl) rfl (c_X9_append (i := i) (x := (nI ((pN I 48 (pVp I p) 0).1))) (y := (nI (0))) (z := (((nI (1))) * ((nI ((pN I 48 (pExp I 32 (pN I 48 (pVp I p) 0).2.1 (pN I 48 (pVp I p) 0).2.2).1 (pExp I 32 (pN I 48 (pVp I p) 0).2.1 (pN I 48 (pVp I p) 0).2.2).2).1))))) h0 hc23 hi (by omega)) (fun w24 pw24 => ?_)
          obtain ⟨hf25, hn26⟩ := pw24
          have hc27 := hn22.fr hf25 (by omega)
          refine z_vret dX4_readCommand_97 rfl (by decide) (by decide) ?_
          have eB : pB2 I p = (0, (pA I p).2.1, (pA I p).2.2) := by unfold pB2 pB; rw [hpx, if_neg (by omega)]
          have eS : pS I i (pB2 I p).2.1 (pB2 I p).2.2 = (nI 1, pExp I 32 (pB2 I p).2.1 (pB2 I p).2.2) := by unfold pS; rw [if_neg (by omega)]
          have eC : pC2 I p = ((pS I i (pB2 I p).2.1 (pB2 I p).2.2).1 * nI (pN I 48 (pS I i (pB2 I p).2.1 (pB2 I p).2.2).2.1 (pS I i (pB2 I p).2.1 (pB2 I p).2.2).2.2).1, (pN I 48 (pS I i (pB2 I p).2.1 (pB2 I p).2.2).2.1 (pS I i (pB2 I p).2.1 (pB2 I p).2.2).2.2).2) := by unfold pC2 pC; rw [hpx, if_pos (by omega)]
          rw [eS] at eC
          rw [eB] at eC
          have e : pCmd I p = ([(i, nI (pA I p).1, nI (pB2 I p).1, (pC2 I p).1)], (pC2 I p).2) := by unfold pCmd; rw [if_neg (by omega), hpx]
          rw [e, eC, eB]
          exact ⟨rfl, (((((hf1.wk (by omega) (by omega)).tr (hf6.wk (by omega) (by omega))).tr (hf16.wk (by omega) (by omega))).tr (hf21.wk (by omega) (by omega))).tr (hf25.wk (by omega) (by omega))), hc27, hn26⟩
        · refine z_aload_n dX4_readCommand_66 rfl ?_
          refine z_callR (As := []) (rest := []) (b := b) (ci := 4) (v := some (.int ((pSign I (pExp I 32 (pN I 48 (pVp I p) 0).2.1 (pN I 48 (pVp I p) 0).2.2).1 (pExp I 32 (pN I 48 (pVp I p) 0).2.1 (pN I 48 (pVp I p) 0).2.2).2).1))) (R2 := zR 3 0) dX4_readCommand_67 kV_RX4_79 rfl ⟨⟨by decide, by decide⟩, by decide, by decide⟩ (by omega) hn17.2.1 rfl rfl rfl (Nat.le_of_ble_eq_true rfl) rfl (c_X4_readSign h0 hn17) (fun w28 pw28 => ?_)
          obtain ⟨hf29, hn30⟩ := pw28
          have hc31 := hc18.fr hf29 (by omega)
          refine z_goto (tgt := 74) dX4_readCommand_70 (by decide) ?_
          refine z_istore (lv' := [(0, .ref (za g b)), (1, .ref (za g h)), (2, .ref (ze g (10 + i))), (3, .int (nI ((pN I 48 (pVp I p) 0).1))), (4, .int (nI (0))), (5, .int (nI (0))), (6, .int ((pSign I (pExp I 32 (pN I 48 (pVp I p) 0).2.1 (pN I 48 (pVp I p) 0).2.2).1 (pExp I 32 (pN I 48 (pVp I p) 0).2.1 (pN I 48 (pVp I p) 0).2.2).2).1))]) dX4_readCommand_74 (by decide) rfl ?_
          refine z_iload dX4_readCommand_76 rfl ?_
          refine z_aload_n dX4_readCommand_78 rfl ?_
          refine z_bipush (v := nI 48) dX4_readCommand_79 rfl ?_
          refine z_callR (As := [.int (nI (48))]) (rest := [.int ((pSign I (pExp I 32 (pN I 48 (pVp I p) 0).2.1 (pN I 48 (pVp I p) 0).2.2).1 (pExp I 32 (pN I 48 (pVp I p) 0).2.1 (pN I 48 (pVp I p) 0).2.2).2).1)]) (b := b) (ci := 4) (v := some (.int (nI ((pN I 48 (pSign I (pExp I 32 (pN I 48 (pVp I p) 0).2.1 (pN I 48 (pVp I p) 0).2.2).1 (pExp I 32 (pN I 48 (pVp I p) 0).2.1 (pN I 48 (pVp I p) 0).2.2).2).2.1 (pSign I (pExp I 32 (pN I 48 (pVp I p) 0).2.1 (pN I 48 (pVp I p) 0).2.2).1 (pExp I 32 (pN I 48 (pVp I p) 0).2.1 (pN I 48 (pVp I p) 0).2.2).2).2.2).1)))) (R2 := zR 3 0) dX4_readCommand_81 kV_RX4_53 rfl ⟨⟨by decide, by decide⟩, by decide, by decide⟩ (by omega) hn30.2.1 rfl rfl rfl (Nat.le_of_ble_eq_true rfl) rfl (c_X4_readNumber h0 hn30 (by omega)) (fun w32 pw32 => ?_)
          obtain ⟨hf33, hn34⟩ := pw32
          have hc35 := hc31.fr hf33 (by omega)
          refine z_imul dX4_readCommand_84 ?_
          refine z_istore (lv' := [(0, .ref (za g b)), (1, .ref (za g h)), (2, .ref (ze g (10 + i))), (3, .int (nI ((pN I 48 (pVp I p) 0).1))), (4, .int (nI (0))), (5, .int ((((pSign I (pExp I 32 (pN I 48 (pVp I p) 0).2.1 (pN I 48 (pVp I p) 0).2.2).1 (pExp I 32 (pN I 48 (pVp I p) 0).2.1 (pN I 48 (pVp I p) 0).2.2).2).1)) * ((nI ((pN I 48 (pSign I (pExp I 32 (pN I 48 (pVp I p) 0).2.1 (pN I 48 (pVp I p) 0).2.2).1 (pExp I 32 (pN I 48 (pVp I p) 0).2.1 (pN I 48 (pVp I p) 0).2.2).2).2.1 (pSign I (pExp I 32 (pN I 48 (pVp I p) 0).2.1 (pN I 48 (pVp I p) 0).2.2).1 (pExp I 32 (pN I 48 (pVp I p) 0).2.1 (pN I 48 (pVp I p) 0).2.2).2).2.2).1))))), (6, .int ((pSign I (pExp I 32 (pN I 48 (pVp I p) 0).2.1 (pN I 48 (pVp I p) 0).2.2).1 (pExp I 32 (pN I 48 (pVp I p) 0).2.1 (pN I 48 (pVp I p) 0).2.2).2).1))]) dX4_readCommand_85 (by decide) rfl ?_
          refine z_aload_n dX4_readCommand_87 rfl ?_
          refine z_aload_n dX4_readCommand_88 rfl ?_
          refine z_iload_n dX4_readCommand_89 rfl ?_
          refine z_iload dX4_readCommand_90 rfl ?_
          refine z_iload dX4_readCommand_92 rfl ?_
          refine z_callR (As := [.ref (ze g (10 + i)), .int (nI ((pN I 48 (pVp I p) 0).1)), .int (nI (0)), .int ((((pSign I (pExp I 32 (pN I 48 (pVp I p) 0).2.1 (pN I 48 (pVp I p) 0).2.2).1 (pExp I 32 (pN I 48 (pVp I p) 0).2.1 (pN I 48 (pVp I p) 0).2.2).2).1)) * ((nI ((pN I 48 (pSign I (pExp I 32 (pN I 48 (pVp I p) 0).2.1 (pN I 48 (pVp I p) 0).2.2).1 (pExp I 32 (pN I 48 (pVp I p) 0).2.1 (pN I 48 (pVp I p) 0).2.2).2).2.1 (pSign I (pExp I 32 (pN I 48 (pVp I p) 0).2.1 (pN I 48 (pVp I p) 0).2.2).1 (pExp I 32 (pN I 48 (pVp I p) 0).2.1 (pN I 48 (pVp I p) 0).2.2).2).2.2).1))))]) (rest := []) (b := h) (ci := 9) (v := none) (R2 := zR 1 0) dX4_readCommand_94 kV_RX4_83 rfl ⟨⟨by decide, by decide⟩, by decide, by decide⟩ (by omega) hc35.cell rfl rfl rfl (Nat.le_of_ble_eq_true rfl) rfl (c_X9_append (i := i) (x := (nI ((pN I 48 (pVp I p) 0).1))) (y := (nI (0))) (z := ((((pSign I (pExp I 32 (pN I 48 (pVp I p) 0).2.1 (pN I 48 (pVp I p) 0).2.2).1 (pExp I 32 (pN I 48 (pVp I p) 0).2.1 (pN I 48 (pVp I p) 0).2.2).2).1)) * ((nI ((pN I 48 (pSign I (pExp I 32 (pN I 48 (pVp I p) 0).2.1 (pN I 48 (pVp I p) 0).2.2).1 (pExp I 32 (pN I 48 (pVp I p) 0).2.1 (pN I 48 (pVp I p) 0).2.2).2).2.1 (pSign I (pExp I 32 (pN I 48 (pVp I p) 0).2.1 (pN I 48 (pVp I p) 0).2.2).1 (pExp I 32 (pN I 48 (pVp I p) 0).2.1 (pN I 48 (pVp I p) 0).2.2).2).2.2).1))))) h0 hc35 hi (by omega)) (fun w36 pw36 => ?_)
          obtain ⟨hf37, hn38⟩ := pw36
          have hc39 := hn34.fr hf37 (by omega)
          refine z_vret dX4_readCommand_97 rfl (by decide) (by decide) ?_
          have eB : pB2 I p = (0, (pA I p).2.1, (pA I p).2.2) := by unfold pB2 pB; rw [hpx, if_neg (by omega)]
          have eS : pS I i (pB2 I p).2.1 (pB2 I p).2.2 = pSign I (pExp I 32 (pB2 I p).2.1 (pB2 I p).2.2).1 (pExp I 32 (pB2 I p).2.1 (pB2 I p).2.2).2 := by unfold pS; rw [if_pos (by omega)]
          have eC : pC2 I p = ((pS I i (pB2 I p).2.1 (pB2 I p).2.2).1 * nI (pN I 48 (pS I i (pB2 I p).2.1 (pB2 I p).2.2).2.1 (pS I i (pB2 I p).2.1 (pB2 I p).2.2).2.2).1, (pN I 48 (pS I i (pB2 I p).2.1 (pB2 I p).2.2).2.1 (pS I i (pB2 I p).2.1 (pB2 I p).2.2).2.2).2) := by unfold pC2 pC; rw [hpx, if_pos (by omega)]
          rw [eS] at eC
          rw [eB] at eC
          have e : pCmd I p = ([(i, nI (pA I p).1, nI (pB2 I p).1, (pC2 I p).1)], (pC2 I p).2) := by unfold pCmd; rw [if_neg (by omega), hpx]
          rw [e, eC, eB]
          exact ⟨rfl, ((((((hf1.wk (by omega) (by omega)).tr (hf6.wk (by omega) (by omega))).tr (hf16.wk (by omega) (by omega))).tr (hf29.wk (by omega) (by omega))).tr (hf33.wk (by omega) (by omega))).tr (hf37.wk (by omega) (by omega))), hc39, hn38⟩
    · refine z_aload_n dX4_readCommand_28 rfl ?_
      refine z_bipush (v := nI 32) dX4_readCommand_29 rfl ?_
      refine z_callR (As := [.int (nI (32))]) (rest := []) (b := b) (ci := 4) (v := none) (R2 := zR 2 0) dX4_readCommand_31 kV_RX4_45 rfl ⟨⟨by decide, by decide⟩, by decide, by decide⟩ (by omega) hn7.2.1 rfl rfl rfl (Nat.le_of_ble_eq_true rfl) rfl (c_X4_expect h0 hn7 (by omega)) (fun w40 pw40 => ?_)
      obtain ⟨hf41, hn42⟩ := pw40
      have hc43 := hc8.fr hf41 (by omega)
      refine z_aload_n dX4_readCommand_34 rfl ?_
      refine z_bipush (v := nI 48) dX4_readCommand_35 rfl ?_
      refine z_callR (As := [.int (nI (48))]) (rest := []) (b := b) (ci := 4) (v := some (.int (nI ((pN I 48 (pExp I 32 (pN I 48 (pVp I p) 0).2.1 (pN I 48 (pVp I p) 0).2.2).1 (pExp I 32 (pN I 48 (pVp I p) 0).2.1 (pN I 48 (pVp I p) 0).2.2).2).1)))) (R2 := zR 3 0) dX4_readCommand_37 kV_RX4_53 rfl ⟨⟨by decide, by decide⟩, by decide, by decide⟩ (by omega) hn42.2.1 rfl rfl rfl (Nat.le_of_ble_eq_true rfl) rfl (c_X4_readNumber h0 hn42 (by omega)) (fun w44 pw44 => ?_)
      obtain ⟨hf45, hn46⟩ := pw44
      have hc47 := hc43.fr hf45 (by omega)
      refine z_istore (lv' := [(0, .ref (za g b)), (1, .ref (za g h)), (2, .ref (ze g (10 + i))), (3, .int (nI ((pN I 48 (pVp I p) 0).1))), (4, .int (nI ((pN I 48 (pExp I 32 (pN I 48 (pVp I p) 0).2.1 (pN I 48 (pVp I p) 0).2.2).1 (pExp I 32 (pN I 48 (pVp I p) 0).2.1 (pN I 48 (pVp I p) 0).2.2).2).1)))]) dX4_readCommand_40 (by decide) rfl ?_
      refine z_iconst (v := nI 0) dX4_readCommand_42 rfl ?_
      refine z_istore (lv' := [(0, .ref (za g b)), (1, .ref (za g h)), (2, .ref (ze g (10 + i))), (3, .int (nI ((pN I 48 (pVp I p) 0).1))), (4, .int (nI ((pN I 48 (pExp I 32 (pN I 48 (pVp I p) 0).2.1 (pN I 48 (pVp I p) 0).2.2).1 (pExp I 32 (pN I 48 (pVp I p) 0).2.1 (pN I 48 (pVp I p) 0).2.2).2).1))), (5, .int (nI (0)))]) dX4_readCommand_43 (by decide) rfl ?_
      refine z_aload_n dX4_readCommand_45 rfl ?_
      refine z_getON dX4_readCommand_46 kH_RX4_71 rfl (h1.num hi) ?_
      refine z_iconst (v := nI 2) dX4_readCommand_49 rfl ?_
      refine z_icmp_le_n (a := vnum i) (b := 2) (tgt := 87) dX4_readCommand_50 (by decide) (by omega) (by omega) (fun h_50_48 => ?_) (fun h_50_48 => ?_)
      · refine z_aload_n dX4_readCommand_87 rfl ?_
        refine z_aload_n dX4_readCommand_88 rfl ?_
        refine z_iload_n dX4_readCommand_89 rfl ?_
        refine z_iload dX4_readCommand_90 rfl ?_
        refine z_iload dX4_readCommand_92 rfl ?_
        refine z_callR (As := [.ref (ze g (10 + i)), .int (nI ((pN I 48 (pVp I p) 0).1)), .int (nI ((pN I 48 (pExp I 32 (pN I 48 (pVp I p) 0).2.1 (pN I 48 (pVp I p) 0).2.2).1 (pExp I 32 (pN I 48 (pVp I p) 0).2.1 (pN I 48 (pVp I p) 0).2.2).2).1)), .int (nI (0))]) (rest := []) (b := h) (ci := 9) (v := none) (R2 := zR 1 0) dX4_readCommand_94 kV_RX4_83 rfl ⟨⟨by decide, by decide⟩, by decide, by decide⟩ (by omega) hc47.cell rfl rfl rfl (Nat.le_of_ble_eq_true rfl) rfl (c_X9_append (i := i) (x := (nI ((pN I 48 (pVp I p) 0).1))) (y := (nI ((pN I 48 (pExp I 32 (pN I 48 (pVp I p) 0).2.1 (pN I 48 (pVp I p) 0).2.2).1 (pExp I 32 (pN I 48 (pVp I p) 0).2.1 (pN I 48 (pVp I p) 0).2.2).2).1))) (z := (nI (0))) h0 hc47 hi (by omega)) (fun w49 pw49 => ?_)
        obtain ⟨hf50, hn51⟩ := pw49
        have hc52 := hn46.fr hf50 (by omega)
        refine z_vret dX4_readCommand_97 rfl (by decide) (by decide) ?_
        have eB : pB2 I p = pN I 48 (pExp I 32 (pA I p).2.1 (pA I p).2.2).1 (pExp I 32 (pA I p).2.1 (pA I p).2.2).2 := by unfold pB2 pB; rw [hpx, if_pos (by omega)]
        have eC : pC2 I p = (nI 0, (pB2 I p).2.1, (pB2 I p).2.2) := by unfold pC2 pC; rw [hpx, if_neg (by omega)]
        rw [eB] at eC
        have e : pCmd I p = ([(i, nI (pA I p).1, nI (pB2 I p).1, (pC2 I p).1)], (pC2 I p).2) := by unfold pCmd; rw [if_neg (by omega), hpx]
        rw [e, eC, eB]
        exact ⟨rfl, (((((hf1.wk (by omega) (by omega)).tr (hf6.wk (by omega) (by omega))).tr (hf41.wk (by omega) (by omega))).tr (hf45.wk (by omega) (by omega))).tr (hf50.wk (by omega) (by omega))), hc52, hn51⟩
      · refine z_aload_n dX4_readCommand_53 rfl ?_
        refine z_bipush (v := nI 32) dX4_readCommand_54 rfl ?_
        refine z_callR (As := [.int (nI (32))]) (rest := []) (b := b) (ci := 4) (v := none) (R2 := zR 2 0) dX4_readCommand_56 kV_RX4_45 rfl ⟨⟨by decide, by decide⟩, by decide, by decide⟩ (by omega) hn46.2.1 rfl rfl rfl (Nat.le_of_ble_eq_true rfl) rfl (c_X4_expect h0 hn46 (by omega)) (fun w53 pw53 => ?_)
        obtain ⟨hf54, hn55⟩ := pw53
        have hc56 := hc47.fr hf54 (by omega)
        refine z_aload_n dX4_readCommand_59 rfl ?_
        refine z_getON dX4_readCommand_60 kH_RX4_76 rfl (h1.sgd hi) ?_
        refine z_if_eq_n (a := vsg i) (tgt := 73) dX4_readCommand_63 (by decide) (by omega) (fun h_63_57 => ?_) (fun h_63_57 => ?_)
        · refine z_iconst (v := nI 1) dX4_readCommand_73 rfl ?_
          refine z_istore (lv' := [(0, .ref (za g b)), (1, .ref (za g h)), (2, .ref (ze g (10 + i))), (3, .int (nI ((pN I 48 (pVp I p) 0).1))), (4, .int (nI ((pN I 48 (pExp I 32 (pN I 48 (pVp I p) 0).2.1 (pN I 48 (pVp I p) 0).2.2).1 (pExp I 32 (pN I 48 (pVp I p) 0).2.1 (pN I 48 (pVp I p) 0).2.2).2).1))), (5, .int (nI (0))), (6, .int (nI (1)))]) dX4_readCommand_74 (by decide) rfl ?_
          refine z_iload dX4_readCommand_76 rfl ?_
          refine z_aload_n dX4_readCommand_78 rfl ?_
          refine z_bipush (v := nI 48) dX4_readCommand_79 rfl ?_
          refine z_callR (As := [.int (nI (48))]) (rest := [.int (nI (1))]) (b := b) (ci := 4) (v := some (.int (nI ((pN I 48 (pExp I 32 (pN I 48 (pExp I 32 (pN I 48 (pVp I p) 0).2.1 (pN I 48 (pVp I p) 0).2.2).1 (pExp I 32 (pN I 48 (pVp I p) 0).2.1 (pN I 48 (pVp I p) 0).2.2).2).2.1 (pN I 48 (pExp I 32 (pN I 48 (pVp I p) 0).2.1 (pN I 48 (pVp I p) 0).2.2).1 (pExp I 32 (pN I 48 (pVp I p) 0).2.1 (pN I 48 (pVp I p) 0).2.2).2).2.2).1 (pExp I 32 (pN I 48 (pExp I 32 (pN I 48 (pVp I p) 0).2.1 (pN I 48 (pVp I p) 0).2.2).1 (pExp I 32 (pN I 48 (pVp I p) 0).2.1 (pN I 48 (pVp I p) 0).2.2).2).2.1 (pN I 48 (pExp I 32 (pN I 48 (pVp I p) 0).2.1 (pN I 48 (pVp I p) 0).2.2).1 (pExp I 32 (pN I 48 (pVp I p) 0).2.1 (pN I 48 (pVp I p) 0).2.2).2).2.2).2).1)))) (R2 := zR 3 0) dX4_readCommand_81 kV_RX4_53 rfl ⟨⟨by decide, by decide⟩, by decide, by decide⟩ (by omega) hn55.2.1 rfl rfl rfl (Nat.le_of_ble_eq_true rfl) rfl (c_X4_readNumber h0 hn55 (by omega)) (fun w58 pw58 => ?_)
          obtain ⟨hf59, hn60⟩ := pw58
          have hc61 := hc56.fr hf59 (by omega)
          refine z_imul dX4_readCommand_84 ?_
          refine z_istore (lv' := [(0, .ref (za g b)), (1, .ref (za g h)), (2, .ref (ze g (10 + i))), (3, .int (nI ((pN I 48 (pVp I p) 0).1))), (4, .int (nI ((pN I 48 (pExp I 32 (pN I 48 (pVp I p) 0).2.1 (pN I 48 (pVp I p) 0).2.2).1 (pExp I 32 (pN I 48 (pVp I p) 0).2.1 (pN I 48 (pVp I p) 0).2.2).2).1))), (5, .int (((nI (1))) * ((nI ((pN I 48 (pExp I 32 (pN I 48 (pExp I 32 (pN I 48 (pVp I p) 0).2.1 (pN I 48 (pVp I p) 0).2.2).1 (pExp I 32 (pN I 48 (pVp I p) 0).2.1 (pN I 48 (pVp I p) 0).2.2).2).2.1 (pN I 48 (pExp I 32 (pN I 48 (pVp I p) 0).2.1 (pN I 48 (pVp I p) 0).2.2).1 (pExp I 32 (pN I 48 (pVp I p) 0).2.1 (pN I 48 (pVp I p) 0).2.2).2).2.2).1 (pExp I 32 (pN I 48 (pExp I 32 (pN I 48 (pVp I p) 0).2.1 (pN I 48 (pVp I p) 0).2.2).1 (pExp I 32 (pN I 48 (pVp I p) 0).2.1 (pN I 48 (pVp I p) 0).2.2).2).2.1 (pN I 48 (pExp I 32 (pN I 48 (pVp I p) 0).2.1 (pN I 48 (pVp I p) 0).2.2).1 (pExp I 32 (pN I 48 (pVp I p) 0).2.1 (pN I 48 (pVp I p) 0).2.2).2).2.2).2).1))))), (6, .int (nI (1)))]) dX4_readCommand_85 (by decide) rfl ?_
          refine z_aload_n dX4_readCommand_87 rfl ?_
          refine z_aload_n dX4_readCommand_88 rfl ?_
          refine z_iload_n dX4_readCommand_89 rfl ?_
          refine z_iload dX4_readCommand_90 rfl ?_
          refine z_iload dX4_readCommand_92 rfl ?_
          refine z_callR (As := [.ref (ze g (10 + i)), .int (nI ((pN I 48 (pVp I p) 0).1)), .int (nI ((pN I 48 (pExp I 32 (pN I 48 (pVp I p) 0).2.1 (pN I 48 (pVp I p) 0).2.2).1 (pExp I 32 (pN I 48 (pVp I p) 0).2.1 (pN I 48 (pVp I p) 0).2.2).2).1)), .int (((nI (1))) * ((nI ((pN I 48 (pExp I 32 (pN I 48 (pExp I 32 (pN I 48 (pVp I p) 0).2.1 (pN I 48 (pVp I p) 0).2.2).1 (pExp I 32 (pN I 48 (pVp I p) 0).2.1 (pN I 48 (pVp I p) 0).2.2).2).2.1 (pN I 48 (pExp I 32 (pN I 48 (pVp I p) 0).2.1 (pN I 48 (pVp I p) 0).2.2).1 (pExp I 32 (pN I 48 (pVp I p) 0).2.1 (pN I 48 (pVp I p) 0).2.2).2).2.2).1 (pExp I 32 (pN I 48 (pExp I 32 (pN I 48 (pVp I p) 0).2.1 (pN I 48 (pVp I p) 0).2.2).1 (pExp I 32 (pN I 48 (pVp I p) 0).2.1 (pN I 48 (pVp I p) 0).2.2).2).2.1 (pN I 48 (pExp I 32 (pN I 48 (pVp I p) 0).2.1 (pN I 48 (pVp I p) 0).2.2).1 (pExp I 32 (pN I 48 (pVp I p) 0).2.1 (pN I 48 (pVp I p) 0).2.2).2).2.2).2).1))))]) (rest := []) (b := h) (ci := 9) (v := none) (R2 := zR 1 0) dX4_readCommand_94 kV_RX4_83 rfl ⟨⟨by decide, by decide⟩, by decide, by decide⟩ (by omega) hc61.cell rfl rfl rfl (Nat.le_of_ble_eq_true rfl) rfl (c_X9_append (i := i) (x := (nI ((pN I 48 (pVp I p) 0).1))) (y := (nI ((pN I 48 (pExp I 32 (pN I 48 (pVp I p) 0).2.1 (pN I 48 (pVp I p) 0).2.2).1 (pExp I 32 (pN I 48 (pVp I p) 0).2.1 (pN I 48 (pVp I p) 0).2.2).2).1))) (z := (((nI (1))) * ((nI ((pN I 48 (pExp I 32 (pN I 48 (pExp I 32 (pN I 48 (pVp I p) 0).2.1 (pN I 48 (pVp I p) 0).2.2).1 (pExp I 32 (pN I 48 (pVp I p) 0).2.1 (pN I 48 (pVp I p) 0).2.2).2).2.1 (pN I 48 (pExp I 32 (pN I 48 (pVp I p) 0).2.1 (pN I 48 (pVp I p) 0).2.2).1 (pExp I 32 (pN I 48 (pVp I p) 0).2.1 (pN I 48 (pVp I p) 0).2.2).2).2.2).1 (pExp I 32 (pN I 48 (pExp I 32 (pN I 48 (pVp I p) 0).2.1 (pN I 48 (pVp I p) 0).2.2).1 (pExp I 32 (pN I 48 (pVp I p) 0).2.1 (pN I 48 (pVp I p) 0).2.2).2).2.1 (pN I 48 (pExp I 32 (pN I 48 (pVp I p) 0).2.1 (pN I 48 (pVp I p) 0).2.2).1 (pExp I 32 (pN I 48 (pVp I p) 0).2.1 (pN I 48 (pVp I p) 0).2.2).2).2.2).2).1))))) h0 hc61 hi (by omega)) (fun w62 pw62 => ?_)
          obtain ⟨hf63, hn64⟩ := pw62
          have hc65 := hn60.fr hf63 (by omega)
          refine z_vret dX4_readCommand_97 rfl (by decide) (by decide) ?_
          have eB : pB2 I p = pN I 48 (pExp I 32 (pA I p).2.1 (pA I p).2.2).1 (pExp I 32 (pA I p).2.1 (pA I p).2.2).2 := by unfold pB2 pB; rw [hpx, if_pos (by omega)]
          have eS : pS I i (pB2 I p).2.1 (pB2 I p).2.2 = (nI 1, pExp I 32 (pB2 I p).2.1 (pB2 I p).2.2) := by unfold pS; rw [if_neg (by omega)]
          have eC : pC2 I p = ((pS I i (pB2 I p).2.1 (pB2 I p).2.2).1 * nI (pN I 48 (pS I i (pB2 I p).2.1 (pB2 I p).2.2).2.1 (pS I i (pB2 I p).2.1 (pB2 I p).2.2).2.2).1, (pN I 48 (pS I i (pB2 I p).2.1 (pB2 I p).2.2).2.1 (pS I i (pB2 I p).2.1 (pB2 I p).2.2).2.2).2) := by unfold pC2 pC; rw [hpx, if_pos (by omega)]
          rw [eS] at eC
          rw [eB] at eC
          have e : pCmd I p = ([(i, nI (pA I p).1, nI (pB2 I p).1, (pC2 I p).1)], (pC2 I p).2) := by unfold pCmd; rw [if_neg (by omega), hpx]
          rw [e, eC, eB]
          exact ⟨rfl, (((((((hf1.wk (by omega) (by omega)).tr (hf6.wk (by omega) (by omega))).tr (hf41.wk (by omega) (by omega))).tr (hf45.wk (by omega) (by omega))).tr (hf54.wk (by omega) (by omega))).tr (hf59.wk (by omega) (by omega))).tr (hf63.wk (by omega) (by omega))), hc65, hn64⟩
        · refine z_aload_n dX4_readCommand_66 rfl ?_
          refine z_callR (As := []) (rest := []) (b := b) (ci := 4) (v := some (.int ((pSign I (pExp I 32 (pN I 48 (pExp I 32 (pN I 48 (pVp I p) 0).2.1 (pN I 48 (pVp I p) 0).2.2).1 (pExp I 32 (pN I 48 (pVp I p) 0).2.1 (pN I 48 (pVp I p) 0).2.2).2).2.1 (pN I 48 (pExp I 32 (pN I 48 (pVp I p) 0).2.1 (pN I 48 (pVp I p) 0).2.2).1 (pExp I 32 (pN I 48 (pVp I p) 0).2.1 (pN I 48 (pVp I p) 0).2.2).2).2.2).1 (pExp I 32 (pN I 48 (pExp I 32 (pN I 48 (pVp I p) 0).2.1 (pN I 48 (pVp I p) 0).2.2).1 (pExp I 32 (pN I 48 (pVp I p) 0).2.1 (pN I 48 (pVp I p) 0).2.2).2).2.1 (pN I 48 (pExp I 32 (pN I 48 (pVp I p) 0).2.1 (pN I 48 (pVp I p) 0).2.2).1 (pExp I 32 (pN I 48 (pVp I p) 0).2.1 (pN I 48 (pVp I p) 0).2.2).2).2.2).2).1))) (R2 := zR 3 0) dX4_readCommand_67 kV_RX4_79 rfl ⟨⟨by decide, by decide⟩, by decide, by decide⟩ (by omega) hn55.2.1 rfl rfl rfl (Nat.le_of_ble_eq_true rfl) rfl (c_X4_readSign h0 hn55) (fun w66 pw66 => ?_)
          obtain ⟨hf67, hn68⟩ := pw66
          have hc69 := hc56.fr hf67 (by omega)
          refine z_goto (tgt := 74) dX4_readCommand_70 (by decide) ?_
          refine z_istore (lv' := [(0, .ref (za g b)), (1, .ref (za g h)), (2, .ref (ze g (10 + i))), (3, .int (nI ((pN I 48 (pVp I p) 0).1))), (4, .int (nI ((pN I 48 (pExp I 32 (pN I 48 (pVp I p) 0).2.1 (pN I 48 (pVp I p) 0).2.2).1 (pExp I 32 (pN I 48 (pVp I p) 0).2.1 (pN I 48 (pVp I p) 0).2.2).2).1))), (5, .int (nI (0))), (6, .int ((pSign I (pExp I 32 (pN I 48 (pExp I 32 (pN I 48 (pVp I p) 0).2.1 (pN I 48 (pVp I p) 0).2.2).1 (pExp I 32 (pN I 48 (pVp I p) 0).2.1 (pN I 48 (pVp I p) 0).2.2).2).2.1 (pN I 48 (pExp I 32 (pN I 48 (pVp I p) 0).2.1 (pN I 48 (pVp I p) 0).2.2).1 (pExp I 32 (pN I 48 (pVp I p) 0).2.1 (pN I 48 (pVp I p) 0).2.2).2).2.2).1 (pExp I 32 (pN I 48 (pExp I 32 (pN I 48 (pVp I p) 0).2.1 (pN I 48 (pVp I p) 0).2.2).1 (pExp I 32 (pN I 48 (pVp I p) 0).2.1 (pN I 48 (pVp I p) 0).2.2).2).2.1 (pN I 48 (pExp I 32 (pN I 48 (pVp I p) 0).2.1 (pN I 48 (pVp I p) 0).2.2).1 (pExp I 32 (pN I 48 (pVp I p) 0).2.1 (pN I 48 (pVp I p) 0).2.2).2).2.2).2).1))]) dX4_readCommand_74 (by decide) rfl ?_
          refine z_iload dX4_readCommand_76 rfl ?_
          refine z_aload_n dX4_readCommand_78 rfl ?_
          refine z_bipush (v := nI 48) dX4_readCommand_79 rfl ?_
          refine z_callR (As := [.int (nI (48))]) (rest := [.int ((pSign I (pExp I 32 (pN I 48 (pExp I 32 (pN I 48 (pVp I p) 0).2.1 (pN I 48 (pVp I p) 0).2.2).1 (pExp I 32 (pN I 48 (pVp I p) 0).2.1 (pN I 48 (pVp I p) 0).2.2).2).2.1 (pN I 48 (pExp I 32 (pN I 48 (pVp I p) 0).2.1 (pN I 48 (pVp I p) 0).2.2).1 (pExp I 32 (pN I 48 (pVp I p) 0).2.1 (pN I 48 (pVp I p) 0).2.2).2).2.2).1 (pExp I 32 (pN I 48 (pExp I 32 (pN I 48 (pVp I p) 0).2.1 (pN I 48 (pVp I p) 0).2.2).1 (pExp I 32 (pN I 48 (pVp I p) 0).2.1 (pN I 48 (pVp I p) 0).2.2).2).2.1 (pN I 48 (pExp I 32 (pN I 48 (pVp I p) 0).2.1 (pN I 48 (pVp I p) 0).2.2).1 (pExp I 32 (pN I 48 (pVp I p) 0).2.1 (pN I 48 (pVp I p) 0).2.2).2).2.2).2).1)]) (b := b) (ci := 4) (v := some (.int (nI ((pN I 48 (pSign I (pExp I 32 (pN I 48 (pExp I 32 (pN I 48 (pVp I p) 0).2.1 (pN I 48 (pVp I p) 0).2.2).1 (pExp I 32 (pN I 48 (pVp I p) 0).2.1 (pN I 48 (pVp I p) 0).2.2).2).2.1 (pN I 48 (pExp I 32 (pN I 48 (pVp I p) 0).2.1 (pN I 48 (pVp I p) 0).2.2).1 (pExp I 32 (pN I 48 (pVp I p) 0).2.1 (pN I 48 (pVp I p) 0).2.2).2).2.2).1 (pExp I 32 (pN I 48 (pExp I 32 (pN I 48 (pVp I p) 0).2.1 (pN I 48 (pVp I p) 0).2.2).1 (pExp I 32 (pN I 48 (pVp I p) 0).2.1 (pN I 48 (pVp I p) 0).2.2).2).2.1 (pN I 48 (pExp I 32 (pN I 48 (pVp I p) 0).2.1 (pN I 48 (pVp I p) 0).2.2).1 (pExp I 32 (pN I 48 (pVp I p) 0).2.1 (pN I 48 (pVp I p) 0).2.2).2).2.2).2).2.1 (pSign I (pExp I 32 (pN I 48 (pExp I 32 (pN I 48 (pVp I p) 0).2.1 (pN I 48 (pVp I p) 0).2.2).1 (pExp I 32 (pN I 48 (pVp I p) 0).2.1 (pN I 48 (pVp I p) 0).2.2).2).2.1 (pN I 48 (pExp I 32 (pN I 48 (pVp I p) 0).2.1 (pN I 48 (pVp I p) 0).2.2).1 (pExp I 32 (pN I 48 (pVp I p) 0).2.1 (pN I 48 (pVp I p) 0).2.2).2).2.2).1 (pExp I 32 (pN I 48 (pExp I 32 (pN I 48 (pVp I p) 0).2.1 (pN I 48 (pVp I p) 0).2.2).1 (pExp I 32 (pN I 48 (pVp I p) 0).2.1 (pN I 48 (pVp I p) 0).2.2).2).2.1 (pN I 48 (pExp I 32 (pN I 48 (pVp I p) 0).2.1 (pN I 48 (pVp I p) 0).2.2).1 (pExp I 32 (pN I 48 (pVp I p) 0).2.1 (pN I 48 (pVp I p) 0).2.2).2).2.2).2).2.2).1)))) (R2 := zR 3 0) dX4_readCommand_81 kV_RX4_53 rfl ⟨⟨by decide, by decide⟩, by decide, by decide⟩ (by omega) hn68.2.1 rfl rfl rfl (Nat.le_of_ble_eq_true rfl) rfl (c_X4_readNumber h0 hn68 (by omega)) (fun w70 pw70 => ?_)
          obtain ⟨hf71, hn72⟩ := pw70
          have hc73 := hc69.fr hf71 (by omega)
          refine z_imul dX4_readCommand_84 ?_
          refine z_istore (lv' := [(0, .ref (za g b)), (1, .ref (za g h)), (2, .ref (ze g (10 + i))), (3, .int (nI ((pN I 48 (pVp I p) 0).1))), (4, .int (nI ((pN I 48 (pExp I 32 (pN I 48 (pVp I p) 0).2.1 (pN I 48 (pVp I p) 0).2.2).1 (pExp I 32 (pN I 48 (pVp I p) 0).2.1 (pN I 48 (pVp I p) 0).2.2).2).1))), (5, .int ((((pSign I (pExp I 32 (pN I 48 (pExp I 32 (pN I 48 (pVp I p) 0).2.1 (pN I 48 (pVp I p) 0).2.2).1 (pExp I 32 (pN I 48 (pVp I p) 0).2.1 (pN I 48 (pVp I p) 0).2.2).2).2.1 (pN I 48 (pExp I 32 (pN I 48 (pVp I p) 0).2.1 (pN I 48 (pVp I p) 0).2.2).1 (pExp I 32 (pN I 48 (pVp I p) 0).2.1 (pN I 48 (pVp I p) 0).2.2).2).2.2).1 (pExp I 32 (pN I 48 (pExp I 32 (pN I 48 (pVp I p) 0).2.1 (pN I 48 (pVp I p) 0).2.2).1 (pExp I 32 (pN I 48 (pVp I p) 0).2.1 (pN I 48 (pVp I p) 0).2.2).2).2.1 (pN I 48 (pExp I 32 (pN I 48 (pVp I p) 0).2.1 (pN I 48 (pVp I p) 0).2.2).1 (pExp I 32 (pN I 48 (pVp I p) 0).2.1 (pN I 48 (pVp I p) 0).2.2).2).2.2).2).1)) * ((nI ((pN I 48 (pSign I (pExp I 32 (pN I 48 (pExp I 32 (pN I 48 (pVp I p) 0).2.1 (pN I 48 (pVp I p) 0).2.2).1 (pExp I 32 (pN I 48 (pVp I p) 0).2.1 (pN I 48 (pVp I p) 0).2.2).2).2.1 (pN I 48 (pExp I 32 (pN I 48 (pVp I p) 0).2.1 (pN I 48 (pVp I p) 0).2.2).1 (pExp I 32 (pN I 48 (pVp I p) 0).2.1 (pN I 48 (pVp I p) 0).2.2).2).2.2).1 (pExp I 32 (pN I 48 (pExp I 32 (pN I 48 (pVp I p) 0).2.1 (pN I 48 (pVp I p) 0).2.2).1 (pExp I 32 (pN I 48 (pVp I p) 0).2.1 (pN I 48 (pVp I p) 0).2.2).2).2.1 (pN I 48 (pExp I 32 (pN I 48 (pVp I p) 0).2.1 (pN I 48 (pVp I p) 0).2.2).1 (pExp I 32 (pN I 48 (pVp I p) 0).2.1 (pN I 48 (pVp I p) 0).2.2).2).2.2).2).2.1 (pSign I (pExp I 32 (pN I 48 (pExp I 32 (pN I 48 (pVp I p) 0).2.1 (pN I 48 (pVp I p) 0).2.2).1 (pExp I 32 (pN I 48 (pVp I p) 0).2.1 (pN I 48 (pVp I p) 0).2.2).2).2.1 (pN I 48 (pExp I 32 (pN I 48 (pVp I p) 0).2.1 (pN I 48 (pVp I p) 0).2.2).1 (pExp I 32 (pN I 48 (pVp I p) 0).2.1 (pN I 48 (pVp I p) 0).2.2).2).2.2).1 (pExp I 32 (pN I 48 (pExp I 32 (pN I 48 (pVp I p) 0).2.1 (pN I 48 (pVp I p) 0).2.2).1 (pExp I 32 (pN I 48 (pVp I p) 0).2.1 (pN I 48 (pVp I p) 0).2.2).2).2.1 (pN I 48 (pExp I 32 (pN I 48 (pVp I p) 0).2.1 (pN I 48 (pVp I p) 0).2.2).1 (pExp I 32 (pN I 48 (pVp I p) 0).2.1 (pN I 48 (pVp I p) 0).2.2).2).2.2).2).2.2).1))))), (6, .int ((pSign I (pExp I 32 (pN I 48 (pExp I 32 (pN I 48 (pVp I p) 0).2.1 (pN I 48 (pVp I p) 0).2.2).1 (pExp I 32 (pN I 48 (pVp I p) 0).2.1 (pN I 48 (pVp I p) 0).2.2).2).2.1 (pN I 48 (pExp I 32 (pN I 48 (pVp I p) 0).2.1 (pN I 48 (pVp I p) 0).2.2).1 (pExp I 32 (pN I 48 (pVp I p) 0).2.1 (pN I 48 (pVp I p) 0).2.2).2).2.2).1 (pExp I 32 (pN I 48 (pExp I 32 (pN I 48 (pVp I p) 0).2.1 (pN I 48 (pVp I p) 0).2.2).1 (pExp I 32 (pN I 48 (pVp I p) 0).2.1 (pN I 48 (pVp I p) 0).2.2).2).2.1 (pN I 48 (pExp I 32 (pN I 48 (pVp I p) 0).2.1 (pN I 48 (pVp I p) 0).2.2).1 (pExp I 32 (pN I 48 (pVp I p) 0).2.1 (pN I 48 (pVp I p) 0).2.2).2).2.2).2).1))]) dX4_readCommand_85 (by decide) rfl ?_
          refine z_aload_n dX4_readCommand_87 rfl ?_
          refine z_aload_n dX4_readCommand_88 rfl ?_
          refine z_iload_n dX4_readCommand_89 rfl ?_
          refine z_iload dX4_readCommand_90 rfl ?_
          refine z_iload dX4_readCommand_92 rfl ?_
          refine z_callR (As := [.ref (ze g (10 + i)), .int (nI ((pN I 48 (pVp I p) 0).1)), .int (nI ((pN I 48 (pExp I 32 (pN I 48 (pVp I p) 0).2.1 (pN I 48 (pVp I p) 0).2.2).1 (pExp I 32 (pN I 48 (pVp I p) 0).2.1 (pN I 48 (pVp I p) 0).2.2).2).1)), .int ((((pSign I (pExp I 32 (pN I 48 (pExp I 32 (pN I 48 (pVp I p) 0).2.1 (pN I 48 (pVp I p) 0).2.2).1 (pExp I 32 (pN I 48 (pVp I p) 0).2.1 (pN I 48 (pVp I p) 0).2.2).2).2.1 (pN I 48 (pExp I 32 (pN I 48 (pVp I p) 0).2.1 (pN I 48 (pVp I p) 0).2.2).1 (pExp I 32 (pN I 48 (pVp I p) 0).2.1 (pN I 48 (pVp I p) 0).2.2).2).2.2).1 (pExp I 32 (pN I 48 (pExp I 32 (pN I 48 (pVp I p) 0).2.1 (pN I 48 (pVp I p) 0).2.2).1 (pExp I 32 (pN I 48 (pVp I p) 0).2.1 (pN I 48 (pVp I p) 0).2.2).2).2.1 (pN I 48 (pExp I 32 (pN I 48 (pVp I p) 0).2.1 (pN I 48 (pVp I p) 0).2.2).1 (pExp I 32 (pN I 48 (pVp I p) 0).2.1 (pN I 48 (pVp I p) 0).2.2).2).2.2).2).1)) * ((nI ((pN I 48 (pSign I (pExp I 32 (pN I 48 (pExp I 32 (pN I 48 (pVp I p) 0).2.1 (pN I 48 (pVp I p) 0).2.2).1 (pExp I 32 (pN I 48 (pVp I p) 0).2.1 (pN I 48 (pVp I p) 0).2.2).2).2.1 (pN I 48 (pExp I 32 (pN I 48 (pVp I p) 0).2.1 (pN I 48 (pVp I p) 0).2.2).1 (pExp I 32 (pN I 48 (pVp I p) 0).2.1 (pN I 48 (pVp I p) 0).2.2).2).2.2).1 (pExp I 32 (pN I 48 (pExp I 32 (pN I 48 (pVp I p) 0).2.1 (pN I 48 (pVp I p) 0).2.2).1 (pExp I 32 (pN I 48 (pVp I p) 0).2.1 (pN I 48 (pVp I p) 0).2.2).2).2.1 (pN I 48 (pExp I 32 (pN I 48 (pVp I p) 0).2.1 (pN I 48 (pVp I p) 0).2.2).1 (pExp I 32 (pN I 48 (pVp I p) 0).2.1 (pN I 48 (pVp I p) 0).2.2).2).2.2).2).2.1 (pSign I (pExp I 32 (pN I 48 (pExp I 32 (pN I 48 (pVp I p) 0).2.1 (pN I 48 (pVp I p) 0).2.2).1 (pExp I 32 (pN I 48 (pVp I p) 0).2.1 (pN I 48 (pVp I p) 0).2.2).2).2.1 (pN I 48 (pExp I 32 (pN I 48 (pVp I p) 0).2.1 (pN I 48 (pVp I p) 0).2.2).1 (pExp I 32 (pN I 48 (pVp I p) 0).2.1 (pN I 48 (pVp I p) 0).2.2).2).2.2).1 (pExp I 32 (pN I 48 (pExp I 32 (pN I 48 (pVp I p) 0).2.1 (pN I 48 (pVp I p) 0).2.2).1 (pExp I 32 (pN I 48 (pVp I p) 0).2.1 (pN I 48 (pVp I p) 0).2.2).2).2.1 (pN I 48 (pExp I 32 (pN I 48 (pVp I p) 0).2.1 (pN I 48 (pVp I p) 0).2.2).1 (pExp I 32 (pN I 48 (pVp I p) 0).2.1 (pN I 48 (pVp I p) 0).2.2).2).2.2).2).2.2).1))))]) (rest := []) (b := h) (ci := 9) (v := none) (R2 := zR 1 0) dX4_readCommand_94 kV_RX4_83 rfl ⟨⟨by decide, by decide⟩, by decide, by decide⟩ (by omega) hc73.cell rfl rfl rfl (Nat.le_of_ble_eq_true rfl) rfl (c_X9_append (i := i) (x := (nI ((pN I 48 (pVp I p) 0).1))) (y := (nI ((pN I 48 (pExp I 32 (pN I 48 (pVp I p) 0).2.1 (pN I 48 (pVp I p) 0).2.2).1 (pExp I 32 (pN I 48 (pVp I p) 0).2.1 (pN I 48 (pVp I p) 0).2.2).2).1))) (z := ((((pSign I (pExp I 32 (pN I 48 (pExp I 32 (pN I 48 (pVp I p) 0).2.1 (pN I 48 (pVp I p) 0).2.2).1 (pExp I 32 (pN I 48 (pVp I p) 0).2.1 (pN I 48 (pVp I p) 0).2.2).2).2.1 (pN I 48 (pExp I 32 (pN I 48 (pVp I p) 0).2.1 (pN I 48 (pVp I p) 0).2.2).1 (pExp I 32 (pN I 48 (pVp I p) 0).2.1 (pN I 48 (pVp I p) 0).2.2).2).2.2).1 (pExp I 32 (pN I 48 (pExp I 32 (pN I 48 (pVp I p) 0).2.1 (pN I 48 (pVp I p) 0).2.2).1 (pExp I 32 (pN I 48 (pVp I p) 0).2.1 (pN I 48 (pVp I p) 0).2.2).2).2.1 (pN I 48 (pExp I 32 (pN I 48 (pVp I p) 0).2.1 (pN I 48 (pVp I p) 0).2.2).1 (pExp I 32 (pN I 48 (pVp I p) 0).2.1 (pN I 48 (pVp I p) 0).2.2).2).2.2).2).1)) * ((nI ((pN I 48 (pSign I (pExp I 32 (pN I 48 (pExp I 32 (pN I 48 (pVp I p) 0).2.1 (pN I 48 (pVp I p) 0).2.2).1 (pExp I 32 (pN I 48 (pVp I p) 0).2.1 (pN I 48 (pVp I p) 0).2.2).2).2.1 (pN I 48 (pExp I 32 (pN I 48 (pVp I p) 0).2.1 (pN I 48 (pVp I p) 0).2.2).1 (pExp I 32 (pN I 48 (pVp I p) 0).2.1 (pN I 48 (pVp I p) 0).2.2).2).2.2).1 (pExp I 32 (pN I 48 (pExp I 32 (pN I 48 (pVp I p) 0).2.1 (pN I 48 (pVp I p) 0).2.2).1 (pExp I 32 (pN I 48 (pVp I p) 0).2.1 (pN I 48 (pVp I p) 0).2.2).2).2.1 (pN I 48 (pExp I 32 (pN I 48 (pVp I p) 0).2.1 (pN I 48 (pVp I p) 0).2.2).1 (pExp I 32 (pN I 48 (pVp I p) 0).2.1 (pN I 48 (pVp I p) 0).2.2).2).2.2).2).2.1 (pSign I (pExp I 32 (pN I 48 (pExp I 32 (pN I 48 (pVp I p) 0).2.1 (pN I 48 (pVp I p) 0).2.2).1 (pExp I 32 (pN I 48 (pVp I p) 0).2.1 (pN I 48 (pVp I p) 0).2.2).2).2.1 (pN I 48 (pExp I 32 (pN I 48 (pVp I p) 0).2.1 (pN I 48 (pVp I p) 0).2.2).1 (pExp I 32 (pN I 48 (pVp I p) 0).2.1 (pN I 48 (pVp I p) 0).2.2).2).2.2).1 (pExp I 32 (pN I 48 (pExp I 32 (pN I 48 (pVp I p) 0).2.1 (pN I 48 (pVp I p) 0).2.2).1 (pExp I 32 (pN I 48 (pVp I p) 0).2.1 (pN I 48 (pVp I p) 0).2.2).2).2.1 (pN I 48 (pExp I 32 (pN I 48 (pVp I p) 0).2.1 (pN I 48 (pVp I p) 0).2.2).1 (pExp I 32 (pN I 48 (pVp I p) 0).2.1 (pN I 48 (pVp I p) 0).2.2).2).2.2).2).2.2).1))))) h0 hc73 hi (by omega)) (fun w74 pw74 => ?_)
          obtain ⟨hf75, hn76⟩ := pw74
          have hc77 := hn72.fr hf75 (by omega)
          refine z_vret dX4_readCommand_97 rfl (by decide) (by decide) ?_
          have eB : pB2 I p = pN I 48 (pExp I 32 (pA I p).2.1 (pA I p).2.2).1 (pExp I 32 (pA I p).2.1 (pA I p).2.2).2 := by unfold pB2 pB; rw [hpx, if_pos (by omega)]
          have eS : pS I i (pB2 I p).2.1 (pB2 I p).2.2 = pSign I (pExp I 32 (pB2 I p).2.1 (pB2 I p).2.2).1 (pExp I 32 (pB2 I p).2.1 (pB2 I p).2.2).2 := by unfold pS; rw [if_pos (by omega)]
          have eC : pC2 I p = ((pS I i (pB2 I p).2.1 (pB2 I p).2.2).1 * nI (pN I 48 (pS I i (pB2 I p).2.1 (pB2 I p).2.2).2.1 (pS I i (pB2 I p).2.1 (pB2 I p).2.2).2.2).1, (pN I 48 (pS I i (pB2 I p).2.1 (pB2 I p).2.2).2.1 (pS I i (pB2 I p).2.1 (pB2 I p).2.2).2.2).2) := by unfold pC2 pC; rw [hpx, if_pos (by omega)]
          rw [eS] at eC
          rw [eB] at eC
          have e : pCmd I p = ([(i, nI (pA I p).1, nI (pB2 I p).1, (pC2 I p).1)], (pC2 I p).2) := by unfold pCmd; rw [if_neg (by omega), hpx]
          rw [e, eC, eB]
          exact ⟨rfl, ((((((((hf1.wk (by omega) (by omega)).tr (hf6.wk (by omega) (by omega))).tr (hf41.wk (by omega) (by omega))).tr (hf45.wk (by omega) (by omega))).tr (hf54.wk (by omega) (by omega))).tr (hf67.wk (by omega) (by omega))).tr (hf71.wk (by omega) (by omega))).tr (hf75.wk (by omega) (by omega))), hc77, hn76⟩
  · have hc78 := hK.fr hf1 (by omega)
    cases ev
    refine z_astore_nN (lv' := [(0, .ref (za g b)), (1, .ref (za g h)), (2, .null)]) dX4_readCommand_4 (by decide) rfl ?_
    refine z_aload_nN dX4_readCommand_5 rfl ?_
    refine z_ifnonnullN dX4_readCommand_6 ?_
    refine z_vret dX4_readCommand_9 rfl (by decide) (by decide) ?_
    have e : pCmd I p = ([], pVp I p, 1) := by unfold pCmd; rw [if_pos (by omega)]
    rw [e]
    exact ⟨rfl, (hf1.wk (by omega) (by omega)), hi1, by rw [List.append_nil]; exact hc78⟩
set_option maxRecDepth 100000 in
set_option maxHeartbeats 4000000 in
theorem c_X4_readScript {g : zGT} {w : zW} {h b p0 br0 : Nat} {I : List Nat} {K0 : List zCmd} (h0 : zG0 g) (h1 : zST g) (hhb : h + 10 = b) (hI : Inp g w b I p0 br0) (hK : Scx g w h K0) : zCt g mX4_readScript (zR 7 0) [.ref (za g b), .ref (za g h)] w (fun o w' => o = .inl none ∧ zFr w w' h (b + 2) ∧ Inp g w' b I (pCmds I 60 0 []).2.1 (pCmds I 60 0 []).2.2 ∧ Scx g w' h (pCmds I 60 0 []).1) := by
  have hb := hI.1
  have hk := hK.lt
  have hil := hI.2.2.2.1
  refine zCt_of (by decide +kernel) h0 [(0, .ref (za g b)), (1, .ref (za g h))] rfl (Nat.le_of_ble_eq_true rfl) ?_
  have loop : ∀ (mm : Nat) (i p : Nat) (wi : zW) (K : List zCmd), 60 - i < mm → (i = K.length) → (7 * K.length ≤ p) → (p ≤ I.length) → (zFr w wi h (b + 2)) → (Inp g wi b I p 0) → (Scx g wi h K) → zTr g mX4_readScript (zR 7 0) 0 0 10 [(0, .ref (za g b)), (1, .ref (za g h)), (2, .int (nI (i)))] [] wi (fun o w' => o = .inl none ∧ zFr w w' h (b + 2) ∧ Inp g w' b I (pCmds I (60 - i) p K).2.1 (pCmds I (60 - i) p K).2.2 ∧ Scx g w' h (pCmds I (60 - i) p K).1) := by
    intro mm
    induction mm with
    | zero => intros; omega
    | succ mm ih =>
      intro i p wi K hm hpi h7 hpl hfi hIi hKi
      have hi60 := hIi.2.2.2.1
      refine z_iload_n dX4_readScript_10 rfl ?_
      refine z_bipush (v := nI 60) dX4_readScript_11 rfl ?_
      refine z_icmp_ge_n (a := i) (b := 60) (tgt := 39) dX4_readScript_13 (by decide) (by omega) (by omega) (fun h_13_1 => ?_) (fun h_13_1 => ?_)
      · exact absurd h_13_1 (by omega)
      · refine z_aload_n dX4_readScript_16 rfl ?_
        refine z_aload_n dX4_readScript_17 rfl ?_
        refine z_callR (As := [.ref (za g h)]) (rest := []) (b := b) (ci := 4) (v := none) (R2 := zR 6 0) dX4_readScript_18 kV_RX4_63 rfl ⟨⟨by decide, by decide⟩, by decide, by decide⟩ (by omega) hIi.2.1 rfl rfl rfl (Nat.le_of_ble_eq_true rfl) rfl (c_X4_readCommand h0 h1 hhb hIi hKi hpl h7) (fun w2 pw2 => ?_)
        obtain ⟨hf3, hi4, hk5⟩ := pw2
        refine z_aload_n dX4_readScript_21 rfl ?_
        refine z_bipush (v := nI 59) dX4_readScript_22 rfl ?_
        by_cases hc6 : (pCmd I p).2.2 = 0 ∧ I.getD ((pCmd I p).2.1) 0 = 59
        · refine z_callR (As := [.int (nI (59))]) (rest := []) (b := b) (ci := 4) (v := some (.int (nI (1)))) (R2 := zR 1 0) dX4_readScript_24 kV_RX4_38 rfl ⟨⟨by decide, by decide⟩, by decide, by decide⟩ (by omega) hi4.2.1 rfl rfl rfl (Nat.le_of_ble_eq_true rfl) rfl (c_X4_accept_y h0 hi4 (by omega) hc6) (fun w7 pw7 => ?_)
          obtain ⟨hf8, hn9⟩ := pw7
          have hc10 := hk5.fr hf8 (by omega)
          refine z_if_ne_n (a := 1) (tgt := 33) dX4_readScript_27 (by decide) (by omega) (fun h_27_11 => ?_) (fun h_27_11 => ?_)
          · refine z_iinc_n (n := 1) (a := i) (lv' := [(0, .ref (za g b)), (1, .ref (za g h)), (2, .int (nI (i + 1)))]) dX4_readScript_33 rfl (by decide) rfl ?_
            refine z_goto (tgt := 10) dX4_readScript_36 (by decide) ?_
            rw [show 60 - i = (60 - (i + 1)) + 1 by omega, pCmds, if_pos hc6]
            have hadv := pCmd_adv hpl hc6.1
            have hlt := (hIi.chr (pCmd I p).2.1).2 (by rw [hc6.2]; decide)
            have hlen : (K ++ (pCmd I p).1).length = K.length + 1 := by rw [List.length_append]; unfold pCmd; rw [if_neg (by omega)]; rfl
            exact ih (i + 1) ((pCmd I p).2.1 + 1) _ (K ++ (pCmd I p).1) (by omega) (by omega) (by omega) hlt (hfi.tr ((hf3.wk (by omega) (by omega)).tr (hf8.wk (by omega) (by omega)))) hn9 hc10
          · exact absurd h_27_11 (by decide)
        · refine z_callR (As := [.int (nI (59))]) (rest := []) (b := b) (ci := 4) (v := some (.int (nI (0)))) (R2 := zR 1 0) dX4_readScript_24 kV_RX4_38 rfl ⟨⟨by decide, by decide⟩, by decide, by decide⟩ (by omega) hi4.2.1 rfl rfl rfl (Nat.le_of_ble_eq_true rfl) rfl (c_X4_accept_n h0 hi4 (by omega) hc6) (fun w12 pw12 => ?_)
          obtain ⟨hf13, hn14⟩ := pw12
          have hc15 := hk5.fr hf13 (by omega)
          refine z_if_ne_n (a := 0) (tgt := 33) dX4_readScript_27 (by decide) (by omega) (fun h_27_16 => ?_) (fun h_27_16 => ?_)
          · exact absurd h_27_16 (by decide)
          · refine z_goto (tgt := 39) dX4_readScript_30 (by decide) ?_
            refine z_aload_n dX4_readScript_39 rfl ?_
            refine z_callR (As := []) (rest := []) (b := b) (ci := 4) (v := none) (R2 := zR 0 0) dX4_readScript_40 kV_RX4_42 rfl ⟨⟨by decide, by decide⟩, by decide, by decide⟩ (by omega) hn14.2.1 rfl rfl rfl (Nat.le_of_ble_eq_true rfl) rfl (c_X4_expectEnd h0 hn14) (fun w17 pw17 => ?_)
            obtain ⟨hf18, hn19⟩ := pw17
            have hc20 := hc15.fr hf18 (by omega)
            refine z_vret dX4_readScript_43 rfl (by decide) (by decide) ?_
            rw [show 60 - i = (60 - (i + 1)) + 1 by omega, pCmds, if_neg hc6]
            exact ⟨rfl, hfi.tr (((hf3.wk (by omega) (by omega)).tr (hf13.wk (by omega) (by omega))).tr (hf18.wk (by omega) (by omega))), hn19, hc20⟩
  refine z_aload_n dX4_readScript_0 rfl ?_
  refine z_callR (As := []) (rest := []) (b := b) (ci := 4) (v := none) (R2 := zR 0 0) dX4_readScript_1 kV_RX4_26 rfl ⟨⟨by decide, by decide⟩, by decide, by decide⟩ (by omega) hI.2.1 rfl rfl rfl (Nat.le_of_ble_eq_true rfl) rfl (c_X4_startReading h0 hI) (fun w1 pw1 => ?_)
  obtain ⟨hf2, hn3⟩ := pw1
  have hc4 := hK.fr hf2 (by omega)
  refine z_aload_n dX4_readScript_4 rfl ?_
  refine z_callR (As := []) (rest := []) (b := h) (ci := 9) (v := none) (R2 := zR 0 0) dX4_readScript_5 kV_RX4_60 rfl ⟨⟨by decide, by decide⟩, by decide, by decide⟩ (by omega) hc4.cell rfl rfl rfl (Nat.le_of_ble_eq_true rfl) rfl (c_X9_clear h0 hc4) (fun w5 pw5 => ?_)
  obtain ⟨hf6, hn7⟩ := pw5
  have hc8 := hn3.fr hf6 (by omega)
  refine z_iconst (v := nI 0) dX4_readScript_8 rfl ?_
  refine z_istore_n (lv' := [(0, .ref (za g b)), (1, .ref (za g h)), (2, .int (nI (0)))]) dX4_readScript_9 (by decide) rfl ?_
  exact loop 61 0 0 _ [] (by omega) rfl (Nat.le_refl _) (Nat.zero_le _) ((hf2.wk (by omega) (by omega)).tr (hf6.wk (by omega) (by omega))) hc8 hn7
