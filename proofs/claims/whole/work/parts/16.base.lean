/-! lists of ticks, and the contracts of Levels over them -/
def ltab (N : Nat) (F : Nat → Nat) : List Nat := (List.range N).map F
theorem ltab_len {N : Nat} {F : Nat → Nat} : (ltab N F).length = N := by simp [ltab]
theorem ltab_get {N k : Nat} {F : Nat → Nat} (h : k < N) : (ltab N F).getD k 0 = F k := by
  unfold ltab; rw [gD_map (by simpa using h), gD_range h]
theorem ltab_eq {T : List Nat} {N : Nat} {F : Nat → Nat} (hl : T.length = N) (h : ∀ k, k < N → T.getD k 0 = F k) : T = ltab N F :=
  l_ext (by rw [ltab_len, hl]) (fun k hk => by rw [h k (by omega), ltab_get (by omega)])
theorem ltab_congr {N : Nat} {F G : Nat → Nat} (h : ∀ k, k < N → F k = G k) : ltab N F = ltab N G := ltab_eq ltab_len (fun k hk => by rw [ltab_get hk, h k hk])
theorem ltab_self {T : List Nat} : ltab T.length (fun k => T.getD k 0) = T := (ltab_eq rfl (fun _ _ => rfl)).symm
def gT (T : List Nat) : Nat → Nat := fun k => T.getD k 0
theorem gT_tab {N k : Nat} {F : Nat → Nat} (h : k < N) : gT (ltab N F) k = F k := ltab_get h
theorem LvT.cell {g : zGT} {w : zW} {b n : Nat} {F : Nat → Nat} (h : LvT g w b F n) : w b = zO 5 [.ref (za g (b + 1)), .int (nI n)] := by
  obtain ⟨f, hf, -⟩ := h; exact hf.2.1
theorem LvT.len {g : zGT} {w : zW} {b n : Nat} {F : Nat → Nat} (h : LvT g w b F n) : n ≤ 200 := by
  obtain ⟨f, hf, -⟩ := h; exact hf.2.2.2
theorem LvT.lt {g : zGT} {w : zW} {b n : Nat} {F : Nat → Nat} (h : LvT g w b F n) : b + 1 < zn g := by
  obtain ⟨f, hf, -⟩ := h; exact hf.1
theorem LvT.le {g : zGT} {w : zW} {b n : Nat} {F : Nat → Nat} (h : LvT g w b F n) {k : Nat} (hk : k < n) : F k ≤ 9 := by
  obtain ⟨f, hf, h2⟩ := h; exact (h2 k hk).2
theorem LvT.congr {g : zGT} {w : zW} {b n : Nat} {F G : Nat → Nat} (h : LvT g w b F n) (e : ∀ k, k < n → F k = G k) : LvT g w b G n := by
  obtain ⟨f, hf, h2⟩ := h; exact ⟨f, hf, fun k hk => by rw [← e k hk]; exact h2 k hk⟩
theorem LvT.tab {g : zGT} {w : zW} {b n : Nat} {F : Nat → Nat} (h : LvT g w b F n) : LvT g w b (gT (ltab n F)) (ltab n F).length := by
  rw [ltab_len]; exact h.congr (fun k hk => (gT_tab hk).symm)
theorem LvT.fun {g : zGT} {w : zW} {b n : Nat} {F : Nat → Nat} {f' : Nat → Int32} (h : Lv g w b f' n) (e : ∀ k, k < n → f' k = nI (F k)) (h9 : ∀ k, k < n → F k ≤ 9) : LvT g w b F n := ⟨f', h, fun k hk => ⟨e k hk, h9 k hk⟩⟩
/-- x + y of two ints that stay in range -/
theorem i_add {x y : Int32} (h1 : -2147483648 ≤ x.toInt + y.toInt) (h2 : x.toInt + y.toInt < 2147483648) : (x + y).toInt = x.toInt + y.toInt := by
  rw [Int32.toInt_add]
  exact Int.bmod_eq_of_le (by omega) (by omega)
theorem i_sub {x y : Int32} (h1 : -2147483648 ≤ x.toInt - y.toInt) (h2 : x.toInt - y.toInt < 2147483648) : (x - y).toInt = x.toInt - y.toInt := by
  rw [Int32.toInt_sub]
  exact Int.bmod_eq_of_le (by omega) (by omega)
theorem i_mul {x y : Int32} (h1 : -2147483648 ≤ x.toInt * y.toInt) (h2 : x.toInt * y.toInt < 2147483648) : (x * y).toInt = x.toInt * y.toInt := by
  rw [Int32.toInt_mul]
  exact Int.bmod_eq_of_le (by omega) (by omega)
theorem i_rng (x : Int32) : -2147483648 ≤ x.toInt ∧ x.toInt < 2147483648 := ⟨Int32.le_toInt x, Int32.toInt_lt x⟩
theorem i_nat {x : Int32} (h : 0 ≤ x.toInt) : x = nI x.toInt.toNat := by
  apply Int32.toInt_inj.mp
  have := i_rng x
  rw [nI_toInt (by omega)]; omega
section TC
variable {g : zGT} {w : zW} {b n : Nat} {F : Nat → Nat}
theorem tc_size (h0 : zG0 g) (hT : LvT g w b F n) : zCt g mX5_size (zR 0 0) [.ref (za g b)] w (fun o w' => o = .inl (some (.int (nI n))) ∧ w' = w) := by
  obtain ⟨f, hf, -⟩ := hT; exact c_X5_size h0 hf
theorem tc_hasTick_y {t : Int32} (h0 : zG0 g) (hT : LvT g w b F n) (e : 0 ≤ t.toInt ∧ t.toInt < n) : zCt g mX5_hasTick (zR 0 0) [.ref (za g b), .int t] w (fun o w' => o = .inl (some (.int (nI 1))) ∧ w' = w) := by
  obtain ⟨f, hf, -⟩ := hT; have h := c_X5_hasTick (t := t) h0 hf; rw [if_pos e] at h; exact h
theorem tc_hasTick_n {t : Int32} (h0 : zG0 g) (hT : LvT g w b F n) (e : ¬ (0 ≤ t.toInt ∧ t.toInt < n)) : zCt g mX5_hasTick (zR 0 0) [.ref (za g b), .int t] w (fun o w' => o = .inl (some (.int (nI 0))) ∧ w' = w) := by
  obtain ⟨f, hf, -⟩ := hT; have h := c_X5_hasTick (t := t) h0 hf; rw [if_neg e] at h; exact h
theorem tc_hasInterval_y {p q : Int32} (h0 : zG0 g) (hT : LvT g w b F n) (e : 0 ≤ p.toInt ∧ p.toInt ≤ q.toInt ∧ q.toInt ≤ n) : zCt g mX5_hasInterval (zR 0 0) [.ref (za g b), .int p, .int q] w (fun o w' => o = .inl (some (.int (nI 1))) ∧ w' = w) := by
  obtain ⟨f, hf, -⟩ := hT; have h := c_X5_hasInterval (p := p) (q := q) h0 hf; rw [if_pos e] at h; exact h
theorem tc_hasInterval_n {p q : Int32} (h0 : zG0 g) (hT : LvT g w b F n) (e : ¬ (0 ≤ p.toInt ∧ p.toInt ≤ q.toInt ∧ q.toInt ≤ n)) : zCt g mX5_hasInterval (zR 0 0) [.ref (za g b), .int p, .int q] w (fun o w' => o = .inl (some (.int (nI 0))) ∧ w' = w) := by
  obtain ⟨f, hf, -⟩ := hT; have h := c_X5_hasInterval (p := p) (q := q) h0 hf; rw [if_neg e] at h; exact h
theorem tc_at {t : Nat} (h0 : zG0 g) (hT : LvT g w b F n) (ht : t < n) : zCt g mX5_at (zR 0 0) [.ref (za g b), .int (nI t)] w (fun o w' => o = .inl (some (.int (nI (F t)))) ∧ w' = w) := by
  have hn := hT.len
  obtain ⟨f, hf, h2⟩ := hT; have h := c_X5_at (t := t) h0 hf (by omega); rw [(h2 t ht).1] at h; exact h
theorem tc_put {t x : Nat} (h0 : zG0 g) (hT : LvT g w b F n) (ht : t < n) (hx : x ≤ 9) : zCt g mX5_put (zR 0 0) [.ref (za g b), .int (nI t), .int (nI x)] w (fun o w' => o = .inl none ∧ zFr w w' b (b + 2) ∧ LvT g w' b (va_up F t x) n) := by
  have hn := hT.len
  obtain ⟨f, hf, h2⟩ := hT
  refine zCt_mono (c_X5_put (t := t) (x := nI x) h0 hf (by omega)) (fun o w' h => ⟨h.1, h.2.1, _, h.2.2, fun k hk => ?_⟩)
  simp only [upd, va_up]
  by_cases e : k = t
  · rw [if_pos e, if_pos e]; exact ⟨rfl, hx⟩
  · rw [if_neg e, if_neg e]; exact h2 k hk
theorem tc_append {x : Nat} (h0 : zG0 g) (hT : LvT g w b F n) (hn : n < 200) (hx : x ≤ 9) : zCt g mX5_append (zR 0 0) [.ref (za g b), .int (nI x)] w (fun o w' => o = .inl none ∧ zFr w w' b (b + 2) ∧ LvT g w' b (va_up F n x) (n + 1)) := by
  obtain ⟨f, hf, h2⟩ := hT
  refine zCt_mono (c_X5_append (x := nI x) h0 hf) (fun o w' h => ⟨h.1, h.2.1, ?_⟩)
  have h3 := h.2.2
  rw [if_pos hn] at h3
  refine ⟨_, h3, fun k hk => ?_⟩
  simp only [upd, va_up]
  by_cases e : k = n
  · rw [if_pos e, if_pos e]; exact ⟨rfl, hx⟩
  · rw [if_neg e, if_neg e]; exact h2 k (by omega)
theorem tc_append_full {x : Int32} (h0 : zG0 g) (hT : LvT g w b F n) (hn : n = 200) : zCt g mX5_append (zR 0 0) [.ref (za g b), .int x] w (fun o w' => o = .inl none ∧ zFr w w' b (b + 2) ∧ LvT g w' b F n) := by
  obtain ⟨f, hf, h2⟩ := hT
  refine zCt_mono (c_X5_append (x := x) h0 hf) (fun o w' h => ⟨h.1, h.2.1, ?_⟩)
  have h3 := h.2.2
  rw [if_neg (by omega)] at h3
  exact ⟨_, h3, h2⟩
theorem tc_clear (h0 : zG0 g) (hT : LvT g w b F n) : zCt g mX5_clear (zR 0 0) [.ref (za g b)] w (fun o w' => o = .inl none ∧ zFr w w' b (b + 2) ∧ LvT g w' b F 0) := by
  obtain ⟨f, hf, h2⟩ := hT
  exact zCt_mono (c_X5_clear h0 hf) (fun o w' h => ⟨h.1, h.2.1, _, h.2.2, fun k hk => absurd hk (Nat.not_lt_zero k)⟩)
theorem tc_take {c m p q : Nat} {G : Nat → Nat} (h0 : zG0 g) (hT : LvT g w b F n) (hK : LvT g w c G m) (hbc : b + 1 < c ∨ c + 1 < b) (hp : p ≤ q) (hq : q ≤ m) : zCt g mX5_takeInterval (zR 1 0) [.ref (za g b), .ref (za g c), .int (nI p), .int (nI q)] w (fun o w' => o = .inl none ∧ zFr w w' b (b + 2) ∧ LvT g w' b (fun k => G (p + k)) (q - p)) := by
  have hm := hK.len
  obtain ⟨f, hf, h2⟩ := hT
  obtain ⟨f3, hf3, h4⟩ := hK
  refine zCt_mono (c_X5_takeInterval h0 hf hf3 hbc hp (by omega)) (fun o w' h => ⟨h.1, h.2.1, ?_⟩)
  obtain ⟨f', h5, h6⟩ := h.2.2
  exact ⟨f', h5, fun k hk => by rw [h6 k hk]; exact h4 (p + k) (by omega)⟩
theorem tc_become {c m : Nat} {G : Nat → Nat} (h0 : zG0 g) (hT : LvT g w b F n) (hK : LvT g w c G m) (hbc : b + 1 < c ∨ c + 1 < b) : zCt g mX5_become (zR 2 0) [.ref (za g b), .ref (za g c)] w (fun o w' => o = .inl none ∧ zFr w w' b (b + 2) ∧ LvT g w' b G m) := by
  obtain ⟨f, hf, h2⟩ := hT
  obtain ⟨f3, hf3, h4⟩ := hK
  refine zCt_mono (c_X5_become h0 hf hf3 hbc) (fun o w' h => ⟨h.1, h.2.1, ?_⟩)
  obtain ⟨f', h5, h6⟩ := h.2.2
  exact ⟨f', h5, fun k hk => by rw [h6 k hk]; exact h4 k hk⟩
theorem tc_open {p t : Nat} (h0 : zG0 g) (hT : LvT g w b F n) (hp : p ≤ n) (hnt : n + t ≤ 200) : zCt g mX5_open (zR 1 0) [.ref (za g b), .int (nI p), .int (nI t)] w (fun o w' => o = .inl none ∧ zFr w w' b (b + 2) ∧ LvT g w' b (fun k => if k < p then F k else if k < p + t then 0 else F (k - t)) (n + t)) := by
  obtain ⟨f, hf, h2⟩ := hT
  refine zCt_mono (c_X5_open h0 hf hp hnt) (fun o w' h => ⟨h.1, h.2.1, ?_⟩)
  obtain ⟨f', h5, h6⟩ := h.2.2
  refine ⟨f', h5, fun k hk => ?_⟩
  rw [h6 k hk]; dsimp only
  by_cases e : k < p
  · rw [if_pos e, if_pos e]; exact h2 k (by omega)
  · rw [if_neg e, if_neg e]
    by_cases e2 : k < p + t
    · rw [if_pos e2, if_pos e2]; exact ⟨rfl, by omega⟩
    · rw [if_neg e2, if_neg e2]; exact h2 _ (by omega)
theorem tc_close {p q : Nat} (h0 : zG0 g) (hT : LvT g w b F n) (hp : p ≤ q) (hq : q ≤ n) : zCt g mX5_close (zR 1 0) [.ref (za g b), .int (nI p), .int (nI q)] w (fun o w' => o = .inl none ∧ zFr w w' b (b + 2) ∧ LvT g w' b (fun k => if k < p then F k else F (k + (q - p))) (n - (q - p))) := by
  obtain ⟨f, hf, h2⟩ := hT
  refine zCt_mono (c_X5_close h0 hf hp hq) (fun o w' h => ⟨h.1, h.2.1, ?_⟩)
  obtain ⟨f', h5, h6⟩ := h.2.2
  refine ⟨f', h5, fun k hk => ?_⟩
  rw [h6 k hk]; dsimp only
  by_cases e : k < p
  · rw [if_pos e, if_pos e]; exact h2 k (by omega)
  · rw [if_neg e, if_neg e]; exact h2 _ (by omega)
theorem tc_fill {p q x : Nat} (h0 : zG0 g) (hT : LvT g w b F n) (hp : p ≤ q) (hq : q ≤ n) (hx : x ≤ 9) : zCt g mX5_fill (zR 1 0) [.ref (za g b), .int (nI p), .int (nI q), .int (nI x)] w (fun o w' => o = .inl none ∧ zFr w w' b (b + 2) ∧ LvT g w' b (fun k => if p ≤ k ∧ k < q then x else F k) n) := by
  have hn := hT.len
  obtain ⟨f, hf, h2⟩ := hT
  refine zCt_mono (c_X5_fill (x := nI x) h0 hf hp (by omega)) (fun o w' h => ⟨h.1, h.2.1, ?_⟩)
  obtain ⟨f', h5, h6⟩ := h.2.2
  refine ⟨f', h5, fun k hk => ?_⟩
  rw [h6 k]; dsimp only
  by_cases e : p ≤ k ∧ k < q
  · rw [if_pos e, if_pos e]; exact ⟨rfl, hx⟩
  · rw [if_neg e, if_neg e]; exact h2 _ (by omega)
def tsum (F : Nat → Nat) (p : Nat) : Nat → Nat
  | 0 => 0
  | m + 1 => tsum F p m + F (p + m)
theorem tsum_s {F : Nat → Nat} {p i : Nat} (h : p ≤ i) : tsum F p (i + 1 - p) = tsum F p (i - p) + F i := by
  rw [show i + 1 - p = (i - p) + 1 by omega, tsum, show p + (i - p) = i by omega]
theorem tsum_le {F : Nat → Nat} {p : Nat} {c : Nat} : ∀ {m : Nat}, (∀ k, p ≤ k → k < p + m → F k ≤ c) → tsum F p m ≤ m * c
  | 0, _ => by simp [tsum]
  | m + 1, h => by
    have h1 := tsum_le (m := m) (fun k hk hk2 => h k hk (by omega))
    have h2 := h (p + m) (by omega) (by omega)
    rw [tsum, Nat.succ_mul]; omega
theorem tsum_congr {F G : Nat → Nat} {p : Nat} : ∀ {m : Nat}, (∀ k, p ≤ k → k < p + m → F k = G k) → tsum F p m = tsum G p m
  | 0, _ => rfl
  | m + 1, h => by rw [tsum, tsum, tsum_congr (m := m) (fun k h1 h2 => h k h1 (by omega)), h (p + m) (by omega) (by omega)]
theorem zsum_t {f : Nat → Int32} {F : Nat → Nat} {p : Nat} : ∀ {m : Nat}, (∀ k, p ≤ k → k < p + m → f k = nI (F k)) → zsum f p m = nI (tsum F p m)
  | 0, _ => rfl
  | m + 1, h => by
    rw [zsum, tsum, zsum_t (m := m) (fun k h1 h2 => h k h1 (by omega)), h (p + m) (by omega) (by omega), nI_add]
theorem zcnt_congr {P Q : Nat → Bool} {p : Nat} : ∀ {m : Nat}, (∀ k, p ≤ k → k < p + m → P k = Q k) → zcnt P p m = zcnt Q p m
  | 0, _ => rfl
  | m + 1, h => by rw [zcnt, zcnt, zcnt_congr (m := m) (fun k h1 h2 => h k h1 (by omega)), h (p + m) (by omega) (by omega)]
theorem tc_sum {p q : Nat} (h0 : zG0 g) (hT : LvT g w b F n) (hp : p ≤ q) (hq : q ≤ n) : zCt g mX5_sum (zR 1 0) [.ref (za g b), .int (nI p), .int (nI q)] w (fun o w' => o = .inl (some (.int (nI (tsum F p (q - p))))) ∧ w' = w) := by
  have hn := hT.len
  obtain ⟨f, hf, h2⟩ := hT
  have h := c_X5_sum h0 hf hp (by omega)
  rw [zsum_t (F := F) (fun k h3 h4 => (h2 k (by omega)).1)] at h; exact h
theorem tc_sounding {p q : Nat} (h0 : zG0 g) (hT : LvT g w b F n) (hp : p ≤ q) (hq : q ≤ n) : zCt g mX5_soundingTicks (zR 1 0) [.ref (za g b), .int (nI p), .int (nI q)] w (fun o w' => o = .inl (some (.int (nI (zcnt (fun k => decide (F k ≠ 0)) p (q - p))))) ∧ w' = w) := by
  have hn := hT.len
  obtain ⟨f, hf, h2⟩ := hT
  have h := c_X5_soundingTicks h0 hf hp (by omega)
  rw [zcnt_congr (Q := fun k => decide (F k ≠ 0)) (fun k h3 h4 => by rw [(h2 k (by omega)).1, nI_toInt (by have := (h2 k (by omega)).2; omega)]; exact decide_eq_decide.mpr (by omega))] at h; exact h
theorem tc_countOf {x : Nat} (h0 : zG0 g) (hT : LvT g w b F n) (hx : x ≤ 9) : zCt g mX5_countOf (zR 1 0) [.ref (za g b), .int (nI x)] w (fun o w' => o = .inl (some (.int (nI (zcnt (fun k => decide (F k = x)) 0 n)))) ∧ w' = w) := by
  obtain ⟨f, hf, h2⟩ := hT
  have h := c_X5_countOf (x := nI x) h0 hf
  rw [zcnt_congr (Q := fun k => decide (F k = x)) (fun k h3 h4 => by rw [(h2 k (by omega)).1, nI_toInt (by have := (h2 k (by omega)).2; omega), nI_toInt (by omega)]; exact decide_eq_decide.mpr (by omega))] at h; exact h
theorem tc_isSame_y {p q m9 : Nat} (h0 : zG0 g) (hT : LvT g w b F n) (hp : p + m9 ≤ n) (hq : q + m9 ≤ n) (e : ∀ k, k < m9 → F (p + k) = F (q + k)) : zCt g mX5_isSame (zR 1 0) [.ref (za g b), .int (nI p), .int (nI q), .int (nI m9)] w (fun o w' => o = .inl (some (.int (nI 1))) ∧ w' = w) := by
  have hn := hT.len
  obtain ⟨f, hf, h2⟩ := hT
  have h := c_X5_isSame (p := p) (q := q) (m9 := m9) h0 hf (by omega) (by omega)
  rw [if_pos (fun k hk => by rw [(h2 (p + k) (by omega)).1, (h2 (q + k) (by omega)).1, e k hk])] at h; exact h
theorem tc_isSame_n {p q m9 : Nat} (h0 : zG0 g) (hT : LvT g w b F n) (hp : p + m9 ≤ n) (hq : q + m9 ≤ n) (e : ¬ ∀ k, k < m9 → F (p + k) = F (q + k)) : zCt g mX5_isSame (zR 1 0) [.ref (za g b), .int (nI p), .int (nI q), .int (nI m9)] w (fun o w' => o = .inl (some (.int (nI 0))) ∧ w' = w) := by
  have hn := hT.len
  obtain ⟨f, hf, h2⟩ := hT
  have h := c_X5_isSame (p := p) (q := q) (m9 := m9) h0 hf (by omega) (by omega)
  rw [if_neg (fun z => e (fun k hk => by
    have h3 := z k hk
    rw [(h2 (p + k) (by omega)).1, (h2 (q + k) (by omega)).1, nI_toInt (by have := (h2 (p + k) (by omega)).2; omega), nI_toInt (by have := (h2 (q + k) (by omega)).2; omega)] at h3
    omega))] at h; exact h
end TC
/-- the markers stand in order, none behind the last tick -/
def Mo (L : List Nat) (n : Nat) : Prop := (∀ i j, i < j → j < L.length → L.getD i 0 < L.getD j 0) ∧ (∀ i, i < L.length → L.getD i 0 ≤ n) ∧ L.length ≤ 6
theorem Mo.mem {L : List Nat} {n x : Nat} (h : Mo L n) (hx : x ∈ L) : x ≤ n := by
  obtain ⟨i, hi, e⟩ := List.getElem_of_mem hx
  have := h.2.1 i hi
  rw [gD_lt hi, e] at this; exact this
theorem Mo.nil {n : Nat} : Mo [] n := ⟨fun i j _ h => absurd h (Nat.not_lt_zero j), fun i h => absurd h (Nat.not_lt_zero i), Nat.zero_le _⟩
theorem Mo.mono {L : List Nat} {n : Nat} (h : Mo L n) : ∀ i j, i ≤ j → j < L.length → L.getD i 0 ≤ L.getD j 0 := fun i j hij hj => by
  rcases Nat.lt_or_eq_of_le hij with q | q
  · exact Nat.le_of_lt (h.1 i j q hj)
  · subst q; exact Nat.le_refl _
theorem Mo.up {L : List Nat} {n m : Nat} (h : Mo L n) (hnm : n ≤ m) : Mo L m := ⟨h.1, fun i hi => Nat.le_trans (h.2.1 i hi) hnm, h.2.2⟩
theorem Mo.map {L : List Nat} {n m : Nat} {F : Nat → Nat} (h : Mo L n) (hF : ∀ x y, x < y → F x < F y) (hb : ∀ x, x ≤ n → F x ≤ m) : Mo (L.map F) m := by
  refine ⟨fun i j hij hj => ?_, fun i hi => ?_, by rw [List.length_map]; exact h.2.2⟩
  · rw [List.length_map] at hj
    rw [gD_map (by omega), gD_map hj]; exact hF _ _ (h.1 i j hij hj)
  · rw [List.length_map] at hi
    rw [gD_map hi]; exact hb _ (h.2.1 i hi)
theorem Mo.app {O : List Nat} {n x : Nat} (h : Mo O n) (hx : ∀ i, i < O.length → O.getD i 0 < x) (hn : x ≤ n) (hl : O.length < 6) : Mo (O ++ [x]) n := by
  refine ⟨fun i j hij hj => ?_, fun i hi => ?_, by rw [List.length_append]; exact hl⟩
  · rw [List.length_append] at hj
    replace hj : j < O.length + 1 := hj
    rcases Nat.lt_or_ge j O.length with q | q
    · rw [getD_app q, getD_app (by omega)]; exact h.1 i j hij q
    · rw [show j = O.length by omega, getD_last, getD_app (by omega)]; exact hx i (by omega)
  · rw [List.length_append] at hi
    replace hi : i < O.length + 1 := hi
    rcases Nat.lt_or_ge i O.length with q | q
    · rw [getD_app q]; exact h.2.1 i q
    · rw [show i = O.length by omega, getD_last]; exact hn
/-- the markers behind a cut -/
theorem Mo.close {L : List Nat} {n p q : Nat} (h : Mo L n) (hp : p ≤ q) (hq : q ≤ n) : Mo (lclose p q L) (n - (q - p)) := by
  have key : ∀ i, i ≤ L.length → Mo ((L.take i).foldl (lclS p q) []) (n - (q - p)) ∧ ((L.take i).foldl (lclS p q) []).length ≤ i ∧ ∀ j, j < ((L.take i).foldl (lclS p q) []).length → ∃ k, k < i ∧ ¬ (p < L.getD k 0 ∧ L.getD k 0 < q) ∧ (((L.take i).foldl (lclS p q) []).getD j 0 = (if L.getD k 0 < q then L.getD k 0 else L.getD k 0 - (q - p))) := by
    intro i
    induction i with
    | zero => intro _; exact ⟨Mo.nil, Nat.le_refl _, fun j hj => absurd hj (Nat.not_lt_zero j)⟩
    | succ i ih =>
      intro hi
      obtain ⟨h1, h2, h3⟩ := ih (by omega)
      rw [foldl_take (by omega)]
      generalize (L.take i).foldl (lclS p q) [] = O at h1 h2 h3
      unfold lclS
      by_cases c : (p < L.getD i 0 ∧ L.getD i 0 < q) ∨ (if L.getD i 0 < q then L.getD i 0 else L.getD i 0 - (q - p)) ∈ O
      · rw [if_pos c]
        exact ⟨h1, by omega, fun j hj => by obtain ⟨k, hk, e⟩ := h3 j hj; exact ⟨k, by omega, e⟩⟩
      · rw [if_neg c]
        have hLi := h.2.1 i (by omega)
        have h6 := h.2.2
        refine ⟨h1.app (fun j hj => ?_) (by split <;> omega) (by omega), by rw [List.length_append]; show O.length + 1 ≤ i + 1; omega, fun j hj => ?_⟩
        · obtain ⟨k, hk, hin, e⟩ := h3 j hj
          have hin2 := fun z => c (Or.inl z)
          have hlt := h.1 k i hk (by omega)
          have hne : O.getD j 0 ≠ (if L.getD i 0 < q then L.getD i 0 else L.getD i 0 - (q - p)) := fun z => c (Or.inr (by rw [← z, gD_lt hj]; exact List.getElem_mem hj))
          have hle : O.getD j 0 ≤ (if L.getD i 0 < q then L.getD i 0 else L.getD i 0 - (q - p)) := by
            rw [e]; split <;> split <;> omega
          omega
        · rw [List.length_append] at hj
          replace hj : j < O.length + 1 := hj
          rcases Nat.lt_or_ge j O.length with r | r
          · obtain ⟨k, hk, e⟩ := h3 j r
            exact ⟨k, by omega, by rw [getD_app r]; exact e⟩
          · exact ⟨i, by omega, fun z => c (Or.inl z), by rw [show j = O.length by omega, getD_last]⟩
  have := (key L.length (Nat.le_refl _)).1
  rw [List.take_length] at this
  exact this
theorem Mo.ins {L : List Nat} {n t : Nat} (h : Mo L n) (ht : t ≤ n) (hm : t ∉ L) (hl : L.length < 6) : Mo (lins t L) n := by
  have ex : ∃ j, j ≤ L.length ∧ (∀ k, k < j → L.getD k 0 ≤ t) ∧ (∀ k, j ≤ k → k < L.length → t < L.getD k 0) := by
    have : ∀ m, m ≤ L.length → ∃ j, j ≤ m ∧ (∀ k, k < j → L.getD k 0 ≤ t) ∧ (∀ k, j ≤ k → k < m → t < L.getD k 0) := by
      intro m
      induction m with
      | zero => intro _; exact ⟨0, Nat.le_refl _, fun k hk => absurd hk (Nat.not_lt_zero k), fun k _ hk => absurd hk (Nat.not_lt_zero k)⟩
      | succ m ih =>
        intro hm2
        obtain ⟨j, hj, h1, h2⟩ := ih (by omega)
        by_cases e : L.getD m 0 ≤ t
        · exact ⟨m + 1, Nat.le_refl _, fun k hk => Nat.le_trans (h.mono k m (by omega) (by omega)) e, fun k hk hk2 => by omega⟩
        · refine ⟨j, by omega, h1, fun k hk hk2 => ?_⟩
          rcases Nat.lt_or_ge k m with q | q
          · exact h2 k hk q
          · rw [show k = m by omega]; omega
    exact this L.length (Nat.le_refl _)
  obtain ⟨j, hj, h1, h2⟩ := ex
  rw [lins_at hj h1 h2]
  have ne : ∀ k, k < L.length → L.getD k 0 ≠ t := fun k hk z => hm (by rw [← z, gD_lt hk]; exact List.getElem_mem hk)
  have len : (L.take j ++ t :: L.drop j).length = L.length + 1 := by simp; omega
  refine ⟨fun i k hik hk => ?_, fun i hi => ?_, by rw [len]; omega⟩
  · rw [len] at hk
    rw [gD_mid hj, gD_mid hj]
    by_cases c1 : i < j
    · rw [if_pos c1]
      have a1 := h1 i c1; have a2 := ne i (by omega)
      by_cases c2 : k < j
      · rw [if_pos c2]; exact h.1 i k hik (by omega)
      · rw [if_neg c2]
        by_cases c3 : k = j
        · rw [if_pos c3]; omega
        · rw [if_neg c3]; exact h.1 i (k - 1) (by omega) (by omega)
    · rw [if_neg c1, if_neg (show ¬ k < j by omega), if_neg (show ¬ k = j by omega)]
      by_cases c2 : i = j
      · rw [if_pos c2]; exact h2 (k - 1) (by omega) (by omega)
      · rw [if_neg c2]; exact h.1 (i - 1) (k - 1) (by omega) (by omega)
  · rw [len] at hi
    rw [gD_mid hj]
    split
    · exact h.2.1 i (by omega)
    · split
      · exact ht
      · exact h.2.1 (i - 1) (by omega)
theorem Mo.erase {L : List Nat} {n d : Nat} (h : Mo L n) (hd : d < L.length) : Mo (L.eraseIdx d) n := by
  have len : (L.eraseIdx d).length = L.length - 1 := by rw [List.length_eraseIdx]; simp [hd]
  refine ⟨fun i k hik hk => ?_, fun i hi => ?_, by have := h.2.2; omega⟩
  · rw [gD_erase, gD_erase]
    split <;> split
    · exact h.1 i k hik (by omega)
    · exact h.1 i (k + 1) (by omega) (by omega)
    · omega
    · exact h.1 (i + 1) (k + 1) (by omega) (by omega)
  · rw [gD_erase]
    split
    · exact h.2.1 i (by omega)
    · exact h.2.1 (i + 1) (by omega)
