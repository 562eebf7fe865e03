/-! runs, told by the ticks alone -/
def stB (T : Nat → Nat) (k : Nat) : Bool := decide (k = 0 ∨ T k ≠ T (k - 1))
def cS (T : Nat → Nat) (k : Nat) : Nat := zcnt (stB T) 0 k
def nd (T : Nat → Nat) (n k : Nat) : Nat := if fidx (fun j => decide (k < j) && stB T j) n < 0 then n else (fidx (fun j => decide (k < j) && stB T j) n).toNat
def lenF (T : Nat → Nat) (n k : Nat) : Nat := nd T n k - k
theorem lenF_of {T : Nat → Nat} {n k m : Nat} (hm : 0 < m) (hle : k + m ≤ n) (h : ∀ j, k < j → j < k + m → stB T j = false) (h2 : k + m = n ∨ stB T (k + m) = true) : lenF T n k = m := by
  unfold lenF nd
  rcases Nat.lt_or_ge (k + m) n with q | q
  · have e : fidx (fun j => decide (k < j) && stB T j) n = ((k + m : Nat) : Int) := fidx_hit q (fun j hj => by
      by_cases c : k < j
      · simp only [c, decide_true, Bool.true_and]; exact h j c hj
      · simp [c]) (by
      have h3 : stB T (k + m) = true := h2.resolve_left (by omega)
      simp only [h3, Bool.and_true, decide_eq_true_eq]; omega)
    rw [e, if_neg (by omega)]; omega
  · have e : fidx (fun j => decide (k < j) && stB T j) n = -1 := fidx_no (fun j hj => by
      by_cases c : k < j
      · simp only [c, decide_true, Bool.true_and]; exact h j c (by omega)
      · simp [c])
    rw [e, if_pos (by omega)]; omega
section ISR
variable {T : Nat → Nat} {n m : Nat} {s l v : Nat → Nat}
theorem IsR.st (h : IsR T n m s l v) {r : Nat} (hr : r < m) : stB T (s r) = true := by
  unfold stB
  cases r with
  | zero => simp [h.2.2.1 (by omega)]
  | succ r =>
    have e := h.2.2.2.1 r hr
    have h6 := h.2.2.2.2.2.1 r (by omega)
    have h6' := h.2.2.2.2.2.1 (r + 1) hr
    have a1 := h.2.2.2.2.2.2.1 (r + 1) hr (s (r + 1)) (Nat.le_refl _) (by omega)
    have a2 := h.2.2.2.2.2.2.1 r (by omega) (s (r + 1) - 1) (by omega) (by omega)
    have a3 := h.2.2.2.2.2.2.2 r hr
    exact decide_eq_true (Or.inr (by rw [a1, a2]; exact fun z => a3 z.symm))
theorem IsR.inn (h : IsR T n m s l v) {r j : Nat} (hr : r < m) (h1 : s r < j) (h2 : j < s r + l r) : stB T j = false := by
  have a1 := h.2.2.2.2.2.2.1 r hr j (by omega) h2
  have a2 := h.2.2.2.2.2.2.1 r hr (j - 1) (by omega) (by omega)
  unfold stB
  exact decide_eq_false (fun z => by rcases z with z | z; omega; exact z (by rw [a1, a2]))
theorem IsR.nxt (h : IsR T n m s l v) {r : Nat} (hr : r < m) : s r + l r = n ∨ (r + 1 < m ∧ s (r + 1) = s r + l r) := by
  by_cases c : r + 1 < m
  · exact Or.inr ⟨c, h.2.2.2.1 r c⟩
  · have := h.2.2.2.2.1 (by omega)
    rw [show m - 1 = r by omega] at this
    exact Or.inl this
theorem IsR.cov (h : IsR T n m s l v) : ∀ r, r < m → ∀ k, k < s r + l r → ∃ q, q ≤ r ∧ s q ≤ k ∧ k < s q + l q := by
  intro r
  induction r with
  | zero => intro hr k hk; exact ⟨0, Nat.le_refl _, by rw [h.2.2.1 (by omega)]; exact Nat.zero_le _, hk⟩
  | succ r ih =>
    intro hr k hk
    have e := h.2.2.2.1 r hr
    by_cases c : k < s (r + 1)
    · obtain ⟨q, q1, q2⟩ := ih (by omega) k (by omega)
      exact ⟨q, by omega, q2⟩
    · exact ⟨r + 1, Nat.le_refl _, by omega, hk⟩
theorem IsR.run (h : IsR T n m s l v) {k : Nat} (hk : k < n) : ∃ r, r < m ∧ s r ≤ k ∧ k < s r + l r := by
  have hm : 0 < m := by
    rcases Nat.eq_zero_or_pos m with q | q
    · have := h.2.1 q; omega
    · exact q
  obtain ⟨q, q1, q2⟩ := h.cov (m - 1) (by omega) k (by rw [h.2.2.2.2.1 hm]; exact hk)
  exact ⟨q, by omega, q2⟩
theorem IsR.back (h : IsR T n m s l v) {k : Nat} (hk : k < n) (hs : stB T k = true) : ∃ r, r < m ∧ k = s r := by
  obtain ⟨r, hr, h1, h2⟩ := h.run hk
  refine ⟨r, hr, ?_⟩
  by_cases c : s r < k
  · rw [h.inn hr c h2] at hs; cases hs
  · omega
theorem IsR.mono (h : IsR T n m s l v) : ∀ r, r < m → ∀ q, q < r → s q < s r := by
  intro r
  induction r with
  | zero => intro _ q hq; omega
  | succ r ih =>
    intro hr q hq
    have e := h.2.2.2.1 r hr
    have h6 := (h.2.2.2.2.2.1 r (by omega)).1
    by_cases c : q = r
    · subst c; omega
    · have := ih (by omega) q (by omega); omega
theorem IsR.lenR (h : IsR T n m s l v) {r : Nat} (hr : r < m) : lenF T n (s r) = l r := by
  have h6 := h.2.2.2.2.2.1 r hr
  exact lenF_of h6.1 h6.2 (fun j h1 h2 => h.inn hr h1 h2) (by
    rcases h.nxt hr with q | ⟨q, e⟩
    · exact Or.inl q
    · exact Or.inr (by rw [← e]; exact h.st q))
theorem IsR.lev (h : IsR T n m s l v) {r : Nat} (hr : r < m) : T (s r) = v r := h.2.2.2.2.2.2.1 r hr _ (Nat.le_refl _) (by have := (h.2.2.2.2.2.1 r hr).1; omega)
theorem cS_s {k : Nat} : cS T (k + 1) = cS T k + (if stB T k then 1 else 0) := by unfold cS; rw [zcnt, Nat.zero_add]
theorem IsR.cS_in (h : IsR T n m s l v) {r : Nat} (hr : r < m) (h0 : cS T (s r) = r) : ∀ j, j < l r → cS T (s r + (j + 1)) = r + 1 := by
  intro j
  induction j with
  | zero => intro _; rw [show s r + (0 + 1) = s r + 1 by omega, cS_s, h0, if_pos (h.st hr)]
  | succ j ih => intro hj; rw [show s r + (j + 1 + 1) = (s r + (j + 1)) + 1 by omega, cS_s, ih (by omega), if_neg (by rw [h.inn hr (by omega) (by omega)]; decide)]
theorem IsR.cS_at (h : IsR T n m s l v) : ∀ r, r < m → cS T (s r) = r := by
  intro r
  induction r with
  | zero => intro hr; rw [h.2.2.1 hr]; rfl
  | succ r ih =>
    intro hr
    have h6 := (h.2.2.2.2.2.1 r (by omega)).1
    rw [h.2.2.2.1 r hr]
    have := h.cS_in (by omega : r < m) (ih (by omega)) (l r - 1) (by omega)
    rw [show l r - 1 + 1 = l r by omega] at this
    exact this
theorem IsR.cS_n (h : IsR T n m s l v) : cS T n = m := by
  rcases Nat.eq_zero_or_pos m with q | q
  · rw [h.2.1 q, q]; rfl
  · have h6 := (h.2.2.2.2.2.1 (m - 1) (by omega)).1
    have := h.cS_in (by omega : m - 1 < m) (h.cS_at _ (by omega)) (l (m - 1) - 1) (by omega)
    rw [show s (m - 1) + (l (m - 1) - 1 + 1) = n by have := h.2.2.2.2.1 q; omega] at this
    omega
theorem tsum_app {G : Nat → Nat} {p a : Nat} : ∀ {c : Nat}, tsum G p (a + c) = tsum G p a + tsum G (p + a) c
  | 0 => by simp [tsum]
  | c + 1 => by rw [show a + (c + 1) = (a + c) + 1 by omega, tsum, tsum_app (c := c), tsum, Nat.add_assoc p a c]; omega
theorem IsR.tsum_at (h : IsR T n m s l v) (G : Nat → Nat) : ∀ r, r < m → tsum G 0 (s r) = nsum (fun r => tsum G (s r) (l r)) r := by
  intro r
  induction r with
  | zero => intro hr; rw [h.2.2.1 hr]; rfl
  | succ r ih =>
    intro hr
    rw [h.2.2.2.1 r hr, tsum_app, ih (by omega), Nat.zero_add, nsum]
theorem IsR.tsum_n (h : IsR T n m s l v) (G : Nat → Nat) : tsum G 0 n = nsum (fun r => tsum G (s r) (l r)) m := by
  rcases Nat.eq_zero_or_pos m with q | q
  · rw [h.2.1 q, q]; rfl
  · rw [← h.2.2.2.2.1 q, tsum_app, h.tsum_at G _ (by omega), Nat.zero_add]
    rw [show m = (m - 1) + 1 by omega, nsum, show m - 1 + 1 - 1 = m - 1 by omega]
theorem zcnt_t {P : Nat → Bool} {p : Nat} : ∀ {c : Nat}, zcnt P p c = tsum (fun k => if P k then 1 else 0) p c
  | 0 => rfl
  | c + 1 => by rw [zcnt, tsum, zcnt_t]
theorem tsum_const {G : Nat → Nat} {p x : Nat} : ∀ {c : Nat}, (∀ k, p ≤ k → k < p + c → G k = x) → tsum G p c = x * c
  | 0, _ => rfl
  | c + 1, h => by rw [tsum, tsum_const (c := c) (fun k h1 h2 => h k h1 (by omega)), h (p + c) (by omega) (by omega), Nat.mul_succ]
theorem tsum_one {G : Nat → Nat} {p : Nat} {c : Nat} (hc : 0 < c) (h : ∀ k, p < k → k < p + c → G k = 0) : tsum G p c = G p := by
  rw [show c = 1 + (c - 1) by omega, tsum_app, tsum_const (x := 0) (c := c - 1) (fun k h1 h2 => h k (by omega) (by omega)), tsum, tsum]; simp
theorem IsR.rests (h : IsR T n m s l v) : nsum (fun r => if v r = 0 then l r else 0) m = zcnt (fun k => decide (T k = 0)) 0 n := by
  rw [zcnt_t, h.tsum_n]
  refine nsum_congr (fun r hr => ?_)
  by_cases c : v r = 0
  · rw [if_pos c, tsum_const (x := 1) (fun k h1 h2 => by rw [if_pos (by rw [h.2.2.2.2.2.2.1 r hr k h1 h2, c]; rfl)]), Nat.one_mul]
  · rw [if_neg c, tsum_const (x := 0) (fun k h1 h2 => by rw [if_neg (by rw [h.2.2.2.2.2.2.1 r hr k h1 h2]; simpa using c)]), Nat.zero_mul]
theorem IsR.hums (h : IsR T n m s l v) : nsum (fun r => if v r = 0 then 0 else l r) m = n - zcnt (fun k => decide (T k = 0)) 0 n := by
  have e1 : nsum (fun r => if v r = 0 then 0 else l r) m = zcnt (fun k => decide (T k ≠ 0)) 0 n := by
    rw [zcnt_t, h.tsum_n]
    refine nsum_congr (fun r hr => ?_)
    by_cases c : v r = 0
    · rw [if_pos c, tsum_const (x := 0) (fun k h1 h2 => by rw [if_neg (by rw [h.2.2.2.2.2.2.1 r hr k h1 h2, c]; decide)]), Nat.zero_mul]
    · rw [if_neg c, tsum_const (x := 1) (fun k h1 h2 => by rw [if_pos (by rw [h.2.2.2.2.2.2.1 r hr k h1 h2]; simpa using c)]), Nat.one_mul]
  have e2 : ∀ c, zcnt (fun k => decide (T k = 0)) 0 c + zcnt (fun k => decide (T k ≠ 0)) 0 c = c := by
    intro c
    induction c with
    | zero => rfl
    | succ c ih =>
      rw [zcnt, zcnt]
      by_cases q : T (0 + c) = 0
      · rw [if_pos (by simpa using q), if_neg (by simpa using q)]; omega
      · rw [if_neg (by simpa using q), if_pos (by simpa using q)]; omega
  rw [e1]; have := e2 n; omega
theorem IsR.loud (h : IsR T n m s l v) : nsum (fun r => v r * l r) m = tsum T 0 n := by
  rw [h.tsum_n]
  exact nsum_congr (fun r hr => (tsum_const (fun k h1 h2 => h.2.2.2.2.2.2.1 r hr k h1 h2)).symm)
def rsB (T : Nat → Nat) (k : Nat) : Bool := stB T k && decide (T k = 0)
theorem IsR.rsts (h : IsR T n m s l v) : nsum (fun r => if v r = 0 then 1 else 0) m = zcnt (rsB T) 0 n := by
  rw [zcnt_t, h.tsum_n]
  refine nsum_congr (fun r hr => ?_)
  rw [tsum_one (h.2.2.2.2.2.1 r hr).1 (fun k h1 h2 => by unfold rsB; rw [h.inn hr h1 h2]; rfl)]
  unfold rsB
  rw [h.st hr, h.lev hr]
  by_cases c : v r = 0 <;> simp [c]
/-- how many rests are longer, or as long and earlier -/
def rkF (T : Nat → Nat) (n k : Nat) : Nat := zcnt (fun q => rsB T q && decide (lenF T n k < lenF T n q ∨ (lenF T n q = lenF T n k ∧ q < k))) 0 n
theorem IsR.rank (h : IsR T n m s l v) {t : Nat} (ht : t < m) : nsum (rbF l v t) m = rkF T n (s t) := by
  unfold rkF
  rw [zcnt_t, h.tsum_n]
  refine nsum_congr (fun r hr => ?_)
  rw [tsum_one (h.2.2.2.2.2.1 r hr).1 (fun k h1 h2 => by unfold rsB; rw [h.inn hr h1 h2]; rfl)]
  unfold rsB rbF
  rw [h.st hr, h.lev hr, h.lenR hr, h.lenR ht]
  have e : s r < s t ↔ r < t := by
    constructor
    · intro q
      rcases Nat.lt_trichotomy r t with z | z | z
      · exact z
      · subst z; omega
      · have := h.mono r hr t z; omega
    · exact fun q => h.mono t ht r q
  by_cases c : v r = 0
  · by_cases d : l t < l r ∨ (l r = l t ∧ r < t)
    · rw [if_pos ⟨c, d⟩, if_pos (by simp [c, e]; exact d)]
    · rw [if_neg (fun z => d z.2), if_neg (by simp [c, e]; exact ⟨by omega, fun q => by omega⟩)]
  · rw [if_neg (fun z => c z.1), if_neg (by simp [c])]
/-- the first run of a kind, and the first tick of it -/
theorem IsR.first (h : IsR T n m s l v) {P Q : Nat → Bool} (hPQ : ∀ r, r < m → Q (s r) = P r) (hQ : ∀ k, k < n → stB T k = false → Q k = false) : (fidx P m = -1 ∧ fidx Q n = -1) ∨ ∃ r, r < m ∧ fidx P m = (r : Int) ∧ fidx Q n = (s r : Int) := by
  rcases fidx_cases P m with ⟨e, hn⟩ | ⟨r, hr, e, hP, hn⟩
  · refine Or.inl ⟨e, fidx_no (fun k hk => ?_)⟩
    by_cases c : stB T k = true
    · obtain ⟨q, hq, e2⟩ := h.back hk c
      rw [e2, hPQ q hq]; exact hn q hq
    · exact hQ k hk (by simpa using c)
  · have h6 := h.2.2.2.2.2.1 r hr
    refine Or.inr ⟨r, hr, e, fidx_hit (by omega) (fun k hk => ?_) (by rw [hPQ r hr]; exact hP)⟩
    by_cases c : stB T k = true
    · obtain ⟨q, hq, e2⟩ := h.back (by omega) c
      rw [e2, hPQ q hq]
      refine hn q ?_
      rcases Nat.lt_trichotomy q r with z | z | z
      · exact z
      · subst z; omega
      · have := h.mono q hq r z; omega
    · exact hQ k (by omega) (by simpa using c)
end ISR
/-- the tick where a run begins, -1 if there is none -/
def spStart (T : Nat → Nat) (n : Nat) (x : Int) : Int := fidx (fun k => stB T k && decide ((cS T k : Int) = x)) n
def spNext (T : Nat → Nat) (n t : Nat) : Int := fidx (fun k => stB T k && decide (t < k)) n
def spFind (T : Nat → Nat) (n x : Nat) (q : Int) : Int := fidx (fun k => stB T k && (decide (T k = x) && decide (q ≤ lenF T n k))) n
def spRank (T : Nat → Nat) (n : Nat) (x : Int) : Int := fidx (fun k => rsB T k && decide ((rkF T n k : Int) = x)) n
theorem IsR.start {T : Nat → Nat} {n m : Nat} {s l v : Nat → Nat} (h : IsR T n m s l v) {x : Int} : spStart T n x = if 0 ≤ x ∧ x < m then (s x.toNat : Int) else -1 := by
  unfold spStart
  rcases h.first (P := fun r => decide ((r : Int) = x)) (Q := fun k => stB T k && decide ((cS T k : Int) = x)) (fun r hr => by rw [h.st hr, h.cS_at r hr]; rfl) (fun k hk c => by rw [c]; rfl) with ⟨e, e2⟩ | ⟨r, hr, e, e2⟩
  · rw [e2]
    split
    · rename_i c
      rcases fidx_cases (fun r => decide ((r : Int) = x)) m with ⟨-, hn⟩ | ⟨i, h1, h2, -⟩
      · have := hn x.toNat (by omega)
        exact absurd (of_decide_eq_false this) (by omega)
      · omega
    · rfl
  · rcases fidx_cases (fun r => decide ((r : Int) = x)) m with ⟨h2, -⟩ | ⟨i, h1, h2, h3, -⟩
    · omega
    · have h4 := of_decide_eq_true h3
      rw [e2, if_pos (by omega), show x.toNat = r by omega]
