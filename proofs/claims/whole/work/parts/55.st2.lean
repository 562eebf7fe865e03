/-! the world behind the start -/
theorem lw_sx {g : zGT} {w : zW} {b : Nat} (hb : b + 6 < zn g) (e0 : w b = .inr (10, [.ref (za g (b + 1)), .ref (za g (b + 3)), .ref (za g (b + 5)), .int 0])) (e1 : w (b + 1) = .inr (5, [.ref (za g (b + 1 + 1)), .int 0])) (e2 : w (b + 1 + 1) = zI g 200 (fun _ => 0)) (e3 : w (b + 3) = .inr (6, [.ref (za g (b + 3 + 1)), .int 0])) (e4 : w (b + 3 + 1) = zI g 6 (fun _ => 0)) (e5 : w (b + 5) = .inr (5, [.ref (za g (b + 5 + 1)), .int 0])) (e6 : w (b + 5 + 1) = zI g 200 (fun _ => 0)) : Sx g w b ([], [], [], 0) :=
  ⟨⟨hb, e0, ⟨_, ⟨by omega, e1, e2, Nat.zero_le _⟩, fun k hk => absurd hk (Nat.not_lt_zero k)⟩, ⟨by omega, e3, ⟨_, e4, fun k hk => absurd hk (Nat.not_lt_zero k)⟩, Nat.zero_le _, (fun x hx => nomatch hx)⟩, ⟨_, ⟨by omega, e5, e6, Nat.zero_le _⟩, fun k hk => absurd hk (Nat.not_lt_zero k)⟩⟩, fun i j h1 h2 => absurd h2 (Nat.not_lt_zero j), fun i h => absurd h (Nat.not_lt_zero i), Nat.zero_le _⟩
def wE0 (g : zGT) : zW := va_up (fun _ => .inr (0, [])) 0 (.inr (11, [.null, .null, .null, .null, .null, .null, .null, .null, .null, .null, .int 0, .int 0, .int 0]))
def wE1 (g : zGT) : zW := yX12 g (wE0 g) 0 1
def wE2 (g : zGT) : zW := va_up (wE1 g) 101 (.inr (12, [.int 0, .int 0, .int 0, .int 0, .int 0, .null, .null, .null, .null, .null, .null, .null, .null, .null, .null, .int 0, .int 0, .int 0, .int 0, .int 0, .int 0, .int 0]))
def wE3 (g : zGT) : zW := yX13 g (wE2 g) 101 102
def wE (g : zGT) : zW := va_up (va_up (wE3 g) 112 (zJ g (fun _ => 0))) 113 (zQ g (fun _ => 0))
set_option maxRecDepth 1000000 in
set_option maxHeartbeats 4000000 in
theorem lw_sx_1 {l : Launch} {s : State} {D : va_G} {c : Nat → ClassId} {E : Nat → Nat} : Sx (lG l s D c E) (fun k => wE (lG l s D c E) (wP k)) 1 ([], [], [], 0) := lw_sx (Nat.le_of_ble_eq_true rfl) rfl rfl rfl rfl rfl rfl rfl
set_option maxRecDepth 1000000 in
set_option maxHeartbeats 4000000 in
theorem lw_sx_66 {l : Launch} {s : State} {D : va_G} {c : Nat → ClassId} {E : Nat → Nat} : Sx (lG l s D c E) (fun k => wE (lG l s D c E) (wP k)) 66 ([], [], [], 0) := lw_sx (Nat.le_of_ble_eq_true rfl) rfl rfl rfl rfl rfl rfl rfl
set_option maxRecDepth 1000000 in
set_option maxHeartbeats 4000000 in
theorem lw_sx_73 {l : Launch} {s : State} {D : va_G} {c : Nat → ClassId} {E : Nat → Nat} : Sx (lG l s D c E) (fun k => wE (lG l s D c E) (wP k)) 73 ([], [], [], 0) := lw_sx (Nat.le_of_ble_eq_true rfl) rfl rfl rfl rfl rfl rfl rfl
set_option maxRecDepth 1000000 in
set_option maxHeartbeats 4000000 in
theorem lw_sx_10 {l : Launch} {s : State} {D : va_G} {c : Nat → ClassId} {E : Nat → Nat} : Sx (lG l s D c E) (fun k => wE (lG l s D c E) (wP k)) 10 ([], [], [], 0) := lw_sx (Nat.le_of_ble_eq_true rfl) rfl rfl rfl rfl rfl rfl rfl
set_option maxRecDepth 1000000 in
set_option maxHeartbeats 4000000 in
theorem lw_sx_17 {l : Launch} {s : State} {D : va_G} {c : Nat → ClassId} {E : Nat → Nat} : Sx (lG l s D c E) (fun k => wE (lG l s D c E) (wP k)) 17 ([], [], [], 0) := lw_sx (Nat.le_of_ble_eq_true rfl) rfl rfl rfl rfl rfl rfl rfl
set_option maxRecDepth 1000000 in
set_option maxHeartbeats 4000000 in
theorem lw_sx_24 {l : Launch} {s : State} {D : va_G} {c : Nat → ClassId} {E : Nat → Nat} : Sx (lG l s D c E) (fun k => wE (lG l s D c E) (wP k)) 24 ([], [], [], 0) := lw_sx (Nat.le_of_ble_eq_true rfl) rfl rfl rfl rfl rfl rfl rfl
set_option maxRecDepth 1000000 in
set_option maxHeartbeats 4000000 in
theorem lw_sx_31 {l : Launch} {s : State} {D : va_G} {c : Nat → ClassId} {E : Nat → Nat} : Sx (lG l s D c E) (fun k => wE (lG l s D c E) (wP k)) 31 ([], [], [], 0) := lw_sx (Nat.le_of_ble_eq_true rfl) rfl rfl rfl rfl rfl rfl rfl
set_option maxRecDepth 1000000 in
set_option maxHeartbeats 4000000 in
theorem lw_sx_38 {l : Launch} {s : State} {D : va_G} {c : Nat → ClassId} {E : Nat → Nat} : Sx (lG l s D c E) (fun k => wE (lG l s D c E) (wP k)) 38 ([], [], [], 0) := lw_sx (Nat.le_of_ble_eq_true rfl) rfl rfl rfl rfl rfl rfl rfl
set_option maxRecDepth 1000000 in
set_option maxHeartbeats 4000000 in
theorem lw_sx_45 {l : Launch} {s : State} {D : va_G} {c : Nat → ClassId} {E : Nat → Nat} : Sx (lG l s D c E) (fun k => wE (lG l s D c E) (wP k)) 45 ([], [], [], 0) := lw_sx (Nat.le_of_ble_eq_true rfl) rfl rfl rfl rfl rfl rfl rfl
set_option maxRecDepth 1000000 in
set_option maxHeartbeats 4000000 in
theorem lw_sx_52 {l : Launch} {s : State} {D : va_G} {c : Nat → ClassId} {E : Nat → Nat} : Sx (lG l s D c E) (fun k => wE (lG l s D c E) (wP k)) 52 ([], [], [], 0) := lw_sx (Nat.le_of_ble_eq_true rfl) rfl rfl rfl rfl rfl rfl rfl
set_option maxRecDepth 1000000 in
set_option maxHeartbeats 4000000 in
theorem lw_sx_59 {l : Launch} {s : State} {D : va_G} {c : Nat → ClassId} {E : Nat → Nat} : Sx (lG l s D c E) (fun k => wE (lG l s D c E) (wP k)) 59 ([], [], [], 0) := lw_sx (Nat.le_of_ble_eq_true rfl) rfl rfl rfl rfl rfl rfl rfl
set_option maxRecDepth 1000000 in
set_option maxHeartbeats 4000000 in
theorem lw_hx {l : Launch} {s : State} {D : va_G} {c : Nat → ClassId} {E : Nat → Nat} : Hx (lG l s D c E) (fun k => wE (lG l s D c E) (wP k)) 8 [] := by
  refine ⟨0, fun _ => ([], [], [], 0), Nat.le_of_ble_eq_true rfl, rfl, ⟨_, rfl, fun k hk => ?_⟩, by decide, Nat.zero_le _, fun k hk => ?_, fun i hi => absurd hi (Nat.not_lt_zero i)⟩
  · rcases (show k = 0 ∨ k = 1 ∨ k = 2 ∨ k = 3 ∨ k = 4 ∨ k = 5 ∨ k = 6 ∨ k = 7 by omega) with rfl | rfl | rfl | rfl | rfl | rfl | rfl | rfl <;> rfl
  · rcases (show k = 0 ∨ k = 1 ∨ k = 2 ∨ k = 3 ∨ k = 4 ∨ k = 5 ∨ k = 6 ∨ k = 7 by omega) with rfl | rfl | rfl | rfl | rfl | rfl | rfl | rfl
    · exact lw_sx_10
    · exact lw_sx_17
    · exact lw_sx_24
    · exact lw_sx_31
    · exact lw_sx_38
    · exact lw_sx_45
    · exact lw_sx_52
    · exact lw_sx_59
set_option maxRecDepth 1000000 in
set_option maxHeartbeats 4000000 in
theorem lw_scx {l : Launch} {s : State} {D : va_G} {c : Nat → ClassId} {E : Nat → Nat} : Scx (lG l s D c E) (fun k => wE (lG l s D c E) (wP k)) 85 [] := by
  refine ⟨fun _ => (0, 0, 0, 0), Nat.le_of_ble_eq_true rfl, rfl, ⟨_, rfl, fun k hk => ?_⟩, Nat.zero_le _, fun k hk => ⟨Nat.le_of_ble_eq_true rfl, ?_⟩, fun i hi => absurd hi (Nat.not_lt_zero i)⟩
  · rcases (show k = 0 ∨ k = 1 ∨ k = 2 ∨ k = 3 ∨ k = 4 ∨ k = 5 ∨ k = 6 ∨ k = 7 by omega) with rfl | rfl | rfl | rfl | rfl | rfl | rfl | rfl <;> rfl
  · rcases (show k = 0 ∨ k = 1 ∨ k = 2 ∨ k = 3 ∨ k = 4 ∨ k = 5 ∨ k = 6 ∨ k = 7 by omega) with rfl | rfl | rfl | rfl | rfl | rfl | rfl | rfl <;> rfl
set_option maxRecDepth 1000000 in
set_option maxHeartbeats 4000000 in
theorem lw_rn {l : Launch} {s : State} {D : va_G} {c : Nat → ClassId} {E : Nat → Nat} : Rn (lG l s D c E) (fun k => wE (lG l s D c E) (wP k)) 80 0 (fun _ => 0) (fun _ => 0) (fun _ => 0) := ⟨Nat.le_of_ble_eq_true rfl, rfl, by decide, _, _, _, rfl, rfl, rfl, fun r hr => absurd hr (Nat.not_lt_zero r)⟩
set_option maxRecDepth 1000000 in
set_option maxHeartbeats 4000000 in
theorem lw_inp {l : Launch} {s : State} {D : va_G} {c : Nat → ClassId} {E : Nat → Nat} : Inp (lG l s D c E) (fun k => wE (lG l s D c E) (wP k)) 95 [] 0 0 := ⟨Nat.le_of_ble_eq_true rfl, rfl, ⟨_, rfl, fun k hk => absurd hk (Nat.not_lt_zero k)⟩, Nat.zero_le _, (fun x hx => nomatch hx), Nat.zero_le _, Nat.zero_le _⟩
set_option maxRecDepth 1000000 in
set_option maxHeartbeats 4000000 in
theorem lw_ld {l : Launch} {s : State} {D : va_G} {c : Nat → ClassId} {E : Nat → Nat} : LvT (lG l s D c E) (fun k => wE (lG l s D c E) (wP k)) 97 (fun _ => 0) 0 := ⟨_, ⟨Nat.le_of_ble_eq_true rfl, rfl, rfl, Nat.zero_le _⟩, fun k hk => absurd hk (Nat.not_lt_zero k)⟩
set_option maxRecDepth 1000000 in
set_option maxHeartbeats 4000000 in
theorem lw_ox {l : Launch} {s : State} {D : va_G} {c : Nat → ClassId} {E : Nat → Nat} : Ox (lG l s D c E) (fun k => wE (lG l s D c E) (wP k)) 99 [] := ⟨Nat.le_of_ble_eq_true rfl, rfl, ⟨_, rfl, fun k hk => absurd hk (Nat.not_lt_zero k)⟩, Nat.zero_le _, (fun x hx => nomatch hx)⟩
set_option maxRecDepth 1000000 in
set_option maxHeartbeats 4000000 in
theorem lw_rx {l : Launch} {s : State} {D : va_G} {c : Nat → ClassId} {E : Nat → Nat} : Rx (lG l s D c E) (fun k => wE (lG l s D c E) (wP k)) 0 ([], [], [], 0) [] none [] [] (-1) (-1) := ⟨Nat.le_of_ble_eq_true rfl, rfl, lw_sx_1, lw_hx, ⟨_, lw_sx_66⟩, ⟨_, lw_sx_73, fun _ h => nomatch h⟩, ⟨0, _, _, _, lw_rn⟩, ⟨_, rfl⟩, ⟨[], lw_scx⟩, ⟨0, 0, lw_inp⟩, ⟨_, _, lw_ld⟩, lw_ox⟩
set_option maxRecDepth 1000000 in
set_option maxHeartbeats 4000000 in
theorem lw_mx {l : Launch} {s : State} {D : va_G} {c : Nat → ClassId} {E : Nat → Nat} : Mx (lG l s D c E) (fun k => wE (lG l s D c E) (wP k)) 101 (nI 0) (nI 0) (-1) (-1) (nI 0) (nI 0) (nI 0) (nI 0) (nI 0) (nI 0) (nI 0) (nI 0) (fun _ => 0) (fun _ => 0) (fun _ => 0) (fun _ => 0) (fun _ => 0) (fun _ => 0) (fun _ => 0) (fun _ => 0) := ⟨Nat.le_of_ble_eq_true rfl, rfl, rfl, rfl, rfl, rfl, rfl, rfl, rfl, rfl, rfl, rfl⟩
theorem lw_vs : VS (fun _ => 0) ([], [], [], 0) := ⟨⟨rfl, rfl, rfl, rfl⟩, fun _ _ => rfl, fun m hm => absurd hm (Nat.not_lt_zero m), fun m hm => absurd hm (Nat.not_lt_zero m), ⟨Nat.zero_le _, Nat.zero_le _, fun i j h1 h2 => absurd h2 (Nat.not_lt_zero j), fun i h => absurd h (Nat.not_lt_zero i), Nat.zero_le _⟩, fun _ => Nat.zero_le _, fun _ => Nat.zero_le _⟩
set_option maxRecDepth 1000000 in
set_option maxHeartbeats 4000000 in
theorem lw_init {l : Launch} {s : State} {D : va_G} {c : Nat → ClassId} {E : Nat → Nat} : LwI (lG l s D c E) (fun k => wE (lG l s D c E) (wP k)) ([], [], [], 0) [] none [] [] (-1) (-1) := ⟨Nat.le_of_ble_eq_true rfl, lw_rx, ⟨0, nI 0, nI 0, nI 0, nI 0, nI 0, _, _, _, _, _, _, _, _, lw_mx, lw_vs, ⟨Nat.zero_le _, fun i hi => absurd hi (Nat.not_lt_zero i)⟩, (fun _ h => nomatch h), ⟨Nat.zero_le _, fun k hk => absurd hk (Nat.not_lt_zero k), (fun x hx => nomatch hx)⟩, ⟨Nat.zero_le _, fun k hk => absurd hk (Nat.not_lt_zero k), (fun x hx => nomatch hx)⟩, by decide, by decide⟩, ⟨_, rfl⟩, ⟨_, rfl⟩⟩
