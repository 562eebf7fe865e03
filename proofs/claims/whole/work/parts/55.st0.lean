/-! what the premises say of the start -/
def lw_nar : List Cond := flatC (Jvm.Cond.and given_1 narrow_1)
theorem ln {c : Cond} {i : Nat} (h : lw_nar[i]? = some c) : c ∈ lw_nar := List.mem_of_getElem? h
theorem tz {w : Cond} (h : w ∈ ztb) : w ∈ lw_tbl := (List.mem_filter.mp h).1
set_option maxRecDepth 100000 in
set_option maxHeartbeats 4000000 in
theorem st_fault {args : Array Value} {s : State} {A : Nat → Prop} (hs : ∀ c ∈ lw_nar, c.before args s = true) (ht : ∀ w ∈ lw_tbl, w.before args s = true) (hA : ∀ a : Nat, a < s.heap.size → ¬ A a) : ∃ ad : Nat → Nat, va_En "RailTimeline$Fault" "LRailTimeline$Fault;" zfl [] ad A s s.heap ∧ ∀ i, i < 5 → (Term.static "RailTimeline$Fault" (zfl.getD i "") "LRailTimeline$Fault;").eval args s none [] s = some (.ref (ad i)) := by
  refine va_Enof2 (fun i hi => ?_) (ht _ (tz ki_RX2)) (fun i hi => ?_) ?_ (fun i j hi hj hij => ?_) hA
  · have hi : i < 5 := hi
    rcases (show i = 0 ∨ i = 1 ∨ i = 2 ∨ i = 3 ∨ i = 4 by omega) with rfl | rfl | rfl | rfl | rfl
    · exact (ht _ (tl_2 (i := 31) (by decide +kernel)))
    · exact (ht _ (tl_2 (i := 45) (by decide +kernel)))
    · exact (ht _ (tl_2 (i := 27) (by decide +kernel)))
    · exact (ht _ (tl_2 (i := 29) (by decide +kernel)))
    · exact (ht _ (tl_2 (i := 67) (by decide +kernel)))
  · have hi : i < 5 := hi
    rcases (show i = 0 ∨ i = 1 ∨ i = 2 ∨ i = 3 ∨ i = 4 by omega) with rfl | rfl | rfl | rfl | rfl
    · exact (hs _ (ln (i := 38) (by decide +kernel)))
    · exact (hs _ (ln (i := 44) (by decide +kernel)))
    · exact (hs _ (ln (i := 29) (by decide +kernel)))
    · exact (hs _ (ln (i := 33) (by decide +kernel)))
    · exact (hs _ (ln (i := 51) (by decide +kernel)))
  · exact fun q h => nomatch h
  · have hi : i < 5 := hi
    have hj : j < 5 := hj
    rcases (show i = 0 ∨ i = 1 ∨ i = 2 ∨ i = 3 ∨ i = 4 by omega) with rfl | rfl | rfl | rfl | rfl
    · rcases (show j = 0 ∨ j = 1 ∨ j = 2 ∨ j = 3 ∨ j = 4 by omega) with rfl | rfl | rfl | rfl | rfl
      · exact absurd rfl hij
      · exact Or.inl (hs _ (ln (i := 50) (by decide +kernel)))
      · exact Or.inr (hs _ (ln (i := 42) (by decide +kernel)))
      · exact Or.inr (hs _ (ln (i := 43) (by decide +kernel)))
      · exact Or.inl (hs _ (ln (i := 57) (by decide +kernel)))
    · rcases (show j = 0 ∨ j = 1 ∨ j = 2 ∨ j = 3 ∨ j = 4 by omega) with rfl | rfl | rfl | rfl | rfl
      · exact Or.inr (hs _ (ln (i := 50) (by decide +kernel)))
      · exact absurd rfl hij
      · exact Or.inr (hs _ (ln (i := 48) (by decide +kernel)))
      · exact Or.inr (hs _ (ln (i := 49) (by decide +kernel)))
      · exact Or.inl (hs _ (ln (i := 58) (by decide +kernel)))
    · rcases (show j = 0 ∨ j = 1 ∨ j = 2 ∨ j = 3 ∨ j = 4 by omega) with rfl | rfl | rfl | rfl | rfl
      · exact Or.inl (hs _ (ln (i := 42) (by decide +kernel)))
      · exact Or.inl (hs _ (ln (i := 48) (by decide +kernel)))
      · exact absurd rfl hij
      · exact Or.inl (hs _ (ln (i := 37) (by decide +kernel)))
      · exact Or.inl (hs _ (ln (i := 55) (by decide +kernel)))
    · rcases (show j = 0 ∨ j = 1 ∨ j = 2 ∨ j = 3 ∨ j = 4 by omega) with rfl | rfl | rfl | rfl | rfl
      · exact Or.inl (hs _ (ln (i := 43) (by decide +kernel)))
      · exact Or.inl (hs _ (ln (i := 49) (by decide +kernel)))
      · exact Or.inr (hs _ (ln (i := 37) (by decide +kernel)))
      · exact absurd rfl hij
      · exact Or.inl (hs _ (ln (i := 56) (by decide +kernel)))
    · rcases (show j = 0 ∨ j = 1 ∨ j = 2 ∨ j = 3 ∨ j = 4 by omega) with rfl | rfl | rfl | rfl | rfl
      · exact Or.inr (hs _ (ln (i := 57) (by decide +kernel)))
      · exact Or.inr (hs _ (ln (i := 58) (by decide +kernel)))
      · exact Or.inr (hs _ (ln (i := 55) (by decide +kernel)))
      · exact Or.inr (hs _ (ln (i := 56) (by decide +kernel)))
      · exact absurd rfl hij
set_option maxRecDepth 100000 in
set_option maxHeartbeats 4000000 in
theorem st_verb {args : Array Value} {s : State} {A : Nat → Prop} (hs : ∀ c ∈ lw_nar, c.before args s = true) (ht : ∀ w ∈ lw_tbl, w.before args s = true) (hA : ∀ a : Nat, a < s.heap.size → ¬ A a) : ∃ ad : Nat → Nat, va_En "RailTimeline$Verb" "LRailTimeline$Verb;" zvn zvf ad A s s.heap ∧ ∀ i, i < 11 → (Term.static "RailTimeline$Verb" (zvn.getD i "") "LRailTimeline$Verb;").eval args s none [] s = some (.ref (ad i)) := by
  refine va_Enof2 (fun i hi => ?_) (ht _ (tz ki_RX11)) (fun i hi => ?_) ?_ (fun i j hi hj hij => ?_) hA
  · have hi : i < 11 := hi
    rcases (show i = 0 ∨ i = 1 ∨ i = 2 ∨ i = 3 ∨ i = 4 ∨ i = 5 ∨ i = 6 ∨ i = 7 ∨ i = 8 ∨ i = 9 ∨ i = 10 by omega) with rfl | rfl | rfl | rfl | rfl | rfl | rfl | rfl | rfl | rfl | rfl
    · exact (ht _ (tl_1 (i := 162) (by decide +kernel)))
    · exact (ht _ (tl_4 (i := 152) (by decide +kernel)))
    · exact (ht _ (tl_4 (i := 161) (by decide +kernel)))
    · exact (ht _ (tl_4 (i := 170) (by decide +kernel)))
    · exact (ht _ (tl_4 (i := 188) (by decide +kernel)))
    · exact (ht _ (tl_4 (i := 206) (by decide +kernel)))
    · exact (ht _ (tl_4 (i := 179) (by decide +kernel)))
    · exact (ht _ (tl_4 (i := 197) (by decide +kernel)))
    · exact (ht _ (tl_4 (i := 216) (by decide +kernel)))
    · exact (ht _ (tl_4 (i := 225) (by decide +kernel)))
    · exact (ht _ (tl_2 (i := 6) (by decide +kernel)))
  · have hi : i < 11 := hi
    rcases (show i = 0 ∨ i = 1 ∨ i = 2 ∨ i = 3 ∨ i = 4 ∨ i = 5 ∨ i = 6 ∨ i = 7 ∨ i = 8 ∨ i = 9 ∨ i = 10 by omega) with rfl | rfl | rfl | rfl | rfl | rfl | rfl | rfl | rfl | rfl | rfl
    · exact (hs _ (ln (i := 4) (by decide +kernel)))
    · exact (hs _ (ln (i := 61) (by decide +kernel)))
    · exact (hs _ (ln (i := 73) (by decide +kernel)))
    · exact (hs _ (ln (i := 86) (by decide +kernel)))
    · exact (hs _ (ln (i := 115) (by decide +kernel)))
    · exact (hs _ (ln (i := 148) (by decide +kernel)))
    · exact (hs _ (ln (i := 100) (by decide +kernel)))
    · exact (hs _ (ln (i := 131) (by decide +kernel)))
    · exact (hs _ (ln (i := 166) (by decide +kernel)))
    · exact (hs _ (ln (i := 185) (by decide +kernel)))
    · exact (hs _ (ln (i := 9) (by decide +kernel)))
  · intro q hq i hi
    have hi : i < 11 := hi
    rcases List.mem_cons.mp hq with rfl | hq
    · rcases (show i = 0 ∨ i = 1 ∨ i = 2 ∨ i = 3 ∨ i = 4 ∨ i = 5 ∨ i = 6 ∨ i = 7 ∨ i = 8 ∨ i = 9 ∨ i = 10 by omega) with rfl | rfl | rfl | rfl | rfl | rfl | rfl | rfl | rfl | rfl | rfl
      · exact (hs _ (ln (i := 5) (by decide +kernel)))
      · exact (hs _ (ln (i := 62) (by decide +kernel)))
      · exact (hs _ (ln (i := 74) (by decide +kernel)))
      · exact (hs _ (ln (i := 87) (by decide +kernel)))
      · exact (hs _ (ln (i := 116) (by decide +kernel)))
      · exact (hs _ (ln (i := 149) (by decide +kernel)))
      · exact (hs _ (ln (i := 101) (by decide +kernel)))
      · exact (hs _ (ln (i := 132) (by decide +kernel)))
      · exact (hs _ (ln (i := 167) (by decide +kernel)))
      · exact (hs _ (ln (i := 186) (by decide +kernel)))
      · exact (hs _ (ln (i := 10) (by decide +kernel)))
    rcases List.mem_cons.mp hq with rfl | hq
    · rcases (show i = 0 ∨ i = 1 ∨ i = 2 ∨ i = 3 ∨ i = 4 ∨ i = 5 ∨ i = 6 ∨ i = 7 ∨ i = 8 ∨ i = 9 ∨ i = 10 by omega) with rfl | rfl | rfl | rfl | rfl | rfl | rfl | rfl | rfl | rfl | rfl
      · exact (hs _ (ln (i := 7) (by decide +kernel)))
      · exact (hs _ (ln (i := 64) (by decide +kernel)))
      · exact (hs _ (ln (i := 76) (by decide +kernel)))
      · exact (hs _ (ln (i := 89) (by decide +kernel)))
      · exact (hs _ (ln (i := 118) (by decide +kernel)))
      · exact (hs _ (ln (i := 151) (by decide +kernel)))
      · exact (hs _ (ln (i := 103) (by decide +kernel)))
      · exact (hs _ (ln (i := 134) (by decide +kernel)))
      · exact (hs _ (ln (i := 169) (by decide +kernel)))
      · exact (hs _ (ln (i := 188) (by decide +kernel)))
      · exact (hs _ (ln (i := 12) (by decide +kernel)))
    rcases List.mem_cons.mp hq with rfl | hq
    · rcases (show i = 0 ∨ i = 1 ∨ i = 2 ∨ i = 3 ∨ i = 4 ∨ i = 5 ∨ i = 6 ∨ i = 7 ∨ i = 8 ∨ i = 9 ∨ i = 10 by omega) with rfl | rfl | rfl | rfl | rfl | rfl | rfl | rfl | rfl | rfl | rfl
      · exact (hs _ (ln (i := 8) (by decide +kernel)))
      · exact (hs _ (ln (i := 65) (by decide +kernel)))
      · exact (hs _ (ln (i := 77) (by decide +kernel)))
      · exact (hs _ (ln (i := 90) (by decide +kernel)))
      · exact (hs _ (ln (i := 119) (by decide +kernel)))
      · exact (hs _ (ln (i := 152) (by decide +kernel)))
      · exact (hs _ (ln (i := 104) (by decide +kernel)))
      · exact (hs _ (ln (i := 135) (by decide +kernel)))
      · exact (hs _ (ln (i := 170) (by decide +kernel)))
      · exact (hs _ (ln (i := 189) (by decide +kernel)))
      · exact (hs _ (ln (i := 13) (by decide +kernel)))
    exact nomatch hq
  · have hi : i < 11 := hi
    have hj : j < 11 := hj
    rcases (show i = 0 ∨ i = 1 ∨ i = 2 ∨ i = 3 ∨ i = 4 ∨ i = 5 ∨ i = 6 ∨ i = 7 ∨ i = 8 ∨ i = 9 ∨ i = 10 by omega) with rfl | rfl | rfl | rfl | rfl | rfl | rfl | rfl | rfl | rfl | rfl
    · rcases (show j = 0 ∨ j = 1 ∨ j = 2 ∨ j = 3 ∨ j = 4 ∨ j = 5 ∨ j = 6 ∨ j = 7 ∨ j = 8 ∨ j = 9 ∨ j = 10 by omega) with rfl | rfl | rfl | rfl | rfl | rfl | rfl | rfl | rfl | rfl | rfl
      · exact absurd rfl hij
      · exact Or.inl (hs _ (ln (i := 66) (by decide +kernel)))
      · exact Or.inl (hs _ (ln (i := 78) (by decide +kernel)))
      · exact Or.inl (hs _ (ln (i := 91) (by decide +kernel)))
      · exact Or.inl (hs _ (ln (i := 120) (by decide +kernel)))
      · exact Or.inl (hs _ (ln (i := 153) (by decide +kernel)))
      · exact Or.inl (hs _ (ln (i := 105) (by decide +kernel)))
      · exact Or.inl (hs _ (ln (i := 136) (by decide +kernel)))
      · exact Or.inl (hs _ (ln (i := 171) (by decide +kernel)))
      · exact Or.inl (hs _ (ln (i := 190) (by decide +kernel)))
      · exact Or.inl (hs _ (ln (i := 14) (by decide +kernel)))
    · rcases (show j = 0 ∨ j = 1 ∨ j = 2 ∨ j = 3 ∨ j = 4 ∨ j = 5 ∨ j = 6 ∨ j = 7 ∨ j = 8 ∨ j = 9 ∨ j = 10 by omega) with rfl | rfl | rfl | rfl | rfl | rfl | rfl | rfl | rfl | rfl | rfl
      · exact Or.inr (hs _ (ln (i := 66) (by decide +kernel)))
      · exact absurd rfl hij
      · exact Or.inl (hs _ (ln (i := 85) (by decide +kernel)))
      · exact Or.inl (hs _ (ln (i := 98) (by decide +kernel)))
      · exact Or.inl (hs _ (ln (i := 127) (by decide +kernel)))
      · exact Or.inl (hs _ (ln (i := 160) (by decide +kernel)))
      · exact Or.inl (hs _ (ln (i := 112) (by decide +kernel)))
      · exact Or.inl (hs _ (ln (i := 143) (by decide +kernel)))
      · exact Or.inl (hs _ (ln (i := 178) (by decide +kernel)))
      · exact Or.inl (hs _ (ln (i := 197) (by decide +kernel)))
      · exact Or.inr (hs _ (ln (i := 67) (by decide +kernel)))
    · rcases (show j = 0 ∨ j = 1 ∨ j = 2 ∨ j = 3 ∨ j = 4 ∨ j = 5 ∨ j = 6 ∨ j = 7 ∨ j = 8 ∨ j = 9 ∨ j = 10 by omega) with rfl | rfl | rfl | rfl | rfl | rfl | rfl | rfl | rfl | rfl | rfl
      · exact Or.inr (hs _ (ln (i := 78) (by decide +kernel)))
      · exact Or.inr (hs _ (ln (i := 85) (by decide +kernel)))
      · exact absurd rfl hij
      · exact Or.inl (hs _ (ln (i := 99) (by decide +kernel)))
      · exact Or.inl (hs _ (ln (i := 128) (by decide +kernel)))
      · exact Or.inl (hs _ (ln (i := 161) (by decide +kernel)))
      · exact Or.inl (hs _ (ln (i := 113) (by decide +kernel)))
      · exact Or.inl (hs _ (ln (i := 144) (by decide +kernel)))
      · exact Or.inl (hs _ (ln (i := 179) (by decide +kernel)))
      · exact Or.inl (hs _ (ln (i := 198) (by decide +kernel)))
      · exact Or.inr (hs _ (ln (i := 79) (by decide +kernel)))
    · rcases (show j = 0 ∨ j = 1 ∨ j = 2 ∨ j = 3 ∨ j = 4 ∨ j = 5 ∨ j = 6 ∨ j = 7 ∨ j = 8 ∨ j = 9 ∨ j = 10 by omega) with rfl | rfl | rfl | rfl | rfl | rfl | rfl | rfl | rfl | rfl | rfl
      · exact Or.inr (hs _ (ln (i := 91) (by decide +kernel)))
      · exact Or.inr (hs _ (ln (i := 98) (by decide +kernel)))
      · exact Or.inr (hs _ (ln (i := 99) (by decide +kernel)))
      · exact absurd rfl hij
      · exact Or.inl (hs _ (ln (i := 129) (by decide +kernel)))
      · exact Or.inl (hs _ (ln (i := 162) (by decide +kernel)))
      · exact Or.inl (hs _ (ln (i := 114) (by decide +kernel)))
      · exact Or.inl (hs _ (ln (i := 145) (by decide +kernel)))
      · exact Or.inl (hs _ (ln (i := 180) (by decide +kernel)))
      · exact Or.inl (hs _ (ln (i := 199) (by decide +kernel)))
      · exact Or.inr (hs _ (ln (i := 92) (by decide +kernel)))
    · rcases (show j = 0 ∨ j = 1 ∨ j = 2 ∨ j = 3 ∨ j = 4 ∨ j = 5 ∨ j = 6 ∨ j = 7 ∨ j = 8 ∨ j = 9 ∨ j = 10 by omega) with rfl | rfl | rfl | rfl | rfl | rfl | rfl | rfl | rfl | rfl | rfl
      · exact Or.inr (hs _ (ln (i := 120) (by decide +kernel)))
      · exact Or.inr (hs _ (ln (i := 127) (by decide +kernel)))
      · exact Or.inr (hs _ (ln (i := 128) (by decide +kernel)))
      · exact Or.inr (hs _ (ln (i := 129) (by decide +kernel)))
      · exact absurd rfl hij
      · exact Or.inl (hs _ (ln (i := 164) (by decide +kernel)))
      · exact Or.inr (hs _ (ln (i := 130) (by decide +kernel)))
      · exact Or.inl (hs _ (ln (i := 147) (by decide +kernel)))
      · exact Or.inl (hs _ (ln (i := 182) (by decide +kernel)))
      · exact Or.inl (hs _ (ln (i := 201) (by decide +kernel)))
      · exact Or.inr (hs _ (ln (i := 121) (by decide +kernel)))
    · rcases (show j = 0 ∨ j = 1 ∨ j = 2 ∨ j = 3 ∨ j = 4 ∨ j = 5 ∨ j = 6 ∨ j = 7 ∨ j = 8 ∨ j = 9 ∨ j = 10 by omega) with rfl | rfl | rfl | rfl | rfl | rfl | rfl | rfl | rfl | rfl | rfl
      · exact Or.inr (hs _ (ln (i := 153) (by decide +kernel)))
      · exact Or.inr (hs _ (ln (i := 160) (by decide +kernel)))
      · exact Or.inr (hs _ (ln (i := 161) (by decide +kernel)))
      · exact Or.inr (hs _ (ln (i := 162) (by decide +kernel)))
      · exact Or.inr (hs _ (ln (i := 164) (by decide +kernel)))
      · exact absurd rfl hij
      · exact Or.inr (hs _ (ln (i := 163) (by decide +kernel)))
      · exact Or.inr (hs _ (ln (i := 165) (by decide +kernel)))
      · exact Or.inl (hs _ (ln (i := 184) (by decide +kernel)))
      · exact Or.inl (hs _ (ln (i := 203) (by decide +kernel)))
      · exact Or.inr (hs _ (ln (i := 154) (by decide +kernel)))
    · rcases (show j = 0 ∨ j = 1 ∨ j = 2 ∨ j = 3 ∨ j = 4 ∨ j = 5 ∨ j = 6 ∨ j = 7 ∨ j = 8 ∨ j = 9 ∨ j = 10 by omega) with rfl | rfl | rfl | rfl | rfl | rfl | rfl | rfl | rfl | rfl | rfl
      · exact Or.inr (hs _ (ln (i := 105) (by decide +kernel)))
      · exact Or.inr (hs _ (ln (i := 112) (by decide +kernel)))
      · exact Or.inr (hs _ (ln (i := 113) (by decide +kernel)))
      · exact Or.inr (hs _ (ln (i := 114) (by decide +kernel)))
      · exact Or.inl (hs _ (ln (i := 130) (by decide +kernel)))
      · exact Or.inl (hs _ (ln (i := 163) (by decide +kernel)))
      · exact absurd rfl hij
      · exact Or.inl (hs _ (ln (i := 146) (by decide +kernel)))
      · exact Or.inl (hs _ (ln (i := 181) (by decide +kernel)))
      · exact Or.inl (hs _ (ln (i := 200) (by decide +kernel)))
      · exact Or.inr (hs _ (ln (i := 106) (by decide +kernel)))
    · rcases (show j = 0 ∨ j = 1 ∨ j = 2 ∨ j = 3 ∨ j = 4 ∨ j = 5 ∨ j = 6 ∨ j = 7 ∨ j = 8 ∨ j = 9 ∨ j = 10 by omega) with rfl | rfl | rfl | rfl | rfl | rfl | rfl | rfl | rfl | rfl | rfl
      · exact Or.inr (hs _ (ln (i := 136) (by decide +kernel)))
      · exact Or.inr (hs _ (ln (i := 143) (by decide +kernel)))
      · exact Or.inr (hs _ (ln (i := 144) (by decide +kernel)))
      · exact Or.inr (hs _ (ln (i := 145) (by decide +kernel)))
      · exact Or.inr (hs _ (ln (i := 147) (by decide +kernel)))
      · exact Or.inl (hs _ (ln (i := 165) (by decide +kernel)))
      · exact Or.inr (hs _ (ln (i := 146) (by decide +kernel)))
      · exact absurd rfl hij
      · exact Or.inl (hs _ (ln (i := 183) (by decide +kernel)))
      · exact Or.inl (hs _ (ln (i := 202) (by decide +kernel)))
      · exact Or.inr (hs _ (ln (i := 137) (by decide +kernel)))
    · rcases (show j = 0 ∨ j = 1 ∨ j = 2 ∨ j = 3 ∨ j = 4 ∨ j = 5 ∨ j = 6 ∨ j = 7 ∨ j = 8 ∨ j = 9 ∨ j = 10 by omega) with rfl | rfl | rfl | rfl | rfl | rfl | rfl | rfl | rfl | rfl | rfl
      · exact Or.inr (hs _ (ln (i := 171) (by decide +kernel)))
      · exact Or.inr (hs _ (ln (i := 178) (by decide +kernel)))
      · exact Or.inr (hs _ (ln (i := 179) (by decide +kernel)))
      · exact Or.inr (hs _ (ln (i := 180) (by decide +kernel)))
      · exact Or.inr (hs _ (ln (i := 182) (by decide +kernel)))
      · exact Or.inr (hs _ (ln (i := 184) (by decide +kernel)))
      · exact Or.inr (hs _ (ln (i := 181) (by decide +kernel)))
      · exact Or.inr (hs _ (ln (i := 183) (by decide +kernel)))
      · exact absurd rfl hij
      · exact Or.inl (hs _ (ln (i := 204) (by decide +kernel)))
      · exact Or.inr (hs _ (ln (i := 172) (by decide +kernel)))
    · rcases (show j = 0 ∨ j = 1 ∨ j = 2 ∨ j = 3 ∨ j = 4 ∨ j = 5 ∨ j = 6 ∨ j = 7 ∨ j = 8 ∨ j = 9 ∨ j = 10 by omega) with rfl | rfl | rfl | rfl | rfl | rfl | rfl | rfl | rfl | rfl | rfl
      · exact Or.inr (hs _ (ln (i := 190) (by decide +kernel)))
      · exact Or.inr (hs _ (ln (i := 197) (by decide +kernel)))
      · exact Or.inr (hs _ (ln (i := 198) (by decide +kernel)))
      · exact Or.inr (hs _ (ln (i := 199) (by decide +kernel)))
      · exact Or.inr (hs _ (ln (i := 201) (by decide +kernel)))
      · exact Or.inr (hs _ (ln (i := 203) (by decide +kernel)))
      · exact Or.inr (hs _ (ln (i := 200) (by decide +kernel)))
      · exact Or.inr (hs _ (ln (i := 202) (by decide +kernel)))
      · exact Or.inr (hs _ (ln (i := 204) (by decide +kernel)))
      · exact absurd rfl hij
      · exact Or.inr (hs _ (ln (i := 191) (by decide +kernel)))
    · rcases (show j = 0 ∨ j = 1 ∨ j = 2 ∨ j = 3 ∨ j = 4 ∨ j = 5 ∨ j = 6 ∨ j = 7 ∨ j = 8 ∨ j = 9 ∨ j = 10 by omega) with rfl | rfl | rfl | rfl | rfl | rfl | rfl | rfl | rfl | rfl | rfl
      · exact Or.inr (hs _ (ln (i := 14) (by decide +kernel)))
      · exact Or.inl (hs _ (ln (i := 67) (by decide +kernel)))
      · exact Or.inl (hs _ (ln (i := 79) (by decide +kernel)))
      · exact Or.inl (hs _ (ln (i := 92) (by decide +kernel)))
      · exact Or.inl (hs _ (ln (i := 121) (by decide +kernel)))
      · exact Or.inl (hs _ (ln (i := 154) (by decide +kernel)))
      · exact Or.inl (hs _ (ln (i := 106) (by decide +kernel)))
      · exact Or.inl (hs _ (ln (i := 137) (by decide +kernel)))
      · exact Or.inl (hs _ (ln (i := 172) (by decide +kernel)))
      · exact Or.inl (hs _ (ln (i := 191) (by decide +kernel)))
      · exact absurd rfl hij
set_option maxRecDepth 100000 in
set_option maxHeartbeats 4000000 in
theorem st_sw {args : Array Value} {s : State} {A : Nat → Prop} (hs : ∀ c ∈ lw_nar, c.before args s = true) (ht : ∀ w ∈ lw_tbl, w.before args s = true) (hA : ∀ a : Nat, a < s.heap.size → ¬ A a) : ∃ t : Nat, va_Z "RailTimeline$1" "$SwitchMap$RailTimeline$Verb" "[I" (.ref t) A s s.heap ∧ va_T .int t 11 (fun k => .int (zsw.getD k 0)) A s s.heap := by
  obtain ⟨t, h1, h2⟩ := va_Tof (tm := (.static "RailTimeline$1" "$SwitchMap$RailTimeline$Verb" "[I")) (ty := .int) (N := 11) (f := (fun k => .int (zsw.getD k 0))) (by decide) (hs _ (ln (i := 16) (by decide +kernel))) (va_eqt (hs _ (ln (i := 17) (by decide +kernel)))) (fun j hj => by
    rcases (show j = 0 ∨ j = 1 ∨ j = 2 ∨ j = 3 ∨ j = 4 ∨ j = 5 ∨ j = 6 ∨ j = 7 ∨ j = 8 ∨ j = 9 ∨ j = 10 by omega) with rfl | rfl | rfl | rfl | rfl | rfl | rfl | rfl | rfl | rfl | rfl
    · exact va_eqt (hs _ (ln (i := 18) (by decide +kernel)))
    · exact va_eqt (hs _ (ln (i := 19) (by decide +kernel)))
    · exact va_eqt (hs _ (ln (i := 20) (by decide +kernel)))
    · exact va_eqt (hs _ (ln (i := 21) (by decide +kernel)))
    · exact va_eqt (hs _ (ln (i := 22) (by decide +kernel)))
    · exact va_eqt (hs _ (ln (i := 23) (by decide +kernel)))
    · exact va_eqt (hs _ (ln (i := 24) (by decide +kernel)))
    · exact va_eqt (hs _ (ln (i := 25) (by decide +kernel)))
    · exact va_eqt (hs _ (ln (i := 26) (by decide +kernel)))
    · exact va_eqt (hs _ (ln (i := 27) (by decide +kernel)))
    · exact va_eqt (hs _ (ln (i := 28) (by decide +kernel)))
    ) hA
  exact ⟨t, va_Zof (ht _ (tl_2 (i := 16) (by decide +kernel))) (ht _ (tz ki_RX0)) h1 hA, h2⟩
set_option maxRecDepth 100000 in
set_option maxHeartbeats 4000000 in
theorem st_verbs {args : Array Value} {s : State} {A : Nat → Prop} (hs : ∀ c ∈ lw_nar, c.before args s = true) (ht : ∀ w ∈ lw_tbl, w.before args s = true) (hA : ∀ a : Nat, a < s.heap.size → ¬ A a) {ad : Nat → Nat} (had : ∀ i, i < 11 → (Term.static "RailTimeline$Verb" (zvn.getD i "") "LRailTimeline$Verb;").eval args s none [] s = some (.ref (ad i))) : ∃ t : Nat, va_Z "RailTimeline" "VERBS" "[LRailTimeline$Verb;" (.ref t) A s s.heap ∧ va_T (.object "RailTimeline$Verb") t 11 (fun k => .ref (ad k)) A s s.heap := by
  obtain ⟨t, h1, h2⟩ := va_Tof (tm := (.static "RailTimeline" "VERBS" "[LRailTimeline$Verb;")) (ty := (.object "RailTimeline$Verb")) (N := 11) (f := (fun k => .ref (ad k))) (by decide) (hs _ (ln (i := 207) (by decide +kernel))) (va_eqt (hs _ (ln (i := 208) (by decide +kernel)))) (fun j hj => by
    rcases (show j = 0 ∨ j = 1 ∨ j = 2 ∨ j = 3 ∨ j = 4 ∨ j = 5 ∨ j = 6 ∨ j = 7 ∨ j = 8 ∨ j = 9 ∨ j = 10 by omega) with rfl | rfl | rfl | rfl | rfl | rfl | rfl | rfl | rfl | rfl | rfl
    · exact va_eqv (hs _ (ln (i := 210) (by decide +kernel))) (had 0 (by decide))
    · exact va_eqv (hs _ (ln (i := 211) (by decide +kernel))) (had 1 (by decide))
    · exact va_eqv (hs _ (ln (i := 212) (by decide +kernel))) (had 2 (by decide))
    · exact va_eqv (hs _ (ln (i := 213) (by decide +kernel))) (had 3 (by decide))
    · exact va_eqv (hs _ (ln (i := 214) (by decide +kernel))) (had 4 (by decide))
    · exact va_eqv (hs _ (ln (i := 215) (by decide +kernel))) (had 5 (by decide))
    · exact va_eqv (hs _ (ln (i := 216) (by decide +kernel))) (had 6 (by decide))
    · exact va_eqv (hs _ (ln (i := 217) (by decide +kernel))) (had 7 (by decide))
    · exact va_eqv (hs _ (ln (i := 218) (by decide +kernel))) (had 8 (by decide))
    · exact va_eqv (hs _ (ln (i := 219) (by decide +kernel))) (had 9 (by decide))
    · exact va_eqv (hs _ (ln (i := 220) (by decide +kernel))) (had 10 (by decide))
    ) hA
  exact ⟨t, va_Zof (ht _ (tl_6 (i := 82) (by decide +kernel))) (ht _ (tz ki_RX12)) h1 hA, h2⟩
theorem st_of {args : Array Value} {s : State} {A : Nat → Prop} {tm : Term} {on n d : String} {a : Nat} {v : Value} (ht : tm.eval args s none [] s = some (.ref a)) (hv : (Term.field tm on n d).eval args s none [] s = some v) (hA : ∀ a : Nat, a < s.heap.size → ¬ A a) : va_OF on n d v a A s s.heap := by
  cases hfo : s.fieldFound? on n d with
  | none =>
    rw [va_fe ht] at hv
    simp [State.fieldOf?, State.fieldNamed?, hfo] at hv
  | some x =>
    obtain ⟨cf, k, fi, f⟩ := x
    obtain ⟨g1, cell, g2, g3, -, -, g6⟩ := Term.field_spec hfo ht hv
    exact ⟨cf, k, fi, f, cell, hfo, g1, g2, g3, g6, hA _ (Array.getElem?_eq_some_iff.mp g2).1⟩
abbrev zsi : List Nat := [69, 75, 78, 81, 84, 87, 90, 93, 96, 99, 102]
def zSTR (args : Array Value) (s : State) (A : Nat → Prop) (i a v : Nat) : Prop := (Term.string "RailTimeline$Verb" (zsi.getD i 0)).eval args s none [] s = some (.ref a) ∧ va_O "java/lang/String" a A s s.heap ∧ va_OF "java/lang/String" "value" "[B" (.ref v) a A s s.heap ∧ va_OF "java/lang/String" "coder" "B" (.int 0) a A s s.heap ∧ va_T .byte v (zwd i).length (fun k => .int (nI ((zwd i).getD k 0))) A s s.heap
set_option maxRecDepth 100000 in
set_option maxHeartbeats 4000000 in
theorem st_str_0 {args : Array Value} {s : State} {A : Nat → Prop} (hs : ∀ c ∈ lw_nar, c.before args s = true) (ht : ∀ w ∈ lw_tbl, w.before args s = true) (hA : ∀ a : Nat, a < s.heap.size → ¬ A a) : ∃ a v : Nat, zSTR args s A 0 a v := by
  have h9 : (Cond.exactly (.string "RailTimeline$Verb" 69) "java/lang/String").before args s = true := (hs _ (ln (i := 474) (by decide +kernel)))
  obtain ⟨a, c, cell, k, q1, q2, q3, q4, q5, q6, -⟩ := Cond.exactly_spec h9
  have hl : (zwd 0).length = 5 := by decide +kernel
  obtain ⟨v, h1, h2⟩ := va_Tof (tm := .field (.string "RailTimeline$Verb" 69) "java/lang/String" "value" "[B") (ty := .byte) (N := 5) (f := fun k => .int (nI ((zwd 0).getD k 0))) (by decide) (hs _ (ln (i := 476) (by decide +kernel))) (va_eqt (hs _ (ln (i := 477) (by decide +kernel)))) (fun j hj => by
    rcases (show j = 0 ∨ j = 1 ∨ j = 2 ∨ j = 3 ∨ j = 4 by omega) with rfl | rfl | rfl | rfl | rfl
    · exact va_eqt (hs _ (ln (i := 478) (by decide +kernel)))
    · exact va_eqt (hs _ (ln (i := 479) (by decide +kernel)))
    · exact va_eqt (hs _ (ln (i := 480) (by decide +kernel)))
    · exact va_eqt (hs _ (ln (i := 481) (by decide +kernel)))
    · exact va_eqt (hs _ (ln (i := 482) (by decide +kernel)))
    ) hA
  exact ⟨a, v, q1, ⟨cell, q3, q5, by rw [q6]; exact q2, hA a (Array.getElem?_eq_some_iff.mp q3).1⟩, st_of q1 h1 hA, st_of q1 (va_eqt (hs _ (ln (i := 475) (by decide +kernel)))) hA, by rw [hl]; exact h2⟩
set_option maxRecDepth 100000 in
set_option maxHeartbeats 4000000 in
theorem st_str_1 {args : Array Value} {s : State} {A : Nat → Prop} (hs : ∀ c ∈ lw_nar, c.before args s = true) (ht : ∀ w ∈ lw_tbl, w.before args s = true) (hA : ∀ a : Nat, a < s.heap.size → ¬ A a) : ∃ a v : Nat, zSTR args s A 1 a v := by
  have h9 : (Cond.exactly (.string "RailTimeline$Verb" 75) "java/lang/String").before args s = true := (hs _ (ln (i := 505) (by decide +kernel)))
  obtain ⟨a, c, cell, k, q1, q2, q3, q4, q5, q6, -⟩ := Cond.exactly_spec h9
  have hl : (zwd 1).length = 5 := by decide +kernel
  obtain ⟨v, h1, h2⟩ := va_Tof (tm := .field (.string "RailTimeline$Verb" 75) "java/lang/String" "value" "[B") (ty := .byte) (N := 5) (f := fun k => .int (nI ((zwd 1).getD k 0))) (by decide) (hs _ (ln (i := 507) (by decide +kernel))) (va_eqt (hs _ (ln (i := 508) (by decide +kernel)))) (fun j hj => by
    rcases (show j = 0 ∨ j = 1 ∨ j = 2 ∨ j = 3 ∨ j = 4 by omega) with rfl | rfl | rfl | rfl | rfl
    · exact va_eqt (hs _ (ln (i := 509) (by decide +kernel)))
    · exact va_eqt (hs _ (ln (i := 510) (by decide +kernel)))
    · exact va_eqt (hs _ (ln (i := 511) (by decide +kernel)))
    · exact va_eqt (hs _ (ln (i := 512) (by decide +kernel)))
    · exact va_eqt (hs _ (ln (i := 513) (by decide +kernel)))
    ) hA
  exact ⟨a, v, q1, ⟨cell, q3, q5, by rw [q6]; exact q2, hA a (Array.getElem?_eq_some_iff.mp q3).1⟩, st_of q1 h1 hA, st_of q1 (va_eqt (hs _ (ln (i := 506) (by decide +kernel)))) hA, by rw [hl]; exact h2⟩
set_option maxRecDepth 100000 in
set_option maxHeartbeats 4000000 in
theorem st_str_2 {args : Array Value} {s : State} {A : Nat → Prop} (hs : ∀ c ∈ lw_nar, c.before args s = true) (ht : ∀ w ∈ lw_tbl, w.before args s = true) (hA : ∀ a : Nat, a < s.heap.size → ¬ A a) : ∃ a v : Nat, zSTR args s A 2 a v := by
  have h9 : (Cond.exactly (.string "RailTimeline$Verb" 78) "java/lang/String").before args s = true := (hs _ (ln (i := 521) (by decide +kernel)))
  obtain ⟨a, c, cell, k, q1, q2, q3, q4, q5, q6, -⟩ := Cond.exactly_spec h9
  have hl : (zwd 2).length = 7 := by decide +kernel
  obtain ⟨v, h1, h2⟩ := va_Tof (tm := .field (.string "RailTimeline$Verb" 78) "java/lang/String" "value" "[B") (ty := .byte) (N := 7) (f := fun k => .int (nI ((zwd 2).getD k 0))) (by decide) (hs _ (ln (i := 523) (by decide +kernel))) (va_eqt (hs _ (ln (i := 524) (by decide +kernel)))) (fun j hj => by
    rcases (show j = 0 ∨ j = 1 ∨ j = 2 ∨ j = 3 ∨ j = 4 ∨ j = 5 ∨ j = 6 by omega) with rfl | rfl | rfl | rfl | rfl | rfl | rfl
    · exact va_eqt (hs _ (ln (i := 525) (by decide +kernel)))
    · exact va_eqt (hs _ (ln (i := 526) (by decide +kernel)))
    · exact va_eqt (hs _ (ln (i := 527) (by decide +kernel)))
    · exact va_eqt (hs _ (ln (i := 528) (by decide +kernel)))
    · exact va_eqt (hs _ (ln (i := 529) (by decide +kernel)))
    · exact va_eqt (hs _ (ln (i := 530) (by decide +kernel)))
    · exact va_eqt (hs _ (ln (i := 531) (by decide +kernel)))
    ) hA
  exact ⟨a, v, q1, ⟨cell, q3, q5, by rw [q6]; exact q2, hA a (Array.getElem?_eq_some_iff.mp q3).1⟩, st_of q1 h1 hA, st_of q1 (va_eqt (hs _ (ln (i := 522) (by decide +kernel)))) hA, by rw [hl]; exact h2⟩
set_option maxRecDepth 100000 in
set_option maxHeartbeats 4000000 in
theorem st_str_3 {args : Array Value} {s : State} {A : Nat → Prop} (hs : ∀ c ∈ lw_nar, c.before args s = true) (ht : ∀ w ∈ lw_tbl, w.before args s = true) (hA : ∀ a : Nat, a < s.heap.size → ¬ A a) : ∃ a v : Nat, zSTR args s A 3 a v := by
  have h9 : (Cond.exactly (.string "RailTimeline$Verb" 81) "java/lang/String").before args s = true := (hs _ (ln (i := 540) (by decide +kernel)))
  obtain ⟨a, c, cell, k, q1, q2, q3, q4, q5, q6, -⟩ := Cond.exactly_spec h9
  have hl : (zwd 3).length = 5 := by decide +kernel
  obtain ⟨v, h1, h2⟩ := va_Tof (tm := .field (.string "RailTimeline$Verb" 81) "java/lang/String" "value" "[B") (ty := .byte) (N := 5) (f := fun k => .int (nI ((zwd 3).getD k 0))) (by decide) (hs _ (ln (i := 542) (by decide +kernel))) (va_eqt (hs _ (ln (i := 543) (by decide +kernel)))) (fun j hj => by
    rcases (show j = 0 ∨ j = 1 ∨ j = 2 ∨ j = 3 ∨ j = 4 by omega) with rfl | rfl | rfl | rfl | rfl
    · exact va_eqt (hs _ (ln (i := 544) (by decide +kernel)))
    · exact va_eqt (hs _ (ln (i := 545) (by decide +kernel)))
    · exact va_eqt (hs _ (ln (i := 546) (by decide +kernel)))
    · exact va_eqt (hs _ (ln (i := 547) (by decide +kernel)))
    · exact va_eqt (hs _ (ln (i := 548) (by decide +kernel)))
    ) hA
  exact ⟨a, v, q1, ⟨cell, q3, q5, by rw [q6]; exact q2, hA a (Array.getElem?_eq_some_iff.mp q3).1⟩, st_of q1 h1 hA, st_of q1 (va_eqt (hs _ (ln (i := 541) (by decide +kernel)))) hA, by rw [hl]; exact h2⟩
set_option maxRecDepth 100000 in
set_option maxHeartbeats 4000000 in
theorem st_str_4 {args : Array Value} {s : State} {A : Nat → Prop} (hs : ∀ c ∈ lw_nar, c.before args s = true) (ht : ∀ w ∈ lw_tbl, w.before args s = true) (hA : ∀ a : Nat, a < s.heap.size → ¬ A a) : ∃ a v : Nat, zSTR args s A 4 a v := by
  have h9 : (Cond.exactly (.string "RailTimeline$Verb" 84) "java/lang/String").before args s = true := (hs _ (ln (i := 581) (by decide +kernel)))
  obtain ⟨a, c, cell, k, q1, q2, q3, q4, q5, q6, -⟩ := Cond.exactly_spec h9
  have hl : (zwd 4).length = 8 := by decide +kernel
  obtain ⟨v, h1, h2⟩ := va_Tof (tm := .field (.string "RailTimeline$Verb" 84) "java/lang/String" "value" "[B") (ty := .byte) (N := 8) (f := fun k => .int (nI ((zwd 4).getD k 0))) (by decide) (hs _ (ln (i := 583) (by decide +kernel))) (va_eqt (hs _ (ln (i := 584) (by decide +kernel)))) (fun j hj => by
    rcases (show j = 0 ∨ j = 1 ∨ j = 2 ∨ j = 3 ∨ j = 4 ∨ j = 5 ∨ j = 6 ∨ j = 7 by omega) with rfl | rfl | rfl | rfl | rfl | rfl | rfl | rfl
    · exact va_eqt (hs _ (ln (i := 585) (by decide +kernel)))
    · exact va_eqt (hs _ (ln (i := 586) (by decide +kernel)))
    · exact va_eqt (hs _ (ln (i := 587) (by decide +kernel)))
    · exact va_eqt (hs _ (ln (i := 588) (by decide +kernel)))
    · exact va_eqt (hs _ (ln (i := 589) (by decide +kernel)))
    · exact va_eqt (hs _ (ln (i := 590) (by decide +kernel)))
    · exact va_eqt (hs _ (ln (i := 591) (by decide +kernel)))
    · exact va_eqt (hs _ (ln (i := 592) (by decide +kernel)))
    ) hA
  exact ⟨a, v, q1, ⟨cell, q3, q5, by rw [q6]; exact q2, hA a (Array.getElem?_eq_some_iff.mp q3).1⟩, st_of q1 h1 hA, st_of q1 (va_eqt (hs _ (ln (i := 582) (by decide +kernel)))) hA, by rw [hl]; exact h2⟩
set_option maxRecDepth 100000 in
set_option maxHeartbeats 4000000 in
theorem st_str_5 {args : Array Value} {s : State} {A : Nat → Prop} (hs : ∀ c ∈ lw_nar, c.before args s = true) (ht : ∀ w ∈ lw_tbl, w.before args s = true) (hA : ∀ a : Nat, a < s.heap.size → ¬ A a) : ∃ a v : Nat, zSTR args s A 5 a v := by
  have h9 : (Cond.exactly (.string "RailTimeline$Verb" 87) "java/lang/String").before args s = true := (hs _ (ln (i := 627) (by decide +kernel)))
  obtain ⟨a, c, cell, k, q1, q2, q3, q4, q5, q6, -⟩ := Cond.exactly_spec h9
  have hl : (zwd 5).length = 5 := by decide +kernel
  obtain ⟨v, h1, h2⟩ := va_Tof (tm := .field (.string "RailTimeline$Verb" 87) "java/lang/String" "value" "[B") (ty := .byte) (N := 5) (f := fun k => .int (nI ((zwd 5).getD k 0))) (by decide) (hs _ (ln (i := 629) (by decide +kernel))) (va_eqt (hs _ (ln (i := 630) (by decide +kernel)))) (fun j hj => by
    rcases (show j = 0 ∨ j = 1 ∨ j = 2 ∨ j = 3 ∨ j = 4 by omega) with rfl | rfl | rfl | rfl | rfl
    · exact va_eqt (hs _ (ln (i := 631) (by decide +kernel)))
    · exact va_eqt (hs _ (ln (i := 632) (by decide +kernel)))
    · exact va_eqt (hs _ (ln (i := 633) (by decide +kernel)))
    · exact va_eqt (hs _ (ln (i := 634) (by decide +kernel)))
    · exact va_eqt (hs _ (ln (i := 635) (by decide +kernel)))
    ) hA
  exact ⟨a, v, q1, ⟨cell, q3, q5, by rw [q6]; exact q2, hA a (Array.getElem?_eq_some_iff.mp q3).1⟩, st_of q1 h1 hA, st_of q1 (va_eqt (hs _ (ln (i := 628) (by decide +kernel)))) hA, by rw [hl]; exact h2⟩
set_option maxRecDepth 100000 in
set_option maxHeartbeats 4000000 in
theorem st_str_6 {args : Array Value} {s : State} {A : Nat → Prop} (hs : ∀ c ∈ lw_nar, c.before args s = true) (ht : ∀ w ∈ lw_tbl, w.before args s = true) (hA : ∀ a : Nat, a < s.heap.size → ¬ A a) : ∃ a v : Nat, zSTR args s A 6 a v := by
  have h9 : (Cond.exactly (.string "RailTimeline$Verb" 90) "java/lang/String").before args s = true := (hs _ (ln (i := 558) (by decide +kernel)))
  obtain ⟨a, c, cell, k, q1, q2, q3, q4, q5, q6, -⟩ := Cond.exactly_spec h9
  have hl : (zwd 6).length = 9 := by decide +kernel
  obtain ⟨v, h1, h2⟩ := va_Tof (tm := .field (.string "RailTimeline$Verb" 90) "java/lang/String" "value" "[B") (ty := .byte) (N := 9) (f := fun k => .int (nI ((zwd 6).getD k 0))) (by decide) (hs _ (ln (i := 560) (by decide +kernel))) (va_eqt (hs _ (ln (i := 561) (by decide +kernel)))) (fun j hj => by
    rcases (show j = 0 ∨ j = 1 ∨ j = 2 ∨ j = 3 ∨ j = 4 ∨ j = 5 ∨ j = 6 ∨ j = 7 ∨ j = 8 by omega) with rfl | rfl | rfl | rfl | rfl | rfl | rfl | rfl | rfl
    · exact va_eqt (hs _ (ln (i := 562) (by decide +kernel)))
    · exact va_eqt (hs _ (ln (i := 563) (by decide +kernel)))
    · exact va_eqt (hs _ (ln (i := 564) (by decide +kernel)))
    · exact va_eqt (hs _ (ln (i := 565) (by decide +kernel)))
    · exact va_eqt (hs _ (ln (i := 566) (by decide +kernel)))
    · exact va_eqt (hs _ (ln (i := 567) (by decide +kernel)))
    · exact va_eqt (hs _ (ln (i := 568) (by decide +kernel)))
    · exact va_eqt (hs _ (ln (i := 569) (by decide +kernel)))
    · exact va_eqt (hs _ (ln (i := 570) (by decide +kernel)))
    ) hA
  exact ⟨a, v, q1, ⟨cell, q3, q5, by rw [q6]; exact q2, hA a (Array.getElem?_eq_some_iff.mp q3).1⟩, st_of q1 h1 hA, st_of q1 (va_eqt (hs _ (ln (i := 559) (by decide +kernel)))) hA, by rw [hl]; exact h2⟩
set_option maxRecDepth 100000 in
set_option maxHeartbeats 4000000 in
theorem st_str_7 {args : Array Value} {s : State} {A : Nat → Prop} (hs : ∀ c ∈ lw_nar, c.before args s = true) (ht : ∀ w ∈ lw_tbl, w.before args s = true) (hA : ∀ a : Nat, a < s.heap.size → ¬ A a) : ∃ a v : Nat, zSTR args s A 7 a v := by
  have h9 : (Cond.exactly (.string "RailTimeline$Verb" 93) "java/lang/String").before args s = true := (hs _ (ln (i := 604) (by decide +kernel)))
  obtain ⟨a, c, cell, k, q1, q2, q3, q4, q5, q6, -⟩ := Cond.exactly_spec h9
  have hl : (zwd 7).length = 7 := by decide +kernel
  obtain ⟨v, h1, h2⟩ := va_Tof (tm := .field (.string "RailTimeline$Verb" 93) "java/lang/String" "value" "[B") (ty := .byte) (N := 7) (f := fun k => .int (nI ((zwd 7).getD k 0))) (by decide) (hs _ (ln (i := 606) (by decide +kernel))) (va_eqt (hs _ (ln (i := 607) (by decide +kernel)))) (fun j hj => by
    rcases (show j = 0 ∨ j = 1 ∨ j = 2 ∨ j = 3 ∨ j = 4 ∨ j = 5 ∨ j = 6 by omega) with rfl | rfl | rfl | rfl | rfl | rfl | rfl
    · exact va_eqt (hs _ (ln (i := 608) (by decide +kernel)))
    · exact va_eqt (hs _ (ln (i := 609) (by decide +kernel)))
    · exact va_eqt (hs _ (ln (i := 610) (by decide +kernel)))
    · exact va_eqt (hs _ (ln (i := 611) (by decide +kernel)))
    · exact va_eqt (hs _ (ln (i := 612) (by decide +kernel)))
    · exact va_eqt (hs _ (ln (i := 613) (by decide +kernel)))
    · exact va_eqt (hs _ (ln (i := 614) (by decide +kernel)))
    ) hA
  exact ⟨a, v, q1, ⟨cell, q3, q5, by rw [q6]; exact q2, hA a (Array.getElem?_eq_some_iff.mp q3).1⟩, st_of q1 h1 hA, st_of q1 (va_eqt (hs _ (ln (i := 605) (by decide +kernel)))) hA, by rw [hl]; exact h2⟩
set_option maxRecDepth 100000 in
set_option maxHeartbeats 4000000 in
theorem st_str_8 {args : Array Value} {s : State} {A : Nat → Prop} (hs : ∀ c ∈ lw_nar, c.before args s = true) (ht : ∀ w ∈ lw_tbl, w.before args s = true) (hA : ∀ a : Nat, a < s.heap.size → ¬ A a) : ∃ a v : Nat, zSTR args s A 8 a v := by
  have h9 : (Cond.exactly (.string "RailTimeline$Verb" 96) "java/lang/String").before args s = true := (hs _ (ln (i := 649) (by decide +kernel)))
  obtain ⟨a, c, cell, k, q1, q2, q3, q4, q5, q6, -⟩ := Cond.exactly_spec h9
  have hl : (zwd 8).length = 6 := by decide +kernel
  obtain ⟨v, h1, h2⟩ := va_Tof (tm := .field (.string "RailTimeline$Verb" 96) "java/lang/String" "value" "[B") (ty := .byte) (N := 6) (f := fun k => .int (nI ((zwd 8).getD k 0))) (by decide) (hs _ (ln (i := 651) (by decide +kernel))) (va_eqt (hs _ (ln (i := 652) (by decide +kernel)))) (fun j hj => by
    rcases (show j = 0 ∨ j = 1 ∨ j = 2 ∨ j = 3 ∨ j = 4 ∨ j = 5 by omega) with rfl | rfl | rfl | rfl | rfl | rfl
    · exact va_eqt (hs _ (ln (i := 653) (by decide +kernel)))
    · exact va_eqt (hs _ (ln (i := 654) (by decide +kernel)))
    · exact va_eqt (hs _ (ln (i := 655) (by decide +kernel)))
    · exact va_eqt (hs _ (ln (i := 656) (by decide +kernel)))
    · exact va_eqt (hs _ (ln (i := 657) (by decide +kernel)))
    · exact va_eqt (hs _ (ln (i := 658) (by decide +kernel)))
    ) hA
  exact ⟨a, v, q1, ⟨cell, q3, q5, by rw [q6]; exact q2, hA a (Array.getElem?_eq_some_iff.mp q3).1⟩, st_of q1 h1 hA, st_of q1 (va_eqt (hs _ (ln (i := 650) (by decide +kernel)))) hA, by rw [hl]; exact h2⟩
set_option maxRecDepth 100000 in
set_option maxHeartbeats 4000000 in
theorem st_str_9 {args : Array Value} {s : State} {A : Nat → Prop} (hs : ∀ c ∈ lw_nar, c.before args s = true) (ht : ∀ w ∈ lw_tbl, w.before args s = true) (hA : ∀ a : Nat, a < s.heap.size → ¬ A a) : ∃ a v : Nat, zSTR args s A 9 a v := by
  have h9 : (Cond.exactly (.string "RailTimeline$Verb" 99) "java/lang/String").before args s = true := (hs _ (ln (i := 673) (by decide +kernel)))
  obtain ⟨a, c, cell, k, q1, q2, q3, q4, q5, q6, -⟩ := Cond.exactly_spec h9
  have hl : (zwd 9).length = 5 := by decide +kernel
  obtain ⟨v, h1, h2⟩ := va_Tof (tm := .field (.string "RailTimeline$Verb" 99) "java/lang/String" "value" "[B") (ty := .byte) (N := 5) (f := fun k => .int (nI ((zwd 9).getD k 0))) (by decide) (hs _ (ln (i := 675) (by decide +kernel))) (va_eqt (hs _ (ln (i := 676) (by decide +kernel)))) (fun j hj => by
    rcases (show j = 0 ∨ j = 1 ∨ j = 2 ∨ j = 3 ∨ j = 4 by omega) with rfl | rfl | rfl | rfl | rfl
    · exact va_eqt (hs _ (ln (i := 677) (by decide +kernel)))
    · exact va_eqt (hs _ (ln (i := 678) (by decide +kernel)))
    · exact va_eqt (hs _ (ln (i := 679) (by decide +kernel)))
    · exact va_eqt (hs _ (ln (i := 680) (by decide +kernel)))
    · exact va_eqt (hs _ (ln (i := 681) (by decide +kernel)))
    ) hA
  exact ⟨a, v, q1, ⟨cell, q3, q5, by rw [q6]; exact q2, hA a (Array.getElem?_eq_some_iff.mp q3).1⟩, st_of q1 h1 hA, st_of q1 (va_eqt (hs _ (ln (i := 674) (by decide +kernel)))) hA, by rw [hl]; exact h2⟩
set_option maxRecDepth 100000 in
set_option maxHeartbeats 4000000 in
theorem st_str_10 {args : Array Value} {s : State} {A : Nat → Prop} (hs : ∀ c ∈ lw_nar, c.before args s = true) (ht : ∀ w ∈ lw_tbl, w.before args s = true) (hA : ∀ a : Nat, a < s.heap.size → ¬ A a) : ∃ a v : Nat, zSTR args s A 10 a v := by
  have h9 : (Cond.exactly (.string "RailTimeline$Verb" 102) "java/lang/String").before args s = true := (hs _ (ln (i := 488) (by decide +kernel)))
  obtain ⟨a, c, cell, k, q1, q2, q3, q4, q5, q6, -⟩ := Cond.exactly_spec h9
  have hl : (zwd 10).length = 7 := by decide +kernel
  obtain ⟨v, h1, h2⟩ := va_Tof (tm := .field (.string "RailTimeline$Verb" 102) "java/lang/String" "value" "[B") (ty := .byte) (N := 7) (f := fun k => .int (nI ((zwd 10).getD k 0))) (by decide) (hs _ (ln (i := 490) (by decide +kernel))) (va_eqt (hs _ (ln (i := 491) (by decide +kernel)))) (fun j hj => by
    rcases (show j = 0 ∨ j = 1 ∨ j = 2 ∨ j = 3 ∨ j = 4 ∨ j = 5 ∨ j = 6 by omega) with rfl | rfl | rfl | rfl | rfl | rfl | rfl
    · exact va_eqt (hs _ (ln (i := 492) (by decide +kernel)))
    · exact va_eqt (hs _ (ln (i := 493) (by decide +kernel)))
    · exact va_eqt (hs _ (ln (i := 494) (by decide +kernel)))
    · exact va_eqt (hs _ (ln (i := 495) (by decide +kernel)))
    · exact va_eqt (hs _ (ln (i := 496) (by decide +kernel)))
    · exact va_eqt (hs _ (ln (i := 497) (by decide +kernel)))
    · exact va_eqt (hs _ (ln (i := 498) (by decide +kernel)))
    ) hA
  exact ⟨a, v, q1, ⟨cell, q3, q5, by rw [q6]; exact q2, hA a (Array.getElem?_eq_some_iff.mp q3).1⟩, st_of q1 h1 hA, st_of q1 (va_eqt (hs _ (ln (i := 489) (by decide +kernel)))) hA, by rw [hl]; exact h2⟩
theorem st_str {args : Array Value} {s : State} {A : Nat → Prop} (hs : ∀ c ∈ lw_nar, c.before args s = true) (ht : ∀ w ∈ lw_tbl, w.before args s = true) (hA : ∀ a : Nat, a < s.heap.size → ¬ A a) : ∃ sa sv : Nat → Nat, ∀ i, i < 11 → zSTR args s A i (sa i) (sv i) := by
  have h0 : ∀ i : Nat, ∃ q : Nat × Nat, i < 11 → zSTR args s A i q.1 q.2 := by
    intro i
    by_cases hi : i < 11
    · rcases (show i = 0 ∨ i = 1 ∨ i = 2 ∨ i = 3 ∨ i = 4 ∨ i = 5 ∨ i = 6 ∨ i = 7 ∨ i = 8 ∨ i = 9 ∨ i = 10 by omega) with rfl | rfl | rfl | rfl | rfl | rfl | rfl | rfl | rfl | rfl | rfl
      · obtain ⟨a, v, h⟩ := st_str_0 hs ht hA; exact ⟨(a, v), fun _ => h⟩
      · obtain ⟨a, v, h⟩ := st_str_1 hs ht hA; exact ⟨(a, v), fun _ => h⟩
      · obtain ⟨a, v, h⟩ := st_str_2 hs ht hA; exact ⟨(a, v), fun _ => h⟩
      · obtain ⟨a, v, h⟩ := st_str_3 hs ht hA; exact ⟨(a, v), fun _ => h⟩
      · obtain ⟨a, v, h⟩ := st_str_4 hs ht hA; exact ⟨(a, v), fun _ => h⟩
      · obtain ⟨a, v, h⟩ := st_str_5 hs ht hA; exact ⟨(a, v), fun _ => h⟩
      · obtain ⟨a, v, h⟩ := st_str_6 hs ht hA; exact ⟨(a, v), fun _ => h⟩
      · obtain ⟨a, v, h⟩ := st_str_7 hs ht hA; exact ⟨(a, v), fun _ => h⟩
      · obtain ⟨a, v, h⟩ := st_str_8 hs ht hA; exact ⟨(a, v), fun _ => h⟩
      · obtain ⟨a, v, h⟩ := st_str_9 hs ht hA; exact ⟨(a, v), fun _ => h⟩
      · obtain ⟨a, v, h⟩ := st_str_10 hs ht hA; exact ⟨(a, v), fun _ => h⟩
    · exact ⟨(0, 0), fun h => absurd h hi⟩
  obtain ⟨f, hf⟩ := Classical.axiomOfChoice h0
  exact ⟨fun i => (f i).1, fun i => (f i).2, hf⟩
set_option maxRecDepth 100000 in
set_option maxHeartbeats 4000000 in
theorem st_word {args : Array Value} {s : State} {A : Nat → Prop} (hs : ∀ c ∈ lw_nar, c.before args s = true) (ht : ∀ w ∈ lw_tbl, w.before args s = true) (hA : ∀ a : Nat, a < s.heap.size → ¬ A a) {ad sa sv : Nat → Nat} (had : ∀ i, i < 11 → (Term.static "RailTimeline$Verb" (zvn.getD i "") "LRailTimeline$Verb;").eval args s none [] s = some (.ref (ad i))) (hst : ∀ i, i < 11 → zSTR args s A i (sa i) (sv i)) : va_Ef 11 "RailTimeline$Verb" "word" "Ljava/lang/String;" (fun i => .ref (sa i)) ad A s s.heap := by
  refine va_Efof (tm := fun i => .string "RailTimeline$Verb" (zsi.getD i 0)) had (fun i hi => ?_) (fun i hi => (hst i hi).1) hA
  rcases (show i = 0 ∨ i = 1 ∨ i = 2 ∨ i = 3 ∨ i = 4 ∨ i = 5 ∨ i = 6 ∨ i = 7 ∨ i = 8 ∨ i = 9 ∨ i = 10 by omega) with rfl | rfl | rfl | rfl | rfl | rfl | rfl | rfl | rfl | rfl | rfl
  · exact (hs _ (ln (i := 6) (by decide +kernel)))
  · exact (hs _ (ln (i := 63) (by decide +kernel)))
  · exact (hs _ (ln (i := 75) (by decide +kernel)))
  · exact (hs _ (ln (i := 88) (by decide +kernel)))
  · exact (hs _ (ln (i := 117) (by decide +kernel)))
  · exact (hs _ (ln (i := 150) (by decide +kernel)))
  · exact (hs _ (ln (i := 102) (by decide +kernel)))
  · exact (hs _ (ln (i := 133) (by decide +kernel)))
  · exact (hs _ (ln (i := 168) (by decide +kernel)))
  · exact (hs _ (ln (i := 187) (by decide +kernel)))
  · exact (hs _ (ln (i := 11) (by decide +kernel)))
theorem st_tx_0 {args : Array Value} {s : State} {A : Nat → Prop} (hs : ∀ c ∈ lw_nar, c.before args s = true) (ht : ∀ w ∈ lw_tbl, w.before args s = true) (hA : ∀ a : Nat, a < s.heap.size → ¬ A a) : ∃ a : Nat, vk_R RX12 138 "no such time, tick, interval or index" a s := by
  have h9 : (Cond.exactly (.string "RailTimeline" 138) "java/lang/String").before args s = true := (hs _ (ln (i := 315) (by decide +kernel)))
  obtain ⟨a, c, cell, k, q1, -⟩ := Cond.exactly_spec h9
  exact ⟨a, vk_R.of (A := args) (ht _ (tl_2 (i := 136) (by decide +kernel))) q1⟩
theorem st_tx_1 {args : Array Value} {s : State} {A : Nat → Prop} (hs : ∀ c ∈ lw_nar, c.before args s = true) (ht : ∀ w ∈ lw_tbl, w.before args s = true) (hA : ∀ a : Nat, a < s.heap.size → ¬ A a) : ∃ a : Nat, vk_R RX12 148 "an argument is outside its range" a s := by
  have h9 : (Cond.exactly (.string "RailTimeline" 148) "java/lang/String").before args s = true := (hs _ (ln (i := 356) (by decide +kernel)))
  obtain ⟨a, c, cell, k, q1, -⟩ := Cond.exactly_spec h9
  exact ⟨a, vk_R.of (A := args) (ht _ (tl_2 (i := 173) (by decide +kernel))) q1⟩
theorem st_tx_2 {args : Array Value} {s : State} {A : Nat → Prop} (hs : ∀ c ∈ lw_nar, c.before args s = true) (ht : ∀ w ∈ lw_tbl, w.before args s = true) (hA : ∀ a : Nat, a < s.heap.size → ¬ A a) : ∃ a : Nat, vk_R RX12 156 "not possible in this state" a s := by
  have h9 : (Cond.exactly (.string "RailTimeline" 156) "java/lang/String").before args s = true := (hs _ (ln (i := 393) (by decide +kernel)))
  obtain ⟨a, c, cell, k, q1, -⟩ := Cond.exactly_spec h9
  exact ⟨a, vk_R.of (A := args) (ht _ (tl_2 (i := 190) (by decide +kernel))) q1⟩
theorem st_tx_3 {args : Array Value} {s : State} {A : Nat → Prop} (hs : ∀ c ∈ lw_nar, c.before args s = true) (ht : ∀ w ∈ lw_tbl, w.before args s = true) (hA : ∀ a : Nat, a < s.heap.size → ¬ A a) : ∃ a : Nat, vk_R RX12 164 "there is none" a s := by
  have h9 : (Cond.exactly (.string "RailTimeline" 164) "java/lang/String").before args s = true := (hs _ (ln (i := 425) (by decide +kernel)))
  obtain ⟨a, c, cell, k, q1, -⟩ := Cond.exactly_spec h9
  exact ⟨a, vk_R.of (A := args) (ht _ (tl_2 (i := 207) (by decide +kernel))) q1⟩
theorem st_tx_4 {args : Array Value} {s : State} {A : Nat → Prop} (hs : ∀ c ∈ lw_nar, c.before args s = true) (ht : ∀ w ∈ lw_tbl, w.before args s = true) (hA : ∀ a : Nat, a < s.heap.size → ¬ A a) : ∃ a : Nat, vk_R RX12 262 "the timeline is empty" a s := by
  have h9 : (Cond.exactly (.string "RailTimeline" 262) "java/lang/String").before args s = true := (hs _ (ln (i := 445) (by decide +kernel)))
  obtain ⟨a, c, cell, k, q1, -⟩ := Cond.exactly_spec h9
  exact ⟨a, vk_R.of (A := args) (ht _ (tl_5 (i := 193) (by decide +kernel))) q1⟩
set_option maxRecDepth 100000 in
set_option maxHeartbeats 4000000 in
theorem st_nc {args : Array Value} {s : State} {A : Nat → Prop} (hs : ∀ c ∈ lw_nar, c.before args s = true) (ht : ∀ w ∈ lw_tbl, w.before args s = true) (hA : ∀ a : Nat, a < s.heap.size → ¬ A a) : ∀ i j, 1 ≤ i → i ≤ 5 → 1 ≤ j → j ≤ 5 → i ≠ j → va_Nc (exN i) (exN j) s := by
  intro i j h1 h2 h3 h4 hij
  rcases (show i = 1 ∨ i = 2 ∨ i = 3 ∨ i = 4 ∨ i = 5 by omega) with rfl | rfl | rfl | rfl | rfl
  · rcases (show j = 1 ∨ j = 2 ∨ j = 3 ∨ j = 4 ∨ j = 5 by omega) with rfl | rfl | rfl | rfl | rfl
    · exact absurd rfl hij
    · exact va_Nc.of (hs _ (ln (i := 239) (by decide +kernel)))
    · exact va_Nc.of (hs _ (ln (i := 257) (by decide +kernel)))
    · exact va_Nc.of (hs _ (ln (i := 292) (by decide +kernel)))
    · exact va_Nc.of (hs _ (ln (i := 310) (by decide +kernel)))
  · rcases (show j = 1 ∨ j = 2 ∨ j = 3 ∨ j = 4 ∨ j = 5 by omega) with rfl | rfl | rfl | rfl | rfl
    · exact va_Nc.of (hs _ (ln (i := 275) (by decide +kernel)))
    · exact absurd rfl hij
    · exact va_Nc.of (hs _ (ln (i := 258) (by decide +kernel)))
    · exact va_Nc.of (hs _ (ln (i := 293) (by decide +kernel)))
    · exact va_Nc.of (hs _ (ln (i := 311) (by decide +kernel)))
  · rcases (show j = 1 ∨ j = 2 ∨ j = 3 ∨ j = 4 ∨ j = 5 by omega) with rfl | rfl | rfl | rfl | rfl
    · exact va_Nc.of (hs _ (ln (i := 276) (by decide +kernel)))
    · exact va_Nc.of (hs _ (ln (i := 240) (by decide +kernel)))
    · exact absurd rfl hij
    · exact va_Nc.of (hs _ (ln (i := 294) (by decide +kernel)))
    · exact va_Nc.of (hs _ (ln (i := 312) (by decide +kernel)))
  · rcases (show j = 1 ∨ j = 2 ∨ j = 3 ∨ j = 4 ∨ j = 5 by omega) with rfl | rfl | rfl | rfl | rfl
    · exact va_Nc.of (hs _ (ln (i := 277) (by decide +kernel)))
    · exact va_Nc.of (hs _ (ln (i := 241) (by decide +kernel)))
    · exact va_Nc.of (hs _ (ln (i := 259) (by decide +kernel)))
    · exact absurd rfl hij
    · exact va_Nc.of (hs _ (ln (i := 313) (by decide +kernel)))
  · rcases (show j = 1 ∨ j = 2 ∨ j = 3 ∨ j = 4 ∨ j = 5 by omega) with rfl | rfl | rfl | rfl | rfl
    · exact va_Nc.of (hs _ (ln (i := 278) (by decide +kernel)))
    · exact va_Nc.of (hs _ (ln (i := 243) (by decide +kernel)))
    · exact va_Nc.of (hs _ (ln (i := 261) (by decide +kernel)))
    · exact va_Nc.of (hs _ (ln (i := 296) (by decide +kernel)))
    · exact absurd rfl hij
theorem iz_RJ0 : ∀ w ∈ u_ws RJ0 TJ0 2, w ∈ ztb := by
  rw [show u_ws RJ0 TJ0 2 = [Cond.laysFinal RJ0 "java/lang/String" "value" "[B", Cond.laysFinal RJ0 "java/lang/String" "coder" "B"] from rfl]
  exact (List.forall_mem_cons.mpr ⟨(tb_4 (i := 143) (by decide +kernel) rfl), (List.forall_mem_cons.mpr ⟨(tb_4 (i := 145) (by decide +kernel) rfl), (fun _ h => nomatch h)⟩)⟩)
theorem iz_RJx00060 : ∀ w ∈ u_ws RJx00060 TJx00060 6, w ∈ ztb := by
  rw [show u_ws RJx00060 TJx00060 6 = [Cond.lays RJx00060 "java/lang/Throwable" "backtrace" "Ljava/lang/Object;", Cond.lays RJx00060 "java/lang/Throwable" "detailMessage" "Ljava/lang/String;", Cond.lays RJx00060 "java/lang/Throwable" "cause" "Ljava/lang/Throwable;", Cond.lays RJx00060 "java/lang/Throwable" "stackTrace" "[Ljava/lang/StackTraceElement;", Cond.lays RJx00060 "java/lang/Throwable" "depth" "I", Cond.lays RJx00060 "java/lang/Throwable" "suppressedExceptions" "Ljava/util/List;"] from rfl]
  exact (List.forall_mem_cons.mpr ⟨(tb_4 (i := 131) (by decide +kernel) rfl), (List.forall_mem_cons.mpr ⟨(tb_4 (i := 132) (by decide +kernel) rfl), (List.forall_mem_cons.mpr ⟨(tb_4 (i := 133) (by decide +kernel) rfl), (List.forall_mem_cons.mpr ⟨(tb_4 (i := 134) (by decide +kernel) rfl), (List.forall_mem_cons.mpr ⟨(tb_4 (i := 135) (by decide +kernel) rfl), (List.forall_mem_cons.mpr ⟨(tb_4 (i := 136) (by decide +kernel) rfl), (fun _ h => nomatch h)⟩)⟩)⟩)⟩)⟩)⟩)
theorem st_K {args : Array Value} {s : State} {A : Nat → Prop} (hs : ∀ c ∈ lw_nar, c.before args s = true) (ht : ∀ w ∈ lw_tbl, w.before args s = true) (hA : ∀ a : Nat, a < s.heap.size → ¬ A a) : ∃ D : va_G, ∀ (c : Nat) (q : vw_C), vwCl[c]? = some q → u_Kn s q.1 q.2.1 q.2.2 (D.1 c) (D.2 c) := by
  have h0 : ∀ c : Nat, ∃ d : ClassId × (Nat → Nat), ∀ q : vw_C, vwCl[c]? = some q → u_Kn s q.1 q.2.1 q.2.2 d.1 d.2 := by
    intro c
    by_cases hc : c < 13
    · rcases (show c = 0 ∨ c = 1 ∨ c = 2 ∨ c = 3 ∨ c = 4 ∨ c = 5 ∨ c = 6 ∨ c = 7 ∨ c = 8 ∨ c = 9 ∨ c = 10 ∨ c = 11 ∨ c = 12 by omega) with rfl | rfl | rfl | rfl | rfl | rfl | rfl | rfl | rfl | rfl | rfl | rfl | rfl
      · obtain ⟨a, b, h⟩ := u_known (ws := lw_tbl) (C := RJ0) (T := TJ0) (N := 2) (n := 4) ht (fun w hw => tz (iz_RJ0 w hw)) (ht _ (tl_4 (i := 142) (by decide +kernel)))
        exact ⟨(a, b), fun q hq => by cases hq; exact h⟩
      · obtain ⟨a, b, h⟩ := u_known (ws := lw_tbl) (C := RJx00060) (T := TJx00060) (N := 6) (n := 6) ht (fun w hw => tz (iz_RJx00060 w hw)) (ht _ (tl_4 (i := 127) (by decide +kernel)))
        exact ⟨(a, b), fun q hq => by cases hq; exact h⟩
      · obtain ⟨a, b, h⟩ := u_known (ws := lw_tbl) (C := RX1) (T := TX1) (N := 4) (n := 4) ht (fun w hw => tz (iz_RX1 w hw)) (ht _ (tl_1 (i := 156) (by decide +kernel)))
        exact ⟨(a, b), fun q hq => by cases hq; exact h⟩
      · obtain ⟨a, b, h⟩ := u_known (ws := lw_tbl) (C := RX3) (T := TX3) (N := 3) (n := 3) ht (fun w hw => tz (iz_RX3 w hw)) (ht _ (tl_1 (i := 89) (by decide +kernel)))
        exact ⟨(a, b), fun q hq => by cases hq; exact h⟩
      · obtain ⟨a, b, h⟩ := u_known (ws := lw_tbl) (C := RX4) (T := TX4) (N := 4) (n := 4) ht (fun w hw => tz (iz_RX4 w hw)) (ht _ (tl_1 (i := 127) (by decide +kernel)))
        exact ⟨(a, b), fun q hq => by cases hq; exact h⟩
      · obtain ⟨a, b, h⟩ := u_known (ws := lw_tbl) (C := RX5) (T := TX5) (N := 2) (n := 2) ht (fun w hw => tz (iz_RX5 w hw)) (ht _ (tl_1 (i := 45) (by decide +kernel)))
        exact ⟨(a, b), fun q hq => by cases hq; exact h⟩
      · obtain ⟨a, b, h⟩ := u_known (ws := lw_tbl) (C := RX6) (T := TX6) (N := 2) (n := 2) ht (fun w hw => tz (iz_RX6 w hw)) (ht _ (tl_1 (i := 59) (by decide +kernel)))
        exact ⟨(a, b), fun q hq => by cases hq; exact h⟩
      · obtain ⟨a, b, h⟩ := u_known (ws := lw_tbl) (C := RX7) (T := TX7) (N := 2) (n := 2) ht (fun w hw => tz (iz_RX7 w hw)) (ht _ (tl_1 (i := 189) (by decide +kernel)))
        exact ⟨(a, b), fun q hq => by cases hq; exact h⟩
      · obtain ⟨a, b, h⟩ := u_known (ws := lw_tbl) (C := RX8) (T := TX8) (N := 4) (n := 4) ht (fun w hw => tz (iz_RX8 w hw)) (ht _ (tl_1 (i := 108) (by decide +kernel)))
        exact ⟨(a, b), fun q hq => by cases hq; exact h⟩
      · obtain ⟨a, b, h⟩ := u_known (ws := lw_tbl) (C := RX9) (T := TX9) (N := 2) (n := 2) ht (fun w hw => tz (iz_RX9 w hw)) (ht _ (tl_1 (i := 149) (by decide +kernel)))
        exact ⟨(a, b), fun q hq => by cases hq; exact h⟩
      · obtain ⟨a, b, h⟩ := u_known (ws := lw_tbl) (C := RX10) (T := TX10) (N := 4) (n := 4) ht (fun w hw => tz (iz_RX10 w hw)) (ht _ (tl_1 (i := 39) (by decide +kernel)))
        exact ⟨(a, b), fun q hq => by cases hq; exact h⟩
      · obtain ⟨a, b, h⟩ := u_known (ws := lw_tbl) (C := RX12) (T := TX12) (N := 13) (n := 13) ht (fun w hw => tz (iz_RX12 w hw)) (ht _ (tl_1 (i := 31) (by decide +kernel)))
        exact ⟨(a, b), fun q hq => by cases hq; exact h⟩
      · obtain ⟨a, b, h⟩ := u_known (ws := lw_tbl) (C := RX13) (T := TX13) (N := 22) (n := 22) ht (fun w hw => tz (iz_RX13 w hw)) (ht _ (tl_6 (i := 202) (by decide +kernel)))
        exact ⟨(a, b), fun q hq => by cases hq; exact h⟩
    · exact ⟨(0, fun _ => 0), fun q hq => absurd (List.getElem?_eq_some_iff.mp hq).1 hc⟩
  obtain ⟨f, hf⟩ := Classical.axiomOfChoice h0
  exact ⟨(fun c => (f c).1, fun c => (f c).2), hf⟩
theorem st_ar {args : Array Value} {s : State} {ty : FieldType} (hp : ∀ C, ty ≠ .object C) (hc : ty ≠ .array (.int)) (h : (Cond.arrayClass ty).before args s = true) : ∃ c : ClassId, ArrOfT s c ty ∧ va_RA s c ty := by
  obtain ⟨c, k, comp, h1, h2, h3⟩ := Cond.arrayClass_spec h
  refine ⟨c, fun n z => ⟨fun k h => (by cases h), k, h2, comp, h3⟩, ?_⟩
  cases ty with
  | object C => exact absurd rfl (hp C)
  | _ => exact h1
theorem st_ao {args : Array Value} {s : State} {C : String} (h : (Cond.arrayOver (.object C)).before args s = true) : ∃ c : ClassId, ArrOfT s c (.object C) ∧ va_RA s c (.object C) := by
  obtain ⟨comp, c, k, h1, h2, h3, h4, h5⟩ := Cond.arrayOver_spec h
  exact ⟨c, fun n z => ⟨fun k h => (by cases h), k, h3, comp, h4⟩, k, comp, h3, h4, h1, h5⟩
theorem st_tys {args : Array Value} {s : State} {A : Nat → Prop} (hs : ∀ c ∈ lw_nar, c.before args s = true) (ht : ∀ w ∈ lw_tbl, w.before args s = true) (hA : ∀ a : Nat, a < s.heap.size → ¬ A a) : ∃ zc : Nat → ClassId, ∀ (k : Nat) (q : ClassId × FieldType), [(zc 0, FieldType.int), (zc 1, .char), (zc 2, .long), (zc 3, .double), (zc 4, .object "RailTimeline$State"), (zc 5, .object "RailTimeline$Command")][k]? = some q → ArrOfT s q.1 q.2 ∧ va_RA s q.1 q.2 := by
  obtain ⟨c0, h0⟩ := st_ar (ty := .int) (fun _ h => nomatch h) (fun h => nomatch h) (ht _ (tl_1 (i := 57) (by decide +kernel)))
  obtain ⟨c1, h1⟩ := st_ar (ty := .char) (fun _ h => nomatch h) (fun h => nomatch h) (ht _ (tl_1 (i := 145) (by decide +kernel)))
  obtain ⟨c2, h2⟩ := st_ar (ty := .long) (fun _ h => nomatch h) (fun h => nomatch h) (ht _ (tl_8 (i := 204) (by decide +kernel)))
  obtain ⟨c3, h3⟩ := st_ar (ty := .double) (fun _ h => nomatch h) (fun h => nomatch h) (ht _ (tl_8 (i := 205) (by decide +kernel)))
  obtain ⟨c4, h4⟩ := st_ao (C := "RailTimeline$State") (ht _ (tl_1 (i := 95) (by decide +kernel)))
  obtain ⟨c5, h5⟩ := st_ao (C := "RailTimeline$Command") (ht _ (tl_1 (i := 155) (by decide +kernel)))
  refine ⟨fun k => match k with | 0 => c0 | 1 => c1 | 2 => c2 | 3 => c3 | 4 => c4 | _ => c5, fun k q hq => ?_⟩
  by_cases hk : k < 6
  · rcases (show k = 0 ∨ k = 1 ∨ k = 2 ∨ k = 3 ∨ k = 4 ∨ k = 5 by omega) with rfl | rfl | rfl | rfl | rfl | rfl
    · cases hq; exact h0
    · cases hq; exact h1
    · cases hq; exact h2
    · cases hq; exact h3
    · cases hq; exact h4
    · cases hq; exact h5
  · exact absurd (List.getElem?_eq_some_iff.mp hq).1 hk
