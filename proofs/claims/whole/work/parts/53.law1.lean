/-! the law: its wrappers -/
abbrev zJ (g : zGT) (f : Nat → Int64) : va_E := .inl (zc g 2, (1, .inr (.inl f)))
abbrev zQ (g : zGT) (f : Nat → UInt64) : va_E := .inl (zc g 3, (1, .inr (.inr (.inr (.inl f)))))
/-- nothing but the object at b and the row at c is written -/
def zFo (w w' : zW) (b c : Nat) : Prop := ∀ k, (k < b ∨ b + 101 ≤ k) → k ≠ c → w' k = w k
/-- the place of a fault among the exceptions that a wrapper catches -/
def rwP : List Nat → Nat → Nat
  | [], _ => 0
  | c :: r, F => if F = c then 1 else if rwP r F = 0 then 0 else rwP r F + 1
def zNC (g : zGT) : Prop := ∀ i j, 1 ≤ i → i ≤ 5 → 1 ≤ j → j ≤ 5 → i ≠ j → va_Nc (exN i) (exN j) (zs g)
section ZH1
variable {g : zGT} {M : zMD} {hh : zHH} {R : Room} {ce sl pc : Nat} {lv lv' : List (Nat × Value)} {st rest : List Value} {w : zW} {Post : zP}
theorem zh_last_n {j : Nat} {f : Nat → Int64} {x : Int64} (d : decode M.2.1 pc = .ok (.lastore, 1)) (hj : j < zn g) (hw : w j = zJ g f)
    (kk : zTrH g M hh R ce sl (pc + 1) lv rest (va_up w j (zJ g (vp_updL f 0 x))) Post) : zTrH g M hh R ce sl pc lv (.long x :: .int (nI 0) :: .ref (za g j) :: rest) w Post :=
  zh_last d hj hw (vp_in_nI (by decide) (by decide)) (by rw [nI_clamp (by decide)]; exact kk)
theorem zh_dast_n {j : Nat} {f : Nat → UInt64} {x : UInt64} (d : decode M.2.1 pc = .ok (.dastore, 1)) (hj : j < zn g) (hw : w j = zQ g f)
    (kk : zTrH g M hh R ce sl (pc + 1) lv rest (va_up w j (zQ g (vf_upd f 0 x))) Post) : zTrH g M hh R ce sl pc lv (.double x :: .int (nI 0) :: .ref (za g j) :: rest) w Post :=
  zh_dast d hj hw (vp_in_nI (by decide) (by decide)) (by rw [nI_clamp (by decide)]; exact kk)
end ZH1
theorem lk_13 : Cond.classLink RL 13 "java/lang/IllegalArgumentException" ∈ ztb := (tb_4 (i := 116) (by decide +kernel) rfl)
theorem lk_15 : Cond.classLink RL 15 "java/lang/IllegalStateException" ∈ ztb := (tb_4 (i := 117) (by decide +kernel) rfl)
theorem lk_21 : Cond.classLink RL 21 "java/lang/IndexOutOfBoundsException" ∈ ztb := (tb_4 (i := 126) (by decide +kernel) rfl)
theorem lk_46 : Cond.classLink RL 46 "java/util/NoSuchElementException" ∈ ztb := (tb_4 (i := 210) (by decide +kernel) rfl)
theorem lk_114 : Cond.classLink RL 114 "java/lang/ArithmeticException" ∈ ztb := (tb_5 (i := 170) (by decide +kernel) rfl)
theorem ca_1 : Cond.castable "java/lang/IndexOutOfBoundsException" "java/lang/IndexOutOfBoundsException" ∈ lw_tbl := (tl_2 (i := 94) (by decide +kernel))
theorem ca_2 : Cond.castable "java/lang/IllegalArgumentException" "java/lang/IllegalArgumentException" ∈ lw_tbl := (tl_2 (i := 166) (by decide +kernel))
theorem ca_3 : Cond.castable "java/lang/IllegalStateException" "java/lang/IllegalStateException" ∈ lw_tbl := (tl_2 (i := 183) (by decide +kernel))
theorem ca_4 : Cond.castable "java/util/NoSuchElementException" "java/util/NoSuchElementException" ∈ lw_tbl := (tl_2 (i := 200) (by decide +kernel))
theorem ca_5 : Cond.castable "java/lang/ArithmeticException" "java/lang/ArithmeticException" ∈ lw_tbl := (tl_5 (i := 182) (by decide +kernel))
abbrev mL_pass : zMD := (yL_pass, cL_pass, 6, (some .int))
abbrev hL_pass : zHH := [(0, 12, 15, 13), (0, 12, 19, 15)]
theorem kc_mL_pass : Cond.codeWith yL_pass cL_pass 6 (some .int) hL_pass ∈ ztb := (tb_4 (i := 115) (by decide +kernel) rfl)
abbrev mL_insertRest : zMD := (yL_insertRest, cL_insertRest, 5, (some .int))
abbrev hL_insertRest : zHH := [(0, 10, 13, 21), (0, 10, 17, 13), (0, 10, 21, 15)]
theorem kc_mL_insertRest : Cond.codeWith yL_insertRest cL_insertRest 5 (some .int) hL_insertRest ∈ ztb := (tb_4 (i := 125) (by decide +kernel) rfl)
abbrev mL_remove : zMD := (yL_remove, cL_remove, 5, (some .int))
abbrev hL_remove : zHH := [(0, 10, 13, 21)]
theorem kc_mL_remove : Cond.codeWith yL_remove cL_remove 5 (some .int) hL_remove ∈ ztb := (tb_4 (i := 155) (by decide +kernel) rfl)
abbrev mL_mute : zMD := (yL_mute, cL_mute, 5, (some .int))
abbrev hL_mute : zHH := [(0, 10, 13, 21)]
theorem kc_mL_mute : Cond.codeWith yL_mute cL_mute 5 (some .int) hL_mute ∈ ztb := (tb_4 (i := 164) (by decide +kernel) rfl)
abbrev mL_modulate : zMD := (yL_modulate, cL_modulate, 6, (some .int))
abbrev hL_modulate : zHH := [(0, 12, 15, 21), (0, 12, 19, 13)]
theorem kc_mL_modulate : Cond.codeWith yL_modulate cL_modulate 6 (some .int) hL_modulate ∈ ztb := (tb_4 (i := 173) (by decide +kernel) rfl)
abbrev mL_reverse : zMD := (yL_reverse, cL_reverse, 5, (some .int))
abbrev hL_reverse : zHH := [(0, 17, 20, 21)]
theorem kc_mL_reverse : Cond.codeWith yL_reverse cL_reverse 5 (some .int) hL_reverse ∈ ztb := (tb_4 (i := 182) (by decide +kernel) rfl)
abbrev mL_repeat : zMD := (yL_repeat, cL_repeat, 6, (some .int))
abbrev hL_repeat : zHH := [(0, 12, 15, 21), (0, 12, 19, 13), (0, 12, 23, 15)]
theorem kc_mL_repeat : Cond.codeWith yL_repeat cL_repeat 6 (some .int) hL_repeat ∈ ztb := (tb_4 (i := 191) (by decide +kernel) rfl)
abbrev mL_copy : zMD := (yL_copy, cL_copy, 5, (some .int))
abbrev hL_copy : zHH := [(0, 10, 13, 21)]
theorem kc_mL_copy : Cond.codeWith yL_copy cL_copy 5 (some .int) hL_copy ∈ ztb := (tb_4 (i := 200) (by decide +kernel) rfl)
abbrev mL_paste : zMD := (yL_paste, cL_paste, 4, (some .int))
abbrev hL_paste : zHH := [(0, 9, 12, 21), (0, 9, 15, 46), (0, 9, 18, 15)]
theorem kc_mL_paste : Cond.codeWith yL_paste cL_paste 4 (some .int) hL_paste ∈ ztb := (tb_4 (i := 209) (by decide +kernel) rfl)
abbrev mL_addMarker : zMD := (yL_addMarker, cL_addMarker, 4, (some .int))
abbrev hL_addMarker : zHH := [(0, 16, 19, 21), (0, 16, 22, 15)]
theorem kc_mL_addMarker : Cond.codeWith yL_addMarker cL_addMarker 4 (some .int) hL_addMarker ∈ ztb := (tb_4 (i := 219) (by decide +kernel) rfl)
abbrev mL_levelAt : zMD := (yL_levelAt, cL_levelAt, 4, (some .int))
abbrev hL_levelAt : zHH := [(0, 9, 12, 21)]
theorem kc_mL_levelAt : Cond.codeWith yL_levelAt cL_levelAt 4 (some .int) hL_levelAt ∈ ztb := (tb_4 (i := 228) (by decide +kernel) rfl)
abbrev mL_runStart : zMD := (yL_runStart, cL_runStart, 4, (some .int))
abbrev hL_runStart : zHH := [(0, 9, 12, 21)]
theorem kc_mL_runStart : Cond.codeWith yL_runStart cL_runStart 4 (some .int) hL_runStart ∈ ztb := (tb_4 (i := 238) (by decide +kernel) rfl)
abbrev mL_runLength : zMD := (yL_runLength, cL_runLength, 4, (some .int))
abbrev hL_runLength : zHH := [(0, 9, 12, 21)]
theorem kc_mL_runLength : Cond.codeWith yL_runLength cL_runLength 4 (some .int) hL_runLength ∈ ztb := (tb_5 (i := 17) (by decide +kernel) rfl)
abbrev mL_runLevel : zMD := (yL_runLevel, cL_runLevel, 4, (some .int))
abbrev hL_runLevel : zHH := [(0, 9, 12, 21)]
theorem kc_mL_runLevel : Cond.codeWith yL_runLevel cL_runLevel 4 (some .int) hL_runLevel ∈ ztb := (tb_5 (i := 24) (by decide +kernel) rfl)
abbrev mL_ticksAtLevel : zMD := (yL_ticksAtLevel, cL_ticksAtLevel, 4, (some .int))
abbrev hL_ticksAtLevel : zHH := [(0, 9, 12, 13)]
theorem kc_mL_ticksAtLevel : Cond.codeWith yL_ticksAtLevel cL_ticksAtLevel 4 (some .int) hL_ticksAtLevel ∈ ztb := (tb_5 (i := 31) (by decide +kernel) rfl)
abbrev mL_loudnessIn : zMD := (yL_loudnessIn, cL_loudnessIn, 5, (some .int))
abbrev hL_loudnessIn : zHH := [(0, 10, 13, 21)]
theorem kc_mL_loudnessIn : Cond.codeWith yL_loudnessIn cL_loudnessIn 5 (some .int) hL_loudnessIn ∈ ztb := (tb_5 (i := 41) (by decide +kernel) rfl)
abbrev mL_loudnessInByPrefixes : zMD := (yL_loudnessInByPrefixes, cL_loudnessInByPrefixes, 5, (some .int))
abbrev hL_loudnessInByPrefixes : zHH := [(0, 10, 13, 21)]
theorem kc_mL_loudnessInByPrefixes : Cond.codeWith yL_loudnessInByPrefixes cL_loudnessInByPrefixes 5 (some .int) hL_loudnessInByPrefixes ∈ ztb := (tb_5 (i := 49) (by decide +kernel) rfl)
abbrev mL_isSilent : zMD := (yL_isSilent, cL_isSilent, 5, (some .int))
abbrev hL_isSilent : zHH := [(0, 17, 20, 21)]
theorem kc_mL_isSilent : Cond.codeWith yL_isSilent cL_isSilent 5 (some .int) hL_isSilent ∈ ztb := (tb_5 (i := 56) (by decide +kernel) rfl)
abbrev mL_restStartByLength : zMD := (yL_restStartByLength, cL_restStartByLength, 4, (some .int))
abbrev hL_restStartByLength : zHH := [(0, 9, 12, 46)]
theorem kc_mL_restStartByLength : Cond.codeWith yL_restStartByLength cL_restStartByLength 4 (some .int) hL_restStartByLength ∈ ztb := (tb_5 (i := 64) (by decide +kernel) rfl)
abbrev mL_nextChange : zMD := (yL_nextChange, cL_nextChange, 4, (some .int))
abbrev hL_nextChange : zHH := [(0, 9, 12, 21), (0, 9, 15, 46)]
theorem kc_mL_nextChange : Cond.codeWith yL_nextChange cL_nextChange 4 (some .int) hL_nextChange ∈ ztb := (tb_5 (i := 79) (by decide +kernel) rfl)
abbrev mL_findRun : zMD := (yL_findRun, cL_findRun, 5, (some .int))
abbrev hL_findRun : zHH := [(0, 10, 13, 13), (0, 10, 17, 46)]
theorem kc_mL_findRun : Cond.codeWith yL_findRun cL_findRun 5 (some .int) hL_findRun ∈ ztb := (tb_5 (i := 91) (by decide +kernel) rfl)
abbrev mL_quietestWindow : zMD := (yL_quietestWindow, cL_quietestWindow, 4, (some .int))
abbrev hL_quietestWindow : zHH := [(0, 9, 12, 13), (0, 9, 15, 46)]
theorem kc_mL_quietestWindow : Cond.codeWith yL_quietestWindow cL_quietestWindow 4 (some .int) hL_quietestWindow ∈ ztb := (tb_5 (i := 102) (by decide +kernel) rfl)
abbrev mL_quietestWindowByTrial : zMD := (yL_quietestWindowByTrial, cL_quietestWindowByTrial, 4, (some .int))
abbrev hL_quietestWindowByTrial : zHH := [(0, 9, 12, 13), (0, 9, 15, 46)]
theorem kc_mL_quietestWindowByTrial : Cond.codeWith yL_quietestWindowByTrial cL_quietestWindowByTrial 4 (some .int) hL_quietestWindowByTrial ∈ ztb := (tb_5 (i := 114) (by decide +kernel) rfl)
abbrev mL_period : zMD := (yL_period, cL_period, 3, (some .int))
abbrev hL_period : zHH := [(0, 8, 11, 46)]
theorem kc_mL_period : Cond.codeWith yL_period cL_period 3 (some .int) hL_period ∈ ztb := (tb_5 (i := 121) (by decide +kernel) rfl)
abbrev mL_periodByTrial : zMD := (yL_periodByTrial, cL_periodByTrial, 3, (some .int))
abbrev hL_periodByTrial : zHH := [(0, 8, 11, 46)]
theorem kc_mL_periodByTrial : Cond.codeWith yL_periodByTrial cL_periodByTrial 3 (some .int) hL_periodByTrial ∈ ztb := (tb_5 (i := 128) (by decide +kernel) rfl)
abbrev mL_markerTime : zMD := (yL_markerTime, cL_markerTime, 4, (some .int))
abbrev hL_markerTime : zHH := [(0, 9, 12, 21)]
theorem kc_mL_markerTime : Cond.codeWith yL_markerTime cL_markerTime 4 (some .int) hL_markerTime ∈ ztb := (tb_5 (i := 135) (by decide +kernel) rfl)
abbrev mL_barLength : zMD := (yL_barLength, cL_barLength, 4, (some .int))
abbrev hL_barLength : zHH := [(0, 9, 12, 21)]
theorem kc_mL_barLength : Cond.codeWith yL_barLength cL_barLength 4 (some .int) hL_barLength ∈ ztb := (tb_5 (i := 143) (by decide +kernel) rfl)
abbrev mL_barLoudness : zMD := (yL_barLoudness, cL_barLoudness, 4, (some .int))
abbrev hL_barLoudness : zHH := [(0, 9, 12, 21)]
theorem kc_mL_barLoudness : Cond.codeWith yL_barLoudness cL_barLoudness 4 (some .int) hL_barLoudness ∈ ztb := (tb_5 (i := 154) (by decide +kernel) rfl)
abbrev mL_areBarsEqual : zMD := (yL_areBarsEqual, cL_areBarsEqual, 5, (some .int))
abbrev hL_areBarsEqual : zHH := [(0, 17, 20, 21)]
theorem kc_mL_areBarsEqual : Cond.codeWith yL_areBarsEqual cL_areBarsEqual 5 (some .int) hL_areBarsEqual ∈ ztb := (tb_5 (i := 161) (by decide +kernel) rfl)
abbrev mL_meanLevel : zMD := (yL_meanLevel, cL_meanLevel, 3, (some .int))
abbrev hL_meanLevel : zHH := [(0, 7, 10, 114)]
theorem kc_mL_meanLevel : Cond.codeWith yL_meanLevel cL_meanLevel 3 (some .int) hL_meanLevel ∈ ztb := (tb_5 (i := 169) (by decide +kernel) rfl)
abbrev mL_restShare : zMD := (yL_restShare, cL_restShare, 3, (some .int))
abbrev hL_restShare : zHH := [(0, 8, 11, 114)]
theorem kc_mL_restShare : Cond.codeWith yL_restShare cL_restShare 3 (some .int) hL_restShare ∈ ztb := (tb_5 (i := 197) (by decide +kernel) rfl)
abbrev mL_outputAt : zMD := (yL_outputAt, cL_outputAt, 4, (some .int))
abbrev hL_outputAt : zHH := [(0, 9, 12, 21)]
theorem kc_mL_outputAt : Cond.codeWith yL_outputAt cL_outputAt 4 (some .int) hL_outputAt ∈ ztb := (tb_5 (i := 204) (by decide +kernel) rfl)
abbrev mL_type : zMD := (yL_type, cL_type, 4, (some .int))
abbrev hL_type : zHH := [(0, 9, 12, 13), (0, 9, 15, 15)]
theorem kc_mL_type : Cond.codeWith yL_type cL_type 4 (some .int) hL_type ∈ ztb := (tb_5 (i := 215) (by decide +kernel) rfl)
abbrev mL_load : zMD := (yL_load, cL_load, 3, (some .int))
abbrev hL_load : zHH := [(0, 8, 11, 13), (0, 8, 14, 15)]
theorem kc_mL_load : Cond.codeWith yL_load cL_load 3 (some .int) hL_load ∈ ztb := (tb_5 (i := 230) (by decide +kernel) rfl)
abbrev mL_runScript : zMD := (yL_runScript, cL_runScript, 3, (some .int))
abbrev hL_runScript : zHH := [(0, 8, 11, 13), (0, 8, 14, 15)]
theorem kc_mL_runScript : Cond.codeWith yL_runScript cL_runScript 3 (some .int) hL_runScript ∈ ztb := (tb_6 (i := 60) (by decide +kernel) rfl)
abbrev mL_errorPosition : zMD := (yL_errorPosition, cL_errorPosition, 3, (some .int))
abbrev hL_errorPosition : zHH := [(0, 8, 11, 46)]
theorem kc_mL_errorPosition : Cond.codeWith yL_errorPosition cL_errorPosition 3 (some .int) hL_errorPosition ∈ ztb := (tb_6 (i := 163) (by decide +kernel) rfl)
abbrev mL_failedCommand : zMD := (yL_failedCommand, cL_failedCommand, 3, (some .int))
abbrev hL_failedCommand : zHH := [(0, 8, 11, 46)]
theorem kc_mL_failedCommand : Cond.codeWith yL_failedCommand cL_failedCommand 3 (some .int) hL_failedCommand ∈ ztb := (tb_6 (i := 170) (by decide +kernel) rfl)
abbrev mL_undo : zMD := (yL_undo, cL_undo, 3, (some .int))
abbrev hL_undo : zHH := [(0, 8, 11, 15)]
theorem kc_mL_undo : Cond.codeWith yL_undo cL_undo 3 (some .int) hL_undo ∈ ztb := (tb_6 (i := 177) (by decide +kernel) rfl)
abbrev mL_restore : zMD := (yL_restore, cL_restore, 3, (some .int))
abbrev hL_restore : zHH := [(0, 8, 11, 15)]
theorem kc_mL_restore : Cond.codeWith yL_restore cL_restore 3 (some .int) hL_restore ∈ ztb := (tb_6 (i := 192) (by decide +kernel) rfl)
set_option maxRecDepth 100000 in
set_option maxHeartbeats 4000000 in
theorem c_L_pass {g : zGT} {w : zW} {b c9 : Nat} {S : zSt} {Hs : List zSt} {Sn : Option zSt} {I O : List Nat} {ep fc : Int32} {f9 : Nat → Int64} {x y z : Int32} (h0 : zG0 g) (h1 : zST g) (hN : zNC g) (h : Rx g w b S Hs Sn I O ep fc) (hc9 : c9 < zn g) (hbc : b + 101 ≤ c9) (hw9 : w c9 = zJ g f9) : zCtH g mL_pass hL_pass (zR 9 2) [.ref (za g b), .int (x), .int (y), .int (z), .ref (za g c9)] w (fun o w' => o = .inl (some (.int (nI (rwP [2, 3] (spF 0 (x).toInt (y).toInt (z).toInt S))))) ∧ zFo w w' b c9 ∧ Rx g w' b (if spF 0 (x).toInt (y).toInt (z).toInt S = 0 then spS 0 (x).toInt (y).toInt (z).toInt S else S) (if spF 0 (x).toInt (y).toInt (z).toInt S = 0 then (S :: Hs).take 8 else Hs) Sn I O ep fc ∧ w' c9 = zJ g (if (spF 0 (x).toInt (y).toInt (z).toInt S) = 0 then vp_updL f9 0 ((nI (spA 0 (x).toInt (y).toInt (z).toInt S)).toInt64) else f9)) := by
  have hb := h.1
  have hn := h.st.len
  refine zCtH_of (by decide +kernel) h0 [(0, .ref (za g b)), (1, .int (x)), (2, .int (y)), (3, .int (z)), (4, .ref (za g c9))] rfl (Nat.le_of_ble_eq_true rfl) ?_
  refine zh_aload dL_pass_0 rfl ?_
  refine zh_iconst (v := nI 0) dL_pass_2 rfl ?_
  refine zh_aload_n dL_pass_3 rfl ?_
  refine zh_iload_n dL_pass_4 rfl ?_
  refine zh_iload_n dL_pass_5 rfl ?_
  refine zh_iload_n dL_pass_6 rfl ?_
  refine zh_callV (As := [.int (x), .int (y), .int (z)]) (rest := [.int (nI (0)), .ref (za g c9)]) (b := b) (ci := 11) (R2 := zR 6 1) dL_pass_7 kV_RL_7 rfl ⟨⟨by decide, by decide⟩, by decide, by decide⟩ (by omega) h.ce rfl rfl rfl (Nat.le_of_ble_eq_true rfl) rfl (c_X12_pass h0 h1 h) (fun E w1 hp => ?_) (fun v w1 hp => ?_)
  · obtain ⟨ho, hf, hx⟩ := hp
    obtain ⟨hF, hE⟩ := zAns_r ho
    have hk : (spF 0 (x).toInt (y).toInt (z).toInt S) = 2 ∨ (spF 0 (x).toInt (y).toInt (z).toInt S) = 3 := by revert hF; (try simp only [spF, fPass, fRest, fIv, fMod, fRep, fPas, fMark, fWin]); (repeat' split) <;> first | (intro hF; omega) | simp
    rcases hk with hk | hk
    · refine ⟨15, by rw [hE, hk]; exact ⟨0, 0, 12, 13, "java/lang/IllegalArgumentException", rfl, ⟨by decide, by decide⟩, by decide, lk_13, ca_2, fun j hj => absurd hj (Nat.not_lt_zero j)⟩, fun q9 => ?_⟩
      refine zh_astore (lv' := [(0, .ref (za g b)), (1, .int (x)), (2, .int (y)), (3, .int (z)), (4, .ref (za g c9)), (5, .ref (q9))]) dL_pass_15 (by decide) rfl ?_
      refine zh_iconst (v := nI 1) dL_pass_17 rfl ?_
      refine zh_iret dL_pass_18 rfl (by decide) (by decide) ?_
      exact ⟨by rw [hk]; rfl, fun k hk _ => hf k hk, hx, by rw [if_neg hF]; exact (hf _ (by omega)).trans hw9⟩
    · refine ⟨19, by rw [hE, hk]; exact ⟨1, 0, 12, 15, "java/lang/IllegalStateException", rfl, ⟨by decide, by decide⟩, by decide, lk_15, ca_3, fun j hj => by (obtain rfl : j = 0 := by omega); exact ⟨0, 12, 15, 13, "java/lang/IllegalArgumentException", rfl, by decide, lk_13, hN 3 2 (by decide) (by decide) (by decide) (by decide) (by decide)⟩⟩, fun q9 => ?_⟩
      refine zh_astore (lv' := [(0, .ref (za g b)), (1, .int (x)), (2, .int (y)), (3, .int (z)), (4, .ref (za g c9)), (5, .ref (q9))]) dL_pass_19 (by decide) rfl ?_
      refine zh_iconst (v := nI 2) dL_pass_21 rfl ?_
      refine zh_iret dL_pass_22 rfl (by decide) (by decide) ?_
      exact ⟨by rw [hk]; rfl, fun k hk _ => hf k hk, hx, by rw [if_neg hF]; exact (hf _ (by omega)).trans hw9⟩
  · obtain ⟨ho, hf, hx⟩ := hp
    obtain ⟨hF, hv⟩ := zAns_l ho
    subst hv
    refine zh_i2l dL_pass_10 ?_
    have hw8 : w1 c9 = zJ g f9 := (hf _ (by omega)).trans hw9
    refine zh_last_n dL_pass_11 hc9 hw8 ?_
    refine zh_goto (tgt := 23) dL_pass_12 (by decide) ?_
    refine zh_iconst (v := nI 0) dL_pass_23 rfl ?_
    refine zh_iret dL_pass_24 rfl (by decide) (by decide) ?_
    refine ⟨by rw [hF]; rfl, fun k hk hk2 => ?_, hx.fr (zFr.up (lo := c9) (hi := c9 + 1) (by omega)) (by omega), ?_⟩
    · rw [zup_n (by omega)]; exact hf k hk
    · rw [zup_s, if_pos hF]
set_option maxRecDepth 100000 in
set_option maxHeartbeats 4000000 in
theorem c_L_insertRest {g : zGT} {w : zW} {b c9 : Nat} {S : zSt} {Hs : List zSt} {Sn : Option zSt} {I O : List Nat} {ep fc : Int32} {f9 : Nat → Int64} {x y : Int32} (h0 : zG0 g) (h1 : zST g) (hN : zNC g) (h : Rx g w b S Hs Sn I O ep fc) (hc9 : c9 < zn g) (hbc : b + 101 ≤ c9) (hw9 : w c9 = zJ g f9) : zCtH g mL_insertRest hL_insertRest (zR 9 2) [.ref (za g b), .int (x), .int (y), .ref (za g c9)] w (fun o w' => o = .inl (some (.int (nI (rwP [1, 2, 3] (spF 1 (x).toInt (y).toInt (nI 0).toInt S))))) ∧ zFo w w' b c9 ∧ Rx g w' b (if spF 1 (x).toInt (y).toInt (nI 0).toInt S = 0 then spS 1 (x).toInt (y).toInt (nI 0).toInt S else S) (if spF 1 (x).toInt (y).toInt (nI 0).toInt S = 0 then (S :: Hs).take 8 else Hs) Sn I O ep fc ∧ w' c9 = zJ g (if (spF 1 (x).toInt (y).toInt (nI 0).toInt S) = 0 then vp_updL f9 0 ((nI (spA 1 (x).toInt (y).toInt (nI 0).toInt S)).toInt64) else f9)) := by
  have hb := h.1
  have hn := h.st.len
  refine zCtH_of (by decide +kernel) h0 [(0, .ref (za g b)), (1, .int (x)), (2, .int (y)), (3, .ref (za g c9))] rfl (Nat.le_of_ble_eq_true rfl) ?_
  refine zh_aload_n dL_insertRest_0 rfl ?_
  refine zh_iconst (v := nI 0) dL_insertRest_1 rfl ?_
  refine zh_aload_n dL_insertRest_2 rfl ?_
  refine zh_iload_n dL_insertRest_3 rfl ?_
  refine zh_iload_n dL_insertRest_4 rfl ?_
  refine zh_callV (As := [.int (x), .int (y)]) (rest := [.int (nI (0)), .ref (za g c9)]) (b := b) (ci := 11) (R2 := zR 6 1) dL_insertRest_5 kV_RL_17 rfl ⟨⟨by decide, by decide⟩, by decide, by decide⟩ (by omega) h.ce rfl rfl rfl (Nat.le_of_ble_eq_true rfl) rfl (c_X12_insertRest h0 h1 h) (fun E w1 hp => ?_) (fun v w1 hp => ?_)
  · obtain ⟨ho, hf, hx⟩ := hp
    obtain ⟨hF, hE⟩ := zAns_r ho
    have hk : (spF 1 (x).toInt (y).toInt (nI 0).toInt S) = 1 ∨ (spF 1 (x).toInt (y).toInt (nI 0).toInt S) = 2 ∨ (spF 1 (x).toInt (y).toInt (nI 0).toInt S) = 3 := by revert hF; (try simp only [spF, fPass, fRest, fIv, fMod, fRep, fPas, fMark, fWin]); (repeat' split) <;> first | (intro hF; omega) | simp
    rcases hk with hk | hk | hk
    · refine ⟨13, by rw [hE, hk]; exact ⟨0, 0, 10, 21, "java/lang/IndexOutOfBoundsException", rfl, ⟨by decide, by decide⟩, by decide, lk_21, ca_1, fun j hj => absurd hj (Nat.not_lt_zero j)⟩, fun q9 => ?_⟩
      refine zh_astore (lv' := [(0, .ref (za g b)), (1, .int (x)), (2, .int (y)), (3, .ref (za g c9)), (4, .ref (q9))]) dL_insertRest_13 (by decide) rfl ?_
      refine zh_iconst (v := nI 1) dL_insertRest_15 rfl ?_
      refine zh_iret dL_insertRest_16 rfl (by decide) (by decide) ?_
      exact ⟨by rw [hk]; rfl, fun k hk _ => hf k hk, hx, by rw [if_neg hF]; exact (hf _ (by omega)).trans hw9⟩
    · refine ⟨17, by rw [hE, hk]; exact ⟨1, 0, 10, 13, "java/lang/IllegalArgumentException", rfl, ⟨by decide, by decide⟩, by decide, lk_13, ca_2, fun j hj => by (obtain rfl : j = 0 := by omega); exact ⟨0, 10, 13, 21, "java/lang/IndexOutOfBoundsException", rfl, by decide, lk_21, hN 2 1 (by decide) (by decide) (by decide) (by decide) (by decide)⟩⟩, fun q9 => ?_⟩
      refine zh_astore (lv' := [(0, .ref (za g b)), (1, .int (x)), (2, .int (y)), (3, .ref (za g c9)), (4, .ref (q9))]) dL_insertRest_17 (by decide) rfl ?_
      refine zh_iconst (v := nI 2) dL_insertRest_19 rfl ?_
      refine zh_iret dL_insertRest_20 rfl (by decide) (by decide) ?_
      exact ⟨by rw [hk]; rfl, fun k hk _ => hf k hk, hx, by rw [if_neg hF]; exact (hf _ (by omega)).trans hw9⟩
    · refine ⟨21, by rw [hE, hk]; exact ⟨2, 0, 10, 15, "java/lang/IllegalStateException", rfl, ⟨by decide, by decide⟩, by decide, lk_15, ca_3, fun j hj => by rcases (show j = 0 ∨ j = 1 by omega) with rfl | rfl; exact ⟨0, 10, 13, 21, "java/lang/IndexOutOfBoundsException", rfl, by decide, lk_21, hN 3 1 (by decide) (by decide) (by decide) (by decide) (by decide)⟩; exact ⟨0, 10, 17, 13, "java/lang/IllegalArgumentException", rfl, by decide, lk_13, hN 3 2 (by decide) (by decide) (by decide) (by decide) (by decide)⟩⟩, fun q9 => ?_⟩
      refine zh_astore (lv' := [(0, .ref (za g b)), (1, .int (x)), (2, .int (y)), (3, .ref (za g c9)), (4, .ref (q9))]) dL_insertRest_21 (by decide) rfl ?_
      refine zh_iconst (v := nI 3) dL_insertRest_23 rfl ?_
      refine zh_iret dL_insertRest_24 rfl (by decide) (by decide) ?_
      exact ⟨by rw [hk]; rfl, fun k hk _ => hf k hk, hx, by rw [if_neg hF]; exact (hf _ (by omega)).trans hw9⟩
  · obtain ⟨ho, hf, hx⟩ := hp
    obtain ⟨hF, hv⟩ := zAns_l ho
    subst hv
    refine zh_i2l dL_insertRest_8 ?_
    have hw8 : w1 c9 = zJ g f9 := (hf _ (by omega)).trans hw9
    refine zh_last_n dL_insertRest_9 hc9 hw8 ?_
    refine zh_goto (tgt := 25) dL_insertRest_10 (by decide) ?_
    refine zh_iconst (v := nI 0) dL_insertRest_25 rfl ?_
    refine zh_iret dL_insertRest_26 rfl (by decide) (by decide) ?_
    refine ⟨by rw [hF]; rfl, fun k hk hk2 => ?_, hx.fr (zFr.up (lo := c9) (hi := c9 + 1) (by omega)) (by omega), ?_⟩
    · rw [zup_n (by omega)]; exact hf k hk
    · rw [zup_s, if_pos hF]
set_option maxRecDepth 100000 in
set_option maxHeartbeats 4000000 in
theorem c_L_remove {g : zGT} {w : zW} {b c9 : Nat} {S : zSt} {Hs : List zSt} {Sn : Option zSt} {I O : List Nat} {ep fc : Int32} {f9 : Nat → Int64} {x y : Int32} (h0 : zG0 g) (h1 : zST g) (hN : zNC g) (h : Rx g w b S Hs Sn I O ep fc) (hc9 : c9 < zn g) (hbc : b + 101 ≤ c9) (hw9 : w c9 = zJ g f9) : zCtH g mL_remove hL_remove (zR 9 2) [.ref (za g b), .int (x), .int (y), .ref (za g c9)] w (fun o w' => o = .inl (some (.int (nI (rwP [1] (spF 2 (x).toInt (y).toInt (nI 0).toInt S))))) ∧ zFo w w' b c9 ∧ Rx g w' b (if spF 2 (x).toInt (y).toInt (nI 0).toInt S = 0 then spS 2 (x).toInt (y).toInt (nI 0).toInt S else S) (if spF 2 (x).toInt (y).toInt (nI 0).toInt S = 0 then (S :: Hs).take 8 else Hs) Sn I O ep fc ∧ w' c9 = zJ g (if (spF 2 (x).toInt (y).toInt (nI 0).toInt S) = 0 then vp_updL f9 0 ((nI (spA 2 (x).toInt (y).toInt (nI 0).toInt S)).toInt64) else f9)) := by
  have hb := h.1
  have hn := h.st.len
  refine zCtH_of (by decide +kernel) h0 [(0, .ref (za g b)), (1, .int (x)), (2, .int (y)), (3, .ref (za g c9))] rfl (Nat.le_of_ble_eq_true rfl) ?_
  refine zh_aload_n dL_remove_0 rfl ?_
  refine zh_iconst (v := nI 0) dL_remove_1 rfl ?_
  refine zh_aload_n dL_remove_2 rfl ?_
  refine zh_iload_n dL_remove_3 rfl ?_
  refine zh_iload_n dL_remove_4 rfl ?_
  refine zh_callV (As := [.int (x), .int (y)]) (rest := [.int (nI (0)), .ref (za g c9)]) (b := b) (ci := 11) (R2 := zR 6 1) dL_remove_5 kV_RL_23 rfl ⟨⟨by decide, by decide⟩, by decide, by decide⟩ (by omega) h.ce rfl rfl rfl (Nat.le_of_ble_eq_true rfl) rfl (c_X12_remove h0 h1 h) (fun E w1 hp => ?_) (fun v w1 hp => ?_)
  · obtain ⟨ho, hf, hx⟩ := hp
    obtain ⟨hF, hE⟩ := zAns_r ho
    have hk : (spF 2 (x).toInt (y).toInt (nI 0).toInt S) = 1 := by revert hF; (try simp only [spF, fPass, fRest, fIv, fMod, fRep, fPas, fMark, fWin]); (repeat' split) <;> first | (intro hF; omega) | simp
    refine ⟨13, by rw [hE, hk]; exact ⟨0, 0, 10, 21, "java/lang/IndexOutOfBoundsException", rfl, ⟨by decide, by decide⟩, by decide, lk_21, ca_1, fun j hj => absurd hj (Nat.not_lt_zero j)⟩, fun q9 => ?_⟩
    refine zh_astore (lv' := [(0, .ref (za g b)), (1, .int (x)), (2, .int (y)), (3, .ref (za g c9)), (4, .ref (q9))]) dL_remove_13 (by decide) rfl ?_
    refine zh_iconst (v := nI 1) dL_remove_15 rfl ?_
    refine zh_iret dL_remove_16 rfl (by decide) (by decide) ?_
    exact ⟨by rw [hk]; rfl, fun k hk _ => hf k hk, hx, by rw [if_neg hF]; exact (hf _ (by omega)).trans hw9⟩
  · obtain ⟨ho, hf, hx⟩ := hp
    obtain ⟨hF, hv⟩ := zAns_l ho
    subst hv
    refine zh_i2l dL_remove_8 ?_
    have hw8 : w1 c9 = zJ g f9 := (hf _ (by omega)).trans hw9
    refine zh_last_n dL_remove_9 hc9 hw8 ?_
    refine zh_goto (tgt := 17) dL_remove_10 (by decide) ?_
    refine zh_iconst (v := nI 0) dL_remove_17 rfl ?_
    refine zh_iret dL_remove_18 rfl (by decide) (by decide) ?_
    refine ⟨by rw [hF]; rfl, fun k hk hk2 => ?_, hx.fr (zFr.up (lo := c9) (hi := c9 + 1) (by omega)) (by omega), ?_⟩
    · rw [zup_n (by omega)]; exact hf k hk
    · rw [zup_s, if_pos hF]
set_option maxRecDepth 100000 in
set_option maxHeartbeats 4000000 in
theorem c_L_mute {g : zGT} {w : zW} {b c9 : Nat} {S : zSt} {Hs : List zSt} {Sn : Option zSt} {I O : List Nat} {ep fc : Int32} {f9 : Nat → Int64} {x y : Int32} (h0 : zG0 g) (h1 : zST g) (hN : zNC g) (h : Rx g w b S Hs Sn I O ep fc) (hc9 : c9 < zn g) (hbc : b + 101 ≤ c9) (hw9 : w c9 = zJ g f9) : zCtH g mL_mute hL_mute (zR 9 2) [.ref (za g b), .int (x), .int (y), .ref (za g c9)] w (fun o w' => o = .inl (some (.int (nI (rwP [1] (spF 3 (x).toInt (y).toInt (nI 0).toInt S))))) ∧ zFo w w' b c9 ∧ Rx g w' b (if spF 3 (x).toInt (y).toInt (nI 0).toInt S = 0 then spS 3 (x).toInt (y).toInt (nI 0).toInt S else S) (if spF 3 (x).toInt (y).toInt (nI 0).toInt S = 0 then (S :: Hs).take 8 else Hs) Sn I O ep fc ∧ w' c9 = zJ g (if (spF 3 (x).toInt (y).toInt (nI 0).toInt S) = 0 then vp_updL f9 0 ((nI (spA 3 (x).toInt (y).toInt (nI 0).toInt S)).toInt64) else f9)) := by
  have hb := h.1
  have hn := h.st.len
  refine zCtH_of (by decide +kernel) h0 [(0, .ref (za g b)), (1, .int (x)), (2, .int (y)), (3, .ref (za g c9))] rfl (Nat.le_of_ble_eq_true rfl) ?_
  refine zh_aload_n dL_mute_0 rfl ?_
  refine zh_iconst (v := nI 0) dL_mute_1 rfl ?_
  refine zh_aload_n dL_mute_2 rfl ?_
  refine zh_iload_n dL_mute_3 rfl ?_
  refine zh_iload_n dL_mute_4 rfl ?_
  refine zh_callV (As := [.int (x), .int (y)]) (rest := [.int (nI (0)), .ref (za g c9)]) (b := b) (ci := 11) (R2 := zR 6 1) dL_mute_5 kV_RL_26 rfl ⟨⟨by decide, by decide⟩, by decide, by decide⟩ (by omega) h.ce rfl rfl rfl (Nat.le_of_ble_eq_true rfl) rfl (c_X12_mute h0 h1 h) (fun E w1 hp => ?_) (fun v w1 hp => ?_)
  · obtain ⟨ho, hf, hx⟩ := hp
    obtain ⟨hF, hE⟩ := zAns_r ho
    have hk : (spF 3 (x).toInt (y).toInt (nI 0).toInt S) = 1 := by revert hF; (try simp only [spF, fPass, fRest, fIv, fMod, fRep, fPas, fMark, fWin]); (repeat' split) <;> first | (intro hF; omega) | simp
    refine ⟨13, by rw [hE, hk]; exact ⟨0, 0, 10, 21, "java/lang/IndexOutOfBoundsException", rfl, ⟨by decide, by decide⟩, by decide, lk_21, ca_1, fun j hj => absurd hj (Nat.not_lt_zero j)⟩, fun q9 => ?_⟩
    refine zh_astore (lv' := [(0, .ref (za g b)), (1, .int (x)), (2, .int (y)), (3, .ref (za g c9)), (4, .ref (q9))]) dL_mute_13 (by decide) rfl ?_
    refine zh_iconst (v := nI 1) dL_mute_15 rfl ?_
    refine zh_iret dL_mute_16 rfl (by decide) (by decide) ?_
    exact ⟨by rw [hk]; rfl, fun k hk _ => hf k hk, hx, by rw [if_neg hF]; exact (hf _ (by omega)).trans hw9⟩
  · obtain ⟨ho, hf, hx⟩ := hp
    obtain ⟨hF, hv⟩ := zAns_l ho
    subst hv
    refine zh_i2l dL_mute_8 ?_
    have hw8 : w1 c9 = zJ g f9 := (hf _ (by omega)).trans hw9
    refine zh_last_n dL_mute_9 hc9 hw8 ?_
    refine zh_goto (tgt := 17) dL_mute_10 (by decide) ?_
    refine zh_iconst (v := nI 0) dL_mute_17 rfl ?_
    refine zh_iret dL_mute_18 rfl (by decide) (by decide) ?_
    refine ⟨by rw [hF]; rfl, fun k hk hk2 => ?_, hx.fr (zFr.up (lo := c9) (hi := c9 + 1) (by omega)) (by omega), ?_⟩
    · rw [zup_n (by omega)]; exact hf k hk
    · rw [zup_s, if_pos hF]
set_option maxRecDepth 100000 in
set_option maxHeartbeats 4000000 in
theorem c_L_modulate {g : zGT} {w : zW} {b c9 : Nat} {S : zSt} {Hs : List zSt} {Sn : Option zSt} {I O : List Nat} {ep fc : Int32} {f9 : Nat → Int64} {x y z : Int32} (h0 : zG0 g) (h1 : zST g) (hN : zNC g) (h : Rx g w b S Hs Sn I O ep fc) (hc9 : c9 < zn g) (hbc : b + 101 ≤ c9) (hw9 : w c9 = zJ g f9) : zCtH g mL_modulate hL_modulate (zR 9 2) [.ref (za g b), .int (x), .int (y), .int (z), .ref (za g c9)] w (fun o w' => o = .inl (some (.int (nI (rwP [1, 2] (spF 6 (x).toInt (y).toInt (z).toInt S))))) ∧ zFo w w' b c9 ∧ Rx g w' b (if spF 6 (x).toInt (y).toInt (z).toInt S = 0 then spS 6 (x).toInt (y).toInt (z).toInt S else S) (if spF 6 (x).toInt (y).toInt (z).toInt S = 0 then (S :: Hs).take 8 else Hs) Sn I O ep fc ∧ w' c9 = zJ g (if (spF 6 (x).toInt (y).toInt (z).toInt S) = 0 then vp_updL f9 0 ((nI (spA 6 (x).toInt (y).toInt (z).toInt S)).toInt64) else f9)) := by
  have hb := h.1
  have hn := h.st.len
  refine zCtH_of (by decide +kernel) h0 [(0, .ref (za g b)), (1, .int (x)), (2, .int (y)), (3, .int (z)), (4, .ref (za g c9))] rfl (Nat.le_of_ble_eq_true rfl) ?_
  refine zh_aload dL_modulate_0 rfl ?_
  refine zh_iconst (v := nI 0) dL_modulate_2 rfl ?_
  refine zh_aload_n dL_modulate_3 rfl ?_
  refine zh_iload_n dL_modulate_4 rfl ?_
  refine zh_iload_n dL_modulate_5 rfl ?_
  refine zh_iload_n dL_modulate_6 rfl ?_
  refine zh_callV (As := [.int (x), .int (y), .int (z)]) (rest := [.int (nI (0)), .ref (za g c9)]) (b := b) (ci := 11) (R2 := zR 6 1) dL_modulate_7 kV_RL_29 rfl ⟨⟨by decide, by decide⟩, by decide, by decide⟩ (by omega) h.ce rfl rfl rfl (Nat.le_of_ble_eq_true rfl) rfl (c_X12_modulate h0 h1 h) (fun E w1 hp => ?_) (fun v w1 hp => ?_)
  · obtain ⟨ho, hf, hx⟩ := hp
    obtain ⟨hF, hE⟩ := zAns_r ho
    have hk : (spF 6 (x).toInt (y).toInt (z).toInt S) = 1 ∨ (spF 6 (x).toInt (y).toInt (z).toInt S) = 2 := by revert hF; (try simp only [spF, fPass, fRest, fIv, fMod, fRep, fPas, fMark, fWin]); (repeat' split) <;> first | (intro hF; omega) | simp
    rcases hk with hk | hk
    · refine ⟨15, by rw [hE, hk]; exact ⟨0, 0, 12, 21, "java/lang/IndexOutOfBoundsException", rfl, ⟨by decide, by decide⟩, by decide, lk_21, ca_1, fun j hj => absurd hj (Nat.not_lt_zero j)⟩, fun q9 => ?_⟩
      refine zh_astore (lv' := [(0, .ref (za g b)), (1, .int (x)), (2, .int (y)), (3, .int (z)), (4, .ref (za g c9)), (5, .ref (q9))]) dL_modulate_15 (by decide) rfl ?_
      refine zh_iconst (v := nI 1) dL_modulate_17 rfl ?_
      refine zh_iret dL_modulate_18 rfl (by decide) (by decide) ?_
      exact ⟨by rw [hk]; rfl, fun k hk _ => hf k hk, hx, by rw [if_neg hF]; exact (hf _ (by omega)).trans hw9⟩
    · refine ⟨19, by rw [hE, hk]; exact ⟨1, 0, 12, 13, "java/lang/IllegalArgumentException", rfl, ⟨by decide, by decide⟩, by decide, lk_13, ca_2, fun j hj => by (obtain rfl : j = 0 := by omega); exact ⟨0, 12, 15, 21, "java/lang/IndexOutOfBoundsException", rfl, by decide, lk_21, hN 2 1 (by decide) (by decide) (by decide) (by decide) (by decide)⟩⟩, fun q9 => ?_⟩
      refine zh_astore (lv' := [(0, .ref (za g b)), (1, .int (x)), (2, .int (y)), (3, .int (z)), (4, .ref (za g c9)), (5, .ref (q9))]) dL_modulate_19 (by decide) rfl ?_
      refine zh_iconst (v := nI 2) dL_modulate_21 rfl ?_
      refine zh_iret dL_modulate_22 rfl (by decide) (by decide) ?_
      exact ⟨by rw [hk]; rfl, fun k hk _ => hf k hk, hx, by rw [if_neg hF]; exact (hf _ (by omega)).trans hw9⟩
  · obtain ⟨ho, hf, hx⟩ := hp
    obtain ⟨hF, hv⟩ := zAns_l ho
    subst hv
    refine zh_i2l dL_modulate_10 ?_
    have hw8 : w1 c9 = zJ g f9 := (hf _ (by omega)).trans hw9
    refine zh_last_n dL_modulate_11 hc9 hw8 ?_
    refine zh_goto (tgt := 23) dL_modulate_12 (by decide) ?_
    refine zh_iconst (v := nI 0) dL_modulate_23 rfl ?_
    refine zh_iret dL_modulate_24 rfl (by decide) (by decide) ?_
    refine ⟨by rw [hF]; rfl, fun k hk hk2 => ?_, hx.fr (zFr.up (lo := c9) (hi := c9 + 1) (by omega)) (by omega), ?_⟩
    · rw [zup_n (by omega)]; exact hf k hk
    · rw [zup_s, if_pos hF]
set_option maxRecDepth 100000 in
set_option maxHeartbeats 4000000 in
theorem c_L_reverse {g : zGT} {w : zW} {b c9 : Nat} {S : zSt} {Hs : List zSt} {Sn : Option zSt} {I O : List Nat} {ep fc : Int32} {f9 : Nat → Int64} {x y : Int32} (h0 : zG0 g) (h1 : zST g) (hN : zNC g) (h : Rx g w b S Hs Sn I O ep fc) (hc9 : c9 < zn g) (hbc : b + 101 ≤ c9) (hw9 : w c9 = zJ g f9) : zCtH g mL_reverse hL_reverse (zR 9 2) [.ref (za g b), .int (x), .int (y), .ref (za g c9)] w (fun o w' => o = .inl (some (.int (nI (rwP [1] (spF 4 (x).toInt (y).toInt (nI 0).toInt S))))) ∧ zFo w w' b c9 ∧ Rx g w' b (if spF 4 (x).toInt (y).toInt (nI 0).toInt S = 0 then spS 4 (x).toInt (y).toInt (nI 0).toInt S else S) (if spF 4 (x).toInt (y).toInt (nI 0).toInt S = 0 then (S :: Hs).take 8 else Hs) Sn I O ep fc ∧ w' c9 = zJ g (if (spF 4 (x).toInt (y).toInt (nI 0).toInt S) = 0 then vp_updL f9 0 ((if (spA 4 (x).toInt (y).toInt (nI 0).toInt S) = 0 then 0 else 1)) else f9)) := by
  have hb := h.1
  have hn := h.st.len
  refine zCtH_of (by decide +kernel) h0 [(0, .ref (za g b)), (1, .int (x)), (2, .int (y)), (3, .ref (za g c9))] rfl (Nat.le_of_ble_eq_true rfl) ?_
  refine zh_aload_n dL_reverse_0 rfl ?_
  refine zh_iconst (v := nI 0) dL_reverse_1 rfl ?_
  refine zh_aload_n dL_reverse_2 rfl ?_
  refine zh_iload_n dL_reverse_3 rfl ?_
  refine zh_iload_n dL_reverse_4 rfl ?_
  refine zh_callV (As := [.int (x), .int (y)]) (rest := [.int (nI (0)), .ref (za g c9)]) (b := b) (ci := 11) (R2 := zR 6 1) dL_reverse_5 kV_RL_32 rfl ⟨⟨by decide, by decide⟩, by decide, by decide⟩ (by omega) h.ce rfl rfl rfl (Nat.le_of_ble_eq_true rfl) rfl (c_X12_reverse h0 h1 h) (fun E w1 hp => ?_) (fun v w1 hp => ?_)
  · obtain ⟨ho, hf, hx⟩ := hp
    obtain ⟨hF, hE⟩ := zAns_r ho
    have hk : (spF 4 (x).toInt (y).toInt (nI 0).toInt S) = 1 := by revert hF; (try simp only [spF, fPass, fRest, fIv, fMod, fRep, fPas, fMark, fWin]); (repeat' split) <;> first | (intro hF; omega) | simp
    refine ⟨20, by rw [hE, hk]; exact ⟨0, 0, 17, 21, "java/lang/IndexOutOfBoundsException", rfl, ⟨by decide, by decide⟩, by decide, lk_21, ca_1, fun j hj => absurd hj (Nat.not_lt_zero j)⟩, fun q9 => ?_⟩
    refine zh_astore (lv' := [(0, .ref (za g b)), (1, .int (x)), (2, .int (y)), (3, .ref (za g c9)), (4, .ref (q9))]) dL_reverse_20 (by decide) rfl ?_
    refine zh_iconst (v := nI 1) dL_reverse_22 rfl ?_
    refine zh_iret dL_reverse_23 rfl (by decide) (by decide) ?_
    exact ⟨by rw [hk]; rfl, fun k hk _ => hf k hk, hx, by rw [if_neg hF]; exact (hf _ (by omega)).trans hw9⟩
  · obtain ⟨ho, hf, hx⟩ := hp
    obtain ⟨hF, hv⟩ := zAns_l ho
    subst hv
    have hbt : (spA 4 (x).toInt (y).toInt (nI 0).toInt S) ≤ 1 := by exact spA_bit (by decide)
    refine zh_if_eq_n (a := (spA 4 (x).toInt (y).toInt (nI 0).toInt S)) (tgt := 15) dL_reverse_8 (by decide) (by omega) (fun hz => ?_) (fun hz => ?_)
    · refine zh_lconst (v := 0) dL_reverse_15 rfl ?_
      have hw8 : w1 c9 = zJ g f9 := (hf _ (by omega)).trans hw9
      refine zh_last_n dL_reverse_16 hc9 hw8 ?_
      refine zh_goto (tgt := 24) dL_reverse_17 (by decide) ?_
      refine zh_iconst (v := nI 0) dL_reverse_24 rfl ?_
      refine zh_iret dL_reverse_25 rfl (by decide) (by decide) ?_
      refine ⟨by rw [hF]; rfl, fun k hk hk2 => ?_, hx.fr (zFr.up (lo := c9) (hi := c9 + 1) (by omega)) (by omega), ?_⟩
      · rw [zup_n (by omega)]; exact hf k hk
      · rw [zup_s, if_pos hF]; first | rw [if_pos hz] | rw [if_neg hz]
    · refine zh_lconst (v := 1) dL_reverse_11 rfl ?_
      refine zh_goto (tgt := 16) dL_reverse_12 (by decide) ?_
      have hw8 : w1 c9 = zJ g f9 := (hf _ (by omega)).trans hw9
      refine zh_last_n dL_reverse_16 hc9 hw8 ?_
      refine zh_goto (tgt := 24) dL_reverse_17 (by decide) ?_
      refine zh_iconst (v := nI 0) dL_reverse_24 rfl ?_
      refine zh_iret dL_reverse_25 rfl (by decide) (by decide) ?_
      refine ⟨by rw [hF]; rfl, fun k hk hk2 => ?_, hx.fr (zFr.up (lo := c9) (hi := c9 + 1) (by omega)) (by omega), ?_⟩
      · rw [zup_n (by omega)]; exact hf k hk
      · rw [zup_s, if_pos hF]; first | rw [if_pos hz] | rw [if_neg hz]
set_option maxRecDepth 100000 in
set_option maxHeartbeats 4000000 in
theorem c_L_repeat {g : zGT} {w : zW} {b c9 : Nat} {S : zSt} {Hs : List zSt} {Sn : Option zSt} {I O : List Nat} {ep fc : Int32} {f9 : Nat → Int64} {x y z : Int32} (h0 : zG0 g) (h1 : zST g) (hN : zNC g) (h : Rx g w b S Hs Sn I O ep fc) (hc9 : c9 < zn g) (hbc : b + 101 ≤ c9) (hw9 : w c9 = zJ g f9) : zCtH g mL_repeat hL_repeat (zR 9 2) [.ref (za g b), .int (x), .int (y), .int (z), .ref (za g c9)] w (fun o w' => o = .inl (some (.int (nI (rwP [1, 2, 3] (spF 7 (x).toInt (y).toInt (z).toInt S))))) ∧ zFo w w' b c9 ∧ Rx g w' b (if spF 7 (x).toInt (y).toInt (z).toInt S = 0 then spS 7 (x).toInt (y).toInt (z).toInt S else S) (if spF 7 (x).toInt (y).toInt (z).toInt S = 0 then (S :: Hs).take 8 else Hs) Sn I O ep fc ∧ w' c9 = zJ g (if (spF 7 (x).toInt (y).toInt (z).toInt S) = 0 then vp_updL f9 0 ((nI (spA 7 (x).toInt (y).toInt (z).toInt S)).toInt64) else f9)) := by
  have hb := h.1
  have hn := h.st.len
  refine zCtH_of (by decide +kernel) h0 [(0, .ref (za g b)), (1, .int (x)), (2, .int (y)), (3, .int (z)), (4, .ref (za g c9))] rfl (Nat.le_of_ble_eq_true rfl) ?_
  refine zh_aload dL_repeat_0 rfl ?_
  refine zh_iconst (v := nI 0) dL_repeat_2 rfl ?_
  refine zh_aload_n dL_repeat_3 rfl ?_
  refine zh_iload_n dL_repeat_4 rfl ?_
  refine zh_iload_n dL_repeat_5 rfl ?_
  refine zh_iload_n dL_repeat_6 rfl ?_
  refine zh_callV (As := [.int (x), .int (y), .int (z)]) (rest := [.int (nI (0)), .ref (za g c9)]) (b := b) (ci := 11) (R2 := zR 6 1) dL_repeat_7 kV_RL_36 rfl ⟨⟨by decide, by decide⟩, by decide, by decide⟩ (by omega) h.ce rfl rfl rfl (Nat.le_of_ble_eq_true rfl) rfl (c_X12_repeat h0 h1 h) (fun E w1 hp => ?_) (fun v w1 hp => ?_)
  · obtain ⟨ho, hf, hx⟩ := hp
    obtain ⟨hF, hE⟩ := zAns_r ho
    have hk : (spF 7 (x).toInt (y).toInt (z).toInt S) = 1 ∨ (spF 7 (x).toInt (y).toInt (z).toInt S) = 2 ∨ (spF 7 (x).toInt (y).toInt (z).toInt S) = 3 := by revert hF; (try simp only [spF, fPass, fRest, fIv, fMod, fRep, fPas, fMark, fWin]); (repeat' split) <;> first | (intro hF; omega) | simp
    rcases hk with hk | hk | hk
    · refine ⟨15, by rw [hE, hk]; exact ⟨0, 0, 12, 21, "java/lang/IndexOutOfBoundsException", rfl, ⟨by decide, by decide⟩, by decide, lk_21, ca_1, fun j hj => absurd hj (Nat.not_lt_zero j)⟩, fun q9 => ?_⟩
      refine zh_astore (lv' := [(0, .ref (za g b)), (1, .int (x)), (2, .int (y)), (3, .int (z)), (4, .ref (za g c9)), (5, .ref (q9))]) dL_repeat_15 (by decide) rfl ?_
      refine zh_iconst (v := nI 1) dL_repeat_17 rfl ?_
      refine zh_iret dL_repeat_18 rfl (by decide) (by decide) ?_
      exact ⟨by rw [hk]; rfl, fun k hk _ => hf k hk, hx, by rw [if_neg hF]; exact (hf _ (by omega)).trans hw9⟩
    · refine ⟨19, by rw [hE, hk]; exact ⟨1, 0, 12, 13, "java/lang/IllegalArgumentException", rfl, ⟨by decide, by decide⟩, by decide, lk_13, ca_2, fun j hj => by (obtain rfl : j = 0 := by omega); exact ⟨0, 12, 15, 21, "java/lang/IndexOutOfBoundsException", rfl, by decide, lk_21, hN 2 1 (by decide) (by decide) (by decide) (by decide) (by decide)⟩⟩, fun q9 => ?_⟩
      refine zh_astore (lv' := [(0, .ref (za g b)), (1, .int (x)), (2, .int (y)), (3, .int (z)), (4, .ref (za g c9)), (5, .ref (q9))]) dL_repeat_19 (by decide) rfl ?_
      refine zh_iconst (v := nI 2) dL_repeat_21 rfl ?_
      refine zh_iret dL_repeat_22 rfl (by decide) (by decide) ?_
      exact ⟨by rw [hk]; rfl, fun k hk _ => hf k hk, hx, by rw [if_neg hF]; exact (hf _ (by omega)).trans hw9⟩
    · refine ⟨23, by rw [hE, hk]; exact ⟨2, 0, 12, 15, "java/lang/IllegalStateException", rfl, ⟨by decide, by decide⟩, by decide, lk_15, ca_3, fun j hj => by rcases (show j = 0 ∨ j = 1 by omega) with rfl | rfl; exact ⟨0, 12, 15, 21, "java/lang/IndexOutOfBoundsException", rfl, by decide, lk_21, hN 3 1 (by decide) (by decide) (by decide) (by decide) (by decide)⟩; exact ⟨0, 12, 19, 13, "java/lang/IllegalArgumentException", rfl, by decide, lk_13, hN 3 2 (by decide) (by decide) (by decide) (by decide) (by decide)⟩⟩, fun q9 => ?_⟩
      refine zh_astore (lv' := [(0, .ref (za g b)), (1, .int (x)), (2, .int (y)), (3, .int (z)), (4, .ref (za g c9)), (5, .ref (q9))]) dL_repeat_23 (by decide) rfl ?_
      refine zh_iconst (v := nI 3) dL_repeat_25 rfl ?_
      refine zh_iret dL_repeat_26 rfl (by decide) (by decide) ?_
      exact ⟨by rw [hk]; rfl, fun k hk _ => hf k hk, hx, by rw [if_neg hF]; exact (hf _ (by omega)).trans hw9⟩
  · obtain ⟨ho, hf, hx⟩ := hp
    obtain ⟨hF, hv⟩ := zAns_l ho
    subst hv
    refine zh_i2l dL_repeat_10 ?_
    have hw8 : w1 c9 = zJ g f9 := (hf _ (by omega)).trans hw9
    refine zh_last_n dL_repeat_11 hc9 hw8 ?_
    refine zh_goto (tgt := 27) dL_repeat_12 (by decide) ?_
    refine zh_iconst (v := nI 0) dL_repeat_27 rfl ?_
    refine zh_iret dL_repeat_28 rfl (by decide) (by decide) ?_
    refine ⟨by rw [hF]; rfl, fun k hk hk2 => ?_, hx.fr (zFr.up (lo := c9) (hi := c9 + 1) (by omega)) (by omega), ?_⟩
    · rw [zup_n (by omega)]; exact hf k hk
    · rw [zup_s, if_pos hF]
set_option maxRecDepth 100000 in
set_option maxHeartbeats 4000000 in
theorem c_L_copy {g : zGT} {w : zW} {b c9 : Nat} {S : zSt} {Hs : List zSt} {Sn : Option zSt} {I O : List Nat} {ep fc : Int32} {f9 : Nat → Int64} {x y : Int32} (h0 : zG0 g) (h1 : zST g) (hN : zNC g) (h : Rx g w b S Hs Sn I O ep fc) (hc9 : c9 < zn g) (hbc : b + 101 ≤ c9) (hw9 : w c9 = zJ g f9) : zCtH g mL_copy hL_copy (zR 9 2) [.ref (za g b), .int (x), .int (y), .ref (za g c9)] w (fun o w' => o = .inl (some (.int (nI (rwP [1] (spF 5 (x).toInt (y).toInt (nI 0).toInt S))))) ∧ zFo w w' b c9 ∧ Rx g w' b (if spF 5 (x).toInt (y).toInt (nI 0).toInt S = 0 then spS 5 (x).toInt (y).toInt (nI 0).toInt S else S) (if spF 5 (x).toInt (y).toInt (nI 0).toInt S = 0 then (S :: Hs).take 8 else Hs) Sn I O ep fc ∧ w' c9 = zJ g (if (spF 5 (x).toInt (y).toInt (nI 0).toInt S) = 0 then vp_updL f9 0 ((nI (spA 5 (x).toInt (y).toInt (nI 0).toInt S)).toInt64) else f9)) := by
  have hb := h.1
  have hn := h.st.len
  refine zCtH_of (by decide +kernel) h0 [(0, .ref (za g b)), (1, .int (x)), (2, .int (y)), (3, .ref (za g c9))] rfl (Nat.le_of_ble_eq_true rfl) ?_
  refine zh_aload_n dL_copy_0 rfl ?_
  refine zh_iconst (v := nI 0) dL_copy_1 rfl ?_
  refine zh_aload_n dL_copy_2 rfl ?_
  refine zh_iload_n dL_copy_3 rfl ?_
  refine zh_iload_n dL_copy_4 rfl ?_
  refine zh_callV (As := [.int (x), .int (y)]) (rest := [.int (nI (0)), .ref (za g c9)]) (b := b) (ci := 11) (R2 := zR 6 1) dL_copy_5 kV_RL_39 rfl ⟨⟨by decide, by decide⟩, by decide, by decide⟩ (by omega) h.ce rfl rfl rfl (Nat.le_of_ble_eq_true rfl) rfl (c_X12_copy h0 h1 h) (fun E w1 hp => ?_) (fun v w1 hp => ?_)
  · obtain ⟨ho, hf, hx⟩ := hp
    obtain ⟨hF, hE⟩ := zAns_r ho
    have hk : (spF 5 (x).toInt (y).toInt (nI 0).toInt S) = 1 := by revert hF; (try simp only [spF, fPass, fRest, fIv, fMod, fRep, fPas, fMark, fWin]); (repeat' split) <;> first | (intro hF; omega) | simp
    refine ⟨13, by rw [hE, hk]; exact ⟨0, 0, 10, 21, "java/lang/IndexOutOfBoundsException", rfl, ⟨by decide, by decide⟩, by decide, lk_21, ca_1, fun j hj => absurd hj (Nat.not_lt_zero j)⟩, fun q9 => ?_⟩
    refine zh_astore (lv' := [(0, .ref (za g b)), (1, .int (x)), (2, .int (y)), (3, .ref (za g c9)), (4, .ref (q9))]) dL_copy_13 (by decide) rfl ?_
    refine zh_iconst (v := nI 1) dL_copy_15 rfl ?_
    refine zh_iret dL_copy_16 rfl (by decide) (by decide) ?_
    exact ⟨by rw [hk]; rfl, fun k hk _ => hf k hk, hx, by rw [if_neg hF]; exact (hf _ (by omega)).trans hw9⟩
  · obtain ⟨ho, hf, hx⟩ := hp
    obtain ⟨hF, hv⟩ := zAns_l ho
    subst hv
    refine zh_i2l dL_copy_8 ?_
    have hw8 : w1 c9 = zJ g f9 := (hf _ (by omega)).trans hw9
    refine zh_last_n dL_copy_9 hc9 hw8 ?_
    refine zh_goto (tgt := 17) dL_copy_10 (by decide) ?_
    refine zh_iconst (v := nI 0) dL_copy_17 rfl ?_
    refine zh_iret dL_copy_18 rfl (by decide) (by decide) ?_
    refine ⟨by rw [hF]; rfl, fun k hk hk2 => ?_, hx.fr (zFr.up (lo := c9) (hi := c9 + 1) (by omega)) (by omega), ?_⟩
    · rw [zup_n (by omega)]; exact hf k hk
    · rw [zup_s, if_pos hF]
set_option maxRecDepth 100000 in
set_option maxHeartbeats 4000000 in
theorem c_L_paste {g : zGT} {w : zW} {b c9 : Nat} {S : zSt} {Hs : List zSt} {Sn : Option zSt} {I O : List Nat} {ep fc : Int32} {f9 : Nat → Int64} {x : Int32} (h0 : zG0 g) (h1 : zST g) (hN : zNC g) (h : Rx g w b S Hs Sn I O ep fc) (hc9 : c9 < zn g) (hbc : b + 101 ≤ c9) (hw9 : w c9 = zJ g f9) : zCtH g mL_paste hL_paste (zR 9 2) [.ref (za g b), .int (x), .ref (za g c9)] w (fun o w' => o = .inl (some (.int (nI (rwP [1, 4, 3] (spF 8 (x).toInt (nI 0).toInt (nI 0).toInt S))))) ∧ zFo w w' b c9 ∧ Rx g w' b (if spF 8 (x).toInt (nI 0).toInt (nI 0).toInt S = 0 then spS 8 (x).toInt (nI 0).toInt (nI 0).toInt S else S) (if spF 8 (x).toInt (nI 0).toInt (nI 0).toInt S = 0 then (S :: Hs).take 8 else Hs) Sn I O ep fc ∧ w' c9 = zJ g (if (spF 8 (x).toInt (nI 0).toInt (nI 0).toInt S) = 0 then vp_updL f9 0 ((nI (spA 8 (x).toInt (nI 0).toInt (nI 0).toInt S)).toInt64) else f9)) := by
  have hb := h.1
  have hn := h.st.len
  refine zCtH_of (by decide +kernel) h0 [(0, .ref (za g b)), (1, .int (x)), (2, .ref (za g c9))] rfl (Nat.le_of_ble_eq_true rfl) ?_
  refine zh_aload_n dL_paste_0 rfl ?_
  refine zh_iconst (v := nI 0) dL_paste_1 rfl ?_
  refine zh_aload_n dL_paste_2 rfl ?_
  refine zh_iload_n dL_paste_3 rfl ?_
  refine zh_callV (As := [.int (x)]) (rest := [.int (nI (0)), .ref (za g c9)]) (b := b) (ci := 11) (R2 := zR 6 1) dL_paste_4 kV_RL_42 rfl ⟨⟨by decide, by decide⟩, by decide, by decide⟩ (by omega) h.ce rfl rfl rfl (Nat.le_of_ble_eq_true rfl) rfl (c_X12_paste h0 h1 h) (fun E w1 hp => ?_) (fun v w1 hp => ?_)
  · obtain ⟨ho, hf, hx⟩ := hp
    obtain ⟨hF, hE⟩ := zAns_r ho
    have hk : (spF 8 (x).toInt (nI 0).toInt (nI 0).toInt S) = 1 ∨ (spF 8 (x).toInt (nI 0).toInt (nI 0).toInt S) = 4 ∨ (spF 8 (x).toInt (nI 0).toInt (nI 0).toInt S) = 3 := by revert hF; (try simp only [spF, fPass, fRest, fIv, fMod, fRep, fPas, fMark, fWin]); (repeat' split) <;> first | (intro hF; omega) | simp
    rcases hk with hk | hk | hk
    · refine ⟨12, by rw [hE, hk]; exact ⟨0, 0, 9, 21, "java/lang/IndexOutOfBoundsException", rfl, ⟨by decide, by decide⟩, by decide, lk_21, ca_1, fun j hj => absurd hj (Nat.not_lt_zero j)⟩, fun q9 => ?_⟩
      refine zh_astore_n (lv' := [(0, .ref (za g b)), (1, .int (x)), (2, .ref (za g c9)), (3, .ref (q9))]) dL_paste_12 (by decide) rfl ?_
      refine zh_iconst (v := nI 1) dL_paste_13 rfl ?_
      refine zh_iret dL_paste_14 rfl (by decide) (by decide) ?_
      exact ⟨by rw [hk]; rfl, fun k hk _ => hf k hk, hx, by rw [if_neg hF]; exact (hf _ (by omega)).trans hw9⟩
    · refine ⟨15, by rw [hE, hk]; exact ⟨1, 0, 9, 46, "java/util/NoSuchElementException", rfl, ⟨by decide, by decide⟩, by decide, lk_46, ca_4, fun j hj => by (obtain rfl : j = 0 := by omega); exact ⟨0, 9, 12, 21, "java/lang/IndexOutOfBoundsException", rfl, by decide, lk_21, hN 4 1 (by decide) (by decide) (by decide) (by decide) (by decide)⟩⟩, fun q9 => ?_⟩
      refine zh_astore_n (lv' := [(0, .ref (za g b)), (1, .int (x)), (2, .ref (za g c9)), (3, .ref (q9))]) dL_paste_15 (by decide) rfl ?_
      refine zh_iconst (v := nI 2) dL_paste_16 rfl ?_
      refine zh_iret dL_paste_17 rfl (by decide) (by decide) ?_
      exact ⟨by rw [hk]; rfl, fun k hk _ => hf k hk, hx, by rw [if_neg hF]; exact (hf _ (by omega)).trans hw9⟩
    · refine ⟨18, by rw [hE, hk]; exact ⟨2, 0, 9, 15, "java/lang/IllegalStateException", rfl, ⟨by decide, by decide⟩, by decide, lk_15, ca_3, fun j hj => by rcases (show j = 0 ∨ j = 1 by omega) with rfl | rfl; exact ⟨0, 9, 12, 21, "java/lang/IndexOutOfBoundsException", rfl, by decide, lk_21, hN 3 1 (by decide) (by decide) (by decide) (by decide) (by decide)⟩; exact ⟨0, 9, 15, 46, "java/util/NoSuchElementException", rfl, by decide, lk_46, hN 3 4 (by decide) (by decide) (by decide) (by decide) (by decide)⟩⟩, fun q9 => ?_⟩
      refine zh_astore_n (lv' := [(0, .ref (za g b)), (1, .int (x)), (2, .ref (za g c9)), (3, .ref (q9))]) dL_paste_18 (by decide) rfl ?_
      refine zh_iconst (v := nI 3) dL_paste_19 rfl ?_
      refine zh_iret dL_paste_20 rfl (by decide) (by decide) ?_
      exact ⟨by rw [hk]; rfl, fun k hk _ => hf k hk, hx, by rw [if_neg hF]; exact (hf _ (by omega)).trans hw9⟩
  · obtain ⟨ho, hf, hx⟩ := hp
    obtain ⟨hF, hv⟩ := zAns_l ho
    subst hv
    refine zh_i2l dL_paste_7 ?_
    have hw8 : w1 c9 = zJ g f9 := (hf _ (by omega)).trans hw9
    refine zh_last_n dL_paste_8 hc9 hw8 ?_
    refine zh_goto (tgt := 21) dL_paste_9 (by decide) ?_
    refine zh_iconst (v := nI 0) dL_paste_21 rfl ?_
    refine zh_iret dL_paste_22 rfl (by decide) (by decide) ?_
    refine ⟨by rw [hF]; rfl, fun k hk hk2 => ?_, hx.fr (zFr.up (lo := c9) (hi := c9 + 1) (by omega)) (by omega), ?_⟩
    · rw [zup_n (by omega)]; exact hf k hk
    · rw [zup_s, if_pos hF]
set_option maxRecDepth 100000 in
set_option maxHeartbeats 4000000 in
theorem c_L_addMarker {g : zGT} {w : zW} {b c9 : Nat} {S : zSt} {Hs : List zSt} {Sn : Option zSt} {I O : List Nat} {ep fc : Int32} {f9 : Nat → Int64} {x : Int32} (h0 : zG0 g) (h1 : zST g) (hN : zNC g) (h : Rx g w b S Hs Sn I O ep fc) (hc9 : c9 < zn g) (hbc : b + 101 ≤ c9) (hw9 : w c9 = zJ g f9) : zCtH g mL_addMarker hL_addMarker (zR 9 2) [.ref (za g b), .int (x), .ref (za g c9)] w (fun o w' => o = .inl (some (.int (nI (rwP [1, 3] (spF 9 (x).toInt (nI 0).toInt (nI 0).toInt S))))) ∧ zFo w w' b c9 ∧ Rx g w' b (if spF 9 (x).toInt (nI 0).toInt (nI 0).toInt S = 0 then spS 9 (x).toInt (nI 0).toInt (nI 0).toInt S else S) (if spF 9 (x).toInt (nI 0).toInt (nI 0).toInt S = 0 then (S :: Hs).take 8 else Hs) Sn I O ep fc ∧ w' c9 = zJ g (if (spF 9 (x).toInt (nI 0).toInt (nI 0).toInt S) = 0 then vp_updL f9 0 ((if (spA 9 (x).toInt (nI 0).toInt (nI 0).toInt S) = 0 then 0 else 1)) else f9)) := by
  have hb := h.1
  have hn := h.st.len
  refine zCtH_of (by decide +kernel) h0 [(0, .ref (za g b)), (1, .int (x)), (2, .ref (za g c9))] rfl (Nat.le_of_ble_eq_true rfl) ?_
  refine zh_aload_n dL_addMarker_0 rfl ?_
  refine zh_iconst (v := nI 0) dL_addMarker_1 rfl ?_
  refine zh_aload_n dL_addMarker_2 rfl ?_
  refine zh_iload_n dL_addMarker_3 rfl ?_
  refine zh_callV (As := [.int (x)]) (rest := [.int (nI (0)), .ref (za g c9)]) (b := b) (ci := 11) (R2 := zR 6 1) dL_addMarker_4 kV_RL_48 rfl ⟨⟨by decide, by decide⟩, by decide, by decide⟩ (by omega) h.ce rfl rfl rfl (Nat.le_of_ble_eq_true rfl) rfl (c_X12_addMarker h0 h1 h) (fun E w1 hp => ?_) (fun v w1 hp => ?_)
  · obtain ⟨ho, hf, hx⟩ := hp
    obtain ⟨hF, hE⟩ := zAns_r ho
    have hk : (spF 9 (x).toInt (nI 0).toInt (nI 0).toInt S) = 1 ∨ (spF 9 (x).toInt (nI 0).toInt (nI 0).toInt S) = 3 := by revert hF; (try simp only [spF, fPass, fRest, fIv, fMod, fRep, fPas, fMark, fWin]); (repeat' split) <;> first | (intro hF; omega) | simp
    rcases hk with hk | hk
    · refine ⟨19, by rw [hE, hk]; exact ⟨0, 0, 16, 21, "java/lang/IndexOutOfBoundsException", rfl, ⟨by decide, by decide⟩, by decide, lk_21, ca_1, fun j hj => absurd hj (Nat.not_lt_zero j)⟩, fun q9 => ?_⟩
      refine zh_astore_n (lv' := [(0, .ref (za g b)), (1, .int (x)), (2, .ref (za g c9)), (3, .ref (q9))]) dL_addMarker_19 (by decide) rfl ?_
      refine zh_iconst (v := nI 1) dL_addMarker_20 rfl ?_
      refine zh_iret dL_addMarker_21 rfl (by decide) (by decide) ?_
      exact ⟨by rw [hk]; rfl, fun k hk _ => hf k hk, hx, by rw [if_neg hF]; exact (hf _ (by omega)).trans hw9⟩
    · refine ⟨22, by rw [hE, hk]; exact ⟨1, 0, 16, 15, "java/lang/IllegalStateException", rfl, ⟨by decide, by decide⟩, by decide, lk_15, ca_3, fun j hj => by (obtain rfl : j = 0 := by omega); exact ⟨0, 16, 19, 21, "java/lang/IndexOutOfBoundsException", rfl, by decide, lk_21, hN 3 1 (by decide) (by decide) (by decide) (by decide) (by decide)⟩⟩, fun q9 => ?_⟩
      refine zh_astore_n (lv' := [(0, .ref (za g b)), (1, .int (x)), (2, .ref (za g c9)), (3, .ref (q9))]) dL_addMarker_22 (by decide) rfl ?_
      refine zh_iconst (v := nI 2) dL_addMarker_23 rfl ?_
      refine zh_iret dL_addMarker_24 rfl (by decide) (by decide) ?_
      exact ⟨by rw [hk]; rfl, fun k hk _ => hf k hk, hx, by rw [if_neg hF]; exact (hf _ (by omega)).trans hw9⟩
  · obtain ⟨ho, hf, hx⟩ := hp
    obtain ⟨hF, hv⟩ := zAns_l ho
    subst hv
    have hbt : (spA 9 (x).toInt (nI 0).toInt (nI 0).toInt S) ≤ 1 := by exact spA_bit (by decide)
    refine zh_if_eq_n (a := (spA 9 (x).toInt (nI 0).toInt (nI 0).toInt S)) (tgt := 14) dL_addMarker_7 (by decide) (by omega) (fun hz => ?_) (fun hz => ?_)
    · refine zh_lconst (v := 0) dL_addMarker_14 rfl ?_
      have hw8 : w1 c9 = zJ g f9 := (hf _ (by omega)).trans hw9
      refine zh_last_n dL_addMarker_15 hc9 hw8 ?_
      refine zh_goto (tgt := 25) dL_addMarker_16 (by decide) ?_
      refine zh_iconst (v := nI 0) dL_addMarker_25 rfl ?_
      refine zh_iret dL_addMarker_26 rfl (by decide) (by decide) ?_
      refine ⟨by rw [hF]; rfl, fun k hk hk2 => ?_, hx.fr (zFr.up (lo := c9) (hi := c9 + 1) (by omega)) (by omega), ?_⟩
      · rw [zup_n (by omega)]; exact hf k hk
      · rw [zup_s, if_pos hF]; first | rw [if_pos hz] | rw [if_neg hz]
    · refine zh_lconst (v := 1) dL_addMarker_10 rfl ?_
      refine zh_goto (tgt := 15) dL_addMarker_11 (by decide) ?_
      have hw8 : w1 c9 = zJ g f9 := (hf _ (by omega)).trans hw9
      refine zh_last_n dL_addMarker_15 hc9 hw8 ?_
      refine zh_goto (tgt := 25) dL_addMarker_16 (by decide) ?_
      refine zh_iconst (v := nI 0) dL_addMarker_25 rfl ?_
      refine zh_iret dL_addMarker_26 rfl (by decide) (by decide) ?_
      refine ⟨by rw [hF]; rfl, fun k hk hk2 => ?_, hx.fr (zFr.up (lo := c9) (hi := c9 + 1) (by omega)) (by omega), ?_⟩
      · rw [zup_n (by omega)]; exact hf k hk
      · rw [zup_s, if_pos hF]; first | rw [if_pos hz] | rw [if_neg hz]
set_option maxRecDepth 100000 in
set_option maxHeartbeats 4000000 in
theorem c_L_levelAt {g : zGT} {w : zW} {b c9 : Nat} {S : zSt} {Hs : List zSt} {Sn : Option zSt} {I O : List Nat} {ep fc : Int32} {f9 : Nat → Int64} {x : Int32} (h0 : zG0 g) (h1 : zST g) (hN : zNC g) (h : Rx g w b S Hs Sn I O ep fc) (hc9 : c9 < zn g) (hbc : b + 101 ≤ c9) (hw9 : w c9 = zJ g f9) : zCtH g mL_levelAt hL_levelAt (zR 9 2) [.ref (za g b), .int (x), .ref (za g c9)] w (fun o w' => o = .inl (some (.int (nI (rwP [1] (if 0 ≤ x.toInt ∧ x.toInt < S.1.length then 0 else 1))))) ∧ zFo w w' b c9 ∧ Rx g w' b S Hs Sn I O ep fc ∧ w' c9 = zJ g (if (if 0 ≤ x.toInt ∧ x.toInt < S.1.length then 0 else 1) = 0 then vp_updL f9 0 ((nI (gT S.1 x.toInt.toNat)).toInt64) else f9)) := by
  have hb := h.1
  have hn := h.st.len
  refine zCtH_of (by decide +kernel) h0 [(0, .ref (za g b)), (1, .int (x)), (2, .ref (za g c9))] rfl (Nat.le_of_ble_eq_true rfl) ?_
  refine zh_aload_n dL_levelAt_0 rfl ?_
  refine zh_iconst (v := nI 0) dL_levelAt_1 rfl ?_
  refine zh_aload_n dL_levelAt_2 rfl ?_
  refine zh_iload_n dL_levelAt_3 rfl ?_
  refine zh_callV (As := [.int (x)]) (rest := [.int (nI (0)), .ref (za g c9)]) (b := b) (ci := 11) (R2 := zR 2 1) dL_levelAt_4 kV_RL_52 rfl ⟨⟨by decide, by decide⟩, by decide, by decide⟩ (by omega) h.ce rfl rfl rfl (Nat.le_of_ble_eq_true rfl) rfl (c_X12_levelAt h0 h1 h) (fun E w1 hp => ?_) (fun v w1 hp => ?_)
  · obtain ⟨ho, hf, hx⟩ := hp
    obtain ⟨hF, hE⟩ := zAns_r ho
    have hk : (if 0 ≤ x.toInt ∧ x.toInt < S.1.length then 0 else 1) = 1 := by revert hF; (try simp only [spF, fPass, fRest, fIv, fMod, fRep, fPas, fMark, fWin]); (repeat' split) <;> first | (intro hF; omega) | simp
    refine ⟨12, by rw [hE, hk]; exact ⟨0, 0, 9, 21, "java/lang/IndexOutOfBoundsException", rfl, ⟨by decide, by decide⟩, by decide, lk_21, ca_1, fun j hj => absurd hj (Nat.not_lt_zero j)⟩, fun q9 => ?_⟩
    refine zh_astore_n (lv' := [(0, .ref (za g b)), (1, .int (x)), (2, .ref (za g c9)), (3, .ref (q9))]) dL_levelAt_12 (by decide) rfl ?_
    refine zh_iconst (v := nI 1) dL_levelAt_13 rfl ?_
    refine zh_iret dL_levelAt_14 rfl (by decide) (by decide) ?_
    exact ⟨by rw [hk]; rfl, fun k hk _ => hf k hk, hx, by rw [if_neg hF]; exact (hf _ (by omega)).trans hw9⟩
  · obtain ⟨ho, hf, hx⟩ := hp
    obtain ⟨hF, hv⟩ := zAns_l ho
    subst hv
    refine zh_i2l dL_levelAt_7 ?_
    have hw8 : w1 c9 = zJ g f9 := (hf _ (by omega)).trans hw9
    refine zh_last_n dL_levelAt_8 hc9 hw8 ?_
    refine zh_goto (tgt := 15) dL_levelAt_9 (by decide) ?_
    refine zh_iconst (v := nI 0) dL_levelAt_15 rfl ?_
    refine zh_iret dL_levelAt_16 rfl (by decide) (by decide) ?_
    refine ⟨by rw [hF]; rfl, fun k hk hk2 => ?_, hx.fr (zFr.up (lo := c9) (hi := c9 + 1) (by omega)) (by omega), ?_⟩
    · rw [zup_n (by omega)]; exact hf k hk
    · rw [zup_s, if_pos hF]
set_option maxRecDepth 100000 in
set_option maxHeartbeats 4000000 in
theorem c_L_runStart {g : zGT} {w : zW} {b c9 : Nat} {S : zSt} {Hs : List zSt} {Sn : Option zSt} {I O : List Nat} {ep fc : Int32} {f9 : Nat → Int64} {x : Int32} (h0 : zG0 g) (h1 : zST g) (hN : zNC g) (h : Rx g w b S Hs Sn I O ep fc) (hc9 : c9 < zn g) (hbc : b + 101 ≤ c9) (hw9 : w c9 = zJ g f9) : zCtH g mL_runStart hL_runStart (zR 9 2) [.ref (za g b), .int (x), .ref (za g c9)] w (fun o w' => o = .inl (some (.int (nI (rwP [1] (if spStart (gT S.1) S.1.length x.toInt < 0 then 1 else 0))))) ∧ zFo w w' b c9 ∧ Rx g w' b S Hs Sn I O ep fc ∧ w' c9 = zJ g (if (if spStart (gT S.1) S.1.length x.toInt < 0 then 1 else 0) = 0 then vp_updL f9 0 ((nI (spStart (gT S.1) S.1.length x.toInt).toNat).toInt64) else f9)) := by
  have hb := h.1
  have hn := h.st.len
  refine zCtH_of (by decide +kernel) h0 [(0, .ref (za g b)), (1, .int (x)), (2, .ref (za g c9))] rfl (Nat.le_of_ble_eq_true rfl) ?_
  refine zh_aload_n dL_runStart_0 rfl ?_
  refine zh_iconst (v := nI 0) dL_runStart_1 rfl ?_
  refine zh_aload_n dL_runStart_2 rfl ?_
  refine zh_iload_n dL_runStart_3 rfl ?_
  refine zh_callV (As := [.int (x)]) (rest := [.int (nI (0)), .ref (za g c9)]) (b := b) (ci := 11) (R2 := zR 4 1) dL_runStart_4 kV_RL_55 rfl ⟨⟨by decide, by decide⟩, by decide, by decide⟩ (by omega) h.ce rfl rfl rfl (Nat.le_of_ble_eq_true rfl) rfl (c_X12_runStart h0 h1 h) (fun E w1 hp => ?_) (fun v w1 hp => ?_)
  · obtain ⟨ho, hf, hx⟩ := hp
    obtain ⟨hF, hE⟩ := zAns_r ho
    have hk : (if spStart (gT S.1) S.1.length x.toInt < 0 then 1 else 0) = 1 := by revert hF; (try simp only [spF, fPass, fRest, fIv, fMod, fRep, fPas, fMark, fWin]); (repeat' split) <;> first | (intro hF; omega) | simp
    refine ⟨12, by rw [hE, hk]; exact ⟨0, 0, 9, 21, "java/lang/IndexOutOfBoundsException", rfl, ⟨by decide, by decide⟩, by decide, lk_21, ca_1, fun j hj => absurd hj (Nat.not_lt_zero j)⟩, fun q9 => ?_⟩
    refine zh_astore_n (lv' := [(0, .ref (za g b)), (1, .int (x)), (2, .ref (za g c9)), (3, .ref (q9))]) dL_runStart_12 (by decide) rfl ?_
    refine zh_iconst (v := nI 1) dL_runStart_13 rfl ?_
    refine zh_iret dL_runStart_14 rfl (by decide) (by decide) ?_
    exact ⟨by rw [hk]; rfl, fun k hk _ => hf k hk, hx, by rw [if_neg hF]; exact (hf _ (by omega)).trans hw9⟩
  · obtain ⟨ho, hf, hx⟩ := hp
    obtain ⟨hF, hv⟩ := zAns_l ho
    subst hv
    refine zh_i2l dL_runStart_7 ?_
    have hw8 : w1 c9 = zJ g f9 := (hf _ (by omega)).trans hw9
    refine zh_last_n dL_runStart_8 hc9 hw8 ?_
    refine zh_goto (tgt := 15) dL_runStart_9 (by decide) ?_
    refine zh_iconst (v := nI 0) dL_runStart_15 rfl ?_
    refine zh_iret dL_runStart_16 rfl (by decide) (by decide) ?_
    refine ⟨by rw [hF]; rfl, fun k hk hk2 => ?_, hx.fr (zFr.up (lo := c9) (hi := c9 + 1) (by omega)) (by omega), ?_⟩
    · rw [zup_n (by omega)]; exact hf k hk
    · rw [zup_s, if_pos hF]
set_option maxRecDepth 100000 in
set_option maxHeartbeats 4000000 in
theorem c_L_runLength {g : zGT} {w : zW} {b c9 : Nat} {S : zSt} {Hs : List zSt} {Sn : Option zSt} {I O : List Nat} {ep fc : Int32} {f9 : Nat → Int64} {x : Int32} (h0 : zG0 g) (h1 : zST g) (hN : zNC g) (h : Rx g w b S Hs Sn I O ep fc) (hc9 : c9 < zn g) (hbc : b + 101 ≤ c9) (hw9 : w c9 = zJ g f9) : zCtH g mL_runLength hL_runLength (zR 9 2) [.ref (za g b), .int (x), .ref (za g c9)] w (fun o w' => o = .inl (some (.int (nI (rwP [1] (if spStart (gT S.1) S.1.length x.toInt < 0 then 1 else 0))))) ∧ zFo w w' b c9 ∧ Rx g w' b S Hs Sn I O ep fc ∧ w' c9 = zJ g (if (if spStart (gT S.1) S.1.length x.toInt < 0 then 1 else 0) = 0 then vp_updL f9 0 ((nI (lenF (gT S.1) S.1.length (spStart (gT S.1) S.1.length x.toInt).toNat)).toInt64) else f9)) := by
  have hb := h.1
  have hn := h.st.len
  refine zCtH_of (by decide +kernel) h0 [(0, .ref (za g b)), (1, .int (x)), (2, .ref (za g c9))] rfl (Nat.le_of_ble_eq_true rfl) ?_
  refine zh_aload_n dL_runLength_0 rfl ?_
  refine zh_iconst (v := nI 0) dL_runLength_1 rfl ?_
  refine zh_aload_n dL_runLength_2 rfl ?_
  refine zh_iload_n dL_runLength_3 rfl ?_
  refine zh_callV (As := [.int (x)]) (rest := [.int (nI (0)), .ref (za g c9)]) (b := b) (ci := 11) (R2 := zR 4 1) dL_runLength_4 kV_RL_58 rfl ⟨⟨by decide, by decide⟩, by decide, by decide⟩ (by omega) h.ce rfl rfl rfl (Nat.le_of_ble_eq_true rfl) rfl (c_X12_runLength h0 h1 h) (fun E w1 hp => ?_) (fun v w1 hp => ?_)
  · obtain ⟨ho, hf, hx⟩ := hp
    obtain ⟨hF, hE⟩ := zAns_r ho
    have hk : (if spStart (gT S.1) S.1.length x.toInt < 0 then 1 else 0) = 1 := by revert hF; (try simp only [spF, fPass, fRest, fIv, fMod, fRep, fPas, fMark, fWin]); (repeat' split) <;> first | (intro hF; omega) | simp
    refine ⟨12, by rw [hE, hk]; exact ⟨0, 0, 9, 21, "java/lang/IndexOutOfBoundsException", rfl, ⟨by decide, by decide⟩, by decide, lk_21, ca_1, fun j hj => absurd hj (Nat.not_lt_zero j)⟩, fun q9 => ?_⟩
    refine zh_astore_n (lv' := [(0, .ref (za g b)), (1, .int (x)), (2, .ref (za g c9)), (3, .ref (q9))]) dL_runLength_12 (by decide) rfl ?_
    refine zh_iconst (v := nI 1) dL_runLength_13 rfl ?_
    refine zh_iret dL_runLength_14 rfl (by decide) (by decide) ?_
    exact ⟨by rw [hk]; rfl, fun k hk _ => hf k hk, hx, by rw [if_neg hF]; exact (hf _ (by omega)).trans hw9⟩
  · obtain ⟨ho, hf, hx⟩ := hp
    obtain ⟨hF, hv⟩ := zAns_l ho
    subst hv
    refine zh_i2l dL_runLength_7 ?_
    have hw8 : w1 c9 = zJ g f9 := (hf _ (by omega)).trans hw9
    refine zh_last_n dL_runLength_8 hc9 hw8 ?_
    refine zh_goto (tgt := 15) dL_runLength_9 (by decide) ?_
    refine zh_iconst (v := nI 0) dL_runLength_15 rfl ?_
    refine zh_iret dL_runLength_16 rfl (by decide) (by decide) ?_
    refine ⟨by rw [hF]; rfl, fun k hk hk2 => ?_, hx.fr (zFr.up (lo := c9) (hi := c9 + 1) (by omega)) (by omega), ?_⟩
    · rw [zup_n (by omega)]; exact hf k hk
    · rw [zup_s, if_pos hF]
set_option maxRecDepth 100000 in
set_option maxHeartbeats 4000000 in
theorem c_L_runLevel {g : zGT} {w : zW} {b c9 : Nat} {S : zSt} {Hs : List zSt} {Sn : Option zSt} {I O : List Nat} {ep fc : Int32} {f9 : Nat → Int64} {x : Int32} (h0 : zG0 g) (h1 : zST g) (hN : zNC g) (h : Rx g w b S Hs Sn I O ep fc) (hc9 : c9 < zn g) (hbc : b + 101 ≤ c9) (hw9 : w c9 = zJ g f9) : zCtH g mL_runLevel hL_runLevel (zR 9 2) [.ref (za g b), .int (x), .ref (za g c9)] w (fun o w' => o = .inl (some (.int (nI (rwP [1] (if spStart (gT S.1) S.1.length x.toInt < 0 then 1 else 0))))) ∧ zFo w w' b c9 ∧ Rx g w' b S Hs Sn I O ep fc ∧ w' c9 = zJ g (if (if spStart (gT S.1) S.1.length x.toInt < 0 then 1 else 0) = 0 then vp_updL f9 0 ((nI (gT S.1 (spStart (gT S.1) S.1.length x.toInt).toNat)).toInt64) else f9)) := by
  have hb := h.1
  have hn := h.st.len
  refine zCtH_of (by decide +kernel) h0 [(0, .ref (za g b)), (1, .int (x)), (2, .ref (za g c9))] rfl (Nat.le_of_ble_eq_true rfl) ?_
  refine zh_aload_n dL_runLevel_0 rfl ?_
  refine zh_iconst (v := nI 0) dL_runLevel_1 rfl ?_
  refine zh_aload_n dL_runLevel_2 rfl ?_
  refine zh_iload_n dL_runLevel_3 rfl ?_
  refine zh_callV (As := [.int (x)]) (rest := [.int (nI (0)), .ref (za g c9)]) (b := b) (ci := 11) (R2 := zR 4 1) dL_runLevel_4 kV_RL_61 rfl ⟨⟨by decide, by decide⟩, by decide, by decide⟩ (by omega) h.ce rfl rfl rfl (Nat.le_of_ble_eq_true rfl) rfl (c_X12_runLevel h0 h1 h) (fun E w1 hp => ?_) (fun v w1 hp => ?_)
  · obtain ⟨ho, hf, hx⟩ := hp
    obtain ⟨hF, hE⟩ := zAns_r ho
    have hk : (if spStart (gT S.1) S.1.length x.toInt < 0 then 1 else 0) = 1 := by revert hF; (try simp only [spF, fPass, fRest, fIv, fMod, fRep, fPas, fMark, fWin]); (repeat' split) <;> first | (intro hF; omega) | simp
    refine ⟨12, by rw [hE, hk]; exact ⟨0, 0, 9, 21, "java/lang/IndexOutOfBoundsException", rfl, ⟨by decide, by decide⟩, by decide, lk_21, ca_1, fun j hj => absurd hj (Nat.not_lt_zero j)⟩, fun q9 => ?_⟩
    refine zh_astore_n (lv' := [(0, .ref (za g b)), (1, .int (x)), (2, .ref (za g c9)), (3, .ref (q9))]) dL_runLevel_12 (by decide) rfl ?_
    refine zh_iconst (v := nI 1) dL_runLevel_13 rfl ?_
    refine zh_iret dL_runLevel_14 rfl (by decide) (by decide) ?_
    exact ⟨by rw [hk]; rfl, fun k hk _ => hf k hk, hx, by rw [if_neg hF]; exact (hf _ (by omega)).trans hw9⟩
  · obtain ⟨ho, hf, hx⟩ := hp
    obtain ⟨hF, hv⟩ := zAns_l ho
    subst hv
    refine zh_i2l dL_runLevel_7 ?_
    have hw8 : w1 c9 = zJ g f9 := (hf _ (by omega)).trans hw9
    refine zh_last_n dL_runLevel_8 hc9 hw8 ?_
    refine zh_goto (tgt := 15) dL_runLevel_9 (by decide) ?_
    refine zh_iconst (v := nI 0) dL_runLevel_15 rfl ?_
    refine zh_iret dL_runLevel_16 rfl (by decide) (by decide) ?_
    refine ⟨by rw [hF]; rfl, fun k hk hk2 => ?_, hx.fr (zFr.up (lo := c9) (hi := c9 + 1) (by omega)) (by omega), ?_⟩
    · rw [zup_n (by omega)]; exact hf k hk
    · rw [zup_s, if_pos hF]
set_option maxRecDepth 100000 in
set_option maxHeartbeats 4000000 in
theorem c_L_ticksAtLevel {g : zGT} {w : zW} {b c9 : Nat} {S : zSt} {Hs : List zSt} {Sn : Option zSt} {I O : List Nat} {ep fc : Int32} {f9 : Nat → Int64} {x : Int32} (h0 : zG0 g) (h1 : zST g) (hN : zNC g) (h : Rx g w b S Hs Sn I O ep fc) (hc9 : c9 < zn g) (hbc : b + 101 ≤ c9) (hw9 : w c9 = zJ g f9) : zCtH g mL_ticksAtLevel hL_ticksAtLevel (zR 9 2) [.ref (za g b), .int (x), .ref (za g c9)] w (fun o w' => o = .inl (some (.int (nI (rwP [2] (if 0 ≤ x.toInt ∧ x.toInt ≤ 9 then 0 else 2))))) ∧ zFo w w' b c9 ∧ Rx g w' b S Hs Sn I O ep fc ∧ w' c9 = zJ g (if (if 0 ≤ x.toInt ∧ x.toInt ≤ 9 then 0 else 2) = 0 then vp_updL f9 0 ((nI (zcnt (fun k => decide (gT S.1 k = x.toInt.toNat)) 0 S.1.length)).toInt64) else f9)) := by
  have hb := h.1
  have hn := h.st.len
  refine zCtH_of (by decide +kernel) h0 [(0, .ref (za g b)), (1, .int (x)), (2, .ref (za g c9))] rfl (Nat.le_of_ble_eq_true rfl) ?_
  refine zh_aload_n dL_ticksAtLevel_0 rfl ?_
  refine zh_iconst (v := nI 0) dL_ticksAtLevel_1 rfl ?_
  refine zh_aload_n dL_ticksAtLevel_2 rfl ?_
  refine zh_iload_n dL_ticksAtLevel_3 rfl ?_
  refine zh_callV (As := [.int (x)]) (rest := [.int (nI (0)), .ref (za g c9)]) (b := b) (ci := 11) (R2 := zR 2 1) dL_ticksAtLevel_4 kV_RL_64 rfl ⟨⟨by decide, by decide⟩, by decide, by decide⟩ (by omega) h.ce rfl rfl rfl (Nat.le_of_ble_eq_true rfl) rfl (c_X12_ticksAtLevel h0 h1 h) (fun E w1 hp => ?_) (fun v w1 hp => ?_)
  · obtain ⟨ho, hf, hx⟩ := hp
    obtain ⟨hF, hE⟩ := zAns_r ho
    have hk : (if 0 ≤ x.toInt ∧ x.toInt ≤ 9 then 0 else 2) = 2 := by revert hF; (try simp only [spF, fPass, fRest, fIv, fMod, fRep, fPas, fMark, fWin]); (repeat' split) <;> first | (intro hF; omega) | simp
    refine ⟨12, by rw [hE, hk]; exact ⟨0, 0, 9, 13, "java/lang/IllegalArgumentException", rfl, ⟨by decide, by decide⟩, by decide, lk_13, ca_2, fun j hj => absurd hj (Nat.not_lt_zero j)⟩, fun q9 => ?_⟩
    refine zh_astore_n (lv' := [(0, .ref (za g b)), (1, .int (x)), (2, .ref (za g c9)), (3, .ref (q9))]) dL_ticksAtLevel_12 (by decide) rfl ?_
    refine zh_iconst (v := nI 1) dL_ticksAtLevel_13 rfl ?_
    refine zh_iret dL_ticksAtLevel_14 rfl (by decide) (by decide) ?_
    exact ⟨by rw [hk]; rfl, fun k hk _ => hf k hk, hx, by rw [if_neg hF]; exact (hf _ (by omega)).trans hw9⟩
  · obtain ⟨ho, hf, hx⟩ := hp
    obtain ⟨hF, hv⟩ := zAns_l ho
    subst hv
    refine zh_i2l dL_ticksAtLevel_7 ?_
    have hw8 : w1 c9 = zJ g f9 := (hf _ (by omega)).trans hw9
    refine zh_last_n dL_ticksAtLevel_8 hc9 hw8 ?_
    refine zh_goto (tgt := 15) dL_ticksAtLevel_9 (by decide) ?_
    refine zh_iconst (v := nI 0) dL_ticksAtLevel_15 rfl ?_
    refine zh_iret dL_ticksAtLevel_16 rfl (by decide) (by decide) ?_
    refine ⟨by rw [hF]; rfl, fun k hk hk2 => ?_, hx.fr (zFr.up (lo := c9) (hi := c9 + 1) (by omega)) (by omega), ?_⟩
    · rw [zup_n (by omega)]; exact hf k hk
    · rw [zup_s, if_pos hF]
set_option maxRecDepth 100000 in
set_option maxHeartbeats 4000000 in
theorem c_L_loudnessIn {g : zGT} {w : zW} {b c9 : Nat} {S : zSt} {Hs : List zSt} {Sn : Option zSt} {I O : List Nat} {ep fc : Int32} {f9 : Nat → Int64} {x y : Int32} (h0 : zG0 g) (h1 : zST g) (hN : zNC g) (h : Rx g w b S Hs Sn I O ep fc) (hc9 : c9 < zn g) (hbc : b + 101 ≤ c9) (hw9 : w c9 = zJ g f9) : zCtH g mL_loudnessIn hL_loudnessIn (zR 9 2) [.ref (za g b), .int (x), .int (y), .ref (za g c9)] w (fun o w' => o = .inl (some (.int (nI (rwP [1] (fIv S.1.length x.toInt y.toInt))))) ∧ zFo w w' b c9 ∧ Rx g w' b S Hs Sn I O ep fc ∧ w' c9 = zJ g (if (fIv S.1.length x.toInt y.toInt) = 0 then vp_updL f9 0 ((nI (tsum (gT S.1) x.toInt.toNat (y.toInt.toNat - x.toInt.toNat))).toInt64) else f9)) := by
  have hb := h.1
  have hn := h.st.len
  refine zCtH_of (by decide +kernel) h0 [(0, .ref (za g b)), (1, .int (x)), (2, .int (y)), (3, .ref (za g c9))] rfl (Nat.le_of_ble_eq_true rfl) ?_
  refine zh_aload_n dL_loudnessIn_0 rfl ?_
  refine zh_iconst (v := nI 0) dL_loudnessIn_1 rfl ?_
  refine zh_aload_n dL_loudnessIn_2 rfl ?_
  refine zh_iload_n dL_loudnessIn_3 rfl ?_
  refine zh_iload_n dL_loudnessIn_4 rfl ?_
  refine zh_callV (As := [.int (x), .int (y)]) (rest := [.int (nI (0)), .ref (za g c9)]) (b := b) (ci := 11) (R2 := zR 3 1) dL_loudnessIn_5 kV_RL_67 rfl ⟨⟨by decide, by decide⟩, by decide, by decide⟩ (by omega) h.ce rfl rfl rfl (Nat.le_of_ble_eq_true rfl) rfl (c_X12_loudnessIn h0 h1 h) (fun E w1 hp => ?_) (fun v w1 hp => ?_)
  · obtain ⟨ho, hf, hx⟩ := hp
    obtain ⟨hF, hE⟩ := zAns_r ho
    have hk : (fIv S.1.length x.toInt y.toInt) = 1 := by revert hF; (try simp only [spF, fPass, fRest, fIv, fMod, fRep, fPas, fMark, fWin]); (repeat' split) <;> first | (intro hF; omega) | simp
    refine ⟨13, by rw [hE, hk]; exact ⟨0, 0, 10, 21, "java/lang/IndexOutOfBoundsException", rfl, ⟨by decide, by decide⟩, by decide, lk_21, ca_1, fun j hj => absurd hj (Nat.not_lt_zero j)⟩, fun q9 => ?_⟩
    refine zh_astore (lv' := [(0, .ref (za g b)), (1, .int (x)), (2, .int (y)), (3, .ref (za g c9)), (4, .ref (q9))]) dL_loudnessIn_13 (by decide) rfl ?_
    refine zh_iconst (v := nI 1) dL_loudnessIn_15 rfl ?_
    refine zh_iret dL_loudnessIn_16 rfl (by decide) (by decide) ?_
    exact ⟨by rw [hk]; rfl, fun k hk _ => hf k hk, hx, by rw [if_neg hF]; exact (hf _ (by omega)).trans hw9⟩
  · obtain ⟨ho, hf, hx⟩ := hp
    obtain ⟨hF, hv⟩ := zAns_l ho
    subst hv
    refine zh_i2l dL_loudnessIn_8 ?_
    have hw8 : w1 c9 = zJ g f9 := (hf _ (by omega)).trans hw9
    refine zh_last_n dL_loudnessIn_9 hc9 hw8 ?_
    refine zh_goto (tgt := 17) dL_loudnessIn_10 (by decide) ?_
    refine zh_iconst (v := nI 0) dL_loudnessIn_17 rfl ?_
    refine zh_iret dL_loudnessIn_18 rfl (by decide) (by decide) ?_
    refine ⟨by rw [hF]; rfl, fun k hk hk2 => ?_, hx.fr (zFr.up (lo := c9) (hi := c9 + 1) (by omega)) (by omega), ?_⟩
    · rw [zup_n (by omega)]; exact hf k hk
    · rw [zup_s, if_pos hF]
set_option maxRecDepth 100000 in
set_option maxHeartbeats 4000000 in
theorem c_L_loudnessInByPrefixes {g : zGT} {w : zW} {b c9 : Nat} {S : zSt} {Hs : List zSt} {Sn : Option zSt} {I O : List Nat} {ep fc : Int32} {f9 : Nat → Int64} {x y : Int32} (h0 : zG0 g) (h1 : zST g) (hN : zNC g) (h : Rx g w b S Hs Sn I O ep fc) (hc9 : c9 < zn g) (hbc : b + 101 ≤ c9) (hw9 : w c9 = zJ g f9) : zCtH g mL_loudnessInByPrefixes hL_loudnessInByPrefixes (zR 9 2) [.ref (za g b), .int (x), .int (y), .ref (za g c9)] w (fun o w' => o = .inl (some (.int (nI (rwP [1] (fIv S.1.length x.toInt y.toInt))))) ∧ zFo w w' b c9 ∧ Rx g w' b S Hs Sn I O ep fc ∧ w' c9 = zJ g (if (fIv S.1.length x.toInt y.toInt) = 0 then vp_updL f9 0 ((nI (tsum (gT S.1) x.toInt.toNat (y.toInt.toNat - x.toInt.toNat))).toInt64) else f9)) := by
  have hb := h.1
  have hn := h.st.len
  refine zCtH_of (by decide +kernel) h0 [(0, .ref (za g b)), (1, .int (x)), (2, .int (y)), (3, .ref (za g c9))] rfl (Nat.le_of_ble_eq_true rfl) ?_
  refine zh_aload_n dL_loudnessInByPrefixes_0 rfl ?_
  refine zh_iconst (v := nI 0) dL_loudnessInByPrefixes_1 rfl ?_
  refine zh_aload_n dL_loudnessInByPrefixes_2 rfl ?_
  refine zh_iload_n dL_loudnessInByPrefixes_3 rfl ?_
  refine zh_iload_n dL_loudnessInByPrefixes_4 rfl ?_
  refine zh_callV (As := [.int (x), .int (y)]) (rest := [.int (nI (0)), .ref (za g c9)]) (b := b) (ci := 11) (R2 := zR 3 1) dL_loudnessInByPrefixes_5 kV_RL_70 rfl ⟨⟨by decide, by decide⟩, by decide, by decide⟩ (by omega) h.ce rfl rfl rfl (Nat.le_of_ble_eq_true rfl) rfl (c_X12_loudnessInByPrefixes h0 h1 h) (fun E w1 hp => ?_) (fun v w1 hp => ?_)
  · obtain ⟨ho, hf, hx⟩ := hp
    obtain ⟨hF, hE⟩ := zAns_r ho
    have hk : (fIv S.1.length x.toInt y.toInt) = 1 := by revert hF; (try simp only [spF, fPass, fRest, fIv, fMod, fRep, fPas, fMark, fWin]); (repeat' split) <;> first | (intro hF; omega) | simp
    refine ⟨13, by rw [hE, hk]; exact ⟨0, 0, 10, 21, "java/lang/IndexOutOfBoundsException", rfl, ⟨by decide, by decide⟩, by decide, lk_21, ca_1, fun j hj => absurd hj (Nat.not_lt_zero j)⟩, fun q9 => ?_⟩
    refine zh_astore (lv' := [(0, .ref (za g b)), (1, .int (x)), (2, .int (y)), (3, .ref (za g c9)), (4, .ref (q9))]) dL_loudnessInByPrefixes_13 (by decide) rfl ?_
    refine zh_iconst (v := nI 1) dL_loudnessInByPrefixes_15 rfl ?_
    refine zh_iret dL_loudnessInByPrefixes_16 rfl (by decide) (by decide) ?_
    exact ⟨by rw [hk]; rfl, fun k hk _ => hf k hk, hx, by rw [if_neg hF]; exact (hf _ (by omega)).trans hw9⟩
  · obtain ⟨ho, hf, hx⟩ := hp
    obtain ⟨hF, hv⟩ := zAns_l ho
    subst hv
    refine zh_i2l dL_loudnessInByPrefixes_8 ?_
    have hw8 : w1 c9 = zJ g f9 := (hf _ (by omega)).trans hw9
    refine zh_last_n dL_loudnessInByPrefixes_9 hc9 hw8 ?_
    refine zh_goto (tgt := 17) dL_loudnessInByPrefixes_10 (by decide) ?_
    refine zh_iconst (v := nI 0) dL_loudnessInByPrefixes_17 rfl ?_
    refine zh_iret dL_loudnessInByPrefixes_18 rfl (by decide) (by decide) ?_
    refine ⟨by rw [hF]; rfl, fun k hk hk2 => ?_, hx.fr (zFr.up (lo := c9) (hi := c9 + 1) (by omega)) (by omega), ?_⟩
    · rw [zup_n (by omega)]; exact hf k hk
    · rw [zup_s, if_pos hF]
set_option maxRecDepth 100000 in
set_option maxHeartbeats 4000000 in
theorem c_L_isSilent {g : zGT} {w : zW} {b c9 : Nat} {S : zSt} {Hs : List zSt} {Sn : Option zSt} {I O : List Nat} {ep fc : Int32} {f9 : Nat → Int64} {x y : Int32} (h0 : zG0 g) (h1 : zST g) (hN : zNC g) (h : Rx g w b S Hs Sn I O ep fc) (hc9 : c9 < zn g) (hbc : b + 101 ≤ c9) (hw9 : w c9 = zJ g f9) : zCtH g mL_isSilent hL_isSilent (zR 9 2) [.ref (za g b), .int (x), .int (y), .ref (za g c9)] w (fun o w' => o = .inl (some (.int (nI (rwP [1] (fIv S.1.length x.toInt y.toInt))))) ∧ zFo w w' b c9 ∧ Rx g w' b S Hs Sn I O ep fc ∧ w' c9 = zJ g (if (fIv S.1.length x.toInt y.toInt) = 0 then vp_updL f9 0 ((if (if zcnt (fun k => decide (gT S.1 k ≠ 0)) x.toInt.toNat (y.toInt.toNat - x.toInt.toNat) = 0 then 1 else 0) = 0 then 0 else 1)) else f9)) := by
  have hb := h.1
  have hn := h.st.len
  refine zCtH_of (by decide +kernel) h0 [(0, .ref (za g b)), (1, .int (x)), (2, .int (y)), (3, .ref (za g c9))] rfl (Nat.le_of_ble_eq_true rfl) ?_
  refine zh_aload_n dL_isSilent_0 rfl ?_
  refine zh_iconst (v := nI 0) dL_isSilent_1 rfl ?_
  refine zh_aload_n dL_isSilent_2 rfl ?_
  refine zh_iload_n dL_isSilent_3 rfl ?_
  refine zh_iload_n dL_isSilent_4 rfl ?_
  refine zh_callV (As := [.int (x), .int (y)]) (rest := [.int (nI (0)), .ref (za g c9)]) (b := b) (ci := 11) (R2 := zR 3 1) dL_isSilent_5 kV_RL_73 rfl ⟨⟨by decide, by decide⟩, by decide, by decide⟩ (by omega) h.ce rfl rfl rfl (Nat.le_of_ble_eq_true rfl) rfl (c_X12_isSilent h0 h1 h) (fun E w1 hp => ?_) (fun v w1 hp => ?_)
  · obtain ⟨ho, hf, hx⟩ := hp
    obtain ⟨hF, hE⟩ := zAns_r ho
    have hk : (fIv S.1.length x.toInt y.toInt) = 1 := by revert hF; (try simp only [spF, fPass, fRest, fIv, fMod, fRep, fPas, fMark, fWin]); (repeat' split) <;> first | (intro hF; omega) | simp
    refine ⟨20, by rw [hE, hk]; exact ⟨0, 0, 17, 21, "java/lang/IndexOutOfBoundsException", rfl, ⟨by decide, by decide⟩, by decide, lk_21, ca_1, fun j hj => absurd hj (Nat.not_lt_zero j)⟩, fun q9 => ?_⟩
    refine zh_astore (lv' := [(0, .ref (za g b)), (1, .int (x)), (2, .int (y)), (3, .ref (za g c9)), (4, .ref (q9))]) dL_isSilent_20 (by decide) rfl ?_
    refine zh_iconst (v := nI 1) dL_isSilent_22 rfl ?_
    refine zh_iret dL_isSilent_23 rfl (by decide) (by decide) ?_
    exact ⟨by rw [hk]; rfl, fun k hk _ => hf k hk, hx, by rw [if_neg hF]; exact (hf _ (by omega)).trans hw9⟩
  · obtain ⟨ho, hf, hx⟩ := hp
    obtain ⟨hF, hv⟩ := zAns_l ho
    subst hv
    have hbt : (if zcnt (fun k => decide (gT S.1 k ≠ 0)) x.toInt.toNat (y.toInt.toNat - x.toInt.toNat) = 0 then 1 else 0) ≤ 1 := by split <;> omega
    refine zh_if_eq_n (a := (if zcnt (fun k => decide (gT S.1 k ≠ 0)) x.toInt.toNat (y.toInt.toNat - x.toInt.toNat) = 0 then 1 else 0)) (tgt := 15) dL_isSilent_8 (by decide) (by omega) (fun hz => ?_) (fun hz => ?_)
    · refine zh_lconst (v := 0) dL_isSilent_15 rfl ?_
      have hw8 : w1 c9 = zJ g f9 := (hf _ (by omega)).trans hw9
      refine zh_last_n dL_isSilent_16 hc9 hw8 ?_
      refine zh_goto (tgt := 24) dL_isSilent_17 (by decide) ?_
      refine zh_iconst (v := nI 0) dL_isSilent_24 rfl ?_
      refine zh_iret dL_isSilent_25 rfl (by decide) (by decide) ?_
      refine ⟨by rw [hF]; rfl, fun k hk hk2 => ?_, hx.fr (zFr.up (lo := c9) (hi := c9 + 1) (by omega)) (by omega), ?_⟩
      · rw [zup_n (by omega)]; exact hf k hk
      · rw [zup_s, if_pos hF]; first | rw [if_pos hz] | rw [if_neg hz]
    · refine zh_lconst (v := 1) dL_isSilent_11 rfl ?_
      refine zh_goto (tgt := 16) dL_isSilent_12 (by decide) ?_
      have hw8 : w1 c9 = zJ g f9 := (hf _ (by omega)).trans hw9
      refine zh_last_n dL_isSilent_16 hc9 hw8 ?_
      refine zh_goto (tgt := 24) dL_isSilent_17 (by decide) ?_
      refine zh_iconst (v := nI 0) dL_isSilent_24 rfl ?_
      refine zh_iret dL_isSilent_25 rfl (by decide) (by decide) ?_
      refine ⟨by rw [hF]; rfl, fun k hk hk2 => ?_, hx.fr (zFr.up (lo := c9) (hi := c9 + 1) (by omega)) (by omega), ?_⟩
      · rw [zup_n (by omega)]; exact hf k hk
      · rw [zup_s, if_pos hF]; first | rw [if_pos hz] | rw [if_neg hz]
set_option maxRecDepth 100000 in
set_option maxHeartbeats 4000000 in
theorem c_L_restStartByLength {g : zGT} {w : zW} {b c9 : Nat} {S : zSt} {Hs : List zSt} {Sn : Option zSt} {I O : List Nat} {ep fc : Int32} {f9 : Nat → Int64} {x : Int32} (h0 : zG0 g) (h1 : zST g) (hN : zNC g) (h : Rx g w b S Hs Sn I O ep fc) (hc9 : c9 < zn g) (hbc : b + 101 ≤ c9) (hw9 : w c9 = zJ g f9) : zCtH g mL_restStartByLength hL_restStartByLength (zR 9 2) [.ref (za g b), .int (x), .ref (za g c9)] w (fun o w' => o = .inl (some (.int (nI (rwP [4] (if spRank (gT S.1) S.1.length x.toInt < 0 then 4 else 0))))) ∧ zFo w w' b c9 ∧ Rx g w' b S Hs Sn I O ep fc ∧ w' c9 = zJ g (if (if spRank (gT S.1) S.1.length x.toInt < 0 then 4 else 0) = 0 then vp_updL f9 0 ((nI (spRank (gT S.1) S.1.length x.toInt).toNat).toInt64) else f9)) := by
  have hb := h.1
  have hn := h.st.len
  refine zCtH_of (by decide +kernel) h0 [(0, .ref (za g b)), (1, .int (x)), (2, .ref (za g c9))] rfl (Nat.le_of_ble_eq_true rfl) ?_
  refine zh_aload_n dL_restStartByLength_0 rfl ?_
  refine zh_iconst (v := nI 0) dL_restStartByLength_1 rfl ?_
  refine zh_aload_n dL_restStartByLength_2 rfl ?_
  refine zh_iload_n dL_restStartByLength_3 rfl ?_
  refine zh_callV (As := [.int (x)]) (rest := [.int (nI (0)), .ref (za g c9)]) (b := b) (ci := 11) (R2 := zR 4 1) dL_restStartByLength_4 kV_RL_76 rfl ⟨⟨by decide, by decide⟩, by decide, by decide⟩ (by omega) h.ce rfl rfl rfl (Nat.le_of_ble_eq_true rfl) rfl (c_X12_restStartByLength h0 h1 h) (fun E w1 hp => ?_) (fun v w1 hp => ?_)
  · obtain ⟨ho, hf, hx⟩ := hp
    obtain ⟨hF, hE⟩ := zAns_r ho
    have hk : (if spRank (gT S.1) S.1.length x.toInt < 0 then 4 else 0) = 4 := by revert hF; (try simp only [spF, fPass, fRest, fIv, fMod, fRep, fPas, fMark, fWin]); (repeat' split) <;> first | (intro hF; omega) | simp
    refine ⟨12, by rw [hE, hk]; exact ⟨0, 0, 9, 46, "java/util/NoSuchElementException", rfl, ⟨by decide, by decide⟩, by decide, lk_46, ca_4, fun j hj => absurd hj (Nat.not_lt_zero j)⟩, fun q9 => ?_⟩
    refine zh_astore_n (lv' := [(0, .ref (za g b)), (1, .int (x)), (2, .ref (za g c9)), (3, .ref (q9))]) dL_restStartByLength_12 (by decide) rfl ?_
    refine zh_iconst (v := nI 1) dL_restStartByLength_13 rfl ?_
    refine zh_iret dL_restStartByLength_14 rfl (by decide) (by decide) ?_
    exact ⟨by rw [hk]; rfl, fun k hk _ => hf k hk, hx, by rw [if_neg hF]; exact (hf _ (by omega)).trans hw9⟩
  · obtain ⟨ho, hf, hx⟩ := hp
    obtain ⟨hF, hv⟩ := zAns_l ho
    subst hv
    refine zh_i2l dL_restStartByLength_7 ?_
    have hw8 : w1 c9 = zJ g f9 := (hf _ (by omega)).trans hw9
    refine zh_last_n dL_restStartByLength_8 hc9 hw8 ?_
    refine zh_goto (tgt := 15) dL_restStartByLength_9 (by decide) ?_
    refine zh_iconst (v := nI 0) dL_restStartByLength_15 rfl ?_
    refine zh_iret dL_restStartByLength_16 rfl (by decide) (by decide) ?_
    refine ⟨by rw [hF]; rfl, fun k hk hk2 => ?_, hx.fr (zFr.up (lo := c9) (hi := c9 + 1) (by omega)) (by omega), ?_⟩
    · rw [zup_n (by omega)]; exact hf k hk
    · rw [zup_s, if_pos hF]
set_option maxRecDepth 100000 in
set_option maxHeartbeats 4000000 in
theorem c_L_nextChange {g : zGT} {w : zW} {b c9 : Nat} {S : zSt} {Hs : List zSt} {Sn : Option zSt} {I O : List Nat} {ep fc : Int32} {f9 : Nat → Int64} {x : Int32} (h0 : zG0 g) (h1 : zST g) (hN : zNC g) (h : Rx g w b S Hs Sn I O ep fc) (hc9 : c9 < zn g) (hbc : b + 101 ≤ c9) (hw9 : w c9 = zJ g f9) : zCtH g mL_nextChange hL_nextChange (zR 9 2) [.ref (za g b), .int (x), .ref (za g c9)] w (fun o w' => o = .inl (some (.int (nI (rwP [1, 4] (if 0 ≤ x.toInt ∧ x.toInt < S.1.length then (if spNext (gT S.1) S.1.length x.toInt.toNat < 0 then 4 else 0) else 1))))) ∧ zFo w w' b c9 ∧ Rx g w' b S Hs Sn I O ep fc ∧ w' c9 = zJ g (if (if 0 ≤ x.toInt ∧ x.toInt < S.1.length then (if spNext (gT S.1) S.1.length x.toInt.toNat < 0 then 4 else 0) else 1) = 0 then vp_updL f9 0 ((nI (spNext (gT S.1) S.1.length x.toInt.toNat).toNat).toInt64) else f9)) := by
  have hb := h.1
  have hn := h.st.len
  refine zCtH_of (by decide +kernel) h0 [(0, .ref (za g b)), (1, .int (x)), (2, .ref (za g c9))] rfl (Nat.le_of_ble_eq_true rfl) ?_
  refine zh_aload_n dL_nextChange_0 rfl ?_
  refine zh_iconst (v := nI 0) dL_nextChange_1 rfl ?_
  refine zh_aload_n dL_nextChange_2 rfl ?_
  refine zh_iload_n dL_nextChange_3 rfl ?_
  refine zh_callV (As := [.int (x)]) (rest := [.int (nI (0)), .ref (za g c9)]) (b := b) (ci := 11) (R2 := zR 4 2) dL_nextChange_4 kV_RL_79 rfl ⟨⟨by decide, by decide⟩, by decide, by decide⟩ (by omega) h.ce rfl rfl rfl (Nat.le_of_ble_eq_true rfl) rfl (c_X12_nextChange h0 h1 h) (fun E w1 hp => ?_) (fun v w1 hp => ?_)
  · obtain ⟨ho, hf, hx⟩ := hp
    obtain ⟨hF, hE⟩ := zAns_r ho
    have hk : (if 0 ≤ x.toInt ∧ x.toInt < S.1.length then (if spNext (gT S.1) S.1.length x.toInt.toNat < 0 then 4 else 0) else 1) = 1 ∨ (if 0 ≤ x.toInt ∧ x.toInt < S.1.length then (if spNext (gT S.1) S.1.length x.toInt.toNat < 0 then 4 else 0) else 1) = 4 := by revert hF; (try simp only [spF, fPass, fRest, fIv, fMod, fRep, fPas, fMark, fWin]); (repeat' split) <;> first | (intro hF; omega) | simp
    rcases hk with hk | hk
    · refine ⟨12, by rw [hE, hk]; exact ⟨0, 0, 9, 21, "java/lang/IndexOutOfBoundsException", rfl, ⟨by decide, by decide⟩, by decide, lk_21, ca_1, fun j hj => absurd hj (Nat.not_lt_zero j)⟩, fun q9 => ?_⟩
      refine zh_astore_n (lv' := [(0, .ref (za g b)), (1, .int (x)), (2, .ref (za g c9)), (3, .ref (q9))]) dL_nextChange_12 (by decide) rfl ?_
      refine zh_iconst (v := nI 1) dL_nextChange_13 rfl ?_
      refine zh_iret dL_nextChange_14 rfl (by decide) (by decide) ?_
      exact ⟨by rw [hk]; rfl, fun k hk _ => hf k hk, hx, by rw [if_neg hF]; exact (hf _ (by omega)).trans hw9⟩
    · refine ⟨15, by rw [hE, hk]; exact ⟨1, 0, 9, 46, "java/util/NoSuchElementException", rfl, ⟨by decide, by decide⟩, by decide, lk_46, ca_4, fun j hj => by (obtain rfl : j = 0 := by omega); exact ⟨0, 9, 12, 21, "java/lang/IndexOutOfBoundsException", rfl, by decide, lk_21, hN 4 1 (by decide) (by decide) (by decide) (by decide) (by decide)⟩⟩, fun q9 => ?_⟩
      refine zh_astore_n (lv' := [(0, .ref (za g b)), (1, .int (x)), (2, .ref (za g c9)), (3, .ref (q9))]) dL_nextChange_15 (by decide) rfl ?_
      refine zh_iconst (v := nI 2) dL_nextChange_16 rfl ?_
      refine zh_iret dL_nextChange_17 rfl (by decide) (by decide) ?_
      exact ⟨by rw [hk]; rfl, fun k hk _ => hf k hk, hx, by rw [if_neg hF]; exact (hf _ (by omega)).trans hw9⟩
  · obtain ⟨ho, hf, hx⟩ := hp
    obtain ⟨hF, hv⟩ := zAns_l ho
    subst hv
    refine zh_i2l dL_nextChange_7 ?_
    have hw8 : w1 c9 = zJ g f9 := (hf _ (by omega)).trans hw9
    refine zh_last_n dL_nextChange_8 hc9 hw8 ?_
    refine zh_goto (tgt := 18) dL_nextChange_9 (by decide) ?_
    refine zh_iconst (v := nI 0) dL_nextChange_18 rfl ?_
    refine zh_iret dL_nextChange_19 rfl (by decide) (by decide) ?_
    refine ⟨by rw [hF]; rfl, fun k hk hk2 => ?_, hx.fr (zFr.up (lo := c9) (hi := c9 + 1) (by omega)) (by omega), ?_⟩
    · rw [zup_n (by omega)]; exact hf k hk
    · rw [zup_s, if_pos hF]
set_option maxRecDepth 100000 in
set_option maxHeartbeats 4000000 in
theorem c_L_findRun {g : zGT} {w : zW} {b c9 : Nat} {S : zSt} {Hs : List zSt} {Sn : Option zSt} {I O : List Nat} {ep fc : Int32} {f9 : Nat → Int64} {x y : Int32} (h0 : zG0 g) (h1 : zST g) (hN : zNC g) (h : Rx g w b S Hs Sn I O ep fc) (hc9 : c9 < zn g) (hbc : b + 101 ≤ c9) (hw9 : w c9 = zJ g f9) : zCtH g mL_findRun hL_findRun (zR 9 2) [.ref (za g b), .int (x), .int (y), .ref (za g c9)] w (fun o w' => o = .inl (some (.int (nI (rwP [2, 4] (if (0 ≤ x.toInt ∧ x.toInt ≤ 9) ∧ 1 ≤ y.toInt then (if spFind (gT S.1) S.1.length x.toInt.toNat y.toInt < 0 then 4 else 0) else 2))))) ∧ zFo w w' b c9 ∧ Rx g w' b S Hs Sn I O ep fc ∧ w' c9 = zJ g (if (if (0 ≤ x.toInt ∧ x.toInt ≤ 9) ∧ 1 ≤ y.toInt then (if spFind (gT S.1) S.1.length x.toInt.toNat y.toInt < 0 then 4 else 0) else 2) = 0 then vp_updL f9 0 ((nI (cS (gT S.1) (spFind (gT S.1) S.1.length x.toInt.toNat y.toInt).toNat)).toInt64) else f9)) := by
  have hb := h.1
  have hn := h.st.len
  refine zCtH_of (by decide +kernel) h0 [(0, .ref (za g b)), (1, .int (x)), (2, .int (y)), (3, .ref (za g c9))] rfl (Nat.le_of_ble_eq_true rfl) ?_
  refine zh_aload_n dL_findRun_0 rfl ?_
  refine zh_iconst (v := nI 0) dL_findRun_1 rfl ?_
  refine zh_aload_n dL_findRun_2 rfl ?_
  refine zh_iload_n dL_findRun_3 rfl ?_
  refine zh_iload_n dL_findRun_4 rfl ?_
  refine zh_callV (As := [.int (x), .int (y)]) (rest := [.int (nI (0)), .ref (za g c9)]) (b := b) (ci := 11) (R2 := zR 4 2) dL_findRun_5 kV_RL_82 rfl ⟨⟨by decide, by decide⟩, by decide, by decide⟩ (by omega) h.ce rfl rfl rfl (Nat.le_of_ble_eq_true rfl) rfl (c_X12_findRun h0 h1 h) (fun E w1 hp => ?_) (fun v w1 hp => ?_)
  · obtain ⟨ho, hf, hx⟩ := hp
    obtain ⟨hF, hE⟩ := zAns_r ho
    have hk : (if (0 ≤ x.toInt ∧ x.toInt ≤ 9) ∧ 1 ≤ y.toInt then (if spFind (gT S.1) S.1.length x.toInt.toNat y.toInt < 0 then 4 else 0) else 2) = 2 ∨ (if (0 ≤ x.toInt ∧ x.toInt ≤ 9) ∧ 1 ≤ y.toInt then (if spFind (gT S.1) S.1.length x.toInt.toNat y.toInt < 0 then 4 else 0) else 2) = 4 := by revert hF; (try simp only [spF, fPass, fRest, fIv, fMod, fRep, fPas, fMark, fWin]); (repeat' split) <;> first | (intro hF; omega) | simp
    rcases hk with hk | hk
    · refine ⟨13, by rw [hE, hk]; exact ⟨0, 0, 10, 13, "java/lang/IllegalArgumentException", rfl, ⟨by decide, by decide⟩, by decide, lk_13, ca_2, fun j hj => absurd hj (Nat.not_lt_zero j)⟩, fun q9 => ?_⟩
      refine zh_astore (lv' := [(0, .ref (za g b)), (1, .int (x)), (2, .int (y)), (3, .ref (za g c9)), (4, .ref (q9))]) dL_findRun_13 (by decide) rfl ?_
      refine zh_iconst (v := nI 1) dL_findRun_15 rfl ?_
      refine zh_iret dL_findRun_16 rfl (by decide) (by decide) ?_
      exact ⟨by rw [hk]; rfl, fun k hk _ => hf k hk, hx, by rw [if_neg hF]; exact (hf _ (by omega)).trans hw9⟩
    · refine ⟨17, by rw [hE, hk]; exact ⟨1, 0, 10, 46, "java/util/NoSuchElementException", rfl, ⟨by decide, by decide⟩, by decide, lk_46, ca_4, fun j hj => by (obtain rfl : j = 0 := by omega); exact ⟨0, 10, 13, 13, "java/lang/IllegalArgumentException", rfl, by decide, lk_13, hN 4 2 (by decide) (by decide) (by decide) (by decide) (by decide)⟩⟩, fun q9 => ?_⟩
      refine zh_astore (lv' := [(0, .ref (za g b)), (1, .int (x)), (2, .int (y)), (3, .ref (za g c9)), (4, .ref (q9))]) dL_findRun_17 (by decide) rfl ?_
      refine zh_iconst (v := nI 2) dL_findRun_19 rfl ?_
      refine zh_iret dL_findRun_20 rfl (by decide) (by decide) ?_
      exact ⟨by rw [hk]; rfl, fun k hk _ => hf k hk, hx, by rw [if_neg hF]; exact (hf _ (by omega)).trans hw9⟩
  · obtain ⟨ho, hf, hx⟩ := hp
    obtain ⟨hF, hv⟩ := zAns_l ho
    subst hv
    refine zh_i2l dL_findRun_8 ?_
    have hw8 : w1 c9 = zJ g f9 := (hf _ (by omega)).trans hw9
    refine zh_last_n dL_findRun_9 hc9 hw8 ?_
    refine zh_goto (tgt := 21) dL_findRun_10 (by decide) ?_
    refine zh_iconst (v := nI 0) dL_findRun_21 rfl ?_
    refine zh_iret dL_findRun_22 rfl (by decide) (by decide) ?_
    refine ⟨by rw [hF]; rfl, fun k hk hk2 => ?_, hx.fr (zFr.up (lo := c9) (hi := c9 + 1) (by omega)) (by omega), ?_⟩
    · rw [zup_n (by omega)]; exact hf k hk
    · rw [zup_s, if_pos hF]
set_option maxRecDepth 100000 in
set_option maxHeartbeats 4000000 in
theorem c_L_quietestWindow {g : zGT} {w : zW} {b c9 : Nat} {S : zSt} {Hs : List zSt} {Sn : Option zSt} {I O : List Nat} {ep fc : Int32} {f9 : Nat → Int64} {x : Int32} (h0 : zG0 g) (h1 : zST g) (hN : zNC g) (h : Rx g w b S Hs Sn I O ep fc) (hc9 : c9 < zn g) (hbc : b + 101 ≤ c9) (hw9 : w c9 = zJ g f9) : zCtH g mL_quietestWindow hL_quietestWindow (zR 9 2) [.ref (za g b), .int (x), .ref (za g c9)] w (fun o w' => o = .inl (some (.int (nI (rwP [2, 4] (fWin S.1.length x.toInt))))) ∧ zFo w w' b c9 ∧ Rx g w' b S Hs Sn I O ep fc ∧ w' c9 = zJ g (if (fWin S.1.length x.toInt) = 0 then vp_updL f9 0 ((nI (winB (gT S.1) x.toInt.toNat (S.1.length - x.toInt.toNat))).toInt64) else f9)) := by
  have hb := h.1
  have hn := h.st.len
  refine zCtH_of (by decide +kernel) h0 [(0, .ref (za g b)), (1, .int (x)), (2, .ref (za g c9))] rfl (Nat.le_of_ble_eq_true rfl) ?_
  refine zh_aload_n dL_quietestWindow_0 rfl ?_
  refine zh_iconst (v := nI 0) dL_quietestWindow_1 rfl ?_
  refine zh_aload_n dL_quietestWindow_2 rfl ?_
  refine zh_iload_n dL_quietestWindow_3 rfl ?_
  refine zh_callV (As := [.int (x)]) (rest := [.int (nI (0)), .ref (za g c9)]) (b := b) (ci := 11) (R2 := zR 3 1) dL_quietestWindow_4 kV_RL_85 rfl ⟨⟨by decide, by decide⟩, by decide, by decide⟩ (by omega) h.ce rfl rfl rfl (Nat.le_of_ble_eq_true rfl) rfl (c_X12_quietestWindow h0 h1 h) (fun E w1 hp => ?_) (fun v w1 hp => ?_)
  · obtain ⟨ho, hf, hx⟩ := hp
    obtain ⟨hF, hE⟩ := zAns_r ho
    have hk : (fWin S.1.length x.toInt) = 2 ∨ (fWin S.1.length x.toInt) = 4 := by revert hF; (try simp only [spF, fPass, fRest, fIv, fMod, fRep, fPas, fMark, fWin]); (repeat' split) <;> first | (intro hF; omega) | simp
    rcases hk with hk | hk
    · refine ⟨12, by rw [hE, hk]; exact ⟨0, 0, 9, 13, "java/lang/IllegalArgumentException", rfl, ⟨by decide, by decide⟩, by decide, lk_13, ca_2, fun j hj => absurd hj (Nat.not_lt_zero j)⟩, fun q9 => ?_⟩
      refine zh_astore_n (lv' := [(0, .ref (za g b)), (1, .int (x)), (2, .ref (za g c9)), (3, .ref (q9))]) dL_quietestWindow_12 (by decide) rfl ?_
      refine zh_iconst (v := nI 1) dL_quietestWindow_13 rfl ?_
      refine zh_iret dL_quietestWindow_14 rfl (by decide) (by decide) ?_
      exact ⟨by rw [hk]; rfl, fun k hk _ => hf k hk, hx, by rw [if_neg hF]; exact (hf _ (by omega)).trans hw9⟩
    · refine ⟨15, by rw [hE, hk]; exact ⟨1, 0, 9, 46, "java/util/NoSuchElementException", rfl, ⟨by decide, by decide⟩, by decide, lk_46, ca_4, fun j hj => by (obtain rfl : j = 0 := by omega); exact ⟨0, 9, 12, 13, "java/lang/IllegalArgumentException", rfl, by decide, lk_13, hN 4 2 (by decide) (by decide) (by decide) (by decide) (by decide)⟩⟩, fun q9 => ?_⟩
      refine zh_astore_n (lv' := [(0, .ref (za g b)), (1, .int (x)), (2, .ref (za g c9)), (3, .ref (q9))]) dL_quietestWindow_15 (by decide) rfl ?_
      refine zh_iconst (v := nI 2) dL_quietestWindow_16 rfl ?_
      refine zh_iret dL_quietestWindow_17 rfl (by decide) (by decide) ?_
      exact ⟨by rw [hk]; rfl, fun k hk _ => hf k hk, hx, by rw [if_neg hF]; exact (hf _ (by omega)).trans hw9⟩
  · obtain ⟨ho, hf, hx⟩ := hp
    obtain ⟨hF, hv⟩ := zAns_l ho
    subst hv
    refine zh_i2l dL_quietestWindow_7 ?_
    have hw8 : w1 c9 = zJ g f9 := (hf _ (by omega)).trans hw9
    refine zh_last_n dL_quietestWindow_8 hc9 hw8 ?_
    refine zh_goto (tgt := 18) dL_quietestWindow_9 (by decide) ?_
    refine zh_iconst (v := nI 0) dL_quietestWindow_18 rfl ?_
    refine zh_iret dL_quietestWindow_19 rfl (by decide) (by decide) ?_
    refine ⟨by rw [hF]; rfl, fun k hk hk2 => ?_, hx.fr (zFr.up (lo := c9) (hi := c9 + 1) (by omega)) (by omega), ?_⟩
    · rw [zup_n (by omega)]; exact hf k hk
    · rw [zup_s, if_pos hF]
set_option maxRecDepth 100000 in
set_option maxHeartbeats 4000000 in
theorem c_L_quietestWindowByTrial {g : zGT} {w : zW} {b c9 : Nat} {S : zSt} {Hs : List zSt} {Sn : Option zSt} {I O : List Nat} {ep fc : Int32} {f9 : Nat → Int64} {x : Int32} (h0 : zG0 g) (h1 : zST g) (hN : zNC g) (h : Rx g w b S Hs Sn I O ep fc) (hc9 : c9 < zn g) (hbc : b + 101 ≤ c9) (hw9 : w c9 = zJ g f9) : zCtH g mL_quietestWindowByTrial hL_quietestWindowByTrial (zR 9 2) [.ref (za g b), .int (x), .ref (za g c9)] w (fun o w' => o = .inl (some (.int (nI (rwP [2, 4] (fWin S.1.length x.toInt))))) ∧ zFo w w' b c9 ∧ Rx g w' b S Hs Sn I O ep fc ∧ w' c9 = zJ g (if (fWin S.1.length x.toInt) = 0 then vp_updL f9 0 ((nI (winB (gT S.1) x.toInt.toNat (S.1.length - x.toInt.toNat))).toInt64) else f9)) := by
  have hb := h.1
  have hn := h.st.len
  refine zCtH_of (by decide +kernel) h0 [(0, .ref (za g b)), (1, .int (x)), (2, .ref (za g c9))] rfl (Nat.le_of_ble_eq_true rfl) ?_
  refine zh_aload_n dL_quietestWindowByTrial_0 rfl ?_
  refine zh_iconst (v := nI 0) dL_quietestWindowByTrial_1 rfl ?_
  refine zh_aload_n dL_quietestWindowByTrial_2 rfl ?_
  refine zh_iload_n dL_quietestWindowByTrial_3 rfl ?_
  refine zh_callV (As := [.int (x)]) (rest := [.int (nI (0)), .ref (za g c9)]) (b := b) (ci := 11) (R2 := zR 3 1) dL_quietestWindowByTrial_4 kV_RL_88 rfl ⟨⟨by decide, by decide⟩, by decide, by decide⟩ (by omega) h.ce rfl rfl rfl (Nat.le_of_ble_eq_true rfl) rfl (c_X12_quietestWindowByTrial h0 h1 h) (fun E w1 hp => ?_) (fun v w1 hp => ?_)
  · obtain ⟨ho, hf, hx⟩ := hp
    obtain ⟨hF, hE⟩ := zAns_r ho
    have hk : (fWin S.1.length x.toInt) = 2 ∨ (fWin S.1.length x.toInt) = 4 := by revert hF; (try simp only [spF, fPass, fRest, fIv, fMod, fRep, fPas, fMark, fWin]); (repeat' split) <;> first | (intro hF; omega) | simp
    rcases hk with hk | hk
    · refine ⟨12, by rw [hE, hk]; exact ⟨0, 0, 9, 13, "java/lang/IllegalArgumentException", rfl, ⟨by decide, by decide⟩, by decide, lk_13, ca_2, fun j hj => absurd hj (Nat.not_lt_zero j)⟩, fun q9 => ?_⟩
      refine zh_astore_n (lv' := [(0, .ref (za g b)), (1, .int (x)), (2, .ref (za g c9)), (3, .ref (q9))]) dL_quietestWindowByTrial_12 (by decide) rfl ?_
      refine zh_iconst (v := nI 1) dL_quietestWindowByTrial_13 rfl ?_
      refine zh_iret dL_quietestWindowByTrial_14 rfl (by decide) (by decide) ?_
      exact ⟨by rw [hk]; rfl, fun k hk _ => hf k hk, hx, by rw [if_neg hF]; exact (hf _ (by omega)).trans hw9⟩
    · refine ⟨15, by rw [hE, hk]; exact ⟨1, 0, 9, 46, "java/util/NoSuchElementException", rfl, ⟨by decide, by decide⟩, by decide, lk_46, ca_4, fun j hj => by (obtain rfl : j = 0 := by omega); exact ⟨0, 9, 12, 13, "java/lang/IllegalArgumentException", rfl, by decide, lk_13, hN 4 2 (by decide) (by decide) (by decide) (by decide) (by decide)⟩⟩, fun q9 => ?_⟩
      refine zh_astore_n (lv' := [(0, .ref (za g b)), (1, .int (x)), (2, .ref (za g c9)), (3, .ref (q9))]) dL_quietestWindowByTrial_15 (by decide) rfl ?_
      refine zh_iconst (v := nI 2) dL_quietestWindowByTrial_16 rfl ?_
      refine zh_iret dL_quietestWindowByTrial_17 rfl (by decide) (by decide) ?_
      exact ⟨by rw [hk]; rfl, fun k hk _ => hf k hk, hx, by rw [if_neg hF]; exact (hf _ (by omega)).trans hw9⟩
  · obtain ⟨ho, hf, hx⟩ := hp
    obtain ⟨hF, hv⟩ := zAns_l ho
    subst hv
    refine zh_i2l dL_quietestWindowByTrial_7 ?_
    have hw8 : w1 c9 = zJ g f9 := (hf _ (by omega)).trans hw9
    refine zh_last_n dL_quietestWindowByTrial_8 hc9 hw8 ?_
    refine zh_goto (tgt := 18) dL_quietestWindowByTrial_9 (by decide) ?_
    refine zh_iconst (v := nI 0) dL_quietestWindowByTrial_18 rfl ?_
    refine zh_iret dL_quietestWindowByTrial_19 rfl (by decide) (by decide) ?_
    refine ⟨by rw [hF]; rfl, fun k hk hk2 => ?_, hx.fr (zFr.up (lo := c9) (hi := c9 + 1) (by omega)) (by omega), ?_⟩
    · rw [zup_n (by omega)]; exact hf k hk
    · rw [zup_s, if_pos hF]
set_option maxRecDepth 100000 in
set_option maxHeartbeats 4000000 in
theorem c_L_period {g : zGT} {w : zW} {b c9 : Nat} {S : zSt} {Hs : List zSt} {Sn : Option zSt} {I O : List Nat} {ep fc : Int32} {f9 : Nat → Int64} (h0 : zG0 g) (h1 : zST g) (hN : zNC g) (h : Rx g w b S Hs Sn I O ep fc) (hc9 : c9 < zn g) (hbc : b + 101 ≤ c9) (hw9 : w c9 = zJ g f9) : zCtH g mL_period hL_period (zR 9 2) [.ref (za g b), .ref (za g c9)] w (fun o w' => o = .inl (some (.int (nI (rwP [4] (if S.1.length = 0 then 4 else 0))))) ∧ zFo w w' b c9 ∧ Rx g w' b S Hs Sn I O ep fc ∧ w' c9 = zJ g (if (if S.1.length = 0 then 4 else 0) = 0 then vp_updL f9 0 ((nI (perF (gT S.1) S.1.length)).toInt64) else f9)) := by
  have hb := h.1
  have hn := h.st.len
  refine zCtH_of (by decide +kernel) h0 [(0, .ref (za g b)), (1, .ref (za g c9))] rfl (Nat.le_of_ble_eq_true rfl) ?_
  refine zh_aload_n dL_period_0 rfl ?_
  refine zh_iconst (v := nI 0) dL_period_1 rfl ?_
  refine zh_aload_n dL_period_2 rfl ?_
  refine zh_callV (As := []) (rest := [.int (nI (0)), .ref (za g c9)]) (b := b) (ci := 11) (R2 := zR 4 1) dL_period_3 kV_RL_91 rfl ⟨⟨by decide, by decide⟩, by decide, by decide⟩ (by omega) h.ce rfl rfl rfl (Nat.le_of_ble_eq_true rfl) rfl (c_X12_period h0 h1 h) (fun E w1 hp => ?_) (fun v w1 hp => ?_)
  · obtain ⟨ho, hf, hx⟩ := hp
    obtain ⟨hF, hE⟩ := zAns_r ho
    have hk : (if S.1.length = 0 then 4 else 0) = 4 := by revert hF; (try simp only [spF, fPass, fRest, fIv, fMod, fRep, fPas, fMark, fWin]); (repeat' split) <;> first | (intro hF; omega) | simp
    refine ⟨11, by rw [hE, hk]; exact ⟨0, 0, 8, 46, "java/util/NoSuchElementException", rfl, ⟨by decide, by decide⟩, by decide, lk_46, ca_4, fun j hj => absurd hj (Nat.not_lt_zero j)⟩, fun q9 => ?_⟩
    refine zh_astore_n (lv' := [(0, .ref (za g b)), (1, .ref (za g c9)), (2, .ref (q9))]) dL_period_11 (by decide) rfl ?_
    refine zh_iconst (v := nI 1) dL_period_12 rfl ?_
    refine zh_iret dL_period_13 rfl (by decide) (by decide) ?_
    exact ⟨by rw [hk]; rfl, fun k hk _ => hf k hk, hx, by rw [if_neg hF]; exact (hf _ (by omega)).trans hw9⟩
  · obtain ⟨ho, hf, hx⟩ := hp
    obtain ⟨hF, hv⟩ := zAns_l ho
    subst hv
    refine zh_i2l dL_period_6 ?_
    have hw8 : w1 c9 = zJ g f9 := (hf _ (by omega)).trans hw9
    refine zh_last_n dL_period_7 hc9 hw8 ?_
    refine zh_goto (tgt := 14) dL_period_8 (by decide) ?_
    refine zh_iconst (v := nI 0) dL_period_14 rfl ?_
    refine zh_iret dL_period_15 rfl (by decide) (by decide) ?_
    refine ⟨by rw [hF]; rfl, fun k hk hk2 => ?_, hx.fr (zFr.up (lo := c9) (hi := c9 + 1) (by omega)) (by omega), ?_⟩
    · rw [zup_n (by omega)]; exact hf k hk
    · rw [zup_s, if_pos hF]
set_option maxRecDepth 100000 in
set_option maxHeartbeats 4000000 in
theorem c_L_periodByTrial {g : zGT} {w : zW} {b c9 : Nat} {S : zSt} {Hs : List zSt} {Sn : Option zSt} {I O : List Nat} {ep fc : Int32} {f9 : Nat → Int64} (h0 : zG0 g) (h1 : zST g) (hN : zNC g) (h : Rx g w b S Hs Sn I O ep fc) (hc9 : c9 < zn g) (hbc : b + 101 ≤ c9) (hw9 : w c9 = zJ g f9) : zCtH g mL_periodByTrial hL_periodByTrial (zR 9 2) [.ref (za g b), .ref (za g c9)] w (fun o w' => o = .inl (some (.int (nI (rwP [4] (if S.1.length = 0 then 4 else 0))))) ∧ zFo w w' b c9 ∧ Rx g w' b S Hs Sn I O ep fc ∧ w' c9 = zJ g (if (if S.1.length = 0 then 4 else 0) = 0 then vp_updL f9 0 ((nI (perF (gT S.1) S.1.length)).toInt64) else f9)) := by
  have hb := h.1
  have hn := h.st.len
  refine zCtH_of (by decide +kernel) h0 [(0, .ref (za g b)), (1, .ref (za g c9))] rfl (Nat.le_of_ble_eq_true rfl) ?_
  refine zh_aload_n dL_periodByTrial_0 rfl ?_
  refine zh_iconst (v := nI 0) dL_periodByTrial_1 rfl ?_
  refine zh_aload_n dL_periodByTrial_2 rfl ?_
  refine zh_callV (As := []) (rest := [.int (nI (0)), .ref (za g c9)]) (b := b) (ci := 11) (R2 := zR 4 1) dL_periodByTrial_3 kV_RL_95 rfl ⟨⟨by decide, by decide⟩, by decide, by decide⟩ (by omega) h.ce rfl rfl rfl (Nat.le_of_ble_eq_true rfl) rfl (c_X12_periodByTrial h0 h1 h) (fun E w1 hp => ?_) (fun v w1 hp => ?_)
  · obtain ⟨ho, hf, hx⟩ := hp
    obtain ⟨hF, hE⟩ := zAns_r ho
    have hk : (if S.1.length = 0 then 4 else 0) = 4 := by revert hF; (try simp only [spF, fPass, fRest, fIv, fMod, fRep, fPas, fMark, fWin]); (repeat' split) <;> first | (intro hF; omega) | simp
    refine ⟨11, by rw [hE, hk]; exact ⟨0, 0, 8, 46, "java/util/NoSuchElementException", rfl, ⟨by decide, by decide⟩, by decide, lk_46, ca_4, fun j hj => absurd hj (Nat.not_lt_zero j)⟩, fun q9 => ?_⟩
    refine zh_astore_n (lv' := [(0, .ref (za g b)), (1, .ref (za g c9)), (2, .ref (q9))]) dL_periodByTrial_11 (by decide) rfl ?_
    refine zh_iconst (v := nI 1) dL_periodByTrial_12 rfl ?_
    refine zh_iret dL_periodByTrial_13 rfl (by decide) (by decide) ?_
    exact ⟨by rw [hk]; rfl, fun k hk _ => hf k hk, hx, by rw [if_neg hF]; exact (hf _ (by omega)).trans hw9⟩
  · obtain ⟨ho, hf, hx⟩ := hp
    obtain ⟨hF, hv⟩ := zAns_l ho
    subst hv
    refine zh_i2l dL_periodByTrial_6 ?_
    have hw8 : w1 c9 = zJ g f9 := (hf _ (by omega)).trans hw9
    refine zh_last_n dL_periodByTrial_7 hc9 hw8 ?_
    refine zh_goto (tgt := 14) dL_periodByTrial_8 (by decide) ?_
    refine zh_iconst (v := nI 0) dL_periodByTrial_14 rfl ?_
    refine zh_iret dL_periodByTrial_15 rfl (by decide) (by decide) ?_
    refine ⟨by rw [hF]; rfl, fun k hk hk2 => ?_, hx.fr (zFr.up (lo := c9) (hi := c9 + 1) (by omega)) (by omega), ?_⟩
    · rw [zup_n (by omega)]; exact hf k hk
    · rw [zup_s, if_pos hF]
set_option maxRecDepth 100000 in
set_option maxHeartbeats 4000000 in
theorem c_L_markerTime {g : zGT} {w : zW} {b c9 : Nat} {S : zSt} {Hs : List zSt} {Sn : Option zSt} {I O : List Nat} {ep fc : Int32} {f9 : Nat → Int64} {x : Int32} (h0 : zG0 g) (h1 : zST g) (hN : zNC g) (h : Rx g w b S Hs Sn I O ep fc) (hc9 : c9 < zn g) (hbc : b + 101 ≤ c9) (hw9 : w c9 = zJ g f9) : zCtH g mL_markerTime hL_markerTime (zR 9 2) [.ref (za g b), .int (x), .ref (za g c9)] w (fun o w' => o = .inl (some (.int (nI (rwP [1] (if 0 ≤ x.toInt ∧ x.toInt < S.2.1.length then 0 else 1))))) ∧ zFo w w' b c9 ∧ Rx g w' b S Hs Sn I O ep fc ∧ w' c9 = zJ g (if (if 0 ≤ x.toInt ∧ x.toInt < S.2.1.length then 0 else 1) = 0 then vp_updL f9 0 ((nI (S.2.1.getD x.toInt.toNat 0)).toInt64) else f9)) := by
  have hb := h.1
  have hn := h.st.len
  refine zCtH_of (by decide +kernel) h0 [(0, .ref (za g b)), (1, .int (x)), (2, .ref (za g c9))] rfl (Nat.le_of_ble_eq_true rfl) ?_
  refine zh_aload_n dL_markerTime_0 rfl ?_
  refine zh_iconst (v := nI 0) dL_markerTime_1 rfl ?_
  refine zh_aload_n dL_markerTime_2 rfl ?_
  refine zh_iload_n dL_markerTime_3 rfl ?_
  refine zh_callV (As := [.int (x)]) (rest := [.int (nI (0)), .ref (za g c9)]) (b := b) (ci := 11) (R2 := zR 2 1) dL_markerTime_4 kV_RL_98 rfl ⟨⟨by decide, by decide⟩, by decide, by decide⟩ (by omega) h.ce rfl rfl rfl (Nat.le_of_ble_eq_true rfl) rfl (c_X12_markerTime h0 h1 h) (fun E w1 hp => ?_) (fun v w1 hp => ?_)
  · obtain ⟨ho, hf, hx⟩ := hp
    obtain ⟨hF, hE⟩ := zAns_r ho
    have hk : (if 0 ≤ x.toInt ∧ x.toInt < S.2.1.length then 0 else 1) = 1 := by revert hF; (try simp only [spF, fPass, fRest, fIv, fMod, fRep, fPas, fMark, fWin]); (repeat' split) <;> first | (intro hF; omega) | simp
    refine ⟨12, by rw [hE, hk]; exact ⟨0, 0, 9, 21, "java/lang/IndexOutOfBoundsException", rfl, ⟨by decide, by decide⟩, by decide, lk_21, ca_1, fun j hj => absurd hj (Nat.not_lt_zero j)⟩, fun q9 => ?_⟩
    refine zh_astore_n (lv' := [(0, .ref (za g b)), (1, .int (x)), (2, .ref (za g c9)), (3, .ref (q9))]) dL_markerTime_12 (by decide) rfl ?_
    refine zh_iconst (v := nI 1) dL_markerTime_13 rfl ?_
    refine zh_iret dL_markerTime_14 rfl (by decide) (by decide) ?_
    exact ⟨by rw [hk]; rfl, fun k hk _ => hf k hk, hx, by rw [if_neg hF]; exact (hf _ (by omega)).trans hw9⟩
  · obtain ⟨ho, hf, hx⟩ := hp
    obtain ⟨hF, hv⟩ := zAns_l ho
    subst hv
    refine zh_i2l dL_markerTime_7 ?_
    have hw8 : w1 c9 = zJ g f9 := (hf _ (by omega)).trans hw9
    refine zh_last_n dL_markerTime_8 hc9 hw8 ?_
    refine zh_goto (tgt := 15) dL_markerTime_9 (by decide) ?_
    refine zh_iconst (v := nI 0) dL_markerTime_15 rfl ?_
    refine zh_iret dL_markerTime_16 rfl (by decide) (by decide) ?_
    refine ⟨by rw [hF]; rfl, fun k hk hk2 => ?_, hx.fr (zFr.up (lo := c9) (hi := c9 + 1) (by omega)) (by omega), ?_⟩
    · rw [zup_n (by omega)]; exact hf k hk
    · rw [zup_s, if_pos hF]
set_option maxRecDepth 100000 in
set_option maxHeartbeats 4000000 in
theorem c_L_barLength {g : zGT} {w : zW} {b c9 : Nat} {S : zSt} {Hs : List zSt} {Sn : Option zSt} {I O : List Nat} {ep fc : Int32} {f9 : Nat → Int64} {x : Int32} (h0 : zG0 g) (h1 : zST g) (hN : zNC g) (h : Rx g w b S Hs Sn I O ep fc) (hc9 : c9 < zn g) (hbc : b + 101 ≤ c9) (hw9 : w c9 = zJ g f9) : zCtH g mL_barLength hL_barLength (zR 9 2) [.ref (za g b), .int (x), .ref (za g c9)] w (fun o w' => o = .inl (some (.int (nI (rwP [1] (if 0 ≤ x.toInt ∧ x.toInt ≤ S.2.1.length then 0 else 1))))) ∧ zFo w w' b c9 ∧ Rx g w' b S Hs Sn I O ep fc ∧ w' c9 = zJ g (if (if 0 ≤ x.toInt ∧ x.toInt ≤ S.2.1.length then 0 else 1) = 0 then vp_updL f9 0 ((nI (blF S x.toInt.toNat)).toInt64) else f9)) := by
  have hb := h.1
  have hn := h.st.len
  refine zCtH_of (by decide +kernel) h0 [(0, .ref (za g b)), (1, .int (x)), (2, .ref (za g c9))] rfl (Nat.le_of_ble_eq_true rfl) ?_
  refine zh_aload_n dL_barLength_0 rfl ?_
  refine zh_iconst (v := nI 0) dL_barLength_1 rfl ?_
  refine zh_aload_n dL_barLength_2 rfl ?_
  refine zh_iload_n dL_barLength_3 rfl ?_
  refine zh_callV (As := [.int (x)]) (rest := [.int (nI (0)), .ref (za g c9)]) (b := b) (ci := 11) (R2 := zR 3 1) dL_barLength_4 kV_RL_101 rfl ⟨⟨by decide, by decide⟩, by decide, by decide⟩ (by omega) h.ce rfl rfl rfl (Nat.le_of_ble_eq_true rfl) rfl (c_X12_barLength h0 h1 h) (fun E w1 hp => ?_) (fun v w1 hp => ?_)
  · obtain ⟨ho, hf, hx⟩ := hp
    obtain ⟨hF, hE⟩ := zAns_r ho
    have hk : (if 0 ≤ x.toInt ∧ x.toInt ≤ S.2.1.length then 0 else 1) = 1 := by revert hF; (try simp only [spF, fPass, fRest, fIv, fMod, fRep, fPas, fMark, fWin]); (repeat' split) <;> first | (intro hF; omega) | simp
    refine ⟨12, by rw [hE, hk]; exact ⟨0, 0, 9, 21, "java/lang/IndexOutOfBoundsException", rfl, ⟨by decide, by decide⟩, by decide, lk_21, ca_1, fun j hj => absurd hj (Nat.not_lt_zero j)⟩, fun q9 => ?_⟩
    refine zh_astore_n (lv' := [(0, .ref (za g b)), (1, .int (x)), (2, .ref (za g c9)), (3, .ref (q9))]) dL_barLength_12 (by decide) rfl ?_
    refine zh_iconst (v := nI 1) dL_barLength_13 rfl ?_
    refine zh_iret dL_barLength_14 rfl (by decide) (by decide) ?_
    exact ⟨by rw [hk]; rfl, fun k hk _ => hf k hk, hx, by rw [if_neg hF]; exact (hf _ (by omega)).trans hw9⟩
  · obtain ⟨ho, hf, hx⟩ := hp
    obtain ⟨hF, hv⟩ := zAns_l ho
    subst hv
    refine zh_i2l dL_barLength_7 ?_
    have hw8 : w1 c9 = zJ g f9 := (hf _ (by omega)).trans hw9
    refine zh_last_n dL_barLength_8 hc9 hw8 ?_
    refine zh_goto (tgt := 15) dL_barLength_9 (by decide) ?_
    refine zh_iconst (v := nI 0) dL_barLength_15 rfl ?_
    refine zh_iret dL_barLength_16 rfl (by decide) (by decide) ?_
    refine ⟨by rw [hF]; rfl, fun k hk hk2 => ?_, hx.fr (zFr.up (lo := c9) (hi := c9 + 1) (by omega)) (by omega), ?_⟩
    · rw [zup_n (by omega)]; exact hf k hk
    · rw [zup_s, if_pos hF]
set_option maxRecDepth 100000 in
set_option maxHeartbeats 4000000 in
theorem c_L_barLoudness {g : zGT} {w : zW} {b c9 : Nat} {S : zSt} {Hs : List zSt} {Sn : Option zSt} {I O : List Nat} {ep fc : Int32} {f9 : Nat → Int64} {x : Int32} (h0 : zG0 g) (h1 : zST g) (hN : zNC g) (h : Rx g w b S Hs Sn I O ep fc) (hc9 : c9 < zn g) (hbc : b + 101 ≤ c9) (hw9 : w c9 = zJ g f9) : zCtH g mL_barLoudness hL_barLoudness (zR 9 2) [.ref (za g b), .int (x), .ref (za g c9)] w (fun o w' => o = .inl (some (.int (nI (rwP [1] (if 0 ≤ x.toInt ∧ x.toInt ≤ S.2.1.length then 0 else 1))))) ∧ zFo w w' b c9 ∧ Rx g w' b S Hs Sn I O ep fc ∧ w' c9 = zJ g (if (if 0 ≤ x.toInt ∧ x.toInt ≤ S.2.1.length then 0 else 1) = 0 then vp_updL f9 0 ((nI (bsF S x.toInt.toNat)).toInt64) else f9)) := by
  have hb := h.1
  have hn := h.st.len
  refine zCtH_of (by decide +kernel) h0 [(0, .ref (za g b)), (1, .int (x)), (2, .ref (za g c9))] rfl (Nat.le_of_ble_eq_true rfl) ?_
  refine zh_aload_n dL_barLoudness_0 rfl ?_
  refine zh_iconst (v := nI 0) dL_barLoudness_1 rfl ?_
  refine zh_aload_n dL_barLoudness_2 rfl ?_
  refine zh_iload_n dL_barLoudness_3 rfl ?_
  refine zh_callV (As := [.int (x)]) (rest := [.int (nI (0)), .ref (za g c9)]) (b := b) (ci := 11) (R2 := zR 3 1) dL_barLoudness_4 kV_RL_104 rfl ⟨⟨by decide, by decide⟩, by decide, by decide⟩ (by omega) h.ce rfl rfl rfl (Nat.le_of_ble_eq_true rfl) rfl (c_X12_barLoudness h0 h1 h) (fun E w1 hp => ?_) (fun v w1 hp => ?_)
  · obtain ⟨ho, hf, hx⟩ := hp
    obtain ⟨hF, hE⟩ := zAns_r ho
    have hk : (if 0 ≤ x.toInt ∧ x.toInt ≤ S.2.1.length then 0 else 1) = 1 := by revert hF; (try simp only [spF, fPass, fRest, fIv, fMod, fRep, fPas, fMark, fWin]); (repeat' split) <;> first | (intro hF; omega) | simp
    refine ⟨12, by rw [hE, hk]; exact ⟨0, 0, 9, 21, "java/lang/IndexOutOfBoundsException", rfl, ⟨by decide, by decide⟩, by decide, lk_21, ca_1, fun j hj => absurd hj (Nat.not_lt_zero j)⟩, fun q9 => ?_⟩
    refine zh_astore_n (lv' := [(0, .ref (za g b)), (1, .int (x)), (2, .ref (za g c9)), (3, .ref (q9))]) dL_barLoudness_12 (by decide) rfl ?_
    refine zh_iconst (v := nI 1) dL_barLoudness_13 rfl ?_
    refine zh_iret dL_barLoudness_14 rfl (by decide) (by decide) ?_
    exact ⟨by rw [hk]; rfl, fun k hk _ => hf k hk, hx, by rw [if_neg hF]; exact (hf _ (by omega)).trans hw9⟩
  · obtain ⟨ho, hf, hx⟩ := hp
    obtain ⟨hF, hv⟩ := zAns_l ho
    subst hv
    refine zh_i2l dL_barLoudness_7 ?_
    have hw8 : w1 c9 = zJ g f9 := (hf _ (by omega)).trans hw9
    refine zh_last_n dL_barLoudness_8 hc9 hw8 ?_
    refine zh_goto (tgt := 15) dL_barLoudness_9 (by decide) ?_
    refine zh_iconst (v := nI 0) dL_barLoudness_15 rfl ?_
    refine zh_iret dL_barLoudness_16 rfl (by decide) (by decide) ?_
    refine ⟨by rw [hF]; rfl, fun k hk hk2 => ?_, hx.fr (zFr.up (lo := c9) (hi := c9 + 1) (by omega)) (by omega), ?_⟩
    · rw [zup_n (by omega)]; exact hf k hk
    · rw [zup_s, if_pos hF]
set_option maxRecDepth 100000 in
set_option maxHeartbeats 4000000 in
theorem c_L_areBarsEqual {g : zGT} {w : zW} {b c9 : Nat} {S : zSt} {Hs : List zSt} {Sn : Option zSt} {I O : List Nat} {ep fc : Int32} {f9 : Nat → Int64} {x y : Int32} (h0 : zG0 g) (h1 : zST g) (hN : zNC g) (h : Rx g w b S Hs Sn I O ep fc) (hc9 : c9 < zn g) (hbc : b + 101 ≤ c9) (hw9 : w c9 = zJ g f9) : zCtH g mL_areBarsEqual hL_areBarsEqual (zR 9 2) [.ref (za g b), .int (x), .int (y), .ref (za g c9)] w (fun o w' => o = .inl (some (.int (nI (rwP [1] (if (0 ≤ x.toInt ∧ x.toInt ≤ S.2.1.length) ∧ (0 ≤ y.toInt ∧ y.toInt ≤ S.2.1.length) then 0 else 1))))) ∧ zFo w w' b c9 ∧ Rx g w' b S Hs Sn I O ep fc ∧ w' c9 = zJ g (if (if (0 ≤ x.toInt ∧ x.toInt ≤ S.2.1.length) ∧ (0 ≤ y.toInt ∧ y.toInt ≤ S.2.1.length) then 0 else 1) = 0 then vp_updL f9 0 ((if (eqBarV S x.toInt.toNat y.toInt.toNat) = 0 then 0 else 1)) else f9)) := by
  have hb := h.1
  have hn := h.st.len
  refine zCtH_of (by decide +kernel) h0 [(0, .ref (za g b)), (1, .int (x)), (2, .int (y)), (3, .ref (za g c9))] rfl (Nat.le_of_ble_eq_true rfl) ?_
  refine zh_aload_n dL_areBarsEqual_0 rfl ?_
  refine zh_iconst (v := nI 0) dL_areBarsEqual_1 rfl ?_
  refine zh_aload_n dL_areBarsEqual_2 rfl ?_
  refine zh_iload_n dL_areBarsEqual_3 rfl ?_
  refine zh_iload_n dL_areBarsEqual_4 rfl ?_
  refine zh_callV (As := [.int (x), .int (y)]) (rest := [.int (nI (0)), .ref (za g c9)]) (b := b) (ci := 11) (R2 := zR 3 1) dL_areBarsEqual_5 kV_RL_107 rfl ⟨⟨by decide, by decide⟩, by decide, by decide⟩ (by omega) h.ce rfl rfl rfl (Nat.le_of_ble_eq_true rfl) rfl (c_X12_areBarsEqual h0 h1 h) (fun E w1 hp => ?_) (fun v w1 hp => ?_)
  · obtain ⟨ho, hf, hx⟩ := hp
    obtain ⟨hF, hE⟩ := zAns_r ho
    have hk : (if (0 ≤ x.toInt ∧ x.toInt ≤ S.2.1.length) ∧ (0 ≤ y.toInt ∧ y.toInt ≤ S.2.1.length) then 0 else 1) = 1 := by revert hF; (try simp only [spF, fPass, fRest, fIv, fMod, fRep, fPas, fMark, fWin]); (repeat' split) <;> first | (intro hF; omega) | simp
    refine ⟨20, by rw [hE, hk]; exact ⟨0, 0, 17, 21, "java/lang/IndexOutOfBoundsException", rfl, ⟨by decide, by decide⟩, by decide, lk_21, ca_1, fun j hj => absurd hj (Nat.not_lt_zero j)⟩, fun q9 => ?_⟩
    refine zh_astore (lv' := [(0, .ref (za g b)), (1, .int (x)), (2, .int (y)), (3, .ref (za g c9)), (4, .ref (q9))]) dL_areBarsEqual_20 (by decide) rfl ?_
    refine zh_iconst (v := nI 1) dL_areBarsEqual_22 rfl ?_
    refine zh_iret dL_areBarsEqual_23 rfl (by decide) (by decide) ?_
    exact ⟨by rw [hk]; rfl, fun k hk _ => hf k hk, hx, by rw [if_neg hF]; exact (hf _ (by omega)).trans hw9⟩
  · obtain ⟨ho, hf, hx⟩ := hp
    obtain ⟨hF, hv⟩ := zAns_l ho
    subst hv
    have hbt : (eqBarV S x.toInt.toNat y.toInt.toNat) ≤ 1 := by unfold eqBarV; split <;> omega
    refine zh_if_eq_n (a := (eqBarV S x.toInt.toNat y.toInt.toNat)) (tgt := 15) dL_areBarsEqual_8 (by decide) (by omega) (fun hz => ?_) (fun hz => ?_)
    · refine zh_lconst (v := 0) dL_areBarsEqual_15 rfl ?_
      have hw8 : w1 c9 = zJ g f9 := (hf _ (by omega)).trans hw9
      refine zh_last_n dL_areBarsEqual_16 hc9 hw8 ?_
      refine zh_goto (tgt := 24) dL_areBarsEqual_17 (by decide) ?_
      refine zh_iconst (v := nI 0) dL_areBarsEqual_24 rfl ?_
      refine zh_iret dL_areBarsEqual_25 rfl (by decide) (by decide) ?_
      refine ⟨by rw [hF]; rfl, fun k hk hk2 => ?_, hx.fr (zFr.up (lo := c9) (hi := c9 + 1) (by omega)) (by omega), ?_⟩
      · rw [zup_n (by omega)]; exact hf k hk
      · rw [zup_s, if_pos hF]; first | rw [if_pos hz] | rw [if_neg hz]
    · refine zh_lconst (v := 1) dL_areBarsEqual_11 rfl ?_
      refine zh_goto (tgt := 16) dL_areBarsEqual_12 (by decide) ?_
      have hw8 : w1 c9 = zJ g f9 := (hf _ (by omega)).trans hw9
      refine zh_last_n dL_areBarsEqual_16 hc9 hw8 ?_
      refine zh_goto (tgt := 24) dL_areBarsEqual_17 (by decide) ?_
      refine zh_iconst (v := nI 0) dL_areBarsEqual_24 rfl ?_
      refine zh_iret dL_areBarsEqual_25 rfl (by decide) (by decide) ?_
      refine ⟨by rw [hF]; rfl, fun k hk hk2 => ?_, hx.fr (zFr.up (lo := c9) (hi := c9 + 1) (by omega)) (by omega), ?_⟩
      · rw [zup_n (by omega)]; exact hf k hk
      · rw [zup_s, if_pos hF]; first | rw [if_pos hz] | rw [if_neg hz]
set_option maxRecDepth 100000 in
set_option maxHeartbeats 4000000 in
theorem c_L_meanLevel {g : zGT} {w : zW} {b c9 : Nat} {S : zSt} {Hs : List zSt} {Sn : Option zSt} {I O : List Nat} {ep fc : Int32} {f9 : Nat → UInt64} (h0 : zG0 g) (h1 : zST g) (hN : zNC g) (h : Rx g w b S Hs Sn I O ep fc) (hc9 : c9 < zn g) (hbc : b + 101 ≤ c9) (hw9 : w c9 = zQ g f9) : zCtH g mL_meanLevel hL_meanLevel (zR 9 2) [.ref (za g b), .ref (za g c9)] w (fun o w' => o = .inl (some (.int (nI (rwP [5] (if S.1.length = 0 then 5 else 0))))) ∧ zFo w w' b c9 ∧ Rx g w' b S Hs Sn I O ep fc ∧ w' c9 = zQ g (if (if S.1.length = 0 then 5 else 0) = 0 then vf_upd f9 0 ((FP.ddiv (FP.l2d (lN (tsum (gT S.1) 0 S.1.length))) (FP.i2d (nI S.1.length)))) else f9)) := by
  have hb := h.1
  have hn := h.st.len
  refine zCtH_of (by decide +kernel) h0 [(0, .ref (za g b)), (1, .ref (za g c9))] rfl (Nat.le_of_ble_eq_true rfl) ?_
  refine zh_aload_n dL_meanLevel_0 rfl ?_
  refine zh_iconst (v := nI 0) dL_meanLevel_1 rfl ?_
  refine zh_aload_n dL_meanLevel_2 rfl ?_
  refine zh_callV (As := []) (rest := [.int (nI (0)), .ref (za g c9)]) (b := b) (ci := 11) (R2 := zR 4 1) dL_meanLevel_3 kV_RL_110 rfl ⟨⟨by decide, by decide⟩, by decide, by decide⟩ (by omega) h.ce rfl rfl rfl (Nat.le_of_ble_eq_true rfl) rfl (c_X12_meanLevel h0 h1 h) (fun E w1 hp => ?_) (fun v w1 hp => ?_)
  · obtain ⟨ho, hf, hx⟩ := hp
    obtain ⟨hF, hE⟩ := zAns_r ho
    have hk : (if S.1.length = 0 then 5 else 0) = 5 := by revert hF; (try simp only [spF, fPass, fRest, fIv, fMod, fRep, fPas, fMark, fWin]); (repeat' split) <;> first | (intro hF; omega) | simp
    refine ⟨10, by rw [hE, hk]; exact ⟨0, 0, 7, 114, "java/lang/ArithmeticException", rfl, ⟨by decide, by decide⟩, by decide, lk_114, ca_5, fun j hj => absurd hj (Nat.not_lt_zero j)⟩, fun q9 => ?_⟩
    refine zh_astore_n (lv' := [(0, .ref (za g b)), (1, .ref (za g c9)), (2, .ref (q9))]) dL_meanLevel_10 (by decide) rfl ?_
    refine zh_iconst (v := nI 1) dL_meanLevel_11 rfl ?_
    refine zh_iret dL_meanLevel_12 rfl (by decide) (by decide) ?_
    exact ⟨by rw [hk]; rfl, fun k hk _ => hf k hk, hx, by rw [if_neg hF]; exact (hf _ (by omega)).trans hw9⟩
  · obtain ⟨ho, hf, hx⟩ := hp
    obtain ⟨hF, hv⟩ := zAns_l ho
    subst hv
    have hn0 : S.1.length ≠ 0 := fun z => by rw [if_pos z] at hF; exact absurd hF (by decide)
    have hw8 : w1 c9 = zQ g f9 := (hf _ (by omega)).trans hw9
    refine zh_dast_n dL_meanLevel_6 hc9 hw8 ?_
    refine zh_goto (tgt := 13) dL_meanLevel_7 (by decide) ?_
    refine zh_iconst (v := nI 0) dL_meanLevel_13 rfl ?_
    refine zh_iret dL_meanLevel_14 rfl (by decide) (by decide) ?_
    refine ⟨by rw [hF]; rfl, fun k hk hk2 => ?_, hx.fr (zFr.up (lo := c9) (hi := c9 + 1) (by omega)) (by omega), ?_⟩
    · rw [zup_n (by omega)]; exact hf k hk
    · rw [zup_s, if_pos hF]
set_option maxRecDepth 100000 in
set_option maxHeartbeats 4000000 in
theorem c_L_restShare {g : zGT} {w : zW} {b c9 : Nat} {S : zSt} {Hs : List zSt} {Sn : Option zSt} {I O : List Nat} {ep fc : Int32} {f9 : Nat → UInt64} (h0 : zG0 g) (h1 : zST g) (hN : zNC g) (h : Rx g w b S Hs Sn I O ep fc) (hc9 : c9 < zn g) (hbc : b + 101 ≤ c9) (hw9 : w c9 = zQ g f9) : zCtH g mL_restShare hL_restShare (zR 9 2) [.ref (za g b), .ref (za g c9)] w (fun o w' => o = .inl (some (.int (nI (rwP [5] (if S.1.length = 0 then 5 else 0))))) ∧ zFo w w' b c9 ∧ Rx g w' b S Hs Sn I O ep fc ∧ w' c9 = zQ g (if (if S.1.length = 0 then 5 else 0) = 0 then vf_upd f9 0 (FP.f2d (FP.fdiv (FP.i2f (nI (zcnt (fun k => decide (gT S.1 k = 0)) 0 S.1.length))) (FP.i2f (nI S.1.length)))) else f9)) := by
  have hb := h.1
  have hn := h.st.len
  refine zCtH_of (by decide +kernel) h0 [(0, .ref (za g b)), (1, .ref (za g c9))] rfl (Nat.le_of_ble_eq_true rfl) ?_
  refine zh_aload_n dL_restShare_0 rfl ?_
  refine zh_iconst (v := nI 0) dL_restShare_1 rfl ?_
  refine zh_aload_n dL_restShare_2 rfl ?_
  refine zh_callV (As := []) (rest := [.int (nI (0)), .ref (za g c9)]) (b := b) (ci := 11) (R2 := zR 4 1) dL_restShare_3 kV_RL_116 rfl ⟨⟨by decide, by decide⟩, by decide, by decide⟩ (by omega) h.ce rfl rfl rfl (Nat.le_of_ble_eq_true rfl) rfl (c_X12_restShare h0 h1 h) (fun E w1 hp => ?_) (fun v w1 hp => ?_)
  · obtain ⟨ho, hf, hx⟩ := hp
    obtain ⟨hF, hE⟩ := zAns_r ho
    have hk : (if S.1.length = 0 then 5 else 0) = 5 := by revert hF; (try simp only [spF, fPass, fRest, fIv, fMod, fRep, fPas, fMark, fWin]); (repeat' split) <;> first | (intro hF; omega) | simp
    refine ⟨11, by rw [hE, hk]; exact ⟨0, 0, 8, 114, "java/lang/ArithmeticException", rfl, ⟨by decide, by decide⟩, by decide, lk_114, ca_5, fun j hj => absurd hj (Nat.not_lt_zero j)⟩, fun q9 => ?_⟩
    refine zh_astore_n (lv' := [(0, .ref (za g b)), (1, .ref (za g c9)), (2, .ref (q9))]) dL_restShare_11 (by decide) rfl ?_
    refine zh_iconst (v := nI 1) dL_restShare_12 rfl ?_
    refine zh_iret dL_restShare_13 rfl (by decide) (by decide) ?_
    exact ⟨by rw [hk]; rfl, fun k hk _ => hf k hk, hx, by rw [if_neg hF]; exact (hf _ (by omega)).trans hw9⟩
  · obtain ⟨ho, hf, hx⟩ := hp
    obtain ⟨hF, hv⟩ := zAns_l ho
    subst hv
    have hn0 : S.1.length ≠ 0 := fun z => by rw [if_pos z] at hF; exact absurd hF (by decide)
    refine zh_f2d dL_restShare_6 (f2d_ok (fdiv_ok' (by omega) (by omega))) ?_
    have hw8 : w1 c9 = zQ g f9 := (hf _ (by omega)).trans hw9
    refine zh_dast_n dL_restShare_7 hc9 hw8 ?_
    refine zh_goto (tgt := 14) dL_restShare_8 (by decide) ?_
    refine zh_iconst (v := nI 0) dL_restShare_14 rfl ?_
    refine zh_iret dL_restShare_15 rfl (by decide) (by decide) ?_
    refine ⟨by rw [hF]; rfl, fun k hk hk2 => ?_, hx.fr (zFr.up (lo := c9) (hi := c9 + 1) (by omega)) (by omega), ?_⟩
    · rw [zup_n (by omega)]; exact hf k hk
    · rw [zup_s, if_pos hF]
set_option maxRecDepth 100000 in
set_option maxHeartbeats 4000000 in
theorem c_L_outputAt {g : zGT} {w : zW} {b c9 : Nat} {S : zSt} {Hs : List zSt} {Sn : Option zSt} {I O : List Nat} {ep fc : Int32} {f9 : Nat → Int64} {x : Int32} (h0 : zG0 g) (h1 : zST g) (hN : zNC g) (h : Rx g w b S Hs Sn I O ep fc) (hc9 : c9 < zn g) (hbc : b + 101 ≤ c9) (hw9 : w c9 = zJ g f9) : zCtH g mL_outputAt hL_outputAt (zR 9 2) [.ref (za g b), .int (x), .ref (za g c9)] w (fun o w' => o = .inl (some (.int (nI (rwP [1] (if 0 ≤ x.toInt ∧ x.toInt < O.length then 0 else 1))))) ∧ zFo w w' b c9 ∧ Rx g w' b S Hs Sn I O ep fc ∧ w' c9 = zJ g (if (if 0 ≤ x.toInt ∧ x.toInt < O.length then 0 else 1) = 0 then vp_updL f9 0 ((nI (O.getD x.toInt.toNat 0)).toInt64) else f9)) := by
  have hb := h.1
  have hn := h.st.len
  refine zCtH_of (by decide +kernel) h0 [(0, .ref (za g b)), (1, .int (x)), (2, .ref (za g c9))] rfl (Nat.le_of_ble_eq_true rfl) ?_
  refine zh_aload_n dL_outputAt_0 rfl ?_
  refine zh_iconst (v := nI 0) dL_outputAt_1 rfl ?_
  refine zh_aload_n dL_outputAt_2 rfl ?_
  refine zh_iload_n dL_outputAt_3 rfl ?_
  refine zh_callV (As := [.int (x)]) (rest := [.int (nI (0)), .ref (za g c9)]) (b := b) (ci := 11) (R2 := zR 2 1) dL_outputAt_4 kV_RL_120 rfl ⟨⟨by decide, by decide⟩, by decide, by decide⟩ (by omega) h.ce rfl rfl rfl (Nat.le_of_ble_eq_true rfl) rfl (c_X12_outputAt h0 h1 h) (fun E w1 hp => ?_) (fun v w1 hp => ?_)
  · obtain ⟨ho, hf, hx⟩ := hp
    obtain ⟨hF, hE⟩ := zAns_r ho
    have hk : (if 0 ≤ x.toInt ∧ x.toInt < O.length then 0 else 1) = 1 := by revert hF; (try simp only [spF, fPass, fRest, fIv, fMod, fRep, fPas, fMark, fWin]); (repeat' split) <;> first | (intro hF; omega) | simp
    refine ⟨12, by rw [hE, hk]; exact ⟨0, 0, 9, 21, "java/lang/IndexOutOfBoundsException", rfl, ⟨by decide, by decide⟩, by decide, lk_21, ca_1, fun j hj => absurd hj (Nat.not_lt_zero j)⟩, fun q9 => ?_⟩
    refine zh_astore_n (lv' := [(0, .ref (za g b)), (1, .int (x)), (2, .ref (za g c9)), (3, .ref (q9))]) dL_outputAt_12 (by decide) rfl ?_
    refine zh_iconst (v := nI 1) dL_outputAt_13 rfl ?_
    refine zh_iret dL_outputAt_14 rfl (by decide) (by decide) ?_
    exact ⟨by rw [hk]; rfl, fun k hk _ => hf k hk, hx, by rw [if_neg hF]; exact (hf _ (by omega)).trans hw9⟩
  · obtain ⟨ho, hf, hx⟩ := hp
    obtain ⟨hF, hv⟩ := zAns_l ho
    subst hv
    refine zh_i2l dL_outputAt_7 ?_
    have hw8 : w1 c9 = zJ g f9 := (hf _ (by omega)).trans hw9
    refine zh_last_n dL_outputAt_8 hc9 hw8 ?_
    refine zh_goto (tgt := 15) dL_outputAt_9 (by decide) ?_
    refine zh_iconst (v := nI 0) dL_outputAt_15 rfl ?_
    refine zh_iret dL_outputAt_16 rfl (by decide) (by decide) ?_
    refine ⟨by rw [hF]; rfl, fun k hk hk2 => ?_, hx.fr (zFr.up (lo := c9) (hi := c9 + 1) (by omega)) (by omega), ?_⟩
    · rw [zup_n (by omega)]; exact hf k hk
    · rw [zup_s, if_pos hF]
set_option maxRecDepth 100000 in
set_option maxHeartbeats 4000000 in
theorem c_L_type {g : zGT} {w : zW} {b c9 : Nat} {S : zSt} {Hs : List zSt} {Sn : Option zSt} {I O : List Nat} {ep fc : Int32} {f9 : Nat → Int64} {c : Nat} (h0 : zG0 g) (h1 : zST g) (hN : zNC g) (h : Rx g w b S Hs Sn I O ep fc) (hc9 : c9 < zn g) (hbc : b + 101 ≤ c9) (hw9 : w c9 = zJ g f9) (hc : c < 65536) : zCtH g mL_type hL_type (zR 9 2) [.ref (za g b), .int (nI (c)), .ref (za g c9)] w (fun o w' => o = .inl (some (.int (nI (rwP [2, 3] (if 32 ≤ c ∧ c ≤ 126 then (if I.length < 60 then 0 else 3) else 2))))) ∧ zFo w w' b c9 ∧ Rx g w' b S Hs Sn (if (if 32 ≤ c ∧ c ≤ 126 then (if I.length < 60 then 0 else 3) else 2) = 0 then I ++ [c] else I) O ep fc ∧ w' c9 = zJ g (if (if 32 ≤ c ∧ c ≤ 126 then (if I.length < 60 then 0 else 3) else 2) = 0 then vp_updL f9 0 ((nI (I.length + 1)).toInt64) else f9)) := by
  have hb := h.1
  have hn := h.st.len
  refine zCtH_of (by decide +kernel) h0 [(0, .ref (za g b)), (1, .int (nI (c))), (2, .ref (za g c9))] rfl (Nat.le_of_ble_eq_true rfl) ?_
  refine zh_aload_n dL_type_0 rfl ?_
  refine zh_iconst (v := nI 0) dL_type_1 rfl ?_
  refine zh_aload_n dL_type_2 rfl ?_
  refine zh_iload_n dL_type_3 rfl ?_
  refine zh_callV (As := [.int (nI (c))]) (rest := [.int (nI (0)), .ref (za g c9)]) (b := b) (ci := 11) (R2 := zR 2 2) dL_type_4 kV_RL_124 rfl ⟨⟨by decide, by decide⟩, by decide, by decide⟩ (by omega) h.ce rfl rfl rfl (Nat.le_of_ble_eq_true rfl) rfl (c_X12_type h0 h1 h hc) (fun E w1 hp => ?_) (fun v w1 hp => ?_)
  · obtain ⟨ho, hf, hx⟩ := hp
    obtain ⟨hF, hE⟩ := zAns_r ho
    have hk : (if 32 ≤ c ∧ c ≤ 126 then (if I.length < 60 then 0 else 3) else 2) = 2 ∨ (if 32 ≤ c ∧ c ≤ 126 then (if I.length < 60 then 0 else 3) else 2) = 3 := by revert hF; (try simp only [spF, fPass, fRest, fIv, fMod, fRep, fPas, fMark, fWin]); (repeat' split) <;> first | (intro hF; omega) | simp
    rcases hk with hk | hk
    · refine ⟨12, by rw [hE, hk]; exact ⟨0, 0, 9, 13, "java/lang/IllegalArgumentException", rfl, ⟨by decide, by decide⟩, by decide, lk_13, ca_2, fun j hj => absurd hj (Nat.not_lt_zero j)⟩, fun q9 => ?_⟩
      refine zh_astore_n (lv' := [(0, .ref (za g b)), (1, .int (nI (c))), (2, .ref (za g c9)), (3, .ref (q9))]) dL_type_12 (by decide) rfl ?_
      refine zh_iconst (v := nI 1) dL_type_13 rfl ?_
      refine zh_iret dL_type_14 rfl (by decide) (by decide) ?_
      exact ⟨by rw [hk]; rfl, fun k hk _ => hf k hk, hx, by rw [if_neg hF]; exact (hf _ (by omega)).trans hw9⟩
    · refine ⟨15, by rw [hE, hk]; exact ⟨1, 0, 9, 15, "java/lang/IllegalStateException", rfl, ⟨by decide, by decide⟩, by decide, lk_15, ca_3, fun j hj => by (obtain rfl : j = 0 := by omega); exact ⟨0, 9, 12, 13, "java/lang/IllegalArgumentException", rfl, by decide, lk_13, hN 3 2 (by decide) (by decide) (by decide) (by decide) (by decide)⟩⟩, fun q9 => ?_⟩
      refine zh_astore_n (lv' := [(0, .ref (za g b)), (1, .int (nI (c))), (2, .ref (za g c9)), (3, .ref (q9))]) dL_type_15 (by decide) rfl ?_
      refine zh_iconst (v := nI 2) dL_type_16 rfl ?_
      refine zh_iret dL_type_17 rfl (by decide) (by decide) ?_
      exact ⟨by rw [hk]; rfl, fun k hk _ => hf k hk, hx, by rw [if_neg hF]; exact (hf _ (by omega)).trans hw9⟩
  · obtain ⟨ho, hf, hx⟩ := hp
    obtain ⟨hF, hv⟩ := zAns_l ho
    subst hv
    refine zh_i2l dL_type_7 ?_
    have hw8 : w1 c9 = zJ g f9 := (hf _ (by omega)).trans hw9
    refine zh_last_n dL_type_8 hc9 hw8 ?_
    refine zh_goto (tgt := 18) dL_type_9 (by decide) ?_
    refine zh_iconst (v := nI 0) dL_type_18 rfl ?_
    refine zh_iret dL_type_19 rfl (by decide) (by decide) ?_
    refine ⟨by rw [hF]; rfl, fun k hk hk2 => ?_, hx.fr (zFr.up (lo := c9) (hi := c9 + 1) (by omega)) (by omega), ?_⟩
    · rw [zup_n (by omega)]; exact hf k hk
    · rw [zup_s, if_pos hF]
set_option maxRecDepth 100000 in
set_option maxHeartbeats 4000000 in
theorem c_L_load {g : zGT} {w : zW} {b c9 : Nat} {S : zSt} {Hs : List zSt} {Sn : Option zSt} {I O : List Nat} {ep fc : Int32} {f9 : Nat → Int64} (h0 : zG0 g) (h1 : zST g) (hN : zNC g) (h : Rx g w b S Hs Sn I O ep fc) (hc9 : c9 < zn g) (hbc : b + 101 ≤ c9) (hw9 : w c9 = zJ g f9) : zCtH g mL_load hL_load (zR 9 2) [.ref (za g b), .ref (za g c9)] w (fun o w' => o = .inl (some (.int (nI (rwP [2, 3] (if (pNota I).2.2.2 = 0 then (if 200 < (pNota I).2.1 then 3 else 0) else 2))))) ∧ zFo w w' b c9 ∧ Rx g w' b (if (if (pNota I).2.2.2 = 0 then (if 200 < (pNota I).2.1 then 3 else 0) else 2) = 0 then ((pNota I).1, [], S.2.2) else S) (if (if (pNota I).2.2.2 = 0 then (if 200 < (pNota I).2.1 then 3 else 0) else 2) = 0 then (S :: Hs).take 8 else Hs) Sn [] O (if (pNota I).2.2.2 = 0 then ep else nI (pNota I).2.2.1) fc ∧ w' c9 = zJ g (if (if (pNota I).2.2.2 = 0 then (if 200 < (pNota I).2.1 then 3 else 0) else 2) = 0 then vp_updL f9 0 ((nI (pNota I).1.length).toInt64) else f9)) := by
  have hb := h.1
  have hn := h.st.len
  refine zCtH_of (by decide +kernel) h0 [(0, .ref (za g b)), (1, .ref (za g c9))] rfl (Nat.le_of_ble_eq_true rfl) ?_
  refine zh_aload_n dL_load_0 rfl ?_
  refine zh_iconst (v := nI 0) dL_load_1 rfl ?_
  refine zh_aload_n dL_load_2 rfl ?_
  refine zh_callV (As := []) (rest := [.int (nI (0)), .ref (za g c9)]) (b := b) (ci := 11) (R2 := zR 6 2) dL_load_3 kV_RL_128 rfl ⟨⟨by decide, by decide⟩, by decide, by decide⟩ (by omega) h.ce rfl rfl rfl (Nat.le_of_ble_eq_true rfl) rfl (c_X12_load h0 h1 h) (fun E w1 hp => ?_) (fun v w1 hp => ?_)
  · obtain ⟨ho, hf, hx⟩ := hp
    obtain ⟨hF, hE⟩ := zAns_r ho
    have hk : (if (pNota I).2.2.2 = 0 then (if 200 < (pNota I).2.1 then 3 else 0) else 2) = 2 ∨ (if (pNota I).2.2.2 = 0 then (if 200 < (pNota I).2.1 then 3 else 0) else 2) = 3 := by revert hF; (try simp only [spF, fPass, fRest, fIv, fMod, fRep, fPas, fMark, fWin]); (repeat' split) <;> first | (intro hF; omega) | simp
    rcases hk with hk | hk
    · refine ⟨11, by rw [hE, hk]; exact ⟨0, 0, 8, 13, "java/lang/IllegalArgumentException", rfl, ⟨by decide, by decide⟩, by decide, lk_13, ca_2, fun j hj => absurd hj (Nat.not_lt_zero j)⟩, fun q9 => ?_⟩
      refine zh_astore_n (lv' := [(0, .ref (za g b)), (1, .ref (za g c9)), (2, .ref (q9))]) dL_load_11 (by decide) rfl ?_
      refine zh_iconst (v := nI 1) dL_load_12 rfl ?_
      refine zh_iret dL_load_13 rfl (by decide) (by decide) ?_
      exact ⟨by rw [hk]; rfl, fun k hk _ => hf k hk, hx, by rw [if_neg hF]; exact (hf _ (by omega)).trans hw9⟩
    · refine ⟨14, by rw [hE, hk]; exact ⟨1, 0, 8, 15, "java/lang/IllegalStateException", rfl, ⟨by decide, by decide⟩, by decide, lk_15, ca_3, fun j hj => by (obtain rfl : j = 0 := by omega); exact ⟨0, 8, 11, 13, "java/lang/IllegalArgumentException", rfl, by decide, lk_13, hN 3 2 (by decide) (by decide) (by decide) (by decide) (by decide)⟩⟩, fun q9 => ?_⟩
      refine zh_astore_n (lv' := [(0, .ref (za g b)), (1, .ref (za g c9)), (2, .ref (q9))]) dL_load_14 (by decide) rfl ?_
      refine zh_iconst (v := nI 2) dL_load_15 rfl ?_
      refine zh_iret dL_load_16 rfl (by decide) (by decide) ?_
      exact ⟨by rw [hk]; rfl, fun k hk _ => hf k hk, hx, by rw [if_neg hF]; exact (hf _ (by omega)).trans hw9⟩
  · obtain ⟨ho, hf, hx⟩ := hp
    obtain ⟨hF, hv⟩ := zAns_l ho
    subst hv
    refine zh_i2l dL_load_6 ?_
    have hw8 : w1 c9 = zJ g f9 := (hf _ (by omega)).trans hw9
    refine zh_last_n dL_load_7 hc9 hw8 ?_
    refine zh_goto (tgt := 17) dL_load_8 (by decide) ?_
    refine zh_iconst (v := nI 0) dL_load_17 rfl ?_
    refine zh_iret dL_load_18 rfl (by decide) (by decide) ?_
    refine ⟨by rw [hF]; rfl, fun k hk hk2 => ?_, hx.fr (zFr.up (lo := c9) (hi := c9 + 1) (by omega)) (by omega), ?_⟩
    · rw [zup_n (by omega)]; exact hf k hk
    · rw [zup_s, if_pos hF]
set_option maxRecDepth 100000 in
set_option maxHeartbeats 4000000 in
theorem c_L_runScript {g : zGT} {w : zW} {b c9 : Nat} {S : zSt} {Hs : List zSt} {Sn : Option zSt} {I O : List Nat} {ep fc : Int32} {f9 : Nat → Int64} (h0 : zG0 g) (h1 : zST g) (hN : zNC g) (h : Rx g w b S Hs Sn I O ep fc) (hc9 : c9 < zn g) (hbc : b + 101 ≤ c9) (hw9 : w c9 = zJ g f9) : zCtH g mL_runScript hL_runScript (zR 9 2) [.ref (za g b), .ref (za g c9)] w (fun o w' => o = .inl (some (.int (nI (rwP [2, 3] (if (pCmds I 60 0 []).2.2 = 0 then (if (scrGo (pCmds I 60 0 []).1 0 S).1 = -1 then 0 else 3) else 2))))) ∧ zFo w w' b c9 ∧ Rx g w' b (if (if (pCmds I 60 0 []).2.2 = 0 then (if (scrGo (pCmds I 60 0 []).1 0 S).1 = -1 then 0 else 3) else 2) = 0 then (scrGo (pCmds I 60 0 []).1 0 S).2 else S) (if (if (pCmds I 60 0 []).2.2 = 0 then (if (scrGo (pCmds I 60 0 []).1 0 S).1 = -1 then 0 else 3) else 2) = 0 then (S :: Hs).take 8 else Hs) Sn [] O (if (pCmds I 60 0 []).2.2 = 0 then ep else nI (pCmds I 60 0 []).2.1) (if (if (pCmds I 60 0 []).2.2 = 0 then (if (scrGo (pCmds I 60 0 []).1 0 S).1 = -1 then 0 else 3) else 2) = 3 then Int32.ofInt (scrGo (pCmds I 60 0 []).1 0 S).1 else fc) ∧ w' c9 = zJ g (if (if (pCmds I 60 0 []).2.2 = 0 then (if (scrGo (pCmds I 60 0 []).1 0 S).1 = -1 then 0 else 3) else 2) = 0 then vp_updL f9 0 ((nI (pCmds I 60 0 []).1.length).toInt64) else f9)) := by
  have hb := h.1
  have hn := h.st.len
  refine zCtH_of (by decide +kernel) h0 [(0, .ref (za g b)), (1, .ref (za g c9))] rfl (Nat.le_of_ble_eq_true rfl) ?_
  refine zh_aload_n dL_runScript_0 rfl ?_
  refine zh_iconst (v := nI 0) dL_runScript_1 rfl ?_
  refine zh_aload_n dL_runScript_2 rfl ?_
  refine zh_callV (As := []) (rest := [.int (nI (0)), .ref (za g c9)]) (b := b) (ci := 11) (R2 := zR 8 2) dL_runScript_3 kV_RL_131 rfl ⟨⟨by decide, by decide⟩, by decide, by decide⟩ (by omega) h.ce rfl rfl rfl (Nat.le_of_ble_eq_true rfl) rfl (c_X12_runScript h0 h1 h) (fun E w1 hp => ?_) (fun v w1 hp => ?_)
  · obtain ⟨ho, hf, hx⟩ := hp
    obtain ⟨hF, hE⟩ := zAns_r ho
    have hk : (if (pCmds I 60 0 []).2.2 = 0 then (if (scrGo (pCmds I 60 0 []).1 0 S).1 = -1 then 0 else 3) else 2) = 2 ∨ (if (pCmds I 60 0 []).2.2 = 0 then (if (scrGo (pCmds I 60 0 []).1 0 S).1 = -1 then 0 else 3) else 2) = 3 := by revert hF; (try simp only [spF, fPass, fRest, fIv, fMod, fRep, fPas, fMark, fWin]); (repeat' split) <;> first | (intro hF; omega) | simp
    rcases hk with hk | hk
    · refine ⟨11, by rw [hE, hk]; exact ⟨0, 0, 8, 13, "java/lang/IllegalArgumentException", rfl, ⟨by decide, by decide⟩, by decide, lk_13, ca_2, fun j hj => absurd hj (Nat.not_lt_zero j)⟩, fun q9 => ?_⟩
      refine zh_astore_n (lv' := [(0, .ref (za g b)), (1, .ref (za g c9)), (2, .ref (q9))]) dL_runScript_11 (by decide) rfl ?_
      refine zh_iconst (v := nI 1) dL_runScript_12 rfl ?_
      refine zh_iret dL_runScript_13 rfl (by decide) (by decide) ?_
      exact ⟨by rw [hk]; rfl, fun k hk _ => hf k hk, hx, by rw [if_neg hF]; exact (hf _ (by omega)).trans hw9⟩
    · refine ⟨14, by rw [hE, hk]; exact ⟨1, 0, 8, 15, "java/lang/IllegalStateException", rfl, ⟨by decide, by decide⟩, by decide, lk_15, ca_3, fun j hj => by (obtain rfl : j = 0 := by omega); exact ⟨0, 8, 11, 13, "java/lang/IllegalArgumentException", rfl, by decide, lk_13, hN 3 2 (by decide) (by decide) (by decide) (by decide) (by decide)⟩⟩, fun q9 => ?_⟩
      refine zh_astore_n (lv' := [(0, .ref (za g b)), (1, .ref (za g c9)), (2, .ref (q9))]) dL_runScript_14 (by decide) rfl ?_
      refine zh_iconst (v := nI 2) dL_runScript_15 rfl ?_
      refine zh_iret dL_runScript_16 rfl (by decide) (by decide) ?_
      exact ⟨by rw [hk]; rfl, fun k hk _ => hf k hk, hx, by rw [if_neg hF]; exact (hf _ (by omega)).trans hw9⟩
  · obtain ⟨ho, hf, hx⟩ := hp
    obtain ⟨hF, hv⟩ := zAns_l ho
    subst hv
    refine zh_i2l dL_runScript_6 ?_
    have hw8 : w1 c9 = zJ g f9 := (hf _ (by omega)).trans hw9
    refine zh_last_n dL_runScript_7 hc9 hw8 ?_
    refine zh_goto (tgt := 17) dL_runScript_8 (by decide) ?_
    refine zh_iconst (v := nI 0) dL_runScript_17 rfl ?_
    refine zh_iret dL_runScript_18 rfl (by decide) (by decide) ?_
    refine ⟨by rw [hF]; rfl, fun k hk hk2 => ?_, hx.fr (zFr.up (lo := c9) (hi := c9 + 1) (by omega)) (by omega), ?_⟩
    · rw [zup_n (by omega)]; exact hf k hk
    · rw [zup_s, if_pos hF]
set_option maxRecDepth 100000 in
set_option maxHeartbeats 4000000 in
theorem c_L_errorPosition {g : zGT} {w : zW} {b c9 : Nat} {S : zSt} {Hs : List zSt} {Sn : Option zSt} {I O : List Nat} {ep fc : Int32} {f9 : Nat → Int64} (h0 : zG0 g) (h1 : zST g) (hN : zNC g) (h : Rx g w b S Hs Sn I O ep fc) (hc9 : c9 < zn g) (hbc : b + 101 ≤ c9) (hw9 : w c9 = zJ g f9) : zCtH g mL_errorPosition hL_errorPosition (zR 9 2) [.ref (za g b), .ref (za g c9)] w (fun o w' => o = .inl (some (.int (nI (rwP [4] (if ep.toInt = -1 then 4 else 0))))) ∧ zFo w w' b c9 ∧ Rx g w' b S Hs Sn I O ep fc ∧ w' c9 = zJ g (if (if ep.toInt = -1 then 4 else 0) = 0 then vp_updL f9 0 ((ep).toInt64) else f9)) := by
  have hb := h.1
  have hn := h.st.len
  refine zCtH_of (by decide +kernel) h0 [(0, .ref (za g b)), (1, .ref (za g c9))] rfl (Nat.le_of_ble_eq_true rfl) ?_
  refine zh_aload_n dL_errorPosition_0 rfl ?_
  refine zh_iconst (v := nI 0) dL_errorPosition_1 rfl ?_
  refine zh_aload_n dL_errorPosition_2 rfl ?_
  refine zh_callV (As := []) (rest := [.int (nI (0)), .ref (za g c9)]) (b := b) (ci := 11) (R2 := zR 2 1) dL_errorPosition_3 kV_RL_134 rfl ⟨⟨by decide, by decide⟩, by decide, by decide⟩ (by omega) h.ce rfl rfl rfl (Nat.le_of_ble_eq_true rfl) rfl (c_X12_errorPosition h0 h1 h) (fun E w1 hp => ?_) (fun v w1 hp => ?_)
  · obtain ⟨ho, hf, hx⟩ := hp
    obtain ⟨hF, hE⟩ := zAns_r ho
    have hk : (if ep.toInt = -1 then 4 else 0) = 4 := by revert hF; (try simp only [spF, fPass, fRest, fIv, fMod, fRep, fPas, fMark, fWin]); (repeat' split) <;> first | (intro hF; omega) | simp
    refine ⟨11, by rw [hE, hk]; exact ⟨0, 0, 8, 46, "java/util/NoSuchElementException", rfl, ⟨by decide, by decide⟩, by decide, lk_46, ca_4, fun j hj => absurd hj (Nat.not_lt_zero j)⟩, fun q9 => ?_⟩
    refine zh_astore_n (lv' := [(0, .ref (za g b)), (1, .ref (za g c9)), (2, .ref (q9))]) dL_errorPosition_11 (by decide) rfl ?_
    refine zh_iconst (v := nI 1) dL_errorPosition_12 rfl ?_
    refine zh_iret dL_errorPosition_13 rfl (by decide) (by decide) ?_
    exact ⟨by rw [hk]; rfl, fun k hk _ => hf k hk, hx, by rw [if_neg hF]; exact (hf _ (by omega)).trans hw9⟩
  · obtain ⟨ho, hf, hx⟩ := hp
    obtain ⟨hF, hv⟩ := zAns_l ho
    subst hv
    refine zh_i2l dL_errorPosition_6 ?_
    have hw8 : w1 c9 = zJ g f9 := (hf _ (by omega)).trans hw9
    refine zh_last_n dL_errorPosition_7 hc9 hw8 ?_
    refine zh_goto (tgt := 14) dL_errorPosition_8 (by decide) ?_
    refine zh_iconst (v := nI 0) dL_errorPosition_14 rfl ?_
    refine zh_iret dL_errorPosition_15 rfl (by decide) (by decide) ?_
    refine ⟨by rw [hF]; rfl, fun k hk hk2 => ?_, hx.fr (zFr.up (lo := c9) (hi := c9 + 1) (by omega)) (by omega), ?_⟩
    · rw [zup_n (by omega)]; exact hf k hk
    · rw [zup_s, if_pos hF]
set_option maxRecDepth 100000 in
set_option maxHeartbeats 4000000 in
theorem c_L_failedCommand {g : zGT} {w : zW} {b c9 : Nat} {S : zSt} {Hs : List zSt} {Sn : Option zSt} {I O : List Nat} {ep fc : Int32} {f9 : Nat → Int64} (h0 : zG0 g) (h1 : zST g) (hN : zNC g) (h : Rx g w b S Hs Sn I O ep fc) (hc9 : c9 < zn g) (hbc : b + 101 ≤ c9) (hw9 : w c9 = zJ g f9) : zCtH g mL_failedCommand hL_failedCommand (zR 9 2) [.ref (za g b), .ref (za g c9)] w (fun o w' => o = .inl (some (.int (nI (rwP [4] (if fc.toInt = -1 then 4 else 0))))) ∧ zFo w w' b c9 ∧ Rx g w' b S Hs Sn I O ep fc ∧ w' c9 = zJ g (if (if fc.toInt = -1 then 4 else 0) = 0 then vp_updL f9 0 ((fc).toInt64) else f9)) := by
  have hb := h.1
  have hn := h.st.len
  refine zCtH_of (by decide +kernel) h0 [(0, .ref (za g b)), (1, .ref (za g c9))] rfl (Nat.le_of_ble_eq_true rfl) ?_
  refine zh_aload_n dL_failedCommand_0 rfl ?_
  refine zh_iconst (v := nI 0) dL_failedCommand_1 rfl ?_
  refine zh_aload_n dL_failedCommand_2 rfl ?_
  refine zh_callV (As := []) (rest := [.int (nI (0)), .ref (za g c9)]) (b := b) (ci := 11) (R2 := zR 2 1) dL_failedCommand_3 kV_RL_137 rfl ⟨⟨by decide, by decide⟩, by decide, by decide⟩ (by omega) h.ce rfl rfl rfl (Nat.le_of_ble_eq_true rfl) rfl (c_X12_failedCommand h0 h1 h) (fun E w1 hp => ?_) (fun v w1 hp => ?_)
  · obtain ⟨ho, hf, hx⟩ := hp
    obtain ⟨hF, hE⟩ := zAns_r ho
    have hk : (if fc.toInt = -1 then 4 else 0) = 4 := by revert hF; (try simp only [spF, fPass, fRest, fIv, fMod, fRep, fPas, fMark, fWin]); (repeat' split) <;> first | (intro hF; omega) | simp
    refine ⟨11, by rw [hE, hk]; exact ⟨0, 0, 8, 46, "java/util/NoSuchElementException", rfl, ⟨by decide, by decide⟩, by decide, lk_46, ca_4, fun j hj => absurd hj (Nat.not_lt_zero j)⟩, fun q9 => ?_⟩
    refine zh_astore_n (lv' := [(0, .ref (za g b)), (1, .ref (za g c9)), (2, .ref (q9))]) dL_failedCommand_11 (by decide) rfl ?_
    refine zh_iconst (v := nI 1) dL_failedCommand_12 rfl ?_
    refine zh_iret dL_failedCommand_13 rfl (by decide) (by decide) ?_
    exact ⟨by rw [hk]; rfl, fun k hk _ => hf k hk, hx, by rw [if_neg hF]; exact (hf _ (by omega)).trans hw9⟩
  · obtain ⟨ho, hf, hx⟩ := hp
    obtain ⟨hF, hv⟩ := zAns_l ho
    subst hv
    refine zh_i2l dL_failedCommand_6 ?_
    have hw8 : w1 c9 = zJ g f9 := (hf _ (by omega)).trans hw9
    refine zh_last_n dL_failedCommand_7 hc9 hw8 ?_
    refine zh_goto (tgt := 14) dL_failedCommand_8 (by decide) ?_
    refine zh_iconst (v := nI 0) dL_failedCommand_14 rfl ?_
    refine zh_iret dL_failedCommand_15 rfl (by decide) (by decide) ?_
    refine ⟨by rw [hF]; rfl, fun k hk hk2 => ?_, hx.fr (zFr.up (lo := c9) (hi := c9 + 1) (by omega)) (by omega), ?_⟩
    · rw [zup_n (by omega)]; exact hf k hk
    · rw [zup_s, if_pos hF]
set_option maxRecDepth 100000 in
set_option maxHeartbeats 4000000 in
theorem c_L_undo {g : zGT} {w : zW} {b c9 : Nat} {S : zSt} {Hs : List zSt} {Sn : Option zSt} {I O : List Nat} {ep fc : Int32} {f9 : Nat → Int64} (h0 : zG0 g) (h1 : zST g) (hN : zNC g) (h : Rx g w b S Hs Sn I O ep fc) (hc9 : c9 < zn g) (hbc : b + 101 ≤ c9) (hw9 : w c9 = zJ g f9) : zCtH g mL_undo hL_undo (zR 9 2) [.ref (za g b), .ref (za g c9)] w (fun o w' => o = .inl (some (.int (nI (rwP [3] (if Hs.length = 0 then 3 else 0))))) ∧ zFo w w' b c9 ∧ Rx g w' b (Hs.headD S) Hs.tail Sn I O ep fc ∧ w' c9 = zJ g (if (if Hs.length = 0 then 3 else 0) = 0 then vp_updL f9 0 ((nI Hs.tail.length).toInt64) else f9)) := by
  have hb := h.1
  have hn := h.st.len
  refine zCtH_of (by decide +kernel) h0 [(0, .ref (za g b)), (1, .ref (za g c9))] rfl (Nat.le_of_ble_eq_true rfl) ?_
  refine zh_aload_n dL_undo_0 rfl ?_
  refine zh_iconst (v := nI 0) dL_undo_1 rfl ?_
  refine zh_aload_n dL_undo_2 rfl ?_
  refine zh_callV (As := []) (rest := [.int (nI (0)), .ref (za g c9)]) (b := b) (ci := 11) (R2 := zR 5 1) dL_undo_3 kV_RL_140 rfl ⟨⟨by decide, by decide⟩, by decide, by decide⟩ (by omega) h.ce rfl rfl rfl (Nat.le_of_ble_eq_true rfl) rfl (c_X12_undo h0 h1 h) (fun E w1 hp => ?_) (fun v w1 hp => ?_)
  · obtain ⟨ho, hf, hx⟩ := hp
    obtain ⟨hF, hE⟩ := zAns_r ho
    have hk : (if Hs.length = 0 then 3 else 0) = 3 := by revert hF; (try simp only [spF, fPass, fRest, fIv, fMod, fRep, fPas, fMark, fWin]); (repeat' split) <;> first | (intro hF; omega) | simp
    refine ⟨11, by rw [hE, hk]; exact ⟨0, 0, 8, 15, "java/lang/IllegalStateException", rfl, ⟨by decide, by decide⟩, by decide, lk_15, ca_3, fun j hj => absurd hj (Nat.not_lt_zero j)⟩, fun q9 => ?_⟩
    refine zh_astore_n (lv' := [(0, .ref (za g b)), (1, .ref (za g c9)), (2, .ref (q9))]) dL_undo_11 (by decide) rfl ?_
    refine zh_iconst (v := nI 1) dL_undo_12 rfl ?_
    refine zh_iret dL_undo_13 rfl (by decide) (by decide) ?_
    exact ⟨by rw [hk]; rfl, fun k hk _ => hf k hk, hx, by rw [if_neg hF]; exact (hf _ (by omega)).trans hw9⟩
  · obtain ⟨ho, hf, hx⟩ := hp
    obtain ⟨hF, hv⟩ := zAns_l ho
    subst hv
    refine zh_i2l dL_undo_6 ?_
    have hw8 : w1 c9 = zJ g f9 := (hf _ (by omega)).trans hw9
    refine zh_last_n dL_undo_7 hc9 hw8 ?_
    refine zh_goto (tgt := 14) dL_undo_8 (by decide) ?_
    refine zh_iconst (v := nI 0) dL_undo_14 rfl ?_
    refine zh_iret dL_undo_15 rfl (by decide) (by decide) ?_
    refine ⟨by rw [hF]; rfl, fun k hk hk2 => ?_, hx.fr (zFr.up (lo := c9) (hi := c9 + 1) (by omega)) (by omega), ?_⟩
    · rw [zup_n (by omega)]; exact hf k hk
    · rw [zup_s, if_pos hF]
set_option maxRecDepth 100000 in
set_option maxHeartbeats 4000000 in
theorem c_L_restore {g : zGT} {w : zW} {b c9 : Nat} {S : zSt} {Hs : List zSt} {Sn : Option zSt} {I O : List Nat} {ep fc : Int32} {f9 : Nat → Int64} (h0 : zG0 g) (h1 : zST g) (hN : zNC g) (h : Rx g w b S Hs Sn I O ep fc) (hc9 : c9 < zn g) (hbc : b + 101 ≤ c9) (hw9 : w c9 = zJ g f9) : zCtH g mL_restore hL_restore (zR 9 2) [.ref (za g b), .ref (za g c9)] w (fun o w' => o = .inl (some (.int (nI (rwP [3] (if Sn.isSome then 0 else 3))))) ∧ zFo w w' b c9 ∧ Rx g w' b (Sn.getD S) (if Sn.isSome then [] else Hs) Sn I O ep fc ∧ w' c9 = zJ g (if (if Sn.isSome then 0 else 3) = 0 then vp_updL f9 0 ((nI (Sn.getD S).1.length).toInt64) else f9)) := by
  have hb := h.1
  have hn := h.st.len
  refine zCtH_of (by decide +kernel) h0 [(0, .ref (za g b)), (1, .ref (za g c9))] rfl (Nat.le_of_ble_eq_true rfl) ?_
  refine zh_aload_n dL_restore_0 rfl ?_
  refine zh_iconst (v := nI 0) dL_restore_1 rfl ?_
  refine zh_aload_n dL_restore_2 rfl ?_
  refine zh_callV (As := []) (rest := [.int (nI (0)), .ref (za g c9)]) (b := b) (ci := 11) (R2 := zR 4 1) dL_restore_3 kV_RL_143 rfl ⟨⟨by decide, by decide⟩, by decide, by decide⟩ (by omega) h.ce rfl rfl rfl (Nat.le_of_ble_eq_true rfl) rfl (c_X12_restore h0 h1 h) (fun E w1 hp => ?_) (fun v w1 hp => ?_)
  · obtain ⟨ho, hf, hx⟩ := hp
    obtain ⟨hF, hE⟩ := zAns_r ho
    have hk : (if Sn.isSome then 0 else 3) = 3 := by revert hF; (try simp only [spF, fPass, fRest, fIv, fMod, fRep, fPas, fMark, fWin]); (repeat' split) <;> first | (intro hF; omega) | simp
    refine ⟨11, by rw [hE, hk]; exact ⟨0, 0, 8, 15, "java/lang/IllegalStateException", rfl, ⟨by decide, by decide⟩, by decide, lk_15, ca_3, fun j hj => absurd hj (Nat.not_lt_zero j)⟩, fun q9 => ?_⟩
    refine zh_astore_n (lv' := [(0, .ref (za g b)), (1, .ref (za g c9)), (2, .ref (q9))]) dL_restore_11 (by decide) rfl ?_
    refine zh_iconst (v := nI 1) dL_restore_12 rfl ?_
    refine zh_iret dL_restore_13 rfl (by decide) (by decide) ?_
    exact ⟨by rw [hk]; rfl, fun k hk _ => hf k hk, hx, by rw [if_neg hF]; exact (hf _ (by omega)).trans hw9⟩
  · obtain ⟨ho, hf, hx⟩ := hp
    obtain ⟨hF, hv⟩ := zAns_l ho
    subst hv
    refine zh_i2l dL_restore_6 ?_
    have hw8 : w1 c9 = zJ g f9 := (hf _ (by omega)).trans hw9
    refine zh_last_n dL_restore_7 hc9 hw8 ?_
    refine zh_goto (tgt := 14) dL_restore_8 (by decide) ?_
    refine zh_iconst (v := nI 0) dL_restore_14 rfl ?_
    refine zh_iret dL_restore_15 rfl (by decide) (by decide) ?_
    refine ⟨by rw [hF]; rfl, fun k hk hk2 => ?_, hx.fr (zFr.up (lo := c9) (hi := c9 + 1) (by omega)) (by omega), ?_⟩
    · rw [zup_n (by omega)]; exact hf k hk
    · rw [zup_s, if_pos hF]
