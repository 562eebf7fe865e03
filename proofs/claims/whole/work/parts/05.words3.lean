theorem iz_RX1 : ∀ w ∈ u_ws RX1 TX1 4, w ∈ ztb := by
  rw [show u_ws RX1 TX1 4 = [Cond.lays RX1 "RailTimeline$Command" "verb" "LRailTimeline$Verb;", Cond.lays RX1 "RailTimeline$Command" "first" "I", Cond.lays RX1 "RailTimeline$Command" "second" "I", Cond.lays RX1 "RailTimeline$Command" "third" "I"] from rfl]
  exact (List.forall_mem_cons.mpr ⟨(tb_1 (i := 172) (by decide +kernel) rfl), (List.forall_mem_cons.mpr ⟨(tb_1 (i := 174) (by decide +kernel) rfl), (List.forall_mem_cons.mpr ⟨(tb_1 (i := 176) (by decide +kernel) rfl), (List.forall_mem_cons.mpr ⟨(tb_1 (i := 178) (by decide +kernel) rfl), (fun _ h => nomatch h)⟩)⟩)⟩)⟩)
theorem zt_2_0 : zFT 2 0 (.object "RailTimeline$Verb") := ⟨RX1, TX1, 4, tyX1, rfl, tyX1_ok, nmX1, rfl, by decide +kernel⟩
theorem zt_2_1 : zFT 2 1 .int := ⟨RX1, TX1, 4, tyX1, rfl, tyX1_ok, nmX1, rfl, by decide +kernel⟩
theorem zt_2_2 : zFT 2 2 .int := ⟨RX1, TX1, 4, tyX1, rfl, tyX1_ok, nmX1, rfl, by decide +kernel⟩
theorem zt_2_3 : zFT 2 3 .int := ⟨RX1, TX1, 4, tyX1, rfl, tyX1_ok, nmX1, rfl, by decide +kernel⟩
theorem iz_RX3 : ∀ w ∈ u_ws RX3 TX3 3, w ∈ ztb := by
  rw [show u_ws RX3 TX3 3 = [Cond.laysFinal RX3 "RailTimeline$History" "ring" "[LRailTimeline$State;", Cond.lays RX3 "RailTimeline$History" "next" "I", Cond.lays RX3 "RailTimeline$History" "count" "I"] from rfl]
  exact (List.forall_mem_cons.mpr ⟨(tb_1 (i := 100) (by decide +kernel) rfl), (List.forall_mem_cons.mpr ⟨(tb_1 (i := 102) (by decide +kernel) rfl), (List.forall_mem_cons.mpr ⟨(tb_1 (i := 104) (by decide +kernel) rfl), (fun _ h => nomatch h)⟩)⟩)⟩)
theorem zt_3_1 : zFT 3 1 .int := ⟨RX3, TX3, 3, tyX3, rfl, tyX3_ok, nmX3, rfl, by decide +kernel⟩
theorem zt_3_2 : zFT 3 2 .int := ⟨RX3, TX3, 3, tyX3, rfl, tyX3_ok, nmX3, rfl, by decide +kernel⟩
theorem iz_RX4 : ∀ w ∈ u_ws RX4 TX4 4, w ∈ ztb := by
  rw [show u_ws RX4 TX4 4 = [Cond.laysFinal RX4 "RailTimeline$Input" "text" "[C", Cond.lays RX4 "RailTimeline$Input" "length" "I", Cond.lays RX4 "RailTimeline$Input" "position" "I", Cond.lays RX4 "RailTimeline$Input" "broken" "Z"] from rfl]
  exact (List.forall_mem_cons.mpr ⟨(tb_1 (i := 136) (by decide +kernel) rfl), (List.forall_mem_cons.mpr ⟨(tb_1 (i := 138) (by decide +kernel) rfl), (List.forall_mem_cons.mpr ⟨(tb_1 (i := 140) (by decide +kernel) rfl), (List.forall_mem_cons.mpr ⟨(tb_1 (i := 142) (by decide +kernel) rfl), (fun _ h => nomatch h)⟩)⟩)⟩)⟩)
theorem zt_4_1 : zFT 4 1 .int := ⟨RX4, TX4, 4, tyX4, rfl, tyX4_ok, nmX4, rfl, by decide +kernel⟩
theorem zt_4_2 : zFT 4 2 .int := ⟨RX4, TX4, 4, tyX4, rfl, tyX4_ok, nmX4, rfl, by decide +kernel⟩
theorem zt_4_3 : zFT 4 3 .boolean := ⟨RX4, TX4, 4, tyX4, rfl, tyX4_ok, nmX4, rfl, by decide +kernel⟩
theorem iz_RX5 : ∀ w ∈ u_ws RX5 TX5 2, w ∈ ztb := by
  rw [show u_ws RX5 TX5 2 = [Cond.laysFinal RX5 "RailTimeline$Levels" "row" "[I", Cond.lays RX5 "RailTimeline$Levels" "size" "I"] from rfl]
  exact (List.forall_mem_cons.mpr ⟨(tb_1 (i := 52) (by decide +kernel) rfl), (List.forall_mem_cons.mpr ⟨(tb_1 (i := 54) (by decide +kernel) rfl), (fun _ h => nomatch h)⟩)⟩)
theorem zt_5_1 : zFT 5 1 .int := ⟨RX5, TX5, 2, tyX5, rfl, tyX5_ok, nmX5, rfl, by decide +kernel⟩
theorem iz_RX6 : ∀ w ∈ u_ws RX6 TX6 2, w ∈ ztb := by
  rw [show u_ws RX6 TX6 2 = [Cond.laysFinal RX6 "RailTimeline$Markers" "times" "[I", Cond.lays RX6 "RailTimeline$Markers" "count" "I"] from rfl]
  exact (List.forall_mem_cons.mpr ⟨(tb_1 (i := 66) (by decide +kernel) rfl), (List.forall_mem_cons.mpr ⟨(tb_1 (i := 68) (by decide +kernel) rfl), (fun _ h => nomatch h)⟩)⟩)
theorem zt_6_1 : zFT 6 1 .int := ⟨RX6, TX6, 2, tyX6, rfl, tyX6_ok, nmX6, rfl, by decide +kernel⟩
theorem iz_RX7 : ∀ w ∈ u_ws RX7 TX7 2, w ∈ ztb := by
  rw [show u_ws RX7 TX7 2 = [Cond.laysFinal RX7 "RailTimeline$Output" "text" "[C", Cond.lays RX7 "RailTimeline$Output" "length" "I"] from rfl]
  exact (List.forall_mem_cons.mpr ⟨(tb_1 (i := 196) (by decide +kernel) rfl), (List.forall_mem_cons.mpr ⟨(tb_1 (i := 198) (by decide +kernel) rfl), (fun _ h => nomatch h)⟩)⟩)
theorem zt_7_1 : zFT 7 1 .int := ⟨RX7, TX7, 2, tyX7, rfl, tyX7_ok, nmX7, rfl, by decide +kernel⟩
theorem iz_RX8 : ∀ w ∈ u_ws RX8 TX8 4, w ∈ ztb := by
  rw [show u_ws RX8 TX8 4 = [Cond.laysFinal RX8 "RailTimeline$Runs" "starts" "[I", Cond.laysFinal RX8 "RailTimeline$Runs" "lengths" "[I", Cond.laysFinal RX8 "RailTimeline$Runs" "levels" "[I", Cond.lays RX8 "RailTimeline$Runs" "count" "I"] from rfl]
  exact (List.forall_mem_cons.mpr ⟨(tb_1 (i := 117) (by decide +kernel) rfl), (List.forall_mem_cons.mpr ⟨(tb_1 (i := 119) (by decide +kernel) rfl), (List.forall_mem_cons.mpr ⟨(tb_1 (i := 121) (by decide +kernel) rfl), (List.forall_mem_cons.mpr ⟨(tb_1 (i := 123) (by decide +kernel) rfl), (fun _ h => nomatch h)⟩)⟩)⟩)⟩)
theorem zt_8_3 : zFT 8 3 .int := ⟨RX8, TX8, 4, tyX8, rfl, tyX8_ok, nmX8, rfl, by decide +kernel⟩
theorem iz_RX9 : ∀ w ∈ u_ws RX9 TX9 2, w ∈ ztb := by
  rw [show u_ws RX9 TX9 2 = [Cond.laysFinal RX9 "RailTimeline$Script" "commands" "[LRailTimeline$Command;", Cond.lays RX9 "RailTimeline$Script" "count" "I"] from rfl]
  exact (List.forall_mem_cons.mpr ⟨(tb_1 (i := 183) (by decide +kernel) rfl), (List.forall_mem_cons.mpr ⟨(tb_1 (i := 185) (by decide +kernel) rfl), (fun _ h => nomatch h)⟩)⟩)
theorem zt_9_1 : zFT 9 1 .int := ⟨RX9, TX9, 2, tyX9, rfl, tyX9_ok, nmX9, rfl, by decide +kernel⟩
theorem iz_RX10 : ∀ w ∈ u_ws RX10 TX10 4, w ∈ ztb := by
  rw [show u_ws RX10 TX10 4 = [Cond.laysFinal RX10 "RailTimeline$State" "timeline" "LRailTimeline$Levels;", Cond.laysFinal RX10 "RailTimeline$State" "markers" "LRailTimeline$Markers;", Cond.laysFinal RX10 "RailTimeline$State" "clipboard" "LRailTimeline$Levels;", Cond.lays RX10 "RailTimeline$State" "trains" "I"] from rfl]
  exact (List.forall_mem_cons.mpr ⟨(tb_1 (i := 79) (by decide +kernel) rfl), (List.forall_mem_cons.mpr ⟨(tb_1 (i := 81) (by decide +kernel) rfl), (List.forall_mem_cons.mpr ⟨(tb_1 (i := 83) (by decide +kernel) rfl), (List.forall_mem_cons.mpr ⟨(tb_1 (i := 85) (by decide +kernel) rfl), (fun _ h => nomatch h)⟩)⟩)⟩)⟩)
theorem zt_10_3 : zFT 10 3 .int := ⟨RX10, TX10, 4, tyX10, rfl, tyX10_ok, nmX10, rfl, by decide +kernel⟩
theorem iz_RX12 : ∀ w ∈ u_ws RX12 TX12 13, w ∈ ztb := by
  rw [show u_ws RX12 TX12 13 = [Cond.laysFinal RX12 "RailTimeline" "state" "LRailTimeline$State;", Cond.laysFinal RX12 "RailTimeline" "before" "LRailTimeline$State;", Cond.laysFinal RX12 "RailTimeline" "snapshot" "LRailTimeline$State;", Cond.laysFinal RX12 "RailTimeline" "history" "LRailTimeline$History;", Cond.laysFinal RX12 "RailTimeline" "runs" "LRailTimeline$Runs;", Cond.laysFinal RX12 "RailTimeline" "failure" "[I", Cond.laysFinal RX12 "RailTimeline" "input" "LRailTimeline$Input;", Cond.laysFinal RX12 "RailTimeline" "loaded" "LRailTimeline$Levels;", Cond.laysFinal RX12 "RailTimeline" "script" "LRailTimeline$Script;", Cond.laysFinal RX12 "RailTimeline" "output" "LRailTimeline$Output;", Cond.lays RX12 "RailTimeline" "hasSnapshot" "Z", Cond.lays RX12 "RailTimeline" "latestErrorPosition" "I", Cond.lays RX12 "RailTimeline" "latestFailedCommand" "I"] from rfl]
  exact (List.forall_mem_cons.mpr ⟨(tb_1 (i := 214) (by decide +kernel) rfl), (List.forall_mem_cons.mpr ⟨(tb_1 (i := 216) (by decide +kernel) rfl), (List.forall_mem_cons.mpr ⟨(tb_1 (i := 218) (by decide +kernel) rfl), (List.forall_mem_cons.mpr ⟨(tb_1 (i := 220) (by decide +kernel) rfl), (List.forall_mem_cons.mpr ⟨(tb_1 (i := 222) (by decide +kernel) rfl), (List.forall_mem_cons.mpr ⟨(tb_1 (i := 224) (by decide +kernel) rfl), (List.forall_mem_cons.mpr ⟨(tb_1 (i := 226) (by decide +kernel) rfl), (List.forall_mem_cons.mpr ⟨(tb_1 (i := 228) (by decide +kernel) rfl), (List.forall_mem_cons.mpr ⟨(tb_1 (i := 230) (by decide +kernel) rfl), (List.forall_mem_cons.mpr ⟨(tb_1 (i := 232) (by decide +kernel) rfl), (List.forall_mem_cons.mpr ⟨(tb_1 (i := 234) (by decide +kernel) rfl), (List.forall_mem_cons.mpr ⟨(tb_1 (i := 236) (by decide +kernel) rfl), (List.forall_mem_cons.mpr ⟨(tb_1 (i := 238) (by decide +kernel) rfl), (fun _ h => nomatch h)⟩)⟩)⟩)⟩)⟩)⟩)⟩)⟩)⟩)⟩)⟩)⟩)⟩)
theorem zt_11_10 : zFT 11 10 .boolean := ⟨RX12, TX12, 13, tyX12, rfl, tyX12_ok, nmX12, rfl, by decide +kernel⟩
theorem zt_11_11 : zFT 11 11 .int := ⟨RX12, TX12, 13, tyX12, rfl, tyX12_ok, nmX12, rfl, by decide +kernel⟩
theorem zt_11_12 : zFT 11 12 .int := ⟨RX12, TX12, 13, tyX12, rfl, tyX12_ok, nmX12, rfl, by decide +kernel⟩
theorem iz_RX13 : ∀ w ∈ u_ws RX13 TX13 22, w ∈ ztb := by
  rw [show u_ws RX13 TX13 22 = [Cond.lays RX13 "RailTimelineModel" "thrown" "I", Cond.lays RX13 "RailTimelineModel" "changes" "I", Cond.lays RX13 "RailTimelineModel" "errorAt" "I", Cond.lays RX13 "RailTimelineModel" "failedAt" "I", Cond.lays RX13 "RailTimelineModel" "isSaved" "Z", Cond.laysFinal RX13 "RailTimelineModel" "v" "[I", Cond.laysFinal RX13 "RailTimelineModel" "before" "[I", Cond.laysFinal RX13 "RailTimelineModel" "saved" "[I", Cond.laysFinal RX13 "RailTimelineModel" "past" "[I", Cond.laysFinal RX13 "RailTimelineModel" "held" "[I", Cond.laysFinal RX13 "RailTimelineModel" "text" "[I", Cond.laysFinal RX13 "RailTimelineModel" "line" "[I", Cond.laysFinal RX13 "RailTimelineModel" "isLeft" "[I", Cond.laysFinal RX13 "RailTimelineModel" "words" "[I", Cond.laysFinal RX13 "RailTimelineModel" "wordAt" "[I", Cond.lays RX13 "RailTimelineModel" "textN" "I", Cond.lays RX13 "RailTimelineModel" "here" "I", Cond.lays RX13 "RailTimelineModel" "end" "I", Cond.lays RX13 "RailTimelineModel" "lineN" "I", Cond.lays RX13 "RailTimelineModel" "heldN" "I", Cond.lays RX13 "RailTimelineModel" "isWrong" "Z", Cond.lays RX13 "RailTimelineModel" "isDoing" "Z"] from rfl]
  exact (List.forall_mem_cons.mpr ⟨(tb_6 (i := 229) (by decide +kernel) rfl), (List.forall_mem_cons.mpr ⟨(tb_6 (i := 231) (by decide +kernel) rfl), (List.forall_mem_cons.mpr ⟨(tb_6 (i := 233) (by decide +kernel) rfl), (List.forall_mem_cons.mpr ⟨(tb_6 (i := 235) (by decide +kernel) rfl), (List.forall_mem_cons.mpr ⟨(tb_6 (i := 237) (by decide +kernel) rfl), (List.forall_mem_cons.mpr ⟨(tb_6 (i := 239) (by decide +kernel) rfl), (List.forall_mem_cons.mpr ⟨(tb_7 (i := 1) (by decide +kernel) rfl), (List.forall_mem_cons.mpr ⟨(tb_7 (i := 3) (by decide +kernel) rfl), (List.forall_mem_cons.mpr ⟨(tb_7 (i := 5) (by decide +kernel) rfl), (List.forall_mem_cons.mpr ⟨(tb_7 (i := 7) (by decide +kernel) rfl), (List.forall_mem_cons.mpr ⟨(tb_7 (i := 9) (by decide +kernel) rfl), (List.forall_mem_cons.mpr ⟨(tb_7 (i := 11) (by decide +kernel) rfl), (List.forall_mem_cons.mpr ⟨(tb_7 (i := 13) (by decide +kernel) rfl), (List.forall_mem_cons.mpr ⟨(tb_7 (i := 15) (by decide +kernel) rfl), (List.forall_mem_cons.mpr ⟨(tb_7 (i := 17) (by decide +kernel) rfl), (List.forall_mem_cons.mpr ⟨(tb_7 (i := 19) (by decide +kernel) rfl), (List.forall_mem_cons.mpr ⟨(tb_7 (i := 21) (by decide +kernel) rfl), (List.forall_mem_cons.mpr ⟨(tb_7 (i := 23) (by decide +kernel) rfl), (List.forall_mem_cons.mpr ⟨(tb_7 (i := 25) (by decide +kernel) rfl), (List.forall_mem_cons.mpr ⟨(tb_7 (i := 27) (by decide +kernel) rfl), (List.forall_mem_cons.mpr ⟨(tb_7 (i := 29) (by decide +kernel) rfl), (List.forall_mem_cons.mpr ⟨(tb_7 (i := 31) (by decide +kernel) rfl), (fun _ h => nomatch h)⟩)⟩)⟩)⟩)⟩)⟩)⟩)⟩)⟩)⟩)⟩)⟩)⟩)⟩)⟩)⟩)⟩)⟩)⟩)⟩)⟩)⟩)
theorem zt_12_0 : zFT 12 0 .int := ⟨RX13, TX13, 22, tyX13, rfl, tyX13_ok, nmX13, rfl, by decide +kernel⟩
theorem zt_12_1 : zFT 12 1 .int := ⟨RX13, TX13, 22, tyX13, rfl, tyX13_ok, nmX13, rfl, by decide +kernel⟩
theorem zt_12_2 : zFT 12 2 .int := ⟨RX13, TX13, 22, tyX13, rfl, tyX13_ok, nmX13, rfl, by decide +kernel⟩
theorem zt_12_3 : zFT 12 3 .int := ⟨RX13, TX13, 22, tyX13, rfl, tyX13_ok, nmX13, rfl, by decide +kernel⟩
theorem zt_12_4 : zFT 12 4 .boolean := ⟨RX13, TX13, 22, tyX13, rfl, tyX13_ok, nmX13, rfl, by decide +kernel⟩
theorem zt_12_15 : zFT 12 15 .int := ⟨RX13, TX13, 22, tyX13, rfl, tyX13_ok, nmX13, rfl, by decide +kernel⟩
theorem zt_12_16 : zFT 12 16 .int := ⟨RX13, TX13, 22, tyX13, rfl, tyX13_ok, nmX13, rfl, by decide +kernel⟩
theorem zt_12_17 : zFT 12 17 .int := ⟨RX13, TX13, 22, tyX13, rfl, tyX13_ok, nmX13, rfl, by decide +kernel⟩
theorem zt_12_18 : zFT 12 18 .int := ⟨RX13, TX13, 22, tyX13, rfl, tyX13_ok, nmX13, rfl, by decide +kernel⟩
theorem zt_12_19 : zFT 12 19 .int := ⟨RX13, TX13, 22, tyX13, rfl, tyX13_ok, nmX13, rfl, by decide +kernel⟩
theorem zt_12_20 : zFT 12 20 .boolean := ⟨RX13, TX13, 22, tyX13, rfl, tyX13_ok, nmX13, rfl, by decide +kernel⟩
theorem zt_12_21 : zFT 12 21 .boolean := ⟨RX13, TX13, 22, tyX13, rfl, tyX13_ok, nmX13, rfl, by decide +kernel⟩
theorem kF_RX5_9 : zFL RX5 9 5 0 := ⟨RX5, TX5, 2, rfl, by decide, iz_RX5, (tb_1 (i := 50) (by decide +kernel) rfl)⟩
theorem kF_RX5_15 : zFL RX5 15 5 1 := ⟨RX5, TX5, 2, rfl, by decide, iz_RX5, (tb_1 (i := 51) (by decide +kernel) rfl)⟩
theorem kF_RX6_9 : zFL RX6 9 6 0 := ⟨RX6, TX6, 2, rfl, by decide, iz_RX6, (tb_1 (i := 64) (by decide +kernel) rfl)⟩
theorem kF_RX6_15 : zFL RX6 15 6 1 := ⟨RX6, TX6, 2, rfl, by decide, iz_RX6, (tb_1 (i := 65) (by decide +kernel) rfl)⟩
theorem kF_RX10_12 : zFL RX10 12 10 0 := ⟨RX10, TX10, 4, rfl, by decide, iz_RX10, (tb_1 (i := 71) (by decide +kernel) rfl)⟩
theorem kF_RX10_21 : zFL RX10 21 10 1 := ⟨RX10, TX10, 4, rfl, by decide, iz_RX10, (tb_1 (i := 73) (by decide +kernel) rfl)⟩
theorem kF_RX10_25 : zFL RX10 25 10 2 := ⟨RX10, TX10, 4, rfl, by decide, iz_RX10, (tb_1 (i := 75) (by decide +kernel) rfl)⟩
theorem kF_RX10_35 : zFL RX10 35 10 3 := ⟨RX10, TX10, 4, rfl, by decide, iz_RX10, (tb_1 (i := 77) (by decide +kernel) rfl)⟩
theorem kF_RX3_11 : zFL RX3 11 3 0 := ⟨RX3, TX3, 3, rfl, by decide, iz_RX3, (tb_1 (i := 97) (by decide +kernel) rfl)⟩
theorem kF_RX3_22 : zFL RX3 22 3 1 := ⟨RX3, TX3, 3, rfl, by decide, iz_RX3, (tb_1 (i := 98) (by decide +kernel) rfl)⟩
theorem kF_RX3_18 : zFL RX3 18 3 2 := ⟨RX3, TX3, 3, rfl, by decide, iz_RX3, (tb_1 (i := 99) (by decide +kernel) rfl)⟩
theorem kF_RX8_9 : zFL RX8 9 8 0 := ⟨RX8, TX8, 4, rfl, by decide, iz_RX8, (tb_1 (i := 113) (by decide +kernel) rfl)⟩
theorem kF_RX8_15 : zFL RX8 15 8 1 := ⟨RX8, TX8, 4, rfl, by decide, iz_RX8, (tb_1 (i := 114) (by decide +kernel) rfl)⟩
theorem kF_RX8_18 : zFL RX8 18 8 2 := ⟨RX8, TX8, 4, rfl, by decide, iz_RX8, (tb_1 (i := 115) (by decide +kernel) rfl)⟩
theorem kF_RX8_21 : zFL RX8 21 8 3 := ⟨RX8, TX8, 4, rfl, by decide, iz_RX8, (tb_1 (i := 116) (by decide +kernel) rfl)⟩
theorem kF_RX4_9 : zFL RX4 9 4 0 := ⟨RX4, TX4, 4, rfl, by decide, iz_RX4, (tb_1 (i := 132) (by decide +kernel) rfl)⟩
theorem kF_RX4_15 : zFL RX4 15 4 1 := ⟨RX4, TX4, 4, rfl, by decide, iz_RX4, (tb_1 (i := 133) (by decide +kernel) rfl)⟩
theorem kF_RX4_19 : zFL RX4 19 4 2 := ⟨RX4, TX4, 4, rfl, by decide, iz_RX4, (tb_1 (i := 134) (by decide +kernel) rfl)⟩
theorem kF_RX4_22 : zFL RX4 22 4 3 := ⟨RX4, TX4, 4, rfl, by decide, iz_RX4, (tb_1 (i := 135) (by decide +kernel) rfl)⟩
theorem kG_RX1_7 : Cond.fieldLink RX1 7 "RailTimeline$Verb" "PASS" "LRailTimeline$Verb;" ∈ ztb := (tb_1 (i := 161) (by decide +kernel) rfl)
theorem kF_RX1_13 : zFL RX1 13 2 0 := ⟨RX1, TX1, 4, rfl, by decide, iz_RX1, (tb_1 (i := 163) (by decide +kernel) rfl)⟩
theorem kF_RX9_11 : zFL RX9 11 9 0 := ⟨RX9, TX9, 2, rfl, by decide, iz_RX9, (tb_1 (i := 181) (by decide +kernel) rfl)⟩
theorem kF_RX9_18 : zFL RX9 18 9 1 := ⟨RX9, TX9, 2, rfl, by decide, iz_RX9, (tb_1 (i := 182) (by decide +kernel) rfl)⟩
theorem kF_RX7_9 : zFL RX7 9 7 0 := ⟨RX7, TX7, 2, rfl, by decide, iz_RX7, (tb_1 (i := 194) (by decide +kernel) rfl)⟩
theorem kF_RX7_15 : zFL RX7 15 7 1 := ⟨RX7, TX7, 2, rfl, by decide, iz_RX7, (tb_1 (i := 195) (by decide +kernel) rfl)⟩
theorem kF_RX12_12 : zFL RX12 12 11 0 := ⟨RX12, TX12, 13, rfl, by decide, iz_RX12, (tb_1 (i := 201) (by decide +kernel) rfl)⟩
theorem kF_RX12_16 : zFL RX12 16 11 1 := ⟨RX12, TX12, 13, rfl, by decide, iz_RX12, (tb_1 (i := 202) (by decide +kernel) rfl)⟩
theorem kF_RX12_19 : zFL RX12 19 11 2 := ⟨RX12, TX12, 13, rfl, by decide, iz_RX12, (tb_1 (i := 203) (by decide +kernel) rfl)⟩
theorem kF_RX12_25 : zFL RX12 25 11 3 := ⟨RX12, TX12, 13, rfl, by decide, iz_RX12, (tb_1 (i := 204) (by decide +kernel) rfl)⟩
theorem kF_RX12_32 : zFL RX12 32 11 4 := ⟨RX12, TX12, 13, rfl, by decide, iz_RX12, (tb_1 (i := 205) (by decide +kernel) rfl)⟩
theorem kF_RX12_36 : zFL RX12 36 11 5 := ⟨RX12, TX12, 13, rfl, by decide, iz_RX12, (tb_1 (i := 206) (by decide +kernel) rfl)⟩
theorem kF_RX12_43 : zFL RX12 43 11 6 := ⟨RX12, TX12, 13, rfl, by decide, iz_RX12, (tb_1 (i := 207) (by decide +kernel) rfl)⟩
theorem kF_RX12_50 : zFL RX12 50 11 7 := ⟨RX12, TX12, 13, rfl, by decide, iz_RX12, (tb_1 (i := 208) (by decide +kernel) rfl)⟩
theorem kF_RX12_57 : zFL RX12 57 11 8 := ⟨RX12, TX12, 13, rfl, by decide, iz_RX12, (tb_1 (i := 209) (by decide +kernel) rfl)⟩
theorem kF_RX12_64 : zFL RX12 64 11 9 := ⟨RX12, TX12, 13, rfl, by decide, iz_RX12, (tb_1 (i := 210) (by decide +kernel) rfl)⟩
theorem kF_RX12_433 : zFL RX12 433 11 10 := ⟨RX12, TX12, 13, rfl, by decide, iz_RX12, (tb_1 (i := 211) (by decide +kernel) rfl)⟩
theorem kF_RX12_68 : zFL RX12 68 11 11 := ⟨RX12, TX12, 13, rfl, by decide, iz_RX12, (tb_1 (i := 212) (by decide +kernel) rfl)⟩
theorem kF_RX12_72 : zFL RX12 72 11 12 := ⟨RX12, TX12, 13, rfl, by decide, iz_RX12, (tb_1 (i := 213) (by decide +kernel) rfl)⟩
theorem kG_RX12_112 : Cond.fieldLink RX12 112 "RailTimeline$Verb" "UNMARK" "LRailTimeline$Verb;" ∈ ztb := (tb_2 (i := 5) (by decide +kernel) rfl)
theorem kG_RX10_42 : Cond.fieldLink RX10 42 "RailTimeline$1" "$SwitchMap$RailTimeline$Verb" "[I" ∈ ztb := (tb_2 (i := 15) (by decide +kernel) rfl)
theorem kG_RX10_84 : Cond.fieldLink RX10 84 "RailTimeline$Fault" "ARGUMENT" "LRailTimeline$Fault;" ∈ ztb := (tb_2 (i := 26) (by decide +kernel) rfl)
theorem kG_RX10_87 : Cond.fieldLink RX10 87 "RailTimeline$Fault" "STATE" "LRailTimeline$Fault;" ∈ ztb := (tb_2 (i := 28) (by decide +kernel) rfl)
theorem kG_RX10_75 : Cond.fieldLink RX10 75 "RailTimeline$Fault" "NO_FAULT" "LRailTimeline$Fault;" ∈ ztb := (tb_2 (i := 30) (by decide +kernel) rfl)
theorem kG_RX10_94 : Cond.fieldLink RX10 94 "RailTimeline$Fault" "INDEX" "LRailTimeline$Fault;" ∈ ztb := (tb_2 (i := 44) (by decide +kernel) rfl)
theorem kG_RX10_107 : Cond.fieldLink RX10 107 "RailTimeline$Fault" "MISSING" "LRailTimeline$Fault;" ∈ ztb := (tb_2 (i := 66) (by decide +kernel) rfl)
theorem kG_RX12_130 : Cond.fieldLink RX12 130 "RailTimeline$Fault" "INDEX" "LRailTimeline$Fault;" ∈ ztb := (tb_2 (i := 91) (by decide +kernel) rfl)
theorem kG_RX12_143 : Cond.fieldLink RX12 143 "RailTimeline$Fault" "ARGUMENT" "LRailTimeline$Fault;" ∈ ztb := (tb_2 (i := 163) (by decide +kernel) rfl)
theorem kG_RX12_151 : Cond.fieldLink RX12 151 "RailTimeline$Fault" "STATE" "LRailTimeline$Fault;" ∈ ztb := (tb_2 (i := 180) (by decide +kernel) rfl)
theorem kG_RX12_159 : Cond.fieldLink RX12 159 "RailTimeline$Fault" "MISSING" "LRailTimeline$Fault;" ∈ ztb := (tb_2 (i := 197) (by decide +kernel) rfl)
theorem kG_RX12_75 : Cond.fieldLink RX12 75 "RailTimeline$Verb" "PASS" "LRailTimeline$Verb;" ∈ ztb := (tb_4 (i := 122) (by decide +kernel) rfl)
theorem kG_RX12_85 : Cond.fieldLink RX12 85 "RailTimeline$Verb" "REST" "LRailTimeline$Verb;" ∈ ztb := (tb_4 (i := 151) (by decide +kernel) rfl)
theorem kG_RX12_88 : Cond.fieldLink RX12 88 "RailTimeline$Verb" "REMOVE" "LRailTimeline$Verb;" ∈ ztb := (tb_4 (i := 160) (by decide +kernel) rfl)
theorem kG_RX12_91 : Cond.fieldLink RX12 91 "RailTimeline$Verb" "MUTE" "LRailTimeline$Verb;" ∈ ztb := (tb_4 (i := 169) (by decide +kernel) rfl)
theorem kG_RX12_94 : Cond.fieldLink RX12 94 "RailTimeline$Verb" "MODULATE" "LRailTimeline$Verb;" ∈ ztb := (tb_4 (i := 178) (by decide +kernel) rfl)
theorem kG_RX12_97 : Cond.fieldLink RX12 97 "RailTimeline$Verb" "REVERSE" "LRailTimeline$Verb;" ∈ ztb := (tb_4 (i := 187) (by decide +kernel) rfl)
theorem kG_RX12_100 : Cond.fieldLink RX12 100 "RailTimeline$Verb" "REPEAT" "LRailTimeline$Verb;" ∈ ztb := (tb_4 (i := 196) (by decide +kernel) rfl)
theorem kG_RX12_103 : Cond.fieldLink RX12 103 "RailTimeline$Verb" "COPY" "LRailTimeline$Verb;" ∈ ztb := (tb_4 (i := 205) (by decide +kernel) rfl)
theorem kG_RX12_106 : Cond.fieldLink RX12 106 "RailTimeline$Verb" "PASTE" "LRailTimeline$Verb;" ∈ ztb := (tb_4 (i := 215) (by decide +kernel) rfl)
theorem kG_RX12_109 : Cond.fieldLink RX12 109 "RailTimeline$Verb" "MARK" "LRailTimeline$Verb;" ∈ ztb := (tb_4 (i := 224) (by decide +kernel) rfl)
theorem kG_RX12_275 : Cond.fieldLink RX12 275 "RailTimeline$Fault" "NO_FAULT" "LRailTimeline$Fault;" ∈ ztb := (tb_5 (i := 111) (by decide +kernel) rfl)
theorem kG_RJ0_38 : Cond.fieldLink RJ0 38 "java/lang/String" "COMPACT_STRINGS" "Z" ∈ ztb := (tb_6 (i := 95) (by decide +kernel) rfl)
theorem kG_RJ0_1053 : Cond.fieldLink RJ0 1053 "jdk/internal/util/Preconditions" "SIOOBE_FORMATTER" "Ljava/util/function/BiFunction;" ∈ ztb := (tb_6 (i := 111) (by decide +kernel) rfl)
theorem kG_RJ2_44 : Cond.fieldLink RJ2 44 "java/lang/StringUTF16" "$assertionsDisabled" "Z" ∈ ztb := (tb_6 (i := 129) (by decide +kernel) rfl)
theorem kG_RJ2_59 : Cond.fieldLink RJ2 59 "java/lang/StringUTF16" "HI_BYTE_SHIFT" "I" ∈ ztb := (tb_6 (i := 131) (by decide +kernel) rfl)
theorem kG_RJ2_63 : Cond.fieldLink RJ2 63 "java/lang/StringUTF16" "LO_BYTE_SHIFT" "I" ∈ ztb := (tb_6 (i := 133) (by decide +kernel) rfl)
theorem kF_RX13_47 : zFL RX13 47 12 0 := ⟨RX13, TX13, 22, rfl, by decide, iz_RX13, (tb_6 (i := 207) (by decide +kernel) rfl)⟩
theorem kF_RX13_54 : zFL RX13 54 12 1 := ⟨RX13, TX13, 22, rfl, by decide, iz_RX13, (tb_6 (i := 208) (by decide +kernel) rfl)⟩
theorem kF_RX13_7 : zFL RX13 7 12 2 := ⟨RX13, TX13, 22, rfl, by decide, iz_RX13, (tb_6 (i := 209) (by decide +kernel) rfl)⟩
theorem kF_RX13_13 : zFL RX13 13 12 3 := ⟨RX13, TX13, 22, rfl, by decide, iz_RX13, (tb_6 (i := 210) (by decide +kernel) rfl)⟩
theorem kF_RX13_234 : zFL RX13 234 12 4 := ⟨RX13, TX13, 22, rfl, by decide, iz_RX13, (tb_6 (i := 211) (by decide +kernel) rfl)⟩
theorem kF_RX13_16 : zFL RX13 16 12 5 := ⟨RX13, TX13, 22, rfl, by decide, iz_RX13, (tb_6 (i := 212) (by decide +kernel) rfl)⟩
theorem kF_RX13_20 : zFL RX13 20 12 6 := ⟨RX13, TX13, 22, rfl, by decide, iz_RX13, (tb_6 (i := 213) (by decide +kernel) rfl)⟩
theorem kF_RX13_23 : zFL RX13 23 12 7 := ⟨RX13, TX13, 22, rfl, by decide, iz_RX13, (tb_6 (i := 214) (by decide +kernel) rfl)⟩
theorem kF_RX13_26 : zFL RX13 26 12 8 := ⟨RX13, TX13, 22, rfl, by decide, iz_RX13, (tb_6 (i := 215) (by decide +kernel) rfl)⟩
theorem kF_RX13_29 : zFL RX13 29 12 9 := ⟨RX13, TX13, 22, rfl, by decide, iz_RX13, (tb_6 (i := 216) (by decide +kernel) rfl)⟩
theorem kF_RX13_32 : zFL RX13 32 12 10 := ⟨RX13, TX13, 22, rfl, by decide, iz_RX13, (tb_6 (i := 217) (by decide +kernel) rfl)⟩
theorem kF_RX13_35 : zFL RX13 35 12 11 := ⟨RX13, TX13, 22, rfl, by decide, iz_RX13, (tb_6 (i := 218) (by decide +kernel) rfl)⟩
theorem kF_RX13_38 : zFL RX13 38 12 12 := ⟨RX13, TX13, 22, rfl, by decide, iz_RX13, (tb_6 (i := 219) (by decide +kernel) rfl)⟩
theorem kF_RX13_41 : zFL RX13 41 12 13 := ⟨RX13, TX13, 22, rfl, by decide, iz_RX13, (tb_6 (i := 220) (by decide +kernel) rfl)⟩
theorem kF_RX13_44 : zFL RX13 44 12 14 := ⟨RX13, TX13, 22, rfl, by decide, iz_RX13, (tb_6 (i := 221) (by decide +kernel) rfl)⟩
theorem kF_RX13_184 : zFL RX13 184 12 15 := ⟨RX13, TX13, 22, rfl, by decide, iz_RX13, (tb_6 (i := 222) (by decide +kernel) rfl)⟩
theorem kF_RX13_187 : zFL RX13 187 12 16 := ⟨RX13, TX13, 22, rfl, by decide, iz_RX13, (tb_6 (i := 223) (by decide +kernel) rfl)⟩
theorem kF_RX13_190 : zFL RX13 190 12 17 := ⟨RX13, TX13, 22, rfl, by decide, iz_RX13, (tb_6 (i := 224) (by decide +kernel) rfl)⟩
theorem kF_RX13_175 : zFL RX13 175 12 18 := ⟨RX13, TX13, 22, rfl, by decide, iz_RX13, (tb_6 (i := 225) (by decide +kernel) rfl)⟩
theorem kF_RX13_206 : zFL RX13 206 12 19 := ⟨RX13, TX13, 22, rfl, by decide, iz_RX13, (tb_6 (i := 226) (by decide +kernel) rfl)⟩
theorem kF_RX13_193 : zFL RX13 193 12 20 := ⟨RX13, TX13, 22, rfl, by decide, iz_RX13, (tb_6 (i := 227) (by decide +kernel) rfl)⟩
theorem kF_RX13_221 : zFL RX13 221 12 21 := ⟨RX13, TX13, 22, rfl, by decide, iz_RX13, (tb_6 (i := 228) (by decide +kernel) rfl)⟩
theorem kG_RJx29ce0_7 : Cond.fieldLink RJx29ce0 7 "java/lang/Enum" "ordinal" "I" ∈ ztb := (tb_8 (i := 229) (by decide +kernel) rfl)
theorem kG_RJ0_9 : Cond.fieldLink RJ0 9 "java/lang/String" "value" "[B" ∈ ztb := (tb_8 (i := 231) (by decide +kernel) rfl)
theorem kG_RJ0_15 : Cond.fieldLink RJ0 15 "java/lang/String" "coder" "B" ∈ ztb := (tb_8 (i := 232) (by decide +kernel) rfl)
theorem kN_RX12_167 : zFLN RX12 167 10 0 := ⟨RX10, TX10, 4, "RailTimeline", rfl, by decide, iz_RX10, (tl_1 (i := 72) (by decide +kernel))⟩
theorem kN_RX12_301 : zFLN RX12 301 10 1 := ⟨RX10, TX10, 4, "RailTimeline", rfl, by decide, iz_RX10, (tl_1 (i := 74) (by decide +kernel))⟩
theorem kN_RX12_325 : zFLN RX12 325 10 2 := ⟨RX10, TX10, 4, "RailTimeline", rfl, by decide, iz_RX10, (tl_1 (i := 76) (by decide +kernel))⟩
theorem kN_RX12_328 : zFLN RX12 328 10 3 := ⟨RX10, TX10, 4, "RailTimeline", rfl, by decide, iz_RX10, (tl_1 (i := 78) (by decide +kernel))⟩
theorem kN_RX9_26 : zFLN RX9 26 2 0 := ⟨RX1, TX1, 4, "RailTimeline", rfl, by decide, iz_RX1, (tl_1 (i := 164) (by decide +kernel))⟩
theorem kN_RX12_415 : zFLN RX12 415 2 0 := ⟨RX1, TX1, 4, "RailTimeline", rfl, by decide, iz_RX1, (tl_1 (i := 165) (by decide +kernel))⟩
theorem kN_RX9_30 : zFLN RX9 30 2 1 := ⟨RX1, TX1, 4, "RailTimeline", rfl, by decide, iz_RX1, (tl_1 (i := 166) (by decide +kernel))⟩
theorem kN_RX12_420 : zFLN RX12 420 2 1 := ⟨RX1, TX1, 4, "RailTimeline", rfl, by decide, iz_RX1, (tl_1 (i := 167) (by decide +kernel))⟩
theorem kN_RX9_33 : zFLN RX9 33 2 2 := ⟨RX1, TX1, 4, "RailTimeline", rfl, by decide, iz_RX1, (tl_1 (i := 168) (by decide +kernel))⟩
theorem kN_RX12_423 : zFLN RX12 423 2 2 := ⟨RX1, TX1, 4, "RailTimeline", rfl, by decide, iz_RX1, (tl_1 (i := 169) (by decide +kernel))⟩
theorem kN_RX9_36 : zFLN RX9 36 2 3 := ⟨RX1, TX1, 4, "RailTimeline", rfl, by decide, iz_RX1, (tl_1 (i := 170) (by decide +kernel))⟩
theorem kN_RX12_426 : zFLN RX12 426 2 3 := ⟨RX1, TX1, 4, "RailTimeline", rfl, by decide, iz_RX1, (tl_1 (i := 171) (by decide +kernel))⟩
theorem kH_RX4_86 : Cond.fieldLinkNest RX4 86 "RailTimeline" "VERBS" "[LRailTimeline$Verb;" "RailTimeline" ∈ lw_tbl := (tl_6 (i := 81) (by decide +kernel))
theorem kH_RX4_90 : Cond.fieldLinkNest RX4 90 "RailTimeline$Verb" "word" "Ljava/lang/String;" "RailTimeline" ∈ lw_tbl := (tl_8 (i := 230) (by decide +kernel))
theorem kH_RX4_71 : Cond.fieldLinkNest RX4 71 "RailTimeline$Verb" "numbers" "I" "RailTimeline" ∈ lw_tbl := (tl_8 (i := 233) (by decide +kernel))
theorem kH_RX4_76 : Cond.fieldLinkNest RX4 76 "RailTimeline$Verb" "isThirdSigned" "Z" "RailTimeline" ∈ lw_tbl := (tl_8 (i := 234) (by decide +kernel))
