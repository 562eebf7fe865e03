/-! the constructors: words, then a world and a contract each -/
theorem ko_in : Cond.instanceMethod Lib.objectInit ∈ ztb := (tb_1 (i := 36) (by decide +kernel) rfl)
theorem ko_co : Cond.code Lib.objectInit ⟨#[0xb1]⟩ 1 none ∈ ztb := (tb_1 (i := 37) (by decide +kernel) rfl)
theorem kI_X1 : yLK yX1_init cX1_init 1 := ⟨kc_mX1_init, (tb_1 (i := 158) (by decide +kernel) rfl), ki_RX1, rfl, by decide +kernel, by decide +kernel, by decide +kernel⟩
theorem kI_X3 : yLK yX3_init cX3_init 2 := ⟨kc_mX3_init, (tb_1 (i := 91) (by decide +kernel) rfl), ki_RX3, rfl, by decide +kernel, by decide +kernel, by decide +kernel⟩
theorem kI_X4 : yLK yX4_init cX4_init 1 := ⟨kc_mX4_init, (tb_1 (i := 129) (by decide +kernel) rfl), ki_RX4, rfl, by decide +kernel, by decide +kernel, by decide +kernel⟩
theorem kI_X5 : yLK yX5_init cX5_init 1 := ⟨kc_mX5_init, (tb_1 (i := 47) (by decide +kernel) rfl), ki_RX5, rfl, by decide +kernel, by decide +kernel, by decide +kernel⟩
theorem kI_X6 : yLK yX6_init cX6_init 1 := ⟨kc_mX6_init, (tb_1 (i := 61) (by decide +kernel) rfl), ki_RX6, rfl, by decide +kernel, by decide +kernel, by decide +kernel⟩
theorem kI_X7 : yLK yX7_init cX7_init 1 := ⟨kc_mX7_init, (tb_1 (i := 191) (by decide +kernel) rfl), ki_RX7, rfl, by decide +kernel, by decide +kernel, by decide +kernel⟩
theorem kI_X8 : yLK yX8_init cX8_init 1 := ⟨kc_mX8_init, (tb_1 (i := 110) (by decide +kernel) rfl), ki_RX8, rfl, by decide +kernel, by decide +kernel, by decide +kernel⟩
theorem kI_X9 : yLK yX9_init cX9_init 2 := ⟨kc_mX9_init, (tb_1 (i := 151) (by decide +kernel) rfl), ki_RX9, rfl, by decide +kernel, by decide +kernel, by decide +kernel⟩
theorem kI_X10 : yLK yX10_init cX10_init 1 := ⟨kc_mX10_init, (tb_1 (i := 41) (by decide +kernel) rfl), ki_RX10, rfl, by decide +kernel, by decide +kernel, by decide +kernel⟩
theorem kI_X12 : yLK yX12_init cX12_init 1 := ⟨kc_mX12_init, (tb_1 (i := 33) (by decide +kernel) rfl), ki_RX12, rfl, by decide +kernel, by decide +kernel, by decide +kernel⟩
theorem kI_X13 : yLK yX13_init cX13_init 1 := ⟨kc_mX13_init, (tb_6 (i := 204) (by decide +kernel) rfl), ki_RX13, rfl, by decide +kernel, by decide +kernel, by decide +kernel⟩
theorem kc_RL_8 : Cond.classLink RL 8 RX12 ∈ ztb := (tb_1 (i := 30) (by decide +kernel) rfl)
theorem kL_RL_8 : yNL RL 8 11 [.null, .null, .null, .null, .null, .null, .null, .null, .null, .null, .int 0, .int 0, .int 0] := ⟨RX12, TX12, tyX12, rfl, iz_RX12, tyX12_ok, kc_RL_8, (tb_1 (i := 31) (by decide +kernel) rfl), ki_RX12, fun j hj => by
  have hj : j < 13 := hj
  rcases (show j = 0 ∨ j = 1 ∨ j = 2 ∨ j = 3 ∨ j = 4 ∨ j = 5 ∨ j = 6 ∨ j = 7 ∨ j = 8 ∨ j = 9 ∨ j = 10 ∨ j = 11 ∨ j = 12 by omega) with rfl | rfl | rfl | rfl | rfl | rfl | rfl | rfl | rfl | rfl | rfl | rfl | rfl <;> rfl⟩
theorem kk_RL_146 : Cond.methodLink RL 146 yX12_init ∈ ztb := (tb_1 (i := 32) (by decide +kernel) rfl)
theorem ko_RX12 : Cond.methodLink RX12 3 Lib.objectInit ∈ ztb := (tb_1 (i := 35) (by decide +kernel) rfl)
theorem kc_RX12_9 : Cond.classLink RX12 9 RX10 ∈ ztb := (tb_1 (i := 38) (by decide +kernel) rfl)
theorem kL_RX12_9 : yNL RX12 9 10 [.null, .null, .null, .int 0] := ⟨RX10, TX10, tyX10, rfl, iz_RX10, tyX10_ok, kc_RX12_9, (tb_1 (i := 39) (by decide +kernel) rfl), ki_RX10, fun j hj => by
  have hj : j < 4 := hj
  rcases (show j = 0 ∨ j = 1 ∨ j = 2 ∨ j = 3 by omega) with rfl | rfl | rfl | rfl <;> rfl⟩
theorem kk_RX12_11 : Cond.methodLinkNest RX12 11 yX10_init "RailTimeline" ∈ lw_tbl := (tl_1 (i := 40) (by decide +kernel))
theorem ko_RX10 : Cond.methodLink RX10 3 Lib.objectInit ∈ ztb := (tb_1 (i := 43) (by decide +kernel) rfl)
theorem kc_RX10_9 : Cond.classLink RX10 9 RX5 ∈ ztb := (tb_1 (i := 44) (by decide +kernel) rfl)
theorem kL_RX10_9 : yNL RX10 9 5 [.null, .int 0] := ⟨RX5, TX5, tyX5, rfl, iz_RX5, tyX5_ok, kc_RX10_9, (tb_1 (i := 45) (by decide +kernel) rfl), ki_RX5, fun j hj => by
  have hj : j < 2 := hj
  rcases (show j = 0 ∨ j = 1 by omega) with rfl | rfl <;> rfl⟩
theorem kk_RX10_11 : Cond.methodLinkNest RX10 11 yX5_init "RailTimeline" ∈ lw_tbl := (tl_1 (i := 46) (by decide +kernel))
theorem ko_RX5 : Cond.methodLink RX5 3 Lib.objectInit ∈ ztb := (tb_1 (i := 49) (by decide +kernel) rfl)
theorem kc_RX10_18 : Cond.classLink RX10 18 RX6 ∈ ztb := (tb_1 (i := 58) (by decide +kernel) rfl)
theorem kL_RX10_18 : yNL RX10 18 6 [.null, .int 0] := ⟨RX6, TX6, tyX6, rfl, iz_RX6, tyX6_ok, kc_RX10_18, (tb_1 (i := 59) (by decide +kernel) rfl), ki_RX6, fun j hj => by
  have hj : j < 2 := hj
  rcases (show j = 0 ∨ j = 1 by omega) with rfl | rfl <;> rfl⟩
theorem kk_RX10_20 : Cond.methodLinkNest RX10 20 yX6_init "RailTimeline" ∈ lw_tbl := (tl_1 (i := 60) (by decide +kernel))
theorem ko_RX6 : Cond.methodLink RX6 3 Lib.objectInit ∈ ztb := (tb_1 (i := 63) (by decide +kernel) rfl)
theorem kc_RX12_22 : Cond.classLink RX12 22 RX3 ∈ ztb := (tb_1 (i := 88) (by decide +kernel) rfl)
theorem kL_RX12_22 : yNL RX12 22 3 [.null, .int 0, .int 0] := ⟨RX3, TX3, tyX3, rfl, iz_RX3, tyX3_ok, kc_RX12_22, (tb_1 (i := 89) (by decide +kernel) rfl), ki_RX3, fun j hj => by
  have hj : j < 3 := hj
  rcases (show j = 0 ∨ j = 1 ∨ j = 2 by omega) with rfl | rfl | rfl <;> rfl⟩
theorem kk_RX12_24 : Cond.methodLink RX12 24 yX3_init ∈ ztb := (tb_1 (i := 90) (by decide +kernel) rfl)
theorem ko_RX3 : Cond.methodLink RX3 3 Lib.objectInit ∈ ztb := (tb_1 (i := 93) (by decide +kernel) rfl)
theorem kc_RX3_9 : Cond.classLink RX3 9 RX10 ∈ ztb := (tb_1 (i := 94) (by decide +kernel) rfl)
theorem kL_RX3_9 : yNL RX3 9 10 [.null, .null, .null, .int 0] := ⟨RX10, TX10, tyX10, rfl, iz_RX10, tyX10_ok, kc_RX3_9, (tb_1 (i := 39) (by decide +kernel) rfl), ki_RX10, fun j hj => by
  have hj : j < 4 := hj
  rcases (show j = 0 ∨ j = 1 ∨ j = 2 ∨ j = 3 by omega) with rfl | rfl | rfl | rfl <;> rfl⟩
theorem kk_RX3_17 : Cond.methodLinkNest RX3 17 yX10_init "RailTimeline" ∈ lw_tbl := (tl_1 (i := 96) (by decide +kernel))
theorem kc_RX12_29 : Cond.classLink RX12 29 RX8 ∈ ztb := (tb_1 (i := 107) (by decide +kernel) rfl)
theorem kL_RX12_29 : yNL RX12 29 8 [.null, .null, .null, .int 0] := ⟨RX8, TX8, tyX8, rfl, iz_RX8, tyX8_ok, kc_RX12_29, (tb_1 (i := 108) (by decide +kernel) rfl), ki_RX8, fun j hj => by
  have hj : j < 4 := hj
  rcases (show j = 0 ∨ j = 1 ∨ j = 2 ∨ j = 3 by omega) with rfl | rfl | rfl | rfl <;> rfl⟩
theorem kk_RX12_31 : Cond.methodLinkNest RX12 31 yX8_init "RailTimeline" ∈ lw_tbl := (tl_1 (i := 109) (by decide +kernel))
theorem ko_RX8 : Cond.methodLink RX8 3 Lib.objectInit ∈ ztb := (tb_1 (i := 112) (by decide +kernel) rfl)
theorem kc_RX12_40 : Cond.classLink RX12 40 RX4 ∈ ztb := (tb_1 (i := 126) (by decide +kernel) rfl)
theorem kL_RX12_40 : yNL RX12 40 4 [.null, .int 0, .int 0, .int 0] := ⟨RX4, TX4, tyX4, rfl, iz_RX4, tyX4_ok, kc_RX12_40, (tb_1 (i := 127) (by decide +kernel) rfl), ki_RX4, fun j hj => by
  have hj : j < 4 := hj
  rcases (show j = 0 ∨ j = 1 ∨ j = 2 ∨ j = 3 by omega) with rfl | rfl | rfl | rfl <;> rfl⟩
theorem kk_RX12_42 : Cond.methodLinkNest RX12 42 yX4_init "RailTimeline" ∈ lw_tbl := (tl_1 (i := 128) (by decide +kernel))
theorem ko_RX4 : Cond.methodLink RX4 3 Lib.objectInit ∈ ztb := (tb_1 (i := 131) (by decide +kernel) rfl)
theorem kc_RX12_47 : Cond.classLink RX12 47 RX5 ∈ ztb := (tb_1 (i := 146) (by decide +kernel) rfl)
theorem kL_RX12_47 : yNL RX12 47 5 [.null, .int 0] := ⟨RX5, TX5, tyX5, rfl, iz_RX5, tyX5_ok, kc_RX12_47, (tb_1 (i := 45) (by decide +kernel) rfl), ki_RX5, fun j hj => by
  have hj : j < 2 := hj
  rcases (show j = 0 ∨ j = 1 by omega) with rfl | rfl <;> rfl⟩
theorem kk_RX12_49 : Cond.methodLinkNest RX12 49 yX5_init "RailTimeline" ∈ lw_tbl := (tl_1 (i := 147) (by decide +kernel))
theorem kc_RX12_54 : Cond.classLink RX12 54 RX9 ∈ ztb := (tb_1 (i := 148) (by decide +kernel) rfl)
theorem kL_RX12_54 : yNL RX12 54 9 [.null, .int 0] := ⟨RX9, TX9, tyX9, rfl, iz_RX9, tyX9_ok, kc_RX12_54, (tb_1 (i := 149) (by decide +kernel) rfl), ki_RX9, fun j hj => by
  have hj : j < 2 := hj
  rcases (show j = 0 ∨ j = 1 by omega) with rfl | rfl <;> rfl⟩
theorem kk_RX12_56 : Cond.methodLink RX12 56 yX9_init ∈ ztb := (tb_1 (i := 150) (by decide +kernel) rfl)
theorem ko_RX9 : Cond.methodLink RX9 3 Lib.objectInit ∈ ztb := (tb_1 (i := 153) (by decide +kernel) rfl)
theorem kc_RX9_9 : Cond.classLink RX9 9 RX1 ∈ ztb := (tb_1 (i := 154) (by decide +kernel) rfl)
theorem kL_RX9_9 : yNL RX9 9 2 [.null, .int 0, .int 0, .int 0] := ⟨RX1, TX1, tyX1, rfl, iz_RX1, tyX1_ok, kc_RX9_9, (tb_1 (i := 156) (by decide +kernel) rfl), ki_RX1, fun j hj => by
  have hj : j < 4 := hj
  rcases (show j = 0 ∨ j = 1 ∨ j = 2 ∨ j = 3 by omega) with rfl | rfl | rfl | rfl <;> rfl⟩
theorem kk_RX9_17 : Cond.methodLinkNest RX9 17 yX1_init "RailTimeline" ∈ lw_tbl := (tl_1 (i := 157) (by decide +kernel))
theorem ko_RX1 : Cond.methodLink RX1 1 Lib.objectInit ∈ ztb := (tb_1 (i := 160) (by decide +kernel) rfl)
theorem kc_RX12_61 : Cond.classLink RX12 61 RX7 ∈ ztb := (tb_1 (i := 188) (by decide +kernel) rfl)
theorem kL_RX12_61 : yNL RX12 61 7 [.null, .int 0] := ⟨RX7, TX7, tyX7, rfl, iz_RX7, tyX7_ok, kc_RX12_61, (tb_1 (i := 189) (by decide +kernel) rfl), ki_RX7, fun j hj => by
  have hj : j < 2 := hj
  rcases (show j = 0 ∨ j = 1 by omega) with rfl | rfl <;> rfl⟩
theorem kk_RX12_63 : Cond.methodLinkNest RX12 63 yX7_init "RailTimeline" ∈ lw_tbl := (tl_1 (i := 190) (by decide +kernel))
theorem ko_RX7 : Cond.methodLink RX7 3 Lib.objectInit ∈ ztb := (tb_1 (i := 193) (by decide +kernel) rfl)
theorem kc_RL_147 : Cond.classLink RL 147 RX13 ∈ ztb := (tb_6 (i := 201) (by decide +kernel) rfl)
theorem kL_RL_147 : yNL RL 147 12 [.int 0, .int 0, .int 0, .int 0, .int 0, .null, .null, .null, .null, .null, .null, .null, .null, .null, .null, .int 0, .int 0, .int 0, .int 0, .int 0, .int 0, .int 0] := ⟨RX13, TX13, tyX13, rfl, iz_RX13, tyX13_ok, kc_RL_147, (tb_6 (i := 202) (by decide +kernel) rfl), ki_RX13, fun j hj => by
  have hj : j < 22 := hj
  rcases (show j = 0 ∨ j = 1 ∨ j = 2 ∨ j = 3 ∨ j = 4 ∨ j = 5 ∨ j = 6 ∨ j = 7 ∨ j = 8 ∨ j = 9 ∨ j = 10 ∨ j = 11 ∨ j = 12 ∨ j = 13 ∨ j = 14 ∨ j = 15 ∨ j = 16 ∨ j = 17 ∨ j = 18 ∨ j = 19 ∨ j = 20 ∨ j = 21 by omega) with rfl | rfl | rfl | rfl | rfl | rfl | rfl | rfl | rfl | rfl | rfl | rfl | rfl | rfl | rfl | rfl | rfl | rfl | rfl | rfl | rfl | rfl <;> rfl⟩
theorem kk_RL_149 : Cond.methodLink RL 149 yX13_init ∈ ztb := (tb_6 (i := 203) (by decide +kernel) rfl)
theorem ko_RX13 : Cond.methodLink RX13 1 Lib.objectInit ∈ ztb := (tb_6 (i := 206) (by decide +kernel) rfl)
theorem zF_3_0 : zFF RX3 3 0 (.array (.object "RailTimeline$State")) := ⟨RX3, TX3, 3, tyX3, rfl, tyX3_ok, nmX3, rfl, rfl, by decide +kernel⟩
theorem zF_4_0 : zFF RX4 4 0 (.array .char) := ⟨RX4, TX4, 4, tyX4, rfl, tyX4_ok, nmX4, rfl, rfl, by decide +kernel⟩
theorem zF_5_0 : zFF RX5 5 0 (.array .int) := ⟨RX5, TX5, 2, tyX5, rfl, tyX5_ok, nmX5, rfl, rfl, by decide +kernel⟩
theorem zF_6_0 : zFF RX6 6 0 (.array .int) := ⟨RX6, TX6, 2, tyX6, rfl, tyX6_ok, nmX6, rfl, rfl, by decide +kernel⟩
theorem zF_7_0 : zFF RX7 7 0 (.array .char) := ⟨RX7, TX7, 2, tyX7, rfl, tyX7_ok, nmX7, rfl, rfl, by decide +kernel⟩
theorem zF_8_0 : zFF RX8 8 0 (.array .int) := ⟨RX8, TX8, 4, tyX8, rfl, tyX8_ok, nmX8, rfl, rfl, by decide +kernel⟩
theorem zF_8_1 : zFF RX8 8 1 (.array .int) := ⟨RX8, TX8, 4, tyX8, rfl, tyX8_ok, nmX8, rfl, rfl, by decide +kernel⟩
theorem zF_8_2 : zFF RX8 8 2 (.array .int) := ⟨RX8, TX8, 4, tyX8, rfl, tyX8_ok, nmX8, rfl, rfl, by decide +kernel⟩
theorem zF_9_0 : zFF RX9 9 0 (.array (.object "RailTimeline$Command")) := ⟨RX9, TX9, 2, tyX9, rfl, tyX9_ok, nmX9, rfl, rfl, by decide +kernel⟩
theorem zF_10_0 : zFF RX10 10 0 (.object "RailTimeline$Levels") := ⟨RX10, TX10, 4, tyX10, rfl, tyX10_ok, nmX10, rfl, rfl, by decide +kernel⟩
theorem zF_10_1 : zFF RX10 10 1 (.object "RailTimeline$Markers") := ⟨RX10, TX10, 4, tyX10, rfl, tyX10_ok, nmX10, rfl, rfl, by decide +kernel⟩
theorem zF_10_2 : zFF RX10 10 2 (.object "RailTimeline$Levels") := ⟨RX10, TX10, 4, tyX10, rfl, tyX10_ok, nmX10, rfl, rfl, by decide +kernel⟩
theorem zF_11_0 : zFF RX12 11 0 (.object "RailTimeline$State") := ⟨RX12, TX12, 13, tyX12, rfl, tyX12_ok, nmX12, rfl, rfl, by decide +kernel⟩
theorem zF_11_1 : zFF RX12 11 1 (.object "RailTimeline$State") := ⟨RX12, TX12, 13, tyX12, rfl, tyX12_ok, nmX12, rfl, rfl, by decide +kernel⟩
theorem zF_11_2 : zFF RX12 11 2 (.object "RailTimeline$State") := ⟨RX12, TX12, 13, tyX12, rfl, tyX12_ok, nmX12, rfl, rfl, by decide +kernel⟩
theorem zF_11_3 : zFF RX12 11 3 (.object "RailTimeline$History") := ⟨RX12, TX12, 13, tyX12, rfl, tyX12_ok, nmX12, rfl, rfl, by decide +kernel⟩
theorem zF_11_4 : zFF RX12 11 4 (.object "RailTimeline$Runs") := ⟨RX12, TX12, 13, tyX12, rfl, tyX12_ok, nmX12, rfl, rfl, by decide +kernel⟩
theorem zF_11_5 : zFF RX12 11 5 (.array .int) := ⟨RX12, TX12, 13, tyX12, rfl, tyX12_ok, nmX12, rfl, rfl, by decide +kernel⟩
theorem zF_11_6 : zFF RX12 11 6 (.object "RailTimeline$Input") := ⟨RX12, TX12, 13, tyX12, rfl, tyX12_ok, nmX12, rfl, rfl, by decide +kernel⟩
theorem zF_11_7 : zFF RX12 11 7 (.object "RailTimeline$Levels") := ⟨RX12, TX12, 13, tyX12, rfl, tyX12_ok, nmX12, rfl, rfl, by decide +kernel⟩
theorem zF_11_8 : zFF RX12 11 8 (.object "RailTimeline$Script") := ⟨RX12, TX12, 13, tyX12, rfl, tyX12_ok, nmX12, rfl, rfl, by decide +kernel⟩
theorem zF_11_9 : zFF RX12 11 9 (.object "RailTimeline$Output") := ⟨RX12, TX12, 13, tyX12, rfl, tyX12_ok, nmX12, rfl, rfl, by decide +kernel⟩
theorem zF_12_5 : zFF RX13 12 5 (.array .int) := ⟨RX13, TX13, 22, tyX13, rfl, tyX13_ok, nmX13, rfl, rfl, by decide +kernel⟩
theorem zF_12_6 : zFF RX13 12 6 (.array .int) := ⟨RX13, TX13, 22, tyX13, rfl, tyX13_ok, nmX13, rfl, rfl, by decide +kernel⟩
theorem zF_12_7 : zFF RX13 12 7 (.array .int) := ⟨RX13, TX13, 22, tyX13, rfl, tyX13_ok, nmX13, rfl, rfl, by decide +kernel⟩
theorem zF_12_8 : zFF RX13 12 8 (.array .int) := ⟨RX13, TX13, 22, tyX13, rfl, tyX13_ok, nmX13, rfl, rfl, by decide +kernel⟩
theorem zF_12_9 : zFF RX13 12 9 (.array .int) := ⟨RX13, TX13, 22, tyX13, rfl, tyX13_ok, nmX13, rfl, rfl, by decide +kernel⟩
theorem zF_12_10 : zFF RX13 12 10 (.array .int) := ⟨RX13, TX13, 22, tyX13, rfl, tyX13_ok, nmX13, rfl, rfl, by decide +kernel⟩
theorem zF_12_11 : zFF RX13 12 11 (.array .int) := ⟨RX13, TX13, 22, tyX13, rfl, tyX13_ok, nmX13, rfl, rfl, by decide +kernel⟩
theorem zF_12_12 : zFF RX13 12 12 (.array .int) := ⟨RX13, TX13, 22, tyX13, rfl, tyX13_ok, nmX13, rfl, rfl, by decide +kernel⟩
theorem zF_12_13 : zFF RX13 12 13 (.array .int) := ⟨RX13, TX13, 22, tyX13, rfl, tyX13_ok, nmX13, rfl, rfl, by decide +kernel⟩
theorem zF_12_14 : zFF RX13 12 14 (.array .int) := ⟨RX13, TX13, 22, tyX13, rfl, tyX13_ok, nmX13, rfl, rfl, by decide +kernel⟩
theorem ka_int : Cond.arrayClass (newarray.typeOf .int) ∈ ztb := (tb_1 (i := 57) (by decide +kernel) rfl)
theorem ka_char : Cond.arrayClass (newarray.typeOf .char) ∈ ztb := (tb_1 (i := 145) (by decide +kernel) rfl)
theorem ka_long : Cond.arrayClass (newarray.typeOf .long) ∈ ztb := (tb_8 (i := 204) (by decide +kernel) rfl)
theorem ka_double : Cond.arrayClass (newarray.typeOf .double) ∈ ztb := (tb_8 (i := 205) (by decide +kernel) rfl)
def yR (d c s : Nat) : Room := { frames := 2 + d, locals := 60 + 40 * d, cells := c, slots := s }
theorem upd_ne {f : Nat → Int32} {k j : Nat} {x : Int32} (h : j ≠ k) : upd f k x j = f j := by simp [upd, h]
def yX5 (g : zGT) (w : zW) (j n : Nat) : zW := va_up (va_up (w) (n) (zI g 200 (fun _ => 0))) (j) (.inr (5, [.ref ((zs g).heap.size + n), .int 0]))
theorem yX5_o {g : zGT} {w : zW} {j n k : Nat} (hk : k < n) (hj : k ≠ j) : yX5 g w j n k = w k := by
  simp (disch := omega) only [yX5, va_up_ne]
theorem yX5_j {g : zGT} {w : zW} {j n : Nat} : yX5 g w j n j = .inr (5, [.ref ((zs g).heap.size + n), .int 0]) := by
  simp only [yX5, va_up_self]
set_option maxRecDepth 100000 in
set_option maxHeartbeats 4000000 in
theorem c_yX5 {g : zGT} {w : zW} {j n : Nat} (h0 : yOk g) (hj : j < n) (hw : w j = .inr (5, [.null, .int 0])) : yCt g yX5_init cX5_init 1 (yR 0 1 200) [.ref ((zs g).heap.size + j)] n w (yX5 g w j n) := by
  refine yCt_of (by decide +kernel) h0 [(0, .ref ((zs g).heap.size + j))] rfl (Nat.le_of_ble_eq_true rfl) ?_
  refine y_aload_n dX5_init_0 rfl ?_
  refine y_obj dX5_init_1 ko_RX5 ko_in ko_co rfl (Nat.le_of_ble_eq_true rfl) (Nat.le_of_ble_eq_true rfl) ?_
  refine y_aload_n dX5_init_4 rfl ?_
  refine y_sipush (v := nI 200) dX5_init_5 rfl ?_
  refine y_newa (ty := .int) (t0 := 0) (a0 := (200, .inl (fun _ => 0))) dX5_init_8 rfl ka_int rfl (fun _ => rfl) (by decide) (by decide) (Nat.le_of_ble_eq_true rfl) (Nat.le_of_ble_eq_true rfl) ?_
  refine y_eq (pc' := 10) (ce' := 1) (sl' := 200) (n' := n + 1) rfl rfl (by first | rfl | (simp only [yR, List.length]; omega)) (by first | rfl | (simp only [yR, List.length]; omega)) (by first | rfl | (simp only [yR, List.length]; omega)) ?_
  refine y_putF (j := j) (fs := [.null, .int 0]) (fs' := [.ref ((zs g).heap.size + n), .int 0]) dX5_init_10 kF_RX5_9 zF_5_0 rfl rfl (by omega) rfl (by simp (disch := omega) only [va_up_ne, va_up_self, hw]) rfl rfl (Nat.le_of_ble_eq_true rfl) rfl ?_
  exact y_vret dX5_init_13 rfl (Nat.le_of_ble_eq_true rfl) (Nat.le_of_ble_eq_true rfl) rfl (fun _ _ => rfl)
def yX6 (g : zGT) (w : zW) (j n : Nat) : zW := va_up (va_up (w) (n) (zI g 6 (fun _ => 0))) (j) (.inr (6, [.ref ((zs g).heap.size + n), .int 0]))
theorem yX6_o {g : zGT} {w : zW} {j n k : Nat} (hk : k < n) (hj : k ≠ j) : yX6 g w j n k = w k := by
  simp (disch := omega) only [yX6, va_up_ne, yX5_o]
theorem yX6_j {g : zGT} {w : zW} {j n : Nat} : yX6 g w j n j = .inr (6, [.ref ((zs g).heap.size + n), .int 0]) := by
  simp only [yX6, va_up_self]
set_option maxRecDepth 100000 in
set_option maxHeartbeats 4000000 in
theorem c_yX6 {g : zGT} {w : zW} {j n : Nat} (h0 : yOk g) (hj : j < n) (hw : w j = .inr (6, [.null, .int 0])) : yCt g yX6_init cX6_init 1 (yR 0 1 6) [.ref ((zs g).heap.size + j)] n w (yX6 g w j n) := by
  refine yCt_of (by decide +kernel) h0 [(0, .ref ((zs g).heap.size + j))] rfl (Nat.le_of_ble_eq_true rfl) ?_
  refine y_aload_n dX6_init_0 rfl ?_
  refine y_obj dX6_init_1 ko_RX6 ko_in ko_co rfl (Nat.le_of_ble_eq_true rfl) (Nat.le_of_ble_eq_true rfl) ?_
  refine y_aload_n dX6_init_4 rfl ?_
  refine y_bipush (v := nI 6) dX6_init_5 rfl ?_
  refine y_newa (ty := .int) (t0 := 0) (a0 := (6, .inl (fun _ => 0))) dX6_init_7 rfl ka_int rfl (fun _ => rfl) (by decide) (by decide) (Nat.le_of_ble_eq_true rfl) (Nat.le_of_ble_eq_true rfl) ?_
  refine y_eq (pc' := 9) (ce' := 1) (sl' := 6) (n' := n + 1) rfl rfl (by first | rfl | (simp only [yR, List.length]; omega)) (by first | rfl | (simp only [yR, List.length]; omega)) (by first | rfl | (simp only [yR, List.length]; omega)) ?_
  refine y_putF (j := j) (fs := [.null, .int 0]) (fs' := [.ref ((zs g).heap.size + n), .int 0]) dX6_init_9 kF_RX6_9 zF_6_0 rfl rfl (by omega) rfl (by simp (disch := omega) only [va_up_ne, va_up_self, yX5_o, hw]) rfl rfl (Nat.le_of_ble_eq_true rfl) rfl ?_
  exact y_vret dX6_init_12 rfl (Nat.le_of_ble_eq_true rfl) (Nat.le_of_ble_eq_true rfl) rfl (fun _ _ => rfl)
def yX4 (g : zGT) (w : zW) (j n : Nat) : zW := va_up (va_up (w) (n) (zC g 60 (fun _ => 0))) (j) (.inr (4, [.ref ((zs g).heap.size + n), .int 0, .int 0, .int 0]))
theorem yX4_o {g : zGT} {w : zW} {j n k : Nat} (hk : k < n) (hj : k ≠ j) : yX4 g w j n k = w k := by
  simp (disch := omega) only [yX4, va_up_ne, yX5_o, yX6_o]
theorem yX4_j {g : zGT} {w : zW} {j n : Nat} : yX4 g w j n j = .inr (4, [.ref ((zs g).heap.size + n), .int 0, .int 0, .int 0]) := by
  simp only [yX4, va_up_self]
set_option maxRecDepth 100000 in
set_option maxHeartbeats 4000000 in
theorem c_yX4 {g : zGT} {w : zW} {j n : Nat} (h0 : yOk g) (hj : j < n) (hw : w j = .inr (4, [.null, .int 0, .int 0, .int 0])) : yCt g yX4_init cX4_init 1 (yR 0 1 60) [.ref ((zs g).heap.size + j)] n w (yX4 g w j n) := by
  refine yCt_of (by decide +kernel) h0 [(0, .ref ((zs g).heap.size + j))] rfl (Nat.le_of_ble_eq_true rfl) ?_
  refine y_aload_n dX4_init_0 rfl ?_
  refine y_obj dX4_init_1 ko_RX4 ko_in ko_co rfl (Nat.le_of_ble_eq_true rfl) (Nat.le_of_ble_eq_true rfl) ?_
  refine y_aload_n dX4_init_4 rfl ?_
  refine y_bipush (v := nI 60) dX4_init_5 rfl ?_
  refine y_newa (ty := .char) (t0 := 1) (a0 := (60, .inl (fun _ => 0))) dX4_init_7 rfl ka_char rfl (fun _ => rfl) (by decide) (by decide) (Nat.le_of_ble_eq_true rfl) (Nat.le_of_ble_eq_true rfl) ?_
  refine y_eq (pc' := 9) (ce' := 1) (sl' := 60) (n' := n + 1) rfl rfl (by first | rfl | (simp only [yR, List.length]; omega)) (by first | rfl | (simp only [yR, List.length]; omega)) (by first | rfl | (simp only [yR, List.length]; omega)) ?_
  refine y_putF (j := j) (fs := [.null, .int 0, .int 0, .int 0]) (fs' := [.ref ((zs g).heap.size + n), .int 0, .int 0, .int 0]) dX4_init_9 kF_RX4_9 zF_4_0 rfl rfl (by omega) rfl (by simp (disch := omega) only [va_up_ne, va_up_self, yX5_o, yX6_o, hw]) rfl rfl (Nat.le_of_ble_eq_true rfl) rfl ?_
  exact y_vret dX4_init_12 rfl (Nat.le_of_ble_eq_true rfl) (Nat.le_of_ble_eq_true rfl) rfl (fun _ _ => rfl)
def yX7 (g : zGT) (w : zW) (j n : Nat) : zW := va_up (va_up (w) (n) (zC g 1000 (fun _ => 0))) (j) (.inr (7, [.ref ((zs g).heap.size + n), .int 0]))
theorem yX7_o {g : zGT} {w : zW} {j n k : Nat} (hk : k < n) (hj : k ≠ j) : yX7 g w j n k = w k := by
  simp (disch := omega) only [yX7, va_up_ne, yX5_o, yX6_o, yX4_o]
theorem yX7_j {g : zGT} {w : zW} {j n : Nat} : yX7 g w j n j = .inr (7, [.ref ((zs g).heap.size + n), .int 0]) := by
  simp only [yX7, va_up_self]
set_option maxRecDepth 100000 in
set_option maxHeartbeats 4000000 in
theorem c_yX7 {g : zGT} {w : zW} {j n : Nat} (h0 : yOk g) (hj : j < n) (hw : w j = .inr (7, [.null, .int 0])) : yCt g yX7_init cX7_init 1 (yR 0 1 1000) [.ref ((zs g).heap.size + j)] n w (yX7 g w j n) := by
  refine yCt_of (by decide +kernel) h0 [(0, .ref ((zs g).heap.size + j))] rfl (Nat.le_of_ble_eq_true rfl) ?_
  refine y_aload_n dX7_init_0 rfl ?_
  refine y_obj dX7_init_1 ko_RX7 ko_in ko_co rfl (Nat.le_of_ble_eq_true rfl) (Nat.le_of_ble_eq_true rfl) ?_
  refine y_aload_n dX7_init_4 rfl ?_
  refine y_sipush (v := nI 1000) dX7_init_5 rfl ?_
  refine y_newa (ty := .char) (t0 := 1) (a0 := (1000, .inl (fun _ => 0))) dX7_init_8 rfl ka_char rfl (fun _ => rfl) (by decide) (by decide) (Nat.le_of_ble_eq_true rfl) (Nat.le_of_ble_eq_true rfl) ?_
  refine y_eq (pc' := 10) (ce' := 1) (sl' := 1000) (n' := n + 1) rfl rfl (by first | rfl | (simp only [yR, List.length]; omega)) (by first | rfl | (simp only [yR, List.length]; omega)) (by first | rfl | (simp only [yR, List.length]; omega)) ?_
  refine y_putF (j := j) (fs := [.null, .int 0]) (fs' := [.ref ((zs g).heap.size + n), .int 0]) dX7_init_10 kF_RX7_9 zF_7_0 rfl rfl (by omega) rfl (by simp (disch := omega) only [va_up_ne, va_up_self, yX5_o, yX6_o, yX4_o, hw]) rfl rfl (Nat.le_of_ble_eq_true rfl) rfl ?_
  exact y_vret dX7_init_13 rfl (Nat.le_of_ble_eq_true rfl) (Nat.le_of_ble_eq_true rfl) rfl (fun _ _ => rfl)
def yX8 (g : zGT) (w : zW) (j n : Nat) : zW := va_up (va_up (va_up (va_up (va_up (va_up (w) (n) (zI g 200 (fun _ => 0))) (j) (.inr (8, [.ref ((zs g).heap.size + n), .null, .null, .int 0]))) (n + 1) (zI g 200 (fun _ => 0))) (j) (.inr (8, [.ref ((zs g).heap.size + n), .ref ((zs g).heap.size + (n + 1)), .null, .int 0]))) (n + 2) (zI g 200 (fun _ => 0))) (j) (.inr (8, [.ref ((zs g).heap.size + n), .ref ((zs g).heap.size + (n + 1)), .ref ((zs g).heap.size + (n + 2)), .int 0]))
theorem yX8_o {g : zGT} {w : zW} {j n k : Nat} (hk : k < n) (hj : k ≠ j) : yX8 g w j n k = w k := by
  simp (disch := omega) only [yX8, va_up_ne, yX5_o, yX6_o, yX4_o, yX7_o]
theorem yX8_j {g : zGT} {w : zW} {j n : Nat} : yX8 g w j n j = .inr (8, [.ref ((zs g).heap.size + n), .ref ((zs g).heap.size + (n + 1)), .ref ((zs g).heap.size + (n + 2)), .int 0]) := by
  simp only [yX8, va_up_self]
set_option maxRecDepth 100000 in
set_option maxHeartbeats 4000000 in
theorem c_yX8 {g : zGT} {w : zW} {j n : Nat} (h0 : yOk g) (hj : j < n) (hw : w j = .inr (8, [.null, .null, .null, .int 0])) : yCt g yX8_init cX8_init 1 (yR 0 3 600) [.ref ((zs g).heap.size + j)] n w (yX8 g w j n) := by
  refine yCt_of (by decide +kernel) h0 [(0, .ref ((zs g).heap.size + j))] rfl (Nat.le_of_ble_eq_true rfl) ?_
  refine y_aload_n dX8_init_0 rfl ?_
  refine y_obj dX8_init_1 ko_RX8 ko_in ko_co rfl (Nat.le_of_ble_eq_true rfl) (Nat.le_of_ble_eq_true rfl) ?_
  refine y_aload_n dX8_init_4 rfl ?_
  refine y_sipush (v := nI 200) dX8_init_5 rfl ?_
  refine y_newa (ty := .int) (t0 := 0) (a0 := (200, .inl (fun _ => 0))) dX8_init_8 rfl ka_int rfl (fun _ => rfl) (by decide) (by decide) (Nat.le_of_ble_eq_true rfl) (Nat.le_of_ble_eq_true rfl) ?_
  refine y_eq (pc' := 10) (ce' := 1) (sl' := 200) (n' := n + 1) rfl rfl (by first | rfl | (simp only [yR, List.length]; omega)) (by first | rfl | (simp only [yR, List.length]; omega)) (by first | rfl | (simp only [yR, List.length]; omega)) ?_
  refine y_putF (j := j) (fs := [.null, .null, .null, .int 0]) (fs' := [.ref ((zs g).heap.size + n), .null, .null, .int 0]) dX8_init_10 kF_RX8_9 zF_8_0 rfl rfl (by omega) rfl (by simp (disch := omega) only [va_up_ne, va_up_self, yX5_o, yX6_o, yX4_o, yX7_o, hw]) rfl rfl (Nat.le_of_ble_eq_true rfl) rfl ?_
  refine y_aload_n dX8_init_13 rfl ?_
  refine y_sipush (v := nI 200) dX8_init_14 rfl ?_
  refine y_newa (ty := .int) (t0 := 0) (a0 := (200, .inl (fun _ => 0))) dX8_init_17 rfl ka_int rfl (fun _ => rfl) (by decide) (by decide) (Nat.le_of_ble_eq_true rfl) (Nat.le_of_ble_eq_true rfl) ?_
  refine y_eq (pc' := 19) (ce' := 2) (sl' := 400) (n' := n + 2) rfl rfl (by first | rfl | (simp only [yR, List.length]; omega)) (by first | rfl | (simp only [yR, List.length]; omega)) (by first | rfl | (simp only [yR, List.length]; omega)) ?_
  refine y_putF (j := j) (fs := [.ref ((zs g).heap.size + n), .null, .null, .int 0]) (fs' := [.ref ((zs g).heap.size + n), .ref ((zs g).heap.size + (n + 1)), .null, .int 0]) dX8_init_19 kF_RX8_15 zF_8_1 rfl rfl (by omega) rfl (by simp (disch := omega) only [va_up_ne, va_up_self, yX5_o, yX6_o, yX4_o, yX7_o, hw]) rfl rfl (Nat.le_of_ble_eq_true rfl) rfl ?_
  refine y_aload_n dX8_init_22 rfl ?_
  refine y_sipush (v := nI 200) dX8_init_23 rfl ?_
  refine y_newa (ty := .int) (t0 := 0) (a0 := (200, .inl (fun _ => 0))) dX8_init_26 rfl ka_int rfl (fun _ => rfl) (by decide) (by decide) (Nat.le_of_ble_eq_true rfl) (Nat.le_of_ble_eq_true rfl) ?_
  refine y_eq (pc' := 28) (ce' := 3) (sl' := 600) (n' := n + 3) rfl rfl (by first | rfl | (simp only [yR, List.length]; omega)) (by first | rfl | (simp only [yR, List.length]; omega)) (by first | rfl | (simp only [yR, List.length]; omega)) ?_
  refine y_putF (j := j) (fs := [.ref ((zs g).heap.size + n), .ref ((zs g).heap.size + (n + 1)), .null, .int 0]) (fs' := [.ref ((zs g).heap.size + n), .ref ((zs g).heap.size + (n + 1)), .ref ((zs g).heap.size + (n + 2)), .int 0]) dX8_init_28 kF_RX8_18 zF_8_2 rfl rfl (by omega) rfl (by simp (disch := omega) only [va_up_ne, va_up_self, yX5_o, yX6_o, yX4_o, yX7_o, hw]) rfl rfl (Nat.le_of_ble_eq_true rfl) rfl ?_
  exact y_vret dX8_init_31 rfl (Nat.le_of_ble_eq_true rfl) (Nat.le_of_ble_eq_true rfl) rfl (fun _ _ => rfl)
def yX1 (g : zGT) (w : zW) (j n : Nat) : zW := va_up (w) (j) (.inr (2, [.ref (ze g (10 + 0)), .int 0, .int 0, .int 0]))
theorem yX1_o {g : zGT} {w : zW} {j n k : Nat} (hk : k < n) (hj : k ≠ j) : yX1 g w j n k = w k := by
  simp (disch := omega) only [yX1, va_up_ne, yX5_o, yX6_o, yX4_o, yX7_o, yX8_o]
theorem yX1_j {g : zGT} {w : zW} {j n : Nat} : yX1 g w j n j = .inr (2, [.ref (ze g (10 + 0)), .int 0, .int 0, .int 0]) := by
  simp only [yX1, va_up_self]
set_option maxRecDepth 100000 in
set_option maxHeartbeats 4000000 in
theorem c_yX1 {g : zGT} {w : zW} {j n : Nat} (h0 : yOk g) (h1 : zST g) (hj : j < n) (hw : w j = .inr (2, [.null, .int 0, .int 0, .int 0])) : yCt g yX1_init cX1_init 1 (yR 0 0 0) [.ref ((zs g).heap.size + j)] n w (yX1 g w j n) := by
  refine yCt_of (by decide +kernel) h0 [(0, .ref ((zs g).heap.size + j))] rfl (Nat.le_of_ble_eq_true rfl) ?_
  refine y_aload_n dX1_init_0 rfl ?_
  refine y_obj dX1_init_1 ko_RX1 ko_in ko_co rfl (Nat.le_of_ble_eq_true rfl) (Nat.le_of_ble_eq_true rfl) ?_
  refine y_aload_n dX1_init_4 rfl ?_
  refine y_gets dX1_init_5 kG_RX1_7 rfl (h1.ve (i := 0) (by decide)) ?_
  refine y_putf (j := j) (fs := [.null, .int 0, .int 0, .int 0]) (fs' := [.ref (ze g (10 + 0)), .int 0, .int 0, .int 0]) dX1_init_8 kF_RX1_13 zt_2_0 rfl (by omega) rfl (by simp (disch := omega) only [va_up_ne, va_up_self, yX5_o, yX6_o, yX4_o, yX7_o, yX8_o, hw]) rfl rfl (Nat.le_of_ble_eq_true rfl) rfl ?_
  exact y_vret dX1_init_11 rfl (Nat.le_of_ble_eq_true rfl) (Nat.le_of_ble_eq_true rfl) rfl (fun _ _ => rfl)
def yX10 (g : zGT) (w : zW) (j n : Nat) : zW := va_up (yX5 g (va_up (va_up (yX6 g (va_up (va_up (yX5 g (va_up (w) (n) (.inr (5, [.null, .int 0]))) (n) (n + 1)) (j) (.inr (10, [.ref ((zs g).heap.size + n), .null, .null, .int 0]))) (n + 2) (.inr (6, [.null, .int 0]))) (n + 2) (n + 3)) (j) (.inr (10, [.ref ((zs g).heap.size + n), .ref ((zs g).heap.size + (n + 2)), .null, .int 0]))) (n + 4) (.inr (5, [.null, .int 0]))) (n + 4) (n + 5)) (j) (.inr (10, [.ref ((zs g).heap.size + n), .ref ((zs g).heap.size + (n + 2)), .ref ((zs g).heap.size + (n + 4)), .int 0]))
theorem yX10_o {g : zGT} {w : zW} {j n k : Nat} (hk : k < n) (hj : k ≠ j) : yX10 g w j n k = w k := by
  simp (disch := omega) only [yX10, va_up_ne, yX5_o, yX6_o, yX4_o, yX7_o, yX8_o, yX1_o]
theorem yX10_j {g : zGT} {w : zW} {j n : Nat} : yX10 g w j n j = .inr (10, [.ref ((zs g).heap.size + n), .ref ((zs g).heap.size + (n + 2)), .ref ((zs g).heap.size + (n + 4)), .int 0]) := by
  simp only [yX10, va_up_self]
set_option maxRecDepth 100000 in
set_option maxHeartbeats 4000000 in
theorem c_yX10 {g : zGT} {w : zW} {j n : Nat} (h0 : yOk g) (hj : j < n) (hw : w j = .inr (10, [.null, .null, .null, .int 0])) : yCt g yX10_init cX10_init 1 (yR 1 6 412) [.ref ((zs g).heap.size + j)] n w (yX10 g w j n) := by
  refine yCt_of (by decide +kernel) h0 [(0, .ref ((zs g).heap.size + j))] rfl (Nat.le_of_ble_eq_true rfl) ?_
  refine y_aload_n dX10_init_0 rfl ?_
  refine y_obj dX10_init_1 ko_RX10 ko_in ko_co rfl (Nat.le_of_ble_eq_true rfl) (Nat.le_of_ble_eq_true rfl) ?_
  refine y_aload_n dX10_init_4 rfl ?_
  refine y_new dX10_init_5 kL_RX10_9 rfl (Nat.le_of_ble_eq_true rfl) (Nat.le_of_ble_eq_true rfl) ?_
  refine y_eq (pc' := 8) (ce' := 1) (sl' := 2) (n' := n + 1) rfl rfl (by first | rfl | (simp only [yR, List.length]; omega)) (by first | rfl | (simp only [yR, List.length]; omega)) (by first | rfl | (simp only [yR, List.length]; omega)) ?_
  refine y_dup dX10_init_8 rfl ?_
  refine y_callN (R2 := yR 0 1 200) dX10_init_9 kI_X5 kk_RX10_11 rfl ⟨⟨Nat.le_of_ble_eq_true rfl, Nat.le_of_ble_eq_true rfl⟩, Nat.le_of_ble_eq_true rfl, Nat.le_of_ble_eq_true rfl⟩ (Nat.le_of_ble_eq_true rfl) (c_yX5 (j := n) (n := n + 1) h0 (by omega) (by simp (disch := omega) only [va_up_ne, va_up_self, yX5_o, yX6_o, yX4_o, yX7_o, yX8_o, yX1_o, hw])) ?_
  refine y_eq (pc' := 12) (ce' := 2) (sl' := 202) (n' := n + 2) rfl rfl (by first | rfl | (simp only [yR, List.length]; omega)) (by first | rfl | (simp only [yR, List.length]; omega)) (by first | rfl | (simp only [yR, List.length]; omega)) ?_
  refine y_putF (j := j) (fs := [.null, .null, .null, .int 0]) (fs' := [.ref ((zs g).heap.size + n), .null, .null, .int 0]) dX10_init_12 kF_RX10_12 zF_10_0 rfl rfl (by omega) rfl (by simp (disch := omega) only [va_up_ne, va_up_self, yX5_o, yX6_o, yX4_o, yX7_o, yX8_o, yX1_o, hw]) rfl rfl (Nat.le_of_ble_eq_true rfl) rfl ?_
  refine y_aload_n dX10_init_15 rfl ?_
  refine y_new dX10_init_16 kL_RX10_18 rfl (Nat.le_of_ble_eq_true rfl) (Nat.le_of_ble_eq_true rfl) ?_
  refine y_eq (pc' := 19) (ce' := 3) (sl' := 204) (n' := n + 3) rfl rfl (by first | rfl | (simp only [yR, List.length]; omega)) (by first | rfl | (simp only [yR, List.length]; omega)) (by first | rfl | (simp only [yR, List.length]; omega)) ?_
  refine y_dup dX10_init_19 rfl ?_
  refine y_callN (R2 := yR 0 1 6) dX10_init_20 kI_X6 kk_RX10_20 rfl ⟨⟨Nat.le_of_ble_eq_true rfl, Nat.le_of_ble_eq_true rfl⟩, Nat.le_of_ble_eq_true rfl, Nat.le_of_ble_eq_true rfl⟩ (Nat.le_of_ble_eq_true rfl) (c_yX6 (j := n + 2) (n := n + 3) h0 (by omega) (by simp (disch := omega) only [va_up_ne, va_up_self, yX5_o, yX6_o, yX4_o, yX7_o, yX8_o, yX1_o, hw])) ?_
  refine y_eq (pc' := 23) (ce' := 4) (sl' := 210) (n' := n + 4) rfl rfl (by first | rfl | (simp only [yR, List.length]; omega)) (by first | rfl | (simp only [yR, List.length]; omega)) (by first | rfl | (simp only [yR, List.length]; omega)) ?_
  refine y_putF (j := j) (fs := [.ref ((zs g).heap.size + n), .null, .null, .int 0]) (fs' := [.ref ((zs g).heap.size + n), .ref ((zs g).heap.size + (n + 2)), .null, .int 0]) dX10_init_23 kF_RX10_21 zF_10_1 rfl rfl (by omega) rfl (by simp (disch := omega) only [va_up_ne, va_up_self, yX5_o, yX6_o, yX4_o, yX7_o, yX8_o, yX1_o, hw]) rfl rfl (Nat.le_of_ble_eq_true rfl) rfl ?_
  refine y_aload_n dX10_init_26 rfl ?_
  refine y_new dX10_init_27 kL_RX10_9 rfl (Nat.le_of_ble_eq_true rfl) (Nat.le_of_ble_eq_true rfl) ?_
  refine y_eq (pc' := 30) (ce' := 5) (sl' := 212) (n' := n + 5) rfl rfl (by first | rfl | (simp only [yR, List.length]; omega)) (by first | rfl | (simp only [yR, List.length]; omega)) (by first | rfl | (simp only [yR, List.length]; omega)) ?_
  refine y_dup dX10_init_30 rfl ?_
  refine y_callN (R2 := yR 0 1 200) dX10_init_31 kI_X5 kk_RX10_11 rfl ⟨⟨Nat.le_of_ble_eq_true rfl, Nat.le_of_ble_eq_true rfl⟩, Nat.le_of_ble_eq_true rfl, Nat.le_of_ble_eq_true rfl⟩ (Nat.le_of_ble_eq_true rfl) (c_yX5 (j := n + 4) (n := n + 5) h0 (by omega) (by simp (disch := omega) only [va_up_ne, va_up_self, yX5_o, yX6_o, yX4_o, yX7_o, yX8_o, yX1_o, hw])) ?_
  refine y_eq (pc' := 34) (ce' := 6) (sl' := 412) (n' := n + 6) rfl rfl (by first | rfl | (simp only [yR, List.length]; omega)) (by first | rfl | (simp only [yR, List.length]; omega)) (by first | rfl | (simp only [yR, List.length]; omega)) ?_
  refine y_putF (j := j) (fs := [.ref ((zs g).heap.size + n), .ref ((zs g).heap.size + (n + 2)), .null, .int 0]) (fs' := [.ref ((zs g).heap.size + n), .ref ((zs g).heap.size + (n + 2)), .ref ((zs g).heap.size + (n + 4)), .int 0]) dX10_init_34 kF_RX10_25 zF_10_2 rfl rfl (by omega) rfl (by simp (disch := omega) only [va_up_ne, va_up_self, yX5_o, yX6_o, yX4_o, yX7_o, yX8_o, yX1_o, hw]) rfl rfl (Nat.le_of_ble_eq_true rfl) rfl ?_
  exact y_vret dX10_init_37 rfl (Nat.le_of_ble_eq_true rfl) (Nat.le_of_ble_eq_true rfl) rfl (fun _ _ => rfl)
def yX3f (g : zGT) (n : Nat) : Nat → Nat → Option Nat
  | 0 => fun _ => none
  | i + 1 => va_up (yX3f g n i) i (some ((zs g).heap.size + (n + 1 + 7 * i)))
def yX3w (g : zGT) (w : zW) (n : Nat) : Nat → zW
  | 0 => w
  | i + 1 => va_up (yX10 g (va_up (yX3w g w n i) (n + 1 + 7 * i) (.inr (10, [.null, .null, .null, .int 0]))) (n + 1 + 7 * i) (n + 2 + 7 * i)) n (.inl (zc g 4, 8, .inr (.inr (.inr (.inr (yX3f g n (i + 1)))))))
theorem yX3w_o {g : zGT} {w : zW} {n k : Nat} (hk : k < n) : ∀ i, yX3w g w n i k = w k
  | 0 => rfl
  | i + 1 => by
    have h := yX3w_o (g := g) (w := w) hk i
    simp (disch := omega) only [yX3w, va_up_ne, yX10_o, h]
theorem yX3w_n {g : zGT} {w : zW} {n : Nat} (hn : w n = .inl (zc g 4, 8, .inr (.inr (.inr (.inr (yX3f g n 0)))))) : ∀ i, yX3w g w n i n = .inl (zc g 4, 8, .inr (.inr (.inr (.inr (yX3f g n i)))))
  | 0 => hn
  | i + 1 => by simp only [yX3w, va_up_self]
def yX3a (g : zGT) (w : zW) (j n : Nat) : zW := va_up (va_up w n (.inl (zc g 4, 8, .inr (.inr (.inr (.inr (fun _ => none))))))) j (.inr (3, [.ref ((zs g).heap.size + n), .int 0, .int 0]))
def yX3 (g : zGT) (w : zW) (j n : Nat) : zW := yX3w g (yX3a g w j n) n 8
theorem yX3_o {g : zGT} {w : zW} {j n k : Nat} (hk : k < n) (hj : k ≠ j) : yX3 g w j n k = w k := by
  rw [yX3, yX3w_o hk]
  simp (disch := omega) only [yX3a, va_up_ne]
theorem yX3_j {g : zGT} {w : zW} {j n : Nat} (hj : j < n) : yX3 g w j n j = .inr (3, [.ref ((zs g).heap.size + n), .int 0, .int 0]) := by
  rw [yX3, yX3w_o hj]
  simp only [yX3a, va_up_self]
set_option maxRecDepth 100000 in
set_option maxHeartbeats 4000000 in
theorem yX3_loop {g : zGT} {w : zW} {j n : Nat} (h0 : yOk g) (hj : j < n) : ∀ m i, i + m = 8 → yTr g (yX3_init, cX3_init, 2, none) (yR 2 57 3336) (yE g (yR 2 57 3336) (n + 57) (yX3 g w j n)) (1 + 7 * i) (8 + 416 * i) 15 [(0, .ref ((zs g).heap.size + j)), (1, .int (nI (i)))] [] (n + 1 + 7 * i) (yX3w g (yX3a g w j n) n i) := by
  intro m
  induction m with
  | zero =>
    intro i hi
    have e0 : yX3w g (yX3a g w j n) n i j = .inr (3, [.ref ((zs g).heap.size + n), .int 0, .int 0]) := by
      rw [yX3w_o hj]; simp only [yX3a, va_up_self]
    have e1 : yX3w g (yX3a g w j n) n i n = .inl (zc g 4, 8, .inr (.inr (.inr (.inr (yX3f g n i))))) := yX3w_n (by simp (disch := omega) only [yX3a, va_up_ne, va_up_self, yX3f]) i
    refine y_iload_n dX3_init_15 rfl ?_
    refine y_aload_n dX3_init_16 rfl ?_
    refine y_getf (j := j) (fs := [.ref ((zs g).heap.size + n), .int 0, .int 0]) (v := .ref ((zs g).heap.size + n)) dX3_init_17 kF_RX3_11 rfl (by omega) rfl e0 rfl ?_
    refine y_alen (j := n) (t0 := 4) (v := nI 8) dX3_init_20 (by omega) rfl rfl e1 rfl ?_
    refine y_icmp_ge_n (a := i) (b := 8) (tgt := 43) dX3_init_21 (by decide) (by omega) (by decide) (fun _ => ?_) (fun h => absurd h (by omega))
    have hi8 : i = 8 := by omega
    subst hi8
    exact y_vret dX3_init_43 rfl (Nat.le_of_ble_eq_true rfl) (Nat.le_of_ble_eq_true rfl) rfl (fun _ _ => rfl)
  | succ m ih =>
    intro i hi
    have e0 : yX3w g (yX3a g w j n) n i j = .inr (3, [.ref ((zs g).heap.size + n), .int 0, .int 0]) := by
      rw [yX3w_o hj]; simp only [yX3a, va_up_self]
    have e1 : yX3w g (yX3a g w j n) n i n = .inl (zc g 4, 8, .inr (.inr (.inr (.inr (yX3f g n i))))) := yX3w_n (by simp (disch := omega) only [yX3a, va_up_ne, va_up_self, yX3f]) i
    refine y_iload_n dX3_init_15 rfl ?_
    refine y_aload_n dX3_init_16 rfl ?_
    refine y_getf (j := j) (fs := [.ref ((zs g).heap.size + n), .int 0, .int 0]) (v := .ref ((zs g).heap.size + n)) dX3_init_17 kF_RX3_11 rfl (by omega) rfl e0 rfl ?_
    refine y_alen (j := n) (t0 := 4) (v := nI 8) dX3_init_20 (by omega) rfl rfl e1 rfl ?_
    refine y_icmp_ge_n (a := i) (b := 8) (tgt := 43) dX3_init_21 (by decide) (by omega) (by decide) (fun h => absurd h (by omega)) (fun _ => ?_)
    refine y_aload_n dX3_init_24 rfl ?_
    refine y_getf (j := j) (fs := [.ref ((zs g).heap.size + n), .int 0, .int 0]) (v := .ref ((zs g).heap.size + n)) dX3_init_25 kF_RX3_11 rfl (by omega) rfl e0 rfl ?_
    refine y_iload_n dX3_init_28 rfl ?_
    refine y_new dX3_init_29 kL_RX3_9 rfl (by simp only [yR]; omega) (by simp only [yR, List.length]; omega) ?_
    refine y_eq (pc' := 32) (ce' := 2 + 7 * i) (sl' := 12 + 416 * i) (n' := n + 2 + 7 * i) rfl rfl (by omega) (by simp only [List.length]; omega) (by omega) ?_
    refine y_dup dX3_init_32 rfl ?_
    refine y_callN (R2 := yR 1 6 412) dX3_init_33 kI_X10 kk_RX3_17 rfl ⟨⟨Nat.le_of_ble_eq_true rfl, Nat.le_of_ble_eq_true rfl⟩, (by simp only [yR]; omega), (by simp only [yR]; omega)⟩ (Nat.le_of_ble_eq_true rfl) (c_yX10 (j := n + 1 + 7 * i) (n := n + 2 + 7 * i) h0 (by omega) (by simp only [va_up_self])) ?_
    refine y_eq (pc' := 36) (ce' := 8 + 7 * i) (sl' := 424 + 416 * i) (n' := n + 8 + 7 * i) rfl rfl (by simp only [yR]; omega) (by simp only [yR]; omega) (by simp only [yR]; omega) ?_
    refine y_aast (j := n) (k := n + 1 + 7 * i) (t0 := 4) (ci := 10) (r := (RX10, TX10, 4)) (N := 8) (i := i) (f := yX3f g n i) dX3_init_36 (by omega) rfl (by omega) rfl rfl (by simp (disch := omega) only [yX10_o, va_up_ne, e1]) yX10_j rfl (by omega) (by decide) ?_
    refine y_iinc_n (x := 1) (a := i) (lv' := [(0, .ref ((zs g).heap.size + j)), (1, .int (nI (i + 1)))]) dX3_init_37 rfl (by decide) rfl ?_
    refine y_goto (tgt := 15) dX3_init_40 (by decide) ?_
    refine y_eq (pc' := 15) (ce' := 1 + 7 * (i + 1)) (sl' := 8 + 416 * (i + 1)) (n' := n + 1 + 7 * (i + 1)) rfl rfl (by omega) (by omega) (by omega) ?_
    exact ih (i + 1) (by omega)
set_option maxRecDepth 100000 in
set_option maxHeartbeats 4000000 in
theorem c_yX3 {g : zGT} {w : zW} {j n : Nat} (h0 : yOk g) (hj : j < n) (hw : w j = .inr (3, [.null, .int 0, .int 0])) : yCt g yX3_init cX3_init 2 (yR 2 57 3336) [.ref ((zs g).heap.size + j)] n w (yX3 g w j n) := by
  refine yCt_of (by decide +kernel) h0 [(0, .ref ((zs g).heap.size + j))] rfl (Nat.le_of_ble_eq_true rfl) ?_
  refine y_aload_n dX3_init_0 rfl ?_
  refine y_obj dX3_init_1 ko_RX3 ko_in ko_co rfl (Nat.le_of_ble_eq_true rfl) (Nat.le_of_ble_eq_true rfl) ?_
  refine y_aload_n dX3_init_4 rfl ?_
  refine y_bipush (v := nI 8) dX3_init_5 rfl ?_
  refine y_newq (t0 := 4) dX3_init_7 kc_RX3_9 rfl (fun h => h.2.2.1) rfl (by decide) (by decide) (Nat.le_of_ble_eq_true rfl) (Nat.le_of_ble_eq_true rfl) ?_
  refine y_putF (j := j) (fs := [.null, .int 0, .int 0]) (fs' := [.ref ((zs g).heap.size + n), .int 0, .int 0]) dX3_init_10 kF_RX3_11 zF_3_0 rfl rfl (by omega) rfl (by simp (disch := omega) only [va_up_ne, hw]) rfl rfl (Nat.le_of_ble_eq_true rfl) rfl ?_
  refine y_iconst (v := nI 0) dX3_init_13 rfl ?_
  refine y_istore_n (lv' := [(0, .ref ((zs g).heap.size + j)), (1, .int (nI (0)))]) dX3_init_14 (by decide) rfl ?_
  refine y_eq (pc' := 15) (ce' := 1 + 7 * 0) (sl' := 8 + 416 * 0) (n' := n + 1 + 7 * 0) rfl rfl rfl rfl rfl ?_
  exact yX3_loop h0 hj 8 0 rfl
def yX9f (g : zGT) (n : Nat) : Nat → Nat → Option Nat
  | 0 => fun _ => none
  | i + 1 => va_up (yX9f g n i) i (some ((zs g).heap.size + (n + 1 + i)))
def yX9w (g : zGT) (w : zW) (n : Nat) : Nat → zW
  | 0 => w
  | i + 1 => va_up (yX1 g (va_up (yX9w g w n i) (n + 1 + i) (.inr (2, [.null, .int 0, .int 0, .int 0]))) (n + 1 + i) (n + 2 + i)) n (.inl (zc g 5, 8, .inr (.inr (.inr (.inr (yX9f g n (i + 1)))))))
theorem yX9w_o {g : zGT} {w : zW} {n k : Nat} (hk : k < n) : ∀ i, yX9w g w n i k = w k
  | 0 => rfl
  | i + 1 => by
    have h := yX9w_o (g := g) (w := w) hk i
    simp (disch := omega) only [yX9w, va_up_ne, yX1_o, h]
theorem yX9w_n {g : zGT} {w : zW} {n : Nat} (hn : w n = .inl (zc g 5, 8, .inr (.inr (.inr (.inr (yX9f g n 0)))))) : ∀ i, yX9w g w n i n = .inl (zc g 5, 8, .inr (.inr (.inr (.inr (yX9f g n i)))))
  | 0 => hn
  | i + 1 => by simp only [yX9w, va_up_self]
def yX9a (g : zGT) (w : zW) (j n : Nat) : zW := va_up (va_up w n (.inl (zc g 5, 8, .inr (.inr (.inr (.inr (fun _ => none))))))) j (.inr (9, [.ref ((zs g).heap.size + n), .int 0]))
def yX9 (g : zGT) (w : zW) (j n : Nat) : zW := yX9w g (yX9a g w j n) n 8
theorem yX9_o {g : zGT} {w : zW} {j n k : Nat} (hk : k < n) (hj : k ≠ j) : yX9 g w j n k = w k := by
  rw [yX9, yX9w_o hk]
  simp (disch := omega) only [yX9a, va_up_ne]
theorem yX9_j {g : zGT} {w : zW} {j n : Nat} (hj : j < n) : yX9 g w j n j = .inr (9, [.ref ((zs g).heap.size + n), .int 0]) := by
  rw [yX9, yX9w_o hj]
  simp only [yX9a, va_up_self]
set_option maxRecDepth 100000 in
set_option maxHeartbeats 4000000 in
theorem yX9_loop {g : zGT} {w : zW} {j n : Nat} (h0 : yOk g) (h1 : zST g) (hj : j < n) : ∀ m i, i + m = 8 → yTr g (yX9_init, cX9_init, 2, none) (yR 1 9 40) (yE g (yR 1 9 40) (n + 9) (yX9 g w j n)) (1 + i) (8 + 4 * i) 15 [(0, .ref ((zs g).heap.size + j)), (1, .int (nI (i)))] [] (n + 1 + i) (yX9w g (yX9a g w j n) n i) := by
  intro m
  induction m with
  | zero =>
    intro i hi
    have e0 : yX9w g (yX9a g w j n) n i j = .inr (9, [.ref ((zs g).heap.size + n), .int 0]) := by
      rw [yX9w_o hj]; simp only [yX9a, va_up_self]
    have e1 : yX9w g (yX9a g w j n) n i n = .inl (zc g 5, 8, .inr (.inr (.inr (.inr (yX9f g n i))))) := yX9w_n (by simp (disch := omega) only [yX9a, va_up_ne, va_up_self, yX9f]) i
    refine y_iload_n dX9_init_15 rfl ?_
    refine y_aload_n dX9_init_16 rfl ?_
    refine y_getf (j := j) (fs := [.ref ((zs g).heap.size + n), .int 0]) (v := .ref ((zs g).heap.size + n)) dX9_init_17 kF_RX9_11 rfl (by omega) rfl e0 rfl ?_
    refine y_alen (j := n) (t0 := 5) (v := nI 8) dX9_init_20 (by omega) rfl rfl e1 rfl ?_
    refine y_icmp_ge_n (a := i) (b := 8) (tgt := 43) dX9_init_21 (by decide) (by omega) (by decide) (fun _ => ?_) (fun h => absurd h (by omega))
    have hi8 : i = 8 := by omega
    subst hi8
    exact y_vret dX9_init_43 rfl (Nat.le_of_ble_eq_true rfl) (Nat.le_of_ble_eq_true rfl) rfl (fun _ _ => rfl)
  | succ m ih =>
    intro i hi
    have e0 : yX9w g (yX9a g w j n) n i j = .inr (9, [.ref ((zs g).heap.size + n), .int 0]) := by
      rw [yX9w_o hj]; simp only [yX9a, va_up_self]
    have e1 : yX9w g (yX9a g w j n) n i n = .inl (zc g 5, 8, .inr (.inr (.inr (.inr (yX9f g n i))))) := yX9w_n (by simp (disch := omega) only [yX9a, va_up_ne, va_up_self, yX9f]) i
    refine y_iload_n dX9_init_15 rfl ?_
    refine y_aload_n dX9_init_16 rfl ?_
    refine y_getf (j := j) (fs := [.ref ((zs g).heap.size + n), .int 0]) (v := .ref ((zs g).heap.size + n)) dX9_init_17 kF_RX9_11 rfl (by omega) rfl e0 rfl ?_
    refine y_alen (j := n) (t0 := 5) (v := nI 8) dX9_init_20 (by omega) rfl rfl e1 rfl ?_
    refine y_icmp_ge_n (a := i) (b := 8) (tgt := 43) dX9_init_21 (by decide) (by omega) (by decide) (fun h => absurd h (by omega)) (fun _ => ?_)
    refine y_aload_n dX9_init_24 rfl ?_
    refine y_getf (j := j) (fs := [.ref ((zs g).heap.size + n), .int 0]) (v := .ref ((zs g).heap.size + n)) dX9_init_25 kF_RX9_11 rfl (by omega) rfl e0 rfl ?_
    refine y_iload_n dX9_init_28 rfl ?_
    refine y_new dX9_init_29 kL_RX9_9 rfl (by simp only [yR]; omega) (by simp only [yR, List.length]; omega) ?_
    refine y_eq (pc' := 32) (ce' := 2 + i) (sl' := 12 + 4 * i) (n' := n + 2 + i) rfl rfl (by omega) (by simp only [List.length]; omega) (by omega) ?_
    refine y_dup dX9_init_32 rfl ?_
    refine y_callN (R2 := yR 0 0 0) dX9_init_33 kI_X1 kk_RX9_17 rfl ⟨⟨Nat.le_of_ble_eq_true rfl, Nat.le_of_ble_eq_true rfl⟩, (by simp only [yR]; omega), (by simp only [yR]; omega)⟩ (Nat.le_of_ble_eq_true rfl) (c_yX1 (j := n + 1 + i) (n := n + 2 + i) h0 h1 (by omega) (by simp only [va_up_self])) ?_
    refine y_eq (pc' := 36) (ce' := 2 + i) (sl' := 12 + 4 * i) (n' := n + 2 + i) rfl rfl (by simp only [yR]; omega) (by simp only [yR]; omega) (by simp only [yR]; omega) ?_
    refine y_aast (j := n) (k := n + 1 + i) (t0 := 5) (ci := 2) (r := (RX1, TX1, 4)) (N := 8) (i := i) (f := yX9f g n i) dX9_init_36 (by omega) rfl (by omega) rfl rfl (by simp (disch := omega) only [yX1_o, va_up_ne, e1]) yX1_j rfl (by omega) (by decide) ?_
    refine y_iinc_n (x := 1) (a := i) (lv' := [(0, .ref ((zs g).heap.size + j)), (1, .int (nI (i + 1)))]) dX9_init_37 rfl (by decide) rfl ?_
    refine y_goto (tgt := 15) dX9_init_40 (by decide) ?_
    refine y_eq (pc' := 15) (ce' := 1 + (i + 1)) (sl' := 8 + 4 * (i + 1)) (n' := n + 1 + (i + 1)) rfl rfl (by omega) (by omega) (by omega) ?_
    exact ih (i + 1) (by omega)
set_option maxRecDepth 100000 in
set_option maxHeartbeats 4000000 in
theorem c_yX9 {g : zGT} {w : zW} {j n : Nat} (h0 : yOk g) (h1 : zST g) (hj : j < n) (hw : w j = .inr (9, [.null, .int 0])) : yCt g yX9_init cX9_init 2 (yR 1 9 40) [.ref ((zs g).heap.size + j)] n w (yX9 g w j n) := by
  refine yCt_of (by decide +kernel) h0 [(0, .ref ((zs g).heap.size + j))] rfl (Nat.le_of_ble_eq_true rfl) ?_
  refine y_aload_n dX9_init_0 rfl ?_
  refine y_obj dX9_init_1 ko_RX9 ko_in ko_co rfl (Nat.le_of_ble_eq_true rfl) (Nat.le_of_ble_eq_true rfl) ?_
  refine y_aload_n dX9_init_4 rfl ?_
  refine y_bipush (v := nI 8) dX9_init_5 rfl ?_
  refine y_newq (t0 := 5) dX9_init_7 kc_RX9_9 rfl (fun h => h.2.2.2) rfl (by decide) (by decide) (Nat.le_of_ble_eq_true rfl) (Nat.le_of_ble_eq_true rfl) ?_
  refine y_putF (j := j) (fs := [.null, .int 0]) (fs' := [.ref ((zs g).heap.size + n), .int 0]) dX9_init_10 kF_RX9_11 zF_9_0 rfl rfl (by omega) rfl (by simp (disch := omega) only [va_up_ne, hw]) rfl rfl (Nat.le_of_ble_eq_true rfl) rfl ?_
  refine y_iconst (v := nI 0) dX9_init_13 rfl ?_
  refine y_istore_n (lv' := [(0, .ref ((zs g).heap.size + j)), (1, .int (nI (0)))]) dX9_init_14 (by decide) rfl ?_
  refine y_eq (pc' := 15) (ce' := 1 + 0) (sl' := 8 + 4 * 0) (n' := n + 1 + 0) rfl rfl rfl rfl rfl ?_
  exact yX9_loop h0 h1 hj 8 0 rfl
def yX12 (g : zGT) (w : zW) (j n : Nat) : zW := va_up (va_up (va_up (yX7 g (va_up (va_up (yX9 g (va_up (va_up (yX5 g (va_up (va_up (yX4 g (va_up (va_up (va_up (va_up (yX8 g (va_up (va_up (yX3 g (va_up (va_up (yX10 g (va_up (va_up (yX10 g (va_up (va_up (yX10 g (va_up (w) (n) (.inr (10, [.null, .null, .null, .int 0]))) (n) (n + 1)) (j) (.inr (11, [.ref ((zs g).heap.size + n), .null, .null, .null, .null, .null, .null, .null, .null, .null, .int 0, .int 0, .int 0]))) (n + 7) (.inr (10, [.null, .null, .null, .int 0]))) (n + 7) (n + 8)) (j) (.inr (11, [.ref ((zs g).heap.size + n), .ref ((zs g).heap.size + (n + 7)), .null, .null, .null, .null, .null, .null, .null, .null, .int 0, .int 0, .int 0]))) (n + 14) (.inr (10, [.null, .null, .null, .int 0]))) (n + 14) (n + 15)) (j) (.inr (11, [.ref ((zs g).heap.size + n), .ref ((zs g).heap.size + (n + 7)), .ref ((zs g).heap.size + (n + 14)), .null, .null, .null, .null, .null, .null, .null, .int 0, .int 0, .int 0]))) (n + 21) (.inr (3, [.null, .int 0, .int 0]))) (n + 21) (n + 22)) (j) (.inr (11, [.ref ((zs g).heap.size + n), .ref ((zs g).heap.size + (n + 7)), .ref ((zs g).heap.size + (n + 14)), .ref ((zs g).heap.size + (n + 21)), .null, .null, .null, .null, .null, .null, .int 0, .int 0, .int 0]))) (n + 79) (.inr (8, [.null, .null, .null, .int 0]))) (n + 79) (n + 80)) (j) (.inr (11, [.ref ((zs g).heap.size + n), .ref ((zs g).heap.size + (n + 7)), .ref ((zs g).heap.size + (n + 14)), .ref ((zs g).heap.size + (n + 21)), .ref ((zs g).heap.size + (n + 79)), .null, .null, .null, .null, .null, .int 0, .int 0, .int 0]))) (n + 83) (zI g 200 (fun _ => 0))) (j) (.inr (11, [.ref ((zs g).heap.size + n), .ref ((zs g).heap.size + (n + 7)), .ref ((zs g).heap.size + (n + 14)), .ref ((zs g).heap.size + (n + 21)), .ref ((zs g).heap.size + (n + 79)), .ref ((zs g).heap.size + (n + 83)), .null, .null, .null, .null, .int 0, .int 0, .int 0]))) (n + 84) (.inr (4, [.null, .int 0, .int 0, .int 0]))) (n + 84) (n + 85)) (j) (.inr (11, [.ref ((zs g).heap.size + n), .ref ((zs g).heap.size + (n + 7)), .ref ((zs g).heap.size + (n + 14)), .ref ((zs g).heap.size + (n + 21)), .ref ((zs g).heap.size + (n + 79)), .ref ((zs g).heap.size + (n + 83)), .ref ((zs g).heap.size + (n + 84)), .null, .null, .null, .int 0, .int 0, .int 0]))) (n + 86) (.inr (5, [.null, .int 0]))) (n + 86) (n + 87)) (j) (.inr (11, [.ref ((zs g).heap.size + n), .ref ((zs g).heap.size + (n + 7)), .ref ((zs g).heap.size + (n + 14)), .ref ((zs g).heap.size + (n + 21)), .ref ((zs g).heap.size + (n + 79)), .ref ((zs g).heap.size + (n + 83)), .ref ((zs g).heap.size + (n + 84)), .ref ((zs g).heap.size + (n + 86)), .null, .null, .int 0, .int 0, .int 0]))) (n + 88) (.inr (9, [.null, .int 0]))) (n + 88) (n + 89)) (j) (.inr (11, [.ref ((zs g).heap.size + n), .ref ((zs g).heap.size + (n + 7)), .ref ((zs g).heap.size + (n + 14)), .ref ((zs g).heap.size + (n + 21)), .ref ((zs g).heap.size + (n + 79)), .ref ((zs g).heap.size + (n + 83)), .ref ((zs g).heap.size + (n + 84)), .ref ((zs g).heap.size + (n + 86)), .ref ((zs g).heap.size + (n + 88)), .null, .int 0, .int 0, .int 0]))) (n + 98) (.inr (7, [.null, .int 0]))) (n + 98) (n + 99)) (j) (.inr (11, [.ref ((zs g).heap.size + n), .ref ((zs g).heap.size + (n + 7)), .ref ((zs g).heap.size + (n + 14)), .ref ((zs g).heap.size + (n + 21)), .ref ((zs g).heap.size + (n + 79)), .ref ((zs g).heap.size + (n + 83)), .ref ((zs g).heap.size + (n + 84)), .ref ((zs g).heap.size + (n + 86)), .ref ((zs g).heap.size + (n + 88)), .ref ((zs g).heap.size + (n + 98)), .int 0, .int 0, .int 0]))) (j) (.inr (11, [.ref ((zs g).heap.size + n), .ref ((zs g).heap.size + (n + 7)), .ref ((zs g).heap.size + (n + 14)), .ref ((zs g).heap.size + (n + 21)), .ref ((zs g).heap.size + (n + 79)), .ref ((zs g).heap.size + (n + 83)), .ref ((zs g).heap.size + (n + 84)), .ref ((zs g).heap.size + (n + 86)), .ref ((zs g).heap.size + (n + 88)), .ref ((zs g).heap.size + (n + 98)), .int 0, .int (-1), .int 0]))) (j) (.inr (11, [.ref ((zs g).heap.size + n), .ref ((zs g).heap.size + (n + 7)), .ref ((zs g).heap.size + (n + 14)), .ref ((zs g).heap.size + (n + 21)), .ref ((zs g).heap.size + (n + 79)), .ref ((zs g).heap.size + (n + 83)), .ref ((zs g).heap.size + (n + 84)), .ref ((zs g).heap.size + (n + 86)), .ref ((zs g).heap.size + (n + 88)), .ref ((zs g).heap.size + (n + 98)), .int 0, .int (-1), .int (-1)]))
theorem yX12_o {g : zGT} {w : zW} {j n k : Nat} (hk : k < n) (hj : k ≠ j) : yX12 g w j n k = w k := by
  simp (disch := omega) only [yX12, va_up_ne, yX5_o, yX6_o, yX4_o, yX7_o, yX8_o, yX1_o, yX10_o, yX3_o, yX9_o]
theorem yX12_j {g : zGT} {w : zW} {j n : Nat} : yX12 g w j n j = .inr (11, [.ref ((zs g).heap.size + n), .ref ((zs g).heap.size + (n + 7)), .ref ((zs g).heap.size + (n + 14)), .ref ((zs g).heap.size + (n + 21)), .ref ((zs g).heap.size + (n + 79)), .ref ((zs g).heap.size + (n + 83)), .ref ((zs g).heap.size + (n + 84)), .ref ((zs g).heap.size + (n + 86)), .ref ((zs g).heap.size + (n + 88)), .ref ((zs g).heap.size + (n + 98)), .int 0, .int (-1), .int (-1)]) := by
  simp only [yX12, va_up_self]
set_option maxRecDepth 100000 in
set_option maxHeartbeats 4000000 in
theorem c_yX12 {g : zGT} {w : zW} {j n : Nat} (h0 : yOk g) (h1 : zST g) (hj : j < n) (hw : w j = .inr (11, [.null, .null, .null, .null, .null, .null, .null, .null, .null, .null, .int 0, .int 0, .int 0])) : yCt g yX12_init cX12_init 1 (yR 3 100 6701) [.ref ((zs g).heap.size + j)] n w (yX12 g w j n) := by
  refine yCt_of (by decide +kernel) h0 [(0, .ref ((zs g).heap.size + j))] rfl (Nat.le_of_ble_eq_true rfl) ?_
  refine y_aload_n dX12_init_0 rfl ?_
  refine y_obj dX12_init_1 ko_RX12 ko_in ko_co rfl (Nat.le_of_ble_eq_true rfl) (Nat.le_of_ble_eq_true rfl) ?_
  refine y_aload_n dX12_init_4 rfl ?_
  refine y_new dX12_init_5 kL_RX12_9 rfl (Nat.le_of_ble_eq_true rfl) (Nat.le_of_ble_eq_true rfl) ?_
  refine y_eq (pc' := 8) (ce' := 1) (sl' := 4) (n' := n + 1) rfl rfl (by first | rfl | (simp only [yR, List.length]; omega)) (by first | rfl | (simp only [yR, List.length]; omega)) (by first | rfl | (simp only [yR, List.length]; omega)) ?_
  refine y_dup dX12_init_8 rfl ?_
  refine y_callN (R2 := yR 1 6 412) dX12_init_9 kI_X10 kk_RX12_11 rfl ⟨⟨Nat.le_of_ble_eq_true rfl, Nat.le_of_ble_eq_true rfl⟩, Nat.le_of_ble_eq_true rfl, Nat.le_of_ble_eq_true rfl⟩ (Nat.le_of_ble_eq_true rfl) (c_yX10 (j := n) (n := n + 1) h0 (by omega) (by simp (disch := omega) only [va_up_ne, va_up_self, yX5_o, yX6_o, yX4_o, yX7_o, yX8_o, yX1_o, yX10_o, yX3_o, yX9_o, hw])) ?_
  refine y_eq (pc' := 12) (ce' := 7) (sl' := 416) (n' := n + 7) rfl rfl (by first | rfl | (simp only [yR, List.length]; omega)) (by first | rfl | (simp only [yR, List.length]; omega)) (by first | rfl | (simp only [yR, List.length]; omega)) ?_
  refine y_putF (j := j) (fs := [.null, .null, .null, .null, .null, .null, .null, .null, .null, .null, .int 0, .int 0, .int 0]) (fs' := [.ref ((zs g).heap.size + n), .null, .null, .null, .null, .null, .null, .null, .null, .null, .int 0, .int 0, .int 0]) dX12_init_12 kF_RX12_12 zF_11_0 rfl rfl (by omega) rfl (by simp (disch := omega) only [va_up_ne, va_up_self, yX5_o, yX6_o, yX4_o, yX7_o, yX8_o, yX1_o, yX10_o, yX3_o, yX9_o, hw]) rfl rfl (Nat.le_of_ble_eq_true rfl) rfl ?_
  refine y_aload_n dX12_init_15 rfl ?_
  refine y_new dX12_init_16 kL_RX12_9 rfl (Nat.le_of_ble_eq_true rfl) (Nat.le_of_ble_eq_true rfl) ?_
  refine y_eq (pc' := 19) (ce' := 8) (sl' := 420) (n' := n + 8) rfl rfl (by first | rfl | (simp only [yR, List.length]; omega)) (by first | rfl | (simp only [yR, List.length]; omega)) (by first | rfl | (simp only [yR, List.length]; omega)) ?_
  refine y_dup dX12_init_19 rfl ?_
  refine y_callN (R2 := yR 1 6 412) dX12_init_20 kI_X10 kk_RX12_11 rfl ⟨⟨Nat.le_of_ble_eq_true rfl, Nat.le_of_ble_eq_true rfl⟩, Nat.le_of_ble_eq_true rfl, Nat.le_of_ble_eq_true rfl⟩ (Nat.le_of_ble_eq_true rfl) (c_yX10 (j := n + 7) (n := n + 8) h0 (by omega) (by simp (disch := omega) only [va_up_ne, va_up_self, yX5_o, yX6_o, yX4_o, yX7_o, yX8_o, yX1_o, yX10_o, yX3_o, yX9_o, hw])) ?_
  refine y_eq (pc' := 23) (ce' := 14) (sl' := 832) (n' := n + 14) rfl rfl (by first | rfl | (simp only [yR, List.length]; omega)) (by first | rfl | (simp only [yR, List.length]; omega)) (by first | rfl | (simp only [yR, List.length]; omega)) ?_
  refine y_putF (j := j) (fs := [.ref ((zs g).heap.size + n), .null, .null, .null, .null, .null, .null, .null, .null, .null, .int 0, .int 0, .int 0]) (fs' := [.ref ((zs g).heap.size + n), .ref ((zs g).heap.size + (n + 7)), .null, .null, .null, .null, .null, .null, .null, .null, .int 0, .int 0, .int 0]) dX12_init_23 kF_RX12_16 zF_11_1 rfl rfl (by omega) rfl (by simp (disch := omega) only [va_up_ne, va_up_self, yX5_o, yX6_o, yX4_o, yX7_o, yX8_o, yX1_o, yX10_o, yX3_o, yX9_o, hw]) rfl rfl (Nat.le_of_ble_eq_true rfl) rfl ?_
  refine y_aload_n dX12_init_26 rfl ?_
  refine y_new dX12_init_27 kL_RX12_9 rfl (Nat.le_of_ble_eq_true rfl) (Nat.le_of_ble_eq_true rfl) ?_
  refine y_eq (pc' := 30) (ce' := 15) (sl' := 836) (n' := n + 15) rfl rfl (by first | rfl | (simp only [yR, List.length]; omega)) (by first | rfl | (simp only [yR, List.length]; omega)) (by first | rfl | (simp only [yR, List.length]; omega)) ?_
  refine y_dup dX12_init_30 rfl ?_
  refine y_callN (R2 := yR 1 6 412) dX12_init_31 kI_X10 kk_RX12_11 rfl ⟨⟨Nat.le_of_ble_eq_true rfl, Nat.le_of_ble_eq_true rfl⟩, Nat.le_of_ble_eq_true rfl, Nat.le_of_ble_eq_true rfl⟩ (Nat.le_of_ble_eq_true rfl) (c_yX10 (j := n + 14) (n := n + 15) h0 (by omega) (by simp (disch := omega) only [va_up_ne, va_up_self, yX5_o, yX6_o, yX4_o, yX7_o, yX8_o, yX1_o, yX10_o, yX3_o, yX9_o, hw])) ?_
  refine y_eq (pc' := 34) (ce' := 21) (sl' := 1248) (n' := n + 21) rfl rfl (by first | rfl | (simp only [yR, List.length]; omega)) (by first | rfl | (simp only [yR, List.length]; omega)) (by first | rfl | (simp only [yR, List.length]; omega)) ?_
  refine y_putF (j := j) (fs := [.ref ((zs g).heap.size + n), .ref ((zs g).heap.size + (n + 7)), .null, .null, .null, .null, .null, .null, .null, .null, .int 0, .int 0, .int 0]) (fs' := [.ref ((zs g).heap.size + n), .ref ((zs g).heap.size + (n + 7)), .ref ((zs g).heap.size + (n + 14)), .null, .null, .null, .null, .null, .null, .null, .int 0, .int 0, .int 0]) dX12_init_34 kF_RX12_19 zF_11_2 rfl rfl (by omega) rfl (by simp (disch := omega) only [va_up_ne, va_up_self, yX5_o, yX6_o, yX4_o, yX7_o, yX8_o, yX1_o, yX10_o, yX3_o, yX9_o, hw]) rfl rfl (Nat.le_of_ble_eq_true rfl) rfl ?_
  refine y_aload_n dX12_init_37 rfl ?_
  refine y_new dX12_init_38 kL_RX12_22 rfl (Nat.le_of_ble_eq_true rfl) (Nat.le_of_ble_eq_true rfl) ?_
  refine y_eq (pc' := 41) (ce' := 22) (sl' := 1251) (n' := n + 22) rfl rfl (by first | rfl | (simp only [yR, List.length]; omega)) (by first | rfl | (simp only [yR, List.length]; omega)) (by first | rfl | (simp only [yR, List.length]; omega)) ?_
  refine y_dup dX12_init_41 rfl ?_
  refine y_callI (R2 := yR 2 57 3336) dX12_init_42 kI_X3 kk_RX12_24 rfl ⟨⟨Nat.le_of_ble_eq_true rfl, Nat.le_of_ble_eq_true rfl⟩, Nat.le_of_ble_eq_true rfl, Nat.le_of_ble_eq_true rfl⟩ (Nat.le_of_ble_eq_true rfl) (c_yX3 (j := n + 21) (n := n + 22) h0 (by omega) (by simp (disch := omega) only [va_up_ne, va_up_self, yX5_o, yX6_o, yX4_o, yX7_o, yX8_o, yX1_o, yX10_o, yX3_o, yX9_o, hw])) ?_
  refine y_eq (pc' := 45) (ce' := 79) (sl' := 4587) (n' := n + 79) rfl rfl (by first | rfl | (simp only [yR, List.length]; omega)) (by first | rfl | (simp only [yR, List.length]; omega)) (by first | rfl | (simp only [yR, List.length]; omega)) ?_
  refine y_putF (j := j) (fs := [.ref ((zs g).heap.size + n), .ref ((zs g).heap.size + (n + 7)), .ref ((zs g).heap.size + (n + 14)), .null, .null, .null, .null, .null, .null, .null, .int 0, .int 0, .int 0]) (fs' := [.ref ((zs g).heap.size + n), .ref ((zs g).heap.size + (n + 7)), .ref ((zs g).heap.size + (n + 14)), .ref ((zs g).heap.size + (n + 21)), .null, .null, .null, .null, .null, .null, .int 0, .int 0, .int 0]) dX12_init_45 kF_RX12_25 zF_11_3 rfl rfl (by omega) rfl (by simp (disch := omega) only [va_up_ne, va_up_self, yX5_o, yX6_o, yX4_o, yX7_o, yX8_o, yX1_o, yX10_o, yX3_o, yX9_o, hw]) rfl rfl (Nat.le_of_ble_eq_true rfl) rfl ?_
  refine y_aload_n dX12_init_48 rfl ?_
  refine y_new dX12_init_49 kL_RX12_29 rfl (Nat.le_of_ble_eq_true rfl) (Nat.le_of_ble_eq_true rfl) ?_
  refine y_eq (pc' := 52) (ce' := 80) (sl' := 4591) (n' := n + 80) rfl rfl (by first | rfl | (simp only [yR, List.length]; omega)) (by first | rfl | (simp only [yR, List.length]; omega)) (by first | rfl | (simp only [yR, List.length]; omega)) ?_
  refine y_dup dX12_init_52 rfl ?_
  refine y_callN (R2 := yR 0 3 600) dX12_init_53 kI_X8 kk_RX12_31 rfl ⟨⟨Nat.le_of_ble_eq_true rfl, Nat.le_of_ble_eq_true rfl⟩, Nat.le_of_ble_eq_true rfl, Nat.le_of_ble_eq_true rfl⟩ (Nat.le_of_ble_eq_true rfl) (c_yX8 (j := n + 79) (n := n + 80) h0 (by omega) (by simp (disch := omega) only [va_up_ne, va_up_self, yX5_o, yX6_o, yX4_o, yX7_o, yX8_o, yX1_o, yX10_o, yX3_o, yX9_o, hw])) ?_
  refine y_eq (pc' := 56) (ce' := 83) (sl' := 5191) (n' := n + 83) rfl rfl (by first | rfl | (simp only [yR, List.length]; omega)) (by first | rfl | (simp only [yR, List.length]; omega)) (by first | rfl | (simp only [yR, List.length]; omega)) ?_
  refine y_putF (j := j) (fs := [.ref ((zs g).heap.size + n), .ref ((zs g).heap.size + (n + 7)), .ref ((zs g).heap.size + (n + 14)), .ref ((zs g).heap.size + (n + 21)), .null, .null, .null, .null, .null, .null, .int 0, .int 0, .int 0]) (fs' := [.ref ((zs g).heap.size + n), .ref ((zs g).heap.size + (n + 7)), .ref ((zs g).heap.size + (n + 14)), .ref ((zs g).heap.size + (n + 21)), .ref ((zs g).heap.size + (n + 79)), .null, .null, .null, .null, .null, .int 0, .int 0, .int 0]) dX12_init_56 kF_RX12_32 zF_11_4 rfl rfl (by omega) rfl (by simp (disch := omega) only [va_up_ne, va_up_self, yX5_o, yX6_o, yX4_o, yX7_o, yX8_o, yX1_o, yX10_o, yX3_o, yX9_o, hw]) rfl rfl (Nat.le_of_ble_eq_true rfl) rfl ?_
  refine y_aload_n dX12_init_59 rfl ?_
  refine y_sipush (v := nI 200) dX12_init_60 rfl ?_
  refine y_newa (ty := .int) (t0 := 0) (a0 := (200, .inl (fun _ => 0))) dX12_init_63 rfl ka_int rfl (fun _ => rfl) (by decide) (by decide) (Nat.le_of_ble_eq_true rfl) (Nat.le_of_ble_eq_true rfl) ?_
  refine y_eq (pc' := 65) (ce' := 84) (sl' := 5391) (n' := n + 84) rfl rfl (by first | rfl | (simp only [yR, List.length]; omega)) (by first | rfl | (simp only [yR, List.length]; omega)) (by first | rfl | (simp only [yR, List.length]; omega)) ?_
  refine y_putF (j := j) (fs := [.ref ((zs g).heap.size + n), .ref ((zs g).heap.size + (n + 7)), .ref ((zs g).heap.size + (n + 14)), .ref ((zs g).heap.size + (n + 21)), .ref ((zs g).heap.size + (n + 79)), .null, .null, .null, .null, .null, .int 0, .int 0, .int 0]) (fs' := [.ref ((zs g).heap.size + n), .ref ((zs g).heap.size + (n + 7)), .ref ((zs g).heap.size + (n + 14)), .ref ((zs g).heap.size + (n + 21)), .ref ((zs g).heap.size + (n + 79)), .ref ((zs g).heap.size + (n + 83)), .null, .null, .null, .null, .int 0, .int 0, .int 0]) dX12_init_65 kF_RX12_36 zF_11_5 rfl rfl (by omega) rfl (by simp (disch := omega) only [va_up_ne, va_up_self, yX5_o, yX6_o, yX4_o, yX7_o, yX8_o, yX1_o, yX10_o, yX3_o, yX9_o, hw]) rfl rfl (Nat.le_of_ble_eq_true rfl) rfl ?_
  refine y_aload_n dX12_init_68 rfl ?_
  refine y_new dX12_init_69 kL_RX12_40 rfl (Nat.le_of_ble_eq_true rfl) (Nat.le_of_ble_eq_true rfl) ?_
  refine y_eq (pc' := 72) (ce' := 85) (sl' := 5395) (n' := n + 85) rfl rfl (by first | rfl | (simp only [yR, List.length]; omega)) (by first | rfl | (simp only [yR, List.length]; omega)) (by first | rfl | (simp only [yR, List.length]; omega)) ?_
  refine y_dup dX12_init_72 rfl ?_
  refine y_callN (R2 := yR 0 1 60) dX12_init_73 kI_X4 kk_RX12_42 rfl ⟨⟨Nat.le_of_ble_eq_true rfl, Nat.le_of_ble_eq_true rfl⟩, Nat.le_of_ble_eq_true rfl, Nat.le_of_ble_eq_true rfl⟩ (Nat.le_of_ble_eq_true rfl) (c_yX4 (j := n + 84) (n := n + 85) h0 (by omega) (by simp (disch := omega) only [va_up_ne, va_up_self, yX5_o, yX6_o, yX4_o, yX7_o, yX8_o, yX1_o, yX10_o, yX3_o, yX9_o, hw])) ?_
  refine y_eq (pc' := 76) (ce' := 86) (sl' := 5455) (n' := n + 86) rfl rfl (by first | rfl | (simp only [yR, List.length]; omega)) (by first | rfl | (simp only [yR, List.length]; omega)) (by first | rfl | (simp only [yR, List.length]; omega)) ?_
  refine y_putF (j := j) (fs := [.ref ((zs g).heap.size + n), .ref ((zs g).heap.size + (n + 7)), .ref ((zs g).heap.size + (n + 14)), .ref ((zs g).heap.size + (n + 21)), .ref ((zs g).heap.size + (n + 79)), .ref ((zs g).heap.size + (n + 83)), .null, .null, .null, .null, .int 0, .int 0, .int 0]) (fs' := [.ref ((zs g).heap.size + n), .ref ((zs g).heap.size + (n + 7)), .ref ((zs g).heap.size + (n + 14)), .ref ((zs g).heap.size + (n + 21)), .ref ((zs g).heap.size + (n + 79)), .ref ((zs g).heap.size + (n + 83)), .ref ((zs g).heap.size + (n + 84)), .null, .null, .null, .int 0, .int 0, .int 0]) dX12_init_76 kF_RX12_43 zF_11_6 rfl rfl (by omega) rfl (by simp (disch := omega) only [va_up_ne, va_up_self, yX5_o, yX6_o, yX4_o, yX7_o, yX8_o, yX1_o, yX10_o, yX3_o, yX9_o, hw]) rfl rfl (Nat.le_of_ble_eq_true rfl) rfl ?_
  refine y_aload_n dX12_init_79 rfl ?_
  refine y_new dX12_init_80 kL_RX12_47 rfl (Nat.le_of_ble_eq_true rfl) (Nat.le_of_ble_eq_true rfl) ?_
  refine y_eq (pc' := 83) (ce' := 87) (sl' := 5457) (n' := n + 87) rfl rfl (by first | rfl | (simp only [yR, List.length]; omega)) (by first | rfl | (simp only [yR, List.length]; omega)) (by first | rfl | (simp only [yR, List.length]; omega)) ?_
  refine y_dup dX12_init_83 rfl ?_
  refine y_callN (R2 := yR 0 1 200) dX12_init_84 kI_X5 kk_RX12_49 rfl ⟨⟨Nat.le_of_ble_eq_true rfl, Nat.le_of_ble_eq_true rfl⟩, Nat.le_of_ble_eq_true rfl, Nat.le_of_ble_eq_true rfl⟩ (Nat.le_of_ble_eq_true rfl) (c_yX5 (j := n + 86) (n := n + 87) h0 (by omega) (by simp (disch := omega) only [va_up_ne, va_up_self, yX5_o, yX6_o, yX4_o, yX7_o, yX8_o, yX1_o, yX10_o, yX3_o, yX9_o, hw])) ?_
  refine y_eq (pc' := 87) (ce' := 88) (sl' := 5657) (n' := n + 88) rfl rfl (by first | rfl | (simp only [yR, List.length]; omega)) (by first | rfl | (simp only [yR, List.length]; omega)) (by first | rfl | (simp only [yR, List.length]; omega)) ?_
  refine y_putF (j := j) (fs := [.ref ((zs g).heap.size + n), .ref ((zs g).heap.size + (n + 7)), .ref ((zs g).heap.size + (n + 14)), .ref ((zs g).heap.size + (n + 21)), .ref ((zs g).heap.size + (n + 79)), .ref ((zs g).heap.size + (n + 83)), .ref ((zs g).heap.size + (n + 84)), .null, .null, .null, .int 0, .int 0, .int 0]) (fs' := [.ref ((zs g).heap.size + n), .ref ((zs g).heap.size + (n + 7)), .ref ((zs g).heap.size + (n + 14)), .ref ((zs g).heap.size + (n + 21)), .ref ((zs g).heap.size + (n + 79)), .ref ((zs g).heap.size + (n + 83)), .ref ((zs g).heap.size + (n + 84)), .ref ((zs g).heap.size + (n + 86)), .null, .null, .int 0, .int 0, .int 0]) dX12_init_87 kF_RX12_50 zF_11_7 rfl rfl (by omega) rfl (by simp (disch := omega) only [va_up_ne, va_up_self, yX5_o, yX6_o, yX4_o, yX7_o, yX8_o, yX1_o, yX10_o, yX3_o, yX9_o, hw]) rfl rfl (Nat.le_of_ble_eq_true rfl) rfl ?_
  refine y_aload_n dX12_init_90 rfl ?_
  refine y_new dX12_init_91 kL_RX12_54 rfl (Nat.le_of_ble_eq_true rfl) (Nat.le_of_ble_eq_true rfl) ?_
  refine y_eq (pc' := 94) (ce' := 89) (sl' := 5659) (n' := n + 89) rfl rfl (by first | rfl | (simp only [yR, List.length]; omega)) (by first | rfl | (simp only [yR, List.length]; omega)) (by first | rfl | (simp only [yR, List.length]; omega)) ?_
  refine y_dup dX12_init_94 rfl ?_
  refine y_callI (R2 := yR 1 9 40) dX12_init_95 kI_X9 kk_RX12_56 rfl ⟨⟨Nat.le_of_ble_eq_true rfl, Nat.le_of_ble_eq_true rfl⟩, Nat.le_of_ble_eq_true rfl, Nat.le_of_ble_eq_true rfl⟩ (Nat.le_of_ble_eq_true rfl) (c_yX9 (j := n + 88) (n := n + 89) h0 h1 (by omega) (by simp (disch := omega) only [va_up_ne, va_up_self, yX5_o, yX6_o, yX4_o, yX7_o, yX8_o, yX1_o, yX10_o, yX3_o, yX9_o, hw])) ?_
  refine y_eq (pc' := 98) (ce' := 98) (sl' := 5699) (n' := n + 98) rfl rfl (by first | rfl | (simp only [yR, List.length]; omega)) (by first | rfl | (simp only [yR, List.length]; omega)) (by first | rfl | (simp only [yR, List.length]; omega)) ?_
  refine y_putF (j := j) (fs := [.ref ((zs g).heap.size + n), .ref ((zs g).heap.size + (n + 7)), .ref ((zs g).heap.size + (n + 14)), .ref ((zs g).heap.size + (n + 21)), .ref ((zs g).heap.size + (n + 79)), .ref ((zs g).heap.size + (n + 83)), .ref ((zs g).heap.size + (n + 84)), .ref ((zs g).heap.size + (n + 86)), .null, .null, .int 0, .int 0, .int 0]) (fs' := [.ref ((zs g).heap.size + n), .ref ((zs g).heap.size + (n + 7)), .ref ((zs g).heap.size + (n + 14)), .ref ((zs g).heap.size + (n + 21)), .ref ((zs g).heap.size + (n + 79)), .ref ((zs g).heap.size + (n + 83)), .ref ((zs g).heap.size + (n + 84)), .ref ((zs g).heap.size + (n + 86)), .ref ((zs g).heap.size + (n + 88)), .null, .int 0, .int 0, .int 0]) dX12_init_98 kF_RX12_57 zF_11_8 rfl rfl (by omega) rfl (by simp (disch := omega) only [va_up_ne, va_up_self, yX5_o, yX6_o, yX4_o, yX7_o, yX8_o, yX1_o, yX10_o, yX3_o, yX9_o, hw]) rfl rfl (Nat.le_of_ble_eq_true rfl) rfl ?_
  refine y_aload_n dX12_init_101 rfl ?_
  refine y_new dX12_init_102 kL_RX12_61 rfl (Nat.le_of_ble_eq_true rfl) (Nat.le_of_ble_eq_true rfl) ?_
  refine y_eq (pc' := 105) (ce' := 99) (sl' := 5701) (n' := n + 99) rfl rfl (by first | rfl | (simp only [yR, List.length]; omega)) (by first | rfl | (simp only [yR, List.length]; omega)) (by first | rfl | (simp only [yR, List.length]; omega)) ?_
  refine y_dup dX12_init_105 rfl ?_
  refine y_callN (R2 := yR 0 1 1000) dX12_init_106 kI_X7 kk_RX12_63 rfl ⟨⟨Nat.le_of_ble_eq_true rfl, Nat.le_of_ble_eq_true rfl⟩, Nat.le_of_ble_eq_true rfl, Nat.le_of_ble_eq_true rfl⟩ (Nat.le_of_ble_eq_true rfl) (c_yX7 (j := n + 98) (n := n + 99) h0 (by omega) (by simp (disch := omega) only [va_up_ne, va_up_self, yX5_o, yX6_o, yX4_o, yX7_o, yX8_o, yX1_o, yX10_o, yX3_o, yX9_o, hw])) ?_
  refine y_eq (pc' := 109) (ce' := 100) (sl' := 6701) (n' := n + 100) rfl rfl (by first | rfl | (simp only [yR, List.length]; omega)) (by first | rfl | (simp only [yR, List.length]; omega)) (by first | rfl | (simp only [yR, List.length]; omega)) ?_
  refine y_putF (j := j) (fs := [.ref ((zs g).heap.size + n), .ref ((zs g).heap.size + (n + 7)), .ref ((zs g).heap.size + (n + 14)), .ref ((zs g).heap.size + (n + 21)), .ref ((zs g).heap.size + (n + 79)), .ref ((zs g).heap.size + (n + 83)), .ref ((zs g).heap.size + (n + 84)), .ref ((zs g).heap.size + (n + 86)), .ref ((zs g).heap.size + (n + 88)), .null, .int 0, .int 0, .int 0]) (fs' := [.ref ((zs g).heap.size + n), .ref ((zs g).heap.size + (n + 7)), .ref ((zs g).heap.size + (n + 14)), .ref ((zs g).heap.size + (n + 21)), .ref ((zs g).heap.size + (n + 79)), .ref ((zs g).heap.size + (n + 83)), .ref ((zs g).heap.size + (n + 84)), .ref ((zs g).heap.size + (n + 86)), .ref ((zs g).heap.size + (n + 88)), .ref ((zs g).heap.size + (n + 98)), .int 0, .int 0, .int 0]) dX12_init_109 kF_RX12_64 zF_11_9 rfl rfl (by omega) rfl (by simp (disch := omega) only [va_up_ne, va_up_self, yX5_o, yX6_o, yX4_o, yX7_o, yX8_o, yX1_o, yX10_o, yX3_o, yX9_o, hw]) rfl rfl (Nat.le_of_ble_eq_true rfl) rfl ?_
  refine y_aload_n dX12_init_112 rfl ?_
  refine y_iconst (v := -1) dX12_init_113 rfl ?_
  refine y_putf (j := j) (fs := [.ref ((zs g).heap.size + n), .ref ((zs g).heap.size + (n + 7)), .ref ((zs g).heap.size + (n + 14)), .ref ((zs g).heap.size + (n + 21)), .ref ((zs g).heap.size + (n + 79)), .ref ((zs g).heap.size + (n + 83)), .ref ((zs g).heap.size + (n + 84)), .ref ((zs g).heap.size + (n + 86)), .ref ((zs g).heap.size + (n + 88)), .ref ((zs g).heap.size + (n + 98)), .int 0, .int 0, .int 0]) (fs' := [.ref ((zs g).heap.size + n), .ref ((zs g).heap.size + (n + 7)), .ref ((zs g).heap.size + (n + 14)), .ref ((zs g).heap.size + (n + 21)), .ref ((zs g).heap.size + (n + 79)), .ref ((zs g).heap.size + (n + 83)), .ref ((zs g).heap.size + (n + 84)), .ref ((zs g).heap.size + (n + 86)), .ref ((zs g).heap.size + (n + 88)), .ref ((zs g).heap.size + (n + 98)), .int 0, .int (-1), .int 0]) dX12_init_114 kF_RX12_68 zt_11_11 rfl (by omega) rfl (by simp (disch := omega) only [va_up_ne, va_up_self, yX5_o, yX6_o, yX4_o, yX7_o, yX8_o, yX1_o, yX10_o, yX3_o, yX9_o, hw]) rfl rfl (Nat.le_of_ble_eq_true rfl) rfl ?_
  refine y_aload_n dX12_init_117 rfl ?_
  refine y_iconst (v := -1) dX12_init_118 rfl ?_
  refine y_putf (j := j) (fs := [.ref ((zs g).heap.size + n), .ref ((zs g).heap.size + (n + 7)), .ref ((zs g).heap.size + (n + 14)), .ref ((zs g).heap.size + (n + 21)), .ref ((zs g).heap.size + (n + 79)), .ref ((zs g).heap.size + (n + 83)), .ref ((zs g).heap.size + (n + 84)), .ref ((zs g).heap.size + (n + 86)), .ref ((zs g).heap.size + (n + 88)), .ref ((zs g).heap.size + (n + 98)), .int 0, .int (-1), .int 0]) (fs' := [.ref ((zs g).heap.size + n), .ref ((zs g).heap.size + (n + 7)), .ref ((zs g).heap.size + (n + 14)), .ref ((zs g).heap.size + (n + 21)), .ref ((zs g).heap.size + (n + 79)), .ref ((zs g).heap.size + (n + 83)), .ref ((zs g).heap.size + (n + 84)), .ref ((zs g).heap.size + (n + 86)), .ref ((zs g).heap.size + (n + 88)), .ref ((zs g).heap.size + (n + 98)), .int 0, .int (-1), .int (-1)]) dX12_init_119 kF_RX12_72 zt_11_12 rfl (by omega) rfl (by simp (disch := omega) only [va_up_ne, va_up_self, yX5_o, yX6_o, yX4_o, yX7_o, yX8_o, yX1_o, yX10_o, yX3_o, yX9_o, hw]) rfl rfl (Nat.le_of_ble_eq_true rfl) rfl ?_
  exact y_vret dX12_init_122 rfl (Nat.le_of_ble_eq_true rfl) (Nat.le_of_ble_eq_true rfl) rfl (fun _ _ => rfl)
