/-! links: by a program, out of the tables (places of the words) -/
set_option maxRecDepth 100000 in
theorem cwX0 : ∀ w ∈ u_ws RX0 TX0 3, w ∈ gAL := by
  intro w hw
  obtain ⟨k, hk, rfl⟩ := List.mem_map.mp hw
  have hk := List.mem_range.mp hk
  rcases (show k = 0 ∨ k = 1 ∨ k = 2 by omega) with rfl | rfl | rfl
  · exact wd_204
  · exact wd_206
  · exact wd_208
set_option maxRecDepth 100000 in
theorem cwX1 : ∀ w ∈ u_ws RX1 TX1 14, w ∈ gAL := by
  intro w hw
  obtain ⟨k, hk, rfl⟩ := List.mem_map.mp hw
  have hk := List.mem_range.mp hk
  rcases (show k = 0 ∨ k = 1 ∨ k = 2 ∨ k = 3 ∨ k = 4 ∨ k = 5 ∨ k = 6 ∨ k = 7 ∨ k = 8 ∨ k = 9 ∨ k = 10 ∨ k = 11 ∨ k = 12 ∨ k = 13 by omega) with rfl | rfl | rfl | rfl | rfl | rfl | rfl | rfl | rfl | rfl | rfl | rfl | rfl | rfl
  · exact wd_120
  · exact wd_122
  · exact wd_124
  · exact wd_126
  · exact wd_128
  · exact wd_130
  · exact wd_132
  · exact wd_134
  · exact wd_136
  · exact wd_138
  · exact wd_140
  · exact wd_142
  · exact wd_144
  · exact wd_146
set_option maxRecDepth 100000 in
theorem cwX2 : ∀ w ∈ u_ws RX2 TX2 3, w ∈ gAL := by
  intro w hw
  obtain ⟨k, hk, rfl⟩ := List.mem_map.mp hw
  have hk := List.mem_range.mp hk
  rcases (show k = 0 ∨ k = 1 ∨ k = 2 by omega) with rfl | rfl | rfl
  · exact wd_188
  · exact wd_190
  · exact wd_192
set_option maxRecDepth 100000 in
theorem cwX3 : ∀ w ∈ u_ws RX3 TX3 4, w ∈ gAL := by
  intro w hw
  obtain ⟨k, hk, rfl⟩ := List.mem_map.mp hw
  have hk := List.mem_range.mp hk
  rcases (show k = 0 ∨ k = 1 ∨ k = 2 ∨ k = 3 by omega) with rfl | rfl | rfl | rfl
  · exact wd_264
  · exact wd_266
  · exact wd_268
  · exact wd_270
set_option maxRecDepth 100000 in
theorem cwX4 : ∀ w ∈ u_ws RX4 TX4 2, w ∈ gAL := by
  intro w hw
  obtain ⟨k, hk, rfl⟩ := List.mem_map.mp hw
  have hk := List.mem_range.mp hk
  rcases (show k = 0 ∨ k = 1 by omega) with rfl | rfl
  · exact wd_167
  · exact wd_169
set_option maxRecDepth 100000 in
theorem cwX5 : ∀ w ∈ u_ws RX5 TX5 9, w ∈ gAL := by
  intro w hw
  obtain ⟨k, hk, rfl⟩ := List.mem_map.mp hw
  have hk := List.mem_range.mp hk
  rcases (show k = 0 ∨ k = 1 ∨ k = 2 ∨ k = 3 ∨ k = 4 ∨ k = 5 ∨ k = 6 ∨ k = 7 ∨ k = 8 by omega) with rfl | rfl | rfl | rfl | rfl | rfl | rfl | rfl | rfl
  · exact wd_235
  · exact wd_237
  · exact wd_239
  · exact wd_241
  · exact wd_243
  · exact wd_245
  · exact wd_247
  · exact wd_249
  · exact wd_251
set_option maxRecDepth 100000 in
theorem cwX7 : ∀ w ∈ u_ws RX7 TX7 3, w ∈ gAL := by
  intro w hw
  obtain ⟨k, hk, rfl⟩ := List.mem_map.mp hw
  have hk := List.mem_range.mp hk
  rcases (show k = 0 ∨ k = 1 ∨ k = 2 by omega) with rfl | rfl | rfl
  · exact wd_282
  · exact wd_284
  · exact wd_286
set_option maxRecDepth 100000 in
theorem cwX8 : ∀ w ∈ u_ws RX8 TX8 13, w ∈ gAL := by
  intro w hw
  obtain ⟨k, hk, rfl⟩ := List.mem_map.mp hw
  have hk := List.mem_range.mp hk
  rcases (show k = 0 ∨ k = 1 ∨ k = 2 ∨ k = 3 ∨ k = 4 ∨ k = 5 ∨ k = 6 ∨ k = 7 ∨ k = 8 ∨ k = 9 ∨ k = 10 ∨ k = 11 ∨ k = 12 by omega) with rfl | rfl | rfl | rfl | rfl | rfl | rfl | rfl | rfl | rfl | rfl | rfl | rfl
  · exact wd_302
  · exact wd_304
  · exact wd_306
  · exact wd_308
  · exact wd_310
  · exact wd_312
  · exact wd_314
  · exact wd_316
  · exact wd_318
  · exact wd_320
  · exact wd_322
  · exact wd_324
  · exact wd_326
set_option maxRecDepth 100000 in
theorem cwX9 : ∀ w ∈ u_ws RX9 TX9 22, w ∈ gAL := by
  intro w hw
  obtain ⟨k, hk, rfl⟩ := List.mem_map.mp hw
  have hk := List.mem_range.mp hk
  rcases (show k = 0 ∨ k = 1 ∨ k = 2 ∨ k = 3 ∨ k = 4 ∨ k = 5 ∨ k = 6 ∨ k = 7 ∨ k = 8 ∨ k = 9 ∨ k = 10 ∨ k = 11 ∨ k = 12 ∨ k = 13 ∨ k = 14 ∨ k = 15 ∨ k = 16 ∨ k = 17 ∨ k = 18 ∨ k = 19 ∨ k = 20 ∨ k = 21 by omega) with rfl | rfl | rfl | rfl | rfl | rfl | rfl | rfl | rfl | rfl | rfl | rfl | rfl | rfl | rfl | rfl | rfl | rfl | rfl | rfl | rfl | rfl
  · exact wd_957
  · exact wd_959
  · exact wd_961
  · exact wd_963
  · exact wd_965
  · exact wd_967
  · exact wd_969
  · exact wd_971
  · exact wd_973
  · exact wd_975
  · exact wd_977
  · exact wd_979
  · exact wd_981
  · exact wd_983
  · exact wd_985
  · exact wd_987
  · exact wd_989
  · exact wd_991
  · exact wd_993
  · exact wd_995
  · exact wd_997
  · exact wd_999
theorem fl_X0_9 : gFl RX0 9 0 0 RX0 TX0 3 := ⟨cwX0, rfl, by decide, wd_201⟩
theorem fp_X0_9 : gFp RX0 9 0 0 RX0 TX0 3 true (.array .int) := ⟨fl_X0_9, ⟨tyX0, tyX0_ok⟩, nmX0, rfl, by decide +kernel⟩
theorem fl_X0_15 : gFl RX0 15 0 1 RX0 TX0 3 := ⟨cwX0, rfl, by decide, wd_202⟩
theorem fp_X0_15 : gFp RX0 15 0 1 RX0 TX0 3 true (.array .int) := ⟨fl_X0_15, ⟨tyX0, tyX0_ok⟩, nmX0, rfl, by decide +kernel⟩
theorem fl_X0_18 : gFl RX0 18 0 2 RX0 TX0 3 := ⟨cwX0, rfl, by decide, wd_203⟩
theorem fp_X0_18 : gFp RX0 18 0 2 RX0 TX0 3 true (.array .int) := ⟨fl_X0_18, ⟨tyX0, tyX0_ok⟩, nmX0, rfl, by decide +kernel⟩
theorem fl_X0_21 : gFl RX0 21 1 0 RX1 TX1 14 := ⟨cwX1, rfl, by decide, wd_81⟩
theorem fl_X0_41 : gFl RX0 41 1 4 RX1 TX1 14 := ⟨cwX1, rfl, by decide, wd_93⟩
theorem fl_X0_52 : gFl RX0 52 1 6 RX1 TX1 14 := ⟨cwX1, rfl, by decide, wd_98⟩
theorem fl_X0_68 : gFl RX0 68 1 7 RX1 TX1 14 := ⟨cwX1, rfl, by decide, wd_104⟩
theorem fl_X0_96 : gFl RX0 96 1 5 RX1 TX1 14 := ⟨cwX1, rfl, by decide, wd_96⟩
theorem fl_X1_9 : gFl RX1 9 1 1 RX1 TX1 14 := ⟨cwX1, rfl, by decide, wd_85⟩
theorem fp_X1_9 : gFp RX1 9 1 1 RX1 TX1 14 true (.array .int) := ⟨fl_X1_9, ⟨tyX1, tyX1_ok⟩, nmX1, rfl, by decide +kernel⟩
theorem fl_X1_15 : gFl RX1 15 1 2 RX1 TX1 14 := ⟨cwX1, rfl, by decide, wd_87⟩
theorem fp_X1_15 : gFp RX1 15 1 2 RX1 TX1 14 true (.array .int) := ⟨fl_X1_15, ⟨tyX1, tyX1_ok⟩, nmX1, rfl, by decide +kernel⟩
theorem fl_X1_18 : gFl RX1 18 1 3 RX1 TX1 14 := ⟨cwX1, rfl, by decide, wd_89⟩
theorem fp_X1_18 : gFp RX1 18 1 3 RX1 TX1 14 true (.array .int) := ⟨fl_X1_18, ⟨tyX1, tyX1_ok⟩, nmX1, rfl, by decide +kernel⟩
theorem fl_X1_21 : gFl RX1 21 1 5 RX1 TX1 14 := ⟨cwX1, rfl, by decide, wd_95⟩
theorem fp_X1_21 : gFp RX1 21 1 5 RX1 TX1 14 true (.array .int) := ⟨fl_X1_21, ⟨tyX1, tyX1_ok⟩, nmX1, rfl, by decide +kernel⟩
theorem fl_X1_24 : gFl RX1 24 1 6 RX1 TX1 14 := ⟨cwX1, rfl, by decide, wd_97⟩
theorem fp_X1_24 : gFp RX1 24 1 6 RX1 TX1 14 true (.array .int) := ⟨fl_X1_24, ⟨tyX1, tyX1_ok⟩, nmX1, rfl, by decide +kernel⟩
theorem fl_X1_27 : gFl RX1 27 1 7 RX1 TX1 14 := ⟨cwX1, rfl, by decide, wd_100⟩
theorem fp_X1_27 : gFp RX1 27 1 7 RX1 TX1 14 true (.array .int) := ⟨fl_X1_27, ⟨tyX1, tyX1_ok⟩, nmX1, rfl, by decide +kernel⟩
theorem fl_X1_30 : gFl RX1 30 1 9 RX1 TX1 14 := ⟨cwX1, rfl, by decide, wd_108⟩
theorem fp_X1_30 : gFp RX1 30 1 9 RX1 TX1 14 true (.array .int) := ⟨fl_X1_30, ⟨tyX1, tyX1_ok⟩, nmX1, rfl, by decide +kernel⟩
theorem fl_X1_33 : gFl RX1 33 1 11 RX1 TX1 14 := ⟨cwX1, rfl, by decide, wd_113⟩
theorem fp_X1_33 : gFp RX1 33 1 11 RX1 TX1 14 true (.array .int) := ⟨fl_X1_33, ⟨tyX1, tyX1_ok⟩, nmX1, rfl, by decide +kernel⟩
theorem fl_X1_36 : gFl RX1 36 1 13 RX1 TX1 14 := ⟨cwX1, rfl, by decide, wd_118⟩
theorem fp_X1_36 : gFp RX1 36 1 13 RX1 TX1 14 true (.array .int) := ⟨fl_X1_36, ⟨tyX1, tyX1_ok⟩, nmX1, rfl, by decide +kernel⟩
theorem fl_X1_39 : gFl RX1 39 1 0 RX1 TX1 14 := ⟨cwX1, rfl, by decide, wd_82⟩
theorem fp_X1_39 : gFp RX1 39 1 0 RX1 TX1 14 false (.int) := ⟨fl_X1_39, ⟨tyX1, tyX1_ok⟩, nmX1, rfl, by decide +kernel⟩
theorem fl_X1_47 : gFl RX1 47 1 4 RX1 TX1 14 := ⟨cwX1, rfl, by decide, wd_92⟩
theorem fp_X1_47 : gFp RX1 47 1 4 RX1 TX1 14 false (.int) := ⟨fl_X1_47, ⟨tyX1, tyX1_ok⟩, nmX1, rfl, by decide +kernel⟩
theorem fl_X1_50 : gFl RX1 50 1 8 RX1 TX1 14 := ⟨cwX1, rfl, by decide, wd_106⟩
theorem fp_X1_50 : gFp RX1 50 1 8 RX1 TX1 14 false (.int) := ⟨fl_X1_50, ⟨tyX1, tyX1_ok⟩, nmX1, rfl, by decide +kernel⟩
theorem fl_X1_53 : gFl RX1 53 1 10 RX1 TX1 14 := ⟨cwX1, rfl, by decide, wd_110⟩
theorem fp_X1_53 : gFp RX1 53 1 10 RX1 TX1 14 false (.int) := ⟨fl_X1_53, ⟨tyX1, tyX1_ok⟩, nmX1, rfl, by decide +kernel⟩
theorem fl_X1_56 : gFl RX1 56 1 12 RX1 TX1 14 := ⟨cwX1, rfl, by decide, wd_115⟩
theorem fp_X1_56 : gFp RX1 56 1 12 RX1 TX1 14 false (.int) := ⟨fl_X1_56, ⟨tyX1, tyX1_ok⟩, nmX1, rfl, by decide +kernel⟩
theorem fl_X2_12 : gFl RX2 12 2 0 RX2 TX2 3 := ⟨cwX2, rfl, by decide, wd_183⟩
theorem fp_X2_12 : gFp RX2 12 2 0 RX2 TX2 3 true (.object "FilmNoises$Limbs") := ⟨fl_X2_12, ⟨tyX2, tyX2_ok⟩, nmX2, rfl, by decide +kernel⟩
theorem fl_X2_18 : gFl RX2 18 2 1 RX2 TX2 3 := ⟨cwX2, rfl, by decide, wd_185⟩
theorem fp_X2_18 : gFp RX2 18 2 1 RX2 TX2 3 true (.object "FilmNoises$Limbs") := ⟨fl_X2_18, ⟨tyX2, tyX2_ok⟩, nmX2, rfl, by decide +kernel⟩
theorem fl_X2_21 : gFl RX2 21 2 2 RX2 TX2 3 := ⟨cwX2, rfl, by decide, wd_187⟩
theorem fp_X2_21 : gFp RX2 21 2 2 RX2 TX2 3 true (.object "FilmNoises$Limbs") := ⟨fl_X2_21, ⟨tyX2, tyX2_ok⟩, nmX2, rfl, by decide +kernel⟩
theorem fl_X2_57 : gFl RX2 57 1 10 RX1 TX1 14 := ⟨cwX1, rfl, by decide, wd_111⟩
theorem fl_X2_73 : gFl RX2 73 1 12 RX1 TX1 14 := ⟨cwX1, rfl, by decide, wd_116⟩
theorem fl_X2_76 : gFl RX2 76 1 13 RX1 TX1 14 := ⟨cwX1, rfl, by decide, wd_119⟩
theorem fl_X2_94 : gFl RX2 94 4 1 RX4 TX4 2 := ⟨cwX4, rfl, by decide, wd_165⟩
theorem fl_X3_9 : gFl RX3 9 3 0 RX3 TX3 4 := ⟨cwX3, rfl, by decide, wd_260⟩
theorem fp_X3_9 : gFp RX3 9 3 0 RX3 TX3 4 true (.array .int) := ⟨fl_X3_9, ⟨tyX3, tyX3_ok⟩, nmX3, rfl, by decide +kernel⟩
theorem fl_X3_15 : gFl RX3 15 3 1 RX3 TX3 4 := ⟨cwX3, rfl, by decide, wd_261⟩
theorem fp_X3_15 : gFp RX3 15 3 1 RX3 TX3 4 true (.array .int) := ⟨fl_X3_15, ⟨tyX3, tyX3_ok⟩, nmX3, rfl, by decide +kernel⟩
theorem fl_X3_18 : gFl RX3 18 5 1 RX5 TX5 9 := ⟨cwX5, rfl, by decide, wd_219⟩
theorem fl_X3_24 : gFl RX3 24 3 2 RX3 TX3 4 := ⟨cwX3, rfl, by decide, wd_262⟩
theorem fp_X3_24 : gFp RX3 24 3 2 RX3 TX3 4 false (.int) := ⟨fl_X3_24, ⟨tyX3, tyX3_ok⟩, nmX3, rfl, by decide +kernel⟩
theorem fl_X3_25 : gFl RX3 25 1 7 RX1 TX1 14 := ⟨cwX1, rfl, by decide, wd_101⟩
theorem fl_X3_34 : gFl RX3 34 3 3 RX3 TX3 4 := ⟨cwX3, rfl, by decide, wd_263⟩
theorem fp_X3_34 : gFp RX3 34 3 3 RX3 TX3 4 false (.int) := ⟨fl_X3_34, ⟨tyX3, tyX3_ok⟩, nmX3, rfl, by decide +kernel⟩
theorem fl_X3_37 : gFl RX3 37 5 2 RX5 TX5 9 := ⟨cwX5, rfl, by decide, wd_224⟩
theorem fl_X3_42 : gFl RX3 42 5 3 RX5 TX5 9 := ⟨cwX5, rfl, by decide, wd_226⟩
theorem fl_X3_45 : gFl RX3 45 5 6 RX5 TX5 9 := ⟨cwX5, rfl, by decide, wd_232⟩
theorem fl_X4_9 : gFl RX4 9 4 0 RX4 TX4 2 := ⟨cwX4, rfl, by decide, wd_162⟩
theorem fp_X4_9 : gFp RX4 9 4 0 RX4 TX4 2 true (.array .int) := ⟨fl_X4_9, ⟨tyX4, tyX4_ok⟩, nmX4, rfl, by decide +kernel⟩
theorem fl_X4_13 : gFl RX4 13 4 1 RX4 TX4 2 := ⟨cwX4, rfl, by decide, wd_164⟩
theorem fp_X4_13 : gFp RX4 13 4 1 RX4 TX4 2 false (.int) := ⟨fl_X4_13, ⟨tyX4, tyX4_ok⟩, nmX4, rfl, by decide +kernel⟩
theorem fl_X5_9 : gFl RX5 9 5 2 RX5 TX5 9 := ⟨cwX5, rfl, by decide, wd_223⟩
theorem fp_X5_9 : gFp RX5 9 5 2 RX5 TX5 9 true (.array .int) := ⟨fl_X5_9, ⟨tyX5, tyX5_ok⟩, nmX5, rfl, by decide +kernel⟩
theorem fl_X5_15 : gFl RX5 15 5 3 RX5 TX5 9 := ⟨cwX5, rfl, by decide, wd_225⟩
theorem fp_X5_15 : gFp RX5 15 5 3 RX5 TX5 9 true (.array .int) := ⟨fl_X5_15, ⟨tyX5, tyX5_ok⟩, nmX5, rfl, by decide +kernel⟩
theorem fl_X5_18 : gFl RX5 18 5 4 RX5 TX5 9 := ⟨cwX5, rfl, by decide, wd_227⟩
theorem fp_X5_18 : gFp RX5 18 5 4 RX5 TX5 9 true (.array .int) := ⟨fl_X5_18, ⟨tyX5, tyX5_ok⟩, nmX5, rfl, by decide +kernel⟩
theorem fl_X5_21 : gFl RX5 21 5 5 RX5 TX5 9 := ⟨cwX5, rfl, by decide, wd_229⟩
theorem fp_X5_21 : gFp RX5 21 5 5 RX5 TX5 9 true (.array .int) := ⟨fl_X5_21, ⟨tyX5, tyX5_ok⟩, nmX5, rfl, by decide +kernel⟩
theorem fl_X5_24 : gFl RX5 24 5 6 RX5 TX5 9 := ⟨cwX5, rfl, by decide, wd_231⟩
theorem fp_X5_24 : gFp RX5 24 5 6 RX5 TX5 9 true (.array .int) := ⟨fl_X5_24, ⟨tyX5, tyX5_ok⟩, nmX5, rfl, by decide +kernel⟩
theorem fl_X5_27 : gFl RX5 27 5 0 RX5 TX5 9 := ⟨cwX5, rfl, by decide, wd_217⟩
theorem fp_X5_27 : gFp RX5 27 5 0 RX5 TX5 9 false (.int) := ⟨fl_X5_27, ⟨tyX5, tyX5_ok⟩, nmX5, rfl, by decide +kernel⟩
theorem fl_X5_31 : gFl RX5 31 5 1 RX5 TX5 9 := ⟨cwX5, rfl, by decide, wd_221⟩
theorem fp_X5_31 : gFp RX5 31 5 1 RX5 TX5 9 false (.int) := ⟨fl_X5_31, ⟨tyX5, tyX5_ok⟩, nmX5, rfl, by decide +kernel⟩
theorem fl_X5_34 : gFl RX5 34 5 7 RX5 TX5 9 := ⟨cwX5, rfl, by decide, wd_233⟩
theorem fp_X5_34 : gFp RX5 34 5 7 RX5 TX5 9 false (.int) := ⟨fl_X5_34, ⟨tyX5, tyX5_ok⟩, nmX5, rfl, by decide +kernel⟩
theorem fl_X5_37 : gFl RX5 37 5 8 RX5 TX5 9 := ⟨cwX5, rfl, by decide, wd_234⟩
theorem fp_X5_37 : gFp RX5 37 5 8 RX5 TX5 9 false (.int) := ⟨fl_X5_37, ⟨tyX5, tyX5_ok⟩, nmX5, rfl, by decide +kernel⟩
theorem fl_X5_40 : gFl RX5 40 1 8 RX1 TX1 14 := ⟨cwX1, rfl, by decide, wd_105⟩
theorem fl_X5_55 : gFl RX5 55 1 9 RX1 TX1 14 := ⟨cwX1, rfl, by decide, wd_109⟩
theorem fl_X5_98 : gFl RX5 98 1 0 RX1 TX1 14 := ⟨cwX1, rfl, by decide, wd_84⟩
theorem fl_X6_9 : gFl RX6 9 1 1 RX1 TX1 14 := ⟨cwX1, rfl, by decide, wd_86⟩
theorem fl_X6_21 : gFl RX6 21 1 3 RX1 TX1 14 := ⟨cwX1, rfl, by decide, wd_90⟩
theorem fl_X6_24 : gFl RX6 24 1 2 RX1 TX1 14 := ⟨cwX1, rfl, by decide, wd_88⟩
theorem fl_X7_9 : gFl RX7 9 6 0 RX7 TX7 3 := ⟨cwX7, rfl, by decide, wd_279⟩
theorem fp_X7_9 : gFp RX7 9 6 0 RX7 TX7 3 true (.array .int) := ⟨fl_X7_9, ⟨tyX7, tyX7_ok⟩, nmX7, rfl, by decide +kernel⟩
theorem fl_X7_15 : gFl RX7 15 6 1 RX7 TX7 3 := ⟨cwX7, rfl, by decide, wd_280⟩
theorem fp_X7_15 : gFp RX7 15 6 1 RX7 TX7 3 true (.array .int) := ⟨fl_X7_15, ⟨tyX7, tyX7_ok⟩, nmX7, rfl, by decide +kernel⟩
theorem fl_X7_18 : gFl RX7 18 5 1 RX5 TX5 9 := ⟨cwX5, rfl, by decide, wd_220⟩
theorem fl_X7_24 : gFl RX7 24 6 2 RX7 TX7 3 := ⟨cwX7, rfl, by decide, wd_281⟩
theorem fp_X7_24 : gFp RX7 24 6 2 RX7 TX7 3 false (.int) := ⟨fl_X7_24, ⟨tyX7, tyX7_ok⟩, nmX7, rfl, by decide +kernel⟩
theorem fl_X7_41 : gFl RX7 41 5 4 RX5 TX5 9 := ⟨cwX5, rfl, by decide, wd_228⟩
theorem fl_X7_48 : gFl RX7 48 1 7 RX1 TX1 14 := ⟨cwX1, rfl, by decide, wd_102⟩
theorem fl_X7_53 : gFl RX7 53 5 5 RX5 TX5 9 := ⟨cwX5, rfl, by decide, wd_230⟩
theorem fl_X8_10 : gFl RX8 10 7 0 RX8 TX8 13 := ⟨cwX8, rfl, by decide, wd_289⟩
theorem fp_X8_10 : gFp RX8 10 7 0 RX8 TX8 13 true (.object "FilmNoises$Film") := ⟨fl_X8_10, ⟨tyX8, tyX8_ok⟩, nmX8, rfl, by decide +kernel⟩
theorem fl_X8_16 : gFl RX8 16 7 1 RX8 TX8 13 := ⟨cwX8, rfl, by decide, wd_290⟩
theorem fp_X8_16 : gFp RX8 16 7 1 RX8 TX8 13 true (.object "FilmNoises$Film") := ⟨fl_X8_16, ⟨tyX8, tyX8_ok⟩, nmX8, rfl, by decide +kernel⟩
theorem fl_X8_19 : gFl RX8 19 7 2 RX8 TX8 13 := ⟨cwX8, rfl, by decide, wd_291⟩
theorem fp_X8_19 : gFp RX8 19 7 2 RX8 TX8 13 true (.object "FilmNoises$Film") := ⟨fl_X8_19, ⟨tyX8, tyX8_ok⟩, nmX8, rfl, by decide +kernel⟩
theorem fl_X8_25 : gFl RX8 25 7 5 RX8 TX8 13 := ⟨cwX8, rfl, by decide, wd_294⟩
theorem fp_X8_25 : gFp RX8 25 7 5 RX8 TX8 13 true (.object "FilmNoises$Fraction") := ⟨fl_X8_25, ⟨tyX8, tyX8_ok⟩, nmX8, rfl, by decide +kernel⟩
theorem fl_X8_32 : gFl RX8 32 7 6 RX8 TX8 13 := ⟨cwX8, rfl, by decide, wd_295⟩
theorem fp_X8_32 : gFp RX8 32 7 6 RX8 TX8 13 true (.object "FilmNoises$Ears") := ⟨fl_X8_32, ⟨tyX8, tyX8_ok⟩, nmX8, rfl, by decide +kernel⟩
theorem fl_X8_39 : gFl RX8 39 7 7 RX8 TX8 13 := ⟨cwX8, rfl, by decide, wd_296⟩
theorem fp_X8_39 : gFp RX8 39 7 7 RX8 TX8 13 true (.object "FilmNoises$Reel") := ⟨fl_X8_39, ⟨tyX8, tyX8_ok⟩, nmX8, rfl, by decide +kernel⟩
theorem fl_X8_46 : gFl RX8 46 7 8 RX8 TX8 13 := ⟨cwX8, rfl, by decide, wd_297⟩
theorem fp_X8_46 : gFp RX8 46 7 8 RX8 TX8 13 true (.object "FilmNoises$Hiding") := ⟨fl_X8_46, ⟨tyX8, tyX8_ok⟩, nmX8, rfl, by decide +kernel⟩
theorem fl_X8_53 : gFl RX8 53 7 9 RX8 TX8 13 := ⟨cwX8, rfl, by decide, wd_298⟩
theorem fp_X8_53 : gFp RX8 53 7 9 RX8 TX8 13 true (.object "FilmNoises$Trips") := ⟨fl_X8_53, ⟨tyX8, tyX8_ok⟩, nmX8, rfl, by decide +kernel⟩
theorem fl_X8_65 : gFl RX8 65 1 0 RX1 TX1 14 := ⟨cwX1, rfl, by decide, wd_83⟩
theorem fl_X8_83 : gFl RX8 83 1 3 RX1 TX1 14 := ⟨cwX1, rfl, by decide, wd_91⟩
theorem fl_X8_91 : gFl RX8 91 1 4 RX1 TX1 14 := ⟨cwX1, rfl, by decide, wd_94⟩
theorem fl_X8_101 : gFl RX8 101 1 6 RX1 TX1 14 := ⟨cwX1, rfl, by decide, wd_99⟩
theorem fl_X8_110 : gFl RX8 110 1 7 RX1 TX1 14 := ⟨cwX1, rfl, by decide, wd_103⟩
theorem fl_X8_182 : gFl RX8 182 1 8 RX1 TX1 14 := ⟨cwX1, rfl, by decide, wd_107⟩
theorem fp_X8_182 : gFp RX8 182 1 8 RX1 TX1 14 false (.int) := ⟨fl_X8_182, ⟨tyX1, tyX1_ok⟩, nmX1, rfl, by decide +kernel⟩
theorem fl_X8_192 : gFl RX8 192 5 0 RX5 TX5 9 := ⟨cwX5, rfl, by decide, wd_218⟩
theorem fl_X8_199 : gFl RX8 199 5 1 RX5 TX5 9 := ⟨cwX5, rfl, by decide, wd_222⟩
theorem fl_X8_241 : gFl RX8 241 1 10 RX1 TX1 14 := ⟨cwX1, rfl, by decide, wd_112⟩
theorem fl_X8_250 : gFl RX8 250 1 11 RX1 TX1 14 := ⟨cwX1, rfl, by decide, wd_114⟩
theorem fl_X8_253 : gFl RX8 253 1 12 RX1 TX1 14 := ⟨cwX1, rfl, by decide, wd_117⟩
theorem fp_X8_253 : gFp RX8 253 1 12 RX1 TX1 14 false (.int) := ⟨fl_X8_253, ⟨tyX1, tyX1_ok⟩, nmX1, rfl, by decide +kernel⟩
theorem fl_X8_266 : gFl RX8 266 2 0 RX2 TX2 3 := ⟨cwX2, rfl, by decide, wd_184⟩
theorem fl_X8_270 : gFl RX8 270 4 1 RX4 TX4 2 := ⟨cwX4, rfl, by decide, wd_166⟩
theorem fl_X8_275 : gFl RX8 275 2 1 RX2 TX2 3 := ⟨cwX2, rfl, by decide, wd_186⟩
theorem fl_X8_278 : gFl RX8 278 4 0 RX4 TX4 2 := ⟨cwX4, rfl, by decide, wd_163⟩
theorem fl_X8_288 : gFl RX8 288 7 3 RX8 TX8 13 := ⟨cwX8, rfl, by decide, wd_292⟩
theorem fp_X8_288 : gFp RX8 288 7 3 RX8 TX8 13 false (.boolean) := ⟨fl_X8_288, ⟨tyX8, tyX8_ok⟩, nmX8, rfl, by decide +kernel⟩
theorem fl_X8_292 : gFl RX8 292 7 4 RX8 TX8 13 := ⟨cwX8, rfl, by decide, wd_293⟩
theorem fp_X8_292 : gFp RX8 292 7 4 RX8 TX8 13 false (.boolean) := ⟨fl_X8_292, ⟨tyX8, tyX8_ok⟩, nmX8, rfl, by decide +kernel⟩
theorem fl_X8_295 : gFl RX8 295 7 10 RX8 TX8 13 := ⟨cwX8, rfl, by decide, wd_299⟩
theorem fp_X8_295 : gFp RX8 295 7 10 RX8 TX8 13 false (.int) := ⟨fl_X8_295, ⟨tyX8, tyX8_ok⟩, nmX8, rfl, by decide +kernel⟩
theorem fl_X8_298 : gFl RX8 298 7 11 RX8 TX8 13 := ⟨cwX8, rfl, by decide, wd_300⟩
theorem fp_X8_298 : gFp RX8 298 7 11 RX8 TX8 13 false (.int) := ⟨fl_X8_298, ⟨tyX8, tyX8_ok⟩, nmX8, rfl, by decide +kernel⟩
theorem fl_X8_301 : gFl RX8 301 7 12 RX8 TX8 13 := ⟨cwX8, rfl, by decide, wd_301⟩
theorem fp_X8_301 : gFp RX8 301 7 12 RX8 TX8 13 false (.int) := ⟨fl_X8_301, ⟨tyX8, tyX8_ok⟩, nmX8, rfl, by decide +kernel⟩
theorem fl_X9_7 : gFl RX9 7 8 0 RX9 TX9 22 := ⟨cwX9, rfl, by decide, wd_935⟩
theorem fp_X9_7 : gFp RX9 7 8 0 RX9 TX9 22 true (.array .int) := ⟨fl_X9_7, ⟨tyX9, tyX9_ok⟩, nmX9, rfl, by decide +kernel⟩
theorem fl_X9_13 : gFl RX9 13 8 1 RX9 TX9 22 := ⟨cwX9, rfl, by decide, wd_936⟩
theorem fp_X9_13 : gFp RX9 13 8 1 RX9 TX9 22 true (.array .boolean) := ⟨fl_X9_13, ⟨tyX9, tyX9_ok⟩, nmX9, rfl, by decide +kernel⟩
theorem fl_X9_17 : gFl RX9 17 8 2 RX9 TX9 22 := ⟨cwX9, rfl, by decide, wd_937⟩
theorem fp_X9_17 : gFp RX9 17 8 2 RX9 TX9 22 true (.array .int) := ⟨fl_X9_17, ⟨tyX9, tyX9_ok⟩, nmX9, rfl, by decide +kernel⟩
theorem fl_X9_20 : gFl RX9 20 8 3 RX9 TX9 22 := ⟨cwX9, rfl, by decide, wd_938⟩
theorem fp_X9_20 : gFp RX9 20 8 3 RX9 TX9 22 true (.array .int) := ⟨fl_X9_20, ⟨tyX9, tyX9_ok⟩, nmX9, rfl, by decide +kernel⟩
theorem fl_X9_23 : gFl RX9 23 8 5 RX9 TX9 22 := ⟨cwX9, rfl, by decide, wd_940⟩
theorem fp_X9_23 : gFp RX9 23 8 5 RX9 TX9 22 true (.array .int) := ⟨fl_X9_23, ⟨tyX9, tyX9_ok⟩, nmX9, rfl, by decide +kernel⟩
theorem fl_X9_26 : gFl RX9 26 8 12 RX9 TX9 22 := ⟨cwX9, rfl, by decide, wd_947⟩
theorem fp_X9_26 : gFp RX9 26 8 12 RX9 TX9 22 true (.array .int) := ⟨fl_X9_26, ⟨tyX9, tyX9_ok⟩, nmX9, rfl, by decide +kernel⟩
theorem fl_X9_29 : gFl RX9 29 8 13 RX9 TX9 22 := ⟨cwX9, rfl, by decide, wd_948⟩
theorem fp_X9_29 : gFp RX9 29 8 13 RX9 TX9 22 true (.array .int) := ⟨fl_X9_29, ⟨tyX9, tyX9_ok⟩, nmX9, rfl, by decide +kernel⟩
theorem fl_X9_32 : gFl RX9 32 8 14 RX9 TX9 22 := ⟨cwX9, rfl, by decide, wd_949⟩
theorem fp_X9_32 : gFp RX9 32 8 14 RX9 TX9 22 true (.array .int) := ⟨fl_X9_32, ⟨tyX9, tyX9_ok⟩, nmX9, rfl, by decide +kernel⟩
theorem fl_X9_35 : gFl RX9 35 8 15 RX9 TX9 22 := ⟨cwX9, rfl, by decide, wd_950⟩
theorem fp_X9_35 : gFp RX9 35 8 15 RX9 TX9 22 true (.array .int) := ⟨fl_X9_35, ⟨tyX9, tyX9_ok⟩, nmX9, rfl, by decide +kernel⟩
theorem fl_X9_38 : gFl RX9 38 8 16 RX9 TX9 22 := ⟨cwX9, rfl, by decide, wd_951⟩
theorem fp_X9_38 : gFp RX9 38 8 16 RX9 TX9 22 true (.array .int) := ⟨fl_X9_38, ⟨tyX9, tyX9_ok⟩, nmX9, rfl, by decide +kernel⟩
theorem fl_X9_41 : gFl RX9 41 8 17 RX9 TX9 22 := ⟨cwX9, rfl, by decide, wd_952⟩
theorem fp_X9_41 : gFp RX9 41 8 17 RX9 TX9 22 true (.array .int) := ⟨fl_X9_41, ⟨tyX9, tyX9_ok⟩, nmX9, rfl, by decide +kernel⟩
theorem fl_X9_44 : gFl RX9 44 8 18 RX9 TX9 22 := ⟨cwX9, rfl, by decide, wd_953⟩
theorem fp_X9_44 : gFp RX9 44 8 18 RX9 TX9 22 true (.array .int) := ⟨fl_X9_44, ⟨tyX9, tyX9_ok⟩, nmX9, rfl, by decide +kernel⟩
theorem fl_X9_47 : gFl RX9 47 8 19 RX9 TX9 22 := ⟨cwX9, rfl, by decide, wd_954⟩
theorem fp_X9_47 : gFp RX9 47 8 19 RX9 TX9 22 true (.array .int) := ⟨fl_X9_47, ⟨tyX9, tyX9_ok⟩, nmX9, rfl, by decide +kernel⟩
theorem fl_X9_85 : gFl RX9 85 8 4 RX9 TX9 22 := ⟨cwX9, rfl, by decide, wd_939⟩
theorem fp_X9_85 : gFp RX9 85 8 4 RX9 TX9 22 false (.int) := ⟨fl_X9_85, ⟨tyX9, tyX9_ok⟩, nmX9, rfl, by decide +kernel⟩
theorem fl_X9_125 : gFl RX9 125 8 6 RX9 TX9 22 := ⟨cwX9, rfl, by decide, wd_941⟩
theorem fp_X9_125 : gFp RX9 125 8 6 RX9 TX9 22 false (.int) := ⟨fl_X9_125, ⟨tyX9, tyX9_ok⟩, nmX9, rfl, by decide +kernel⟩
theorem fl_X9_132 : gFl RX9 132 8 7 RX9 TX9 22 := ⟨cwX9, rfl, by decide, wd_942⟩
theorem fp_X9_132 : gFp RX9 132 8 7 RX9 TX9 22 false (.int) := ⟨fl_X9_132, ⟨tyX9, tyX9_ok⟩, nmX9, rfl, by decide +kernel⟩
theorem fl_X9_135 : gFl RX9 135 8 9 RX9 TX9 22 := ⟨cwX9, rfl, by decide, wd_944⟩
theorem fp_X9_135 : gFp RX9 135 8 9 RX9 TX9 22 false (.int) := ⟨fl_X9_135, ⟨tyX9, tyX9_ok⟩, nmX9, rfl, by decide +kernel⟩
theorem fl_X9_138 : gFl RX9 138 8 8 RX9 TX9 22 := ⟨cwX9, rfl, by decide, wd_943⟩
theorem fp_X9_138 : gFp RX9 138 8 8 RX9 TX9 22 false (.int) := ⟨fl_X9_138, ⟨tyX9, tyX9_ok⟩, nmX9, rfl, by decide +kernel⟩
theorem fl_X9_141 : gFl RX9 141 8 10 RX9 TX9 22 := ⟨cwX9, rfl, by decide, wd_945⟩
theorem fp_X9_141 : gFp RX9 141 8 10 RX9 TX9 22 false (.int) := ⟨fl_X9_141, ⟨tyX9, tyX9_ok⟩, nmX9, rfl, by decide +kernel⟩
theorem fl_X9_151 : gFl RX9 151 8 11 RX9 TX9 22 := ⟨cwX9, rfl, by decide, wd_946⟩
theorem fp_X9_151 : gFp RX9 151 8 11 RX9 TX9 22 false (.int) := ⟨fl_X9_151, ⟨tyX9, tyX9_ok⟩, nmX9, rfl, by decide +kernel⟩
theorem fl_X9_220 : gFl RX9 220 8 20 RX9 TX9 22 := ⟨cwX9, rfl, by decide, wd_955⟩
theorem fp_X9_220 : gFp RX9 220 8 20 RX9 TX9 22 false (.int) := ⟨fl_X9_220, ⟨tyX9, tyX9_ok⟩, nmX9, rfl, by decide +kernel⟩
theorem fl_X9_237 : gFl RX9 237 8 21 RX9 TX9 22 := ⟨cwX9, rfl, by decide, wd_956⟩
theorem fp_X9_237 : gFp RX9 237 8 21 RX9 TX9 22 false (.long) := ⟨fl_X9_237, ⟨tyX9, tyX9_ok⟩, nmX9, rfl, by decide +kernel⟩
theorem lk_X8_init : gLk yX8_init cX8_init 1 none 0 := ⟨wd_71, wd_55, by decide, by decide, by decide +kernel⟩
theorem lm_L_9 : gLkI RL 9 yX8_init cX8_init 1 0 := ⟨lk_X8_init, wd_69, wd_70, rfl⟩
theorem lk_X9_init : gLk yX9_init cX9_init 1 none 0 := ⟨wd_933, wd_63, by decide, by decide, by decide +kernel⟩
theorem lm_L_12 : gLkI RL 12 yX9_init cX9_init 1 0 := ⟨lk_X9_init, wd_931, wd_932, rfl⟩
theorem lk_X8_thing : gLk yX8_thing cX8_thing 3 (some .int) 2 := ⟨wd_332, wd_55, by decide, by decide, by decide +kernel⟩
theorem lm_L_13 : gLkV RL 13 yX8_thing cX8_thing 3 (some .int) 2 := ⟨lk_X8_thing, wd_329, wd_330, wd_331⟩
theorem lk_X9_thing : gLk yX9_thing cX9_thing 5 (some .int) 2 := ⟨wd_1006, wd_63, by decide, by decide, by decide +kernel⟩
theorem lm_L_17 : gLkV RL 17 yX9_thing cX9_thing 5 (some .int) 2 := ⟨lk_X9_thing, wd_1003, wd_1004, wd_1005⟩
theorem lk_X8_level : gLk yX8_level cX8_level 4 (some .int) 3 := ⟨wd_352, wd_55, by decide, by decide, by decide +kernel⟩
theorem lm_L_18 : gLkV RL 18 yX8_level cX8_level 4 (some .int) 3 := ⟨lk_X8_level, wd_349, wd_350, wd_351⟩
theorem lk_X9_level : gLk yX9_level cX9_level 5 (some .int) 3 := ⟨wd_1017, wd_63, by decide, by decide, by decide +kernel⟩
theorem lm_L_22 : gLkV RL 22 yX9_level cX9_level 5 (some .int) 3 := ⟨lk_X9_level, wd_1014, wd_1015, wd_1016⟩
theorem lk_X8_meaning : gLk yX8_meaning cX8_meaning 2 (some .int) 1 := ⟨wd_370, wd_55, by decide, by decide, by decide +kernel⟩
theorem lm_L_23 : gLkV RL 23 yX8_meaning cX8_meaning 2 (some .int) 1 := ⟨lk_X8_meaning, wd_367, wd_368, wd_369⟩
theorem lk_X9_meaning : gLk yX9_meaning cX9_meaning 4 (some .int) 1 := ⟨wd_1025, wd_63, by decide, by decide, by decide +kernel⟩
theorem lm_L_27 : gLkV RL 27 yX9_meaning cX9_meaning 4 (some .int) 1 := ⟨lk_X9_meaning, wd_1022, wd_1023, wd_1024⟩
theorem lk_X8_want : gLk yX8_want cX8_want 4 (some .int) 3 := ⟨wd_378, wd_55, by decide, by decide, by decide +kernel⟩
theorem lm_L_28 : gLkV RL 28 yX8_want cX8_want 4 (some .int) 3 := ⟨lk_X8_want, wd_375, wd_376, wd_377⟩
theorem lk_X9_want : gLk yX9_want cX9_want 5 (some .int) 3 := ⟨wd_1029, wd_63, by decide, by decide, by decide +kernel⟩
theorem lm_L_31 : gLkV RL 31 yX9_want cX9_want 5 (some .int) 3 := ⟨lk_X9_want, wd_1026, wd_1027, wd_1028⟩
theorem lk_X8_put : gLk yX8_put cX8_put 3 (some .int) 2 := ⟨wd_386, wd_55, by decide, by decide, by decide +kernel⟩
theorem lm_L_32 : gLkV RL 32 yX8_put cX8_put 3 (some .int) 2 := ⟨lk_X8_put, wd_383, wd_384, wd_385⟩
theorem lk_X9_put : gLk yX9_put cX9_put 6 (some .int) 2 := ⟨wd_1037, wd_63, by decide, by decide, by decide +kernel⟩
theorem lm_L_35 : gLkV RL 35 yX9_put cX9_put 6 (some .int) 2 := ⟨lk_X9_put, wd_1034, wd_1035, wd_1036⟩
theorem lk_X8_value : gLk yX8_value cX8_value 5 (some .int) 4 := ⟨wd_396, wd_55, by decide, by decide, by decide +kernel⟩
theorem lm_L_36 : gLkV RL 36 yX8_value cX8_value 5 (some .int) 4 := ⟨lk_X8_value, wd_393, wd_394, wd_395⟩
theorem lk_X9_value : gLk yX9_value cX9_value 5 (some .int) 4 := ⟨wd_1041, wd_63, by decide, by decide, by decide +kernel⟩
theorem lm_L_40 : gLkV RL 40 yX9_value cX9_value 5 (some .int) 4 := ⟨lk_X9_value, wd_1038, wd_1039, wd_1040⟩
theorem lk_X8_loud : gLk yX8_loud cX8_loud 4 (some .int) 3 := ⟨wd_416, wd_55, by decide, by decide, by decide +kernel⟩
theorem lm_L_41 : gLkV RL 41 yX8_loud cX8_loud 4 (some .int) 3 := ⟨lk_X8_loud, wd_413, wd_414, wd_415⟩
theorem lk_X9_loud : gLk yX9_loud cX9_loud 4 (some .int) 3 := ⟨wd_1061, wd_63, by decide, by decide, by decide +kernel⟩
theorem lm_L_44 : gLkV RL 44 yX9_loud cX9_loud 4 (some .int) 3 := ⟨lk_X9_loud, wd_1058, wd_1059, wd_1060⟩
theorem lk_X8_likeness : gLk yX8_likeness cX8_likeness 4 (some .int) 3 := ⟨wd_424, wd_55, by decide, by decide, by decide +kernel⟩
theorem lm_L_45 : gLkV RL 45 yX8_likeness cX8_likeness 4 (some .int) 3 := ⟨lk_X8_likeness, wd_421, wd_422, wd_423⟩
theorem lk_X9_likeness : gLk yX9_likeness cX9_likeness 4 (some .int) 3 := ⟨wd_1069, wd_63, by decide, by decide, by decide +kernel⟩
theorem lm_L_48 : gLkV RL 48 yX9_likeness cX9_likeness 4 (some .int) 3 := ⟨lk_X9_likeness, wd_1066, wd_1067, wd_1068⟩
theorem lk_X8_taken : gLk yX8_taken cX8_taken 8 (some .int) 5 := ⟨wd_451, wd_55, by decide, by decide, by decide +kernel⟩
theorem lm_L_49 : gLkV RL 49 yX8_taken cX8_taken 8 (some .int) 5 := ⟨lk_X8_taken, wd_448, wd_449, wd_450⟩
theorem lk_X9_taken : gLk yX9_taken cX9_taken 7 (some .int) 5 := ⟨wd_1077, wd_63, by decide, by decide, by decide +kernel⟩
theorem lm_L_53 : gLkV RL 53 yX9_taken cX9_taken 7 (some .int) 5 := ⟨lk_X9_taken, wd_1074, wd_1075, wd_1076⟩
theorem lk_X8_most : gLk yX8_most cX8_most 5 (some .int) 4 := ⟨wd_478, wd_55, by decide, by decide, by decide +kernel⟩
theorem lm_L_54 : gLkV RL 54 yX8_most cX8_most 5 (some .int) 4 := ⟨lk_X8_most, wd_475, wd_476, wd_477⟩
theorem lk_X9_most : gLk yX9_most cX9_most 8 (some .int) 4 := ⟨wd_1132, wd_63, by decide, by decide, by decide +kernel⟩
theorem lm_L_57 : gLkV RL 57 yX9_most cX9_most 8 (some .int) 4 := ⟨lk_X9_most, wd_1129, wd_1130, wd_1131⟩
theorem lk_X8_may : gLk yX8_may cX8_may 5 (some .int) 4 := ⟨wd_542, wd_55, by decide, by decide, by decide +kernel⟩
theorem lm_L_58 : gLkV RL 58 yX8_may cX8_may 5 (some .int) 4 := ⟨lk_X8_may, wd_539, wd_540, wd_541⟩
theorem lk_X9_may : gLk yX9_may cX9_may 6 (some .int) 4 := ⟨wd_1140, wd_63, by decide, by decide, by decide +kernel⟩
theorem lm_L_61 : gLkV RL 61 yX9_may cX9_may 6 (some .int) 4 := ⟨lk_X9_may, wd_1137, wd_1138, wd_1139⟩
theorem lk_X8_best : gLk yX8_best cX8_best 2 (some .int) 1 := ⟨wd_553, wd_55, by decide, by decide, by decide +kernel⟩
theorem lm_L_62 : gLkV RL 62 yX8_best cX8_best 2 (some .int) 1 := ⟨lk_X8_best, wd_550, wd_551, wd_552⟩
theorem lk_X9_best : gLk yX9_best cX9_best 2 (some .int) 1 := ⟨wd_1144, wd_63, by decide, by decide, by decide +kernel⟩
theorem lm_L_65 : gLkV RL 65 yX9_best cX9_best 2 (some .int) 1 := ⟨lk_X9_best, wd_1141, wd_1142, wd_1143⟩
theorem lk_X8_truer : gLk yX8_truer cX8_truer 4 (some .int) 3 := ⟨wd_570, wd_55, by decide, by decide, by decide +kernel⟩
theorem lm_L_66 : gLkV RL 66 yX8_truer cX8_truer 4 (some .int) 3 := ⟨lk_X8_truer, wd_567, wd_568, wd_569⟩
theorem lk_X9_truer : gLk yX9_truer cX9_truer 4 (some .int) 3 := ⟨wd_1156, wd_63, by decide, by decide, by decide +kernel⟩
theorem lm_L_69 : gLkV RL 69 yX9_truer cX9_truer 4 (some .int) 3 := ⟨lk_X9_truer, wd_1153, wd_1154, wd_1155⟩
theorem lk_X8_serves : gLk yX8_serves cX8_serves 3 (some .int) 2 := ⟨wd_575, wd_55, by decide, by decide, by decide +kernel⟩
theorem lm_L_70 : gLkV RL 70 yX8_serves cX8_serves 3 (some .int) 2 := ⟨lk_X8_serves, wd_572, wd_573, wd_574⟩
theorem lk_X9_serves : gLk yX9_serves cX9_serves 3 (some .int) 2 := ⟨wd_1160, wd_63, by decide, by decide, by decide +kernel⟩
theorem lm_L_73 : gLkV RL 73 yX9_serves cX9_serves 3 (some .int) 2 := ⟨lk_X9_serves, wd_1157, wd_1158, wd_1159⟩
theorem lk_X8_cupboard : gLk yX8_cupboard cX8_cupboard 2 (some .int) 1 := ⟨wd_590, wd_55, by decide, by decide, by decide +kernel⟩
theorem lm_L_74 : gLkV RL 74 yX8_cupboard cX8_cupboard 2 (some .int) 1 := ⟨lk_X8_cupboard, wd_587, wd_588, wd_589⟩
theorem lk_X9_cupboard : gLk yX9_cupboard cX9_cupboard 6 (some .int) 1 := ⟨wd_1168, wd_63, by decide, by decide, by decide +kernel⟩
theorem lm_L_77 : gLkV RL 77 yX9_cupboard cX9_cupboard 6 (some .int) 1 := ⟨lk_X9_cupboard, wd_1165, wd_1166, wd_1167⟩
theorem lk_X8_words : gLk yX8_words cX8_words 1 (some .int) 0 := ⟨wd_609, wd_55, by decide, by decide, by decide +kernel⟩
theorem lm_L_78 : gLkV RL 78 yX8_words cX8_words 1 (some .int) 0 := ⟨lk_X8_words, wd_606, wd_607, wd_608⟩
theorem lk_X9_words : gLk yX9_words cX9_words 6 (some .int) 0 := ⟨wd_1179, wd_63, by decide, by decide, by decide +kernel⟩
theorem lm_L_82 : gLkV RL 82 yX9_words cX9_words 6 (some .int) 0 := ⟨lk_X9_words, wd_1176, wd_1177, wd_1178⟩
theorem lk_X8_beast : gLk yX8_beast cX8_beast 2 (some .int) 1 := ⟨wd_622, wd_55, by decide, by decide, by decide +kernel⟩
theorem lm_L_83 : gLkV RL 83 yX8_beast cX8_beast 2 (some .int) 1 := ⟨lk_X8_beast, wd_619, wd_620, wd_621⟩
theorem lk_X9_beast : gLk yX9_beast cX9_beast 12 (some .int) 1 := ⟨wd_1183, wd_63, by decide, by decide, by decide +kernel⟩
theorem lm_L_86 : gLkV RL 86 yX9_beast cX9_beast 12 (some .int) 1 := ⟨lk_X9_beast, wd_1180, wd_1181, wd_1182⟩
theorem lk_X8_type : gLk yX8_type cX8_type 4 (some .int) 2 := ⟨wd_636, wd_55, by decide, by decide, by decide +kernel⟩
theorem lm_L_89 : gLkV RL 89 yX8_type cX8_type 4 (some .int) 2 := ⟨lk_X8_type, wd_633, wd_634, wd_635⟩
theorem lk_X9_type : gLk yX9_type cX9_type 5 (some .int) 2 := ⟨wd_1188, wd_63, by decide, by decide, by decide +kernel⟩
theorem lm_L_93 : gLkV RL 93 yX9_type cX9_type 5 (some .int) 2 := ⟨lk_X9_type, wd_1185, wd_1186, wd_1187⟩
theorem lk_X8_clear : gLk yX8_clear cX8_clear 2 (some .int) 0 := ⟨wd_644, wd_55, by decide, by decide, by decide +kernel⟩
theorem lm_L_94 : gLkV RL 94 yX8_clear cX8_clear 2 (some .int) 0 := ⟨lk_X8_clear, wd_641, wd_642, wd_643⟩
theorem lk_X9_clear : gLk yX9_clear cX9_clear 2 (some .int) 0 := ⟨wd_1193, wd_63, by decide, by decide, by decide +kernel⟩
theorem lm_L_97 : gLkV RL 97 yX9_clear cX9_clear 2 (some .int) 0 := ⟨lk_X9_clear, wd_1190, wd_1191, wd_1192⟩
theorem lk_X8_fault : gLk yX8_fault cX8_fault 1 (some .int) 0 := ⟨wd_648, wd_55, by decide, by decide, by decide +kernel⟩
theorem lm_L_98 : gLkV RL 98 yX8_fault cX8_fault 1 (some .int) 0 := ⟨lk_X8_fault, wd_645, wd_646, wd_647⟩
theorem lk_X9_fault : gLk yX9_fault cX9_fault 1 (some .int) 0 := ⟨wd_1197, wd_63, by decide, by decide, by decide +kernel⟩
theorem lm_L_101 : gLkV RL 101 yX9_fault cX9_fault 1 (some .int) 0 := ⟨lk_X9_fault, wd_1194, wd_1195, wd_1196⟩
theorem lk_X8_places : gLk yX8_places cX8_places 1 (some .int) 0 := ⟨wd_694, wd_55, by decide, by decide, by decide +kernel⟩
theorem lm_L_102 : gLkV RL 102 yX8_places cX8_places 1 (some .int) 0 := ⟨lk_X8_places, wd_691, wd_692, wd_693⟩
theorem lk_X9_places : gLk yX9_places cX9_places 1 (some .int) 0 := ⟨wd_1221, wd_63, by decide, by decide, by decide +kernel⟩
theorem lm_L_105 : gLkV RL 105 yX9_places cX9_places 1 (some .int) 0 := ⟨lk_X9_places, wd_1218, wd_1219, wd_1220⟩
theorem lk_X8_hidden : gLk yX8_hidden cX8_hidden 3 (some .int) 2 := ⟨wd_702, wd_55, by decide, by decide, by decide +kernel⟩
theorem lm_L_106 : gLkV RL 106 yX8_hidden cX8_hidden 3 (some .int) 2 := ⟨lk_X8_hidden, wd_699, wd_700, wd_701⟩
theorem lk_X9_hidden : gLk yX9_hidden cX9_hidden 3 (some .int) 2 := ⟨wd_1225, wd_63, by decide, by decide, by decide +kernel⟩
theorem lm_L_109 : gLkV RL 109 yX9_hidden cX9_hidden 3 (some .int) 2 := ⟨lk_X9_hidden, wd_1222, wd_1223, wd_1224⟩
theorem lk_X8_unheard : gLk yX8_unheard cX8_unheard 1 (some .int) 0 := ⟨wd_725, wd_55, by decide, by decide, by decide +kernel⟩
theorem lm_L_110 : gLkV RL 110 yX8_unheard cX8_unheard 1 (some .int) 0 := ⟨lk_X8_unheard, wd_722, wd_723, wd_724⟩
theorem lk_X9_unheard : gLk yX9_unheard cX9_unheard 3 (some .int) 0 := ⟨wd_1241, wd_63, by decide, by decide, by decide +kernel⟩
theorem lm_L_113 : gLkV RL 113 yX9_unheard cX9_unheard 3 (some .int) 0 := ⟨lk_X9_unheard, wd_1238, wd_1239, wd_1240⟩
theorem lk_X8_kept : gLk yX8_kept cX8_kept 1 (some .int) 0 := ⟨wd_734, wd_55, by decide, by decide, by decide +kernel⟩
theorem lm_L_114 : gLkV RL 114 yX8_kept cX8_kept 1 (some .int) 0 := ⟨lk_X8_kept, wd_731, wd_732, wd_733⟩
theorem lk_X9_kept : gLk yX9_kept cX9_kept 5 (some .int) 0 := ⟨wd_1245, wd_63, by decide, by decide, by decide +kernel⟩
theorem lm_L_117 : gLkV RL 117 yX9_kept cX9_kept 5 (some .int) 0 := ⟨lk_X9_kept, wd_1242, wd_1243, wd_1244⟩
theorem lk_X8_order : gLk yX8_order cX8_order 2 (some .int) 1 := ⟨wd_747, wd_55, by decide, by decide, by decide +kernel⟩
theorem lm_L_118 : gLkV RL 118 yX8_order cX8_order 2 (some .int) 1 := ⟨lk_X8_order, wd_744, wd_745, wd_746⟩
theorem lk_X9_order : gLk yX9_order cX9_order 8 (some .int) 1 := ⟨wd_1249, wd_63, by decide, by decide, by decide +kernel⟩
theorem lm_L_121 : gLkV RL 121 yX9_order cX9_order 8 (some .int) 1 := ⟨lk_X9_order, wd_1246, wd_1247, wd_1248⟩
theorem lk_X8_hands : gLk yX8_hands cX8_hands 3 (some .int) 1 := ⟨wd_787, wd_55, by decide, by decide, by decide +kernel⟩
theorem lm_L_122 : gLkV RL 122 yX8_hands cX8_hands 3 (some .int) 1 := ⟨lk_X8_hands, wd_784, wd_785, wd_786⟩
theorem lk_X9_hands : gLk yX9_hands cX9_hands 8 (some .int) 1 := ⟨wd_1266, wd_63, by decide, by decide, by decide +kernel⟩
theorem lm_L_125 : gLkV RL 125 yX9_hands cX9_hands 8 (some .int) 1 := ⟨lk_X9_hands, wd_1263, wd_1264, wd_1265⟩
theorem lk_X8_lag : gLk yX8_lag cX8_lag 8 (some .int) 5 := ⟨wd_802, wd_55, by decide, by decide, by decide +kernel⟩
theorem lm_L_126 : gLkV RL 126 yX8_lag cX8_lag 8 (some .int) 5 := ⟨lk_X8_lag, wd_799, wd_800, wd_801⟩
theorem lk_X9_lag : gLk yX9_lag cX9_lag 6 (some .int) 5 := ⟨wd_1270, wd_63, by decide, by decide, by decide +kernel⟩
theorem lm_L_129 : gLkV RL 129 yX9_lag cX9_lag 6 (some .int) 5 := ⟨lk_X9_lag, wd_1267, wd_1268, wd_1269⟩
theorem lk_X8_mended : gLk yX8_mended cX8_mended 10 (some .int) 6 := ⟨wd_812, wd_55, by decide, by decide, by decide +kernel⟩
theorem lm_L_130 : gLkV RL 130 yX8_mended cX8_mended 10 (some .int) 6 := ⟨lk_X8_mended, wd_809, wd_810, wd_811⟩
theorem lk_X9_mended : gLk yX9_mended cX9_mended 9 (some .int) 6 := ⟨wd_1282, wd_63, by decide, by decide, by decide +kernel⟩
theorem lm_L_134 : gLkV RL 134 yX9_mended cX9_mended 9 (some .int) 6 := ⟨lk_X9_mended, wd_1279, wd_1280, wd_1281⟩
theorem lk_X8_steady : gLk yX8_steady cX8_steady 9 (some .int) 5 := ⟨wd_816, wd_55, by decide, by decide, by decide +kernel⟩
theorem lm_L_135 : gLkV RL 135 yX8_steady cX8_steady 9 (some .int) 5 := ⟨lk_X8_steady, wd_813, wd_814, wd_815⟩
theorem lk_X9_steady : gLk yX9_steady cX9_steady 8 (some .int) 5 := ⟨wd_1286, wd_63, by decide, by decide, by decide +kernel⟩
theorem lm_L_138 : gLkV RL 138 yX9_steady cX9_steady 8 (some .int) 5 := ⟨lk_X9_steady, wd_1283, wd_1284, wd_1285⟩
theorem lk_X8_house : gLk yX8_house cX8_house 1 (some .int) 0 := ⟨wd_820, wd_55, by decide, by decide, by decide +kernel⟩
theorem lm_L_139 : gLkV RL 139 yX8_house cX8_house 1 (some .int) 0 := ⟨lk_X8_house, wd_817, wd_818, wd_819⟩
theorem lk_X9_house : gLk yX9_house cX9_house 3 (some .int) 0 := ⟨wd_1290, wd_63, by decide, by decide, by decide +kernel⟩
theorem lm_L_142 : gLkV RL 142 yX9_house cX9_house 3 (some .int) 0 := ⟨lk_X9_house, wd_1287, wd_1288, wd_1289⟩
theorem lk_X8_habit : gLk yX8_habit cX8_habit 4 (some .int) 3 := ⟨wd_828, wd_55, by decide, by decide, by decide +kernel⟩
theorem lm_L_143 : gLkV RL 143 yX8_habit cX8_habit 4 (some .int) 3 := ⟨lk_X8_habit, wd_825, wd_826, wd_827⟩
theorem lk_X9_habit : gLk yX9_habit cX9_habit 5 (some .int) 3 := ⟨wd_1294, wd_63, by decide, by decide, by decide +kernel⟩
theorem lm_L_146 : gLkV RL 146 yX9_habit cX9_habit 5 (some .int) 3 := ⟨lk_X9_habit, wd_1291, wd_1292, wd_1293⟩
theorem lk_X8_see : gLk yX8_see cX8_see 2 (some .int) 1 := ⟨wd_836, wd_55, by decide, by decide, by decide +kernel⟩
theorem lm_L_147 : gLkV RL 147 yX8_see cX8_see 2 (some .int) 1 := ⟨lk_X8_see, wd_833, wd_834, wd_835⟩
theorem lk_X9_see : gLk yX9_see cX9_see 2 (some .int) 1 := ⟨wd_1302, wd_63, by decide, by decide, by decide +kernel⟩
theorem lm_L_150 : gLkV RL 150 yX9_see cX9_see 2 (some .int) 1 := ⟨lk_X9_see, wd_1299, wd_1300, wd_1301⟩
theorem lk_X8_forget : gLk yX8_forget cX8_forget 2 (some .int) 0 := ⟨wd_844, wd_55, by decide, by decide, by decide +kernel⟩
theorem lm_L_151 : gLkV RL 151 yX8_forget cX8_forget 2 (some .int) 0 := ⟨lk_X8_forget, wd_841, wd_842, wd_843⟩
theorem lk_X9_forget : gLk yX9_forget cX9_forget 2 (some .int) 0 := ⟨wd_1306, wd_63, by decide, by decide, by decide +kernel⟩
theorem lm_L_154 : gLkV RL 154 yX9_forget cX9_forget 2 (some .int) 0 := ⟨lk_X9_forget, wd_1303, wd_1304, wd_1305⟩
theorem lk_X8_whose : gLk yX8_whose cX8_whose 2 (some .int) 1 := ⟨wd_848, wd_55, by decide, by decide, by decide +kernel⟩
theorem lm_L_155 : gLkV RL 155 yX8_whose cX8_whose 2 (some .int) 1 := ⟨lk_X8_whose, wd_845, wd_846, wd_847⟩
theorem lk_X9_whose : gLk yX9_whose cX9_whose 3 (some .int) 1 := ⟨wd_1310, wd_63, by decide, by decide, by decide +kernel⟩
theorem lm_L_158 : gLkV RL 158 yX9_whose cX9_whose 3 (some .int) 1 := ⟨lk_X9_whose, wd_1307, wd_1308, wd_1309⟩
theorem lk_X8_sign : gLk yX8_sign cX8_sign 2 (some .int) 1 := ⟨wd_879, wd_55, by decide, by decide, by decide +kernel⟩
theorem lm_L_159 : gLkV RL 159 yX8_sign cX8_sign 2 (some .int) 1 := ⟨lk_X8_sign, wd_876, wd_877, wd_878⟩
theorem lk_X9_sign : gLk yX9_sign cX9_sign 2 (some .int) 1 := ⟨wd_1322, wd_63, by decide, by decide, by decide +kernel⟩
theorem lm_L_162 : gLkV RL 162 yX9_sign cX9_sign 2 (some .int) 1 := ⟨lk_X9_sign, wd_1319, wd_1320, wd_1321⟩
theorem lk_X8_limb : gLk yX8_limb cX8_limb 4 (some .int) 2 := ⟨wd_883, wd_55, by decide, by decide, by decide +kernel⟩
theorem lm_L_163 : gLkV RL 163 yX8_limb cX8_limb 4 (some .int) 2 := ⟨lk_X8_limb, wd_880, wd_881, wd_882⟩
theorem lk_X9_limb : gLk yX9_limb cX9_limb 3 (some .int) 2 := ⟨wd_1330, wd_63, by decide, by decide, by decide +kernel⟩
theorem lm_L_166 : gLkV RL 166 yX9_limb cX9_limb 3 (some .int) 2 := ⟨lk_X9_limb, wd_1327, wd_1328, wd_1329⟩
theorem lk_X8_image : gLk yX8_image cX8_image 2 (some .int) 1 := ⟨wd_887, wd_55, by decide, by decide, by decide +kernel⟩
theorem lm_L_167 : gLkV RL 167 yX8_image cX8_image 2 (some .int) 1 := ⟨lk_X8_image, wd_884, wd_885, wd_886⟩
theorem lk_X9_image : gLk yX9_image cX9_image 2 (some .int) 1 := ⟨wd_1334, wd_63, by decide, by decide, by decide +kernel⟩
theorem lm_L_170 : gLkV RL 170 yX9_image cX9_image 2 (some .int) 1 := ⟨lk_X9_image, wd_1331, wd_1332, wd_1333⟩
theorem lk_X8_from : gLk yX8_from cX8_from 2 (some .int) 1 := ⟨wd_896, wd_55, by decide, by decide, by decide +kernel⟩
theorem lm_L_171 : gLkV RL 171 yX8_from cX8_from 2 (some .int) 1 := ⟨lk_X8_from, wd_893, wd_894, wd_895⟩
theorem lk_X9_from : gLk yX9_from cX9_from 2 (some .int) 1 := ⟨wd_1342, wd_63, by decide, by decide, by decide +kernel⟩
theorem lm_L_174 : gLkV RL 174 yX9_from cX9_from 2 (some .int) 1 := ⟨lk_X9_from, wd_1339, wd_1340, wd_1341⟩
theorem lk_X8_status : gLk yX8_status cX8_status 2 (some .int) 1 := ⟨wd_900, wd_55, by decide, by decide, by decide +kernel⟩
theorem lm_L_175 : gLkV RL 175 yX8_status cX8_status 2 (some .int) 1 := ⟨lk_X8_status, wd_897, wd_898, wd_899⟩
theorem lk_X9_status : gLk yX9_status cX9_status 2 (some .int) 1 := ⟨wd_1346, wd_63, by decide, by decide, by decide +kernel⟩
theorem lm_L_178 : gLkV RL 178 yX9_status cX9_status 2 (some .int) 1 := ⟨lk_X9_status, wd_1343, wd_1344, wd_1345⟩
theorem lk_X8_count : gLk yX8_count cX8_count 2 (some .int) 1 := ⟨wd_904, wd_55, by decide, by decide, by decide +kernel⟩
theorem lm_L_179 : gLkV RL 179 yX8_count cX8_count 2 (some .int) 1 := ⟨lk_X8_count, wd_901, wd_902, wd_903⟩
theorem lk_X9_count : gLk yX9_count cX9_count 2 (some .int) 1 := ⟨wd_1350, wd_63, by decide, by decide, by decide +kernel⟩
theorem lm_L_182 : gLkV RL 182 yX9_count cX9_count 2 (some .int) 1 := ⟨lk_X9_count, wd_1347, wd_1348, wd_1349⟩
theorem lk_X8_digest : gLk yX8_digest cX8_digest 1 (some .long) 0 := ⟨wd_908, wd_55, by decide, by decide, by decide +kernel⟩
theorem lm_L_183 : gLkV RL 183 yX8_digest cX8_digest 1 (some .long) 0 := ⟨lk_X8_digest, wd_905, wd_906, wd_907⟩
theorem lk_X9_digest : gLk yX9_digest cX9_digest 2 (some .long) 0 := ⟨wd_1354, wd_63, by decide, by decide, by decide +kernel⟩
theorem lm_L_187 : gLkV RL 187 yX9_digest cX9_digest 2 (some .long) 0 := ⟨lk_X9_digest, wd_1351, wd_1352, wd_1353⟩
theorem lm_X0_3 : Cond.methodLink RX0 3 objectInit ∈ gAL := wd_200
theorem lk_X0_hear : gLk yX0_hear cX0_hear 7 none 3 := ⟨wd_428, wd_59, by decide, by decide, by decide +kernel⟩
theorem lm_X0_27 : gLkV RX0 27 yX0_hear cX0_hear 7 none 3 := ⟨lk_X0_hear, wd_558, wd_426, wd_427⟩
theorem lk_X6_together : gLk yX6_together cX6_together 6 (some .int) 4 := ⟨wd_419, wd_64, by decide, by decide, by decide +kernel⟩
theorem lm_X0_31 : gLkS RX0 31 yX6_together cX6_together 6 (some .int) 4 := ⟨lk_X6_together, wd_429, wd_418⟩
theorem lk_X0_likenessOf : gLk yX0_likenessOf cX0_likenessOf 6 (some .int) 3 := ⟨wd_434, wd_59, by decide, by decide, by decide +kernel⟩
theorem lm_X0_44 : gLkV RX0 44 yX0_likenessOf cX0_likenessOf 6 (some .int) 3 := ⟨lk_X0_likenessOf, wd_431, wd_432, wd_433⟩
theorem lk_X0_loudOf : gLk yX0_loudOf cX0_loudOf 3 (some .int) 2 := ⟨wd_438, wd_59, by decide, by decide, by decide +kernel⟩
theorem lm_X0_48 : gLkV RX0 48 yX0_loudOf cX0_loudOf 3 (some .int) 2 := ⟨lk_X0_loudOf, wd_435, wd_436, wd_437⟩
theorem lm_X0_59 : gMa RX0 59 Lib.Math.abs.name Lib.Math.abs.code 1 := ⟨wd_440, wd_441, wd_65, wd_442⟩
theorem lm_X0_65 : gMa RX0 65 Lib.Math.max.name Lib.Math.max.code 2 := ⟨wd_443, wd_411, wd_65, wd_412⟩
theorem lk_X0_bonus : gLk yX0_bonus cX0_bonus 3 (some .int) 2 := ⟨wd_458, wd_59, by decide, by decide, by decide +kernel⟩
theorem lm_X0_71 : gLkS RX0 71 yX0_bonus cX0_bonus 3 (some .int) 2 := ⟨lk_X0_bonus, wd_547, wd_457⟩
theorem lk_X0_like : gLk yX0_like cX0_like 3 (some .int) 2 := ⟨wd_447, wd_59, by decide, by decide, by decide +kernel⟩
theorem lm_X0_75 : gLkV RX0 75 yX0_like cX0_like 3 (some .int) 2 := ⟨lk_X0_like, wd_548, wd_445, wd_446⟩
theorem lk_X0_total : gLk yX0_total cX0_total 2 (some .int) 1 := ⟨wd_462, wd_59, by decide, by decide, by decide +kernel⟩
theorem lm_X0_78 : gLkV RX0 78 yX0_total cX0_total 2 (some .int) 1 := ⟨lk_X0_total, wd_549, wd_460, wd_461⟩
theorem lk_X0_isTruer : gLk yX0_isTruer cX0_isTruer 4 (some .boolean) 3 := ⟨wd_566, wd_59, by decide, by decide, by decide +kernel⟩
theorem lm_X0_81 : gLkV RX0 81 yX0_isTruer cX0_isTruer 4 (some .boolean) 3 := ⟨lk_X0_isTruer, wd_563, wd_564, wd_565⟩
theorem lk_X0_thousandths : gLk yX0_thousandths cX0_thousandths 4 (some .int) 2 := ⟨wd_586, wd_59, by decide, by decide, by decide +kernel⟩
theorem lm_X0_85 : gLkV RX0 85 yX0_thousandths cX0_thousandths 4 (some .int) 2 := ⟨lk_X0_thousandths, wd_583, wd_584, wd_585⟩
theorem lk_J6_bitCount_0f7a4 : gLk yJ6_bitCount_0f7a4 cJ6_bitCount_0f7a4 1 (some .int) 1 := ⟨wd_597, wd_66, by decide, by decide, by decide +kernel⟩
theorem lm_X0_88 : gLkS RX0 88 yJ6_bitCount_0f7a4 cJ6_bitCount_0f7a4 1 (some .int) 1 := ⟨lk_J6_bitCount_0f7a4, wd_595, wd_596⟩
theorem lk_X0_worthOf : gLk yX0_worthOf cX0_worthOf 5 (some .int) 2 := ⟨wd_604, wd_59, by decide, by decide, by decide +kernel⟩
theorem lm_X0_93 : gLkV RX0 93 yX0_worthOf cX0_worthOf 5 (some .int) 2 := ⟨lk_X0_worthOf, wd_601, wd_602, wd_603⟩
theorem lk_X0_service : gLk yX0_service cX0_service 6 (some .int) 3 := ⟨wd_582, wd_59, by decide, by decide, by decide +kernel⟩
theorem lm_X0_99 : gLkV RX0 99 yX0_service cX0_service 6 (some .int) 3 := ⟨lk_X0_service, wd_605, wd_580, wd_581⟩
theorem lk_X0_isClear : gLk yX0_isClear cX0_isClear 5 (some .boolean) 2 := ⟨wd_617, wd_59, by decide, by decide, by decide +kernel⟩
theorem lm_X0_102 : gLkV RX0 102 yX0_isClear cX0_isClear 5 (some .boolean) 2 := ⟨lk_X0_isClear, wd_614, wd_615, wd_616⟩
theorem lk_X0_bestFor : gLk yX0_bestFor cX0_bestFor 5 (some .int) 2 := ⟨wd_562, wd_59, by decide, by decide, by decide +kernel⟩
theorem lm_X0_106 : gLkV RX0 106 yX0_bestFor cX0_bestFor 5 (some .int) 2 := ⟨lk_X0_bestFor, wd_618, wd_560, wd_561⟩
theorem lk_X0_farOfThree : gLk yX0_farOfThree cX0_farOfThree 9 (some .int) 5 := ⟨wd_631, wd_59, by decide, by decide, by decide +kernel⟩
theorem lm_X0_110 : gLkV RX0 110 yX0_farOfThree cX0_farOfThree 9 (some .int) 5 := ⟨lk_X0_farOfThree, wd_628, wd_629, wd_630⟩
theorem lm_X0_114 : gMa RX0 114 Lib.Math.min.name Lib.Math.min.code 2 := ⟨wd_632, wd_408, wd_65, wd_409⟩
theorem lm_X1_3 : Cond.methodLink RX1 3 objectInit ∈ gAL := wd_80
theorem lk_X1_habitOf : gLk yX1_habitOf cX1_habitOf 3 (some .int) 2 := ⟨wd_861, wd_56, by decide, by decide, by decide +kernel⟩
theorem lm_X1_63 : gLkV RX1 63 yX1_habitOf cX1_habitOf 3 (some .int) 2 := ⟨lk_X1_habitOf, wd_858, wd_859, wd_860⟩
theorem lk_X1_canBeOf : gLk yX1_canBeOf cX1_canBeOf 3 (some .boolean) 1 := ⟨wd_856, wd_56, by decide, by decide, by decide +kernel⟩
theorem lm_X1_67 : gLkV RX1 67 yX1_canBeOf cX1_canBeOf 3 (some .boolean) 1 := ⟨lk_X1_canBeOf, wd_853, wd_854, wd_855⟩
theorem lm_X2_3 : Cond.methodLink RX2 3 objectInit ∈ gAL := wd_155
theorem lk_X4_become : gLk yX4_become cX4_become 2 none 1 := ⟨wd_175, wd_58, by decide, by decide, by decide +kernel⟩
theorem lm_X2_24 : gLkV RX2 24 yX4_become cX4_become 2 none 1 := ⟨lk_X4_become, wd_172, wd_173, wd_174⟩
theorem lk_X2_commonDivisor : gLk yX2_commonDivisor cX2_commonDivisor 6 (some .int) 2 := ⟨wd_473, wd_57, by decide, by decide, by decide +kernel⟩
theorem lm_X2_28 : gLkS RX2 28 yX2_commonDivisor cX2_commonDivisor 6 (some .int) 2 := ⟨lk_X2_commonDivisor, wd_471, wd_472⟩
theorem lm_X2_32 : gMa RX2 32 Lib.Math.max.name Lib.Math.max.code 2 := ⟨wd_474, wd_411, wd_65, wd_412⟩
theorem lk_X2_ways : gLk yX2_ways cX2_ways 4 (some .int) 2 := ⟨wd_485, wd_57, by decide, by decide, by decide +kernel⟩
theorem lm_X2_37 : gLkS RX2 37 yX2_ways cX2_ways 4 (some .int) 2 := ⟨lk_X2_ways, wd_483, wd_484⟩
theorem lk_X2_multiplyTerm : gLk yX2_multiplyTerm cX2_multiplyTerm 4 none 2 := ⟨wd_489, wd_57, by decide, by decide, by decide +kernel⟩
theorem lm_X2_40 : gLkV RX2 40 yX2_multiplyTerm cX2_multiplyTerm 4 none 2 := ⟨lk_X2_multiplyTerm, wd_486, wd_487, wd_488⟩
theorem lk_X4_add : gLk yX4_add cX4_add 6 none 1 := ⟨wd_503, wd_58, by decide, by decide, by decide +kernel⟩
theorem lm_X2_44 : gLkV RX2 44 yX4_add cX4_add 6 none 1 := ⟨lk_X4_add, wd_500, wd_501, wd_502⟩
theorem lk_X4_becomeCopy : gLk yX4_becomeCopy cX4_becomeCopy 2 none 1 := ⟨wd_512, wd_58, by decide, by decide, by decide +kernel⟩
theorem lm_X2_48 : gLkV RX2 48 yX4_becomeCopy cX4_becomeCopy 2 none 1 := ⟨lk_X4_becomeCopy, wd_509, wd_510, wd_511⟩
theorem lk_X2_lowerByFactorsOf : gLk yX2_lowerByFactorsOf cX2_lowerByFactorsOf 4 none 1 := ⟨wd_519, wd_57, by decide, by decide, by decide +kernel⟩
theorem lm_X2_51 : gLkV RX2 51 yX2_lowerByFactorsOf cX2_lowerByFactorsOf 4 none 1 := ⟨lk_X2_lowerByFactorsOf, wd_516, wd_517, wd_518⟩
theorem lk_X4_multiply : gLk yX4_multiply cX4_multiply 5 none 1 := ⟨wd_493, wd_58, by decide, by decide, by decide +kernel⟩
theorem lm_X2_54 : gLkV RX2 54 yX4_multiply cX4_multiply 5 none 1 := ⟨lk_X4_multiply, wd_490, wd_491, wd_492⟩
theorem lk_X2_weigh : gLk yX2_weigh cX2_weigh 5 none 2 := ⟨wd_869, wd_57, by decide, by decide, by decide +kernel⟩
theorem lm_X2_63 : gLkV RX2 63 yX2_weigh cX2_weigh 5 none 2 := ⟨lk_X2_weigh, wd_866, wd_867, wd_868⟩
theorem lk_X2_lowerBy : gLk yX2_lowerBy cX2_lowerBy 3 none 1 := ⟨wd_523, wd_57, by decide, by decide, by decide +kernel⟩
theorem lm_X2_67 : gLkV RX2 67 yX2_lowerBy cX2_lowerBy 3 none 1 := ⟨lk_X2_lowerBy, wd_520, wd_521, wd_522⟩
theorem lk_X2_closeZero : gLk yX2_closeZero cX2_closeZero 1 none 0 := ⟨wd_538, wd_57, by decide, by decide, by decide +kernel⟩
theorem lm_X2_70 : gLkV RX2 70 yX2_closeZero cX2_closeZero 1 none 0 := ⟨lk_X2_closeZero, wd_535, wd_536, wd_537⟩
theorem lm_X2_84 : gLkV RX2 84 yX1_habitOf cX1_habitOf 3 (some .int) 2 := ⟨lk_X1_habitOf, wd_871, wd_859, wd_860⟩
theorem lk_X1_habitsOf : gLk yX1_habitsOf cX1_habitsOf 4 (some .int) 1 := ⟨wd_875, wd_56, by decide, by decide, by decide +kernel⟩
theorem lm_X2_87 : gLkV RX2 87 yX1_habitsOf cX1_habitsOf 4 (some .int) 1 := ⟨lk_X1_habitsOf, wd_872, wd_873, wd_874⟩
theorem lk_X2_without : gLk yX2_without cX2_without 4 (some .int) 2 := ⟨wd_534, wd_57, by decide, by decide, by decide +kernel⟩
theorem lm_X2_91 : gLkS RX2 91 yX2_without cX2_without 4 (some .int) 2 := ⟨lk_X2_without, wd_532, wd_533⟩
theorem lk_X4_isDivisible : gLk yX4_isDivisible cX4_isDivisible 5 (some .boolean) 1 := ⟨wd_527, wd_58, by decide, by decide, by decide +kernel⟩
theorem lm_X2_97 : gLkV RX2 97 yX4_isDivisible cX4_isDivisible 5 (some .boolean) 1 := ⟨lk_X4_isDivisible, wd_524, wd_525, wd_526⟩
theorem lk_X4_divide : gLk yX4_divide cX4_divide 5 none 1 := ⟨wd_531, wd_58, by decide, by decide, by decide +kernel⟩
theorem lm_X2_101 : gLkV RX2 101 yX4_divide cX4_divide 5 none 1 := ⟨lk_X4_divide, wd_528, wd_529, wd_530⟩
theorem lk_X4_digestOn : gLk yX4_digestOn cX4_digestOn 3 (some .long) 1 := ⟨wd_927, wd_58, by decide, by decide, by decide +kernel⟩
theorem lm_X2_106 : gLkV RX2 106 yX4_digestOn cX4_digestOn 3 (some .long) 1 := ⟨lk_X4_digestOn, wd_924, wd_925, wd_926⟩
theorem lm_X3_3 : Cond.methodLink RX3 3 objectInit ∈ gAL := wd_259
theorem lk_X3_index : gLk yX3_index cX3_index 3 (some .int) 3 := ⟨wd_711, wd_61, by decide, by decide, by decide +kernel⟩
theorem lm_X3_48 : gLkS RX3 48 yX3_index cX3_index 3 (some .int) 3 := ⟨lk_X3_index, wd_709, wd_710⟩
theorem lk_X6_heard : gLk yX6_heard cX6_heard 9 (some .int) 5 := ⟨wd_399, wd_64, by decide, by decide, by decide +kernel⟩
theorem lm_X3_52 : gLkS RX3 52 yX6_heard cX6_heard 9 (some .int) 5 := ⟨lk_X6_heard, wd_712, wd_398⟩
theorem lk_X3_together : gLk yX3_together cX3_together 7 (some .int) 3 := ⟨wd_721, wd_61, by decide, by decide, by decide +kernel⟩
theorem lm_X3_62 : gLkV RX3 62 yX3_together cX3_together 7 (some .int) 3 := ⟨lk_X3_together, wd_718, wd_719, wd_720⟩
theorem lk_X3_isHidden : gLk yX3_isHidden cX3_isHidden 8 (some .boolean) 2 := ⟨wd_717, wd_61, by decide, by decide, by decide +kernel⟩
theorem lm_X3_65 : gLkV RX3 65 yX3_isHidden cX3_isHidden 8 (some .boolean) 2 := ⟨lk_X3_isHidden, wd_730, wd_715, wd_716⟩
theorem lm_X3_69 : gLkS RX3 69 yJ6_bitCount_0f7a4 cJ6_bitCount_0f7a4 1 (some .int) 1 := ⟨lk_J6_bitCount_0f7a4, wd_739, wd_596⟩
theorem lk_X3_hideAllOthers : gLk yX3_hideAllOthers cX3_hideAllOthers 3 (some .boolean) 1 := ⟨wd_743, wd_61, by decide, by decide, by decide +kernel⟩
theorem lm_X3_75 : gLkV RX3 75 yX3_hideAllOthers cX3_hideAllOthers 3 (some .boolean) 1 := ⟨lk_X3_hideAllOthers, wd_740, wd_741, wd_742⟩
theorem lm_X4_3 : Cond.methodLink RX4 3 objectInit ∈ gAL := wd_161
theorem lk_X4_push : gLk yX4_push cX4_push 3 none 1 := ⟨wd_179, wd_58, by decide, by decide, by decide +kernel⟩
theorem lm_X4_17 : gLkV RX4 17 yX4_push cX4_push 3 none 1 := ⟨lk_X4_push, wd_176, wd_177, wd_178⟩
theorem lk_X4_trim : gLk yX4_trim cX4_trim 2 none 0 := ⟨wd_499, wd_58, by decide, by decide, by decide +kernel⟩
theorem lm_X4_37 : gLkV RX4 37 yX4_trim cX4_trim 2 none 0 := ⟨lk_X4_trim, wd_496, wd_497, wd_498⟩
theorem lm_X4_40 : gMa RX4 40 Lib.Math.max.name Lib.Math.max.code 2 := ⟨wd_504, wd_411, wd_65, wd_412⟩
theorem lk_X4_digitAt : gLk yX4_digitAt cX4_digitAt 2 (some .long) 1 := ⟨wd_508, wd_58, by decide, by decide, by decide +kernel⟩
theorem lm_X4_46 : gLkV RX4 46 yX4_digitAt cX4_digitAt 2 (some .long) 1 := ⟨lk_X4_digitAt, wd_505, wd_506, wd_507⟩
theorem lm_X5_3 : Cond.methodLink RX5 3 objectInit ∈ gAL := wd_216
theorem lk_X5_tokenEnd : gLk yX5_tokenEnd cX5_tokenEnd 7 (some .int) 2 := ⟨wd_655, wd_60, by decide, by decide, by decide +kernel⟩
theorem lm_X5_45 : gLkS RX5 45 yX5_tokenEnd cX5_tokenEnd 7 (some .int) 2 := ⟨lk_X5_tokenEnd, wd_653, wd_654⟩
theorem lm_X5_49 : gMa RX5 49 Lib.Math.max.name Lib.Math.max.code 2 := ⟨wd_664, wd_411, wd_65, wd_412⟩
theorem lk_X5_takes : gLk yX5_takes cX5_takes 5 (some .boolean) 3 := ⟨wd_668, wd_60, by decide, by decide, by decide +kernel⟩
theorem lm_X5_62 : gLkV RX5 62 yX5_takes cX5_takes 5 (some .boolean) 3 := ⟨lk_X5_takes, wd_665, wd_666, wd_667⟩
theorem lk_X5_isLetter : gLk yX5_isLetter cX5_isLetter 1 (some .boolean) 1 := ⟨wd_659, wd_60, by decide, by decide, by decide +kernel⟩
theorem lm_X5_66 : gLkS RX5 66 yX5_isLetter cX5_isLetter 1 (some .boolean) 1 := ⟨lk_X5_isLetter, wd_657, wd_658⟩
theorem lk_X5_isFigure : gLk yX5_isFigure cX5_isFigure 1 (some .boolean) 1 := ⟨wd_663, wd_60, by decide, by decide, by decide +kernel⟩
theorem lm_X5_70 : gLkS RX5 70 yX5_isFigure cX5_isFigure 1 (some .boolean) 1 := ⟨lk_X5_isFigure, wd_661, wd_662⟩
theorem lk_X5_takesWord : gLk yX5_takesWord cX5_takesWord 4 (some .boolean) 3 := ⟨wd_672, wd_60, by decide, by decide, by decide +kernel⟩
theorem lm_X5_77 : gLkV RX5 77 yX5_takesWord cX5_takesWord 4 (some .boolean) 3 := ⟨lk_X5_takesWord, wd_669, wd_670, wd_671⟩
theorem lk_X5_numberOf : gLk yX5_numberOf cX5_numberOf 5 (some .int) 3 := ⟨wd_681, wd_60, by decide, by decide, by decide +kernel⟩
theorem lm_X5_80 : gLkS RX5 80 yX5_numberOf cX5_numberOf 5 (some .int) 3 := ⟨lk_X5_numberOf, wd_679, wd_680⟩
theorem lk_X5_takesNumber : gLk yX5_takesNumber cX5_takesNumber 3 (some .boolean) 2 := ⟨wd_685, wd_60, by decide, by decide, by decide +kernel⟩
theorem lm_X5_84 : gLkV RX5 84 yX5_takesNumber cX5_takesNumber 3 (some .boolean) 2 := ⟨lk_X5_takesNumber, wd_682, wd_683, wd_684⟩
theorem lk_X5_isAt : gLk yX5_isAt cX5_isAt 3 (some .boolean) 3 := ⟨wd_675, wd_60, by decide, by decide, by decide +kernel⟩
theorem lm_X5_88 : gLkS RX5 88 yX5_isAt cX5_isAt 3 (some .boolean) 3 := ⟨lk_X5_isAt, wd_673, wd_674⟩
theorem lk_X5_isFar : gLk yX5_isFar cX5_isFar 3 (some .boolean) 3 := ⟨wd_678, wd_60, by decide, by decide, by decide +kernel⟩
theorem lm_X5_91 : gLkS RX5 91 yX5_isFar cX5_isFar 3 (some .boolean) 3 := ⟨lk_X5_isFar, wd_676, wd_677⟩
theorem lk_X5_takesPart : gLk yX5_takesPart cX5_takesPart 5 (some .boolean) 4 := ⟨wd_689, wd_60, by decide, by decide, by decide +kernel⟩
theorem lm_X5_94 : gLkV RX5 94 yX5_takesPart cX5_takesPart 5 (some .boolean) 4 := ⟨lk_X5_takesPart, wd_686, wd_687, wd_688⟩
theorem lk_X6_fading : gLk yX6_fading cX6_fading 5 (some .int) 3 := ⟨wd_403, wd_64, by decide, by decide, by decide +kernel⟩
theorem lm_X6_27 : gLkS RX6 27 yX6_fading cX6_fading 5 (some .int) 3 := ⟨lk_X6_fading, wd_401, wd_402⟩
theorem lk_X6_ofClass : gLk yX6_ofClass cX6_ofClass 4 (some .int) 4 := ⟨wd_406, wd_64, by decide, by decide, by decide +kernel⟩
theorem lm_X6_31 : gLkS RX6 31 yX6_ofClass cX6_ofClass 4 (some .int) 4 := ⟨lk_X6_ofClass, wd_404, wd_405⟩
theorem lm_X6_35 : gMa RX6 35 Lib.Math.max.name Lib.Math.max.code 2 := ⟨wd_410, wd_411, wd_65, wd_412⟩
theorem lm_X6_41 : gMa RX6 41 Lib.Math.min.name Lib.Math.min.code 2 := ⟨wd_407, wd_408, wd_65, wd_409⟩
theorem lm_X6_44 : gLkS RX6 44 yX6_heard cX6_heard 9 (some .int) 5 := ⟨lk_X6_heard, wd_420, wd_398⟩
theorem lm_X7_3 : Cond.methodLink RX7 3 objectInit ∈ gAL := wd_278
theorem lk_X7_secondsBetween : gLk yX7_secondsBetween cX7_secondsBetween 6 (some .int) 4 := ⟨wd_754, wd_62, by decide, by decide, by decide +kernel⟩
theorem lm_X7_25 : gLkS RX7 25 yX7_secondsBetween cX7_secondsBetween 6 (some .int) 4 := ⟨lk_X7_secondsBetween, wd_752, wd_753⟩
theorem lk_X7_all : gLk yX7_all cX7_all 1 (some .int) 0 := ⟨wd_760, wd_62, by decide, by decide, by decide +kernel⟩
theorem lm_X7_33 : gLkV RX7 33 yX7_all cX7_all 1 (some .int) 0 := ⟨lk_X7_all, wd_757, wd_758, wd_759⟩
theorem lk_X7_leastFrom : gLk yX7_leastFrom cX7_leastFrom 5 (some .int) 2 := ⟨wd_764, wd_62, by decide, by decide, by decide +kernel⟩
theorem lm_X7_37 : gLkV RX7 37 yX7_leastFrom cX7_leastFrom 5 (some .int) 2 := ⟨lk_X7_leastFrom, wd_761, wd_762, wd_763⟩
theorem lk_X7_secondsBy : gLk yX7_secondsBy cX7_secondsBy 5 (some .int) 3 := ⟨wd_769, wd_62, by decide, by decide, by decide +kernel⟩
theorem lm_X7_57 : gLkV RX7 57 yX7_secondsBy cX7_secondsBy 5 (some .int) 3 := ⟨lk_X7_secondsBy, wd_766, wd_767, wd_768⟩
theorem lm_X7_61 : gMa RX7 61 Lib.Math.min.name Lib.Math.min.code 2 := ⟨wd_770, wd_408, wd_65, wd_409⟩
theorem lk_X7_firstNext : gLk yX7_firstNext cX7_firstNext 5 (some .int) 2 := ⟨wd_783, wd_62, by decide, by decide, by decide +kernel⟩
theorem lm_X7_66 : gLkV RX7 66 yX7_firstNext cX7_firstNext 5 (some .int) 2 := ⟨lk_X7_firstNext, wd_780, wd_781, wd_782⟩
theorem lk_X7_greaterOfTwo : gLk yX7_greaterOfTwo cX7_greaterOfTwo 2 (some .int) 1 := ⟨wd_795, wd_62, by decide, by decide, by decide +kernel⟩
theorem lm_X7_69 : gLkV RX7 69 yX7_greaterOfTwo cX7_greaterOfTwo 2 (some .int) 1 := ⟨lk_X7_greaterOfTwo, wd_792, wd_793, wd_794⟩
theorem lk_X7_seconds : gLk yX7_seconds cX7_seconds 2 (some .int) 1 := ⟨wd_775, wd_62, by decide, by decide, by decide +kernel⟩
theorem lm_X7_73 : gLkV RX7 73 yX7_seconds cX7_seconds 2 (some .int) 1 := ⟨lk_X7_seconds, wd_796, wd_773, wd_774⟩
theorem lm_X7_76 : gMa RX7 76 Lib.Math.max.name Lib.Math.max.code 2 := ⟨wd_797, wd_411, wd_65, wd_412⟩
theorem lm_X8_1 : Cond.methodLink RX8 1 objectInit ∈ gAL := wd_72
theorem lk_X2_init : gLk yX2_init cX2_init 1 none 0 := ⟨wd_154, wd_57, by decide, by decide, by decide +kernel⟩
theorem lm_X8_24 : gLkI RX8 24 yX2_init cX2_init 1 0 := ⟨lk_X2_init, wd_152, wd_153, rfl⟩
theorem lk_X8_fits : gLk yX8_fits cX8_fits 3 (some .boolean) 3 := ⟨wd_335, wd_55, by decide, by decide, by decide +kernel⟩
theorem lm_X8_57 : gLkS RX8 57 yX8_fits cX8_fits 3 (some .boolean) 3 := ⟨lk_X8_fits, wd_333, wd_334⟩
theorem lk_X8_refuseBad : gLk yX8_refuseBad cX8_refuseBad 1 (some .int) 0 := ⟨wd_339, wd_55, by decide, by decide, by decide +kernel⟩
theorem lm_X8_61 : gLkV RX8 61 yX8_refuseBad cX8_refuseBad 1 (some .int) 0 := ⟨lk_X8_refuseBad, wd_336, wd_338, wd_0⟩
theorem lk_X8_refuseFull : gLk yX8_refuseFull cX8_refuseFull 1 (some .int) 0 := ⟨wd_343, wd_55, by decide, by decide, by decide +kernel⟩
theorem lm_X8_69 : gLkV RX8 69 yX8_refuseFull cX8_refuseFull 1 (some .int) 0 := ⟨lk_X8_refuseFull, wd_340, wd_342, wd_1⟩
theorem lk_X1_addThing : gLk yX1_addThing cX1_addThing 3 (some .int) 2 := ⟨wd_347, wd_56, by decide, by decide, by decide +kernel⟩
theorem lm_X8_72 : gLkV RX8 72 yX1_addThing cX1_addThing 3 (some .int) 2 := ⟨lk_X1_addThing, wd_344, wd_345, wd_346⟩
theorem lk_X8_isThing : gLk yX8_isThing cX8_isThing 2 (some .boolean) 1 := ⟨wd_356, wd_55, by decide, by decide, by decide +kernel⟩
theorem lm_X8_76 : gLkV RX8 76 yX8_isThing cX8_isThing 2 (some .boolean) 1 := ⟨lk_X8_isThing, wd_353, wd_355, wd_2⟩
theorem lk_X8_isBand : gLk yX8_isBand cX8_isBand 1 (some .boolean) 1 := ⟨wd_359, wd_55, by decide, by decide, by decide +kernel⟩
theorem lm_X8_80 : gLkS RX8 80 yX8_isBand cX8_isBand 1 (some .boolean) 1 := ⟨lk_X8_isBand, wd_357, wd_358⟩
theorem lk_X8_exchange : gLk yX8_exchange cX8_exchange 4 (some .int) 3 := ⟨wd_362, wd_55, by decide, by decide, by decide +kernel⟩
theorem lm_X8_87 : gLkS RX8 87 yX8_exchange cX8_exchange 4 (some .int) 3 := ⟨lk_X8_exchange, wd_360, wd_361⟩
theorem lk_X1_addMeaning : gLk yX1_addMeaning cX1_addMeaning 2 (some .int) 1 := ⟨wd_374, wd_56, by decide, by decide, by decide +kernel⟩
theorem lm_X8_94 : gLkV RX8 94 yX1_addMeaning cX1_addMeaning 2 (some .int) 1 := ⟨lk_X1_addMeaning, wd_371, wd_372, wd_373⟩
theorem lk_X8_isMeaning : gLk yX8_isMeaning cX8_isMeaning 2 (some .boolean) 1 := ⟨wd_382, wd_55, by decide, by decide, by decide +kernel⟩
theorem lm_X8_98 : gLkV RX8 98 yX8_isMeaning cX8_isMeaning 2 (some .boolean) 1 := ⟨lk_X8_isMeaning, wd_379, wd_381, wd_3⟩
theorem lk_X8_leastPut : gLk yX8_leastPut cX8_leastPut 1 (some .int) 1 := ⟨wd_389, wd_55, by decide, by decide, by decide +kernel⟩
theorem lm_X8_104 : gLkS RX8 104 yX8_leastPut cX8_leastPut 1 (some .int) 1 := ⟨lk_X8_leastPut, wd_387, wd_388⟩
theorem lk_X8_greatestPut : gLk yX8_greatestPut cX8_greatestPut 1 (some .int) 1 := ⟨wd_392, wd_55, by decide, by decide, by decide +kernel⟩
theorem lm_X8_107 : gLkS RX8 107 yX8_greatestPut cX8_greatestPut 1 (some .int) 1 := ⟨lk_X8_greatestPut, wd_390, wd_391⟩
theorem lm_X8_113 : gLkS RX8 113 yX6_heard cX6_heard 9 (some .int) 5 := ⟨lk_X6_heard, wd_397, wd_398⟩
theorem lm_X8_119 : gLkS RX8 119 yX6_together cX6_together 6 (some .int) 4 := ⟨lk_X6_together, wd_417, wd_418⟩
theorem lm_X8_123 : gLkV RX8 123 yX0_hear cX0_hear 7 none 3 := ⟨lk_X0_hear, wd_425, wd_426, wd_427⟩
theorem lm_X8_127 : gLkV RX8 127 yX0_like cX0_like 3 (some .int) 2 := ⟨lk_X0_like, wd_444, wd_445, wd_446⟩
theorem lk_X8_isSight : gLk yX8_isSight cX8_isSight 3 (some .boolean) 2 := ⟨wd_455, wd_55, by decide, by decide, by decide +kernel⟩
theorem lm_X8_130 : gLkV RX8 130 yX8_isSight cX8_isSight 3 (some .boolean) 2 := ⟨lk_X8_isSight, wd_452, wd_454, wd_4⟩
theorem lm_X8_134 : gLkS RX8 134 yX0_bonus cX0_bonus 3 (some .int) 2 := ⟨lk_X0_bonus, wd_456, wd_457⟩
theorem lm_X8_138 : gLkV RX8 138 yX0_total cX0_total 2 (some .int) 1 := ⟨lk_X0_total, wd_459, wd_460, wd_461⟩
theorem lk_X8_refuseNo : gLk yX8_refuseNo cX8_refuseNo 1 (some .int) 0 := ⟨wd_466, wd_55, by decide, by decide, by decide +kernel⟩
theorem lm_X8_141 : gLkV RX8 141 yX8_refuseNo cX8_refuseNo 1 (some .int) 0 := ⟨lk_X8_refuseNo, wd_463, wd_465, wd_5⟩
theorem lk_X2_becomeShare : gLk yX2_becomeShare cX2_becomeShare 4 none 2 := ⟨wd_470, wd_57, by decide, by decide, by decide +kernel⟩
theorem lm_X8_144 : gLkV RX8 144 yX2_becomeShare cX2_becomeShare 4 none 2 := ⟨lk_X2_becomeShare, wd_467, wd_468, wd_469⟩
theorem lk_X2_becomeMost : gLk yX2_becomeMost cX2_becomeMost 9 none 4 := ⟨wd_482, wd_57, by decide, by decide, by decide +kernel⟩
theorem lm_X8_148 : gLkV RX8 148 yX2_becomeMost cX2_becomeMost 9 none 4 := ⟨lk_X2_becomeMost, wd_479, wd_480, wd_481⟩
theorem lk_X0_latest : gLk yX0_latest cX0_latest 8 (some .int) 5 := ⟨wd_546, wd_59, by decide, by decide, by decide +kernel⟩
theorem lm_X8_152 : gLkV RX8 152 yX0_latest cX0_latest 8 (some .int) 5 := ⟨lk_X0_latest, wd_543, wd_544, wd_545⟩
theorem lk_X0_hearAll : gLk yX0_hearAll cX0_hearAll 3 none 1 := ⟨wd_557, wd_59, by decide, by decide, by decide +kernel⟩
theorem lm_X8_155 : gLkV RX8 155 yX0_hearAll cX0_hearAll 3 none 1 := ⟨lk_X0_hearAll, wd_554, wd_555, wd_556⟩
theorem lm_X8_159 : gLkV RX8 159 yX0_bestFor cX0_bestFor 5 (some .int) 2 := ⟨lk_X0_bestFor, wd_559, wd_560, wd_561⟩
theorem lm_X8_162 : gLkV RX8 162 yX0_isTruer cX0_isTruer 4 (some .boolean) 3 := ⟨lk_X0_isTruer, wd_571, wd_564, wd_565⟩
theorem lk_X8_areBits : gLk yX8_areBits cX8_areBits 2 (some .boolean) 2 := ⟨wd_578, wd_55, by decide, by decide, by decide +kernel⟩
theorem lm_X8_165 : gLkS RX8 165 yX8_areBits cX8_areBits 2 (some .boolean) 2 := ⟨lk_X8_areBits, wd_576, wd_577⟩
theorem lm_X8_168 : gLkV RX8 168 yX0_service cX0_service 6 (some .int) 3 := ⟨lk_X0_service, wd_579, wd_580, wd_581⟩
theorem lk_X0_worthiest : gLk yX0_worthiest cX0_worthiest 7 (some .int) 2 := ⟨wd_594, wd_59, by decide, by decide, by decide +kernel⟩
theorem lm_X8_172 : gLkV RX8 172 yX0_worthiest cX0_worthiest 7 (some .int) 2 := ⟨lk_X0_worthiest, wd_591, wd_592, wd_593⟩
theorem lk_X0_unclear : gLk yX0_unclear cX0_unclear 4 (some .int) 1 := ⟨wd_613, wd_59, by decide, by decide, by decide +kernel⟩
theorem lm_X8_175 : gLkV RX8 175 yX0_unclear cX0_unclear 4 (some .int) 1 := ⟨lk_X0_unclear, wd_610, wd_611, wd_612⟩
theorem lk_X0_nearestThree : gLk yX0_nearestThree cX0_nearestThree 9 (some .int) 2 := ⟨wd_626, wd_59, by decide, by decide, by decide +kernel⟩
theorem lm_X8_179 : gLkV RX8 179 yX0_nearestThree cX0_nearestThree 9 (some .int) 2 := ⟨lk_X0_nearestThree, wd_623, wd_624, wd_625⟩
theorem lk_X1_addBytes : gLk yX1_addBytes cX1_addBytes 5 (some .int) 2 := ⟨wd_640, wd_56, by decide, by decide, by decide +kernel⟩
theorem lm_X8_185 : gLkV RX8 185 yX1_addBytes cX1_addBytes 5 (some .int) 2 := ⟨lk_X1_addBytes, wd_637, wd_638, wd_639⟩
theorem lk_X5_read : gLk yX5_read cX5_read 4 none 1 := ⟨wd_652, wd_60, by decide, by decide, by decide +kernel⟩
theorem lm_X8_189 : gLkV RX8 189 yX5_read cX5_read 4 none 1 := ⟨lk_X5_read, wd_649, wd_650, wd_651⟩
theorem lk_X8_readsReel : gLk yX8_readsReel cX8_readsReel 1 (some .boolean) 0 := ⟨wd_698, wd_55, by decide, by decide, by decide +kernel⟩
theorem lm_X8_195 : gLkV RX8 195 yX8_readsReel cX8_readsReel 1 (some .boolean) 0 := ⟨lk_X8_readsReel, wd_695, wd_697, wd_6⟩
theorem lk_X3_listen : gLk yX3_listen cX3_listen 8 none 2 := ⟨wd_706, wd_61, by decide, by decide, by decide +kernel⟩
theorem lm_X8_202 : gLkV RX8 202 yX3_listen cX3_listen 8 none 2 := ⟨lk_X3_listen, wd_703, wd_704, wd_705⟩
theorem lm_X8_206 : gLkV RX8 206 yX3_isHidden cX3_isHidden 8 (some .boolean) 2 := ⟨lk_X3_isHidden, wd_714, wd_715, wd_716⟩
theorem lk_X3_hiddenByOthers : gLk yX3_hiddenByOthers cX3_hiddenByOthers 3 (some .int) 0 := ⟨wd_729, wd_61, by decide, by decide, by decide +kernel⟩
theorem lm_X8_209 : gLkV RX8 209 yX3_hiddenByOthers cX3_hiddenByOthers 3 (some .int) 0 := ⟨lk_X3_hiddenByOthers, wd_726, wd_727, wd_728⟩
theorem lk_X3_fewestHiders : gLk yX3_fewestHiders cX3_fewestHiders 3 (some .int) 0 := ⟨wd_738, wd_61, by decide, by decide, by decide +kernel⟩
theorem lm_X8_212 : gLkV RX8 212 yX3_fewestHiders cX3_fewestHiders 3 (some .int) 0 := ⟨lk_X3_fewestHiders, wd_735, wd_736, wd_737⟩
theorem lk_X7_plan : gLk yX7_plan cX7_plan 5 none 2 := ⟨wd_751, wd_62, by decide, by decide, by decide +kernel⟩
theorem lm_X8_215 : gLkV RX8 215 yX7_plan cX7_plan 5 none 2 := ⟨lk_X7_plan, wd_748, wd_749, wd_750⟩
theorem lm_X8_218 : gLkV RX8 218 yX7_all cX7_all 1 (some .int) 0 := ⟨lk_X7_all, wd_771, wd_758, wd_759⟩
theorem lm_X8_221 : gLkV RX8 221 yX7_seconds cX7_seconds 2 (some .int) 1 := ⟨lk_X7_seconds, wd_772, wd_773, wd_774⟩
theorem lk_X7_placeInOrder : gLk yX7_placeInOrder cX7_placeInOrder 5 (some .int) 1 := ⟨wd_779, wd_62, by decide, by decide, by decide +kernel⟩
theorem lm_X8_224 : gLkV RX8 224 yX7_placeInOrder cX7_placeInOrder 5 (some .int) 1 := ⟨lk_X7_placeInOrder, wd_776, wd_777, wd_778⟩
theorem lk_X7_split : gLk yX7_split cX7_split 5 (some .int) 0 := ⟨wd_791, wd_62, by decide, by decide, by decide +kernel⟩
theorem lm_X8_227 : gLkV RX8 227 yX7_split cX7_split 5 (some .int) 0 := ⟨lk_X7_split, wd_788, wd_789, wd_790⟩
theorem lm_X8_230 : gLkV RX8 230 yX7_greaterOfTwo cX7_greaterOfTwo 2 (some .int) 1 := ⟨lk_X7_greaterOfTwo, wd_798, wd_793, wd_794⟩
theorem lk_X8_isWalker : gLk yX8_isWalker cX8_isWalker 4 (some .boolean) 4 := ⟨wd_805, wd_55, by decide, by decide, by decide +kernel⟩
theorem lm_X8_233 : gLkS RX8 233 yX8_isWalker cX8_isWalker 4 (some .boolean) 4 := ⟨lk_X8_isWalker, wd_803, wd_804⟩
theorem lk_X8_lagBehind : gLk yX8_lagBehind cX8_lagBehind 5 (some .int) 5 := ⟨wd_808, wd_55, by decide, by decide, by decide +kernel⟩
theorem lm_X8_237 : gLkS RX8 237 yX8_lagBehind cX8_lagBehind 5 (some .int) 5 := ⟨lk_X8_lagBehind, wd_806, wd_807⟩
theorem lk_X1_addHouse : gLk yX1_addHouse cX1_addHouse 2 (some .int) 0 := ⟨wd_824, wd_56, by decide, by decide, by decide +kernel⟩
theorem lm_X8_244 : gLkV RX8 244 yX1_addHouse cX1_addHouse 2 (some .int) 0 := ⟨lk_X1_addHouse, wd_821, wd_822, wd_823⟩
theorem lk_X8_isHouse : gLk yX8_isHouse cX8_isHouse 2 (some .boolean) 1 := ⟨wd_832, wd_55, by decide, by decide, by decide +kernel⟩
theorem lm_X8_247 : gLkV RX8 247 yX8_isHouse cX8_isHouse 2 (some .boolean) 1 := ⟨lk_X8_isHouse, wd_829, wd_831, wd_7⟩
theorem lk_X1_addSeen : gLk yX1_addSeen cX1_addSeen 2 (some .int) 1 := ⟨wd_840, wd_56, by decide, by decide, by decide +kernel⟩
theorem lm_X8_256 : gLkV RX8 256 yX1_addSeen cX1_addSeen 2 (some .int) 1 := ⟨lk_X1_addSeen, wd_837, wd_838, wd_839⟩
theorem lk_X1_canBeOfAHouse : gLk yX1_canBeOfAHouse cX1_canBeOfAHouse 2 (some .boolean) 0 := ⟨wd_852, wd_56, by decide, by decide, by decide +kernel⟩
theorem lm_X8_259 : gLkV RX8 259 yX1_canBeOfAHouse cX1_canBeOfAHouse 2 (some .boolean) 0 := ⟨lk_X1_canBeOfAHouse, wd_849, wd_850, wd_851⟩
theorem lk_X2_becomeHouse : gLk yX2_becomeHouse cX2_becomeHouse 4 none 2 := ⟨wd_865, wd_57, by decide, by decide, by decide +kernel⟩
theorem lm_X8_262 : gLkV RX8 262 yX2_becomeHouse cX2_becomeHouse 4 none 2 := ⟨lk_X2_becomeHouse, wd_862, wd_863, wd_864⟩
theorem lk_X8_look : gLk yX8_look cX8_look 2 (some .int) 2 := ⟨wd_365, wd_55, by decide, by decide, by decide +kernel⟩
theorem lm_X8_281 : gLkS RX8 281 yX8_look cX8_look 2 (some .int) 2 := ⟨lk_X8_look, wd_363, wd_364⟩
theorem lk_X1_become : gLk yX1_become cX1_become 2 none 1 := ⟨wd_891, wd_56, by decide, by decide, by decide +kernel⟩
theorem lm_X8_285 : gLkV RX8 285 yX1_become cX1_become 2 none 1 := ⟨lk_X1_become, wd_888, wd_889, wd_890⟩
theorem lk_X1_digestOn : gLk yX1_digestOn cX1_digestOn 6 (some .long) 1 := ⟨wd_913, wd_56, by decide, by decide, by decide +kernel⟩
theorem lm_X8_306 : gLkV RX8 306 yX1_digestOn cX1_digestOn 6 (some .long) 1 := ⟨lk_X1_digestOn, wd_910, wd_911, wd_912⟩
theorem lk_X2_digestOn : gLk yX2_digestOn cX2_digestOn 5 (some .long) 1 := ⟨wd_922, wd_57, by decide, by decide, by decide +kernel⟩
theorem lm_X8_310 : gLkV RX8 310 yX2_digestOn cX2_digestOn 5 (some .long) 1 := ⟨lk_X2_digestOn, wd_919, wd_920, wd_921⟩
theorem lk_X8_lay : gLk yX8_lay cX8_lay 3 none 3 := ⟨wd_182, wd_55, by decide, by decide, by decide +kernel⟩
theorem lm_X8_311 : gLkS RX8 311 yX8_lay cX8_lay 3 none 3 := ⟨lk_X8_lay, wd_366, wd_181⟩
theorem lm_X9_1 : Cond.methodLink RX9 1 objectInit ∈ gAL := wd_934
theorem lk_X9_in : gLk yX9_in cX9_in 3 (some .boolean) 3 := ⟨wd_1009, wd_63, by decide, by decide, by decide +kernel⟩
theorem lm_X9_50 : gLkS RX9 50 yX9_in cX9_in 3 (some .boolean) 3 := ⟨lk_X9_in, wd_1007, wd_1008⟩
theorem lk_X9_refuse : gLk yX9_refuse cX9_refuse 2 (some .int) 1 := ⟨wd_1013, wd_63, by decide, by decide, by decide +kernel⟩
theorem lm_X9_54 : gLkV RX9 54 yX9_refuse cX9_refuse 2 (some .int) 1 := ⟨lk_X9_refuse, wd_1010, wd_1012, wd_8⟩
theorem lk_X9_isThing : gLk yX9_isThing cX9_isThing 2 (some .boolean) 1 := ⟨wd_1021, wd_63, by decide, by decide, by decide +kernel⟩
theorem lm_X9_58 : gLkV RX9 58 yX9_isThing cX9_isThing 2 (some .boolean) 1 := ⟨lk_X9_isThing, wd_1018, wd_1020, wd_9⟩
theorem lk_X9_isMeaning : gLk yX9_isMeaning cX9_isMeaning 2 (some .boolean) 1 := ⟨wd_1033, wd_63, by decide, by decide, by decide +kernel⟩
theorem lm_X9_62 : gLkV RX9 62 yX9_isMeaning cX9_isMeaning 2 (some .boolean) 1 := ⟨lk_X9_isMeaning, wd_1030, wd_1032, wd_10⟩
theorem lk_X9_trueOf : gLk yX9_trueOf cX9_trueOf 6 (some .int) 3 := ⟨wd_1053, wd_63, by decide, by decide, by decide +kernel⟩
theorem lm_X9_65 : gLkV RX9 65 yX9_trueOf cX9_trueOf 6 (some .int) 3 := ⟨lk_X9_trueOf, wd_1050, wd_1052, wd_13⟩
theorem lk_X9_stoodOf : gLk yX9_stoodOf cX9_stoodOf 5 (some .int) 3 := ⟨wd_1057, wd_63, by decide, by decide, by decide +kernel⟩
theorem lm_X9_69 : gLkV RX9 69 yX9_stoodOf cX9_stoodOf 5 (some .int) 3 := ⟨lk_X9_stoodOf, wd_1054, wd_1056, wd_14⟩
theorem lk_X9_classOf : gLk yX9_classOf cX9_classOf 5 (some .int) 3 := ⟨wd_1049, wd_63, by decide, by decide, by decide +kernel⟩
theorem lm_X9_72 : gLkV RX9 72 yX9_classOf cX9_classOf 5 (some .int) 3 := ⟨lk_X9_classOf, wd_1046, wd_1048, wd_12⟩
theorem lk_X9_valueOf : gLk yX9_valueOf cX9_valueOf 6 (some .int) 4 := ⟨wd_1045, wd_63, by decide, by decide, by decide +kernel⟩
theorem lm_X9_75 : gLkV RX9 75 yX9_valueOf cX9_valueOf 6 (some .int) 4 := ⟨lk_X9_valueOf, wd_1042, wd_1044, wd_11⟩
theorem lk_X9_loudOf : gLk yX9_loudOf cX9_loudOf 6 (some .int) 3 := ⟨wd_1065, wd_63, by decide, by decide, by decide +kernel⟩
theorem lm_X9_79 : gLkV RX9 79 yX9_loudOf cX9_loudOf 6 (some .int) 3 := ⟨lk_X9_loudOf, wd_1062, wd_1064, wd_15⟩
theorem lk_X9_likenessOf : gLk yX9_likenessOf cX9_likenessOf 7 (some .int) 3 := ⟨wd_1073, wd_63, by decide, by decide, by decide +kernel⟩
theorem lm_X9_82 : gLkV RX9 82 yX9_likenessOf cX9_likenessOf 7 (some .int) 3 := ⟨lk_X9_likenessOf, wd_1070, wd_1072, wd_16⟩
theorem lk_X9_weigh : gLk yX9_weigh cX9_weigh 6 none 4 := ⟨wd_1081, wd_63, by decide, by decide, by decide +kernel⟩
theorem lm_X9_89 : gLkV RX9 89 yX9_weigh cX9_weigh 6 none 4 := ⟨lk_X9_weigh, wd_1078, wd_1080, wd_17⟩
theorem lk_X9_set : gLk yX9_set cX9_set 4 none 2 := ⟨wd_1085, wd_63, by decide, by decide, by decide +kernel⟩
theorem lm_X9_93 : gLkV RX9 93 yX9_set cX9_set 4 none 2 := ⟨lk_X9_set, wd_1082, wd_1084, wd_18⟩
theorem lk_X9_tell : gLk yX9_tell cX9_tell 1 none 0 := ⟨wd_1089, wd_63, by decide, by decide, by decide +kernel⟩
theorem lm_X9_97 : gLkV RX9 97 yX9_tell cX9_tell 1 none 0 := ⟨lk_X9_tell, wd_1086, wd_1088, wd_19⟩
theorem lk_X9_times : gLk yX9_times cX9_times 8 none 2 := ⟨wd_1127, wd_63, by decide, by decide, by decide +kernel⟩
theorem lm_X9_100 : gLkV RX9 100 yX9_times cX9_times 8 none 2 := ⟨lk_X9_times, wd_1124, wd_1126, wd_28⟩
theorem lk_X9_add : gLk yX9_add cX9_add 7 none 2 := ⟨wd_1136, wd_63, by decide, by decide, by decide +kernel⟩
theorem lm_X9_103 : gLkV RX9 103 yX9_add cX9_add 7 none 2 := ⟨lk_X9_add, wd_1133, wd_1135, wd_29⟩
theorem lk_X9_isMore : gLk yX9_isMore cX9_isMore 7 (some .boolean) 3 := ⟨wd_1152, wd_63, by decide, by decide, by decide +kernel⟩
theorem lm_X9_106 : gLkV RX9 106 yX9_isMore cX9_isMore 7 (some .boolean) 3 := ⟨lk_X9_isMore, wd_1149, wd_1151, wd_31⟩
theorem lk_X9_bestOf : gLk yX9_bestOf cX9_bestOf 4 (some .int) 1 := ⟨wd_1148, wd_63, by decide, by decide, by decide +kernel⟩
theorem lm_X9_109 : gLkV RX9 109 yX9_bestOf cX9_bestOf 4 (some .int) 1 := ⟨lk_X9_bestOf, wd_1145, wd_1147, wd_30⟩
theorem lk_X9_servesOf : gLk yX9_servesOf cX9_servesOf 6 (some .int) 2 := ⟨wd_1164, wd_63, by decide, by decide, by decide +kernel⟩
theorem lm_X9_112 : gLkV RX9 112 yX9_servesOf cX9_servesOf 6 (some .int) 2 := ⟨lk_X9_servesOf, wd_1161, wd_1163, wd_32⟩
theorem lk_X9_bitsIn : gLk yX9_bitsIn cX9_bitsIn 3 (some .int) 1 := ⟨wd_1171, wd_63, by decide, by decide, by decide +kernel⟩
theorem lm_X9_116 : gLkS RX9 116 yX9_bitsIn cX9_bitsIn 3 (some .int) 1 := ⟨lk_X9_bitsIn, wd_1169, wd_1170⟩
theorem lk_X9_worthOf : gLk yX9_worthOf cX9_worthOf 6 (some .int) 1 := ⟨wd_1175, wd_63, by decide, by decide, by decide +kernel⟩
theorem lm_X9_119 : gLkV RX9 119 yX9_worthOf cX9_worthOf 6 (some .int) 1 := ⟨lk_X9_worthOf, wd_1172, wd_1174, wd_33⟩
theorem lk_X9_here : gLk yX9_here cX9_here 1 (some .int) 0 := ⟨wd_1209, wd_63, by decide, by decide, by decide +kernel⟩
theorem lm_X9_128 : gLkV RX9 128 yX9_here cX9_here 1 (some .int) 0 := ⟨lk_X9_here, wd_1206, wd_1208, wd_36⟩
theorem lk_X9_next : gLk yX9_next cX9_next 3 none 0 := ⟨wd_1205, wd_63, by decide, by decide, by decide +kernel⟩
theorem lm_X9_144 : gLkV RX9 144 yX9_next cX9_next 3 none 0 := ⟨lk_X9_next, wd_1202, wd_1204, wd_35⟩
theorem lk_X9_due : gLk yX9_due cX9_due 3 (some .int) 1 := ⟨wd_1213, wd_63, by decide, by decide, by decide +kernel⟩
theorem lm_X9_147 : gLkV RX9 147 yX9_due cX9_due 3 (some .int) 1 := ⟨lk_X9_due, wd_1210, wd_1212, wd_37⟩
theorem lk_X9_number : gLk yX9_number cX9_number 3 (some .int) 2 := ⟨wd_1217, wd_63, by decide, by decide, by decide +kernel⟩
theorem lm_X9_154 : gLkV RX9 154 yX9_number cX9_number 3 (some .int) 2 := ⟨lk_X9_number, wd_1214, wd_1216, wd_38⟩
theorem lk_X9_readReel : gLk yX9_readReel cX9_readReel 4 (some .boolean) 0 := ⟨wd_1201, wd_63, by decide, by decide, by decide +kernel⟩
theorem lm_X9_157 : gLkV RX9 157 yX9_readReel cX9_readReel 4 (some .boolean) 0 := ⟨lk_X9_readReel, wd_1198, wd_1200, wd_34⟩
theorem lk_X9_valueIn : gLk yX9_valueIn cX9_valueIn 5 (some .int) 3 := ⟨wd_1237, wd_63, by decide, by decide, by decide +kernel⟩
theorem lm_X9_161 : gLkV RX9 161 yX9_valueIn cX9_valueIn 5 (some .int) 3 := ⟨lk_X9_valueIn, wd_1234, wd_1236, wd_41⟩
theorem lk_X9_allPlaces : gLk yX9_allPlaces cX9_allPlaces 1 (some .int) 0 := ⟨wd_1229, wd_63, by decide, by decide, by decide +kernel⟩
theorem lm_X9_164 : gLkV RX9 164 yX9_allPlaces cX9_allPlaces 1 (some .int) 0 := ⟨lk_X9_allPlaces, wd_1226, wd_1228, wd_39⟩
theorem lk_X9_isHidden : gLk yX9_isHidden cX9_isHidden 9 (some .boolean) 2 := ⟨wd_1233, wd_63, by decide, by decide, by decide +kernel⟩
theorem lm_X9_167 : gLkV RX9 167 yX9_isHidden cX9_isHidden 9 (some .boolean) 2 := ⟨lk_X9_isHidden, wd_1230, wd_1232, wd_40⟩
theorem lk_X9_change : gLk yX9_change cX9_change 3 (some .int) 2 := ⟨wd_1258, wd_63, by decide, by decide, by decide +kernel⟩
theorem lm_X9_172 : gLkV RX9 172 yX9_change cX9_change 3 (some .int) 2 := ⟨lk_X9_change, wd_1255, wd_1257, wd_43⟩
theorem lk_X9_findLeast : gLk yX9_findLeast cX9_findLeast 6 none 0 := ⟨wd_1253, wd_63, by decide, by decide, by decide +kernel⟩
theorem lm_X9_175 : gLkV RX9 175 yX9_findLeast cX9_findLeast 6 none 0 := ⟨lk_X9_findLeast, wd_1250, wd_1252, wd_42⟩
theorem lk_X9_leastOf : gLk yX9_leastOf cX9_leastOf 5 (some .int) 1 := ⟨wd_1262, wd_63, by decide, by decide, by decide +kernel⟩
theorem lm_X9_178 : gLkV RX9 178 yX9_leastOf cX9_leastOf 5 (some .int) 1 := ⟨lk_X9_leastOf, wd_1259, wd_1261, wd_44⟩
theorem lk_X9_isWalker : gLk yX9_isWalker cX9_isWalker 5 (some .boolean) 4 := ⟨wd_1274, wd_63, by decide, by decide, by decide +kernel⟩
theorem lm_X9_181 : gLkV RX9 181 yX9_isWalker cX9_isWalker 5 (some .boolean) 4 := ⟨lk_X9_isWalker, wd_1271, wd_1273, wd_45⟩
theorem lk_X9_walk : gLk yX9_walk cX9_walk 6 none 4 := ⟨wd_1278, wd_63, by decide, by decide, by decide +kernel⟩
theorem lm_X9_185 : gLkV RX9 185 yX9_walk cX9_walk 6 none 4 := ⟨lk_X9_walk, wd_1275, wd_1277, wd_46⟩
theorem lk_X9_isHouse : gLk yX9_isHouse cX9_isHouse 2 (some .boolean) 1 := ⟨wd_1298, wd_63, by decide, by decide, by decide +kernel⟩
theorem lm_X9_188 : gLkV RX9 188 yX9_isHouse cX9_isHouse 2 (some .boolean) 1 := ⟨lk_X9_isHouse, wd_1295, wd_1297, wd_47⟩
theorem lk_X9_habitsOf : gLk yX9_habitsOf cX9_habitsOf 4 (some .int) 1 := ⟨wd_1318, wd_63, by decide, by decide, by decide +kernel⟩
theorem lm_X9_191 : gLkV RX9 191 yX9_habitsOf cX9_habitsOf 4 (some .int) 1 := ⟨lk_X9_habitsOf, wd_1315, wd_1317, wd_49⟩
theorem lk_X9_likelyTo : gLk yX9_likelyTo cX9_likelyTo 6 none 2 := ⟨wd_1314, wd_63, by decide, by decide, by decide +kernel⟩
theorem lm_X9_194 : gLkV RX9 194 yX9_likelyTo cX9_likelyTo 6 none 2 := ⟨lk_X9_likelyTo, wd_1311, wd_1313, wd_48⟩
theorem lk_X9_isNought : gLk yX9_isNought cX9_isNought 4 (some .boolean) 1 := ⟨wd_1093, wd_63, by decide, by decide, by decide +kernel⟩
theorem lm_X9_197 : gLkV RX9 197 yX9_isNought cX9_isNought 4 (some .boolean) 1 := ⟨lk_X9_isNought, wd_1090, wd_1092, wd_20⟩
theorem lk_X9_copy : gLk yX9_copy cX9_copy 4 none 2 := ⟨wd_1110, wd_63, by decide, by decide, by decide +kernel⟩
theorem lm_X9_200 : gLkV RX9 200 yX9_copy cX9_copy 4 none 2 := ⟨lk_X9_copy, wd_1107, wd_1109, wd_24⟩
theorem lk_X9_isOdd : gLk yX9_isOdd cX9_isOdd 2 (some .boolean) 1 := ⟨wd_1101, wd_63, by decide, by decide, by decide +kernel⟩
theorem lm_X9_207 : gLkV RX9 207 yX9_isOdd cX9_isOdd 2 (some .boolean) 1 := ⟨lk_X9_isOdd, wd_1098, wd_1100, wd_22⟩
theorem lk_X9_halve : gLk yX9_halve cX9_halve 5 none 1 := ⟨wd_1105, wd_63, by decide, by decide, by decide +kernel⟩
theorem lm_X9_210 : gLkV RX9 210 yX9_halve cX9_halve 5 none 1 := ⟨lk_X9_halve, wd_1102, wd_1104, wd_23⟩
theorem lk_X9_compare : gLk yX9_compare cX9_compare 6 (some .int) 2 := ⟨wd_1114, wd_63, by decide, by decide, by decide +kernel⟩
theorem lm_X9_214 : gLkV RX9 214 yX9_compare cX9_compare 6 (some .int) 2 := ⟨lk_X9_compare, wd_1111, wd_1113, wd_25⟩
theorem lk_X9_less : gLk yX9_less cX9_less 6 none 2 := ⟨wd_1118, wd_63, by decide, by decide, by decide +kernel⟩
theorem lm_X9_217 : gLkV RX9 217 yX9_less cX9_less 6 none 2 := ⟨lk_X9_less, wd_1115, wd_1117, wd_26⟩
theorem lk_X9_findCommon : gLk yX9_findCommon cX9_findCommon 3 none 0 := ⟨wd_1097, wd_63, by decide, by decide, by decide +kernel⟩
theorem lm_X9_223 : gLkV RX9 223 yX9_findCommon cX9_findCommon 3 none 0 := ⟨lk_X9_findCommon, wd_1094, wd_1096, wd_21⟩
theorem lk_X9_divide : gLk yX9_divide cX9_divide 3 none 1 := ⟨wd_1123, wd_63, by decide, by decide, by decide +kernel⟩
theorem lm_X9_226 : gLkV RX9 226 yX9_divide cX9_divide 3 none 1 := ⟨lk_X9_divide, wd_1120, wd_1122, wd_27⟩
theorem lk_X9_limbsOf : gLk yX9_limbsOf cX9_limbsOf 3 (some .int) 1 := ⟨wd_1326, wd_63, by decide, by decide, by decide +kernel⟩
theorem lm_X9_229 : gLkV RX9 229 yX9_limbsOf cX9_limbsOf 3 (some .int) 1 := ⟨lk_X9_limbsOf, wd_1323, wd_1325, wd_50⟩
theorem lk_X9_copyAll : gLk yX9_copyAll cX9_copyAll 4 none 2 := ⟨wd_1338, wd_63, by decide, by decide, by decide +kernel⟩
theorem lm_X9_232 : gLkV RX9 232 yX9_copyAll cX9_copyAll 4 none 2 := ⟨lk_X9_copyAll, wd_1335, wd_1337, wd_51⟩
theorem lk_X9_mix : gLk yX9_mix cX9_mix 2 none 1 := ⟨wd_1363, wd_63, by decide, by decide, by decide +kernel⟩
theorem lm_X9_241 : gLkV RX9 241 yX9_mix cX9_mix 2 none 1 := ⟨lk_X9_mix, wd_1360, wd_1362, wd_53⟩
theorem lk_X9_mixRow : gLk yX9_mixRow cX9_mixRow 4 none 2 := ⟨wd_1359, wd_63, by decide, by decide, by decide +kernel⟩
theorem lm_X9_246 : gLkV RX9 246 yX9_mixRow cX9_mixRow 4 none 2 := ⟨lk_X9_mixRow, wd_1356, wd_1358, wd_52⟩
theorem lm_X0_37 : gLkSN RX0 37 yX8_lay cX8_lay 3 none 3 := ⟨lk_X8_lay, by decide +kernel, wd_181⟩
theorem lm_X0_55 : gLkSN RX0 55 yX8_look cX8_look 2 (some .int) 2 := ⟨lk_X8_look, by decide +kernel, wd_364⟩
theorem lm_X1_43 : gLkSN RX1 43 yX8_lay cX8_lay 3 none 3 := ⟨lk_X8_lay, by decide +kernel, wd_181⟩
theorem lm_X1_59 : gLkSN RX1 59 yX8_look cX8_look 2 (some .int) 2 := ⟨lk_X8_look, by decide +kernel, wd_364⟩
theorem lk_X8_copyRow : gLk yX8_copyRow cX8_copyRow 3 none 2 := ⟨wd_515, wd_55, by decide, by decide, by decide +kernel⟩
theorem lm_X1_71 : gLkSN RX1 71 yX8_copyRow cX8_copyRow 3 none 2 := ⟨lk_X8_copyRow, by decide +kernel, wd_514⟩
theorem lk_X8_digestRow : gLk yX8_digestRow cX8_digestRow 8 (some .long) 4 := ⟨wd_917, wd_55, by decide, by decide, by decide +kernel⟩
theorem lm_X1_77 : gLkSN RX1 77 yX8_digestRow cX8_digestRow 8 (some .long) 4 := ⟨lk_X8_digestRow, by decide +kernel, wd_916⟩
theorem lk_X4_init : gLk yX4_init cX4_init 1 none 0 := ⟨wd_160, wd_58, by decide, by decide, by decide +kernel⟩
theorem lm_X2_11 : gLkIN RX2 11 yX4_init cX4_init 1 0 := ⟨lk_X4_init, by decide +kernel, wd_159, rfl⟩
theorem lm_X2_80 : gLkSN RX2 80 yX8_look cX8_look 2 (some .int) 2 := ⟨lk_X8_look, by decide +kernel, wd_364⟩
theorem lm_X3_30 : gLkSN RX3 30 yX8_look cX8_look 2 (some .int) 2 := ⟨lk_X8_look, by decide +kernel, wd_364⟩
theorem lm_X3_38 : gLkSN RX3 38 yX8_copyRow cX8_copyRow 3 none 2 := ⟨lk_X8_copyRow, by decide +kernel, wd_514⟩
theorem lm_X3_58 : gLkSN RX3 58 yX8_lay cX8_lay 3 none 3 := ⟨lk_X8_lay, by decide +kernel, wd_181⟩
theorem lm_X4_21 : gLkSN RX4 21 yX8_copyRow cX8_copyRow 3 none 2 := ⟨lk_X8_copyRow, by decide +kernel, wd_514⟩
theorem lm_X4_27 : gLkSN RX4 27 yX8_lay cX8_lay 3 none 3 := ⟨lk_X8_lay, by decide +kernel, wd_181⟩
theorem lm_X4_31 : gLkSN RX4 31 yX8_look cX8_look 2 (some .int) 2 := ⟨lk_X8_look, by decide +kernel, wd_364⟩
theorem lm_X4_50 : gLkSN RX4 50 yX8_digestRow cX8_digestRow 8 (some .long) 4 := ⟨lk_X8_digestRow, by decide +kernel, wd_916⟩
theorem lm_X5_58 : gLkSN RX5 58 yX8_look cX8_look 2 (some .int) 2 := ⟨lk_X8_look, by decide +kernel, wd_364⟩
theorem lm_X5_73 : gLkSN RX5 73 yX8_fits cX8_fits 3 (some .boolean) 3 := ⟨lk_X8_fits, by decide +kernel, wd_334⟩
theorem lm_X5_101 : gLkSN RX5 101 yX8_lay cX8_lay 3 none 3 := ⟨lk_X8_lay, by decide +kernel, wd_181⟩
theorem lm_X6_15 : gLkSN RX6 15 yX8_look cX8_look 2 (some .int) 2 := ⟨lk_X8_look, by decide +kernel, wd_364⟩
theorem lm_X7_29 : gLkSN RX7 29 yX8_lay cX8_lay 3 none 3 := ⟨lk_X8_lay, by decide +kernel, wd_181⟩
theorem lm_X7_44 : gLkSN RX7 44 yX8_look cX8_look 2 (some .int) 2 := ⟨lk_X8_look, by decide +kernel, wd_364⟩
theorem lk_X1_init : gLk yX1_init cX1_init 1 none 0 := ⟨wd_79, wd_56, by decide, by decide, by decide +kernel⟩
theorem lm_X8_9 : gLkIN RX8 9 yX1_init cX1_init 1 0 := ⟨lk_X1_init, by decide +kernel, wd_78, rfl⟩
theorem lk_X0_init : gLk yX0_init cX0_init 1 none 0 := ⟨wd_199, wd_59, by decide, by decide, by decide +kernel⟩
theorem lm_X8_31 : gLkIN RX8 31 yX0_init cX0_init 1 0 := ⟨lk_X0_init, by decide +kernel, wd_198, rfl⟩
theorem lk_X5_init : gLk yX5_init cX5_init 1 none 0 := ⟨wd_215, wd_60, by decide, by decide, by decide +kernel⟩
theorem lm_X8_38 : gLkIN RX8 38 yX5_init cX5_init 1 0 := ⟨lk_X5_init, by decide +kernel, wd_214, rfl⟩
theorem lk_X3_init : gLk yX3_init cX3_init 1 none 0 := ⟨wd_258, wd_61, by decide, by decide, by decide +kernel⟩
theorem lm_X8_45 : gLkIN RX8 45 yX3_init cX3_init 1 0 := ⟨lk_X3_init, by decide +kernel, wd_257, rfl⟩
theorem lk_X7_init : gLk yX7_init cX7_init 1 none 0 := ⟨wd_277, wd_62, by decide, by decide, by decide +kernel⟩
theorem lm_X8_52 : gLkIN RX8 52 yX7_init cX7_init 1 0 := ⟨lk_X7_init, by decide +kernel, wd_276, rfl⟩
theorem oi_1 : Cond.instanceMethod objectInit ∈ gAL := wd_73
theorem oi_2 : Cond.code objectInit ⟨#[0xb1]⟩ 1 none ∈ gAL := wd_74
theorem kc_X0_109 : Cond.constant RX0 109 (iI (1000000)) ∈ gAL := wd_627
theorem kc_X7_56 : Cond.constant RX7 56 (iI (1000000)) ∈ gAL := wd_765
theorem kc_X9_122 : Cond.constant RX9 122 (iI (10000000)) ∈ gAL := wd_1184
theorem kc_X9_171 : Cond.constant RX9 171 (iI (1000000)) ∈ gAL := wd_1254
theorem kc_X9_205 : Cond.constant RX9 205 (iI (1073741824)) ∈ gAL := wd_1119
theorem kc_X9_206 : Cond.constant RX9 206 (iI (536870912)) ∈ gAL := wd_1106
theorem kc_L_87 : Cond.constantLong RL 87 (lL (4294967295)) ∈ gAL := wd_1365
theorem kc_X1_75 : Cond.constantLong RX1 75 (lL (31)) ∈ gAL := wd_914
theorem kc_X2_104 : Cond.constantLong RX2 104 (lL (31)) ∈ gAL := wd_923
theorem kc_X4_35 : Cond.constantLong RX4 35 (lL (1073741823)) ∈ gAL := wd_495
theorem kc_X8_304 : Cond.constantLong RX8 304 (lL (593)) ∈ gAL := wd_909
theorem kc_X8_315 : Cond.constantLong RX8 315 (lL (31)) ∈ gAL := wd_918
theorem kc_X9_123 : Cond.constantLong RX9 123 (lL (255)) ∈ gAL := wd_1189
theorem kc_X9_203 : Cond.constantLong RX9 203 (lL (1073741824)) ∈ gAL := wd_1128
theorem kc_X9_235 : Cond.constantLong RX9 235 (lL (31)) ∈ gAL := wd_1364
theorem kc_X9_244 : Cond.constantLong RX9 244 (lL (593)) ∈ gAL := wd_1355
theorem cl_L_7 : Cond.classLink RL 7 RX8 ∈ gAL := wd_67
theorem cl_L_10 : Cond.classLink RL 10 RX9 ∈ gAL := wd_929
theorem cl_X2_9 : Cond.classLink RX2 9 RX4 ∈ gAL := wd_156
theorem cl_X8_7 : Cond.classLink RX8 7 RX1 ∈ gAL := wd_75
theorem cl_X8_22 : Cond.classLink RX8 22 RX2 ∈ gAL := wd_150
theorem cl_X8_29 : Cond.classLink RX8 29 RX0 ∈ gAL := wd_195
theorem cl_X8_36 : Cond.classLink RX8 36 RX5 ∈ gAL := wd_211
theorem cl_X8_43 : Cond.classLink RX8 43 RX3 ∈ gAL := wd_254
theorem cl_X8_50 : Cond.classLink RX8 50 RX7 ∈ gAL := wd_273
theorem ci_X0 : Cond.instantiable RX0 3 ∈ gAL := wd_196
theorem cn_X0 : Cond.initialized RX0 ∈ gAL := wd_59
theorem ci_X1 : Cond.instantiable RX1 14 ∈ gAL := wd_76
theorem cn_X1 : Cond.initialized RX1 ∈ gAL := wd_56
theorem ci_X2 : Cond.instantiable RX2 3 ∈ gAL := wd_151
theorem cn_X2 : Cond.initialized RX2 ∈ gAL := wd_57
theorem ci_X3 : Cond.instantiable RX3 4 ∈ gAL := wd_255
theorem cn_X3 : Cond.initialized RX3 ∈ gAL := wd_61
theorem ci_X4 : Cond.instantiable RX4 2 ∈ gAL := wd_157
theorem cn_X4 : Cond.initialized RX4 ∈ gAL := wd_58
theorem ci_X5 : Cond.instantiable RX5 9 ∈ gAL := wd_212
theorem cn_X5 : Cond.initialized RX5 ∈ gAL := wd_60
theorem ci_X7 : Cond.instantiable RX7 3 ∈ gAL := wd_274
theorem cn_X7 : Cond.initialized RX7 ∈ gAL := wd_62
theorem ci_X8 : Cond.instantiable RX8 13 ∈ gAL := wd_68
theorem cn_X8 : Cond.initialized RX8 ∈ gAL := wd_55
theorem ci_X9 : Cond.instantiable RX9 22 ∈ gAL := wd_930
theorem cn_X9 : Cond.initialized RX9 ∈ gAL := wd_63
theorem ac_I : Cond.arrayClass .int ∈ gAL := wd_149
theorem ac_Z : Cond.arrayClass .boolean ∈ gAL := wd_1002
