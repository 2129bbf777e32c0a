theorem fr_RX0_11 : fld RX0 11 0 0 := ⟨_, _, _, _, kl0, by decide, fw_RX0_11⟩
theorem fr_RX0_15 : fld RX0 15 0 1 := ⟨_, _, _, _, kl0, by decide, fw_RX0_15⟩
theorem fp_RX0_15 : fldw RX0 15 0 1 .int := ⟨_, _, _, _, kl0, by decide, fw_RX0_15, rfl, by decide +kernel⟩
theorem fr_RX0_25 : fld RX0 25 0 2 := ⟨_, _, _, _, kl0, by decide, fw_RX0_25⟩
theorem fp_RX0_25 : fldw RX0 25 0 2 .int := ⟨_, _, _, _, kl0, by decide, fw_RX0_25, rfl, by decide +kernel⟩
theorem fr_RX0_28 : fld RX0 28 3 2 := ⟨_, _, _, _, kl3, by decide, fw_RX0_28⟩
theorem fr_RX0_33 : fld RX0 33 0 3 := ⟨_, _, _, _, kl0, by decide, fw_RX0_33⟩
theorem fp_RX0_33 : fldw RX0 33 0 3 .int := ⟨_, _, _, _, kl0, by decide, fw_RX0_33, rfl, by decide +kernel⟩
theorem fr_RX0_36 : fld RX0 36 3 3 := ⟨_, _, _, _, kl3, by decide, fw_RX0_36⟩
theorem fr_RX0_39 : fld RX0 39 0 4 := ⟨_, _, _, _, kl0, by decide, fw_RX0_39⟩
theorem fp_RX0_39 : fldw RX0 39 0 4 .int := ⟨_, _, _, _, kl0, by decide, fw_RX0_39, rfl, by decide +kernel⟩
theorem fr_RX1_11 : fld RX1 11 1 4 := ⟨_, _, _, _, kl1, by decide, fw_RX1_11⟩
theorem fr_RX1_15 : fld RX1 15 1 5 := ⟨_, _, _, _, kl1, by decide, fw_RX1_15⟩
theorem fr_RX1_18 : fld RX1 18 1 6 := ⟨_, _, _, _, kl1, by decide, fw_RX1_18⟩
theorem fr_RX1_21 : fld RX1 21 1 7 := ⟨_, _, _, _, kl1, by decide, fw_RX1_21⟩
theorem fr_RX1_24 : fld RX1 24 1 8 := ⟨_, _, _, _, kl1, by decide, fw_RX1_24⟩
theorem fr_RX1_27 : fld RX1 27 1 10 := ⟨_, _, _, _, kl1, by decide, fw_RX1_27⟩
theorem fr_RX1_33 : fld RX1 33 1 0 := ⟨_, _, _, _, kl1, by decide, fw_RX1_33⟩
theorem fp_RX1_33 : fldw RX1 33 1 0 .int := ⟨_, _, _, _, kl1, by decide, fw_RX1_33, rfl, by decide +kernel⟩
theorem fr_RX1_37 : fld RX1 37 1 1 := ⟨_, _, _, _, kl1, by decide, fw_RX1_37⟩
theorem fp_RX1_37 : fldw RX1 37 1 1 .int := ⟨_, _, _, _, kl1, by decide, fw_RX1_37, rfl, by decide +kernel⟩
theorem fr_RX1_40 : fld RX1 40 1 2 := ⟨_, _, _, _, kl1, by decide, fw_RX1_40⟩
theorem fp_RX1_40 : fldw RX1 40 1 2 .int := ⟨_, _, _, _, kl1, by decide, fw_RX1_40, rfl, by decide +kernel⟩
theorem fr_RX1_43 : fld RX1 43 1 3 := ⟨_, _, _, _, kl1, by decide, fw_RX1_43⟩
theorem fp_RX1_43 : fldw RX1 43 1 3 .int := ⟨_, _, _, _, kl1, by decide, fw_RX1_43, rfl, by decide +kernel⟩
theorem fr_RX1_46 : fld RX1 46 1 9 := ⟨_, _, _, _, kl1, by decide, fw_RX1_46⟩
theorem fp_RX1_46 : fldw RX1 46 1 9 .int := ⟨_, _, _, _, kl1, by decide, fw_RX1_46, rfl, by decide +kernel⟩
theorem fr_RX1_60 : fld RX1 60 3 1 := ⟨_, _, _, _, kl3, by decide, fw_RX1_60⟩
theorem fr_RX1_65 : fld RX1 65 3 2 := ⟨_, _, _, _, kl3, by decide, fw_RX1_65⟩
theorem fr_RX1_68 : fld RX1 68 3 3 := ⟨_, _, _, _, kl3, by decide, fw_RX1_68⟩
theorem fr_RX1_71 : fld RX1 71 3 4 := ⟨_, _, _, _, kl3, by decide, fw_RX1_71⟩
theorem fr_RX1_74 : fld RX1 74 3 0 := ⟨_, _, _, _, kl3, by decide, fw_RX1_74⟩
theorem fp_RX1_74 : fldw RX1 74 3 0 .int := ⟨_, _, _, _, kl3, by decide, fw_RX1_74, rfl, by decide +kernel⟩
theorem fr_RX2_15 : fld RX2 15 2 0 := ⟨_, _, _, _, kl2, by decide, fw_RX2_15⟩
theorem fr_RX2_21 : fld RX2 21 2 1 := ⟨_, _, _, _, kl2, by decide, fw_RX2_21⟩
theorem fr_RX2_24 : fld RX2 24 2 2 := ⟨_, _, _, _, kl2, by decide, fw_RX2_24⟩
theorem fp_RX2_24 : fldw RX2 24 2 2 .int := ⟨_, _, _, _, kl2, by decide, fw_RX2_24, rfl, by decide +kernel⟩
theorem fr_RX3_9 : fld RX3 9 3 1 := ⟨_, _, _, _, kl3, by decide, fw_RX3_9⟩
theorem fr_RX3_15 : fld RX3 15 3 2 := ⟨_, _, _, _, kl3, by decide, fw_RX3_15⟩
theorem fr_RX3_18 : fld RX3 18 3 3 := ⟨_, _, _, _, kl3, by decide, fw_RX3_18⟩
theorem fr_RX3_21 : fld RX3 21 3 4 := ⟨_, _, _, _, kl3, by decide, fw_RX3_21⟩
theorem fr_RX3_24 : fld RX3 24 3 5 := ⟨_, _, _, _, kl3, by decide, fw_RX3_24⟩
theorem fr_RX3_27 : fld RX3 27 3 6 := ⟨_, _, _, _, kl3, by decide, fw_RX3_27⟩
theorem fr_RX3_30 : fld RX3 30 3 0 := ⟨_, _, _, _, kl3, by decide, fw_RX3_30⟩
theorem fp_RX3_30 : fldw RX3 30 3 0 .int := ⟨_, _, _, _, kl3, by decide, fw_RX3_30, rfl, by decide +kernel⟩
theorem fr_RX3_38 : fld RX3 38 3 7 := ⟨_, _, _, _, kl3, by decide, fw_RX3_38⟩
theorem fp_RX3_38 : fldw RX3 38 3 7 .int := ⟨_, _, _, _, kl3, by decide, fw_RX3_38, rfl, by decide +kernel⟩
theorem fr_RX4_9 : fld RX4 9 4 0 := ⟨_, _, _, _, kl4, by decide, fw_RX4_9⟩
theorem fr_RX4_13 : fld RX4 13 4 1 := ⟨_, _, _, _, kl4, by decide, fw_RX4_13⟩
theorem fr_RX4_16 : fld RX4 16 4 2 := ⟨_, _, _, _, kl4, by decide, fw_RX4_16⟩
theorem fr_RX5_11 : fld RX5 11 5 0 := ⟨_, _, _, _, kl5, by decide, fw_RX5_11⟩
theorem fr_RX5_15 : fld RX5 15 5 1 := ⟨_, _, _, _, kl5, by decide, fw_RX5_15⟩
theorem fp_RX5_15 : fldw RX5 15 5 1 .int := ⟨_, _, _, _, kl5, by decide, fw_RX5_15, rfl, by decide +kernel⟩
theorem fr_RX5_28 : fld RX5 28 5 2 := ⟨_, _, _, _, kl5, by decide, fw_RX5_28⟩
theorem fp_RX5_28 : fldw RX5 28 5 2 .int := ⟨_, _, _, _, kl5, by decide, fw_RX5_28, rfl, by decide +kernel⟩
theorem fr_RX5_54 : fld RX5 54 1 0 := ⟨_, _, _, _, kl1, by decide, fw_RX5_54⟩
theorem fp_RX5_54 : fldw RX5 54 1 0 .int := ⟨_, _, _, _, kl1, by decide, fw_RX5_54, rfl, by decide +kernel⟩
theorem fr_RX5_57 : fld RX5 57 1 1 := ⟨_, _, _, _, kl1, by decide, fw_RX5_57⟩
theorem fp_RX5_57 : fldw RX5 57 1 1 .int := ⟨_, _, _, _, kl1, by decide, fw_RX5_57, rfl, by decide +kernel⟩
theorem fr_RX5_60 : fld RX5 60 1 2 := ⟨_, _, _, _, kl1, by decide, fw_RX5_60⟩
theorem fp_RX5_60 : fldw RX5 60 1 2 .int := ⟨_, _, _, _, kl1, by decide, fw_RX5_60, rfl, by decide +kernel⟩
theorem fr_RX6_12 : fld RX6 12 6 0 := ⟨_, _, _, _, kl6, by decide, fw_RX6_12⟩
theorem fr_RX6_18 : fld RX6 18 6 1 := ⟨_, _, _, _, kl6, by decide, fw_RX6_18⟩
theorem fp_RX6_18 : fldw RX6 18 6 1 .int := ⟨_, _, _, _, kl6, by decide, fw_RX6_18, rfl, by decide +kernel⟩
theorem fr_RX6_22 : fld RX6 22 6 4 := ⟨_, _, _, _, kl6, by decide, fw_RX6_22⟩
theorem fr_RX6_26 : fld RX6 26 6 10 := ⟨_, _, _, _, kl6, by decide, fw_RX6_26⟩
theorem fr_RX6_34 : fld RX6 34 6 11 := ⟨_, _, _, _, kl6, by decide, fw_RX6_34⟩
theorem fr_RX6_38 : fld RX6 38 6 12 := ⟨_, _, _, _, kl6, by decide, fw_RX6_38⟩
theorem fr_RX6_41 : fld RX6 41 6 13 := ⟨_, _, _, _, kl6, by decide, fw_RX6_41⟩
theorem fr_RX6_48 : fld RX6 48 6 6 := ⟨_, _, _, _, kl6, by decide, fw_RX6_48⟩
theorem fp_RX6_48 : fldw RX6 48 6 6 (.object "SevenUnwashed$Land") := ⟨_, _, _, _, kl6, by decide, fw_RX6_48, rfl, by decide +kernel⟩
theorem fr_RX6_52 : fld RX6 52 1 0 := ⟨_, _, _, _, kl1, by decide, fw_RX6_52⟩
theorem fp_RX6_52 : fldw RX6 52 1 0 .int := ⟨_, _, _, _, kl1, by decide, fw_RX6_52, rfl, by decide +kernel⟩
theorem fr_RX6_57 : fld RX6 57 6 7 := ⟨_, _, _, _, kl6, by decide, fw_RX6_57⟩
theorem fp_RX6_57 : fldw RX6 57 6 7 .int := ⟨_, _, _, _, kl6, by decide, fw_RX6_57, rfl, by decide +kernel⟩
theorem fr_RX6_58 : fld RX6 58 1 1 := ⟨_, _, _, _, kl1, by decide, fw_RX6_58⟩
theorem fp_RX6_58 : fldw RX6 58 1 1 .int := ⟨_, _, _, _, kl1, by decide, fw_RX6_58, rfl, by decide +kernel⟩
theorem fr_RX6_61 : fld RX6 61 6 8 := ⟨_, _, _, _, kl6, by decide, fw_RX6_61⟩
theorem fp_RX6_61 : fldw RX6 61 6 8 .int := ⟨_, _, _, _, kl6, by decide, fw_RX6_61, rfl, by decide +kernel⟩
theorem fr_RX6_62 : fld RX6 62 1 2 := ⟨_, _, _, _, kl1, by decide, fw_RX6_62⟩
theorem fp_RX6_62 : fldw RX6 62 1 2 .int := ⟨_, _, _, _, kl1, by decide, fw_RX6_62, rfl, by decide +kernel⟩
theorem fr_RX6_65 : fld RX6 65 6 9 := ⟨_, _, _, _, kl6, by decide, fw_RX6_65⟩
theorem fp_RX6_65 : fldw RX6 65 6 9 .int := ⟨_, _, _, _, kl6, by decide, fw_RX6_65, rfl, by decide +kernel⟩
theorem fr_RX6_66 : fld RX6 66 3 0 := ⟨_, _, _, _, kl3, by decide, fw_RX6_66⟩
theorem fp_RX6_66 : fldw RX6 66 3 0 .int := ⟨_, _, _, _, kl3, by decide, fw_RX6_66, rfl, by decide +kernel⟩
theorem fr_RX6_69 : fld RX6 69 3 4 := ⟨_, _, _, _, kl3, by decide, fw_RX6_69⟩
theorem fr_RX6_72 : fld RX6 72 6 2 := ⟨_, _, _, _, kl6, by decide, fw_RX6_72⟩
theorem fp_RX6_72 : fldw RX6 72 6 2 .int := ⟨_, _, _, _, kl6, by decide, fw_RX6_72, rfl, by decide +kernel⟩
theorem fr_RX6_75 : fld RX6 75 1 3 := ⟨_, _, _, _, kl1, by decide, fw_RX6_75⟩
theorem fp_RX6_75 : fldw RX6 75 1 3 .int := ⟨_, _, _, _, kl1, by decide, fw_RX6_75, rfl, by decide +kernel⟩
theorem fr_RX6_78 : fld RX6 78 6 3 := ⟨_, _, _, _, kl6, by decide, fw_RX6_78⟩
theorem fp_RX6_78 : fldw RX6 78 6 3 .int := ⟨_, _, _, _, kl6, by decide, fw_RX6_78, rfl, by decide +kernel⟩
theorem fr_RX6_85 : fld RX6 85 1 4 := ⟨_, _, _, _, kl1, by decide, fw_RX6_85⟩
theorem fr_RX6_88 : fld RX6 88 3 2 := ⟨_, _, _, _, kl3, by decide, fw_RX6_88⟩
theorem fr_RX6_95 : fld RX6 95 3 3 := ⟨_, _, _, _, kl3, by decide, fw_RX6_95⟩
theorem fr_RX6_102 : fld RX6 102 3 6 := ⟨_, _, _, _, kl3, by decide, fw_RX6_102⟩
theorem fr_RX6_147 : fld RX6 147 6 5 := ⟨_, _, _, _, kl6, by decide, fw_RX6_147⟩
theorem fp_RX6_147 : fldw RX6 147 6 5 .int := ⟨_, _, _, _, kl6, by decide, fw_RX6_147, rfl, by decide +kernel⟩
theorem fr_RX6_165 : fld RX6 165 2 2 := ⟨_, _, _, _, kl2, by decide, fw_RX6_165⟩
theorem fp_RX6_165 : fldw RX6 165 2 2 .int := ⟨_, _, _, _, kl2, by decide, fw_RX6_165, rfl, by decide +kernel⟩
theorem fr_RX6_166 : fld RX6 166 2 1 := ⟨_, _, _, _, kl2, by decide, fw_RX6_166⟩
theorem fr_RX6_169 : fld RX6 169 2 0 := ⟨_, _, _, _, kl2, by decide, fw_RX6_169⟩
theorem fr_RX7_12 : fld RX7 12 7 0 := ⟨_, _, _, _, kl7, by decide, fw_RX7_12⟩
theorem fr_RX7_23 : fld RX7 23 7 1 := ⟨_, _, _, _, kl7, by decide, fw_RX7_23⟩
theorem fr_RX7_27 : fld RX7 27 7 2 := ⟨_, _, _, _, kl7, by decide, fw_RX7_27⟩
theorem fr_RX7_30 : fld RX7 30 7 3 := ⟨_, _, _, _, kl7, by decide, fw_RX7_30⟩
theorem fr_RX7_33 : fld RX7 33 7 5 := ⟨_, _, _, _, kl7, by decide, fw_RX7_33⟩
theorem fr_RX7_40 : fld RX7 40 7 7 := ⟨_, _, _, _, kl7, by decide, fw_RX7_40⟩
theorem fr_RX7_47 : fld RX7 47 7 8 := ⟨_, _, _, _, kl7, by decide, fw_RX7_47⟩
theorem fr_RX7_54 : fld RX7 54 7 9 := ⟨_, _, _, _, kl7, by decide, fw_RX7_54⟩
theorem fr_RX7_62 : fld RX7 62 6 0 := ⟨_, _, _, _, kl6, by decide, fw_RX7_62⟩
theorem fr_RX7_66 : fld RX7 66 3 0 := ⟨_, _, _, _, kl3, by decide, fw_RX7_66⟩
theorem fp_RX7_66 : fldw RX7 66 3 0 .int := ⟨_, _, _, _, kl3, by decide, fw_RX7_66, rfl, by decide +kernel⟩
theorem fr_RX7_80 : fld RX7 80 3 2 := ⟨_, _, _, _, kl3, by decide, fw_RX7_80⟩
theorem fr_RX7_84 : fld RX7 84 3 3 := ⟨_, _, _, _, kl3, by decide, fw_RX7_84⟩
theorem fr_RX7_87 : fld RX7 87 3 4 := ⟨_, _, _, _, kl3, by decide, fw_RX7_87⟩
theorem fr_RX7_90 : fld RX7 90 3 5 := ⟨_, _, _, _, kl3, by decide, fw_RX7_90⟩
theorem fr_RX7_100 : fld RX7 100 6 10 := ⟨_, _, _, _, kl6, by decide, fw_RX7_100⟩
theorem fr_RX7_114 : fld RX7 114 3 6 := ⟨_, _, _, _, kl3, by decide, fw_RX7_114⟩
theorem fr_RX7_117 : fld RX7 117 6 1 := ⟨_, _, _, _, kl6, by decide, fw_RX7_117⟩
theorem fp_RX7_117 : fldw RX7 117 6 1 .int := ⟨_, _, _, _, kl6, by decide, fw_RX7_117, rfl, by decide +kernel⟩
theorem fr_RX7_120 : fld RX7 120 6 2 := ⟨_, _, _, _, kl6, by decide, fw_RX7_120⟩
theorem fp_RX7_120 : fldw RX7 120 6 2 .int := ⟨_, _, _, _, kl6, by decide, fw_RX7_120, rfl, by decide +kernel⟩
theorem fr_RX7_123 : fld RX7 123 6 5 := ⟨_, _, _, _, kl6, by decide, fw_RX7_123⟩
theorem fp_RX7_123 : fldw RX7 123 6 5 .int := ⟨_, _, _, _, kl6, by decide, fw_RX7_123, rfl, by decide +kernel⟩
theorem fr_RX7_126 : fld RX7 126 6 4 := ⟨_, _, _, _, kl6, by decide, fw_RX7_126⟩
theorem fr_RX7_137 : fld RX7 137 7 6 := ⟨_, _, _, _, kl7, by decide, fw_RX7_137⟩
theorem fp_RX7_137 : fldw RX7 137 7 6 .int := ⟨_, _, _, _, kl7, by decide, fw_RX7_137, rfl, by decide +kernel⟩
theorem fr_RX7_147 : fld RX7 147 6 3 := ⟨_, _, _, _, kl6, by decide, fw_RX7_147⟩
theorem fp_RX7_147 : fldw RX7 147 6 3 .int := ⟨_, _, _, _, kl6, by decide, fw_RX7_147, rfl, by decide +kernel⟩
theorem fr_RX7_150 : fld RX7 150 6 7 := ⟨_, _, _, _, kl6, by decide, fw_RX7_150⟩
theorem fp_RX7_150 : fldw RX7 150 6 7 .int := ⟨_, _, _, _, kl6, by decide, fw_RX7_150, rfl, by decide +kernel⟩
theorem fr_RX7_153 : fld RX7 153 6 8 := ⟨_, _, _, _, kl6, by decide, fw_RX7_153⟩
theorem fp_RX7_153 : fldw RX7 153 6 8 .int := ⟨_, _, _, _, kl6, by decide, fw_RX7_153, rfl, by decide +kernel⟩
theorem fr_RX7_156 : fld RX7 156 6 9 := ⟨_, _, _, _, kl6, by decide, fw_RX7_156⟩
theorem fp_RX7_156 : fldw RX7 156 6 9 .int := ⟨_, _, _, _, kl6, by decide, fw_RX7_156, rfl, by decide +kernel⟩
theorem fr_RX7_180 : fld RX7 180 6 11 := ⟨_, _, _, _, kl6, by decide, fw_RX7_180⟩
theorem fr_RX7_202 : fld RX7 202 6 12 := ⟨_, _, _, _, kl6, by decide, fw_RX7_202⟩
theorem fr_RX7_205 : fld RX7 205 2 2 := ⟨_, _, _, _, kl2, by decide, fw_RX7_205⟩
theorem fp_RX7_205 : fldw RX7 205 2 2 .int := ⟨_, _, _, _, kl2, by decide, fw_RX7_205, rfl, by decide +kernel⟩
theorem fr_RX7_206 : fld RX7 206 2 0 := ⟨_, _, _, _, kl2, by decide, fw_RX7_206⟩
theorem fr_RX7_209 : fld RX7 209 2 1 := ⟨_, _, _, _, kl2, by decide, fw_RX7_209⟩
theorem fr_RX7_216 : fld RX7 216 6 13 := ⟨_, _, _, _, kl6, by decide, fw_RX7_216⟩
theorem fr_RX7_239 : fld RX7 239 7 4 := ⟨_, _, _, _, kl7, by decide, fw_RX7_239⟩
theorem fp_RX7_239 : fldw RX7 239 7 4 .boolean := ⟨_, _, _, _, kl7, by decide, fw_RX7_239, rfl, by decide +kernel⟩
theorem fr_RX7_253 : fld RX7 253 0 0 := ⟨_, _, _, _, kl0, by decide, fw_RX7_253⟩
theorem fr_RX7_259 : fld RX7 259 5 1 := ⟨_, _, _, _, kl5, by decide, fw_RX7_259⟩
theorem fp_RX7_259 : fldw RX7 259 5 1 .int := ⟨_, _, _, _, kl5, by decide, fw_RX7_259, rfl, by decide +kernel⟩
theorem fr_RX7_260 : fld RX7 260 0 1 := ⟨_, _, _, _, kl0, by decide, fw_RX7_260⟩
theorem fp_RX7_260 : fldw RX7 260 0 1 .int := ⟨_, _, _, _, kl0, by decide, fw_RX7_260, rfl, by decide +kernel⟩
theorem fr_RX7_273 : fld RX7 273 4 0 := ⟨_, _, _, _, kl4, by decide, fw_RX7_273⟩
theorem fr_RX8_9 : fld RX8 9 8 1 := ⟨_, _, _, _, kl8, by decide, fw_RX8_9⟩
theorem fr_RX8_15 : fld RX8 15 8 2 := ⟨_, _, _, _, kl8, by decide, fw_RX8_15⟩
theorem fr_RX8_18 : fld RX8 18 8 3 := ⟨_, _, _, _, kl8, by decide, fw_RX8_18⟩
theorem fr_RX8_21 : fld RX8 21 8 4 := ⟨_, _, _, _, kl8, by decide, fw_RX8_21⟩
theorem fr_RX8_24 : fld RX8 24 8 5 := ⟨_, _, _, _, kl8, by decide, fw_RX8_24⟩
theorem fr_RX8_27 : fld RX8 27 8 6 := ⟨_, _, _, _, kl8, by decide, fw_RX8_27⟩
theorem fr_RX8_30 : fld RX8 30 8 10 := ⟨_, _, _, _, kl8, by decide, fw_RX8_30⟩
theorem fr_RX8_33 : fld RX8 33 8 13 := ⟨_, _, _, _, kl8, by decide, fw_RX8_33⟩
theorem fr_RX8_36 : fld RX8 36 8 16 := ⟨_, _, _, _, kl8, by decide, fw_RX8_36⟩
theorem fr_RX8_39 : fld RX8 39 8 17 := ⟨_, _, _, _, kl8, by decide, fw_RX8_39⟩
theorem fr_RX8_42 : fld RX8 42 8 18 := ⟨_, _, _, _, kl8, by decide, fw_RX8_42⟩
theorem fr_RX8_45 : fld RX8 45 8 19 := ⟨_, _, _, _, kl8, by decide, fw_RX8_45⟩
theorem fr_RX8_48 : fld RX8 48 8 20 := ⟨_, _, _, _, kl8, by decide, fw_RX8_48⟩
theorem fr_RX8_51 : fld RX8 51 8 21 := ⟨_, _, _, _, kl8, by decide, fw_RX8_51⟩
theorem fr_RX8_54 : fld RX8 54 8 27 := ⟨_, _, _, _, kl8, by decide, fw_RX8_54⟩
theorem fr_RX8_58 : fld RX8 58 8 29 := ⟨_, _, _, _, kl8, by decide, fw_RX8_58⟩
theorem fr_RX8_61 : fld RX8 61 8 30 := ⟨_, _, _, _, kl8, by decide, fw_RX8_61⟩
theorem fr_RX8_64 : fld RX8 64 8 32 := ⟨_, _, _, _, kl8, by decide, fw_RX8_64⟩
theorem fr_RX8_67 : fld RX8 67 8 33 := ⟨_, _, _, _, kl8, by decide, fw_RX8_67⟩
theorem fr_RX8_70 : fld RX8 70 8 35 := ⟨_, _, _, _, kl8, by decide, fw_RX8_70⟩
theorem fr_RX8_73 : fld RX8 73 8 36 := ⟨_, _, _, _, kl8, by decide, fw_RX8_73⟩
theorem fr_RX8_76 : fld RX8 76 8 39 := ⟨_, _, _, _, kl8, by decide, fw_RX8_76⟩
theorem fr_RX8_79 : fld RX8 79 8 41 := ⟨_, _, _, _, kl8, by decide, fw_RX8_79⟩
theorem fr_RX8_82 : fld RX8 82 8 42 := ⟨_, _, _, _, kl8, by decide, fw_RX8_82⟩
theorem fr_RX8_85 : fld RX8 85 8 44 := ⟨_, _, _, _, kl8, by decide, fw_RX8_85⟩
theorem fr_RX8_88 : fld RX8 88 8 45 := ⟨_, _, _, _, kl8, by decide, fw_RX8_88⟩
theorem fr_RX8_91 : fld RX8 91 8 46 := ⟨_, _, _, _, kl8, by decide, fw_RX8_91⟩
theorem fr_RX8_94 : fld RX8 94 8 47 := ⟨_, _, _, _, kl8, by decide, fw_RX8_94⟩
theorem fr_RX8_98 : fld RX8 98 8 7 := ⟨_, _, _, _, kl8, by decide, fw_RX8_98⟩
theorem fp_RX8_98 : fldw RX8 98 8 7 .int := ⟨_, _, _, _, kl8, by decide, fw_RX8_98, rfl, by decide +kernel⟩
theorem fr_RX8_102 : fld RX8 102 8 15 := ⟨_, _, _, _, kl8, by decide, fw_RX8_102⟩
theorem fp_RX8_102 : fldw RX8 102 8 15 .int := ⟨_, _, _, _, kl8, by decide, fw_RX8_102, rfl, by decide +kernel⟩
theorem fr_RX8_105 : fld RX8 105 8 37 := ⟨_, _, _, _, kl8, by decide, fw_RX8_105⟩
theorem fp_RX8_105 : fldw RX8 105 8 37 .int := ⟨_, _, _, _, kl8, by decide, fw_RX8_105, rfl, by decide +kernel⟩
theorem fr_RX8_108 : fld RX8 108 8 38 := ⟨_, _, _, _, kl8, by decide, fw_RX8_108⟩
theorem fp_RX8_108 : fldw RX8 108 8 38 .int := ⟨_, _, _, _, kl8, by decide, fw_RX8_108, rfl, by decide +kernel⟩
theorem fr_RX8_111 : fld RX8 111 8 0 := ⟨_, _, _, _, kl8, by decide, fw_RX8_111⟩
theorem fp_RX8_111 : fldw RX8 111 8 0 .int := ⟨_, _, _, _, kl8, by decide, fw_RX8_111, rfl, by decide +kernel⟩
theorem fr_RX8_136 : fld RX8 136 8 8 := ⟨_, _, _, _, kl8, by decide, fw_RX8_136⟩
theorem fp_RX8_136 : fldw RX8 136 8 8 .int := ⟨_, _, _, _, kl8, by decide, fw_RX8_136, rfl, by decide +kernel⟩
theorem fr_RX8_139 : fld RX8 139 8 9 := ⟨_, _, _, _, kl8, by decide, fw_RX8_139⟩
theorem fp_RX8_139 : fldw RX8 139 8 9 .int := ⟨_, _, _, _, kl8, by decide, fw_RX8_139, rfl, by decide +kernel⟩
theorem fr_RX8_142 : fld RX8 142 8 12 := ⟨_, _, _, _, kl8, by decide, fw_RX8_142⟩
theorem fp_RX8_142 : fldw RX8 142 8 12 .int := ⟨_, _, _, _, kl8, by decide, fw_RX8_142, rfl, by decide +kernel⟩
theorem fr_RX8_145 : fld RX8 145 8 23 := ⟨_, _, _, _, kl8, by decide, fw_RX8_145⟩
theorem fp_RX8_145 : fldw RX8 145 8 23 .int := ⟨_, _, _, _, kl8, by decide, fw_RX8_145, rfl, by decide +kernel⟩
theorem fr_RX8_148 : fld RX8 148 8 25 := ⟨_, _, _, _, kl8, by decide, fw_RX8_148⟩
theorem fp_RX8_148 : fldw RX8 148 8 25 .int := ⟨_, _, _, _, kl8, by decide, fw_RX8_148, rfl, by decide +kernel⟩
theorem fr_RX8_151 : fld RX8 151 8 26 := ⟨_, _, _, _, kl8, by decide, fw_RX8_151⟩
theorem fp_RX8_151 : fldw RX8 151 8 26 .int := ⟨_, _, _, _, kl8, by decide, fw_RX8_151, rfl, by decide +kernel⟩
theorem fr_RX8_170 : fld RX8 170 8 22 := ⟨_, _, _, _, kl8, by decide, fw_RX8_170⟩
theorem fp_RX8_170 : fldw RX8 170 8 22 .int := ⟨_, _, _, _, kl8, by decide, fw_RX8_170, rfl, by decide +kernel⟩
theorem fr_RX8_186 : fld RX8 186 8 24 := ⟨_, _, _, _, kl8, by decide, fw_RX8_186⟩
theorem fp_RX8_186 : fldw RX8 186 8 24 .int := ⟨_, _, _, _, kl8, by decide, fw_RX8_186, rfl, by decide +kernel⟩
theorem fr_RX8_218 : fld RX8 218 8 14 := ⟨_, _, _, _, kl8, by decide, fw_RX8_218⟩
theorem fp_RX8_218 : fldw RX8 218 8 14 .int := ⟨_, _, _, _, kl8, by decide, fw_RX8_218, rfl, by decide +kernel⟩
theorem fr_RX8_224 : fld RX8 224 8 11 := ⟨_, _, _, _, kl8, by decide, fw_RX8_224⟩
theorem fp_RX8_224 : fldw RX8 224 8 11 .int := ⟨_, _, _, _, kl8, by decide, fw_RX8_224, rfl, by decide +kernel⟩
theorem fr_RX8_296 : fld RX8 296 8 28 := ⟨_, _, _, _, kl8, by decide, fw_RX8_296⟩
theorem fp_RX8_296 : fldw RX8 296 8 28 .int := ⟨_, _, _, _, kl8, by decide, fw_RX8_296, rfl, by decide +kernel⟩
theorem fr_RX8_308 : fld RX8 308 8 31 := ⟨_, _, _, _, kl8, by decide, fw_RX8_308⟩
theorem fp_RX8_308 : fldw RX8 308 8 31 .int := ⟨_, _, _, _, kl8, by decide, fw_RX8_308, rfl, by decide +kernel⟩
theorem fr_RX8_311 : fld RX8 311 8 34 := ⟨_, _, _, _, kl8, by decide, fw_RX8_311⟩
theorem fp_RX8_311 : fldw RX8 311 8 34 .int := ⟨_, _, _, _, kl8, by decide, fw_RX8_311, rfl, by decide +kernel⟩
theorem fr_RX8_314 : fld RX8 314 8 40 := ⟨_, _, _, _, kl8, by decide, fw_RX8_314⟩
theorem fp_RX8_314 : fldw RX8 314 8 40 .boolean := ⟨_, _, _, _, kl8, by decide, fw_RX8_314, rfl, by decide +kernel⟩
theorem fr_RX8_318 : fld RX8 318 8 43 := ⟨_, _, _, _, kl8, by decide, fw_RX8_318⟩
theorem fp_RX8_318 : fldw RX8 318 8 43 .int := ⟨_, _, _, _, kl8, by decide, fw_RX8_318, rfl, by decide +kernel⟩
theorem mi_J0_charAt_5068e : mcI yJ0_charAt_5068e cJ0_charAt_5068e 2 (some .char) 1 := ⟨⟨co_yJ0_charAt_5068e, in_RJ0, by decide, by decide, by decide +kernel⟩, im_yJ0_charAt_5068e, se_yJ0_charAt_5068e⟩
theorem ms_J0_checkBoundsBeginEnd_23922 : mcS yJ0_checkBoundsBeginEnd_23922 cJ0_checkBoundsBeginEnd_23922 3 none 3 := ⟨⟨co_yJ0_checkBoundsBeginEnd_23922, in_RJ0, by decide, by decide, by decide +kernel⟩, st_yJ0_checkBoundsBeginEnd_23922⟩
theorem ms_J0_checkIndex_df160 : mcS yJ0_checkIndex_df160 cJ0_checkIndex_df160 2 none 2 := ⟨⟨co_yJ0_checkIndex_df160, in_RJ0, by decide, by decide, by decide +kernel⟩, st_yJ0_checkIndex_df160⟩
theorem mi_J0_coder_7d493 : mcI yJ0_coder_7d493 cJ0_coder_7d493 1 (some .byte) 0 := ⟨⟨co_yJ0_coder_7d493, in_RJ0, by decide, by decide, by decide +kernel⟩, im_yJ0_coder_7d493, se_yJ0_coder_7d493⟩
theorem mi_J0_indexOf_0f7a4 : mcI yJ0_indexOf_0f7a4 cJ0_indexOf_0f7a4 2 (some .int) 1 := ⟨⟨co_yJ0_indexOf_0f7a4, in_RJ0, by decide, by decide, by decide +kernel⟩, im_yJ0_indexOf_0f7a4, se_yJ0_indexOf_0f7a4⟩
theorem mi_J0_indexOf_7cf53 : mcI yJ0_indexOf_7cf53 cJ0_indexOf_7cf53 3 (some .int) 2 := ⟨⟨co_yJ0_indexOf_7cf53, in_RJ0, by decide, by decide, by decide +kernel⟩, im_yJ0_indexOf_7cf53, se_yJ0_indexOf_7cf53⟩
theorem mi_J0_isLatin1_aae02 : mcI yJ0_isLatin1_aae02 cJ0_isLatin1_aae02 1 (some .boolean) 0 := ⟨⟨co_yJ0_isLatin1_aae02, in_RJ0, by decide, by decide, by decide +kernel⟩, im_yJ0_isLatin1_aae02, se_yJ0_isLatin1_aae02⟩
theorem mi_J0_length_8abf5 : mcI yJ0_length_8abf5 cJ0_length_8abf5 1 (some .int) 0 := ⟨⟨co_yJ0_length_8abf5, in_RJ0, by decide, by decide, by decide +kernel⟩, im_yJ0_length_8abf5, se_yJ0_length_8abf5⟩
theorem ms_J1_canEncode_9a6ad : mcS yJ1_canEncode_9a6ad cJ1_canEncode_9a6ad 1 (some .boolean) 1 := ⟨⟨co_yJ1_canEncode_9a6ad, in_RJ1, by decide, by decide, by decide +kernel⟩, st_yJ1_canEncode_9a6ad⟩
theorem ms_J1_charAt_3b067 : mcS yJ1_charAt_3b067 cJ1_charAt_3b067 2 (some .char) 2 := ⟨⟨co_yJ1_charAt_3b067, in_RJ1, by decide, by decide, by decide +kernel⟩, st_yJ1_charAt_3b067⟩
theorem ms_J1_indexOfChar_4cfef : mcS yJ1_indexOfChar_4cfef cJ1_indexOfChar_4cfef 6 (some .int) 4 := ⟨⟨co_yJ1_indexOfChar_4cfef, in_RJ1, by decide, by decide, by decide +kernel⟩, st_yJ1_indexOfChar_4cfef⟩
theorem ms_J1_indexOf_4cfef : mcS yJ1_indexOf_4cfef cJ1_indexOf_4cfef 4 (some .int) 4 := ⟨⟨co_yJ1_indexOf_4cfef, in_RJ1, by decide, by decide, by decide +kernel⟩, st_yJ1_indexOf_4cfef⟩
theorem ms_J3_checkFromToIndex_8c36e : mcS yJ3_checkFromToIndex_8c36e cJ3_checkFromToIndex_8c36e 4 (some .int) 4 := ⟨⟨co_yJ3_checkFromToIndex_8c36e, in_RJ3, by decide, by decide, by decide +kernel⟩, st_yJ3_checkFromToIndex_8c36e⟩
theorem ms_J3_checkIndex_8e157 : mcS yJ3_checkIndex_8e157 cJ3_checkIndex_8e157 3 (some .int) 3 := ⟨⟨co_yJ3_checkIndex_8e157, in_RJ3, by decide, by decide, by decide +kernel⟩, st_yJ3_checkIndex_8e157⟩
theorem ms_J6_bitCount_0f7a4 : mcS yJ6_bitCount_0f7a4 cJ6_bitCount_0f7a4 1 (some .int) 1 := ⟨⟨co_yJ6_bitCount_0f7a4, in_RJ6, by decide, by decide, by decide +kernel⟩, st_yJ6_bitCount_0f7a4⟩
theorem ms_J9_max_7cf53 : mcS yJ9_max_7cf53 cJ9_max_7cf53 2 (some .int) 2 := ⟨⟨co_yJ9_max_7cf53, in_RJ9, by decide, by decide, by decide +kernel⟩, st_yJ9_max_7cf53⟩
theorem ms_J9_min_7cf53 : mcS yJ9_min_7cf53 cJ9_min_7cf53 2 (some .int) 2 := ⟨⟨co_yJ9_min_7cf53, in_RJ9, by decide, by decide, by decide +kernel⟩, st_yJ9_min_7cf53⟩
theorem mi_X0_begin : mcI yX0_begin cX0_begin 5 (some .int) 4 := ⟨⟨co_yX0_begin, in_RX0, by decide, by decide, by decide +kernel⟩, im_yX0_begin, se_yX0_begin⟩
theorem mi_X0_forget : mcI yX0_forget cX0_forget 1 none 0 := ⟨⟨co_yX0_forget, in_RX0, by decide, by decide, by decide +kernel⟩, im_yX0_forget, se_yX0_forget⟩
theorem mi_X0_go : mcI yX0_go cX0_go 9 (some .int) 4 := ⟨⟨co_yX0_go, in_RX0, by decide, by decide, by decide +kernel⟩, im_yX0_go, se_yX0_go⟩
theorem ms_X0_holderOf : mcS yX0_holderOf cX0_holderOf 4 (some .int) 2 := ⟨⟨co_yX0_holderOf, in_RX0, by decide, by decide, by decide +kernel⟩, st_yX0_holderOf⟩
theorem mi_X0_keptBodies : mcI yX0_keptBodies cX0_keptBodies 1 (some .int) 0 := ⟨⟨co_yX0_keptBodies, in_RX0, by decide, by decide, by decide +kernel⟩, im_yX0_keptBodies, se_yX0_keptBodies⟩
theorem mi_X0_note : mcI yX0_note cX0_note 2 none 1 := ⟨⟨co_yX0_note, in_RX0, by decide, by decide, by decide +kernel⟩, im_yX0_note, se_yX0_note⟩
theorem mi_X1_addDoor : mcI yX1_addDoor cX1_addDoor 2 none 1 := ⟨⟨co_yX1_addDoor, in_RX1, by decide, by decide, by decide +kernel⟩, im_yX1_addDoor, se_yX1_addDoor⟩
theorem mi_X1_addStep : mcI yX1_addStep cX1_addStep 2 none 1 := ⟨⟨co_yX1_addStep, in_RX1, by decide, by decide, by decide +kernel⟩, im_yX1_addStep, se_yX1_addStep⟩
theorem mi_X1_addTest : mcI yX1_addTest cX1_addTest 7 none 3 := ⟨⟨co_yX1_addTest, in_RX1, by decide, by decide, by decide +kernel⟩, im_yX1_addTest, se_yX1_addTest⟩
theorem mi_X1_clear : mcI yX1_clear cX1_clear 1 none 0 := ⟨⟨co_yX1_clear, in_RX1, by decide, by decide, by decide +kernel⟩, im_yX1_clear, se_yX1_clear⟩
theorem mi_X1_holdsFor : mcI yX1_holdsFor cX1_holdsFor 8 (some .int) 4 := ⟨⟨co_yX1_holdsFor, in_RX1, by decide, by decide, by decide +kernel⟩, im_yX1_holdsFor, se_yX1_holdsFor⟩
theorem mi_X1_passTest : mcI yX1_passTest cX1_passTest 10 (some .int) 4 := ⟨⟨co_yX1_passTest, in_RX1, by decide, by decide, by decide +kernel⟩, im_yX1_passTest, se_yX1_passTest⟩
theorem mi_X2_becomeLike : mcI yX2_becomeLike cX2_becomeLike 3 none 1 := ⟨⟨co_yX2_becomeLike, in_RX2, by decide, by decide, by decide +kernel⟩, im_yX2_becomeLike, se_yX2_becomeLike⟩
theorem mi_X2_empty : mcI yX2_empty cX2_empty 1 none 0 := ⟨⟨co_yX2_empty, in_RX2, by decide, by decide, by decide +kernel⟩, im_yX2_empty, se_yX2_empty⟩
theorem mi_X2_isFull : mcI yX2_isFull cX2_isFull 1 (some .boolean) 0 := ⟨⟨co_yX2_isFull, in_RX2, by decide, by decide, by decide +kernel⟩, im_yX2_isFull, se_yX2_isFull⟩
theorem mi_X2_mostSecond : mcI yX2_mostSecond cX2_mostSecond 3 (some .int) 0 := ⟨⟨co_yX2_mostSecond, in_RX2, by decide, by decide, by decide +kernel⟩, im_yX2_mostSecond, se_yX2_mostSecond⟩
theorem mi_X2_put : mcI yX2_put cX2_put 3 (some .int) 2 := ⟨⟨co_yX2_put, in_RX2, by decide, by decide, by decide +kernel⟩, im_yX2_put, se_yX2_put⟩
theorem mi_X3_becomeLike : mcI yX3_becomeLike cX3_becomeLike 2 none 1 := ⟨⟨co_yX3_becomeLike, in_RX3, by decide, by decide, by decide +kernel⟩, im_yX3_becomeLike, se_yX3_becomeLike⟩
theorem mi_X3_forgetSome : mcI yX3_forgetSome cX3_forgetSome 2 none 0 := ⟨⟨co_yX3_forgetSome, in_RX3, by decide, by decide, by decide +kernel⟩, im_yX3_forgetSome, se_yX3_forgetSome⟩
theorem mi_X3_give : mcI yX3_give cX3_give 3 none 2 := ⟨⟨co_yX3_give, in_RX3, by decide, by decide, by decide +kernel⟩, im_yX3_give, se_yX3_give⟩
theorem mi_X3_isDead : mcI yX3_isDead cX3_isDead 2 (some .boolean) 1 := ⟨⟨co_yX3_isDead, in_RX3, by decide, by decide, by decide +kernel⟩, im_yX3_isDead, se_yX3_isDead⟩
theorem mi_X3_join : mcI yX3_join cX3_join 6 (some .int) 3 := ⟨⟨co_yX3_join, in_RX3, by decide, by decide, by decide +kernel⟩, im_yX3_join, se_yX3_join⟩
theorem mi_X3_setDead : mcI yX3_setDead cX3_setDead 3 none 2 := ⟨⟨co_yX3_setDead, in_RX3, by decide, by decide, by decide +kernel⟩, im_yX3_setDead, se_yX3_setDead⟩
theorem mi_X3_thanksFor : mcI yX3_thanksFor cX3_thanksFor 3 (some .int) 2 := ⟨⟨co_yX3_thanksFor, in_RX3, by decide, by decide, by decide +kernel⟩, im_yX3_thanksFor, se_yX3_thanksFor⟩
theorem ms_X4_cut : mcS yX4_cut cX4_cut 3 (some .long) 2 := ⟨⟨co_yX4_cut, in_RX4, by decide, by decide, by decide +kernel⟩, st_yX4_cut⟩
theorem mi_X4_drop : mcI yX4_drop cX4_drop 2 none 1 := ⟨⟨co_yX4_drop, in_RX4, by decide, by decide, by decide +kernel⟩, im_yX4_drop, se_yX4_drop⟩
theorem mi_X4_isEmpty : mcI yX4_isEmpty cX4_isEmpty 2 (some .boolean) 1 := ⟨⟨co_yX4_isEmpty, in_RX4, by decide, by decide, by decide +kernel⟩, im_yX4_isEmpty, se_yX4_isEmpty⟩
theorem mi_X4_isOf : mcI yX4_isOf cX4_isOf 3 (some .boolean) 2 := ⟨⟨co_yX4_isOf, in_RX4, by decide, by decide, by decide +kernel⟩, im_yX4_isOf, se_yX4_isOf⟩
theorem mi_X4_isPlace : mcI yX4_isPlace cX4_isPlace 4 (some .boolean) 2 := ⟨⟨co_yX4_isPlace, in_RX4, by decide, by decide, by decide +kernel⟩, im_yX4_isPlace, se_yX4_isPlace⟩
theorem mi_X4_isStretch : mcI yX4_isStretch cX4_isStretch 4 (some .boolean) 3 := ⟨⟨co_yX4_isStretch, in_RX4, by decide, by decide, by decide +kernel⟩, im_yX4_isStretch, se_yX4_isStretch⟩
theorem mi_X4_isTape : mcI yX4_isTape cX4_isTape 2 (some .boolean) 1 := ⟨⟨co_yX4_isTape, in_RX4, by decide, by decide, by decide +kernel⟩, im_yX4_isTape, se_yX4_isTape⟩
theorem mi_X4_lay : mcI yX4_lay cX4_lay 5 none 3 := ⟨⟨co_yX4_lay, in_RX4, by decide, by decide, by decide +kernel⟩, im_yX4_lay, se_yX4_lay⟩
theorem mi_X4_move : mcI yX4_move cX4_move 6 none 5 := ⟨⟨co_yX4_move, in_RX4, by decide, by decide, by decide +kernel⟩, im_yX4_move, se_yX4_move⟩
theorem mi_X4_put : mcI yX4_put cX4_put 5 none 3 := ⟨⟨co_yX4_put, in_RX4, by decide, by decide, by decide +kernel⟩, im_yX4_put, se_yX4_put⟩
theorem mi_X4_valueAt : mcI yX4_valueAt cX4_valueAt 3 (some .long) 2 := ⟨⟨co_yX4_valueAt, in_RX4, by decide, by decide, by decide +kernel⟩, im_yX4_valueAt, se_yX4_valueAt⟩
theorem mi_X5_becomes : mcI yX5_becomes cX5_becomes 4 (some .int) 1 := ⟨⟨co_yX5_becomes, in_RX5, by decide, by decide, by decide +kernel⟩, im_yX5_becomes, se_yX5_becomes⟩
theorem mi_X5_clause : mcI yX5_clause cX5_clause 4 (some .boolean) 1 := ⟨⟨co_yX5_clause, in_RX5, by decide, by decide, by decide +kernel⟩, im_yX5_clause, se_yX5_clause⟩
theorem mi_X5_either : mcI yX5_either cX5_either 6 (some .boolean) 2 := ⟨⟨co_yX5_either, in_RX5, by decide, by decide, by decide +kernel⟩, im_yX5_either, se_yX5_either⟩
theorem mi_X5_isFull : mcI yX5_isFull cX5_isFull 1 (some .boolean) 0 := ⟨⟨co_yX5_isFull, in_RX5, by decide, by decide, by decide +kernel⟩, im_yX5_isFull, se_yX5_isFull⟩
theorem ms_X5_nameOf : mcS yX5_nameOf cX5_nameOf 1 (some (.object "java/lang/String")) 1 := ⟨⟨co_yX5_nameOf, in_RX5, by decide, by decide, by decide +kernel⟩, st_yX5_nameOf⟩
theorem mi_X5_number : mcI yX5_number cX5_number 3 (some .int) 0 := ⟨⟨co_yX5_number, in_RX5, by decide, by decide, by decide +kernel⟩, im_yX5_number, se_yX5_number⟩
theorem mi_X5_oneOf : mcI yX5_oneOf cX5_oneOf 3 (some .int) 1 := ⟨⟨co_yX5_oneOf, in_RX5, by decide, by decide, by decide +kernel⟩, im_yX5_oneOf, se_yX5_oneOf⟩
theorem mi_X5_put : mcI yX5_put cX5_put 2 (some .int) 1 := ⟨⟨co_yX5_put, in_RX5, by decide, by decide, by decide +kernel⟩, im_yX5_put, se_yX5_put⟩
theorem mi_X5_single : mcI yX5_single cX5_single 4 (some .boolean) 2 := ⟨⟨co_yX5_single, in_RX5, by decide, by decide, by decide +kernel⟩, im_yX5_single, se_yX5_single⟩
theorem mi_X5_skip : mcI yX5_skip cX5_skip 2 (some .boolean) 1 := ⟨⟨co_yX5_skip, in_RX5, by decide, by decide, by decide +kernel⟩, im_yX5_skip, se_yX5_skip⟩
theorem mi_X5_test : mcI yX5_test cX5_test 5 (some .boolean) 1 := ⟨⟨co_yX5_test, in_RX5, by decide, by decide, by decide +kernel⟩, im_yX5_test, se_yX5_test⟩
theorem mi_X5_word : mcI yX5_word cX5_word 5 (some .int) 0 := ⟨⟨co_yX5_word, in_RX5, by decide, by decide, by decide +kernel⟩, im_yX5_word, se_yX5_word⟩
theorem mi_X6_becomeAs : mcI yX6_becomeAs cX6_becomeAs 2 none 1 := ⟨⟨co_yX6_becomeAs, in_RX6, by decide, by decide, by decide +kernel⟩, im_yX6_becomeAs, se_yX6_becomeAs⟩
theorem mi_X6_faresAs : mcI yX6_faresAs cX6_faresAs 5 (some .boolean) 1 := ⟨⟨co_yX6_faresAs, in_RX6, by decide, by decide, by decide +kernel⟩, im_yX6_faresAs, se_yX6_faresAs⟩
theorem mi_X6_givePocket : mcI yX6_givePocket cX6_givePocket 2 none 0 := ⟨⟨co_yX6_givePocket, in_RX6, by decide, by decide, by decide +kernel⟩, im_yX6_givePocket, se_yX6_givePocket⟩
theorem mi_X6_goDay : mcI yX6_goDay cX6_goDay 4 none 0 := ⟨⟨co_yX6_goDay, in_RX6, by decide, by decide, by decide +kernel⟩, im_yX6_goDay, se_yX6_goDay⟩
theorem mi_X6_goDays : mcI yX6_goDays cX6_goDays 3 none 1 := ⟨⟨co_yX6_goDays, in_RX6, by decide, by decide, by decide +kernel⟩, im_yX6_goDays, se_yX6_goDays⟩
theorem mi_X6_isGone : mcI yX6_isGone cX6_isGone 1 (some .boolean) 0 := ⟨⟨co_yX6_isGone, in_RX6, by decide, by decide, by decide +kernel⟩, im_yX6_isGone, se_yX6_isGone⟩
theorem ms_X6_isMultiple : mcS yX6_isMultiple cX6_isMultiple 2 (some .boolean) 2 := ⟨⟨co_yX6_isMultiple, in_RX6, by decide, by decide, by decide +kernel⟩, st_yX6_isMultiple⟩
theorem mi_X6_letIn : mcI yX6_letIn cX6_letIn 4 (some .int) 0 := ⟨⟨co_yX6_letIn, in_RX6, by decide, by decide, by decide +kernel⟩, im_yX6_letIn, se_yX6_letIn⟩
theorem mi_X6_prayerOf : mcI yX6_prayerOf cX6_prayerOf 5 (some .int) 2 := ⟨⟨co_yX6_prayerOf, in_RX6, by decide, by decide, by decide +kernel⟩, im_yX6_prayerOf, se_yX6_prayerOf⟩
theorem mi_X6_prayers : mcI yX6_prayers cX6_prayers 4 (some .int) 1 := ⟨⟨co_yX6_prayers, in_RX6, by decide, by decide, by decide +kernel⟩, im_yX6_prayers, se_yX6_prayers⟩
theorem mi_X6_settle : mcI yX6_settle cX6_settle 2 none 1 := ⟨⟨co_yX6_settle, in_RX6, by decide, by decide, by decide +kernel⟩, im_yX6_settle, se_yX6_settle⟩
theorem mi_X6_startAs : mcI yX6_startAs cX6_startAs 2 none 1 := ⟨⟨co_yX6_startAs, in_RX6, by decide, by decide, by decide +kernel⟩, im_yX6_startAs, se_yX6_startAs⟩
theorem mi_X6_suffer : mcI yX6_suffer cX6_suffer 3 none 2 := ⟨⟨co_yX6_suffer, in_RX6, by decide, by decide, by decide +kernel⟩, im_yX6_suffer, se_yX6_suffer⟩
theorem mi_X7_act : mcI yX7_act cX7_act 4 (some .int) 3 := ⟨⟨co_yX7_act, in_RX7, by decide, by decide, by decide +kernel⟩, im_yX7_act, se_yX7_act⟩
theorem mi_X7_aim : mcI yX7_aim cX7_aim 4 (some .int) 0 := ⟨⟨co_yX7_aim, in_RX7, by decide, by decide, by decide +kernel⟩, im_yX7_aim, se_yX7_aim⟩
theorem mi_X7_bears : mcI yX7_bears cX7_bears 3 (some .int) 1 := ⟨⟨co_yX7_bears, in_RX7, by decide, by decide, by decide +kernel⟩, im_yX7_bears, se_yX7_bears⟩
theorem ms_X7_between : mcS yX7_between cX7_between 3 (some .int) 3 := ⟨⟨co_yX7_between, in_RX7, by decide, by decide, by decide +kernel⟩, st_yX7_between⟩
theorem mi_X7_book : mcI yX7_book cX7_book 3 (some .int) 2 := ⟨⟨co_yX7_book, in_RX7, by decide, by decide, by decide +kernel⟩, im_yX7_book, se_yX7_book⟩
theorem mi_X7_can : mcI yX7_can cX7_can 3 (some .int) 2 := ⟨⟨co_yX7_can, in_RX7, by decide, by decide, by decide +kernel⟩, im_yX7_can, se_yX7_can⟩
theorem mi_X7_count : mcI yX7_count cX7_count 2 (some .int) 1 := ⟨⟨co_yX7_count, in_RX7, by decide, by decide, by decide +kernel⟩, im_yX7_count, se_yX7_count⟩
theorem mi_X7_dies : mcI yX7_dies cX7_dies 2 (some .int) 0 := ⟨⟨co_yX7_dies, in_RX7, by decide, by decide, by decide +kernel⟩, im_yX7_dies, se_yX7_dies⟩
theorem mi_X7_enough : mcI yX7_enough cX7_enough 3 (some .int) 1 := ⟨⟨co_yX7_enough, in_RX7, by decide, by decide, by decide +kernel⟩, im_yX7_enough, se_yX7_enough⟩
theorem mi_X7_feed : mcI yX7_feed cX7_feed 2 (some .int) 1 := ⟨⟨co_yX7_feed, in_RX7, by decide, by decide, by decide +kernel⟩, im_yX7_feed, se_yX7_feed⟩
theorem mi_X7_fitting : mcI yX7_fitting cX7_fitting 8 (some .int) 3 := ⟨⟨co_yX7_fitting, in_RX7, by decide, by decide, by decide +kernel⟩, im_yX7_fitting, se_yX7_fitting⟩
theorem mi_X7_gone : mcI yX7_gone cX7_gone 3 (some .int) 1 := ⟨⟨co_yX7_gone, in_RX7, by decide, by decide, by decide +kernel⟩, im_yX7_gone, se_yX7_gone⟩
theorem mi_X7_image : mcI yX7_image cX7_image 1 (some .int) 0 := ⟨⟨co_yX7_image, in_RX7, by decide, by decide, by decide +kernel⟩, im_yX7_image, se_yX7_image⟩
theorem mi_X7_isGoneWithout : mcI yX7_isGoneWithout cX7_isGoneWithout 3 (some .boolean) 2 := ⟨⟨co_yX7_isGoneWithout, in_RX7, by decide, by decide, by decide +kernel⟩, im_yX7_isGoneWithout, se_yX7_isGoneWithout⟩
theorem mi_X7_isPerson : mcI yX7_isPerson cX7_isPerson 2 (some .boolean) 1 := ⟨⟨co_yX7_isPerson, in_RX7, by decide, by decide, by decide +kernel⟩, im_yX7_isPerson, se_yX7_isPerson⟩
theorem ms_X7_isUnder : mcS yX7_isUnder cX7_isUnder 4 (some .boolean) 2 := ⟨⟨co_yX7_isUnder, in_RX7, by decide, by decide, by decide +kernel⟩, st_yX7_isUnder⟩
theorem ms_X7_isWithin : mcS yX7_isWithin cX7_isWithin 3 (some .boolean) 3 := ⟨⟨co_yX7_isWithin, in_RX7, by decide, by decide, by decide +kernel⟩, st_yX7_isWithin⟩
theorem mi_X7_item : mcI yX7_item cX7_item 5 (some .int) 3 := ⟨⟨co_yX7_item, in_RX7, by decide, by decide, by decide +kernel⟩, im_yX7_item, se_yX7_item⟩
theorem mi_X7_judge : mcI yX7_judge cX7_judge 4 (some .int) 2 := ⟨⟨co_yX7_judge, in_RX7, by decide, by decide, by decide +kernel⟩, im_yX7_judge, se_yX7_judge⟩
theorem mi_X7_kill : mcI yX7_kill cX7_kill 4 (some .int) 2 := ⟨⟨co_yX7_kill, in_RX7, by decide, by decide, by decide +kernel⟩, im_yX7_kill, se_yX7_kill⟩
theorem mi_X7_land : mcI yX7_land cX7_land 3 (some .int) 0 := ⟨⟨co_yX7_land, in_RX7, by decide, by decide, by decide +kernel⟩, im_yX7_land, se_yX7_land⟩
theorem mi_X7_looked : mcI yX7_looked cX7_looked 3 (some .int) 0 := ⟨⟨co_yX7_looked, in_RX7, by decide, by decide, by decide +kernel⟩, im_yX7_looked, se_yX7_looked⟩
theorem ms_X7_lowest : mcS yX7_lowest cX7_lowest 5 (some .long) 3 := ⟨⟨co_yX7_lowest, in_RX7, by decide, by decide, by decide +kernel⟩, st_yX7_lowest⟩
theorem mi_X7_mean : mcI yX7_mean cX7_mean 6 (some .long) 2 := ⟨⟨co_yX7_mean, in_RX7, by decide, by decide, by decide +kernel⟩, im_yX7_mean, se_yX7_mean⟩
theorem mi_X7_odds : mcI yX7_odds cX7_odds 6 (some .long) 2 := ⟨⟨co_yX7_odds, in_RX7, by decide, by decide, by decide +kernel⟩, im_yX7_odds, se_yX7_odds⟩
theorem mi_X7_of : mcI yX7_of cX7_of 4 (some .int) 2 := ⟨⟨co_yX7_of, in_RX7, by decide, by decide, by decide +kernel⟩, im_yX7_of, se_yX7_of⟩
theorem mi_X7_on : mcI yX7_on cX7_on 5 (some .int) 2 := ⟨⟨co_yX7_on, in_RX7, by decide, by decide, by decide +kernel⟩, im_yX7_on, se_yX7_on⟩
theorem mi_X7_pass : mcI yX7_pass cX7_pass 2 (some .int) 1 := ⟨⟨co_yX7_pass, in_RX7, by decide, by decide, by decide +kernel⟩, im_yX7_pass, se_yX7_pass⟩
theorem mi_X7_person : mcI yX7_person cX7_person 4 (some .int) 3 := ⟨⟨co_yX7_person, in_RX7, by decide, by decide, by decide +kernel⟩, im_yX7_person, se_yX7_person⟩
theorem mi_X7_read : mcI yX7_read cX7_read 3 (some .long) 2 := ⟨⟨co_yX7_read, in_RX7, by decide, by decide, by decide +kernel⟩, im_yX7_read, se_yX7_read⟩
theorem mi_X7_round : mcI yX7_round cX7_round 2 (some .int) 1 := ⟨⟨co_yX7_round, in_RX7, by decide, by decide, by decide +kernel⟩, im_yX7_round, se_yX7_round⟩
theorem mi_X7_row : mcI yX7_row cX7_row 6 (some .int) 3 := ⟨⟨co_yX7_row, in_RX7, by decide, by decide, by decide +kernel⟩, im_yX7_row, se_yX7_row⟩
theorem mi_X7_see : mcI yX7_see cX7_see 3 (some .int) 2 := ⟨⟨co_yX7_see, in_RX7, by decide, by decide, by decide +kernel⟩, im_yX7_see, se_yX7_see⟩
theorem mi_X7_shift : mcI yX7_shift cX7_shift 6 (some .int) 5 := ⟨⟨co_yX7_shift, in_RX7, by decide, by decide, by decide +kernel⟩, im_yX7_shift, se_yX7_shift⟩
theorem mi_X7_soldier : mcI yX7_soldier cX7_soldier 4 (some .int) 2 := ⟨⟨co_yX7_soldier, in_RX7, by decide, by decide, by decide +kernel⟩, im_yX7_soldier, se_yX7_soldier⟩
theorem mi_X7_swap : mcI yX7_swap cX7_swap 5 (some .int) 0 := ⟨⟨co_yX7_swap, in_RX7, by decide, by decide, by decide +kernel⟩, im_yX7_swap, se_yX7_swap⟩
theorem mi_X7_taken : mcI yX7_taken cX7_taken 4 (some .int) 2 := ⟨⟨co_yX7_taken, in_RX7, by decide, by decide, by decide +kernel⟩, im_yX7_taken, se_yX7_taken⟩
theorem mi_X7_tape : mcI yX7_tape cX7_tape 4 (some .int) 3 := ⟨⟨co_yX7_tape, in_RX7, by decide, by decide, by decide +kernel⟩, im_yX7_tape, se_yX7_tape⟩
theorem mi_X7_thanks : mcI yX7_thanks cX7_thanks 4 (some .int) 2 := ⟨⟨co_yX7_thanks, in_RX7, by decide, by decide, by decide +kernel⟩, im_yX7_thanks, se_yX7_thanks⟩
theorem mi_X7_told : mcI yX7_told cX7_told 2 (some .int) 1 := ⟨⟨co_yX7_told, in_RX7, by decide, by decide, by decide +kernel⟩, im_yX7_told, se_yX7_told⟩
theorem mi_X7_trace : mcI yX7_trace cX7_trace 2 (some .int) 1 := ⟨⟨co_yX7_trace, in_RX7, by decide, by decide, by decide +kernel⟩, im_yX7_trace, se_yX7_trace⟩
theorem mi_X7_undo : mcI yX7_undo cX7_undo 1 (some .int) 0 := ⟨⟨co_yX7_undo, in_RX7, by decide, by decide, by decide +kernel⟩, im_yX7_undo, se_yX7_undo⟩
theorem mi_X7_was : mcI yX7_was cX7_was 3 (some .int) 2 := ⟨⟨co_yX7_was, in_RX7, by decide, by decide, by decide +kernel⟩, im_yX7_was, se_yX7_was⟩
theorem mi_X7_whose : mcI yX7_whose cX7_whose 4 (some .int) 1 := ⟨⟨co_yX7_whose, in_RX7, by decide, by decide, by decide +kernel⟩, im_yX7_whose, se_yX7_whose⟩
theorem mi_X7_winter : mcI yX7_winter cX7_winter 3 (some .int) 2 := ⟨⟨co_yX7_winter, in_RX7, by decide, by decide, by decide +kernel⟩, im_yX7_winter, se_yX7_winter⟩
theorem mi_X7_worst : mcI yX7_worst cX7_worst 6 (some .int) 2 := ⟨⟨co_yX7_worst, in_RX7, by decide, by decide, by decide +kernel⟩, im_yX7_worst, se_yX7_worst⟩
theorem ms_X8_above : mcS yX8_above cX8_above 1 (some .int) 1 := ⟨⟨co_yX8_above, in_RX8, by decide, by decide, by decide +kernel⟩, st_yX8_above⟩
theorem mi_X8_act : mcI yX8_act cX8_act 5 (some .int) 3 := ⟨⟨co_yX8_act, in_RX8, by decide, by decide, by decide +kernel⟩, im_yX8_act, se_yX8_act⟩
theorem mi_X8_again : mcI yX8_again cX8_again 3 none 1 := ⟨⟨co_yX8_again, in_RX8, by decide, by decide, by decide +kernel⟩, im_yX8_again, se_yX8_again⟩
theorem mi_X8_aim : mcI yX8_aim cX8_aim 7 (some .int) 0 := ⟨⟨co_yX8_aim, in_RX8, by decide, by decide, by decide +kernel⟩, im_yX8_aim, se_yX8_aim⟩
theorem mi_X8_bears : mcI yX8_bears cX8_bears 4 (some .int) 1 := ⟨⟨co_yX8_bears, in_RX8, by decide, by decide, by decide +kernel⟩, im_yX8_bears, se_yX8_bears⟩
theorem mi_X8_book : mcI yX8_book cX8_book 3 (some .int) 2 := ⟨⟨co_yX8_book, in_RX8, by decide, by decide, by decide +kernel⟩, im_yX8_book, se_yX8_book⟩
theorem mi_X8_can : mcI yX8_can cX8_can 7 (some .int) 2 := ⟨⟨co_yX8_can, in_RX8, by decide, by decide, by decide +kernel⟩, im_yX8_can, se_yX8_can⟩
theorem mi_X8_change : mcI yX8_change cX8_change 4 none 2 := ⟨⟨co_yX8_change, in_RX8, by decide, by decide, by decide +kernel⟩, im_yX8_change, se_yX8_change⟩
theorem mi_X8_codes : mcI yX8_codes cX8_codes 2 (some .boolean) 1 := ⟨⟨co_yX8_codes, in_RX8, by decide, by decide, by decide +kernel⟩, im_yX8_codes, se_yX8_codes⟩
theorem mi_X8_cold : mcI yX8_cold cX8_cold 1 (some .int) 0 := ⟨⟨co_yX8_cold, in_RX8, by decide, by decide, by decide +kernel⟩, im_yX8_cold, se_yX8_cold⟩
theorem mi_X8_count : mcI yX8_count cX8_count 2 (some .int) 1 := ⟨⟨co_yX8_count, in_RX8, by decide, by decide, by decide +kernel⟩, im_yX8_count, se_yX8_count⟩
theorem mi_X8_days : mcI yX8_days cX8_days 3 none 1 := ⟨⟨co_yX8_days, in_RX8, by decide, by decide, by decide +kernel⟩, im_yX8_days, se_yX8_days⟩
theorem mi_X8_dies : mcI yX8_dies cX8_dies 2 (some .int) 0 := ⟨⟨co_yX8_dies, in_RX8, by decide, by decide, by decide +kernel⟩, im_yX8_dies, se_yX8_dies⟩
theorem mi_X8_door : mcI yX8_door cX8_door 5 (some .int) 1 := ⟨⟨co_yX8_door, in_RX8, by decide, by decide, by decide +kernel⟩, im_yX8_door, se_yX8_door⟩
theorem mi_X8_enough : mcI yX8_enough cX8_enough 4 (some .int) 1 := ⟨⟨co_yX8_enough, in_RX8, by decide, by decide, by decide +kernel⟩, im_yX8_enough, se_yX8_enough⟩
theorem mi_X8_feed : mcI yX8_feed cX8_feed 2 (some .int) 1 := ⟨⟨co_yX8_feed, in_RX8, by decide, by decide, by decide +kernel⟩, im_yX8_feed, se_yX8_feed⟩
theorem mi_X8_goesDay : mcI yX8_goesDay cX8_goesDay 4 none 0 := ⟨⟨co_yX8_goesDay, in_RX8, by decide, by decide, by decide +kernel⟩, im_yX8_goesDay, se_yX8_goesDay⟩
theorem mi_X8_gone : mcI yX8_gone cX8_gone 3 (some .int) 1 := ⟨⟨co_yX8_gone, in_RX8, by decide, by decide, by decide +kernel⟩, im_yX8_gone, se_yX8_gone⟩
theorem mi_X8_healthOn : mcI yX8_healthOn cX8_healthOn 3 (some .int) 1 := ⟨⟨co_yX8_healthOn, in_RX8, by decide, by decide, by decide +kernel⟩, im_yX8_healthOn, se_yX8_healthOn⟩
theorem mi_X8_image : mcI yX8_image cX8_image 2 (some .int) 0 := ⟨⟨co_yX8_image, in_RX8, by decide, by decide, by decide +kernel⟩, im_yX8_image, se_yX8_image⟩
theorem mi_X8_is : mcI yX8_is cX8_is 2 (some .boolean) 1 := ⟨⟨co_yX8_is, in_RX8, by decide, by decide, by decide +kernel⟩, im_yX8_is, se_yX8_is⟩
theorem mi_X8_isAll : mcI yX8_isAll cX8_isAll 3 (some .boolean) 1 := ⟨⟨co_yX8_isAll, in_RX8, by decide, by decide, by decide +kernel⟩, im_yX8_isAll, se_yX8_isAll⟩
theorem mi_X8_isClause : mcI yX8_isClause cX8_isClause 4 (some .boolean) 1 := ⟨⟨co_yX8_isClause, in_RX8, by decide, by decide, by decide +kernel⟩, im_yX8_isClause, se_yX8_isClause⟩
theorem ms_X8_isDays : mcS yX8_isDays cX8_isDays 1 (some .boolean) 1 := ⟨⟨co_yX8_isDays, in_RX8, by decide, by decide, by decide +kernel⟩, st_yX8_isDays⟩
theorem mi_X8_isDigit : mcI yX8_isDigit cX8_isDigit 1 (some .boolean) 0 := ⟨⟨co_yX8_isDigit, in_RX8, by decide, by decide, by decide +kernel⟩, im_yX8_isDigit, se_yX8_isDigit⟩
theorem mi_X8_isE : mcI yX8_isE cX8_isE 1 (some .boolean) 0 := ⟨⟨co_yX8_isE, in_RX8, by decide, by decide, by decide +kernel⟩, im_yX8_isE, se_yX8_isE⟩
theorem mi_X8_isF : mcI yX8_isF cX8_isF 2 (some .boolean) 0 := ⟨⟨co_yX8_isF, in_RX8, by decide, by decide, by decide +kernel⟩, im_yX8_isF, se_yX8_isF⟩
theorem mi_X8_isGone : mcI yX8_isGone cX8_isGone 2 (some .boolean) 1 := ⟨⟨co_yX8_isGone, in_RX8, by decide, by decide, by decide +kernel⟩, im_yX8_isGone, se_yX8_isGone⟩
theorem mi_X8_isGoneWithout : mcI yX8_isGoneWithout cX8_isGoneWithout 5 (some .boolean) 2 := ⟨⟨co_yX8_isGoneWithout, in_RX8, by decide, by decide, by decide +kernel⟩, im_yX8_isGoneWithout, se_yX8_isGoneWithout⟩
theorem mi_X8_isNumber : mcI yX8_isNumber cX8_isNumber 1 (some .boolean) 0 := ⟨⟨co_yX8_isNumber, in_RX8, by decide, by decide, by decide +kernel⟩, im_yX8_isNumber, se_yX8_isNumber⟩
theorem mi_X8_isOne : mcI yX8_isOne cX8_isOne 2 (some .boolean) 1 := ⟨⟨co_yX8_isOne, in_RX8, by decide, by decide, by decide +kernel⟩, im_yX8_isOne, se_yX8_isOne⟩
theorem mi_X8_isSeen : mcI yX8_isSeen cX8_isSeen 2 (some .boolean) 0 := ⟨⟨co_yX8_isSeen, in_RX8, by decide, by decide, by decide +kernel⟩, im_yX8_isSeen, se_yX8_isSeen⟩
theorem mi_X8_isT : mcI yX8_isT cX8_isT 1 (some .boolean) 0 := ⟨⟨co_yX8_isT, in_RX8, by decide, by decide, by decide +kernel⟩, im_yX8_isT, se_yX8_isT⟩
theorem ms_X8_isTape : mcS yX8_isTape cX8_isTape 1 (some .boolean) 1 := ⟨⟨co_yX8_isTape, in_RX8, by decide, by decide, by decide +kernel⟩, st_yX8_isTape⟩
theorem mi_X8_isTest : mcI yX8_isTest cX8_isTest 3 (some .boolean) 0 := ⟨⟨co_yX8_isTest, in_RX8, by decide, by decide, by decide +kernel⟩, im_yX8_isTest, se_yX8_isTest⟩
theorem mi_X8_isTrue : mcI yX8_isTrue cX8_isTrue 9 (some .boolean) 2 := ⟨⟨co_yX8_isTrue, in_RX8, by decide, by decide, by decide +kernel⟩, im_yX8_isTrue, se_yX8_isTrue⟩
theorem mi_X8_item : mcI yX8_item cX8_item 5 (some .int) 3 := ⟨⟨co_yX8_item, in_RX8, by decide, by decide, by decide +kernel⟩, im_yX8_item, se_yX8_item⟩
theorem mi_X8_judge : mcI yX8_judge cX8_judge 4 (some .int) 2 := ⟨⟨co_yX8_judge, in_RX8, by decide, by decide, by decide +kernel⟩, im_yX8_judge, se_yX8_judge⟩
theorem mi_X8_keep : mcI yX8_keep cX8_keep 3 none 1 := ⟨⟨co_yX8_keep, in_RX8, by decide, by decide, by decide +kernel⟩, im_yX8_keep, se_yX8_keep⟩
theorem ms_X8_kept : mcS yX8_kept cX8_kept 3 (some .long) 2 := ⟨⟨co_yX8_kept, in_RX8, by decide, by decide, by decide +kernel⟩, st_yX8_kept⟩
theorem mi_X8_kill : mcI yX8_kill cX8_kill 4 (some .int) 2 := ⟨⟨co_yX8_kill, in_RX8, by decide, by decide, by decide +kernel⟩, im_yX8_kill, se_yX8_kill⟩
theorem mi_X8_land : mcI yX8_land cX8_land 5 (some .int) 0 := ⟨⟨co_yX8_land, in_RX8, by decide, by decide, by decide +kernel⟩, im_yX8_land, se_yX8_land⟩
theorem mi_X8_lastOf : mcI yX8_lastOf cX8_lastOf 5 (some .int) 2 := ⟨⟨co_yX8_lastOf, in_RX8, by decide, by decide, by decide +kernel⟩, im_yX8_lastOf, se_yX8_lastOf⟩
theorem mi_X8_lets : mcI yX8_lets cX8_lets 2 (some .boolean) 1 := ⟨⟨co_yX8_lets, in_RX8, by decide, by decide, by decide +kernel⟩, im_yX8_lets, se_yX8_lets⟩
theorem mi_X8_letterOf : mcI yX8_letterOf cX8_letterOf 3 (some .int) 2 := ⟨⟨co_yX8_letterOf, in_RX8, by decide, by decide, by decide +kernel⟩, im_yX8_letterOf, se_yX8_letterOf⟩
theorem mi_X8_letting : mcI yX8_letting cX8_letting 3 (some .int) 0 := ⟨⟨co_yX8_letting, in_RX8, by decide, by decide, by decide +kernel⟩, im_yX8_letting, se_yX8_letting⟩
theorem mi_X8_looked : mcI yX8_looked cX8_looked 2 (some .int) 0 := ⟨⟨co_yX8_looked, in_RX8, by decide, by decide, by decide +kernel⟩, im_yX8_looked, se_yX8_looked⟩
theorem mi_X8_mean : mcI yX8_mean cX8_mean 5 (some .long) 2 := ⟨⟨co_yX8_mean, in_RX8, by decide, by decide, by decide +kernel⟩, im_yX8_mean, se_yX8_mean⟩
theorem mi_X8_odds : mcI yX8_odds cX8_odds 5 (some .long) 2 := ⟨⟨co_yX8_odds, in_RX8, by decide, by decide, by decide +kernel⟩, im_yX8_odds, se_yX8_odds⟩
theorem mi_X8_of : mcI yX8_of cX8_of 3 (some .int) 2 := ⟨⟨co_yX8_of, in_RX8, by decide, by decide, by decide +kernel⟩, im_yX8_of, se_yX8_of⟩
theorem mi_X8_on : mcI yX8_on cX8_on 4 (some .int) 2 := ⟨⟨co_yX8_on, in_RX8, by decide, by decide, by decide +kernel⟩, im_yX8_on, se_yX8_on⟩
theorem mi_X8_opens : mcI yX8_opens cX8_opens 2 (some .boolean) 1 := ⟨⟨co_yX8_opens, in_RX8, by decide, by decide, by decide +kernel⟩, im_yX8_opens, se_yX8_opens⟩
theorem mi_X8_opens_ : mcI yX8_opens_ cX8_opens_ 4 (some .int) 3 := ⟨⟨co_yX8_opens_, in_RX8, by decide, by decide, by decide +kernel⟩, im_yX8_opens_, se_yX8_opens_⟩
theorem ms_X8_part : mcS yX8_part cX8_part 6 (some .long) 3 := ⟨⟨co_yX8_part, in_RX8, by decide, by decide, by decide +kernel⟩, st_yX8_part⟩
theorem mi_X8_pass : mcI yX8_pass cX8_pass 2 (some .int) 1 := ⟨⟨co_yX8_pass, in_RX8, by decide, by decide, by decide +kernel⟩, im_yX8_pass, se_yX8_pass⟩
theorem mi_X8_person : mcI yX8_person cX8_person 5 (some .int) 3 := ⟨⟨co_yX8_person, in_RX8, by decide, by decide, by decide +kernel⟩, im_yX8_person, se_yX8_person⟩
theorem mi_X8_pocket : mcI yX8_pocket cX8_pocket 1 (some .int) 0 := ⟨⟨co_yX8_pocket, in_RX8, by decide, by decide, by decide +kernel⟩, im_yX8_pocket, se_yX8_pocket⟩
theorem mi_X8_prayers : mcI yX8_prayers cX8_prayers 3 (some .int) 0 := ⟨⟨co_yX8_prayers, in_RX8, by decide, by decide, by decide +kernel⟩, im_yX8_prayers, se_yX8_prayers⟩
theorem mi_X8_prays : mcI yX8_prays cX8_prays 2 (some .int) 1 := ⟨⟨co_yX8_prays, in_RX8, by decide, by decide, by decide +kernel⟩, im_yX8_prays, se_yX8_prays⟩
theorem mi_X8_prays_ : mcI yX8_prays_ cX8_prays_ 5 (some .int) 3 := ⟨⟨co_yX8_prays_, in_RX8, by decide, by decide, by decide +kernel⟩, im_yX8_prays_, se_yX8_prays_⟩
theorem mi_X8_ran : mcI yX8_ran cX8_ran 2 none 1 := ⟨⟨co_yX8_ran, in_RX8, by decide, by decide, by decide +kernel⟩, im_yX8_ran, se_yX8_ran⟩
theorem mi_X8_read : mcI yX8_read cX8_read 3 (some .long) 2 := ⟨⟨co_yX8_read, in_RX8, by decide, by decide, by decide +kernel⟩, im_yX8_read, se_yX8_read⟩
theorem mi_X8_round : mcI yX8_round cX8_round 2 (some .int) 1 := ⟨⟨co_yX8_round, in_RX8, by decide, by decide, by decide +kernel⟩, im_yX8_round, se_yX8_round⟩
theorem mi_X8_row : mcI yX8_row cX8_row 5 (some .int) 3 := ⟨⟨co_yX8_row, in_RX8, by decide, by decide, by decide +kernel⟩, im_yX8_row, se_yX8_row⟩
theorem mi_X8_see : mcI yX8_see cX8_see 3 (some .int) 2 := ⟨⟨co_yX8_see, in_RX8, by decide, by decide, by decide +kernel⟩, im_yX8_see, se_yX8_see⟩
theorem mi_X8_shift : mcI yX8_shift cX8_shift 7 (some .int) 5 := ⟨⟨co_yX8_shift, in_RX8, by decide, by decide, by decide +kernel⟩, im_yX8_shift, se_yX8_shift⟩
theorem mi_X8_soldier : mcI yX8_soldier cX8_soldier 4 (some .int) 2 := ⟨⟨co_yX8_soldier, in_RX8, by decide, by decide, by decide +kernel⟩, im_yX8_soldier, se_yX8_soldier⟩
theorem mi_X8_swap : mcI yX8_swap cX8_swap 6 (some .int) 0 := ⟨⟨co_yX8_swap, in_RX8, by decide, by decide, by decide +kernel⟩, im_yX8_swap, se_yX8_swap⟩
theorem mi_X8_taken : mcI yX8_taken cX8_taken 4 (some .int) 2 := ⟨⟨co_yX8_taken, in_RX8, by decide, by decide, by decide +kernel⟩, im_yX8_taken, se_yX8_taken⟩
theorem mi_X8_tape : mcI yX8_tape cX8_tape 5 (some .int) 3 := ⟨⟨co_yX8_tape, in_RX8, by decide, by decide, by decide +kernel⟩, im_yX8_tape, se_yX8_tape⟩
theorem mi_X8_tells : mcI yX8_tells cX8_tells 5 (some .int) 3 := ⟨⟨co_yX8_tells, in_RX8, by decide, by decide, by decide +kernel⟩, im_yX8_tells, se_yX8_tells⟩
theorem mi_X8_thanks : mcI yX8_thanks cX8_thanks 4 (some .int) 2 := ⟨⟨co_yX8_thanks, in_RX8, by decide, by decide, by decide +kernel⟩, im_yX8_thanks, se_yX8_thanks⟩
theorem mi_X8_thanksFor : mcI yX8_thanksFor cX8_thanksFor 3 (some .int) 2 := ⟨⟨co_yX8_thanksFor, in_RX8, by decide, by decide, by decide +kernel⟩, im_yX8_thanksFor, se_yX8_thanksFor⟩
theorem mi_X8_told : mcI yX8_told cX8_told 2 (some .int) 1 := ⟨⟨co_yX8_told, in_RX8, by decide, by decide, by decide +kernel⟩, im_yX8_told, se_yX8_told⟩
theorem mi_X8_trace : mcI yX8_trace cX8_trace 2 (some .int) 1 := ⟨⟨co_yX8_trace, in_RX8, by decide, by decide, by decide +kernel⟩, im_yX8_trace, se_yX8_trace⟩
theorem mi_X8_undo : mcI yX8_undo cX8_undo 2 (some .int) 0 := ⟨⟨co_yX8_undo, in_RX8, by decide, by decide, by decide +kernel⟩, im_yX8_undo, se_yX8_undo⟩
theorem mi_X8_was : mcI yX8_was cX8_was 7 (some .int) 2 := ⟨⟨co_yX8_was, in_RX8, by decide, by decide, by decide +kernel⟩, im_yX8_was, se_yX8_was⟩
theorem mi_X8_welcome : mcI yX8_welcome cX8_welcome 2 (some .int) 1 := ⟨⟨co_yX8_welcome, in_RX8, by decide, by decide, by decide +kernel⟩, im_yX8_welcome, se_yX8_welcome⟩
theorem mi_X8_whose : mcI yX8_whose cX8_whose 4 (some .int) 1 := ⟨⟨co_yX8_whose, in_RX8, by decide, by decide, by decide +kernel⟩, im_yX8_whose, se_yX8_whose⟩
theorem mi_X8_winter : mcI yX8_winter cX8_winter 3 (some .int) 2 := ⟨⟨co_yX8_winter, in_RX8, by decide, by decide, by decide +kernel⟩, im_yX8_winter, se_yX8_winter⟩
theorem ms_X8_within : mcS yX8_within cX8_within 3 (some .boolean) 3 := ⟨⟨co_yX8_within, in_RX8, by decide, by decide, by decide +kernel⟩, st_yX8_within⟩
theorem mi_X8_worst : mcI yX8_worst cX8_worst 6 (some .int) 2 := ⟨⟨co_yX8_worst, in_RX8, by decide, by decide, by decide +kernel⟩, im_yX8_worst, se_yX8_worst⟩
/-! more rows: tables, Math, arraycopy, literals -/
theorem co_max : Cond.code Lib.Math.max.name Lib.Math.max.code 2 (some .int) ∈ T0 := co_yJ9_max_7cf53
theorem co_min : Cond.code Lib.Math.min.name Lib.Math.min.code 2 (some .int) ∈ T0 := co_yJ9_min_7cf53
theorem st_max : Cond.static Lib.Math.max.name ∈ T0 := st_yJ9_max_7cf53
theorem st_min : Cond.static Lib.Math.min.name ∈ T0 := st_yJ9_min_7cf53
def isW (b : Nat) : Prop := b = 51 ∨ b = 70 ∨ b = 89
def isE (b : Nat) : Prop := b = 52 ∨ b = 71 ∨ b = 90
def isL (b : Nat) : Prop := ∃ j, j < 7 ∧ b = 2 + 7 * j
def isQ (b cap : Nat) : Prop := ((b = 61 ∨ b = 80 ∨ b = 99) ∧ cap = 5) ∨ ((b = 64 ∨ b = 83 ∨ b = 102) ∧ cap = 10) ∨ ((b = 67 ∨ b = 86 ∨ b = 105) ∧ cap = 8)
theorem isLj {j : Nat} (h : j < 7) : isL (2 + 7 * j) := ⟨j, h, rfl⟩
theorem isLk {k : Nat} (h : k < 6) : isL (9 + 7 * k) := ⟨k + 1, by omega, by omega⟩
theorem isWE {b : Nat} (h : isW b) : isE (b + 1) := by rcases h with rfl | rfl | rfl <;> simp [isE]
theorem isWQ10 {b : Nat} (h : isW b) : isQ (b + 10) 5 := by rcases h with rfl | rfl | rfl <;> simp [isQ]
theorem isWQ13 {b : Nat} (h : isW b) : isQ (b + 13) 10 := by rcases h with rfl | rfl | rfl <;> simp [isQ]
theorem isWQ16 {b : Nat} (h : isW b) : isQ (b + 16) 8 := by rcases h with rfl | rfl | rfl <;> simp [isQ]
theorem isW0 : isW 51 := Or.inl rfl
theorem isW1 : isW 70 := Or.inr (Or.inl rfl)
theorem isW2 : isW 89 := Or.inr (Or.inr rfl)
theorem cc_0 : cel 0 7 0 := ⟨by decide, rfl, rfl⟩
theorem cc_1 : cel 1 13 6 := ⟨by decide, rfl, rfl⟩
theorem cc_2 : cel 2 1 0 := ⟨by decide, rfl, rfl⟩
theorem cc_3 : cel 3 9 10 := ⟨by decide, rfl, rfl⟩
theorem cc_4 : cel 4 9 10 := ⟨by decide, rfl, rfl⟩
theorem cc_5 : cel 5 9 100 := ⟨by decide, rfl, rfl⟩
theorem cc_6 : cel 6 9 100 := ⟨by decide, rfl, rfl⟩
theorem cc_7 : cel 7 9 100 := ⟨by decide, rfl, rfl⟩
theorem cc_8 : cel 8 9 16 := ⟨by decide, rfl, rfl⟩
theorem cc_9 : cel 9 1 0 := ⟨by decide, rfl, rfl⟩
theorem cc_10 : cel 10 9 10 := ⟨by decide, rfl, rfl⟩
theorem cc_11 : cel 11 9 10 := ⟨by decide, rfl, rfl⟩
theorem cc_12 : cel 12 9 100 := ⟨by decide, rfl, rfl⟩
theorem cc_13 : cel 13 9 100 := ⟨by decide, rfl, rfl⟩
theorem cc_14 : cel 14 9 100 := ⟨by decide, rfl, rfl⟩
theorem cc_15 : cel 15 9 16 := ⟨by decide, rfl, rfl⟩
theorem cc_16 : cel 16 1 0 := ⟨by decide, rfl, rfl⟩
theorem cc_17 : cel 17 9 10 := ⟨by decide, rfl, rfl⟩
theorem cc_18 : cel 18 9 10 := ⟨by decide, rfl, rfl⟩
theorem cc_19 : cel 19 9 100 := ⟨by decide, rfl, rfl⟩
theorem cc_20 : cel 20 9 100 := ⟨by decide, rfl, rfl⟩
theorem cc_21 : cel 21 9 100 := ⟨by decide, rfl, rfl⟩
theorem cc_22 : cel 22 9 16 := ⟨by decide, rfl, rfl⟩
theorem cc_23 : cel 23 1 0 := ⟨by decide, rfl, rfl⟩
theorem cc_24 : cel 24 9 10 := ⟨by decide, rfl, rfl⟩
theorem cc_25 : cel 25 9 10 := ⟨by decide, rfl, rfl⟩
theorem cc_26 : cel 26 9 100 := ⟨by decide, rfl, rfl⟩
theorem cc_27 : cel 27 9 100 := ⟨by decide, rfl, rfl⟩
theorem cc_28 : cel 28 9 100 := ⟨by decide, rfl, rfl⟩
theorem cc_29 : cel 29 9 16 := ⟨by decide, rfl, rfl⟩
theorem cc_30 : cel 30 1 0 := ⟨by decide, rfl, rfl⟩
theorem cc_31 : cel 31 9 10 := ⟨by decide, rfl, rfl⟩
theorem cc_32 : cel 32 9 10 := ⟨by decide, rfl, rfl⟩
theorem cc_33 : cel 33 9 100 := ⟨by decide, rfl, rfl⟩
theorem cc_34 : cel 34 9 100 := ⟨by decide, rfl, rfl⟩
theorem cc_35 : cel 35 9 100 := ⟨by decide, rfl, rfl⟩
theorem cc_36 : cel 36 9 16 := ⟨by decide, rfl, rfl⟩
theorem cc_37 : cel 37 1 0 := ⟨by decide, rfl, rfl⟩
theorem cc_38 : cel 38 9 10 := ⟨by decide, rfl, rfl⟩
theorem cc_39 : cel 39 9 10 := ⟨by decide, rfl, rfl⟩
theorem cc_40 : cel 40 9 100 := ⟨by decide, rfl, rfl⟩
theorem cc_41 : cel 41 9 100 := ⟨by decide, rfl, rfl⟩
theorem cc_42 : cel 42 9 100 := ⟨by decide, rfl, rfl⟩
theorem cc_43 : cel 43 9 16 := ⟨by decide, rfl, rfl⟩
theorem cc_44 : cel 44 1 0 := ⟨by decide, rfl, rfl⟩
theorem cc_45 : cel 45 9 10 := ⟨by decide, rfl, rfl⟩
theorem cc_46 : cel 46 9 10 := ⟨by decide, rfl, rfl⟩
theorem cc_47 : cel 47 9 100 := ⟨by decide, rfl, rfl⟩
theorem cc_48 : cel 48 9 100 := ⟨by decide, rfl, rfl⟩
theorem cc_49 : cel 49 9 100 := ⟨by decide, rfl, rfl⟩
theorem cc_50 : cel 50 9 16 := ⟨by decide, rfl, rfl⟩
theorem cc_51 : cel 51 6 0 := ⟨by decide, rfl, rfl⟩
theorem cc_52 : cel 52 3 0 := ⟨by decide, rfl, rfl⟩
theorem cc_53 : cel 53 9 6 := ⟨by decide, rfl, rfl⟩
theorem cc_54 : cel 54 9 6 := ⟨by decide, rfl, rfl⟩
theorem cc_55 : cel 55 9 6 := ⟨by decide, rfl, rfl⟩
theorem cc_56 : cel 56 9 6 := ⟨by decide, rfl, rfl⟩
theorem cc_57 : cel 57 9 6 := ⟨by decide, rfl, rfl⟩
theorem cc_58 : cel 58 9 24 := ⟨by decide, rfl, rfl⟩
theorem cc_59 : cel 59 9 6 := ⟨by decide, rfl, rfl⟩
theorem cc_60 : cel 60 9 6 := ⟨by decide, rfl, rfl⟩
theorem cc_61 : cel 61 2 0 := ⟨by decide, rfl, rfl⟩
theorem cc_62 : cel 62 9 5 := ⟨by decide, rfl, rfl⟩
theorem cc_63 : cel 63 9 5 := ⟨by decide, rfl, rfl⟩
theorem cc_64 : cel 64 2 0 := ⟨by decide, rfl, rfl⟩
theorem cc_65 : cel 65 9 10 := ⟨by decide, rfl, rfl⟩
theorem cc_66 : cel 66 9 10 := ⟨by decide, rfl, rfl⟩
theorem cc_67 : cel 67 2 0 := ⟨by decide, rfl, rfl⟩
theorem cc_68 : cel 68 9 8 := ⟨by decide, rfl, rfl⟩
theorem cc_69 : cel 69 9 8 := ⟨by decide, rfl, rfl⟩
theorem cc_70 : cel 70 6 0 := ⟨by decide, rfl, rfl⟩
theorem cc_71 : cel 71 3 0 := ⟨by decide, rfl, rfl⟩
theorem cc_72 : cel 72 9 6 := ⟨by decide, rfl, rfl⟩
theorem cc_73 : cel 73 9 6 := ⟨by decide, rfl, rfl⟩
theorem cc_74 : cel 74 9 6 := ⟨by decide, rfl, rfl⟩
theorem cc_75 : cel 75 9 6 := ⟨by decide, rfl, rfl⟩
theorem cc_76 : cel 76 9 6 := ⟨by decide, rfl, rfl⟩
theorem cc_77 : cel 77 9 24 := ⟨by decide, rfl, rfl⟩
theorem cc_78 : cel 78 9 6 := ⟨by decide, rfl, rfl⟩
theorem cc_79 : cel 79 9 6 := ⟨by decide, rfl, rfl⟩
theorem cc_80 : cel 80 2 0 := ⟨by decide, rfl, rfl⟩
theorem cc_81 : cel 81 9 5 := ⟨by decide, rfl, rfl⟩
theorem cc_82 : cel 82 9 5 := ⟨by decide, rfl, rfl⟩
theorem cc_83 : cel 83 2 0 := ⟨by decide, rfl, rfl⟩
theorem cc_84 : cel 84 9 10 := ⟨by decide, rfl, rfl⟩
theorem cc_85 : cel 85 9 10 := ⟨by decide, rfl, rfl⟩
theorem cc_86 : cel 86 2 0 := ⟨by decide, rfl, rfl⟩
theorem cc_87 : cel 87 9 8 := ⟨by decide, rfl, rfl⟩
theorem cc_88 : cel 88 9 8 := ⟨by decide, rfl, rfl⟩
theorem cc_89 : cel 89 6 0 := ⟨by decide, rfl, rfl⟩
theorem cc_90 : cel 90 3 0 := ⟨by decide, rfl, rfl⟩
theorem cc_91 : cel 91 9 6 := ⟨by decide, rfl, rfl⟩
theorem cc_92 : cel 92 9 6 := ⟨by decide, rfl, rfl⟩
theorem cc_93 : cel 93 9 6 := ⟨by decide, rfl, rfl⟩
theorem cc_94 : cel 94 9 6 := ⟨by decide, rfl, rfl⟩
theorem cc_95 : cel 95 9 6 := ⟨by decide, rfl, rfl⟩
theorem cc_96 : cel 96 9 24 := ⟨by decide, rfl, rfl⟩
theorem cc_97 : cel 97 9 6 := ⟨by decide, rfl, rfl⟩
theorem cc_98 : cel 98 9 6 := ⟨by decide, rfl, rfl⟩
theorem cc_99 : cel 99 2 0 := ⟨by decide, rfl, rfl⟩
theorem cc_100 : cel 100 9 5 := ⟨by decide, rfl, rfl⟩
theorem cc_101 : cel 101 9 5 := ⟨by decide, rfl, rfl⟩
theorem cc_102 : cel 102 2 0 := ⟨by decide, rfl, rfl⟩
theorem cc_103 : cel 103 9 10 := ⟨by decide, rfl, rfl⟩
theorem cc_104 : cel 104 9 10 := ⟨by decide, rfl, rfl⟩
theorem cc_105 : cel 105 2 0 := ⟨by decide, rfl, rfl⟩
theorem cc_106 : cel 106 9 8 := ⟨by decide, rfl, rfl⟩
theorem cc_107 : cel 107 9 8 := ⟨by decide, rfl, rfl⟩
theorem cc_108 : cel 108 5 0 := ⟨by decide, rfl, rfl⟩
theorem cc_109 : cel 109 10 100 := ⟨by decide, rfl, rfl⟩
theorem cc_110 : cel 110 0 0 := ⟨by decide, rfl, rfl⟩
theorem cc_111 : cel 111 9 20 := ⟨by decide, rfl, rfl⟩
theorem cc_112 : cel 112 4 0 := ⟨by decide, rfl, rfl⟩
theorem cc_113 : cel 113 9 6 := ⟨by decide, rfl, rfl⟩
theorem cc_114 : cel 114 9 6 := ⟨by decide, rfl, rfl⟩
theorem cc_115 : cel 115 12 360 := ⟨by decide, rfl, rfl⟩
theorem cc_116 : cel 116 8 0 := ⟨by decide, rfl, rfl⟩
theorem cc_117 : cel 117 9 6 := ⟨by decide, rfl, rfl⟩
theorem cc_118 : cel 118 9 6 := ⟨by decide, rfl, rfl⟩
theorem cc_119 : cel 119 9 6 := ⟨by decide, rfl, rfl⟩
theorem cc_120 : cel 120 9 6 := ⟨by decide, rfl, rfl⟩
theorem cc_121 : cel 121 9 6 := ⟨by decide, rfl, rfl⟩
theorem cc_122 : cel 122 9 24 := ⟨by decide, rfl, rfl⟩
theorem cc_123 : cel 123 9 6 := ⟨by decide, rfl, rfl⟩
theorem cc_124 : cel 124 9 100 := ⟨by decide, rfl, rfl⟩
theorem cc_125 : cel 125 9 6 := ⟨by decide, rfl, rfl⟩
theorem cc_126 : cel 126 9 60 := ⟨by decide, rfl, rfl⟩
theorem cc_127 : cel 127 9 60 := ⟨by decide, rfl, rfl⟩
theorem cc_128 : cel 128 9 60 := ⟨by decide, rfl, rfl⟩
theorem cc_129 : cel 129 9 60 := ⟨by decide, rfl, rfl⟩
theorem cc_130 : cel 130 9 1000 := ⟨by decide, rfl, rfl⟩
theorem cc_131 : cel 131 11 100 := ⟨by decide, rfl, rfl⟩
theorem cc_132 : cel 132 9 5 := ⟨by decide, rfl, rfl⟩
theorem cc_133 : cel 133 9 5 := ⟨by decide, rfl, rfl⟩
theorem cc_134 : cel 134 9 10 := ⟨by decide, rfl, rfl⟩
theorem cc_135 : cel 135 9 10 := ⟨by decide, rfl, rfl⟩
theorem cc_136 : cel 136 9 8 := ⟨by decide, rfl, rfl⟩
theorem cc_137 : cel 137 9 8 := ⟨by decide, rfl, rfl⟩
theorem cc_138 : cel 138 9 64 := ⟨by decide, rfl, rfl⟩
theorem cc_139 : cel 139 9 64 := ⟨by decide, rfl, rfl⟩
theorem cc_140 : cel 140 9 50 := ⟨by decide, rfl, rfl⟩
theorem cc_141 : cel 141 9 20 := ⟨by decide, rfl, rfl⟩
theorem cc_142 : cel 142 9 6 := ⟨by decide, rfl, rfl⟩
theorem cc_143 : cel 143 9 6 := ⟨by decide, rfl, rfl⟩
theorem cc_144 : cel 144 12 360 := ⟨by decide, rfl, rfl⟩
theorem cW_0 {b : Nat} (h : isW b) : cel (b) 6 0 := by rcases h with rfl | rfl | rfl <;> exact ⟨by decide, rfl, rfl⟩
theorem cW_1 {b : Nat} (h : isW b) : cel (b + 1) 3 0 := by rcases h with rfl | rfl | rfl <;> exact ⟨by decide, rfl, rfl⟩
theorem cW_2 {b : Nat} (h : isW b) : cel (b + 2) 9 6 := by rcases h with rfl | rfl | rfl <;> exact ⟨by decide, rfl, rfl⟩
theorem cW_3 {b : Nat} (h : isW b) : cel (b + 3) 9 6 := by rcases h with rfl | rfl | rfl <;> exact ⟨by decide, rfl, rfl⟩
theorem cW_4 {b : Nat} (h : isW b) : cel (b + 4) 9 6 := by rcases h with rfl | rfl | rfl <;> exact ⟨by decide, rfl, rfl⟩
theorem cW_5 {b : Nat} (h : isW b) : cel (b + 5) 9 6 := by rcases h with rfl | rfl | rfl <;> exact ⟨by decide, rfl, rfl⟩
theorem cW_6 {b : Nat} (h : isW b) : cel (b + 6) 9 6 := by rcases h with rfl | rfl | rfl <;> exact ⟨by decide, rfl, rfl⟩
theorem cW_7 {b : Nat} (h : isW b) : cel (b + 7) 9 24 := by rcases h with rfl | rfl | rfl <;> exact ⟨by decide, rfl, rfl⟩
theorem cW_8 {b : Nat} (h : isW b) : cel (b + 8) 9 6 := by rcases h with rfl | rfl | rfl <;> exact ⟨by decide, rfl, rfl⟩
theorem cW_9 {b : Nat} (h : isW b) : cel (b + 9) 9 6 := by rcases h with rfl | rfl | rfl <;> exact ⟨by decide, rfl, rfl⟩
theorem cW_10 {b : Nat} (h : isW b) : cel (b + 10) 2 0 := by rcases h with rfl | rfl | rfl <;> exact ⟨by decide, rfl, rfl⟩
theorem cW_11 {b : Nat} (h : isW b) : cel (b + 11) 9 5 := by rcases h with rfl | rfl | rfl <;> exact ⟨by decide, rfl, rfl⟩
theorem cW_12 {b : Nat} (h : isW b) : cel (b + 12) 9 5 := by rcases h with rfl | rfl | rfl <;> exact ⟨by decide, rfl, rfl⟩
theorem cW_13 {b : Nat} (h : isW b) : cel (b + 13) 2 0 := by rcases h with rfl | rfl | rfl <;> exact ⟨by decide, rfl, rfl⟩
theorem cW_14 {b : Nat} (h : isW b) : cel (b + 14) 9 10 := by rcases h with rfl | rfl | rfl <;> exact ⟨by decide, rfl, rfl⟩
theorem cW_15 {b : Nat} (h : isW b) : cel (b + 15) 9 10 := by rcases h with rfl | rfl | rfl <;> exact ⟨by decide, rfl, rfl⟩
theorem cW_16 {b : Nat} (h : isW b) : cel (b + 16) 2 0 := by rcases h with rfl | rfl | rfl <;> exact ⟨by decide, rfl, rfl⟩
theorem cW_17 {b : Nat} (h : isW b) : cel (b + 17) 9 8 := by rcases h with rfl | rfl | rfl <;> exact ⟨by decide, rfl, rfl⟩
theorem cW_18 {b : Nat} (h : isW b) : cel (b + 18) 9 8 := by rcases h with rfl | rfl | rfl <;> exact ⟨by decide, rfl, rfl⟩
theorem cE_0 {b : Nat} (h : isE b) : cel (b) 3 0 := by rcases h with rfl | rfl | rfl <;> exact ⟨by decide, rfl, rfl⟩
theorem cE_1 {b : Nat} (h : isE b) : cel (b + 1) 9 6 := by rcases h with rfl | rfl | rfl <;> exact ⟨by decide, rfl, rfl⟩
theorem cE_2 {b : Nat} (h : isE b) : cel (b + 2) 9 6 := by rcases h with rfl | rfl | rfl <;> exact ⟨by decide, rfl, rfl⟩
theorem cE_3 {b : Nat} (h : isE b) : cel (b + 3) 9 6 := by rcases h with rfl | rfl | rfl <;> exact ⟨by decide, rfl, rfl⟩
theorem cE_4 {b : Nat} (h : isE b) : cel (b + 4) 9 6 := by rcases h with rfl | rfl | rfl <;> exact ⟨by decide, rfl, rfl⟩
theorem cE_5 {b : Nat} (h : isE b) : cel (b + 5) 9 6 := by rcases h with rfl | rfl | rfl <;> exact ⟨by decide, rfl, rfl⟩
theorem cE_6 {b : Nat} (h : isE b) : cel (b + 6) 9 24 := by rcases h with rfl | rfl | rfl <;> exact ⟨by decide, rfl, rfl⟩
theorem cL_0 {b : Nat} (h : isL b) : cel (b) 1 0 := by
  obtain ⟨j, hj, rfl⟩ := h
  rcases (show j = 0 ∨ j = 1 ∨ j = 2 ∨ j = 3 ∨ j = 4 ∨ j = 5 ∨ j = 6 by omega) with rfl | rfl | rfl | rfl | rfl | rfl | rfl <;> exact ⟨by decide, rfl, rfl⟩
theorem cL_1 {b : Nat} (h : isL b) : cel (b + 1) 9 10 := by
  obtain ⟨j, hj, rfl⟩ := h
  rcases (show j = 0 ∨ j = 1 ∨ j = 2 ∨ j = 3 ∨ j = 4 ∨ j = 5 ∨ j = 6 by omega) with rfl | rfl | rfl | rfl | rfl | rfl | rfl <;> exact ⟨by decide, rfl, rfl⟩
theorem cL_2 {b : Nat} (h : isL b) : cel (b + 2) 9 10 := by
  obtain ⟨j, hj, rfl⟩ := h
  rcases (show j = 0 ∨ j = 1 ∨ j = 2 ∨ j = 3 ∨ j = 4 ∨ j = 5 ∨ j = 6 by omega) with rfl | rfl | rfl | rfl | rfl | rfl | rfl <;> exact ⟨by decide, rfl, rfl⟩
theorem cL_3 {b : Nat} (h : isL b) : cel (b + 3) 9 100 := by
  obtain ⟨j, hj, rfl⟩ := h
  rcases (show j = 0 ∨ j = 1 ∨ j = 2 ∨ j = 3 ∨ j = 4 ∨ j = 5 ∨ j = 6 by omega) with rfl | rfl | rfl | rfl | rfl | rfl | rfl <;> exact ⟨by decide, rfl, rfl⟩
theorem cL_4 {b : Nat} (h : isL b) : cel (b + 4) 9 100 := by
  obtain ⟨j, hj, rfl⟩ := h
  rcases (show j = 0 ∨ j = 1 ∨ j = 2 ∨ j = 3 ∨ j = 4 ∨ j = 5 ∨ j = 6 by omega) with rfl | rfl | rfl | rfl | rfl | rfl | rfl <;> exact ⟨by decide, rfl, rfl⟩
theorem cL_5 {b : Nat} (h : isL b) : cel (b + 5) 9 100 := by
  obtain ⟨j, hj, rfl⟩ := h
  rcases (show j = 0 ∨ j = 1 ∨ j = 2 ∨ j = 3 ∨ j = 4 ∨ j = 5 ∨ j = 6 by omega) with rfl | rfl | rfl | rfl | rfl | rfl | rfl <;> exact ⟨by decide, rfl, rfl⟩
theorem cL_6 {b : Nat} (h : isL b) : cel (b + 6) 9 16 := by
  obtain ⟨j, hj, rfl⟩ := h
  rcases (show j = 0 ∨ j = 1 ∨ j = 2 ∨ j = 3 ∨ j = 4 ∨ j = 5 ∨ j = 6 by omega) with rfl | rfl | rfl | rfl | rfl | rfl | rfl <;> exact ⟨by decide, rfl, rfl⟩
theorem cQ_0 {b cap : Nat} (h : isQ b cap) : cel (b) 2 0 := by
  rcases h with ⟨rfl | rfl | rfl, rfl⟩ | ⟨rfl | rfl | rfl, rfl⟩ | ⟨rfl | rfl | rfl, rfl⟩ <;> exact ⟨by decide, rfl, rfl⟩
theorem cQ_1 {b cap : Nat} (h : isQ b cap) : cel (b + 1) 9 cap := by
  rcases h with ⟨rfl | rfl | rfl, rfl⟩ | ⟨rfl | rfl | rfl, rfl⟩ | ⟨rfl | rfl | rfl, rfl⟩ <;> exact ⟨by decide, rfl, rfl⟩
theorem cQ_2 {b cap : Nat} (h : isQ b cap) : cel (b + 2) 9 cap := by
  rcases h with ⟨rfl | rfl | rfl, rfl⟩ | ⟨rfl | rfl | rfl, rfl⟩ | ⟨rfl | rfl | rfl, rfl⟩ <;> exact ⟨by decide, rfl, rfl⟩
section RM
variable {Z : PL} {p : Program} {l : Launch} {e : Env} {R : Room} {s : State} {m : MethodId} {args : Array Value} {below : List Frame} {meth : Method} {c : Code} {H : Heap} {locs : List Loc} {Q : State → Prop} {cc : ByteArray} {nL : Nat} {own : String} {ret : Option FieldType} {pc : Nat} {ls : Array Slot} {rest : List Value} {v : VV} {w : WV}
theorem Cx.sb (X : Cx Z p s m args meth c cc nL own ret) : SB Z s s.heap := X.tb.2.2.2
theorem g_tab0 (X : Cx Z p s m args meth c cc nL own ret) (h : HS Z s v w H locs) {k : Nat} {x : Int32} (hx : x = nI k) (hk : k < 7) (hdg : decode cc pc = .ok (.iaload, 1)) (kk : W p l e R s m args below meth c H locs 0 0 Q (F0 m (pc + 1) ls (.int (abvL.getD k 0) :: rest))) : W p l e R s m args below meth c H locs 0 0 Q (F0 m pc ls (.int x :: .ref (zt Z 0) :: rest)) := by
  subst hx
  exact va_ti X.1 X.2.1 X.sb.2.1 h.2 (vp_in_nI hk (by omega)) (by rw [nI_clamp (by omega)]) hdg kk
theorem g_tab1 (X : Cx Z p s m args meth c cc nL own ret) (h : HS Z s v w H locs) {k : Nat} {x : Int32} (hx : x = nI k) (hk : k < 21) (hdg : decode cc pc = .ok (.iaload, 1)) (kk : W p l e R s m args below meth c H locs 0 0 Q (F0 m (pc + 1) ls (.int (bodL.getD k 0) :: rest))) : W p l e R s m args below meth c H locs 0 0 Q (F0 m pc ls (.int x :: .ref (zt Z 1) :: rest)) := by
  subst hx
  exact va_ti X.1 X.2.1 X.sb.2.2.2.1 h.2 (vp_in_nI hk (by omega)) (by rw [nI_clamp (by omega)]) hdg kk
theorem g_st_ABOVE (X : Cx Z p s m args meth c cc nL RX7 ret) (h : HS Z s v w H locs) (hdg : decode cc pc = .ok (.getstatic 295, 3)) (kk : W p l e R s m args below meth c H locs 0 0 Q (F0 m (pc + 3) ls (.ref (zt Z 0) :: rest))) : W p l e R s m args below meth c H locs 0 0 Q (F0 m pc ls rest) :=
  va_gets X.1 X.2.1 X.sb.1 h.2 X.ow (X.ts _ fw_RX7_295) (fun _ h9 => h9) hdg kk
theorem g_st_BODY (X : Cx Z p s m args meth c cc nL RX0 ret) (h : HS Z s v w H locs) (hdg : decode cc pc = .ok (.getstatic 45, 3)) (kk : W p l e R s m args below meth c H locs 0 0 Q (F0 m (pc + 3) ls (.ref (zt Z 1) :: rest))) : W p l e R s m args below meth c H locs 0 0 Q (F0 m pc ls rest) :=
  va_gets X.1 X.2.1 X.sb.2.2.1 h.2 X.ow (X.ts _ fw_RX0_45) (fun _ h9 => h9) hdg kk
theorem g_st_ABOVEN (X : Cx Z p s m args meth c cc nL RX0 ret) (h : HS Z s v w H locs) (hdg : decode cc pc = .ok (.getstatic 48, 3)) (kk : W p l e R s m args below meth c H locs 0 0 Q (F0 m (pc + 3) ls (.ref (zt Z 0) :: rest))) : W p l e R s m args below meth c H locs 0 0 Q (F0 m pc ls rest) :=
  va_getsN (host := RX7) X.1 X.2.1 X.sb.1 h.2 X.ow (va_Nw.use rfl X.tb.2.2.1.2.1) (fun _ h9 => h9) hdg kk
theorem g_max (X : Cx Z p s m args meth c cc nL own ret) (hls : ls.size = nL) {idx : Nat} (hlk : Cond.methodLink own idx yJ9_max_7cf53 ∈ T0) (hR : 1 ≤ R.frames ∧ 21 ≤ R.locals) (hr8 : (rest.map fun v => v.category).sum ≤ 8) {x y : Int32} (hdg : decode cc pc = .ok (.invokestatic idx, 3)) (kk : W p l e R s m args below meth c H locs 0 0 Q (F0 m (pc + 3) ls (.int (if x < y then y else x) :: rest))) : W p l e R s m args below meth c H locs 0 0 Q (F0 m pc ls (.int y :: .int x :: rest)) :=
  va_mmax X.1 X.2.1 (X.2.2.1.trans hls.symm) X.ow (X.ts _ hlk) (X.ts _ st_max) (X.ts _ in_RJ9) (X.ts _ co_max) hR.1 (by have := hR.2; omega) (Nat.zero_le _) (Nat.zero_le _) hdg kk
theorem g_min (X : Cx Z p s m args meth c cc nL own ret) (hls : ls.size = nL) {idx : Nat} (hlk : Cond.methodLink own idx yJ9_min_7cf53 ∈ T0) (hR : 1 ≤ R.frames ∧ 21 ≤ R.locals) (hr8 : (rest.map fun v => v.category).sum ≤ 8) {x y : Int32} (hdg : decode cc pc = .ok (.invokestatic idx, 3)) (kk : W p l e R s m args below meth c H locs 0 0 Q (F0 m (pc + 3) ls (.int (if y < x then y else x) :: rest))) : W p l e R s m args below meth c H locs 0 0 Q (F0 m pc ls (.int y :: .int x :: rest)) :=
  va_mmin X.1 X.2.1 (X.2.2.1.trans hls.symm) X.ow (X.ts _ hlk) (X.ts _ st_min) (X.ts _ in_RJ9) (X.ts _ co_min) hR.1 (by have := hR.2; omega) (Nat.zero_le _) (Nat.zero_le _) hdg kk
/-- System.arraycopy between int arrays of the world -/
theorem g_copyi (X : Cx Z p s m args meth c cc nL own ret) (h : HS Z s v w H locs) (hls : ls.size = nL) {idx : Nat} (hlk : Cond.methodLink own idx arraycopyName ∈ T0) {i j n0 n1 a b n : Nat} {xa xb xn : Int32} (hc0 : cel i 9 n0) (hc1 : cel j 9 n1) (ha : xa = nI a) (hb : xb = nI b) (hn : xn = nI n) (h0 : a + n ≤ n0) (h1 : b + n ≤ n1) (hs0 : n0 < 2000) (hs1 : n1 < 2000) (hR : 1 ≤ R.frames ∧ 60 ≤ R.locals) (hr8 : (rest.map fun v => v.category).sum ≤ 8) (hdg : decode cc pc = .ok (.invokestatic idx, 3)) (kk : ∀ (v1 : VV) (H1 : Heap) (locs1 : List Loc), v1 = upc v j (va_cpy (v i) (v j) a b n) → HS Z s v1 w H1 locs1 → W p l e R s m args below meth c H1 locs1 0 0 Q (F0 m (pc + 3) ls rest)) : W p l e R s m args below meth c H locs 0 0 Q (F0 m pc ls (.int xn :: .int xb :: .ref (zg Z j) :: .int xa :: .ref (zg Z i) :: rest)) := by
  subst ha; subst hb; subst hn
  have hw : nativeFrameWords "java/lang/System" "arraycopy" 5 + 11 ≤ 52 := by decide +kernel
  refine va_copyi X.1 X.2.1 (X.2.2.1.trans hls.symm) X.ow (X.ts _ hlk) (X.ts _ nv_arraycopyName) (X.ts _ st_arraycopyName) (X.ts _ in_RJ10) X.K h.1 (wdD X.tb.1) h.2 i j 0 0 (by rw [wd_at hc0.1, ce_arr hc0.2.1 hc0.2.2 (by omega) (by omega)]) (by rw [wd_at hc1.1, ce_arr hc1.2.1 hc1.2.2 (by omega) (by omega)]) rfl rfl rfl (nI_pos (by omega)) (nI_pos (by omega)) (nI_pos (by omega)) (by rw [nI_clamp (by omega), nI_clamp (by omega)]; exact h0) (by rw [nI_clamp (by omega), nI_clamp (by omega)]; exact h1) (fun _ _ => rfl) hR.1 (by have := hR.2; omega) hdg (fun H1 locs1 hP _ hS => kk _ H1 locs1 rfl ⟨?_, hS⟩)
  rw [nI_clamp (by omega), nI_clamp (by omega), nI_clamp (by omega), wd_set (v' := upc v j (va_cpy (v i) (v j) a b n)) (w' := w) (by rw [ce_arr hc1.2.1 hc1.2.2 (by omega) (by omega), upc_at]) (fun k hk => upc_ne hk) (fun _ _ => rfl)] at hP
  exact hP
theorem g_copyl (X : Cx Z p s m args meth c cc nL own ret) (h : HS Z s v w H locs) (hls : ls.size = nL) {idx : Nat} (hlk : Cond.methodLink own idx arraycopyName ∈ T0) {i j n0 n1 a b n : Nat} {xa xb xn : Int32} (hc0 : cel i 12 n0) (hc1 : cel j 12 n1) (ha : xa = nI a) (hb : xb = nI b) (hn : xn = nI n) (h0 : a + n ≤ n0) (h1 : b + n ≤ n1) (hs0 : n0 < 2000) (hs1 : n1 < 2000) (hR : 1 ≤ R.frames ∧ 60 ≤ R.locals) (hr8 : (rest.map fun v => v.category).sum ≤ 8) (hdg : decode cc pc = .ok (.invokestatic idx, 3)) (kk : ∀ (w1 : WV) (H1 : Heap) (locs1 : List Loc), w1 = upcL w j (va_cpy (w i) (w j) a b n) → HS Z s v w1 H1 locs1 → W p l e R s m args below meth c H1 locs1 0 0 Q (F0 m (pc + 3) ls rest)) : W p l e R s m args below meth c H locs 0 0 Q (F0 m pc ls (.int xn :: .int xb :: .ref (zg Z j) :: .int xa :: .ref (zg Z i) :: rest)) := by
  subst ha; subst hb; subst hn
  have hw : nativeFrameWords "java/lang/System" "arraycopy" 5 + 11 ≤ 52 := by decide +kernel
  refine va_copyl X.1 X.2.1 (X.2.2.1.trans hls.symm) X.ow (X.ts _ hlk) (X.ts _ nv_arraycopyName) (X.ts _ st_arraycopyName) (X.ts _ in_RJ10) X.K h.1 (wdD X.tb.1) h.2 i j 3 3 (by rw [wd_at hc0.1, ce_long hc0.2.1 hc0.2.2]) (by rw [wd_at hc1.1, ce_long hc1.2.1 hc1.2.2]) rfl rfl rfl (nI_pos (by omega)) (nI_pos (by omega)) (nI_pos (by omega)) (by rw [nI_clamp (by omega), nI_clamp (by omega)]; exact h0) (by rw [nI_clamp (by omega), nI_clamp (by omega)]; exact h1) (fun _ _ => rfl) hR.1 (by have := hR.2; omega) hdg (fun H1 locs1 hP _ hS => kk _ H1 locs1 rfl ⟨?_, hS⟩)
  rw [nI_clamp (by omega), nI_clamp (by omega), nI_clamp (by omega), wd_set (v' := v) (w' := upcL w j (va_cpy (w i) (w j) a b n)) (by rw [ce_long hc1.2.1 hc1.2.2, upcL_at]) (fun _ _ => rfl) (fun k hk => upcL_ne hk)] at hP
  exact hP
/-- a call on a literal -/
theorem g_runVs (X : Cx Z p s m args meth c cc nL own ret) (h : HS Z s v w H locs) {y : MethodName} {b : ByteArray} {n fr lo np idx i : Nat} {rt : Option FieldType} {As st : List Value} {Qc : Array Value → State → Outcome → State → Prop} (hM : CT l y b n rt fr lo Z (.ref (zK Z i) :: As) v w Qc) (hm : mcI y b n rt np) (hlk : Cond.methodLink own idx y ∈ T0) (hi : i < 12) (hC : y.cls = "java/lang/String") (hR : fr + 1 ≤ R.frames ∧ 8 + (n + 11) + lo ≤ R.locals) (hn : As.length = np) (hls : ls.size = nL) (hst : st = As.reverse ++ .ref (zK Z i) :: rest) (hr8 : (rest.map fun v => v.category).sum ≤ 8) (hdg : decode cc pc = .ok (.invokevirtual idx, 3)) : RunS p l e R s m args below meth c H locs (F0 m pc ls st) rest (Qc (Value.ref (zK Z i) :: As).toArray) (zA Z) := by
  obtain ⟨⟨h1, h2, h3, h4, h5⟩, h6, h7⟩ := hm
  refine va_runV (C := y.cls) (n := np) ⟨X.1, X.2.1, X.2.2.1, X.ow, X.ts⟩ hM ⟨⟨rfl, rfl, hR.1, hR.2, g_payT X.ts h1, List.mem_cons_self, X.ts _ h1, X.ts _ h2, ⟨h3, h4⟩, fun sig hs => ?_, X.ts _ hlk⟩, X.ts _ h6, X.ts _ h7⟩ ⟨IN.blind, ?_, g_pre h X.tb _⟩ rfl hn hls hst (lv_room hr8) hdg ⟨Nat.zero_le _, Nat.zero_le _⟩
  · rw [hs] at h5
    exact (Option.some.inj h5).symm
  · rw [hC]
    exact vk_recv X.sb.2.2.2.2.2.2 hi h.2
end RM
/-! numbers and truth -/
def bI (b : Bool) : Int32 := if b then 1 else 0
theorem bI_t : bI true = 1 := rfl
theorem bI_f : bI false = 0 := rfl
theorem bI_0 {b : Bool} : bI b = 0 ↔ b = false := by cases b <;> decide
theorem bI_n {b : Bool} : ¬ bI b = 0 ↔ b = true := by cases b <;> decide
theorem nar_bI (b : Bool) : narrow .boolean (.int (bI b)) = .int (bI b) := by cases b <;> rfl
theorem fit_bI (b : Bool) : fits .boolean (.int (bI b)) = true := by cases b <;> rfl
theorem i_lt {a b : Int32} : a < b ↔ a.toInt < b.toInt := Int32.lt_iff_toInt_lt
theorem i_le {a b : Int32} : a ≤ b ↔ a.toInt ≤ b.toInt := Int32.le_iff_toInt_le
theorem i_eq {a b : Int32} : a = b ↔ a.toInt = b.toInt := Int32.toInt_inj.symm
theorem i_rng (x : Int32) : -2147483648 ≤ x.toInt ∧ x.toInt < 2147483648 := ⟨Int32.le_toInt x, Int32.toInt_lt x⟩
/-- every number from 0 on is a place -/
theorem i_nat {x : Int32} (h : 0 ≤ x.toInt) : ∃ k : Nat, x = nI k ∧ (k : Int) = x.toInt ∧ k < 2 ^ 31 := by
  obtain ⟨j, hj, e⟩ := nI_of (x := x) (by rw [i_lt]; show ¬ x.toInt < 0; omega)
  exact ⟨j, e, by rw [e, nI_toInt hj], hj⟩
theorem nI_inj {a b : Nat} (ha : a < 2 ^ 31) (hb : b < 2 ^ 31) (h : nI a = nI b) : a = b := (nI_eq ha hb).mp h
def inR (x lo hi : Int32) : Bool := decide (lo ≤ x) && decide (x ≤ hi)
theorem inR_t {x lo hi : Int32} : inR x lo hi = true ↔ lo ≤ x ∧ x ≤ hi := by simp [inR]
theorem inR_f {x lo hi : Int32} : inR x lo hi = false ↔ ¬ (lo ≤ x ∧ x ≤ hi) := by rw [← inR_t]; simp
/-- is there such a person: x among n -/
def isP (n x : Int32) : Bool := decide (0 ≤ x) && decide (x < n)
theorem isP_t {n x : Int32} : isP n x = true ↔ 0 ≤ x ∧ x < n := by simp [isP]
theorem isP_f {n x : Int32} : isP n x = false ↔ ¬ (0 ≤ x ∧ x < n) := by rw [← isP_t]; simp
theorem isP_nat {n : Nat} {x : Int32} (hn : n < 2 ^ 31) (h : isP (nI n) x = true) : ∃ k : Nat, x = nI k ∧ k < n ∧ x.toNatClampNeg = k := by
  obtain ⟨h1, h2⟩ := isP_t.mp h
  rw [i_le] at h1
  rw [i_lt, nI_toInt hn] at h2
  obtain ⟨k, e, hk, -⟩ := i_nat (x := x) h1
  exact ⟨k, e, by omega, by rw [e]; exact nI_clamp (by omega)⟩
