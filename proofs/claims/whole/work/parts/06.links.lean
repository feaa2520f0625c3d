abbrev mX11_init : MB := (yX11_init, cX11_init, 2, none)
theorem mwX11_init : Cond.initialized mX11_init.1.cls ∈ wA ∧ Cond.code mX11_init.1 mX11_init.2.1 mX11_init.2.2.1 mX11_init.2.2.2 ∈ wA ∧ (mX11_init.1.cls ≠ "java/lang/invoke/MethodHandle" ∧ mX11_init.1.cls ≠ "java/lang/invoke/VarHandle" ∧ (parseMethodDescriptor mX11_init.1.desc).map (fun d => d.parameters.length) = some 0) ∧ mX11_init.2.2.1 ≤ 15 := ⟨wA_t 1 (by decide +kernel) rfl, wA_t 20 (by decide +kernel) rfl, ⟨by decide +kernel, by decide +kernel, by decide +kernel⟩, by decide⟩
abbrev mX4_init : MB := (yX4_init, cX4_init, 1, none)
theorem mwX4_init : Cond.initialized mX4_init.1.cls ∈ wA ∧ Cond.code mX4_init.1 mX4_init.2.1 mX4_init.2.2.1 mX4_init.2.2.2 ∈ wA ∧ (mX4_init.1.cls ≠ "java/lang/invoke/MethodHandle" ∧ mX4_init.1.cls ≠ "java/lang/invoke/VarHandle" ∧ (parseMethodDescriptor mX4_init.1.desc).map (fun d => d.parameters.length) = some 0) ∧ mX4_init.2.2.1 ≤ 15 := ⟨wA_t 2 (by decide +kernel) rfl, wA_t 30 (by decide +kernel) rfl, ⟨by decide +kernel, by decide +kernel, by decide +kernel⟩, by decide⟩
abbrev mX2_init : MB := (yX2_init, cX2_init, 1, none)
theorem mwX2_init : Cond.initialized mX2_init.1.cls ∈ wA ∧ Cond.code mX2_init.1 mX2_init.2.1 mX2_init.2.2.1 mX2_init.2.2.2 ∈ wA ∧ (mX2_init.1.cls ≠ "java/lang/invoke/MethodHandle" ∧ mX2_init.1.cls ≠ "java/lang/invoke/VarHandle" ∧ (parseMethodDescriptor mX2_init.1.desc).map (fun d => d.parameters.length) = some 0) ∧ mX2_init.2.2.1 ≤ 15 := ⟨wA_t 3 (by decide +kernel) rfl, wA_t 52 (by decide +kernel) rfl, ⟨by decide +kernel, by decide +kernel, by decide +kernel⟩, by decide⟩
abbrev mX1_init : MB := (yX1_init, cX1_init, 1, none)
theorem mwX1_init : Cond.initialized mX1_init.1.cls ∈ wA ∧ Cond.code mX1_init.1 mX1_init.2.1 mX1_init.2.2.1 mX1_init.2.2.2 ∈ wA ∧ (mX1_init.1.cls ≠ "java/lang/invoke/MethodHandle" ∧ mX1_init.1.cls ≠ "java/lang/invoke/VarHandle" ∧ (parseMethodDescriptor mX1_init.1.desc).map (fun d => d.parameters.length) = some 0) ∧ mX1_init.2.2.1 ≤ 15 := ⟨wA_t 4 (by decide +kernel) rfl, wA_t 87 (by decide +kernel) rfl, ⟨by decide +kernel, by decide +kernel, by decide +kernel⟩, by decide⟩
abbrev mX5_init : MB := (yX5_init, cX5_init, 1, none)
theorem mwX5_init : Cond.initialized mX5_init.1.cls ∈ wA ∧ Cond.code mX5_init.1 mX5_init.2.1 mX5_init.2.2.1 mX5_init.2.2.2 ∈ wA ∧ (mX5_init.1.cls ≠ "java/lang/invoke/MethodHandle" ∧ mX5_init.1.cls ≠ "java/lang/invoke/VarHandle" ∧ (parseMethodDescriptor mX5_init.1.desc).map (fun d => d.parameters.length) = some 0) ∧ mX5_init.2.2.1 ≤ 15 := ⟨wA_t 5 (by decide +kernel) rfl, wA_t 93 (by decide +kernel) rfl, ⟨by decide +kernel, by decide +kernel, by decide +kernel⟩, by decide⟩
abbrev mX3_init : MB := (yX3_init, cX3_init, 1, none)
theorem mwX3_init : Cond.initialized mX3_init.1.cls ∈ wA ∧ Cond.code mX3_init.1 mX3_init.2.1 mX3_init.2.2.1 mX3_init.2.2.2 ∈ wA ∧ (mX3_init.1.cls ≠ "java/lang/invoke/MethodHandle" ∧ mX3_init.1.cls ≠ "java/lang/invoke/VarHandle" ∧ (parseMethodDescriptor mX3_init.1.desc).map (fun d => d.parameters.length) = some 0) ∧ mX3_init.2.2.1 ≤ 15 := ⟨wA_t 6 (by decide +kernel) rfl, wA_t 114 (by decide +kernel) rfl, ⟨by decide +kernel, by decide +kernel, by decide +kernel⟩, by decide⟩
abbrev mX7_init : MB := (yX7_init, cX7_init, 1, none)
theorem mwX7_init : Cond.initialized mX7_init.1.cls ∈ wA ∧ Cond.code mX7_init.1 mX7_init.2.1 mX7_init.2.2.1 mX7_init.2.2.2 ∈ wA ∧ (mX7_init.1.cls ≠ "java/lang/invoke/MethodHandle" ∧ mX7_init.1.cls ≠ "java/lang/invoke/VarHandle" ∧ (parseMethodDescriptor mX7_init.1.desc).map (fun d => d.parameters.length) = some 0) ∧ mX7_init.2.2.1 ≤ 15 := ⟨wA_t 7 (by decide +kernel) rfl, wA_t 135 (by decide +kernel) rfl, ⟨by decide +kernel, by decide +kernel, by decide +kernel⟩, by decide⟩
abbrev mX8_init : MB := (yX8_init, cX8_init, 1, none)
theorem mwX8_init : Cond.initialized mX8_init.1.cls ∈ wA ∧ Cond.code mX8_init.1 mX8_init.2.1 mX8_init.2.2.1 mX8_init.2.2.2 ∈ wA ∧ (mX8_init.1.cls ≠ "java/lang/invoke/MethodHandle" ∧ mX8_init.1.cls ≠ "java/lang/invoke/VarHandle" ∧ (parseMethodDescriptor mX8_init.1.desc).map (fun d => d.parameters.length) = some 0) ∧ mX8_init.2.2.1 ≤ 15 := ⟨wA_t 8 (by decide +kernel) rfl, wA_t 149 (by decide +kernel) rfl, ⟨by decide +kernel, by decide +kernel, by decide +kernel⟩, by decide⟩
abbrev mX0_init : MB := (yX0_init, cX0_init, 1, none)
theorem mwX0_init : Cond.initialized mX0_init.1.cls ∈ wA ∧ Cond.code mX0_init.1 mX0_init.2.1 mX0_init.2.2.1 mX0_init.2.2.2 ∈ wA ∧ (mX0_init.1.cls ≠ "java/lang/invoke/MethodHandle" ∧ mX0_init.1.cls ≠ "java/lang/invoke/VarHandle" ∧ (parseMethodDescriptor mX0_init.1.desc).map (fun d => d.parameters.length) = some 0) ∧ mX0_init.2.2.1 ≤ 15 := ⟨wA_t 9 (by decide +kernel) rfl, wA_t 176 (by decide +kernel) rfl, ⟨by decide +kernel, by decide +kernel, by decide +kernel⟩, by decide⟩
abbrev mX6_init : MB := (yX6_init, cX6_init, 1, none)
theorem mwX6_init : Cond.initialized mX6_init.1.cls ∈ wA ∧ Cond.code mX6_init.1 mX6_init.2.1 mX6_init.2.2.1 mX6_init.2.2.2 ∈ wA ∧ (mX6_init.1.cls ≠ "java/lang/invoke/MethodHandle" ∧ mX6_init.1.cls ≠ "java/lang/invoke/VarHandle" ∧ (parseMethodDescriptor mX6_init.1.desc).map (fun d => d.parameters.length) = some 0) ∧ mX6_init.2.2.1 ≤ 15 := ⟨wA_t 10 (by decide +kernel) rfl, wA_t 199 (by decide +kernel) rfl, ⟨by decide +kernel, by decide +kernel, by decide +kernel⟩, by decide⟩
abbrev mX9_init : MB := (yX9_init, cX9_init, 1, none)
theorem mwX9_init : Cond.initialized mX9_init.1.cls ∈ wA ∧ Cond.code mX9_init.1 mX9_init.2.1 mX9_init.2.2.1 mX9_init.2.2.2 ∈ wA ∧ (mX9_init.1.cls ≠ "java/lang/invoke/MethodHandle" ∧ mX9_init.1.cls ≠ "java/lang/invoke/VarHandle" ∧ (parseMethodDescriptor mX9_init.1.desc).map (fun d => d.parameters.length) = some 0) ∧ mX9_init.2.2.1 ≤ 15 := ⟨wA_t 11 (by decide +kernel) rfl, wA_t 216 (by decide +kernel) rfl, ⟨by decide +kernel, by decide +kernel, by decide +kernel⟩, by decide⟩
abbrev mX10_init : MB := (yX10_init, cX10_init, 1, none)
theorem mwX10_init : Cond.initialized mX10_init.1.cls ∈ wA ∧ Cond.code mX10_init.1 mX10_init.2.1 mX10_init.2.2.1 mX10_init.2.2.2 ∈ wA ∧ (mX10_init.1.cls ≠ "java/lang/invoke/MethodHandle" ∧ mX10_init.1.cls ≠ "java/lang/invoke/VarHandle" ∧ (parseMethodDescriptor mX10_init.1.desc).map (fun d => d.parameters.length) = some 0) ∧ mX10_init.2.2.1 ≤ 15 := ⟨wA_t 12 (by decide +kernel) rfl, wA_t 242 (by decide +kernel) rfl, ⟨by decide +kernel, by decide +kernel, by decide +kernel⟩, by decide⟩
abbrev mX11_sheet : MB := (yX11_sheet, cX11_sheet, 4, some .int)
theorem mwX11_sheet : Cond.initialized mX11_sheet.1.cls ∈ wA ∧ Cond.code mX11_sheet.1 mX11_sheet.2.1 mX11_sheet.2.2.1 mX11_sheet.2.2.2 ∈ wA ∧ (mX11_sheet.1.cls ≠ "java/lang/invoke/MethodHandle" ∧ mX11_sheet.1.cls ≠ "java/lang/invoke/VarHandle" ∧ (parseMethodDescriptor mX11_sheet.1.desc).map (fun d => d.parameters.length) = some 3) ∧ mX11_sheet.2.2.1 ≤ 15 := ⟨wA_t 1 (by decide +kernel) rfl, wA_t 304 (by decide +kernel) rfl, ⟨by decide +kernel, by decide +kernel, by decide +kernel⟩, by decide⟩
abbrev mX11_isSheet : MB := (yX11_isSheet, cX11_isSheet, 1, some .boolean)
theorem mwX11_isSheet : Cond.initialized mX11_isSheet.1.cls ∈ wA ∧ Cond.code mX11_isSheet.1 mX11_isSheet.2.1 mX11_isSheet.2.2.1 mX11_isSheet.2.2.2 ∈ wA ∧ (mX11_isSheet.1.cls ≠ "java/lang/invoke/MethodHandle" ∧ mX11_isSheet.1.cls ≠ "java/lang/invoke/VarHandle" ∧ (parseMethodDescriptor mX11_isSheet.1.desc).map (fun d => d.parameters.length) = some 1) ∧ mX11_isSheet.2.2.1 ≤ 15 := ⟨wA_t 1 (by decide +kernel) rfl, wA_t 307 (by decide +kernel) rfl, ⟨by decide +kernel, by decide +kernel, by decide +kernel⟩, by decide⟩
abbrev mX11_within : MB := (yX11_within, cX11_within, 3, some .boolean)
theorem mwX11_within : Cond.initialized mX11_within.1.cls ∈ wA ∧ Cond.code mX11_within.1 mX11_within.2.1 mX11_within.2.2.1 mX11_within.2.2.2 ∈ wA ∧ (mX11_within.1.cls ≠ "java/lang/invoke/MethodHandle" ∧ mX11_within.1.cls ≠ "java/lang/invoke/VarHandle" ∧ (parseMethodDescriptor mX11_within.1.desc).map (fun d => d.parameters.length) = some 3) ∧ mX11_within.2.2.1 ≤ 15 := ⟨wA_t 1 (by decide +kernel) rfl, wA_t 310 (by decide +kernel) rfl, ⟨by decide +kernel, by decide +kernel, by decide +kernel⟩, by decide⟩
abbrev mX11_found : MB := (yX11_found, cX11_found, 2, some .int)
theorem mwX11_found : Cond.initialized mX11_found.1.cls ∈ wA ∧ Cond.code mX11_found.1 mX11_found.2.1 mX11_found.2.2.1 mX11_found.2.2.2 ∈ wA ∧ (mX11_found.1.cls ≠ "java/lang/invoke/MethodHandle" ∧ mX11_found.1.cls ≠ "java/lang/invoke/VarHandle" ∧ (parseMethodDescriptor mX11_found.1.desc).map (fun d => d.parameters.length) = some 1) ∧ mX11_found.2.2.1 ≤ 15 := ⟨wA_t 1 (by decide +kernel) rfl, wA_t 315 (by decide +kernel) rfl, ⟨by decide +kernel, by decide +kernel, by decide +kernel⟩, by decide⟩
abbrev mX6_lay : MB := (yX6_lay, cX6_lay, 4, none)
theorem mwX6_lay : Cond.initialized mX6_lay.1.cls ∈ wA ∧ Cond.code mX6_lay.1 mX6_lay.2.1 mX6_lay.2.2.1 mX6_lay.2.2.2 ∈ wA ∧ (mX6_lay.1.cls ≠ "java/lang/invoke/MethodHandle" ∧ mX6_lay.1.cls ≠ "java/lang/invoke/VarHandle" ∧ (parseMethodDescriptor mX6_lay.1.desc).map (fun d => d.parameters.length) = some 2) ∧ mX6_lay.2.2.1 ≤ 15 := ⟨wA_t 10 (by decide +kernel) rfl, wA_t 320 (by decide +kernel) rfl, ⟨by decide +kernel, by decide +kernel, by decide +kernel⟩, by decide⟩
abbrev mX11_clean : MB := (yX11_clean, cX11_clean, 2, some .int)
theorem mwX11_clean : Cond.initialized mX11_clean.1.cls ∈ wA ∧ Cond.code mX11_clean.1 mX11_clean.2.1 mX11_clean.2.2.1 mX11_clean.2.2.2 ∈ wA ∧ (mX11_clean.1.cls ≠ "java/lang/invoke/MethodHandle" ∧ mX11_clean.1.cls ≠ "java/lang/invoke/VarHandle" ∧ (parseMethodDescriptor mX11_clean.1.desc).map (fun d => d.parameters.length) = some 1) ∧ mX11_clean.2.2.1 ≤ 15 := ⟨wA_t 1 (by decide +kernel) rfl, wA_t 324 (by decide +kernel) rfl, ⟨by decide +kernel, by decide +kernel, by decide +kernel⟩, by decide⟩
abbrev mX11_set : MB := (yX11_set, cX11_set, 5, some .int)
theorem mwX11_set : Cond.initialized mX11_set.1.cls ∈ wA ∧ Cond.code mX11_set.1 mX11_set.2.1 mX11_set.2.2.1 mX11_set.2.2.2 ∈ wA ∧ (mX11_set.1.cls ≠ "java/lang/invoke/MethodHandle" ∧ mX11_set.1.cls ≠ "java/lang/invoke/VarHandle" ∧ (parseMethodDescriptor mX11_set.1.desc).map (fun d => d.parameters.length) = some 3) ∧ mX11_set.2.2.1 ≤ 15 := ⟨wA_t 1 (by decide +kernel) rfl, wA_t 328 (by decide +kernel) rfl, ⟨by decide +kernel, by decide +kernel, by decide +kernel⟩, by decide⟩
abbrev mX6_isMissing : MB := (yX6_isMissing, cX6_isMissing, 1, some .boolean)
theorem mwX6_isMissing : Cond.initialized mX6_isMissing.1.cls ∈ wA ∧ Cond.code mX6_isMissing.1 mX6_isMissing.2.1 mX6_isMissing.2.2.1 mX6_isMissing.2.2.2 ∈ wA ∧ (mX6_isMissing.1.cls ≠ "java/lang/invoke/MethodHandle" ∧ mX6_isMissing.1.cls ≠ "java/lang/invoke/VarHandle" ∧ (parseMethodDescriptor mX6_isMissing.1.desc).map (fun d => d.parameters.length) = some 0) ∧ mX6_isMissing.2.2.1 ≤ 15 := ⟨wA_t 10 (by decide +kernel) rfl, wA_t 332 (by decide +kernel) rfl, ⟨by decide +kernel, by decide +kernel, by decide +kernel⟩, by decide⟩
abbrev mX6_holds : MB := (yX6_holds, cX6_holds, 3, some .boolean)
theorem mwX6_holds : Cond.initialized mX6_holds.1.cls ∈ wA ∧ Cond.code mX6_holds.1 mX6_holds.2.1 mX6_holds.2.2.1 mX6_holds.2.2.2 ∈ wA ∧ (mX6_holds.1.cls ≠ "java/lang/invoke/MethodHandle" ∧ mX6_holds.1.cls ≠ "java/lang/invoke/VarHandle" ∧ (parseMethodDescriptor mX6_holds.1.desc).map (fun d => d.parameters.length) = some 2) ∧ mX6_holds.2.2.1 ≤ 15 := ⟨wA_t 10 (by decide +kernel) rfl, wA_t 336 (by decide +kernel) rfl, ⟨by decide +kernel, by decide +kernel, by decide +kernel⟩, by decide⟩
abbrev mX6_write : MB := (yX6_write, cX6_write, 3, some .int)
theorem mwX6_write : Cond.initialized mX6_write.1.cls ∈ wA ∧ Cond.code mX6_write.1 mX6_write.2.1 mX6_write.2.2.1 mX6_write.2.2.2 ∈ wA ∧ (mX6_write.1.cls ≠ "java/lang/invoke/MethodHandle" ∧ mX6_write.1.cls ≠ "java/lang/invoke/VarHandle" ∧ (parseMethodDescriptor mX6_write.1.desc).map (fun d => d.parameters.length) = some 2) ∧ mX6_write.2.2.1 ≤ 15 := ⟨wA_t 10 (by decide +kernel) rfl, wA_t 340 (by decide +kernel) rfl, ⟨by decide +kernel, by decide +kernel, by decide +kernel⟩, by decide⟩
abbrev mX11_copy : MB := (yX11_copy, cX11_copy, 8, some .int)
theorem mwX11_copy : Cond.initialized mX11_copy.1.cls ∈ wA ∧ Cond.code mX11_copy.1 mX11_copy.2.1 mX11_copy.2.2.1 mX11_copy.2.2.2 ∈ wA ∧ (mX11_copy.1.cls ≠ "java/lang/invoke/MethodHandle" ∧ mX11_copy.1.cls ≠ "java/lang/invoke/VarHandle" ∧ (parseMethodDescriptor mX11_copy.1.desc).map (fun d => d.parameters.length) = some 5) ∧ mX11_copy.2.2.1 ≤ 15 := ⟨wA_t 1 (by decide +kernel) rfl, wA_t 344 (by decide +kernel) rfl, ⟨by decide +kernel, by decide +kernel, by decide +kernel⟩, by decide⟩
abbrev mX11_drop : MB := (yX11_drop, cX11_drop, 2, some .int)
theorem mwX11_drop : Cond.initialized mX11_drop.1.cls ∈ wA ∧ Cond.code mX11_drop.1 mX11_drop.2.1 mX11_drop.2.2.1 mX11_drop.2.2.2 ∈ wA ∧ (mX11_drop.1.cls ≠ "java/lang/invoke/MethodHandle" ∧ mX11_drop.1.cls ≠ "java/lang/invoke/VarHandle" ∧ (parseMethodDescriptor mX11_drop.1.desc).map (fun d => d.parameters.length) = some 1) ∧ mX11_drop.2.2.1 ≤ 15 := ⟨wA_t 1 (by decide +kernel) rfl, wA_t 351 (by decide +kernel) rfl, ⟨by decide +kernel, by decide +kernel, by decide +kernel⟩, by decide⟩
abbrev mX6_lose : MB := (yX6_lose, cX6_lose, 2, some .int)
theorem mwX6_lose : Cond.initialized mX6_lose.1.cls ∈ wA ∧ Cond.code mX6_lose.1 mX6_lose.2.1 mX6_lose.2.2.1 mX6_lose.2.2.2 ∈ wA ∧ (mX6_lose.1.cls ≠ "java/lang/invoke/MethodHandle" ∧ mX6_lose.1.cls ≠ "java/lang/invoke/VarHandle" ∧ (parseMethodDescriptor mX6_lose.1.desc).map (fun d => d.parameters.length) = some 0) ∧ mX6_lose.2.2.1 ≤ 15 := ⟨wA_t 10 (by decide +kernel) rfl, wA_t 355 (by decide +kernel) rfl, ⟨by decide +kernel, by decide +kernel, by decide +kernel⟩, by decide⟩
abbrev mX11_room : MB := (yX11_room, cX11_room, 4, some .int)
theorem mwX11_room : Cond.initialized mX11_room.1.cls ∈ wA ∧ Cond.code mX11_room.1 mX11_room.2.1 mX11_room.2.2.1 mX11_room.2.2.2 ∈ wA ∧ (mX11_room.1.cls ≠ "java/lang/invoke/MethodHandle" ∧ mX11_room.1.cls ≠ "java/lang/invoke/VarHandle" ∧ (parseMethodDescriptor mX11_room.1.desc).map (fun d => d.parameters.length) = some 2) ∧ mX11_room.2.2.1 ≤ 15 := ⟨wA_t 1 (by decide +kernel) rfl, wA_t 359 (by decide +kernel) rfl, ⟨by decide +kernel, by decide +kernel, by decide +kernel⟩, by decide⟩
abbrev mX11_bend : MB := (yX11_bend, cX11_bend, 4, some .int)
theorem mwX11_bend : Cond.initialized mX11_bend.1.cls ∈ wA ∧ Cond.code mX11_bend.1 mX11_bend.2.1 mX11_bend.2.2.1 mX11_bend.2.2.2 ∈ wA ∧ (mX11_bend.1.cls ≠ "java/lang/invoke/MethodHandle" ∧ mX11_bend.1.cls ≠ "java/lang/invoke/VarHandle" ∧ (parseMethodDescriptor mX11_bend.1.desc).map (fun d => d.parameters.length) = some 2) ∧ mX11_bend.2.2.1 ≤ 15 := ⟨wA_t 1 (by decide +kernel) rfl, wA_t 367 (by decide +kernel) rfl, ⟨by decide +kernel, by decide +kernel, by decide +kernel⟩, by decide⟩
abbrev mX11_told : MB := (yX11_told, cX11_told, 2, some .int)
theorem mwX11_told : Cond.initialized mX11_told.1.cls ∈ wA ∧ Cond.code mX11_told.1 mX11_told.2.1 mX11_told.2.2.1 mX11_told.2.2.2 ∈ wA ∧ (mX11_told.1.cls ≠ "java/lang/invoke/MethodHandle" ∧ mX11_told.1.cls ≠ "java/lang/invoke/VarHandle" ∧ (parseMethodDescriptor mX11_told.1.desc).map (fun d => d.parameters.length) = some 1) ∧ mX11_told.2.2.1 ≤ 15 := ⟨wA_t 1 (by decide +kernel) rfl, wA_t 371 (by decide +kernel) rfl, ⟨by decide +kernel, by decide +kernel, by decide +kernel⟩, by decide⟩
abbrev mX11_thing : MB := (yX11_thing, cX11_thing, 4, some .int)
theorem mwX11_thing : Cond.initialized mX11_thing.1.cls ∈ wA ∧ Cond.code mX11_thing.1 mX11_thing.2.1 mX11_thing.2.2.1 mX11_thing.2.2.2 ∈ wA ∧ (mX11_thing.1.cls ≠ "java/lang/invoke/MethodHandle" ∧ mX11_thing.1.cls ≠ "java/lang/invoke/VarHandle" ∧ (parseMethodDescriptor mX11_thing.1.desc).map (fun d => d.parameters.length) = some 3) ∧ mX11_thing.2.2.1 ≤ 15 := ⟨wA_t 1 (by decide +kernel) rfl, wA_t 375 (by decide +kernel) rfl, ⟨by decide +kernel, by decide +kernel, by decide +kernel⟩, by decide⟩
abbrev mX11_isPlace : MB := (yX11_isPlace, cX11_isPlace, 3, some .boolean)
theorem mwX11_isPlace : Cond.initialized mX11_isPlace.1.cls ∈ wA ∧ Cond.code mX11_isPlace.1 mX11_isPlace.2.1 mX11_isPlace.2.2.1 mX11_isPlace.2.2.2 ∈ wA ∧ (mX11_isPlace.1.cls ≠ "java/lang/invoke/MethodHandle" ∧ mX11_isPlace.1.cls ≠ "java/lang/invoke/VarHandle" ∧ (parseMethodDescriptor mX11_isPlace.1.desc).map (fun d => d.parameters.length) = some 3) ∧ mX11_isPlace.2.2.1 ≤ 15 := ⟨wA_t 1 (by decide +kernel) rfl, wA_t 378 (by decide +kernel) rfl, ⟨by decide +kernel, by decide +kernel, by decide +kernel⟩, by decide⟩
abbrev mX11_isFlatPlace : MB := (yX11_isFlatPlace, cX11_isFlatPlace, 1, some .boolean)
theorem mwX11_isFlatPlace : Cond.initialized mX11_isFlatPlace.1.cls ∈ wA ∧ Cond.code mX11_isFlatPlace.1 mX11_isFlatPlace.2.1 mX11_isFlatPlace.2.2.1 mX11_isFlatPlace.2.2.2 ∈ wA ∧ (mX11_isFlatPlace.1.cls ≠ "java/lang/invoke/MethodHandle" ∧ mX11_isFlatPlace.1.cls ≠ "java/lang/invoke/VarHandle" ∧ (parseMethodDescriptor mX11_isFlatPlace.1.desc).map (fun d => d.parameters.length) = some 1) ∧ mX11_isFlatPlace.2.2.1 ≤ 15 := ⟨wA_t 1 (by decide +kernel) rfl, wA_t 381 (by decide +kernel) rfl, ⟨by decide +kernel, by decide +kernel, by decide +kernel⟩, by decide⟩
abbrev mX9_put : MB := (yX9_put, cX9_put, 4, none)
theorem mwX9_put : Cond.initialized mX9_put.1.cls ∈ wA ∧ Cond.code mX9_put.1 mX9_put.2.1 mX9_put.2.2.1 mX9_put.2.2.2 ∈ wA ∧ (mX9_put.1.cls ≠ "java/lang/invoke/MethodHandle" ∧ mX9_put.1.cls ≠ "java/lang/invoke/VarHandle" ∧ (parseMethodDescriptor mX9_put.1.desc).map (fun d => d.parameters.length) = some 3) ∧ mX9_put.2.2.1 ≤ 15 := ⟨wA_t 11 (by decide +kernel) rfl, wA_t 386 (by decide +kernel) rfl, ⟨by decide +kernel, by decide +kernel, by decide +kernel⟩, by decide⟩
abbrev mX11_move : MB := (yX11_move, cX11_move, 5, some .int)
theorem mwX11_move : Cond.initialized mX11_move.1.cls ∈ wA ∧ Cond.code mX11_move.1 mX11_move.2.1 mX11_move.2.2.1 mX11_move.2.2.2 ∈ wA ∧ (mX11_move.1.cls ≠ "java/lang/invoke/MethodHandle" ∧ mX11_move.1.cls ≠ "java/lang/invoke/VarHandle" ∧ (parseMethodDescriptor mX11_move.1.desc).map (fun d => d.parameters.length) = some 4) ∧ mX11_move.2.2.1 ≤ 15 := ⟨wA_t 1 (by decide +kernel) rfl, wA_t 390 (by decide +kernel) rfl, ⟨by decide +kernel, by decide +kernel, by decide +kernel⟩, by decide⟩
abbrev mX11_isThing : MB := (yX11_isThing, cX11_isThing, 2, some .boolean)
theorem mwX11_isThing : Cond.initialized mX11_isThing.1.cls ∈ wA ∧ Cond.code mX11_isThing.1 mX11_isThing.2.1 mX11_isThing.2.2.1 mX11_isThing.2.2.2 ∈ wA ∧ (mX11_isThing.1.cls ≠ "java/lang/invoke/MethodHandle" ∧ mX11_isThing.1.cls ≠ "java/lang/invoke/VarHandle" ∧ (parseMethodDescriptor mX11_isThing.1.desc).map (fun d => d.parameters.length) = some 1) ∧ mX11_isThing.2.2.1 ≤ 15 := ⟨wA_t 1 (by decide +kernel) rfl, wA_t 394 (by decide +kernel) rfl, ⟨by decide +kernel, by decide +kernel, by decide +kernel⟩, by decide⟩
abbrev mX11_picture : MB := (yX11_picture, cX11_picture, 4, some .int)
theorem mwX11_picture : Cond.initialized mX11_picture.1.cls ∈ wA ∧ Cond.code mX11_picture.1 mX11_picture.2.1 mX11_picture.2.2.1 mX11_picture.2.2.2 ∈ wA ∧ (mX11_picture.1.cls ≠ "java/lang/invoke/MethodHandle" ∧ mX11_picture.1.cls ≠ "java/lang/invoke/VarHandle" ∧ (parseMethodDescriptor mX11_picture.1.desc).map (fun d => d.parameters.length) = some 2) ∧ mX11_picture.2.2.1 ≤ 15 := ⟨wA_t 1 (by decide +kernel) rfl, wA_t 398 (by decide +kernel) rfl, ⟨by decide +kernel, by decide +kernel, by decide +kernel⟩, by decide⟩
abbrev mX2_take : MB := (yX2_take, cX2_take, 4, none)
theorem mwX2_take : Cond.initialized mX2_take.1.cls ∈ wA ∧ Cond.code mX2_take.1 mX2_take.2.1 mX2_take.2.2.1 mX2_take.2.2.2 ∈ wA ∧ (mX2_take.1.cls ≠ "java/lang/invoke/MethodHandle" ∧ mX2_take.1.cls ≠ "java/lang/invoke/VarHandle" ∧ (parseMethodDescriptor mX2_take.1.desc).map (fun d => d.parameters.length) = some 2) ∧ mX2_take.2.2.1 ≤ 15 := ⟨wA_t 3 (by decide +kernel) rfl, wA_t 402 (by decide +kernel) rfl, ⟨by decide +kernel, by decide +kernel, by decide +kernel⟩, by decide⟩
abbrev mX4_firstAt : MB := (yX4_firstAt, cX4_firstAt, 2, some .int)
theorem mwX4_firstAt : Cond.initialized mX4_firstAt.1.cls ∈ wA ∧ Cond.code mX4_firstAt.1 mX4_firstAt.2.1 mX4_firstAt.2.2.1 mX4_firstAt.2.2.2 ∈ wA ∧ (mX4_firstAt.1.cls ≠ "java/lang/invoke/MethodHandle" ∧ mX4_firstAt.1.cls ≠ "java/lang/invoke/VarHandle" ∧ (parseMethodDescriptor mX4_firstAt.1.desc).map (fun d => d.parameters.length) = some 2) ∧ mX4_firstAt.2.2.1 ≤ 15 := ⟨wA_t 2 (by decide +kernel) rfl, wA_t 405 (by decide +kernel) rfl, ⟨by decide +kernel, by decide +kernel, by decide +kernel⟩, by decide⟩
abbrev mX11_by : MB := (yX11_by, cX11_by, 2, some .int)
theorem mwX11_by : Cond.initialized mX11_by.1.cls ∈ wA ∧ Cond.code mX11_by.1 mX11_by.2.1 mX11_by.2.2.1 mX11_by.2.2.2 ∈ wA ∧ (mX11_by.1.cls ≠ "java/lang/invoke/MethodHandle" ∧ mX11_by.1.cls ≠ "java/lang/invoke/VarHandle" ∧ (parseMethodDescriptor mX11_by.1.desc).map (fun d => d.parameters.length) = some 2) ∧ mX11_by.2.2.1 ≤ 15 := ⟨wA_t 1 (by decide +kernel) rfl, wA_t 408 (by decide +kernel) rfl, ⟨by decide +kernel, by decide +kernel, by decide +kernel⟩, by decide⟩
abbrev mX4_columnOf : MB := (yX4_columnOf, cX4_columnOf, 2, some .int)
theorem mwX4_columnOf : Cond.initialized mX4_columnOf.1.cls ∈ wA ∧ Cond.code mX4_columnOf.1 mX4_columnOf.2.1 mX4_columnOf.2.2.1 mX4_columnOf.2.2.2 ∈ wA ∧ (mX4_columnOf.1.cls ≠ "java/lang/invoke/MethodHandle" ∧ mX4_columnOf.1.cls ≠ "java/lang/invoke/VarHandle" ∧ (parseMethodDescriptor mX4_columnOf.1.desc).map (fun d => d.parameters.length) = some 1) ∧ mX4_columnOf.2.2.1 ≤ 15 := ⟨wA_t 2 (by decide +kernel) rfl, wA_t 411 (by decide +kernel) rfl, ⟨by decide +kernel, by decide +kernel, by decide +kernel⟩, by decide⟩
abbrev mJ9_floorDiv_7cf53 : MB := (yJ9_floorDiv_7cf53, cJ9_floorDiv_7cf53, 3, some .int)
theorem mwJ9_floorDiv_7cf53 : Cond.initialized mJ9_floorDiv_7cf53.1.cls ∈ wA ∧ Cond.code mJ9_floorDiv_7cf53.1 mJ9_floorDiv_7cf53.2.1 mJ9_floorDiv_7cf53.2.2.1 mJ9_floorDiv_7cf53.2.2.2 ∈ wA ∧ (mJ9_floorDiv_7cf53.1.cls ≠ "java/lang/invoke/MethodHandle" ∧ mJ9_floorDiv_7cf53.1.cls ≠ "java/lang/invoke/VarHandle" ∧ (parseMethodDescriptor mJ9_floorDiv_7cf53.1.desc).map (fun d => d.parameters.length) = some 2) ∧ mJ9_floorDiv_7cf53.2.2.1 ≤ 15 := ⟨wA_t 15 (by decide +kernel) rfl, wA_t 414 (by decide +kernel) rfl, ⟨by decide +kernel, by decide +kernel, by decide +kernel⟩, by decide⟩
abbrev mJ9_min_7cf53 : MB := (yJ9_min_7cf53, cJ9_min_7cf53, 2, some .int)
theorem mwJ9_min_7cf53 : Cond.initialized mJ9_min_7cf53.1.cls ∈ wA ∧ Cond.code mJ9_min_7cf53.1 mJ9_min_7cf53.2.1 mJ9_min_7cf53.2.2.1 mJ9_min_7cf53.2.2.2 ∈ wA ∧ (mJ9_min_7cf53.1.cls ≠ "java/lang/invoke/MethodHandle" ∧ mJ9_min_7cf53.1.cls ≠ "java/lang/invoke/VarHandle" ∧ (parseMethodDescriptor mJ9_min_7cf53.1.desc).map (fun d => d.parameters.length) = some 2) ∧ mJ9_min_7cf53.2.2.1 ≤ 15 := ⟨wA_t 15 (by decide +kernel) rfl, wA_t 417 (by decide +kernel) rfl, ⟨by decide +kernel, by decide +kernel, by decide +kernel⟩, by decide⟩
abbrev mJ9_max_7cf53 : MB := (yJ9_max_7cf53, cJ9_max_7cf53, 2, some .int)
theorem mwJ9_max_7cf53 : Cond.initialized mJ9_max_7cf53.1.cls ∈ wA ∧ Cond.code mJ9_max_7cf53.1 mJ9_max_7cf53.2.1 mJ9_max_7cf53.2.2.1 mJ9_max_7cf53.2.2.2 ∈ wA ∧ (mJ9_max_7cf53.1.cls ≠ "java/lang/invoke/MethodHandle" ∧ mJ9_max_7cf53.1.cls ≠ "java/lang/invoke/VarHandle" ∧ (parseMethodDescriptor mJ9_max_7cf53.1.desc).map (fun d => d.parameters.length) = some 2) ∧ mJ9_max_7cf53.2.2.1 ≤ 15 := ⟨wA_t 15 (by decide +kernel) rfl, wA_t 420 (by decide +kernel) rfl, ⟨by decide +kernel, by decide +kernel, by decide +kernel⟩, by decide⟩
abbrev mX4_reach : MB := (yX4_reach, cX4_reach, 3, some .int)
theorem mwX4_reach : Cond.initialized mX4_reach.1.cls ∈ wA ∧ Cond.code mX4_reach.1 mX4_reach.2.1 mX4_reach.2.2.1 mX4_reach.2.2.2 ∈ wA ∧ (mX4_reach.1.cls ≠ "java/lang/invoke/MethodHandle" ∧ mX4_reach.1.cls ≠ "java/lang/invoke/VarHandle" ∧ (parseMethodDescriptor mX4_reach.1.desc).map (fun d => d.parameters.length) = some 2) ∧ mX4_reach.2.2.1 ≤ 15 := ⟨wA_t 2 (by decide +kernel) rfl, wA_t 424 (by decide +kernel) rfl, ⟨by decide +kernel, by decide +kernel, by decide +kernel⟩, by decide⟩
abbrev mX4_blurBy : MB := (yX4_blurBy, cX4_blurBy, 4, some .int)
theorem mwX4_blurBy : Cond.initialized mX4_blurBy.1.cls ∈ wA ∧ Cond.code mX4_blurBy.1 mX4_blurBy.2.1 mX4_blurBy.2.2.1 mX4_blurBy.2.2.2 ∈ wA ∧ (mX4_blurBy.1.cls ≠ "java/lang/invoke/MethodHandle" ∧ mX4_blurBy.1.cls ≠ "java/lang/invoke/VarHandle" ∧ (parseMethodDescriptor mX4_blurBy.1.desc).map (fun d => d.parameters.length) = some 2) ∧ mX4_blurBy.2.2.1 ≤ 15 := ⟨wA_t 2 (by decide +kernel) rfl, wA_t 429 (by decide +kernel) rfl, ⟨by decide +kernel, by decide +kernel, by decide +kernel⟩, by decide⟩
abbrev mJ9_abs_0f7a4 : MB := (yJ9_abs_0f7a4, cJ9_abs_0f7a4, 1, some .int)
theorem mwJ9_abs_0f7a4 : Cond.initialized mJ9_abs_0f7a4.1.cls ∈ wA ∧ Cond.code mJ9_abs_0f7a4.1 mJ9_abs_0f7a4.2.1 mJ9_abs_0f7a4.2.2.1 mJ9_abs_0f7a4.2.2.2 ∈ wA ∧ (mJ9_abs_0f7a4.1.cls ≠ "java/lang/invoke/MethodHandle" ∧ mJ9_abs_0f7a4.1.cls ≠ "java/lang/invoke/VarHandle" ∧ (parseMethodDescriptor mJ9_abs_0f7a4.1.desc).map (fun d => d.parameters.length) = some 1) ∧ mJ9_abs_0f7a4.2.2.1 ≤ 15 := ⟨wA_t 15 (by decide +kernel) rfl, wA_t 432 (by decide +kernel) rfl, ⟨by decide +kernel, by decide +kernel, by decide +kernel⟩, by decide⟩
abbrev mX11_focused : MB := (yX11_focused, cX11_focused, 4, some .int)
theorem mwX11_focused : Cond.initialized mX11_focused.1.cls ∈ wA ∧ Cond.code mX11_focused.1 mX11_focused.2.1 mX11_focused.2.2.1 mX11_focused.2.2.2 ∈ wA ∧ (mX11_focused.1.cls ≠ "java/lang/invoke/MethodHandle" ∧ mX11_focused.1.cls ≠ "java/lang/invoke/VarHandle" ∧ (parseMethodDescriptor mX11_focused.1.desc).map (fun d => d.parameters.length) = some 2) ∧ mX11_focused.2.2.1 ≤ 15 := ⟨wA_t 1 (by decide +kernel) rfl, wA_t 436 (by decide +kernel) rfl, ⟨by decide +kernel, by decide +kernel, by decide +kernel⟩, by decide⟩
abbrev mX4_sharpestDepth : MB := (yX4_sharpestDepth, cX4_sharpestDepth, 6, some .int)
theorem mwX4_sharpestDepth : Cond.initialized mX4_sharpestDepth.1.cls ∈ wA ∧ Cond.code mX4_sharpestDepth.1 mX4_sharpestDepth.2.1 mX4_sharpestDepth.2.2.1 mX4_sharpestDepth.2.2.2 ∈ wA ∧ (mX4_sharpestDepth.1.cls ≠ "java/lang/invoke/MethodHandle" ∧ mX4_sharpestDepth.1.cls ≠ "java/lang/invoke/VarHandle" ∧ (parseMethodDescriptor mX4_sharpestDepth.1.desc).map (fun d => d.parameters.length) = some 1) ∧ mX4_sharpestDepth.2.2.1 ≤ 15 := ⟨wA_t 2 (by decide +kernel) rfl, wA_t 440 (by decide +kernel) rfl, ⟨by decide +kernel, by decide +kernel, by decide +kernel⟩, by decide⟩
abbrev mX4_blurAt : MB := (yX4_blurAt, cX4_blurAt, 3, some .int)
theorem mwX4_blurAt : Cond.initialized mX4_blurAt.1.cls ∈ wA ∧ Cond.code mX4_blurAt.1 mX4_blurAt.2.1 mX4_blurAt.2.2.1 mX4_blurAt.2.2.2 ∈ wA ∧ (mX4_blurAt.1.cls ≠ "java/lang/invoke/MethodHandle" ∧ mX4_blurAt.1.cls ≠ "java/lang/invoke/VarHandle" ∧ (parseMethodDescriptor mX4_blurAt.1.desc).map (fun d => d.parameters.length) = some 2) ∧ mX4_blurAt.2.2.1 ≤ 15 := ⟨wA_t 2 (by decide +kernel) rfl, wA_t 444 (by decide +kernel) rfl, ⟨by decide +kernel, by decide +kernel, by decide +kernel⟩, by decide⟩
abbrev mX4_columnAt : MB := (yX4_columnAt, cX4_columnAt, 2, some .int)
theorem mwX4_columnAt : Cond.initialized mX4_columnAt.1.cls ∈ wA ∧ Cond.code mX4_columnAt.1 mX4_columnAt.2.1 mX4_columnAt.2.2.1 mX4_columnAt.2.2.2 ∈ wA ∧ (mX4_columnAt.1.cls ≠ "java/lang/invoke/MethodHandle" ∧ mX4_columnAt.1.cls ≠ "java/lang/invoke/VarHandle" ∧ (parseMethodDescriptor mX4_columnAt.1.desc).map (fun d => d.parameters.length) = some 2) ∧ mX4_columnAt.2.2.1 ≤ 15 := ⟨wA_t 2 (by decide +kernel) rfl, wA_t 447 (by decide +kernel) rfl, ⟨by decide +kernel, by decide +kernel, by decide +kernel⟩, by decide⟩
abbrev mX11_bent : MB := (yX11_bent, cX11_bent, 3, some .int)
theorem mwX11_bent : Cond.initialized mX11_bent.1.cls ∈ wA ∧ Cond.code mX11_bent.1 mX11_bent.2.1 mX11_bent.2.2.1 mX11_bent.2.2.2 ∈ wA ∧ (mX11_bent.1.cls ≠ "java/lang/invoke/MethodHandle" ∧ mX11_bent.1.cls ≠ "java/lang/invoke/VarHandle" ∧ (parseMethodDescriptor mX11_bent.1.desc).map (fun d => d.parameters.length) = some 0) ∧ mX11_bent.2.2.1 ≤ 15 := ⟨wA_t 1 (by decide +kernel) rfl, wA_t 456 (by decide +kernel) rfl, ⟨by decide +kernel, by decide +kernel, by decide +kernel⟩, by decide⟩
abbrev mX4_clearBlurs : MB := (yX4_clearBlurs, cX4_clearBlurs, 2, none)
theorem mwX4_clearBlurs : Cond.initialized mX4_clearBlurs.1.cls ∈ wA ∧ Cond.code mX4_clearBlurs.1 mX4_clearBlurs.2.1 mX4_clearBlurs.2.2.1 mX4_clearBlurs.2.2.2 ∈ wA ∧ (mX4_clearBlurs.1.cls ≠ "java/lang/invoke/MethodHandle" ∧ mX4_clearBlurs.1.cls ≠ "java/lang/invoke/VarHandle" ∧ (parseMethodDescriptor mX4_clearBlurs.1.desc).map (fun d => d.parameters.length) = some 0) ∧ mX4_clearBlurs.2.2.1 ≤ 15 := ⟨wA_t 2 (by decide +kernel) rfl, wA_t 460 (by decide +kernel) rfl, ⟨by decide +kernel, by decide +kernel, by decide +kernel⟩, by decide⟩
abbrev mX4_addBlurs : MB := (yX4_addBlurs, cX4_addBlurs, 4, none)
theorem mwX4_addBlurs : Cond.initialized mX4_addBlurs.1.cls ∈ wA ∧ Cond.code mX4_addBlurs.1 mX4_addBlurs.2.1 mX4_addBlurs.2.2.1 mX4_addBlurs.2.2.2 ∈ wA ∧ (mX4_addBlurs.1.cls ≠ "java/lang/invoke/MethodHandle" ∧ mX4_addBlurs.1.cls ≠ "java/lang/invoke/VarHandle" ∧ (parseMethodDescriptor mX4_addBlurs.1.desc).map (fun d => d.parameters.length) = some 1) ∧ mX4_addBlurs.2.2.1 ≤ 15 := ⟨wA_t 2 (by decide +kernel) rfl, wA_t 465 (by decide +kernel) rfl, ⟨by decide +kernel, by decide +kernel, by decide +kernel⟩, by decide⟩
abbrev mX4_bestBend : MB := (yX4_bestBend, cX4_bestBend, 3, some .int)
theorem mwX4_bestBend : Cond.initialized mX4_bestBend.1.cls ∈ wA ∧ Cond.code mX4_bestBend.1 mX4_bestBend.2.1 mX4_bestBend.2.2.1 mX4_bestBend.2.2.2 ∈ wA ∧ (mX4_bestBend.1.cls ≠ "java/lang/invoke/MethodHandle" ∧ mX4_bestBend.1.cls ≠ "java/lang/invoke/VarHandle" ∧ (parseMethodDescriptor mX4_bestBend.1.desc).map (fun d => d.parameters.length) = some 0) ∧ mX4_bestBend.2.2.1 ≤ 15 := ⟨wA_t 2 (by decide +kernel) rfl, wA_t 469 (by decide +kernel) rfl, ⟨by decide +kernel, by decide +kernel, by decide +kernel⟩, by decide⟩
abbrev mX4_bendsMade : MB := (yX4_bendsMade, cX4_bendsMade, 3, some .int)
theorem mwX4_bendsMade : Cond.initialized mX4_bendsMade.1.cls ∈ wA ∧ Cond.code mX4_bendsMade.1 mX4_bendsMade.2.1 mX4_bendsMade.2.2.1 mX4_bendsMade.2.2.2 ∈ wA ∧ (mX4_bendsMade.1.cls ≠ "java/lang/invoke/MethodHandle" ∧ mX4_bendsMade.1.cls ≠ "java/lang/invoke/VarHandle" ∧ (parseMethodDescriptor mX4_bendsMade.1.desc).map (fun d => d.parameters.length) = some 0) ∧ mX4_bendsMade.2.2.1 ≤ 15 := ⟨wA_t 2 (by decide +kernel) rfl, wA_t 473 (by decide +kernel) rfl, ⟨by decide +kernel, by decide +kernel, by decide +kernel⟩, by decide⟩
abbrev mX11_mark : MB := (yX11_mark, cX11_mark, 6, some .int)
theorem mwX11_mark : Cond.initialized mX11_mark.1.cls ∈ wA ∧ Cond.code mX11_mark.1 mX11_mark.2.1 mX11_mark.2.2.1 mX11_mark.2.2.2 ∈ wA ∧ (mX11_mark.1.cls ≠ "java/lang/invoke/MethodHandle" ∧ mX11_mark.1.cls ≠ "java/lang/invoke/VarHandle" ∧ (parseMethodDescriptor mX11_mark.1.desc).map (fun d => d.parameters.length) = some 4) ∧ mX11_mark.2.2.1 ≤ 15 := ⟨wA_t 1 (by decide +kernel) rfl, wA_t 477 (by decide +kernel) rfl, ⟨by decide +kernel, by decide +kernel, by decide +kernel⟩, by decide⟩
abbrev mX11_isTrace : MB := (yX11_isTrace, cX11_isTrace, 1, some .boolean)
theorem mwX11_isTrace : Cond.initialized mX11_isTrace.1.cls ∈ wA ∧ Cond.code mX11_isTrace.1 mX11_isTrace.2.1 mX11_isTrace.2.2.1 mX11_isTrace.2.2.2 ∈ wA ∧ (mX11_isTrace.1.cls ≠ "java/lang/invoke/MethodHandle" ∧ mX11_isTrace.1.cls ≠ "java/lang/invoke/VarHandle" ∧ (parseMethodDescriptor mX11_isTrace.1.desc).map (fun d => d.parameters.length) = some 1) ∧ mX11_isTrace.2.2.1 ≤ 15 := ⟨wA_t 1 (by decide +kernel) rfl, wA_t 480 (by decide +kernel) rfl, ⟨by decide +kernel, by decide +kernel, by decide +kernel⟩, by decide⟩
abbrev mX11_isNumber : MB := (yX11_isNumber, cX11_isNumber, 1, some .boolean)
theorem mwX11_isNumber : Cond.initialized mX11_isNumber.1.cls ∈ wA ∧ Cond.code mX11_isNumber.1 mX11_isNumber.2.1 mX11_isNumber.2.2.1 mX11_isNumber.2.2.2 ∈ wA ∧ (mX11_isNumber.1.cls ≠ "java/lang/invoke/MethodHandle" ∧ mX11_isNumber.1.cls ≠ "java/lang/invoke/VarHandle" ∧ (parseMethodDescriptor mX11_isNumber.1.desc).map (fun d => d.parameters.length) = some 1) ∧ mX11_isNumber.2.2.1 ≤ 15 := ⟨wA_t 1 (by decide +kernel) rfl, wA_t 483 (by decide +kernel) rfl, ⟨by decide +kernel, by decide +kernel, by decide +kernel⟩, by decide⟩
abbrev mX10_put : MB := (yX10_put, cX10_put, 4, none)
theorem mwX10_put : Cond.initialized mX10_put.1.cls ∈ wA ∧ Cond.code mX10_put.1 mX10_put.2.1 mX10_put.2.2.1 mX10_put.2.2.2 ∈ wA ∧ (mX10_put.1.cls ≠ "java/lang/invoke/MethodHandle" ∧ mX10_put.1.cls ≠ "java/lang/invoke/VarHandle" ∧ (parseMethodDescriptor mX10_put.1.desc).map (fun d => d.parameters.length) = some 3) ∧ mX10_put.2.2.1 ≤ 15 := ⟨wA_t 12 (by decide +kernel) rfl, wA_t 487 (by decide +kernel) rfl, ⟨by decide +kernel, by decide +kernel, by decide +kernel⟩, by decide⟩
abbrev mX11_rub : MB := (yX11_rub, cX11_rub, 4, some .int)
theorem mwX11_rub : Cond.initialized mX11_rub.1.cls ∈ wA ∧ Cond.code mX11_rub.1 mX11_rub.2.1 mX11_rub.2.2.1 mX11_rub.2.2.2 ∈ wA ∧ (mX11_rub.1.cls ≠ "java/lang/invoke/MethodHandle" ∧ mX11_rub.1.cls ≠ "java/lang/invoke/VarHandle" ∧ (parseMethodDescriptor mX11_rub.1.desc).map (fun d => d.parameters.length) = some 2) ∧ mX11_rub.2.2.1 ≤ 15 := ⟨wA_t 1 (by decide +kernel) rfl, wA_t 491 (by decide +kernel) rfl, ⟨by decide +kernel, by decide +kernel, by decide +kernel⟩, by decide⟩
abbrev mX11_draw : MB := (yX11_draw, cX11_draw, 4, some .int)
theorem mwX11_draw : Cond.initialized mX11_draw.1.cls ∈ wA ∧ Cond.code mX11_draw.1 mX11_draw.2.1 mX11_draw.2.2.1 mX11_draw.2.2.2 ∈ wA ∧ (mX11_draw.1.cls ≠ "java/lang/invoke/MethodHandle" ∧ mX11_draw.1.cls ≠ "java/lang/invoke/VarHandle" ∧ (parseMethodDescriptor mX11_draw.1.desc).map (fun d => d.parameters.length) = some 1) ∧ mX11_draw.2.2.1 ≤ 15 := ⟨wA_t 1 (by decide +kernel) rfl, wA_t 495 (by decide +kernel) rfl, ⟨by decide +kernel, by decide +kernel, by decide +kernel⟩, by decide⟩
abbrev mX10_clear : MB := (yX10_clear, cX10_clear, 2, none)
theorem mwX10_clear : Cond.initialized mX10_clear.1.cls ∈ wA ∧ Cond.code mX10_clear.1 mX10_clear.2.1 mX10_clear.2.2.1 mX10_clear.2.2.2 ∈ wA ∧ (mX10_clear.1.cls ≠ "java/lang/invoke/MethodHandle" ∧ mX10_clear.1.cls ≠ "java/lang/invoke/VarHandle" ∧ (parseMethodDescriptor mX10_clear.1.desc).map (fun d => d.parameters.length) = some 0) ∧ mX10_clear.2.2.1 ≤ 15 := ⟨wA_t 12 (by decide +kernel) rfl, wA_t 499 (by decide +kernel) rfl, ⟨by decide +kernel, by decide +kernel, by decide +kernel⟩, by decide⟩
abbrev mX4_shows : MB := (yX4_shows, cX4_shows, 2, some .boolean)
theorem mwX4_shows : Cond.initialized mX4_shows.1.cls ∈ wA ∧ Cond.code mX4_shows.1 mX4_shows.2.1 mX4_shows.2.2.1 mX4_shows.2.2.2 ∈ wA ∧ (mX4_shows.1.cls ≠ "java/lang/invoke/MethodHandle" ∧ mX4_shows.1.cls ≠ "java/lang/invoke/VarHandle" ∧ (parseMethodDescriptor mX4_shows.1.desc).map (fun d => d.parameters.length) = some 1) ∧ mX4_shows.2.2.1 ≤ 15 := ⟨wA_t 2 (by decide +kernel) rfl, wA_t 503 (by decide +kernel) rfl, ⟨by decide +kernel, by decide +kernel, by decide +kernel⟩, by decide⟩
abbrev mX10_marksMade : MB := (yX10_marksMade, cX10_marksMade, 3, some .int)
theorem mwX10_marksMade : Cond.initialized mX10_marksMade.1.cls ∈ wA ∧ Cond.code mX10_marksMade.1 mX10_marksMade.2.1 mX10_marksMade.2.2.1 mX10_marksMade.2.2.2 ∈ wA ∧ (mX10_marksMade.1.cls ≠ "java/lang/invoke/MethodHandle" ∧ mX10_marksMade.1.cls ≠ "java/lang/invoke/VarHandle" ∧ (parseMethodDescriptor mX10_marksMade.1.desc).map (fun d => d.parameters.length) = some 0) ∧ mX10_marksMade.2.2.1 ≤ 15 := ⟨wA_t 12 (by decide +kernel) rfl, wA_t 508 (by decide +kernel) rfl, ⟨by decide +kernel, by decide +kernel, by decide +kernel⟩, by decide⟩
abbrev mX11_marked : MB := (yX11_marked, cX11_marked, 5, some .int)
theorem mwX11_marked : Cond.initialized mX11_marked.1.cls ∈ wA ∧ Cond.code mX11_marked.1 mX11_marked.2.1 mX11_marked.2.2.1 mX11_marked.2.2.2 ∈ wA ∧ (mX11_marked.1.cls ≠ "java/lang/invoke/MethodHandle" ∧ mX11_marked.1.cls ≠ "java/lang/invoke/VarHandle" ∧ (parseMethodDescriptor mX11_marked.1.desc).map (fun d => d.parameters.length) = some 3) ∧ mX11_marked.2.2.1 ≤ 15 := ⟨wA_t 1 (by decide +kernel) rfl, wA_t 512 (by decide +kernel) rfl, ⟨by decide +kernel, by decide +kernel, by decide +kernel⟩, by decide⟩
abbrev mX11_joined : MB := (yX11_joined, cX11_joined, 4, some .int)
theorem mwX11_joined : Cond.initialized mX11_joined.1.cls ∈ wA ∧ Cond.code mX11_joined.1 mX11_joined.2.1 mX11_joined.2.2.1 mX11_joined.2.2.2 ∈ wA ∧ (mX11_joined.1.cls ≠ "java/lang/invoke/MethodHandle" ∧ mX11_joined.1.cls ≠ "java/lang/invoke/VarHandle" ∧ (parseMethodDescriptor mX11_joined.1.desc).map (fun d => d.parameters.length) = some 3) ∧ mX11_joined.2.2.1 ≤ 15 := ⟨wA_t 1 (by decide +kernel) rfl, wA_t 517 (by decide +kernel) rfl, ⟨by decide +kernel, by decide +kernel, by decide +kernel⟩, by decide⟩
abbrev mX1_take : MB := (yX1_take, cX1_take, 4, none)
theorem mwX1_take : Cond.initialized mX1_take.1.cls ∈ wA ∧ Cond.code mX1_take.1 mX1_take.2.1 mX1_take.2.2.1 mX1_take.2.2.2 ∈ wA ∧ (mX1_take.1.cls ≠ "java/lang/invoke/MethodHandle" ∧ mX1_take.1.cls ≠ "java/lang/invoke/VarHandle" ∧ (parseMethodDescriptor mX1_take.1.desc).map (fun d => d.parameters.length) = some 2) ∧ mX1_take.2.2.1 ≤ 15 := ⟨wA_t 4 (by decide +kernel) rfl, wA_t 521 (by decide +kernel) rfl, ⟨by decide +kernel, by decide +kernel, by decide +kernel⟩, by decide⟩
abbrev mX5_insert : MB := (yX5_insert, cX5_insert, 3, none)
theorem mwX5_insert : Cond.initialized mX5_insert.1.cls ∈ wA ∧ Cond.code mX5_insert.1 mX5_insert.2.1 mX5_insert.2.2.1 mX5_insert.2.2.2 ∈ wA ∧ (mX5_insert.1.cls ≠ "java/lang/invoke/MethodHandle" ∧ mX5_insert.1.cls ≠ "java/lang/invoke/VarHandle" ∧ (parseMethodDescriptor mX5_insert.1.desc).map (fun d => d.parameters.length) = some 1) ∧ mX5_insert.2.2.1 ≤ 15 := ⟨wA_t 5 (by decide +kernel) rfl, wA_t 525 (by decide +kernel) rfl, ⟨by decide +kernel, by decide +kernel, by decide +kernel⟩, by decide⟩
abbrev mX1_common : MB := (yX1_common, cX1_common, 1, some .int)
theorem mwX1_common : Cond.initialized mX1_common.1.cls ∈ wA ∧ Cond.code mX1_common.1 mX1_common.2.1 mX1_common.2.2.1 mX1_common.2.2.2 ∈ wA ∧ (mX1_common.1.cls ≠ "java/lang/invoke/MethodHandle" ∧ mX1_common.1.cls ≠ "java/lang/invoke/VarHandle" ∧ (parseMethodDescriptor mX1_common.1.desc).map (fun d => d.parameters.length) = some 0) ∧ mX1_common.2.2.1 ≤ 15 := ⟨wA_t 4 (by decide +kernel) rfl, wA_t 529 (by decide +kernel) rfl, ⟨by decide +kernel, by decide +kernel, by decide +kernel⟩, by decide⟩
abbrev mX1_misfit : MB := (yX1_misfit, cX1_misfit, 1, some .int)
theorem mwX1_misfit : Cond.initialized mX1_misfit.1.cls ∈ wA ∧ Cond.code mX1_misfit.1 mX1_misfit.2.1 mX1_misfit.2.2.1 mX1_misfit.2.2.2 ∈ wA ∧ (mX1_misfit.1.cls ≠ "java/lang/invoke/MethodHandle" ∧ mX1_misfit.1.cls ≠ "java/lang/invoke/VarHandle" ∧ (parseMethodDescriptor mX1_misfit.1.desc).map (fun d => d.parameters.length) = some 0) ∧ mX1_misfit.2.2.1 ≤ 15 := ⟨wA_t 4 (by decide +kernel) rfl, wA_t 533 (by decide +kernel) rfl, ⟨by decide +kernel, by decide +kernel, by decide +kernel⟩, by decide⟩
abbrev mX5_misfit : MB := (yX5_misfit, cX5_misfit, 3, some .int)
theorem mwX5_misfit : Cond.initialized mX5_misfit.1.cls ∈ wA ∧ Cond.code mX5_misfit.1 mX5_misfit.2.1 mX5_misfit.2.2.1 mX5_misfit.2.2.2 ∈ wA ∧ (mX5_misfit.1.cls ≠ "java/lang/invoke/MethodHandle" ∧ mX5_misfit.1.cls ≠ "java/lang/invoke/VarHandle" ∧ (parseMethodDescriptor mX5_misfit.1.desc).map (fun d => d.parameters.length) = some 0) ∧ mX5_misfit.2.2.1 ≤ 15 := ⟨wA_t 5 (by decide +kernel) rfl, wA_t 537 (by decide +kernel) rfl, ⟨by decide +kernel, by decide +kernel, by decide +kernel⟩, by decide⟩
abbrev mX5_middle : MB := (yX5_middle, cX5_middle, 1, some .int)
theorem mwX5_middle : Cond.initialized mX5_middle.1.cls ∈ wA ∧ Cond.code mX5_middle.1 mX5_middle.2.1 mX5_middle.2.2.1 mX5_middle.2.2.2 ∈ wA ∧ (mX5_middle.1.cls ≠ "java/lang/invoke/MethodHandle" ∧ mX5_middle.1.cls ≠ "java/lang/invoke/VarHandle" ∧ (parseMethodDescriptor mX5_middle.1.desc).map (fun d => d.parameters.length) = some 0) ∧ mX5_middle.2.2.1 ≤ 15 := ⟨wA_t 5 (by decide +kernel) rfl, wA_t 541 (by decide +kernel) rfl, ⟨by decide +kernel, by decide +kernel, by decide +kernel⟩, by decide⟩
abbrev mX1_acrossShift : MB := (yX1_acrossShift, cX1_acrossShift, 1, some .int)
theorem mwX1_acrossShift : Cond.initialized mX1_acrossShift.1.cls ∈ wA ∧ Cond.code mX1_acrossShift.1 mX1_acrossShift.2.1 mX1_acrossShift.2.2.1 mX1_acrossShift.2.2.2 ∈ wA ∧ (mX1_acrossShift.1.cls ≠ "java/lang/invoke/MethodHandle" ∧ mX1_acrossShift.1.cls ≠ "java/lang/invoke/VarHandle" ∧ (parseMethodDescriptor mX1_acrossShift.1.desc).map (fun d => d.parameters.length) = some 0) ∧ mX1_acrossShift.2.2.1 ≤ 15 := ⟨wA_t 4 (by decide +kernel) rfl, wA_t 546 (by decide +kernel) rfl, ⟨by decide +kernel, by decide +kernel, by decide +kernel⟩, by decide⟩
abbrev mX1_upShift : MB := (yX1_upShift, cX1_upShift, 1, some .int)
theorem mwX1_upShift : Cond.initialized mX1_upShift.1.cls ∈ wA ∧ Cond.code mX1_upShift.1 mX1_upShift.2.1 mX1_upShift.2.2.1 mX1_upShift.2.2.2 ∈ wA ∧ (mX1_upShift.1.cls ≠ "java/lang/invoke/MethodHandle" ∧ mX1_upShift.1.cls ≠ "java/lang/invoke/VarHandle" ∧ (parseMethodDescriptor mX1_upShift.1.desc).map (fun d => d.parameters.length) = some 0) ∧ mX1_upShift.2.2.1 ≤ 15 := ⟨wA_t 4 (by decide +kernel) rfl, wA_t 551 (by decide +kernel) rfl, ⟨by decide +kernel, by decide +kernel, by decide +kernel⟩, by decide⟩
abbrev mX11_round : MB := (yX11_round, cX11_round, 3, some .int)
theorem mwX11_round : Cond.initialized mX11_round.1.cls ∈ wA ∧ Cond.code mX11_round.1 mX11_round.2.1 mX11_round.2.2.1 mX11_round.2.2.2 ∈ wA ∧ (mX11_round.1.cls ≠ "java/lang/invoke/MethodHandle" ∧ mX11_round.1.cls ≠ "java/lang/invoke/VarHandle" ∧ (parseMethodDescriptor mX11_round.1.desc).map (fun d => d.parameters.length) = some 2) ∧ mX11_round.2.2.1 ≤ 15 := ⟨wA_t 1 (by decide +kernel) rfl, wA_t 555 (by decide +kernel) rfl, ⟨by decide +kernel, by decide +kernel, by decide +kernel⟩, by decide⟩
abbrev mX3_take : MB := (yX3_take, cX3_take, 5, some .boolean)
theorem mwX3_take : Cond.initialized mX3_take.1.cls ∈ wA ∧ Cond.code mX3_take.1 mX3_take.2.1 mX3_take.2.2.1 mX3_take.2.2.2 ∈ wA ∧ (mX3_take.1.cls ≠ "java/lang/invoke/MethodHandle" ∧ mX3_take.1.cls ≠ "java/lang/invoke/VarHandle" ∧ (parseMethodDescriptor mX3_take.1.desc).map (fun d => d.parameters.length) = some 3) ∧ mX3_take.2.2.1 ≤ 15 := ⟨wA_t 6 (by decide +kernel) rfl, wA_t 559 (by decide +kernel) rfl, ⟨by decide +kernel, by decide +kernel, by decide +kernel⟩, by decide⟩
abbrev mX11_around : MB := (yX11_around, cX11_around, 8, some .int)
theorem mwX11_around : Cond.initialized mX11_around.1.cls ∈ wA ∧ Cond.code mX11_around.1 mX11_around.2.1 mX11_around.2.2.1 mX11_around.2.2.2 ∈ wA ∧ (mX11_around.1.cls ≠ "java/lang/invoke/MethodHandle" ∧ mX11_around.1.cls ≠ "java/lang/invoke/VarHandle" ∧ (parseMethodDescriptor mX11_around.1.desc).map (fun d => d.parameters.length) = some 3) ∧ mX11_around.2.2.1 ≤ 15 := ⟨wA_t 1 (by decide +kernel) rfl, wA_t 568 (by decide +kernel) rfl, ⟨by decide +kernel, by decide +kernel, by decide +kernel⟩, by decide⟩
abbrev mX11_closed : MB := (yX11_closed, cX11_closed, 3, some .int)
theorem mwX11_closed : Cond.initialized mX11_closed.1.cls ∈ wA ∧ Cond.code mX11_closed.1 mX11_closed.2.1 mX11_closed.2.2.1 mX11_closed.2.2.2 ∈ wA ∧ (mX11_closed.1.cls ≠ "java/lang/invoke/MethodHandle" ∧ mX11_closed.1.cls ≠ "java/lang/invoke/VarHandle" ∧ (parseMethodDescriptor mX11_closed.1.desc).map (fun d => d.parameters.length) = some 3) ∧ mX11_closed.2.2.1 ≤ 15 := ⟨wA_t 1 (by decide +kernel) rfl, wA_t 571 (by decide +kernel) rfl, ⟨by decide +kernel, by decide +kernel, by decide +kernel⟩, by decide⟩
abbrev mX11_stand : MB := (yX11_stand, cX11_stand, 6, some .int)
theorem mwX11_stand : Cond.initialized mX11_stand.1.cls ∈ wA ∧ Cond.code mX11_stand.1 mX11_stand.2.1 mX11_stand.2.2.1 mX11_stand.2.2.2 ∈ wA ∧ (mX11_stand.1.cls ≠ "java/lang/invoke/MethodHandle" ∧ mX11_stand.1.cls ≠ "java/lang/invoke/VarHandle" ∧ (parseMethodDescriptor mX11_stand.1.desc).map (fun d => d.parameters.length) = some 5) ∧ mX11_stand.2.2.1 ≤ 15 := ⟨wA_t 1 (by decide +kernel) rfl, wA_t 576 (by decide +kernel) rfl, ⟨by decide +kernel, by decide +kernel, by decide +kernel⟩, by decide⟩
abbrev mX11_isStand : MB := (yX11_isStand, cX11_isStand, 4, some .boolean)
theorem mwX11_isStand : Cond.initialized mX11_isStand.1.cls ∈ wA ∧ Cond.code mX11_isStand.1 mX11_isStand.2.1 mX11_isStand.2.2.1 mX11_isStand.2.2.2 ∈ wA ∧ (mX11_isStand.1.cls ≠ "java/lang/invoke/MethodHandle" ∧ mX11_isStand.1.cls ≠ "java/lang/invoke/VarHandle" ∧ (parseMethodDescriptor mX11_isStand.1.desc).map (fun d => d.parameters.length) = some 4) ∧ mX11_isStand.2.2.1 ≤ 15 := ⟨wA_t 1 (by decide +kernel) rfl, wA_t 579 (by decide +kernel) rfl, ⟨by decide +kernel, by decide +kernel, by decide +kernel⟩, by decide⟩
abbrev mX8_put : MB := (yX8_put, cX8_put, 5, none)
theorem mwX8_put : Cond.initialized mX8_put.1.cls ∈ wA ∧ Cond.code mX8_put.1 mX8_put.2.1 mX8_put.2.2.1 mX8_put.2.2.2 ∈ wA ∧ (mX8_put.1.cls ≠ "java/lang/invoke/MethodHandle" ∧ mX8_put.1.cls ≠ "java/lang/invoke/VarHandle" ∧ (parseMethodDescriptor mX8_put.1.desc).map (fun d => d.parameters.length) = some 4) ∧ mX8_put.2.2.1 ≤ 15 := ⟨wA_t 8 (by decide +kernel) rfl, wA_t 583 (by decide +kernel) rfl, ⟨by decide +kernel, by decide +kernel, by decide +kernel⟩, by decide⟩
abbrev mX11_far : MB := (yX11_far, cX11_far, 4, some .long)
theorem mwX11_far : Cond.initialized mX11_far.1.cls ∈ wA ∧ Cond.code mX11_far.1 mX11_far.2.1 mX11_far.2.2.1 mX11_far.2.2.2 ∈ wA ∧ (mX11_far.1.cls ≠ "java/lang/invoke/MethodHandle" ∧ mX11_far.1.cls ≠ "java/lang/invoke/VarHandle" ∧ (parseMethodDescriptor mX11_far.1.desc).map (fun d => d.parameters.length) = some 3) ∧ mX11_far.2.2.1 ≤ 15 := ⟨wA_t 1 (by decide +kernel) rfl, wA_t 587 (by decide +kernel) rfl, ⟨by decide +kernel, by decide +kernel, by decide +kernel⟩, by decide⟩
abbrev mX7_take : MB := (yX7_take, cX7_take, 7, some .boolean)
theorem mwX7_take : Cond.initialized mX7_take.1.cls ∈ wA ∧ Cond.code mX7_take.1 mX7_take.2.1 mX7_take.2.2.1 mX7_take.2.2.2 ∈ wA ∧ (mX7_take.1.cls ≠ "java/lang/invoke/MethodHandle" ∧ mX7_take.1.cls ≠ "java/lang/invoke/VarHandle" ∧ (parseMethodDescriptor mX7_take.1.desc).map (fun d => d.parameters.length) = some 4) ∧ mX7_take.2.2.1 ≤ 15 := ⟨wA_t 7 (by decide +kernel) rfl, wA_t 592 (by decide +kernel) rfl, ⟨by decide +kernel, by decide +kernel, by decide +kernel⟩, by decide⟩
abbrev mX11_high : MB := (yX11_high, cX11_high, 4, some .long)
theorem mwX11_high : Cond.initialized mX11_high.1.cls ∈ wA ∧ Cond.code mX11_high.1 mX11_high.2.1 mX11_high.2.2.1 mX11_high.2.2.2 ∈ wA ∧ (mX11_high.1.cls ≠ "java/lang/invoke/MethodHandle" ∧ mX11_high.1.cls ≠ "java/lang/invoke/VarHandle" ∧ (parseMethodDescriptor mX11_high.1.desc).map (fun d => d.parameters.length) = some 3) ∧ mX11_high.2.2.1 ≤ 15 := ⟨wA_t 1 (by decide +kernel) rfl, wA_t 598 (by decide +kernel) rfl, ⟨by decide +kernel, by decide +kernel, by decide +kernel⟩, by decide⟩
abbrev mX7_highOf : MB := (yX7_highOf, cX7_highOf, 4, some .long)
theorem mwX7_highOf : Cond.initialized mX7_highOf.1.cls ∈ wA ∧ Cond.code mX7_highOf.1 mX7_highOf.2.1 mX7_highOf.2.2.1 mX7_highOf.2.2.2 ∈ wA ∧ (mX7_highOf.1.cls ≠ "java/lang/invoke/MethodHandle" ∧ mX7_highOf.1.cls ≠ "java/lang/invoke/VarHandle" ∧ (parseMethodDescriptor mX7_highOf.1.desc).map (fun d => d.parameters.length) = some 2) ∧ mX7_highOf.2.2.1 ≤ 15 := ⟨wA_t 7 (by decide +kernel) rfl, wA_t 602 (by decide +kernel) rfl, ⟨by decide +kernel, by decide +kernel, by decide +kernel⟩, by decide⟩
abbrev mX11_by_ : MB := (yX11_by_, cX11_by_, 4, some .long)
theorem mwX11_by_ : Cond.initialized mX11_by_.1.cls ∈ wA ∧ Cond.code mX11_by_.1 mX11_by_.2.1 mX11_by_.2.2.1 mX11_by_.2.2.2 ∈ wA ∧ (mX11_by_.1.cls ≠ "java/lang/invoke/MethodHandle" ∧ mX11_by_.1.cls ≠ "java/lang/invoke/VarHandle" ∧ (parseMethodDescriptor mX11_by_.1.desc).map (fun d => d.parameters.length) = some 2) ∧ mX11_by_.2.2.1 ≤ 15 := ⟨wA_t 1 (by decide +kernel) rfl, wA_t 605 (by decide +kernel) rfl, ⟨by decide +kernel, by decide +kernel, by decide +kernel⟩, by decide⟩
abbrev mX11_span : MB := (yX11_span, cX11_span, 13, some .long)
theorem mwX11_span : Cond.initialized mX11_span.1.cls ∈ wA ∧ Cond.code mX11_span.1 mX11_span.2.1 mX11_span.2.2.1 mX11_span.2.2.2 ∈ wA ∧ (mX11_span.1.cls ≠ "java/lang/invoke/MethodHandle" ∧ mX11_span.1.cls ≠ "java/lang/invoke/VarHandle" ∧ (parseMethodDescriptor mX11_span.1.desc).map (fun d => d.parameters.length) = some 4) ∧ mX11_span.2.2.1 ≤ 15 := ⟨wA_t 1 (by decide +kernel) rfl, wA_t 609 (by decide +kernel) rfl, ⟨by decide +kernel, by decide +kernel, by decide +kernel⟩, by decide⟩
abbrev mJ9_min_f86c9 : MB := (yJ9_min_f86c9, cJ9_min_f86c9, 4, some .long)
theorem mwJ9_min_f86c9 : Cond.initialized mJ9_min_f86c9.1.cls ∈ wA ∧ Cond.code mJ9_min_f86c9.1 mJ9_min_f86c9.2.1 mJ9_min_f86c9.2.2.1 mJ9_min_f86c9.2.2.2 ∈ wA ∧ (mJ9_min_f86c9.1.cls ≠ "java/lang/invoke/MethodHandle" ∧ mJ9_min_f86c9.1.cls ≠ "java/lang/invoke/VarHandle" ∧ (parseMethodDescriptor mJ9_min_f86c9.1.desc).map (fun d => d.parameters.length) = some 2) ∧ mJ9_min_f86c9.2.2.1 ≤ 15 := ⟨wA_t 15 (by decide +kernel) rfl, wA_t 613 (by decide +kernel) rfl, ⟨by decide +kernel, by decide +kernel, by decide +kernel⟩, by decide⟩
abbrev mJ9_max_f86c9 : MB := (yJ9_max_f86c9, cJ9_max_f86c9, 4, some .long)
theorem mwJ9_max_f86c9 : Cond.initialized mJ9_max_f86c9.1.cls ∈ wA ∧ Cond.code mJ9_max_f86c9.1 mJ9_max_f86c9.2.1 mJ9_max_f86c9.2.2.1 mJ9_max_f86c9.2.2.2 ∈ wA ∧ (mJ9_max_f86c9.1.cls ≠ "java/lang/invoke/MethodHandle" ∧ mJ9_max_f86c9.1.cls ≠ "java/lang/invoke/VarHandle" ∧ (parseMethodDescriptor mJ9_max_f86c9.1.desc).map (fun d => d.parameters.length) = some 2) ∧ mJ9_max_f86c9.2.2.1 ≤ 15 := ⟨wA_t 15 (by decide +kernel) rfl, wA_t 616 (by decide +kernel) rfl, ⟨by decide +kernel, by decide +kernel, by decide +kernel⟩, by decide⟩
abbrev mX11_studio : MB := (yX11_studio, cX11_studio, 9, some .int)
theorem mwX11_studio : Cond.initialized mX11_studio.1.cls ∈ wA ∧ Cond.code mX11_studio.1 mX11_studio.2.1 mX11_studio.2.2.1 mX11_studio.2.2.2 ∈ wA ∧ (mX11_studio.1.cls ≠ "java/lang/invoke/MethodHandle" ∧ mX11_studio.1.cls ≠ "java/lang/invoke/VarHandle" ∧ (parseMethodDescriptor mX11_studio.1.desc).map (fun d => d.parameters.length) = some 7) ∧ mX11_studio.2.2.1 ≤ 15 := ⟨wA_t 1 (by decide +kernel) rfl, wA_t 620 (by decide +kernel) rfl, ⟨by decide +kernel, by decide +kernel, by decide +kernel⟩, by decide⟩
abbrev mX11_areStudiosTold : MB := (yX11_areStudiosTold, cX11_areStudiosTold, 4, some .boolean)
theorem mwX11_areStudiosTold : Cond.initialized mX11_areStudiosTold.1.cls ∈ wA ∧ Cond.code mX11_areStudiosTold.1 mX11_areStudiosTold.2.1 mX11_areStudiosTold.2.2.1 mX11_areStudiosTold.2.2.2 ∈ wA ∧ (mX11_areStudiosTold.1.cls ≠ "java/lang/invoke/MethodHandle" ∧ mX11_areStudiosTold.1.cls ≠ "java/lang/invoke/VarHandle" ∧ (parseMethodDescriptor mX11_areStudiosTold.1.desc).map (fun d => d.parameters.length) = some 4) ∧ mX11_areStudiosTold.2.2.1 ≤ 15 := ⟨wA_t 1 (by decide +kernel) rfl, wA_t 623 (by decide +kernel) rfl, ⟨by decide +kernel, by decide +kernel, by decide +kernel⟩, by decide⟩
abbrev mX11_studiosRefusal : MB := (yX11_studiosRefusal, cX11_studiosRefusal, 4, some .int)
theorem mwX11_studiosRefusal : Cond.initialized mX11_studiosRefusal.1.cls ∈ wA ∧ Cond.code mX11_studiosRefusal.1 mX11_studiosRefusal.2.1 mX11_studiosRefusal.2.2.1 mX11_studiosRefusal.2.2.2 ∈ wA ∧ (mX11_studiosRefusal.1.cls ≠ "java/lang/invoke/MethodHandle" ∧ mX11_studiosRefusal.1.cls ≠ "java/lang/invoke/VarHandle" ∧ (parseMethodDescriptor mX11_studiosRefusal.1.desc).map (fun d => d.parameters.length) = some 3) ∧ mX11_studiosRefusal.2.2.1 ≤ 15 := ⟨wA_t 1 (by decide +kernel) rfl, wA_t 627 (by decide +kernel) rfl, ⟨by decide +kernel, by decide +kernel, by decide +kernel⟩, by decide⟩
abbrev mX11_areStudios : MB := (yX11_areStudios, cX11_areStudios, 5, some .boolean)
theorem mwX11_areStudios : Cond.initialized mX11_areStudios.1.cls ∈ wA ∧ Cond.code mX11_areStudios.1 mX11_areStudios.2.1 mX11_areStudios.2.2.1 mX11_areStudios.2.2.2 ∈ wA ∧ (mX11_areStudios.1.cls ≠ "java/lang/invoke/MethodHandle" ∧ mX11_areStudios.1.cls ≠ "java/lang/invoke/VarHandle" ∧ (parseMethodDescriptor mX11_areStudios.1.desc).map (fun d => d.parameters.length) = some 3) ∧ mX11_areStudios.2.2.1 ≤ 15 := ⟨wA_t 1 (by decide +kernel) rfl, wA_t 631 (by decide +kernel) rfl, ⟨by decide +kernel, by decide +kernel, by decide +kernel⟩, by decide⟩
abbrev mX11_readStudio : MB := (yX11_readStudio, cX11_readStudio, 6, none)
theorem mwX11_readStudio : Cond.initialized mX11_readStudio.1.cls ∈ wA ∧ Cond.code mX11_readStudio.1 mX11_readStudio.2.1 mX11_readStudio.2.2.1 mX11_readStudio.2.2.2 ∈ wA ∧ (mX11_readStudio.1.cls ≠ "java/lang/invoke/MethodHandle" ∧ mX11_readStudio.1.cls ≠ "java/lang/invoke/VarHandle" ∧ (parseMethodDescriptor mX11_readStudio.1.desc).map (fun d => d.parameters.length) = some 3) ∧ mX11_readStudio.2.2.1 ≤ 15 := ⟨wA_t 1 (by decide +kernel) rfl, wA_t 635 (by decide +kernel) rfl, ⟨by decide +kernel, by decide +kernel, by decide +kernel⟩, by decide⟩
abbrev mX11_painterMisfit : MB := (yX11_painterMisfit, cX11_painterMisfit, 4, some .int)
theorem mwX11_painterMisfit : Cond.initialized mX11_painterMisfit.1.cls ∈ wA ∧ Cond.code mX11_painterMisfit.1 mX11_painterMisfit.2.1 mX11_painterMisfit.2.2.1 mX11_painterMisfit.2.2.2 ∈ wA ∧ (mX11_painterMisfit.1.cls ≠ "java/lang/invoke/MethodHandle" ∧ mX11_painterMisfit.1.cls ≠ "java/lang/invoke/VarHandle" ∧ (parseMethodDescriptor mX11_painterMisfit.1.desc).map (fun d => d.parameters.length) = some 1) ∧ mX11_painterMisfit.2.2.1 ≤ 15 := ⟨wA_t 1 (by decide +kernel) rfl, wA_t 639 (by decide +kernel) rfl, ⟨by decide +kernel, by decide +kernel, by decide +kernel⟩, by decide⟩
abbrev mX8_sees : MB := (yX8_sees, cX8_sees, 2, some .boolean)
theorem mwX8_sees : Cond.initialized mX8_sees.1.cls ∈ wA ∧ Cond.code mX8_sees.1 mX8_sees.2.1 mX8_sees.2.2.1 mX8_sees.2.2.2 ∈ wA ∧ (mX8_sees.1.cls ≠ "java/lang/invoke/MethodHandle" ∧ mX8_sees.1.cls ≠ "java/lang/invoke/VarHandle" ∧ (parseMethodDescriptor mX8_sees.1.desc).map (fun d => d.parameters.length) = some 1) ∧ mX8_sees.2.2.1 ≤ 15 := ⟨wA_t 8 (by decide +kernel) rfl, wA_t 643 (by decide +kernel) rfl, ⟨by decide +kernel, by decide +kernel, by decide +kernel⟩, by decide⟩
abbrev mX11_painterApart : MB := (yX11_painterApart, cX11_painterApart, 5, some .int)
theorem mwX11_painterApart : Cond.initialized mX11_painterApart.1.cls ∈ wA ∧ Cond.code mX11_painterApart.1 mX11_painterApart.2.1 mX11_painterApart.2.2.1 mX11_painterApart.2.2.2 ∈ wA ∧ (mX11_painterApart.1.cls ≠ "java/lang/invoke/MethodHandle" ∧ mX11_painterApart.1.cls ≠ "java/lang/invoke/VarHandle" ∧ (parseMethodDescriptor mX11_painterApart.1.desc).map (fun d => d.parameters.length) = some 2) ∧ mX11_painterApart.2.2.1 ≤ 15 := ⟨wA_t 1 (by decide +kernel) rfl, wA_t 647 (by decide +kernel) rfl, ⟨by decide +kernel, by decide +kernel, by decide +kernel⟩, by decide⟩
abbrev mX8_across : MB := (yX8_across, cX8_across, 2, some .int)
theorem mwX8_across : Cond.initialized mX8_across.1.cls ∈ wA ∧ Cond.code mX8_across.1 mX8_across.2.1 mX8_across.2.2.1 mX8_across.2.2.2 ∈ wA ∧ (mX8_across.1.cls ≠ "java/lang/invoke/MethodHandle" ∧ mX8_across.1.cls ≠ "java/lang/invoke/VarHandle" ∧ (parseMethodDescriptor mX8_across.1.desc).map (fun d => d.parameters.length) = some 1) ∧ mX8_across.2.2.1 ≤ 15 := ⟨wA_t 8 (by decide +kernel) rfl, wA_t 651 (by decide +kernel) rfl, ⟨by decide +kernel, by decide +kernel, by decide +kernel⟩, by decide⟩
abbrev mX8_up : MB := (yX8_up, cX8_up, 2, some .int)
theorem mwX8_up : Cond.initialized mX8_up.1.cls ∈ wA ∧ Cond.code mX8_up.1 mX8_up.2.1 mX8_up.2.2.1 mX8_up.2.2.2 ∈ wA ∧ (mX8_up.1.cls ≠ "java/lang/invoke/MethodHandle" ∧ mX8_up.1.cls ≠ "java/lang/invoke/VarHandle" ∧ (parseMethodDescriptor mX8_up.1.desc).map (fun d => d.parameters.length) = some 1) ∧ mX8_up.2.2.1 ≤ 15 := ⟨wA_t 8 (by decide +kernel) rfl, wA_t 657 (by decide +kernel) rfl, ⟨by decide +kernel, by decide +kernel, by decide +kernel⟩, by decide⟩
abbrev mX11_hasPainterMade : MB := (yX11_hasPainterMade, cX11_hasPainterMade, 4, some .boolean)
theorem mwX11_hasPainterMade : Cond.initialized mX11_hasPainterMade.1.cls ∈ wA ∧ Cond.code mX11_hasPainterMade.1 mX11_hasPainterMade.2.1 mX11_hasPainterMade.2.2.1 mX11_hasPainterMade.2.2.2 ∈ wA ∧ (mX11_hasPainterMade.1.cls ≠ "java/lang/invoke/MethodHandle" ∧ mX11_hasPainterMade.1.cls ≠ "java/lang/invoke/VarHandle" ∧ (parseMethodDescriptor mX11_hasPainterMade.1.desc).map (fun d => d.parameters.length) = some 2) ∧ mX11_hasPainterMade.2.2.1 ≤ 15 := ⟨wA_t 1 (by decide +kernel) rfl, wA_t 662 (by decide +kernel) rfl, ⟨by decide +kernel, by decide +kernel, by decide +kernel⟩, by decide⟩
abbrev mX11_isPainterNear : MB := (yX11_isPainterNear, cX11_isPainterNear, 4, some .boolean)
theorem mwX11_isPainterNear : Cond.initialized mX11_isPainterNear.1.cls ∈ wA ∧ Cond.code mX11_isPainterNear.1 mX11_isPainterNear.2.1 mX11_isPainterNear.2.2.1 mX11_isPainterNear.2.2.2 ∈ wA ∧ (mX11_isPainterNear.1.cls ≠ "java/lang/invoke/MethodHandle" ∧ mX11_isPainterNear.1.cls ≠ "java/lang/invoke/VarHandle" ∧ (parseMethodDescriptor mX11_isPainterNear.1.desc).map (fun d => d.parameters.length) = some 3) ∧ mX11_isPainterNear.2.2.1 ≤ 15 := ⟨wA_t 1 (by decide +kernel) rfl, wA_t 666 (by decide +kernel) rfl, ⟨by decide +kernel, by decide +kernel, by decide +kernel⟩, by decide⟩
abbrev mX11_studios : MB := (yX11_studios, cX11_studios, 8, some .int)
theorem mwX11_studios : Cond.initialized mX11_studios.1.cls ∈ wA ∧ Cond.code mX11_studios.1 mX11_studios.2.1 mX11_studios.2.2.1 mX11_studios.2.2.2 ∈ wA ∧ (mX11_studios.1.cls ≠ "java/lang/invoke/MethodHandle" ∧ mX11_studios.1.cls ≠ "java/lang/invoke/VarHandle" ∧ (parseMethodDescriptor mX11_studios.1.desc).map (fun d => d.parameters.length) = some 6) ∧ mX11_studios.2.2.1 ≤ 15 := ⟨wA_t 1 (by decide +kernel) rfl, wA_t 670 (by decide +kernel) rfl, ⟨by decide +kernel, by decide +kernel, by decide +kernel⟩, by decide⟩
abbrev mX11_bestStudio : MB := (yX11_bestStudio, cX11_bestStudio, 9, some .int)
theorem mwX11_bestStudio : Cond.initialized mX11_bestStudio.1.cls ∈ wA ∧ Cond.code mX11_bestStudio.1 mX11_bestStudio.2.1 mX11_bestStudio.2.2.1 mX11_bestStudio.2.2.2 ∈ wA ∧ (mX11_bestStudio.1.cls ≠ "java/lang/invoke/MethodHandle" ∧ mX11_bestStudio.1.cls ≠ "java/lang/invoke/VarHandle" ∧ (parseMethodDescriptor mX11_bestStudio.1.desc).map (fun d => d.parameters.length) = some 4) ∧ mX11_bestStudio.2.2.1 ≤ 15 := ⟨wA_t 1 (by decide +kernel) rfl, wA_t 674 (by decide +kernel) rfl, ⟨by decide +kernel, by decide +kernel, by decide +kernel⟩, by decide⟩
abbrev mX11_studiosThatMade : MB := (yX11_studiosThatMade, cX11_studiosThatMade, 8, some .int)
theorem mwX11_studiosThatMade : Cond.initialized mX11_studiosThatMade.1.cls ∈ wA ∧ Cond.code mX11_studiosThatMade.1 mX11_studiosThatMade.2.1 mX11_studiosThatMade.2.2.1 mX11_studiosThatMade.2.2.2 ∈ wA ∧ (mX11_studiosThatMade.1.cls ≠ "java/lang/invoke/MethodHandle" ∧ mX11_studiosThatMade.1.cls ≠ "java/lang/invoke/VarHandle" ∧ (parseMethodDescriptor mX11_studiosThatMade.1.desc).map (fun d => d.parameters.length) = some 5) ∧ mX11_studiosThatMade.2.2.1 ≤ 15 := ⟨wA_t 1 (by decide +kernel) rfl, wA_t 678 (by decide +kernel) rfl, ⟨by decide +kernel, by decide +kernel, by decide +kernel⟩, by decide⟩
abbrev mX11_marksOfNoStudio : MB := (yX11_marksOfNoStudio, cX11_marksOfNoStudio, 10, some .int)
theorem mwX11_marksOfNoStudio : Cond.initialized mX11_marksOfNoStudio.1.cls ∈ wA ∧ Cond.code mX11_marksOfNoStudio.1 mX11_marksOfNoStudio.2.1 mX11_marksOfNoStudio.2.2.1 mX11_marksOfNoStudio.2.2.2 ∈ wA ∧ (mX11_marksOfNoStudio.1.cls ≠ "java/lang/invoke/MethodHandle" ∧ mX11_marksOfNoStudio.1.cls ≠ "java/lang/invoke/VarHandle" ∧ (parseMethodDescriptor mX11_marksOfNoStudio.1.desc).map (fun d => d.parameters.length) = some 5) ∧ mX11_marksOfNoStudio.2.2.1 ≤ 15 := ⟨wA_t 1 (by decide +kernel) rfl, wA_t 682 (by decide +kernel) rfl, ⟨by decide +kernel, by decide +kernel, by decide +kernel⟩, by decide⟩
abbrev mX11_spot : MB := (yX11_spot, cX11_spot, 5, some .int)
theorem mwX11_spot : Cond.initialized mX11_spot.1.cls ∈ wA ∧ Cond.code mX11_spot.1 mX11_spot.2.1 mX11_spot.2.2.1 mX11_spot.2.2.2 ∈ wA ∧ (mX11_spot.1.cls ≠ "java/lang/invoke/MethodHandle" ∧ mX11_spot.1.cls ≠ "java/lang/invoke/VarHandle" ∧ (parseMethodDescriptor mX11_spot.1.desc).map (fun d => d.parameters.length) = some 4) ∧ mX11_spot.2.2.1 ≤ 15 := ⟨wA_t 1 (by decide +kernel) rfl, wA_t 686 (by decide +kernel) rfl, ⟨by decide +kernel, by decide +kernel, by decide +kernel⟩, by decide⟩
abbrev mX11_spotAside : MB := (yX11_spotAside, cX11_spotAside, 2, some .int)
theorem mwX11_spotAside : Cond.initialized mX11_spotAside.1.cls ∈ wA ∧ Cond.code mX11_spotAside.1 mX11_spotAside.2.1 mX11_spotAside.2.2.1 mX11_spotAside.2.2.2 ∈ wA ∧ (mX11_spotAside.1.cls ≠ "java/lang/invoke/MethodHandle" ∧ mX11_spotAside.1.cls ≠ "java/lang/invoke/VarHandle" ∧ (parseMethodDescriptor mX11_spotAside.1.desc).map (fun d => d.parameters.length) = some 2) ∧ mX11_spotAside.2.2.1 ≤ 15 := ⟨wA_t 1 (by decide +kernel) rfl, wA_t 689 (by decide +kernel) rfl, ⟨by decide +kernel, by decide +kernel, by decide +kernel⟩, by decide⟩
abbrev mX11_noonOf : MB := (yX11_noonOf, cX11_noonOf, 3, some .int)
theorem mwX11_noonOf : Cond.initialized mX11_noonOf.1.cls ∈ wA ∧ Cond.code mX11_noonOf.1 mX11_noonOf.2.1 mX11_noonOf.2.2.1 mX11_noonOf.2.2.2 ∈ wA ∧ (mX11_noonOf.1.cls ≠ "java/lang/invoke/MethodHandle" ∧ mX11_noonOf.1.cls ≠ "java/lang/invoke/VarHandle" ∧ (parseMethodDescriptor mX11_noonOf.1.desc).map (fun d => d.parameters.length) = some 1) ∧ mX11_noonOf.2.2.1 ≤ 15 := ⟨wA_t 1 (by decide +kernel) rfl, wA_t 692 (by decide +kernel) rfl, ⟨by decide +kernel, by decide +kernel, by decide +kernel⟩, by decide⟩
abbrev mX11_spotAhead : MB := (yX11_spotAhead, cX11_spotAhead, 3, some .int)
theorem mwX11_spotAhead : Cond.initialized mX11_spotAhead.1.cls ∈ wA ∧ Cond.code mX11_spotAhead.1 mX11_spotAhead.2.1 mX11_spotAhead.2.2.1 mX11_spotAhead.2.2.2 ∈ wA ∧ (mX11_spotAhead.1.cls ≠ "java/lang/invoke/MethodHandle" ∧ mX11_spotAhead.1.cls ≠ "java/lang/invoke/VarHandle" ∧ (parseMethodDescriptor mX11_spotAhead.1.desc).map (fun d => d.parameters.length) = some 3) ∧ mX11_spotAhead.2.2.1 ≤ 15 := ⟨wA_t 1 (by decide +kernel) rfl, wA_t 695 (by decide +kernel) rfl, ⟨by decide +kernel, by decide +kernel, by decide +kernel⟩, by decide⟩
abbrev mX11_days : MB := (yX11_days, cX11_days, 9, some .int)
theorem mwX11_days : Cond.initialized mX11_days.1.cls ∈ wA ∧ Cond.code mX11_days.1 mX11_days.2.1 mX11_days.2.2.1 mX11_days.2.2.2 ∈ wA ∧ (mX11_days.1.cls ≠ "java/lang/invoke/MethodHandle" ∧ mX11_days.1.cls ≠ "java/lang/invoke/VarHandle" ∧ (parseMethodDescriptor mX11_days.1.desc).map (fun d => d.parameters.length) = some 4) ∧ mX11_days.2.2.1 ≤ 15 := ⟨wA_t 1 (by decide +kernel) rfl, wA_t 699 (by decide +kernel) rfl, ⟨by decide +kernel, by decide +kernel, by decide +kernel⟩, by decide⟩
abbrev mX11_kind : MB := (yX11_kind, cX11_kind, 2, some .int)
theorem mwX11_kind : Cond.initialized mX11_kind.1.cls ∈ wA ∧ Cond.code mX11_kind.1 mX11_kind.2.1 mX11_kind.2.2.1 mX11_kind.2.2.2 ∈ wA ∧ (mX11_kind.1.cls ≠ "java/lang/invoke/MethodHandle" ∧ mX11_kind.1.cls ≠ "java/lang/invoke/VarHandle" ∧ (parseMethodDescriptor mX11_kind.1.desc).map (fun d => d.parameters.length) = some 1) ∧ mX11_kind.2.2.1 ≤ 15 := ⟨wA_t 1 (by decide +kernel) rfl, wA_t 703 (by decide +kernel) rfl, ⟨by decide +kernel, by decide +kernel, by decide +kernel⟩, by decide⟩
abbrev mX11_kindOf : MB := (yX11_kindOf, cX11_kindOf, 2, some .int)
theorem mwX11_kindOf : Cond.initialized mX11_kindOf.1.cls ∈ wA ∧ Cond.code mX11_kindOf.1 mX11_kindOf.2.1 mX11_kindOf.2.2.1 mX11_kindOf.2.2.2 ∈ wA ∧ (mX11_kindOf.1.cls ≠ "java/lang/invoke/MethodHandle" ∧ mX11_kindOf.1.cls ≠ "java/lang/invoke/VarHandle" ∧ (parseMethodDescriptor mX11_kindOf.1.desc).map (fun d => d.parameters.length) = some 1) ∧ mX11_kindOf.2.2.1 ≤ 15 := ⟨wA_t 1 (by decide +kernel) rfl, wA_t 707 (by decide +kernel) rfl, ⟨by decide +kernel, by decide +kernel, by decide +kernel⟩, by decide⟩
abbrev mX11_as : MB := (yX11_as, cX11_as, 5, some .int)
theorem mwX11_as : Cond.initialized mX11_as.1.cls ∈ wA ∧ Cond.code mX11_as.1 mX11_as.2.1 mX11_as.2.2.1 mX11_as.2.2.2 ∈ wA ∧ (mX11_as.1.cls ≠ "java/lang/invoke/MethodHandle" ∧ mX11_as.1.cls ≠ "java/lang/invoke/VarHandle" ∧ (parseMethodDescriptor mX11_as.1.desc).map (fun d => d.parameters.length) = some 2) ∧ mX11_as.2.2.1 ≤ 15 := ⟨wA_t 1 (by decide +kernel) rfl, wA_t 711 (by decide +kernel) rfl, ⟨by decide +kernel, by decide +kernel, by decide +kernel⟩, by decide⟩
abbrev mX11_ask : MB := (yX11_ask, cX11_ask, 4, some .int)
theorem mwX11_ask : Cond.initialized mX11_ask.1.cls ∈ wA ∧ Cond.code mX11_ask.1 mX11_ask.2.1 mX11_ask.2.2.1 mX11_ask.2.2.2 ∈ wA ∧ (mX11_ask.1.cls ≠ "java/lang/invoke/MethodHandle" ∧ mX11_ask.1.cls ≠ "java/lang/invoke/VarHandle" ∧ (parseMethodDescriptor mX11_ask.1.desc).map (fun d => d.parameters.length) = some 2) ∧ mX11_ask.2.2.1 ≤ 15 := ⟨wA_t 1 (by decide +kernel) rfl, wA_t 715 (by decide +kernel) rfl, ⟨by decide +kernel, by decide +kernel, by decide +kernel⟩, by decide⟩
abbrev mX0_face : MB := (yX0_face, cX0_face, 4, none)
theorem mwX0_face : Cond.initialized mX0_face.1.cls ∈ wA ∧ Cond.code mX0_face.1 mX0_face.2.1 mX0_face.2.2.1 mX0_face.2.2.2 ∈ wA ∧ (mX0_face.1.cls ≠ "java/lang/invoke/MethodHandle" ∧ mX0_face.1.cls ≠ "java/lang/invoke/VarHandle" ∧ (parseMethodDescriptor mX0_face.1.desc).map (fun d => d.parameters.length) = some 3) ∧ mX0_face.2.2.1 ≤ 15 := ⟨wA_t 9 (by decide +kernel) rfl, wA_t 719 (by decide +kernel) rfl, ⟨by decide +kernel, by decide +kernel, by decide +kernel⟩, by decide⟩
abbrev mX0_size : MB := (yX0_size, cX0_size, 2, some .int)
theorem mwX0_size : Cond.initialized mX0_size.1.cls ∈ wA ∧ Cond.code mX0_size.1 mX0_size.2.1 mX0_size.2.2.1 mX0_size.2.2.2 ∈ wA ∧ (mX0_size.1.cls ≠ "java/lang/invoke/MethodHandle" ∧ mX0_size.1.cls ≠ "java/lang/invoke/VarHandle" ∧ (parseMethodDescriptor mX0_size.1.desc).map (fun d => d.parameters.length) = some 1) ∧ mX0_size.2.2.1 ≤ 15 := ⟨wA_t 9 (by decide +kernel) rfl, wA_t 723 (by decide +kernel) rfl, ⟨by decide +kernel, by decide +kernel, by decide +kernel⟩, by decide⟩
abbrev mX0_sizeOfSeen : MB := (yX0_sizeOfSeen, cX0_sizeOfSeen, 1, some .int)
theorem mwX0_sizeOfSeen : Cond.initialized mX0_sizeOfSeen.1.cls ∈ wA ∧ Cond.code mX0_sizeOfSeen.1 mX0_sizeOfSeen.2.1 mX0_sizeOfSeen.2.2.1 mX0_sizeOfSeen.2.2.2 ∈ wA ∧ (mX0_sizeOfSeen.1.cls ≠ "java/lang/invoke/MethodHandle" ∧ mX0_sizeOfSeen.1.cls ≠ "java/lang/invoke/VarHandle" ∧ (parseMethodDescriptor mX0_sizeOfSeen.1.desc).map (fun d => d.parameters.length) = some 0) ∧ mX0_sizeOfSeen.2.2.1 ≤ 15 := ⟨wA_t 9 (by decide +kernel) rfl, wA_t 727 (by decide +kernel) rfl, ⟨by decide +kernel, by decide +kernel, by decide +kernel⟩, by decide⟩
abbrev mX0_begin : MB := (yX0_begin, cX0_begin, 2, none)
theorem mwX0_begin : Cond.initialized mX0_begin.1.cls ∈ wA ∧ Cond.code mX0_begin.1 mX0_begin.2.1 mX0_begin.2.2.1 mX0_begin.2.2.2 ∈ wA ∧ (mX0_begin.1.cls ≠ "java/lang/invoke/MethodHandle" ∧ mX0_begin.1.cls ≠ "java/lang/invoke/VarHandle" ∧ (parseMethodDescriptor mX0_begin.1.desc).map (fun d => d.parameters.length) = some 1) ∧ mX0_begin.2.2.1 ≤ 15 := ⟨wA_t 9 (by decide +kernel) rfl, wA_t 731 (by decide +kernel) rfl, ⟨by decide +kernel, by decide +kernel, by decide +kernel⟩, by decide⟩
abbrev mX0_sizeLent : MB := (yX0_sizeLent, cX0_sizeLent, 1, some .int)
theorem mwX0_sizeLent : Cond.initialized mX0_sizeLent.1.cls ∈ wA ∧ Cond.code mX0_sizeLent.1 mX0_sizeLent.2.1 mX0_sizeLent.2.2.1 mX0_sizeLent.2.2.2 ∈ wA ∧ (mX0_sizeLent.1.cls ≠ "java/lang/invoke/MethodHandle" ∧ mX0_sizeLent.1.cls ≠ "java/lang/invoke/VarHandle" ∧ (parseMethodDescriptor mX0_sizeLent.1.desc).map (fun d => d.parameters.length) = some 0) ∧ mX0_sizeLent.2.2.1 ≤ 15 := ⟨wA_t 9 (by decide +kernel) rfl, wA_t 735 (by decide +kernel) rfl, ⟨by decide +kernel, by decide +kernel, by decide +kernel⟩, by decide⟩
abbrev mX0_sizeOfSharp : MB := (yX0_sizeOfSharp, cX0_sizeOfSharp, 1, some .int)
theorem mwX0_sizeOfSharp : Cond.initialized mX0_sizeOfSharp.1.cls ∈ wA ∧ Cond.code mX0_sizeOfSharp.1 mX0_sizeOfSharp.2.1 mX0_sizeOfSharp.2.2.1 mX0_sizeOfSharp.2.2.2 ∈ wA ∧ (mX0_sizeOfSharp.1.cls ≠ "java/lang/invoke/MethodHandle" ∧ mX0_sizeOfSharp.1.cls ≠ "java/lang/invoke/VarHandle" ∧ (parseMethodDescriptor mX0_sizeOfSharp.1.desc).map (fun d => d.parameters.length) = some 0) ∧ mX0_sizeOfSharp.2.2.1 ≤ 15 := ⟨wA_t 9 (by decide +kernel) rfl, wA_t 739 (by decide +kernel) rfl, ⟨by decide +kernel, by decide +kernel, by decide +kernel⟩, by decide⟩
abbrev mX0_sizeOfLost : MB := (yX0_sizeOfLost, cX0_sizeOfLost, 2, some .int)
theorem mwX0_sizeOfLost : Cond.initialized mX0_sizeOfLost.1.cls ∈ wA ∧ Cond.code mX0_sizeOfLost.1 mX0_sizeOfLost.2.1 mX0_sizeOfLost.2.2.1 mX0_sizeOfLost.2.2.2 ∈ wA ∧ (mX0_sizeOfLost.1.cls ≠ "java/lang/invoke/MethodHandle" ∧ mX0_sizeOfLost.1.cls ≠ "java/lang/invoke/VarHandle" ∧ (parseMethodDescriptor mX0_sizeOfLost.1.desc).map (fun d => d.parameters.length) = some 0) ∧ mX0_sizeOfLost.2.2.1 ≤ 15 := ⟨wA_t 9 (by decide +kernel) rfl, wA_t 743 (by decide +kernel) rfl, ⟨by decide +kernel, by decide +kernel, by decide +kernel⟩, by decide⟩
abbrev mX0_signOfLost : MB := (yX0_signOfLost, cX0_signOfLost, 1, some .int)
theorem mwX0_signOfLost : Cond.initialized mX0_signOfLost.1.cls ∈ wA ∧ Cond.code mX0_signOfLost.1 mX0_signOfLost.2.1 mX0_signOfLost.2.2.1 mX0_signOfLost.2.2.2 ∈ wA ∧ (mX0_signOfLost.1.cls ≠ "java/lang/invoke/MethodHandle" ∧ mX0_signOfLost.1.cls ≠ "java/lang/invoke/VarHandle" ∧ (parseMethodDescriptor mX0_signOfLost.1.desc).map (fun d => d.parameters.length) = some 0) ∧ mX0_signOfLost.2.2.1 ≤ 15 := ⟨wA_t 9 (by decide +kernel) rfl, wA_t 747 (by decide +kernel) rfl, ⟨by decide +kernel, by decide +kernel, by decide +kernel⟩, by decide⟩
abbrev mX0_signLent : MB := (yX0_signLent, cX0_signLent, 1, some .int)
theorem mwX0_signLent : Cond.initialized mX0_signLent.1.cls ∈ wA ∧ Cond.code mX0_signLent.1 mX0_signLent.2.1 mX0_signLent.2.2.1 mX0_signLent.2.2.2 ∈ wA ∧ (mX0_signLent.1.cls ≠ "java/lang/invoke/MethodHandle" ∧ mX0_signLent.1.cls ≠ "java/lang/invoke/VarHandle" ∧ (parseMethodDescriptor mX0_signLent.1.desc).map (fun d => d.parameters.length) = some 0) ∧ mX0_signLent.2.2.1 ≤ 15 := ⟨wA_t 9 (by decide +kernel) rfl, wA_t 751 (by decide +kernel) rfl, ⟨by decide +kernel, by decide +kernel, by decide +kernel⟩, by decide⟩
abbrev mX0_sign : MB := (yX0_sign, cX0_sign, 2, some .int)
theorem mwX0_sign : Cond.initialized mX0_sign.1.cls ∈ wA ∧ Cond.code mX0_sign.1 mX0_sign.2.1 mX0_sign.2.2.1 mX0_sign.2.2.2 ∈ wA ∧ (mX0_sign.1.cls ≠ "java/lang/invoke/MethodHandle" ∧ mX0_sign.1.cls ≠ "java/lang/invoke/VarHandle" ∧ (parseMethodDescriptor mX0_sign.1.desc).map (fun d => d.parameters.length) = some 1) ∧ mX0_sign.2.2.1 ≤ 15 := ⟨wA_t 9 (by decide +kernel) rfl, wA_t 755 (by decide +kernel) rfl, ⟨by decide +kernel, by decide +kernel, by decide +kernel⟩, by decide⟩
abbrev mX0_signOfSeen : MB := (yX0_signOfSeen, cX0_signOfSeen, 1, some .int)
theorem mwX0_signOfSeen : Cond.initialized mX0_signOfSeen.1.cls ∈ wA ∧ Cond.code mX0_signOfSeen.1 mX0_signOfSeen.2.1 mX0_signOfSeen.2.2.1 mX0_signOfSeen.2.2.2 ∈ wA ∧ (mX0_signOfSeen.1.cls ≠ "java/lang/invoke/MethodHandle" ∧ mX0_signOfSeen.1.cls ≠ "java/lang/invoke/VarHandle" ∧ (parseMethodDescriptor mX0_signOfSeen.1.desc).map (fun d => d.parameters.length) = some 0) ∧ mX0_signOfSeen.2.2.1 ≤ 15 := ⟨wA_t 9 (by decide +kernel) rfl, wA_t 759 (by decide +kernel) rfl, ⟨by decide +kernel, by decide +kernel, by decide +kernel⟩, by decide⟩
abbrev mX0_signOfSharp : MB := (yX0_signOfSharp, cX0_signOfSharp, 2, some .int)
theorem mwX0_signOfSharp : Cond.initialized mX0_signOfSharp.1.cls ∈ wA ∧ Cond.code mX0_signOfSharp.1 mX0_signOfSharp.2.1 mX0_signOfSharp.2.2.1 mX0_signOfSharp.2.2.2 ∈ wA ∧ (mX0_signOfSharp.1.cls ≠ "java/lang/invoke/MethodHandle" ∧ mX0_signOfSharp.1.cls ≠ "java/lang/invoke/VarHandle" ∧ (parseMethodDescriptor mX0_signOfSharp.1.desc).map (fun d => d.parameters.length) = some 0) ∧ mX0_signOfSharp.2.2.1 ≤ 15 := ⟨wA_t 9 (by decide +kernel) rfl, wA_t 763 (by decide +kernel) rfl, ⟨by decide +kernel, by decide +kernel, by decide +kernel⟩, by decide⟩
abbrev mX11_trace : MB := (yX11_trace, cX11_trace, 2, some .int)
theorem mwX11_trace : Cond.initialized mX11_trace.1.cls ∈ wA ∧ Cond.code mX11_trace.1 mX11_trace.2.1 mX11_trace.2.2.1 mX11_trace.2.2.2 ∈ wA ∧ (mX11_trace.1.cls ≠ "java/lang/invoke/MethodHandle" ∧ mX11_trace.1.cls ≠ "java/lang/invoke/VarHandle" ∧ (parseMethodDescriptor mX11_trace.1.desc).map (fun d => d.parameters.length) = some 1) ∧ mX11_trace.2.2.1 ≤ 15 := ⟨wA_t 1 (by decide +kernel) rfl, wA_t 767 (by decide +kernel) rfl, ⟨by decide +kernel, by decide +kernel, by decide +kernel⟩, by decide⟩
abbrev mX11_count : MB := (yX11_count, cX11_count, 2, some .int)
theorem mwX11_count : Cond.initialized mX11_count.1.cls ∈ wA ∧ Cond.code mX11_count.1 mX11_count.2.1 mX11_count.2.2.1 mX11_count.2.2.2 ∈ wA ∧ (mX11_count.1.cls ≠ "java/lang/invoke/MethodHandle" ∧ mX11_count.1.cls ≠ "java/lang/invoke/VarHandle" ∧ (parseMethodDescriptor mX11_count.1.desc).map (fun d => d.parameters.length) = some 1) ∧ mX11_count.2.2.1 ≤ 15 := ⟨wA_t 1 (by decide +kernel) rfl, wA_t 771 (by decide +kernel) rfl, ⟨by decide +kernel, by decide +kernel, by decide +kernel⟩, by decide⟩
abbrev mX11_sheetsLaid : MB := (yX11_sheetsLaid, cX11_sheetsLaid, 3, some .int)
theorem mwX11_sheetsLaid : Cond.initialized mX11_sheetsLaid.1.cls ∈ wA ∧ Cond.code mX11_sheetsLaid.1 mX11_sheetsLaid.2.1 mX11_sheetsLaid.2.2.1 mX11_sheetsLaid.2.2.2 ∈ wA ∧ (mX11_sheetsLaid.1.cls ≠ "java/lang/invoke/MethodHandle" ∧ mX11_sheetsLaid.1.cls ≠ "java/lang/invoke/VarHandle" ∧ (parseMethodDescriptor mX11_sheetsLaid.1.desc).map (fun d => d.parameters.length) = some 0) ∧ mX11_sheetsLaid.2.2.1 ≤ 15 := ⟨wA_t 1 (by decide +kernel) rfl, wA_t 775 (by decide +kernel) rfl, ⟨by decide +kernel, by decide +kernel, by decide +kernel⟩, by decide⟩
abbrev mX11_thingsToldAs : MB := (yX11_thingsToldAs, cX11_thingsToldAs, 4, some .int)
theorem mwX11_thingsToldAs : Cond.initialized mX11_thingsToldAs.1.cls ∈ wA ∧ Cond.code mX11_thingsToldAs.1 mX11_thingsToldAs.2.1 mX11_thingsToldAs.2.2.1 mX11_thingsToldAs.2.2.2 ∈ wA ∧ (mX11_thingsToldAs.1.cls ≠ "java/lang/invoke/MethodHandle" ∧ mX11_thingsToldAs.1.cls ≠ "java/lang/invoke/VarHandle" ∧ (parseMethodDescriptor mX11_thingsToldAs.1.desc).map (fun d => d.parameters.length) = some 1) ∧ mX11_thingsToldAs.2.2.1 ≤ 15 := ⟨wA_t 1 (by decide +kernel) rfl, wA_t 779 (by decide +kernel) rfl, ⟨by decide +kernel, by decide +kernel, by decide +kernel⟩, by decide⟩
abbrev mX11_marksOnPaper : MB := (yX11_marksOnPaper, cX11_marksOnPaper, 3, some .int)
theorem mwX11_marksOnPaper : Cond.initialized mX11_marksOnPaper.1.cls ∈ wA ∧ Cond.code mX11_marksOnPaper.1 mX11_marksOnPaper.2.1 mX11_marksOnPaper.2.2.1 mX11_marksOnPaper.2.2.2 ∈ wA ∧ (mX11_marksOnPaper.1.cls ≠ "java/lang/invoke/MethodHandle" ∧ mX11_marksOnPaper.1.cls ≠ "java/lang/invoke/VarHandle" ∧ (parseMethodDescriptor mX11_marksOnPaper.1.desc).map (fun d => d.parameters.length) = some 0) ∧ mX11_marksOnPaper.2.2.1 ≤ 15 := ⟨wA_t 1 (by decide +kernel) rfl, wA_t 783 (by decide +kernel) rfl, ⟨by decide +kernel, by decide +kernel, by decide +kernel⟩, by decide⟩
abbrev mX11_tracesMarked : MB := (yX11_tracesMarked, cX11_tracesMarked, 3, some .int)
theorem mwX11_tracesMarked : Cond.initialized mX11_tracesMarked.1.cls ∈ wA ∧ Cond.code mX11_tracesMarked.1 mX11_tracesMarked.2.1 mX11_tracesMarked.2.2.1 mX11_tracesMarked.2.2.2 ∈ wA ∧ (mX11_tracesMarked.1.cls ≠ "java/lang/invoke/MethodHandle" ∧ mX11_tracesMarked.1.cls ≠ "java/lang/invoke/VarHandle" ∧ (parseMethodDescriptor mX11_tracesMarked.1.desc).map (fun d => d.parameters.length) = some 0) ∧ mX11_tracesMarked.2.2.1 ≤ 15 := ⟨wA_t 1 (by decide +kernel) rfl, wA_t 787 (by decide +kernel) rfl, ⟨by decide +kernel, by decide +kernel, by decide +kernel⟩, by decide⟩
abbrev mX11_status : MB := (yX11_status, cX11_status, 1, some .int)
theorem mwX11_status : Cond.initialized mX11_status.1.cls ∈ wA ∧ Cond.code mX11_status.1 mX11_status.2.1 mX11_status.2.2.1 mX11_status.2.2.2 ∈ wA ∧ (mX11_status.1.cls ≠ "java/lang/invoke/MethodHandle" ∧ mX11_status.1.cls ≠ "java/lang/invoke/VarHandle" ∧ (parseMethodDescriptor mX11_status.1.desc).map (fun d => d.parameters.length) = some 0) ∧ mX11_status.2.2.1 ≤ 15 := ⟨wA_t 1 (by decide +kernel) rfl, wA_t 791 (by decide +kernel) rfl, ⟨by decide +kernel, by decide +kernel, by decide +kernel⟩, by decide⟩
abbrev mX12_init : MB := (yX12_init, cX12_init, 1, none)
theorem mwX12_init : Cond.initialized mX12_init.1.cls ∈ wA ∧ Cond.code mX12_init.1 mX12_init.2.1 mX12_init.2.2.1 mX12_init.2.2.2 ∈ wA ∧ (mX12_init.1.cls ≠ "java/lang/invoke/MethodHandle" ∧ mX12_init.1.cls ≠ "java/lang/invoke/VarHandle" ∧ (parseMethodDescriptor mX12_init.1.desc).map (fun d => d.parameters.length) = some 0) ∧ mX12_init.2.2.1 ≤ 15 := ⟨wA_t 13 (by decide +kernel) rfl, wA_t 796 (by decide +kernel) rfl, ⟨by decide +kernel, by decide +kernel, by decide +kernel⟩, by decide⟩
abbrev mX12_sheet : MB := (yX12_sheet, cX12_sheet, 5, some .int)
theorem mwX12_sheet : Cond.initialized mX12_sheet.1.cls ∈ wA ∧ Cond.code mX12_sheet.1 mX12_sheet.2.1 mX12_sheet.2.2.1 mX12_sheet.2.2.2 ∈ wA ∧ (mX12_sheet.1.cls ≠ "java/lang/invoke/MethodHandle" ∧ mX12_sheet.1.cls ≠ "java/lang/invoke/VarHandle" ∧ (parseMethodDescriptor mX12_sheet.1.desc).map (fun d => d.parameters.length) = some 3) ∧ mX12_sheet.2.2.1 ≤ 15 := ⟨wA_t 13 (by decide +kernel) rfl, wA_t 889 (by decide +kernel) rfl, ⟨by decide +kernel, by decide +kernel, by decide +kernel⟩, by decide⟩
abbrev mX12_isSheet : MB := (yX12_isSheet, cX12_isSheet, 1, some .boolean)
theorem mwX12_isSheet : Cond.initialized mX12_isSheet.1.cls ∈ wA ∧ Cond.code mX12_isSheet.1 mX12_isSheet.2.1 mX12_isSheet.2.2.1 mX12_isSheet.2.2.2 ∈ wA ∧ (mX12_isSheet.1.cls ≠ "java/lang/invoke/MethodHandle" ∧ mX12_isSheet.1.cls ≠ "java/lang/invoke/VarHandle" ∧ (parseMethodDescriptor mX12_isSheet.1.desc).map (fun d => d.parameters.length) = some 1) ∧ mX12_isSheet.2.2.1 ≤ 15 := ⟨wA_t 13 (by decide +kernel) rfl, wA_t 892 (by decide +kernel) rfl, ⟨by decide +kernel, by decide +kernel, by decide +kernel⟩, by decide⟩
abbrev mX12_in : MB := (yX12_in, cX12_in, 6, some .boolean)
theorem mwX12_in : Cond.initialized mX12_in.1.cls ∈ wA ∧ Cond.code mX12_in.1 mX12_in.2.1 mX12_in.2.2.1 mX12_in.2.2.2 ∈ wA ∧ (mX12_in.1.cls ≠ "java/lang/invoke/MethodHandle" ∧ mX12_in.1.cls ≠ "java/lang/invoke/VarHandle" ∧ (parseMethodDescriptor mX12_in.1.desc).map (fun d => d.parameters.length) = some 3) ∧ mX12_in.2.2.1 ≤ 15 := ⟨wA_t 13 (by decide +kernel) rfl, wA_t 896 (by decide +kernel) rfl, ⟨by decide +kernel, by decide +kernel, by decide +kernel⟩, by decide⟩
abbrev mX12_found : MB := (yX12_found, cX12_found, 2, some .int)
theorem mwX12_found : Cond.initialized mX12_found.1.cls ∈ wA ∧ Cond.code mX12_found.1 mX12_found.2.1 mX12_found.2.2.1 mX12_found.2.2.2 ∈ wA ∧ (mX12_found.1.cls ≠ "java/lang/invoke/MethodHandle" ∧ mX12_found.1.cls ≠ "java/lang/invoke/VarHandle" ∧ (parseMethodDescriptor mX12_found.1.desc).map (fun d => d.parameters.length) = some 1) ∧ mX12_found.2.2.1 ≤ 15 := ⟨wA_t 13 (by decide +kernel) rfl, wA_t 902 (by decide +kernel) rfl, ⟨by decide +kernel, by decide +kernel, by decide +kernel⟩, by decide⟩
abbrev mX12_set : MB := (yX12_set, cX12_set, 4, some .int)
theorem mwX12_set : Cond.initialized mX12_set.1.cls ∈ wA ∧ Cond.code mX12_set.1 mX12_set.2.1 mX12_set.2.2.1 mX12_set.2.2.2 ∈ wA ∧ (mX12_set.1.cls ≠ "java/lang/invoke/MethodHandle" ∧ mX12_set.1.cls ≠ "java/lang/invoke/VarHandle" ∧ (parseMethodDescriptor mX12_set.1.desc).map (fun d => d.parameters.length) = some 3) ∧ mX12_set.2.2.1 ≤ 15 := ⟨wA_t 13 (by decide +kernel) rfl, wA_t 907 (by decide +kernel) rfl, ⟨by decide +kernel, by decide +kernel, by decide +kernel⟩, by decide⟩
abbrev mX12_copy : MB := (yX12_copy, cX12_copy, 9, some .int)
theorem mwX12_copy : Cond.initialized mX12_copy.1.cls ∈ wA ∧ Cond.code mX12_copy.1 mX12_copy.2.1 mX12_copy.2.2.1 mX12_copy.2.2.2 ∈ wA ∧ (mX12_copy.1.cls ≠ "java/lang/invoke/MethodHandle" ∧ mX12_copy.1.cls ≠ "java/lang/invoke/VarHandle" ∧ (parseMethodDescriptor mX12_copy.1.desc).map (fun d => d.parameters.length) = some 5) ∧ mX12_copy.2.2.1 ≤ 15 := ⟨wA_t 13 (by decide +kernel) rfl, wA_t 911 (by decide +kernel) rfl, ⟨by decide +kernel, by decide +kernel, by decide +kernel⟩, by decide⟩
abbrev mX12_drop : MB := (yX12_drop, cX12_drop, 2, some .int)
theorem mwX12_drop : Cond.initialized mX12_drop.1.cls ∈ wA ∧ Cond.code mX12_drop.1 mX12_drop.2.1 mX12_drop.2.2.1 mX12_drop.2.2.2 ∈ wA ∧ (mX12_drop.1.cls ≠ "java/lang/invoke/MethodHandle" ∧ mX12_drop.1.cls ≠ "java/lang/invoke/VarHandle" ∧ (parseMethodDescriptor mX12_drop.1.desc).map (fun d => d.parameters.length) = some 1) ∧ mX12_drop.2.2.1 ≤ 15 := ⟨wA_t 13 (by decide +kernel) rfl, wA_t 915 (by decide +kernel) rfl, ⟨by decide +kernel, by decide +kernel, by decide +kernel⟩, by decide⟩
abbrev mX12_room : MB := (yX12_room, cX12_room, 6, some .int)
theorem mwX12_room : Cond.initialized mX12_room.1.cls ∈ wA ∧ Cond.code mX12_room.1 mX12_room.2.1 mX12_room.2.2.1 mX12_room.2.2.2 ∈ wA ∧ (mX12_room.1.cls ≠ "java/lang/invoke/MethodHandle" ∧ mX12_room.1.cls ≠ "java/lang/invoke/VarHandle" ∧ (parseMethodDescriptor mX12_room.1.desc).map (fun d => d.parameters.length) = some 2) ∧ mX12_room.2.2.1 ≤ 15 := ⟨wA_t 13 (by decide +kernel) rfl, wA_t 919 (by decide +kernel) rfl, ⟨by decide +kernel, by decide +kernel, by decide +kernel⟩, by decide⟩
abbrev mX12_bend : MB := (yX12_bend, cX12_bend, 4, some .int)
theorem mwX12_bend : Cond.initialized mX12_bend.1.cls ∈ wA ∧ Cond.code mX12_bend.1 mX12_bend.2.1 mX12_bend.2.2.1 mX12_bend.2.2.2 ∈ wA ∧ (mX12_bend.1.cls ≠ "java/lang/invoke/MethodHandle" ∧ mX12_bend.1.cls ≠ "java/lang/invoke/VarHandle" ∧ (parseMethodDescriptor mX12_bend.1.desc).map (fun d => d.parameters.length) = some 2) ∧ mX12_bend.2.2.1 ≤ 15 := ⟨wA_t 13 (by decide +kernel) rfl, wA_t 924 (by decide +kernel) rfl, ⟨by decide +kernel, by decide +kernel, by decide +kernel⟩, by decide⟩
abbrev mX12_told : MB := (yX12_told, cX12_told, 2, some .int)
theorem mwX12_told : Cond.initialized mX12_told.1.cls ∈ wA ∧ Cond.code mX12_told.1 mX12_told.2.1 mX12_told.2.2.1 mX12_told.2.2.2 ∈ wA ∧ (mX12_told.1.cls ≠ "java/lang/invoke/MethodHandle" ∧ mX12_told.1.cls ≠ "java/lang/invoke/VarHandle" ∧ (parseMethodDescriptor mX12_told.1.desc).map (fun d => d.parameters.length) = some 1) ∧ mX12_told.2.2.1 ≤ 15 := ⟨wA_t 13 (by decide +kernel) rfl, wA_t 932 (by decide +kernel) rfl, ⟨by decide +kernel, by decide +kernel, by decide +kernel⟩, by decide⟩
abbrev mX12_thing : MB := (yX12_thing, cX12_thing, 4, some .int)
theorem mwX12_thing : Cond.initialized mX12_thing.1.cls ∈ wA ∧ Cond.code mX12_thing.1 mX12_thing.2.1 mX12_thing.2.2.1 mX12_thing.2.2.2 ∈ wA ∧ (mX12_thing.1.cls ≠ "java/lang/invoke/MethodHandle" ∧ mX12_thing.1.cls ≠ "java/lang/invoke/VarHandle" ∧ (parseMethodDescriptor mX12_thing.1.desc).map (fun d => d.parameters.length) = some 3) ∧ mX12_thing.2.2.1 ≤ 15 := ⟨wA_t 13 (by decide +kernel) rfl, wA_t 937 (by decide +kernel) rfl, ⟨by decide +kernel, by decide +kernel, by decide +kernel⟩, by decide⟩
abbrev mX12_isPlace : MB := (yX12_isPlace, cX12_isPlace, 3, some .boolean)
theorem mwX12_isPlace : Cond.initialized mX12_isPlace.1.cls ∈ wA ∧ Cond.code mX12_isPlace.1 mX12_isPlace.2.1 mX12_isPlace.2.2.1 mX12_isPlace.2.2.2 ∈ wA ∧ (mX12_isPlace.1.cls ≠ "java/lang/invoke/MethodHandle" ∧ mX12_isPlace.1.cls ≠ "java/lang/invoke/VarHandle" ∧ (parseMethodDescriptor mX12_isPlace.1.desc).map (fun d => d.parameters.length) = some 3) ∧ mX12_isPlace.2.2.1 ≤ 15 := ⟨wA_t 13 (by decide +kernel) rfl, wA_t 940 (by decide +kernel) rfl, ⟨by decide +kernel, by decide +kernel, by decide +kernel⟩, by decide⟩
abbrev mX12_move : MB := (yX12_move, cX12_move, 5, some .int)
theorem mwX12_move : Cond.initialized mX12_move.1.cls ∈ wA ∧ Cond.code mX12_move.1 mX12_move.2.1 mX12_move.2.2.1 mX12_move.2.2.2 ∈ wA ∧ (mX12_move.1.cls ≠ "java/lang/invoke/MethodHandle" ∧ mX12_move.1.cls ≠ "java/lang/invoke/VarHandle" ∧ (parseMethodDescriptor mX12_move.1.desc).map (fun d => d.parameters.length) = some 4) ∧ mX12_move.2.2.1 ≤ 15 := ⟨wA_t 13 (by decide +kernel) rfl, wA_t 948 (by decide +kernel) rfl, ⟨by decide +kernel, by decide +kernel, by decide +kernel⟩, by decide⟩
abbrev mX12_isThing : MB := (yX12_isThing, cX12_isThing, 2, some .boolean)
theorem mwX12_isThing : Cond.initialized mX12_isThing.1.cls ∈ wA ∧ Cond.code mX12_isThing.1 mX12_isThing.2.1 mX12_isThing.2.2.1 mX12_isThing.2.2.2 ∈ wA ∧ (mX12_isThing.1.cls ≠ "java/lang/invoke/MethodHandle" ∧ mX12_isThing.1.cls ≠ "java/lang/invoke/VarHandle" ∧ (parseMethodDescriptor mX12_isThing.1.desc).map (fun d => d.parameters.length) = some 1) ∧ mX12_isThing.2.2.1 ≤ 15 := ⟨wA_t 13 (by decide +kernel) rfl, wA_t 952 (by decide +kernel) rfl, ⟨by decide +kernel, by decide +kernel, by decide +kernel⟩, by decide⟩
abbrev mX12_picture : MB := (yX12_picture, cX12_picture, 4, some .int)
theorem mwX12_picture : Cond.initialized mX12_picture.1.cls ∈ wA ∧ Cond.code mX12_picture.1 mX12_picture.2.1 mX12_picture.2.2.1 mX12_picture.2.2.2 ∈ wA ∧ (mX12_picture.1.cls ≠ "java/lang/invoke/MethodHandle" ∧ mX12_picture.1.cls ≠ "java/lang/invoke/VarHandle" ∧ (parseMethodDescriptor mX12_picture.1.desc).map (fun d => d.parameters.length) = some 2) ∧ mX12_picture.2.2.1 ≤ 15 := ⟨wA_t 13 (by decide +kernel) rfl, wA_t 956 (by decide +kernel) rfl, ⟨by decide +kernel, by decide +kernel, by decide +kernel⟩, by decide⟩
abbrev mX12_firstOf : MB := (yX12_firstOf, cX12_firstOf, 3, some .int)
theorem mwX12_firstOf : Cond.initialized mX12_firstOf.1.cls ∈ wA ∧ Cond.code mX12_firstOf.1 mX12_firstOf.2.1 mX12_firstOf.2.2.1 mX12_firstOf.2.2.2 ∈ wA ∧ (mX12_firstOf.1.cls ≠ "java/lang/invoke/MethodHandle" ∧ mX12_firstOf.1.cls ≠ "java/lang/invoke/VarHandle" ∧ (parseMethodDescriptor mX12_firstOf.1.desc).map (fun d => d.parameters.length) = some 2) ∧ mX12_firstOf.2.2.1 ≤ 15 := ⟨wA_t 13 (by decide +kernel) rfl, wA_t 960 (by decide +kernel) rfl, ⟨by decide +kernel, by decide +kernel, by decide +kernel⟩, by decide⟩
abbrev mX12_columnOf : MB := (yX12_columnOf, cX12_columnOf, 5, some .int)
theorem mwX12_columnOf : Cond.initialized mX12_columnOf.1.cls ∈ wA ∧ Cond.code mX12_columnOf.1 mX12_columnOf.2.1 mX12_columnOf.2.2.1 mX12_columnOf.2.2.2 ∈ wA ∧ (mX12_columnOf.1.cls ≠ "java/lang/invoke/MethodHandle" ∧ mX12_columnOf.1.cls ≠ "java/lang/invoke/VarHandle" ∧ (parseMethodDescriptor mX12_columnOf.1.desc).map (fun d => d.parameters.length) = some 2) ∧ mX12_columnOf.2.2.1 ≤ 15 := ⟨wA_t 13 (by decide +kernel) rfl, wA_t 964 (by decide +kernel) rfl, ⟨by decide +kernel, by decide +kernel, by decide +kernel⟩, by decide⟩
abbrev mX12_farBy : MB := (yX12_farBy, cX12_farBy, 4, some .int)
theorem mwX12_farBy : Cond.initialized mX12_farBy.1.cls ∈ wA ∧ Cond.code mX12_farBy.1 mX12_farBy.2.1 mX12_farBy.2.2.1 mX12_farBy.2.2.2 ∈ wA ∧ (mX12_farBy.1.cls ≠ "java/lang/invoke/MethodHandle" ∧ mX12_farBy.1.cls ≠ "java/lang/invoke/VarHandle" ∧ (parseMethodDescriptor mX12_farBy.1.desc).map (fun d => d.parameters.length) = some 2) ∧ mX12_farBy.2.2.1 ≤ 15 := ⟨wA_t 13 (by decide +kernel) rfl, wA_t 968 (by decide +kernel) rfl, ⟨by decide +kernel, by decide +kernel, by decide +kernel⟩, by decide⟩
abbrev mX12_acrossOf : MB := (yX12_acrossOf, cX12_acrossOf, 2, some .int)
theorem mwX12_acrossOf : Cond.initialized mX12_acrossOf.1.cls ∈ wA ∧ Cond.code mX12_acrossOf.1 mX12_acrossOf.2.1 mX12_acrossOf.2.2.1 mX12_acrossOf.2.2.2 ∈ wA ∧ (mX12_acrossOf.1.cls ≠ "java/lang/invoke/MethodHandle" ∧ mX12_acrossOf.1.cls ≠ "java/lang/invoke/VarHandle" ∧ (parseMethodDescriptor mX12_acrossOf.1.desc).map (fun d => d.parameters.length) = some 1) ∧ mX12_acrossOf.2.2.1 ≤ 15 := ⟨wA_t 13 (by decide +kernel) rfl, wA_t 972 (by decide +kernel) rfl, ⟨by decide +kernel, by decide +kernel, by decide +kernel⟩, by decide⟩
abbrev mX12_downOf : MB := (yX12_downOf, cX12_downOf, 3, some .int)
theorem mwX12_downOf : Cond.initialized mX12_downOf.1.cls ∈ wA ∧ Cond.code mX12_downOf.1 mX12_downOf.2.1 mX12_downOf.2.2.1 mX12_downOf.2.2.2 ∈ wA ∧ (mX12_downOf.1.cls ≠ "java/lang/invoke/MethodHandle" ∧ mX12_downOf.1.cls ≠ "java/lang/invoke/VarHandle" ∧ (parseMethodDescriptor mX12_downOf.1.desc).map (fun d => d.parameters.length) = some 1) ∧ mX12_downOf.2.2.1 ≤ 15 := ⟨wA_t 13 (by decide +kernel) rfl, wA_t 976 (by decide +kernel) rfl, ⟨by decide +kernel, by decide +kernel, by decide +kernel⟩, by decide⟩
abbrev mX12_blurOf : MB := (yX12_blurOf, cX12_blurOf, 2, some .int)
theorem mwX12_blurOf : Cond.initialized mX12_blurOf.1.cls ∈ wA ∧ Cond.code mX12_blurOf.1 mX12_blurOf.2.1 mX12_blurOf.2.2.1 mX12_blurOf.2.2.2 ∈ wA ∧ (mX12_blurOf.1.cls ≠ "java/lang/invoke/MethodHandle" ∧ mX12_blurOf.1.cls ≠ "java/lang/invoke/VarHandle" ∧ (parseMethodDescriptor mX12_blurOf.1.desc).map (fun d => d.parameters.length) = some 1) ∧ mX12_blurOf.2.2.1 ≤ 15 := ⟨wA_t 13 (by decide +kernel) rfl, wA_t 980 (by decide +kernel) rfl, ⟨by decide +kernel, by decide +kernel, by decide +kernel⟩, by decide⟩
abbrev mX12_blurBy : MB := (yX12_blurBy, cX12_blurBy, 5, some .int)
theorem mwX12_blurBy : Cond.initialized mX12_blurBy.1.cls ∈ wA ∧ Cond.code mX12_blurBy.1 mX12_blurBy.2.1 mX12_blurBy.2.2.1 mX12_blurBy.2.2.2 ∈ wA ∧ (mX12_blurBy.1.cls ≠ "java/lang/invoke/MethodHandle" ∧ mX12_blurBy.1.cls ≠ "java/lang/invoke/VarHandle" ∧ (parseMethodDescriptor mX12_blurBy.1.desc).map (fun d => d.parameters.length) = some 2) ∧ mX12_blurBy.2.2.1 ≤ 15 := ⟨wA_t 13 (by decide +kernel) rfl, wA_t 984 (by decide +kernel) rfl, ⟨by decide +kernel, by decide +kernel, by decide +kernel⟩, by decide⟩
abbrev mX12_size : MB := (yX12_size, cX12_size, 1, some .int)
theorem mwX12_size : Cond.initialized mX12_size.1.cls ∈ wA ∧ Cond.code mX12_size.1 mX12_size.2.1 mX12_size.2.2.1 mX12_size.2.2.2 ∈ wA ∧ (mX12_size.1.cls ≠ "java/lang/invoke/MethodHandle" ∧ mX12_size.1.cls ≠ "java/lang/invoke/VarHandle" ∧ (parseMethodDescriptor mX12_size.1.desc).map (fun d => d.parameters.length) = some 1) ∧ mX12_size.2.2.1 ≤ 15 := ⟨wA_t 13 (by decide +kernel) rfl, wA_t 987 (by decide +kernel) rfl, ⟨by decide +kernel, by decide +kernel, by decide +kernel⟩, by decide⟩
abbrev mX12_focused : MB := (yX12_focused, cX12_focused, 7, some .int)
theorem mwX12_focused : Cond.initialized mX12_focused.1.cls ∈ wA ∧ Cond.code mX12_focused.1 mX12_focused.2.1 mX12_focused.2.2.1 mX12_focused.2.2.2 ∈ wA ∧ (mX12_focused.1.cls ≠ "java/lang/invoke/MethodHandle" ∧ mX12_focused.1.cls ≠ "java/lang/invoke/VarHandle" ∧ (parseMethodDescriptor mX12_focused.1.desc).map (fun d => d.parameters.length) = some 2) ∧ mX12_focused.2.2.1 ≤ 15 := ⟨wA_t 13 (by decide +kernel) rfl, wA_t 991 (by decide +kernel) rfl, ⟨by decide +kernel, by decide +kernel, by decide +kernel⟩, by decide⟩
abbrev mX12_bent : MB := (yX12_bent, cX12_bent, 12, some .int)
theorem mwX12_bent : Cond.initialized mX12_bent.1.cls ∈ wA ∧ Cond.code mX12_bent.1 mX12_bent.2.1 mX12_bent.2.2.1 mX12_bent.2.2.2 ∈ wA ∧ (mX12_bent.1.cls ≠ "java/lang/invoke/MethodHandle" ∧ mX12_bent.1.cls ≠ "java/lang/invoke/VarHandle" ∧ (parseMethodDescriptor mX12_bent.1.desc).map (fun d => d.parameters.length) = some 0) ∧ mX12_bent.2.2.1 ≤ 15 := ⟨wA_t 13 (by decide +kernel) rfl, wA_t 995 (by decide +kernel) rfl, ⟨by decide +kernel, by decide +kernel, by decide +kernel⟩, by decide⟩
abbrev mX12_mark : MB := (yX12_mark, cX12_mark, 6, some .int)
theorem mwX12_mark : Cond.initialized mX12_mark.1.cls ∈ wA ∧ Cond.code mX12_mark.1 mX12_mark.2.1 mX12_mark.2.2.1 mX12_mark.2.2.2 ∈ wA ∧ (mX12_mark.1.cls ≠ "java/lang/invoke/MethodHandle" ∧ mX12_mark.1.cls ≠ "java/lang/invoke/VarHandle" ∧ (parseMethodDescriptor mX12_mark.1.desc).map (fun d => d.parameters.length) = some 4) ∧ mX12_mark.2.2.1 ≤ 15 := ⟨wA_t 13 (by decide +kernel) rfl, wA_t 1000 (by decide +kernel) rfl, ⟨by decide +kernel, by decide +kernel, by decide +kernel⟩, by decide⟩
abbrev mX12_isTrace : MB := (yX12_isTrace, cX12_isTrace, 1, some .boolean)
theorem mwX12_isTrace : Cond.initialized mX12_isTrace.1.cls ∈ wA ∧ Cond.code mX12_isTrace.1 mX12_isTrace.2.1 mX12_isTrace.2.2.1 mX12_isTrace.2.2.2 ∈ wA ∧ (mX12_isTrace.1.cls ≠ "java/lang/invoke/MethodHandle" ∧ mX12_isTrace.1.cls ≠ "java/lang/invoke/VarHandle" ∧ (parseMethodDescriptor mX12_isTrace.1.desc).map (fun d => d.parameters.length) = some 1) ∧ mX12_isTrace.2.2.1 ≤ 15 := ⟨wA_t 13 (by decide +kernel) rfl, wA_t 1003 (by decide +kernel) rfl, ⟨by decide +kernel, by decide +kernel, by decide +kernel⟩, by decide⟩
abbrev mX12_isNumber : MB := (yX12_isNumber, cX12_isNumber, 1, some .boolean)
theorem mwX12_isNumber : Cond.initialized mX12_isNumber.1.cls ∈ wA ∧ Cond.code mX12_isNumber.1 mX12_isNumber.2.1 mX12_isNumber.2.2.1 mX12_isNumber.2.2.2 ∈ wA ∧ (mX12_isNumber.1.cls ≠ "java/lang/invoke/MethodHandle" ∧ mX12_isNumber.1.cls ≠ "java/lang/invoke/VarHandle" ∧ (parseMethodDescriptor mX12_isNumber.1.desc).map (fun d => d.parameters.length) = some 1) ∧ mX12_isNumber.2.2.1 ≤ 15 := ⟨wA_t 13 (by decide +kernel) rfl, wA_t 1006 (by decide +kernel) rfl, ⟨by decide +kernel, by decide +kernel, by decide +kernel⟩, by decide⟩
abbrev mX12_rub : MB := (yX12_rub, cX12_rub, 4, some .int)
theorem mwX12_rub : Cond.initialized mX12_rub.1.cls ∈ wA ∧ Cond.code mX12_rub.1 mX12_rub.2.1 mX12_rub.2.2.1 mX12_rub.2.2.2 ∈ wA ∧ (mX12_rub.1.cls ≠ "java/lang/invoke/MethodHandle" ∧ mX12_rub.1.cls ≠ "java/lang/invoke/VarHandle" ∧ (parseMethodDescriptor mX12_rub.1.desc).map (fun d => d.parameters.length) = some 2) ∧ mX12_rub.2.2.1 ≤ 15 := ⟨wA_t 13 (by decide +kernel) rfl, wA_t 1010 (by decide +kernel) rfl, ⟨by decide +kernel, by decide +kernel, by decide +kernel⟩, by decide⟩
abbrev mX12_draw : MB := (yX12_draw, cX12_draw, 4, some .int)
theorem mwX12_draw : Cond.initialized mX12_draw.1.cls ∈ wA ∧ Cond.code mX12_draw.1 mX12_draw.2.1 mX12_draw.2.2.1 mX12_draw.2.2.2 ∈ wA ∧ (mX12_draw.1.cls ≠ "java/lang/invoke/MethodHandle" ∧ mX12_draw.1.cls ≠ "java/lang/invoke/VarHandle" ∧ (parseMethodDescriptor mX12_draw.1.desc).map (fun d => d.parameters.length) = some 1) ∧ mX12_draw.2.2.1 ≤ 15 := ⟨wA_t 13 (by decide +kernel) rfl, wA_t 1014 (by decide +kernel) rfl, ⟨by decide +kernel, by decide +kernel, by decide +kernel⟩, by decide⟩
abbrev mX12_isSeen : MB := (yX12_isSeen, cX12_isSeen, 2, some .boolean)
theorem mwX12_isSeen : Cond.initialized mX12_isSeen.1.cls ∈ wA ∧ Cond.code mX12_isSeen.1 mX12_isSeen.2.1 mX12_isSeen.2.2.1 mX12_isSeen.2.2.2 ∈ wA ∧ (mX12_isSeen.1.cls ≠ "java/lang/invoke/MethodHandle" ∧ mX12_isSeen.1.cls ≠ "java/lang/invoke/VarHandle" ∧ (parseMethodDescriptor mX12_isSeen.1.desc).map (fun d => d.parameters.length) = some 1) ∧ mX12_isSeen.2.2.1 ≤ 15 := ⟨wA_t 13 (by decide +kernel) rfl, wA_t 1018 (by decide +kernel) rfl, ⟨by decide +kernel, by decide +kernel, by decide +kernel⟩, by decide⟩
abbrev mX12_marked : MB := (yX12_marked, cX12_marked, 4, some .int)
theorem mwX12_marked : Cond.initialized mX12_marked.1.cls ∈ wA ∧ Cond.code mX12_marked.1 mX12_marked.2.1 mX12_marked.2.2.1 mX12_marked.2.2.2 ∈ wA ∧ (mX12_marked.1.cls ≠ "java/lang/invoke/MethodHandle" ∧ mX12_marked.1.cls ≠ "java/lang/invoke/VarHandle" ∧ (parseMethodDescriptor mX12_marked.1.desc).map (fun d => d.parameters.length) = some 3) ∧ mX12_marked.2.2.1 ≤ 15 := ⟨wA_t 13 (by decide +kernel) rfl, wA_t 1022 (by decide +kernel) rfl, ⟨by decide +kernel, by decide +kernel, by decide +kernel⟩, by decide⟩
abbrev mX12_joined : MB := (yX12_joined, cX12_joined, 4, some .int)
theorem mwX12_joined : Cond.initialized mX12_joined.1.cls ∈ wA ∧ Cond.code mX12_joined.1 mX12_joined.2.1 mX12_joined.2.2.1 mX12_joined.2.2.2 ∈ wA ∧ (mX12_joined.1.cls ≠ "java/lang/invoke/MethodHandle" ∧ mX12_joined.1.cls ≠ "java/lang/invoke/VarHandle" ∧ (parseMethodDescriptor mX12_joined.1.desc).map (fun d => d.parameters.length) = some 3) ∧ mX12_joined.2.2.1 ≤ 15 := ⟨wA_t 13 (by decide +kernel) rfl, wA_t 1027 (by decide +kernel) rfl, ⟨by decide +kernel, by decide +kernel, by decide +kernel⟩, by decide⟩
abbrev mX12_join : MB := (yX12_join, cX12_join, 5, none)
theorem mwX12_join : Cond.initialized mX12_join.1.cls ∈ wA ∧ Cond.code mX12_join.1 mX12_join.2.1 mX12_join.2.2.1 mX12_join.2.2.2 ∈ wA ∧ (mX12_join.1.cls ≠ "java/lang/invoke/MethodHandle" ∧ mX12_join.1.cls ≠ "java/lang/invoke/VarHandle" ∧ (parseMethodDescriptor mX12_join.1.desc).map (fun d => d.parameters.length) = some 2) ∧ mX12_join.2.2.1 ≤ 15 := ⟨wA_t 13 (by decide +kernel) rfl, wA_t 1032 (by decide +kernel) rfl, ⟨by decide +kernel, by decide +kernel, by decide +kernel⟩, by decide⟩
abbrev mX12_middle : MB := (yX12_middle, cX12_middle, 4, some .int)
theorem mwX12_middle : Cond.initialized mX12_middle.1.cls ∈ wA ∧ Cond.code mX12_middle.1 mX12_middle.2.1 mX12_middle.2.2.1 mX12_middle.2.2.2 ∈ wA ∧ (mX12_middle.1.cls ≠ "java/lang/invoke/MethodHandle" ∧ mX12_middle.1.cls ≠ "java/lang/invoke/VarHandle" ∧ (parseMethodDescriptor mX12_middle.1.desc).map (fun d => d.parameters.length) = some 0) ∧ mX12_middle.2.2.1 ≤ 15 := ⟨wA_t 13 (by decide +kernel) rfl, wA_t 1036 (by decide +kernel) rfl, ⟨by decide +kernel, by decide +kernel, by decide +kernel⟩, by decide⟩
abbrev mX12_sumFrom : MB := (yX12_sumFrom, cX12_sumFrom, 4, some .int)
theorem mwX12_sumFrom : Cond.initialized mX12_sumFrom.1.cls ∈ wA ∧ Cond.code mX12_sumFrom.1 mX12_sumFrom.2.1 mX12_sumFrom.2.2.1 mX12_sumFrom.2.2.2 ∈ wA ∧ (mX12_sumFrom.1.cls ≠ "java/lang/invoke/MethodHandle" ∧ mX12_sumFrom.1.cls ≠ "java/lang/invoke/VarHandle" ∧ (parseMethodDescriptor mX12_sumFrom.1.desc).map (fun d => d.parameters.length) = some 1) ∧ mX12_sumFrom.2.2.1 ≤ 15 := ⟨wA_t 13 (by decide +kernel) rfl, wA_t 1040 (by decide +kernel) rfl, ⟨by decide +kernel, by decide +kernel, by decide +kernel⟩, by decide⟩
abbrev mX12_round : MB := (yX12_round, cX12_round, 3, some .int)
theorem mwX12_round : Cond.initialized mX12_round.1.cls ∈ wA ∧ Cond.code mX12_round.1 mX12_round.2.1 mX12_round.2.2.1 mX12_round.2.2.2 ∈ wA ∧ (mX12_round.1.cls ≠ "java/lang/invoke/MethodHandle" ∧ mX12_round.1.cls ≠ "java/lang/invoke/VarHandle" ∧ (parseMethodDescriptor mX12_round.1.desc).map (fun d => d.parameters.length) = some 2) ∧ mX12_round.2.2.1 ≤ 15 := ⟨wA_t 13 (by decide +kernel) rfl, wA_t 1044 (by decide +kernel) rfl, ⟨by decide +kernel, by decide +kernel, by decide +kernel⟩, by decide⟩
abbrev mX12_goRound : MB := (yX12_goRound, cX12_goRound, 3, some .boolean)
theorem mwX12_goRound : Cond.initialized mX12_goRound.1.cls ∈ wA ∧ Cond.code mX12_goRound.1 mX12_goRound.2.1 mX12_goRound.2.2.1 mX12_goRound.2.2.2 ∈ wA ∧ (mX12_goRound.1.cls ≠ "java/lang/invoke/MethodHandle" ∧ mX12_goRound.1.cls ≠ "java/lang/invoke/VarHandle" ∧ (parseMethodDescriptor mX12_goRound.1.desc).map (fun d => d.parameters.length) = some 1) ∧ mX12_goRound.2.2.1 ≤ 15 := ⟨wA_t 13 (by decide +kernel) rfl, wA_t 1048 (by decide +kernel) rfl, ⟨by decide +kernel, by decide +kernel, by decide +kernel⟩, by decide⟩
abbrev mX12_around : MB := (yX12_around, cX12_around, 8, some .int)
theorem mwX12_around : Cond.initialized mX12_around.1.cls ∈ wA ∧ Cond.code mX12_around.1 mX12_around.2.1 mX12_around.2.2.1 mX12_around.2.2.2 ∈ wA ∧ (mX12_around.1.cls ≠ "java/lang/invoke/MethodHandle" ∧ mX12_around.1.cls ≠ "java/lang/invoke/VarHandle" ∧ (parseMethodDescriptor mX12_around.1.desc).map (fun d => d.parameters.length) = some 3) ∧ mX12_around.2.2.1 ≤ 15 := ⟨wA_t 13 (by decide +kernel) rfl, wA_t 1052 (by decide +kernel) rfl, ⟨by decide +kernel, by decide +kernel, by decide +kernel⟩, by decide⟩
abbrev mX12_stand : MB := (yX12_stand, cX12_stand, 6, some .int)
theorem mwX12_stand : Cond.initialized mX12_stand.1.cls ∈ wA ∧ Cond.code mX12_stand.1 mX12_stand.2.1 mX12_stand.2.2.1 mX12_stand.2.2.2 ∈ wA ∧ (mX12_stand.1.cls ≠ "java/lang/invoke/MethodHandle" ∧ mX12_stand.1.cls ≠ "java/lang/invoke/VarHandle" ∧ (parseMethodDescriptor mX12_stand.1.desc).map (fun d => d.parameters.length) = some 5) ∧ mX12_stand.2.2.1 ≤ 15 := ⟨wA_t 13 (by decide +kernel) rfl, wA_t 1056 (by decide +kernel) rfl, ⟨by decide +kernel, by decide +kernel, by decide +kernel⟩, by decide⟩
abbrev mX12_far : MB := (yX12_far, cX12_far, 4, some .long)
theorem mwX12_far : Cond.initialized mX12_far.1.cls ∈ wA ∧ Cond.code mX12_far.1 mX12_far.2.1 mX12_far.2.2.1 mX12_far.2.2.2 ∈ wA ∧ (mX12_far.1.cls ≠ "java/lang/invoke/MethodHandle" ∧ mX12_far.1.cls ≠ "java/lang/invoke/VarHandle" ∧ (parseMethodDescriptor mX12_far.1.desc).map (fun d => d.parameters.length) = some 3) ∧ mX12_far.2.2.1 ≤ 15 := ⟨wA_t 13 (by decide +kernel) rfl, wA_t 1060 (by decide +kernel) rfl, ⟨by decide +kernel, by decide +kernel, by decide +kernel⟩, by decide⟩
abbrev mX12_isSight : MB := (yX12_isSight, cX12_isSight, 1, some .boolean)
theorem mwX12_isSight : Cond.initialized mX12_isSight.1.cls ∈ wA ∧ Cond.code mX12_isSight.1 mX12_isSight.2.1 mX12_isSight.2.2.1 mX12_isSight.2.2.2 ∈ wA ∧ (mX12_isSight.1.cls ≠ "java/lang/invoke/MethodHandle" ∧ mX12_isSight.1.cls ≠ "java/lang/invoke/VarHandle" ∧ (parseMethodDescriptor mX12_isSight.1.desc).map (fun d => d.parameters.length) = some 1) ∧ mX12_isSight.2.2.1 ≤ 15 := ⟨wA_t 13 (by decide +kernel) rfl, wA_t 1063 (by decide +kernel) rfl, ⟨by decide +kernel, by decide +kernel, by decide +kernel⟩, by decide⟩
abbrev mX12_see : MB := (yX12_see, cX12_see, 8, some .boolean)
theorem mwX12_see : Cond.initialized mX12_see.1.cls ∈ wA ∧ Cond.code mX12_see.1 mX12_see.2.1 mX12_see.2.2.1 mX12_see.2.2.2 ∈ wA ∧ (mX12_see.1.cls ≠ "java/lang/invoke/MethodHandle" ∧ mX12_see.1.cls ≠ "java/lang/invoke/VarHandle" ∧ (parseMethodDescriptor mX12_see.1.desc).map (fun d => d.parameters.length) = some 2) ∧ mX12_see.2.2.1 ≤ 15 := ⟨wA_t 13 (by decide +kernel) rfl, wA_t 1068 (by decide +kernel) rfl, ⟨by decide +kernel, by decide +kernel, by decide +kernel⟩, by decide⟩
abbrev mX12_high : MB := (yX12_high, cX12_high, 6, some .long)
theorem mwX12_high : Cond.initialized mX12_high.1.cls ∈ wA ∧ Cond.code mX12_high.1 mX12_high.2.1 mX12_high.2.2.1 mX12_high.2.2.2 ∈ wA ∧ (mX12_high.1.cls ≠ "java/lang/invoke/MethodHandle" ∧ mX12_high.1.cls ≠ "java/lang/invoke/VarHandle" ∧ (parseMethodDescriptor mX12_high.1.desc).map (fun d => d.parameters.length) = some 3) ∧ mX12_high.2.2.1 ≤ 15 := ⟨wA_t 13 (by decide +kernel) rfl, wA_t 1073 (by decide +kernel) rfl, ⟨by decide +kernel, by decide +kernel, by decide +kernel⟩, by decide⟩
abbrev mX12_span : MB := (yX12_span, cX12_span, 12, some .long)
theorem mwX12_span : Cond.initialized mX12_span.1.cls ∈ wA ∧ Cond.code mX12_span.1 mX12_span.2.1 mX12_span.2.2.1 mX12_span.2.2.2 ∈ wA ∧ (mX12_span.1.cls ≠ "java/lang/invoke/MethodHandle" ∧ mX12_span.1.cls ≠ "java/lang/invoke/VarHandle" ∧ (parseMethodDescriptor mX12_span.1.desc).map (fun d => d.parameters.length) = some 4) ∧ mX12_span.2.2.1 ≤ 15 := ⟨wA_t 13 (by decide +kernel) rfl, wA_t 1077 (by decide +kernel) rfl, ⟨by decide +kernel, by decide +kernel, by decide +kernel⟩, by decide⟩
abbrev mX12_studio : MB := (yX12_studio, cX12_studio, 10, some .int)
theorem mwX12_studio : Cond.initialized mX12_studio.1.cls ∈ wA ∧ Cond.code mX12_studio.1 mX12_studio.2.1 mX12_studio.2.2.1 mX12_studio.2.2.2 ∈ wA ∧ (mX12_studio.1.cls ≠ "java/lang/invoke/MethodHandle" ∧ mX12_studio.1.cls ≠ "java/lang/invoke/VarHandle" ∧ (parseMethodDescriptor mX12_studio.1.desc).map (fun d => d.parameters.length) = some 7) ∧ mX12_studio.2.2.1 ≤ 15 := ⟨wA_t 13 (by decide +kernel) rfl, wA_t 1082 (by decide +kernel) rfl, ⟨by decide +kernel, by decide +kernel, by decide +kernel⟩, by decide⟩
abbrev mX12_lookStudios : MB := (yX12_lookStudios, cX12_lookStudios, 7, some .int)
theorem mwX12_lookStudios : Cond.initialized mX12_lookStudios.1.cls ∈ wA ∧ Cond.code mX12_lookStudios.1 mX12_lookStudios.2.1 mX12_lookStudios.2.2.1 mX12_lookStudios.2.2.2 ∈ wA ∧ (mX12_lookStudios.1.cls ≠ "java/lang/invoke/MethodHandle" ∧ mX12_lookStudios.1.cls ≠ "java/lang/invoke/VarHandle" ∧ (parseMethodDescriptor mX12_lookStudios.1.desc).map (fun d => d.parameters.length) = some 4) ∧ mX12_lookStudios.2.2.1 ≤ 15 := ⟨wA_t 13 (by decide +kernel) rfl, wA_t 1086 (by decide +kernel) rfl, ⟨by decide +kernel, by decide +kernel, by decide +kernel⟩, by decide⟩
abbrev mX12_misfitOf : MB := (yX12_misfitOf, cX12_misfitOf, 5, some .int)
theorem mwX12_misfitOf : Cond.initialized mX12_misfitOf.1.cls ∈ wA ∧ Cond.code mX12_misfitOf.1 mX12_misfitOf.2.1 mX12_misfitOf.2.2.1 mX12_misfitOf.2.2.2 ∈ wA ∧ (mX12_misfitOf.1.cls ≠ "java/lang/invoke/MethodHandle" ∧ mX12_misfitOf.1.cls ≠ "java/lang/invoke/VarHandle" ∧ (parseMethodDescriptor mX12_misfitOf.1.desc).map (fun d => d.parameters.length) = some 2) ∧ mX12_misfitOf.2.2.1 ≤ 15 := ⟨wA_t 13 (by decide +kernel) rfl, wA_t 1090 (by decide +kernel) rfl, ⟨by decide +kernel, by decide +kernel, by decide +kernel⟩, by decide⟩
abbrev mX12_puts : MB := (yX12_puts, cX12_puts, 6, some .boolean)
theorem mwX12_puts : Cond.initialized mX12_puts.1.cls ∈ wA ∧ Cond.code mX12_puts.1 mX12_puts.2.1 mX12_puts.2.2.1 mX12_puts.2.2.2 ∈ wA ∧ (mX12_puts.1.cls ≠ "java/lang/invoke/MethodHandle" ∧ mX12_puts.1.cls ≠ "java/lang/invoke/VarHandle" ∧ (parseMethodDescriptor mX12_puts.1.desc).map (fun d => d.parameters.length) = some 3) ∧ mX12_puts.2.2.1 ≤ 15 := ⟨wA_t 13 (by decide +kernel) rfl, wA_t 1094 (by decide +kernel) rfl, ⟨by decide +kernel, by decide +kernel, by decide +kernel⟩, by decide⟩
abbrev mX12_isMade : MB := (yX12_isMade, cX12_isMade, 6, some .boolean)
theorem mwX12_isMade : Cond.initialized mX12_isMade.1.cls ∈ wA ∧ Cond.code mX12_isMade.1 mX12_isMade.2.1 mX12_isMade.2.2.1 mX12_isMade.2.2.2 ∈ wA ∧ (mX12_isMade.1.cls ≠ "java/lang/invoke/MethodHandle" ∧ mX12_isMade.1.cls ≠ "java/lang/invoke/VarHandle" ∧ (parseMethodDescriptor mX12_isMade.1.desc).map (fun d => d.parameters.length) = some 3) ∧ mX12_isMade.2.2.1 ≤ 15 := ⟨wA_t 13 (by decide +kernel) rfl, wA_t 1098 (by decide +kernel) rfl, ⟨by decide +kernel, by decide +kernel, by decide +kernel⟩, by decide⟩
abbrev mX12_studios : MB := (yX12_studios, cX12_studios, 15, some .int)
theorem mwX12_studios : Cond.initialized mX12_studios.1.cls ∈ wA ∧ Cond.code mX12_studios.1 mX12_studios.2.1 mX12_studios.2.2.1 mX12_studios.2.2.2 ∈ wA ∧ (mX12_studios.1.cls ≠ "java/lang/invoke/MethodHandle" ∧ mX12_studios.1.cls ≠ "java/lang/invoke/VarHandle" ∧ (parseMethodDescriptor mX12_studios.1.desc).map (fun d => d.parameters.length) = some 6) ∧ mX12_studios.2.2.1 ≤ 15 := ⟨wA_t 13 (by decide +kernel) rfl, wA_t 1102 (by decide +kernel) rfl, ⟨by decide +kernel, by decide +kernel, by decide +kernel⟩, by decide⟩
abbrev mX12_spot : MB := (yX12_spot, cX12_spot, 5, some .int)
theorem mwX12_spot : Cond.initialized mX12_spot.1.cls ∈ wA ∧ Cond.code mX12_spot.1 mX12_spot.2.1 mX12_spot.2.2.1 mX12_spot.2.2.2 ∈ wA ∧ (mX12_spot.1.cls ≠ "java/lang/invoke/MethodHandle" ∧ mX12_spot.1.cls ≠ "java/lang/invoke/VarHandle" ∧ (parseMethodDescriptor mX12_spot.1.desc).map (fun d => d.parameters.length) = some 4) ∧ mX12_spot.2.2.1 ≤ 15 := ⟨wA_t 13 (by decide +kernel) rfl, wA_t 1106 (by decide +kernel) rfl, ⟨by decide +kernel, by decide +kernel, by decide +kernel⟩, by decide⟩
abbrev mX12_spotOf : MB := (yX12_spotOf, cX12_spotOf, 5, some .int)
theorem mwX12_spotOf : Cond.initialized mX12_spotOf.1.cls ∈ wA ∧ Cond.code mX12_spotOf.1 mX12_spotOf.2.1 mX12_spotOf.2.2.1 mX12_spotOf.2.2.2 ∈ wA ∧ (mX12_spotOf.1.cls ≠ "java/lang/invoke/MethodHandle" ∧ mX12_spotOf.1.cls ≠ "java/lang/invoke/VarHandle" ∧ (parseMethodDescriptor mX12_spotOf.1.desc).map (fun d => d.parameters.length) = some 4) ∧ mX12_spotOf.2.2.1 ≤ 15 := ⟨wA_t 13 (by decide +kernel) rfl, wA_t 1111 (by decide +kernel) rfl, ⟨by decide +kernel, by decide +kernel, by decide +kernel⟩, by decide⟩
abbrev mX12_days : MB := (yX12_days, cX12_days, 8, some .int)
theorem mwX12_days : Cond.initialized mX12_days.1.cls ∈ wA ∧ Cond.code mX12_days.1 mX12_days.2.1 mX12_days.2.2.1 mX12_days.2.2.2 ∈ wA ∧ (mX12_days.1.cls ≠ "java/lang/invoke/MethodHandle" ∧ mX12_days.1.cls ≠ "java/lang/invoke/VarHandle" ∧ (parseMethodDescriptor mX12_days.1.desc).map (fun d => d.parameters.length) = some 4) ∧ mX12_days.2.2.1 ≤ 15 := ⟨wA_t 13 (by decide +kernel) rfl, wA_t 1115 (by decide +kernel) rfl, ⟨by decide +kernel, by decide +kernel, by decide +kernel⟩, by decide⟩
abbrev mX12_kind : MB := (yX12_kind, cX12_kind, 2, some .int)
theorem mwX12_kind : Cond.initialized mX12_kind.1.cls ∈ wA ∧ Cond.code mX12_kind.1 mX12_kind.2.1 mX12_kind.2.2.1 mX12_kind.2.2.2 ∈ wA ∧ (mX12_kind.1.cls ≠ "java/lang/invoke/MethodHandle" ∧ mX12_kind.1.cls ≠ "java/lang/invoke/VarHandle" ∧ (parseMethodDescriptor mX12_kind.1.desc).map (fun d => d.parameters.length) = some 1) ∧ mX12_kind.2.2.1 ≤ 15 := ⟨wA_t 13 (by decide +kernel) rfl, wA_t 1119 (by decide +kernel) rfl, ⟨by decide +kernel, by decide +kernel, by decide +kernel⟩, by decide⟩
abbrev mX12_kindOf : MB := (yX12_kindOf, cX12_kindOf, 2, some .int)
theorem mwX12_kindOf : Cond.initialized mX12_kindOf.1.cls ∈ wA ∧ Cond.code mX12_kindOf.1 mX12_kindOf.2.1 mX12_kindOf.2.2.1 mX12_kindOf.2.2.2 ∈ wA ∧ (mX12_kindOf.1.cls ≠ "java/lang/invoke/MethodHandle" ∧ mX12_kindOf.1.cls ≠ "java/lang/invoke/VarHandle" ∧ (parseMethodDescriptor mX12_kindOf.1.desc).map (fun d => d.parameters.length) = some 1) ∧ mX12_kindOf.2.2.1 ≤ 15 := ⟨wA_t 13 (by decide +kernel) rfl, wA_t 1123 (by decide +kernel) rfl, ⟨by decide +kernel, by decide +kernel, by decide +kernel⟩, by decide⟩
abbrev mX12_as : MB := (yX12_as, cX12_as, 3, some .int)
theorem mwX12_as : Cond.initialized mX12_as.1.cls ∈ wA ∧ Cond.code mX12_as.1 mX12_as.2.1 mX12_as.2.2.1 mX12_as.2.2.2 ∈ wA ∧ (mX12_as.1.cls ≠ "java/lang/invoke/MethodHandle" ∧ mX12_as.1.cls ≠ "java/lang/invoke/VarHandle" ∧ (parseMethodDescriptor mX12_as.1.desc).map (fun d => d.parameters.length) = some 2) ∧ mX12_as.2.2.1 ≤ 15 := ⟨wA_t 13 (by decide +kernel) rfl, wA_t 1127 (by decide +kernel) rfl, ⟨by decide +kernel, by decide +kernel, by decide +kernel⟩, by decide⟩
abbrev mX12_isOf : MB := (yX12_isOf, cX12_isOf, 2, some .boolean)
theorem mwX12_isOf : Cond.initialized mX12_isOf.1.cls ∈ wA ∧ Cond.code mX12_isOf.1 mX12_isOf.2.1 mX12_isOf.2.2.1 mX12_isOf.2.2.2 ∈ wA ∧ (mX12_isOf.1.cls ≠ "java/lang/invoke/MethodHandle" ∧ mX12_isOf.1.cls ≠ "java/lang/invoke/VarHandle" ∧ (parseMethodDescriptor mX12_isOf.1.desc).map (fun d => d.parameters.length) = some 2) ∧ mX12_isOf.2.2.1 ≤ 15 := ⟨wA_t 13 (by decide +kernel) rfl, wA_t 1130 (by decide +kernel) rfl, ⟨by decide +kernel, by decide +kernel, by decide +kernel⟩, by decide⟩
abbrev mX12_ask : MB := (yX12_ask, cX12_ask, 4, some .int)
theorem mwX12_ask : Cond.initialized mX12_ask.1.cls ∈ wA ∧ Cond.code mX12_ask.1 mX12_ask.2.1 mX12_ask.2.2.1 mX12_ask.2.2.2 ∈ wA ∧ (mX12_ask.1.cls ≠ "java/lang/invoke/MethodHandle" ∧ mX12_ask.1.cls ≠ "java/lang/invoke/VarHandle" ∧ (parseMethodDescriptor mX12_ask.1.desc).map (fun d => d.parameters.length) = some 2) ∧ mX12_ask.2.2.1 ≤ 15 := ⟨wA_t 13 (by decide +kernel) rfl, wA_t 1134 (by decide +kernel) rfl, ⟨by decide +kernel, by decide +kernel, by decide +kernel⟩, by decide⟩
abbrev mX12_markOf : MB := (yX12_markOf, cX12_markOf, 4, some .int)
theorem mwX12_markOf : Cond.initialized mX12_markOf.1.cls ∈ wA ∧ Cond.code mX12_markOf.1 mX12_markOf.2.1 mX12_markOf.2.2.1 mX12_markOf.2.2.2 ∈ wA ∧ (mX12_markOf.1.cls ≠ "java/lang/invoke/MethodHandle" ∧ mX12_markOf.1.cls ≠ "java/lang/invoke/VarHandle" ∧ (parseMethodDescriptor mX12_markOf.1.desc).map (fun d => d.parameters.length) = some 2) ∧ mX12_markOf.2.2.1 ≤ 15 := ⟨wA_t 13 (by decide +kernel) rfl, wA_t 1138 (by decide +kernel) rfl, ⟨by decide +kernel, by decide +kernel, by decide +kernel⟩, by decide⟩
abbrev mX12_began : MB := (yX12_began, cX12_began, 2, none)
theorem mwX12_began : Cond.initialized mX12_began.1.cls ∈ wA ∧ Cond.code mX12_began.1 mX12_began.2.1 mX12_began.2.2.1 mX12_began.2.2.2 ∈ wA ∧ (mX12_began.1.cls ≠ "java/lang/invoke/MethodHandle" ∧ mX12_began.1.cls ≠ "java/lang/invoke/VarHandle" ∧ (parseMethodDescriptor mX12_began.1.desc).map (fun d => d.parameters.length) = some 1) ∧ mX12_began.2.2.1 ≤ 15 := ⟨wA_t 13 (by decide +kernel) rfl, wA_t 1142 (by decide +kernel) rfl, ⟨by decide +kernel, by decide +kernel, by decide +kernel⟩, by decide⟩
abbrev mX12_seenSize : MB := (yX12_seenSize, cX12_seenSize, 4, some .int)
theorem mwX12_seenSize : Cond.initialized mX12_seenSize.1.cls ∈ wA ∧ Cond.code mX12_seenSize.1 mX12_seenSize.2.1 mX12_seenSize.2.2.1 mX12_seenSize.2.2.2 ∈ wA ∧ (mX12_seenSize.1.cls ≠ "java/lang/invoke/MethodHandle" ∧ mX12_seenSize.1.cls ≠ "java/lang/invoke/VarHandle" ∧ (parseMethodDescriptor mX12_seenSize.1.desc).map (fun d => d.parameters.length) = some 2) ∧ mX12_seenSize.2.2.1 ≤ 15 := ⟨wA_t 13 (by decide +kernel) rfl, wA_t 1146 (by decide +kernel) rfl, ⟨by decide +kernel, by decide +kernel, by decide +kernel⟩, by decide⟩
abbrev mX12_trace : MB := (yX12_trace, cX12_trace, 2, some .int)
theorem mwX12_trace : Cond.initialized mX12_trace.1.cls ∈ wA ∧ Cond.code mX12_trace.1 mX12_trace.2.1 mX12_trace.2.2.1 mX12_trace.2.2.2 ∈ wA ∧ (mX12_trace.1.cls ≠ "java/lang/invoke/MethodHandle" ∧ mX12_trace.1.cls ≠ "java/lang/invoke/VarHandle" ∧ (parseMethodDescriptor mX12_trace.1.desc).map (fun d => d.parameters.length) = some 1) ∧ mX12_trace.2.2.1 ≤ 15 := ⟨wA_t 13 (by decide +kernel) rfl, wA_t 1150 (by decide +kernel) rfl, ⟨by decide +kernel, by decide +kernel, by decide +kernel⟩, by decide⟩
abbrev mX12_count : MB := (yX12_count, cX12_count, 6, some .int)
theorem mwX12_count : Cond.initialized mX12_count.1.cls ∈ wA ∧ Cond.code mX12_count.1 mX12_count.2.1 mX12_count.2.2.1 mX12_count.2.2.2 ∈ wA ∧ (mX12_count.1.cls ≠ "java/lang/invoke/MethodHandle" ∧ mX12_count.1.cls ≠ "java/lang/invoke/VarHandle" ∧ (parseMethodDescriptor mX12_count.1.desc).map (fun d => d.parameters.length) = some 1) ∧ mX12_count.2.2.1 ≤ 15 := ⟨wA_t 13 (by decide +kernel) rfl, wA_t 1154 (by decide +kernel) rfl, ⟨by decide +kernel, by decide +kernel, by decide +kernel⟩, by decide⟩
abbrev mX12_status : MB := (yX12_status, cX12_status, 1, some .int)
theorem mwX12_status : Cond.initialized mX12_status.1.cls ∈ wA ∧ Cond.code mX12_status.1 mX12_status.2.1 mX12_status.2.2.1 mX12_status.2.2.2 ∈ wA ∧ (mX12_status.1.cls ≠ "java/lang/invoke/MethodHandle" ∧ mX12_status.1.cls ≠ "java/lang/invoke/VarHandle" ∧ (parseMethodDescriptor mX12_status.1.desc).map (fun d => d.parameters.length) = some 0) ∧ mX12_status.2.2.1 ≤ 15 := ⟨wA_t 13 (by decide +kernel) rfl, wA_t 1158 (by decide +kernel) rfl, ⟨by decide +kernel, by decide +kernel, by decide +kernel⟩, by decide⟩
theorem lkL_9 : IL RL 9 mX11_init 0 := ⟨⟨Or.inl (wA_t 18 (by decide +kernel) rfl), mwX11_init⟩, wA_t 19 (by decide +kernel) rfl, rfl, rfl⟩
theorem lkL_13 : VL RL 13 mX11_sheet 3 11 := ⟨⟨Or.inl (wA_t 301 (by decide +kernel) rfl), mwX11_sheet⟩, wA_t 302 (by decide +kernel) rfl, wA_t 303 (by decide +kernel) rfl, by decide, rfl⟩
theorem lkX11_90 : SL RX11 90 mX11_isSheet 1 := ⟨⟨Or.inl (wA_t 305 (by decide +kernel) rfl), mwX11_isSheet⟩, wA_t 306 (by decide +kernel) rfl⟩
theorem lkX11_94 : SL RX11 94 mX11_within 3 := ⟨⟨Or.inl (wA_t 308 (by decide +kernel) rfl), mwX11_within⟩, wA_t 309 (by decide +kernel) rfl⟩
theorem lkX11_99 : VL RX11 99 mX11_found 1 11 := ⟨⟨Or.inl (wA_t 312 (by decide +kernel) rfl), mwX11_found⟩, wA_t 314 (by decide +kernel) rfl, wA_p 0 (by decide +kernel) rfl, by decide, rfl⟩
theorem lkX11_107 : VL RX11 107 mX11_clean 1 11 := ⟨⟨Or.inl (wA_t 321 (by decide +kernel) rfl), mwX11_clean⟩, wA_t 323 (by decide +kernel) rfl, wA_p 2 (by decide +kernel) rfl, by decide, rfl⟩
theorem lkL_18 : VL RL 18 mX11_set 3 11 := ⟨⟨Or.inl (wA_t 325 (by decide +kernel) rfl), mwX11_set⟩, wA_t 326 (by decide +kernel) rfl, wA_t 327 (by decide +kernel) rfl, by decide, rfl⟩
theorem lkL_22 : VL RL 22 mX11_copy 5 11 := ⟨⟨Or.inl (wA_t 341 (by decide +kernel) rfl), mwX11_copy⟩, wA_t 342 (by decide +kernel) rfl, wA_t 343 (by decide +kernel) rfl, by decide, rfl⟩
theorem lkL_27 : VL RL 27 mX11_drop 1 11 := ⟨⟨Or.inl (wA_t 348 (by decide +kernel) rfl), mwX11_drop⟩, wA_t 349 (by decide +kernel) rfl, wA_t 350 (by decide +kernel) rfl, by decide, rfl⟩
theorem lkL_32 : VL RL 32 mX11_room 2 11 := ⟨⟨Or.inl (wA_t 356 (by decide +kernel) rfl), mwX11_room⟩, wA_t 357 (by decide +kernel) rfl, wA_t 358 (by decide +kernel) rfl, by decide, rfl⟩
theorem lkL_37 : VL RL 37 mX11_bend 2 11 := ⟨⟨Or.inl (wA_t 364 (by decide +kernel) rfl), mwX11_bend⟩, wA_t 365 (by decide +kernel) rfl, wA_t 366 (by decide +kernel) rfl, by decide, rfl⟩
theorem lkL_41 : VL RL 41 mX11_told 1 11 := ⟨⟨Or.inl (wA_t 368 (by decide +kernel) rfl), mwX11_told⟩, wA_t 369 (by decide +kernel) rfl, wA_t 370 (by decide +kernel) rfl, by decide, rfl⟩
theorem lkL_45 : VL RL 45 mX11_thing 3 11 := ⟨⟨Or.inl (wA_t 372 (by decide +kernel) rfl), mwX11_thing⟩, wA_t 373 (by decide +kernel) rfl, wA_t 374 (by decide +kernel) rfl, by decide, rfl⟩
theorem lkX11_151 : SL RX11 151 mX11_isPlace 3 := ⟨⟨Or.inl (wA_t 376 (by decide +kernel) rfl), mwX11_isPlace⟩, wA_t 377 (by decide +kernel) rfl⟩
theorem lkX11_219 : SL RX11 219 mX11_isFlatPlace 1 := ⟨⟨Or.inl (wA_t 379 (by decide +kernel) rfl), mwX11_isFlatPlace⟩, wA_t 380 (by decide +kernel) rfl⟩
theorem lkL_49 : VL RL 49 mX11_move 4 11 := ⟨⟨Or.inl (wA_t 387 (by decide +kernel) rfl), mwX11_move⟩, wA_t 388 (by decide +kernel) rfl, wA_t 389 (by decide +kernel) rfl, by decide, rfl⟩
theorem lkX11_159 : VL RX11 159 mX11_isThing 1 11 := ⟨⟨Or.inl (wA_t 391 (by decide +kernel) rfl), mwX11_isThing⟩, wA_t 393 (by decide +kernel) rfl, wA_p 8 (by decide +kernel) rfl, by decide, rfl⟩
theorem lkL_54 : VL RL 54 mX11_picture 2 11 := ⟨⟨Or.inl (wA_t 395 (by decide +kernel) rfl), mwX11_picture⟩, wA_t 396 (by decide +kernel) rfl, wA_t 397 (by decide +kernel) rfl, by decide, rfl⟩
theorem lkX4_34 : SL RX4 34 mJ9_floorDiv_7cf53 2 := ⟨⟨Or.inl (wA_t 412 (by decide +kernel) rfl), mwJ9_floorDiv_7cf53⟩, wA_t 413 (by decide +kernel) rfl⟩
theorem lkX4_39 : SL RX4 39 mJ9_min_7cf53 2 := ⟨⟨Or.inl (wA_t 415 (by decide +kernel) rfl), mwJ9_min_7cf53⟩, wA_t 416 (by decide +kernel) rfl⟩
theorem lkX4_42 : SL RX4 42 mJ9_max_7cf53 2 := ⟨⟨Or.inl (wA_t 418 (by decide +kernel) rfl), mwJ9_max_7cf53⟩, wA_t 419 (by decide +kernel) rfl⟩
theorem lkX4_53 : SL RX4 53 mJ9_abs_0f7a4 1 := ⟨⟨Or.inl (wA_t 430 (by decide +kernel) rfl), mwJ9_abs_0f7a4⟩, wA_t 431 (by decide +kernel) rfl⟩
theorem lkL_58 : VL RL 58 mX11_focused 2 11 := ⟨⟨Or.inl (wA_t 433 (by decide +kernel) rfl), mwX11_focused⟩, wA_t 434 (by decide +kernel) rfl, wA_t 435 (by decide +kernel) rfl, by decide, rfl⟩
theorem lkX4_65 : VL RX4 65 mX4_blurAt 2 4 := ⟨⟨Or.inl (wA_t 441 (by decide +kernel) rfl), mwX4_blurAt⟩, wA_t 443 (by decide +kernel) rfl, wA_p 13 (by decide +kernel) rfl, by decide, rfl⟩
theorem lkX4_56 : SL RX4 56 mX4_columnAt 2 := ⟨⟨Or.inl (wA_t 445 (by decide +kernel) rfl), mwX4_columnAt⟩, wA_t 446 (by decide +kernel) rfl⟩
theorem lkX4_45 : SL RX4 45 mX4_firstAt 2 := ⟨⟨Or.inl (wA_t 448 (by decide +kernel) rfl), mwX4_firstAt⟩, wA_t 404 (by decide +kernel) rfl⟩
theorem lkX4_49 : SL RX4 49 mX4_columnOf 1 := ⟨⟨Or.inl (wA_t 449 (by decide +kernel) rfl), mwX4_columnOf⟩, wA_t 410 (by decide +kernel) rfl⟩
theorem lkX4_59 : VL RX4 59 mX4_reach 2 4 := ⟨⟨Or.inl (wA_t 450 (by decide +kernel) rfl), mwX4_reach⟩, wA_t 423 (by decide +kernel) rfl, wA_p 10 (by decide +kernel) rfl, by decide, rfl⟩
theorem lkX4_62 : VL RX4 62 mX4_blurBy 2 4 := ⟨⟨Or.inl (wA_t 451 (by decide +kernel) rfl), mwX4_blurBy⟩, wA_t 428 (by decide +kernel) rfl, wA_p 11 (by decide +kernel) rfl, by decide, rfl⟩
theorem lkL_62 : VL RL 62 mX11_bent 0 11 := ⟨⟨Or.inl (wA_t 453 (by decide +kernel) rfl), mwX11_bent⟩, wA_t 454 (by decide +kernel) rfl, wA_t 455 (by decide +kernel) rfl, by decide, rfl⟩
theorem lkL_67 : VL RL 67 mX11_mark 4 11 := ⟨⟨Or.inl (wA_t 474 (by decide +kernel) rfl), mwX11_mark⟩, wA_t 475 (by decide +kernel) rfl, wA_t 476 (by decide +kernel) rfl, by decide, rfl⟩
theorem lkX11_213 : SL RX11 213 mX11_isTrace 1 := ⟨⟨Or.inl (wA_t 478 (by decide +kernel) rfl), mwX11_isTrace⟩, wA_t 479 (by decide +kernel) rfl⟩
theorem lkX11_216 : SL RX11 216 mX11_isNumber 1 := ⟨⟨Or.inl (wA_t 481 (by decide +kernel) rfl), mwX11_isNumber⟩, wA_t 482 (by decide +kernel) rfl⟩
theorem lkL_71 : VL RL 71 mX11_rub 2 11 := ⟨⟨Or.inl (wA_t 488 (by decide +kernel) rfl), mwX11_rub⟩, wA_t 489 (by decide +kernel) rfl, wA_t 490 (by decide +kernel) rfl, by decide, rfl⟩
theorem lkL_75 : VL RL 75 mX11_draw 1 11 := ⟨⟨Or.inl (wA_t 492 (by decide +kernel) rfl), mwX11_draw⟩, wA_t 493 (by decide +kernel) rfl, wA_t 494 (by decide +kernel) rfl, by decide, rfl⟩
theorem lkL_79 : VL RL 79 mX11_marked 3 11 := ⟨⟨Or.inl (wA_t 509 (by decide +kernel) rfl), mwX11_marked⟩, wA_t 510 (by decide +kernel) rfl, wA_t 511 (by decide +kernel) rfl, by decide, rfl⟩
theorem lkL_83 : VL RL 83 mX11_joined 3 11 := ⟨⟨Or.inl (wA_t 514 (by decide +kernel) rfl), mwX11_joined⟩, wA_t 515 (by decide +kernel) rfl, wA_t 516 (by decide +kernel) rfl, by decide, rfl⟩
theorem lkX5_19 : VL RX5 19 mX5_middle 0 5 := ⟨⟨Or.inl (wA_t 538 (by decide +kernel) rfl), mwX5_middle⟩, wA_t 540 (by decide +kernel) rfl, wA_p 27 (by decide +kernel) rfl, by decide, rfl⟩
theorem lkX5_23 : SL RX5 23 mJ9_abs_0f7a4 1 := ⟨⟨Or.inl (wA_t 542 (by decide +kernel) rfl), mwJ9_abs_0f7a4⟩, wA_t 431 (by decide +kernel) rfl⟩
theorem lkL_87 : VL RL 87 mX11_round 2 11 := ⟨⟨Or.inl (wA_t 552 (by decide +kernel) rfl), mwX11_round⟩, wA_t 553 (by decide +kernel) rfl, wA_t 554 (by decide +kernel) rfl, by decide, rfl⟩
theorem lkL_91 : VL RL 91 mX11_around 3 11 := ⟨⟨Or.inl (wA_t 565 (by decide +kernel) rfl), mwX11_around⟩, wA_t 566 (by decide +kernel) rfl, wA_t 567 (by decide +kernel) rfl, by decide, rfl⟩
theorem lkX11_268 : SL RX11 268 mX11_closed 3 := ⟨⟨Or.inl (wA_t 569 (by decide +kernel) rfl), mwX11_closed⟩, wA_t 570 (by decide +kernel) rfl⟩
theorem lkX11_272 : SL RX11 272 mX11_by 2 := ⟨⟨Or.inl (wA_t 572 (by decide +kernel) rfl), mwX11_by⟩, wA_t 407 (by decide +kernel) rfl⟩
theorem lkL_95 : VL RL 95 mX11_stand 5 11 := ⟨⟨Or.inl (wA_t 573 (by decide +kernel) rfl), mwX11_stand⟩, wA_t 574 (by decide +kernel) rfl, wA_t 575 (by decide +kernel) rfl, by decide, rfl⟩
theorem lkX11_275 : SL RX11 275 mX11_isStand 4 := ⟨⟨Or.inl (wA_t 577 (by decide +kernel) rfl), mwX11_isStand⟩, wA_t 578 (by decide +kernel) rfl⟩
theorem lkL_99 : VL RL 99 mX11_far 3 11 := ⟨⟨Or.inl (wA_t 584 (by decide +kernel) rfl), mwX11_far⟩, wA_t 585 (by decide +kernel) rfl, wA_t 586 (by decide +kernel) rfl, by decide, rfl⟩
theorem lkX7_28 : SL RX7 28 mJ9_max_7cf53 2 := ⟨⟨Or.inl (wA_t 593 (by decide +kernel) rfl), mwJ9_max_7cf53⟩, wA_t 419 (by decide +kernel) rfl⟩
theorem lkL_104 : VL RL 104 mX11_high 3 11 := ⟨⟨Or.inl (wA_t 595 (by decide +kernel) rfl), mwX11_high⟩, wA_t 596 (by decide +kernel) rfl, wA_t 597 (by decide +kernel) rfl, by decide, rfl⟩
theorem lkL_108 : VL RL 108 mX11_span 4 11 := ⟨⟨Or.inl (wA_t 606 (by decide +kernel) rfl), mwX11_span⟩, wA_t 607 (by decide +kernel) rfl, wA_t 608 (by decide +kernel) rfl, by decide, rfl⟩
theorem lkX11_300 : SL RX11 300 mX11_by_ 2 := ⟨⟨Or.inl (wA_t 610 (by decide +kernel) rfl), mwX11_by_⟩, wA_t 604 (by decide +kernel) rfl⟩
theorem lkX11_303 : SL RX11 303 mJ9_min_f86c9 2 := ⟨⟨Or.inl (wA_t 611 (by decide +kernel) rfl), mwJ9_min_f86c9⟩, wA_t 612 (by decide +kernel) rfl⟩
theorem lkX11_308 : SL RX11 308 mJ9_max_f86c9 2 := ⟨⟨Or.inl (wA_t 614 (by decide +kernel) rfl), mwJ9_max_f86c9⟩, wA_t 615 (by decide +kernel) rfl⟩
theorem lkL_113 : VL RL 113 mX11_studio 7 11 := ⟨⟨Or.inl (wA_t 617 (by decide +kernel) rfl), mwX11_studio⟩, wA_t 618 (by decide +kernel) rfl, wA_t 619 (by decide +kernel) rfl, by decide, rfl⟩
theorem lkX11_311 : SL RX11 311 mX11_areStudiosTold 4 := ⟨⟨Or.inl (wA_t 621 (by decide +kernel) rfl), mwX11_areStudiosTold⟩, wA_t 622 (by decide +kernel) rfl⟩
theorem lkX11_314 : VL RX11 314 mX11_studiosRefusal 3 11 := ⟨⟨Or.inl (wA_t 624 (by decide +kernel) rfl), mwX11_studiosRefusal⟩, wA_t 626 (by decide +kernel) rfl, wA_p 34 (by decide +kernel) rfl, by decide, rfl⟩
theorem lkX11_380 : VL RX11 380 mX11_areStudios 3 11 := ⟨⟨Or.inl (wA_t 628 (by decide +kernel) rfl), mwX11_areStudios⟩, wA_t 630 (by decide +kernel) rfl, wA_p 35 (by decide +kernel) rfl, by decide, rfl⟩
theorem lkX11_318 : VL RX11 318 mX11_readStudio 3 11 := ⟨⟨Or.inl (wA_t 632 (by decide +kernel) rfl), mwX11_readStudio⟩, wA_t 634 (by decide +kernel) rfl, wA_p 36 (by decide +kernel) rfl, by decide, rfl⟩
theorem lkX11_321 : VL RX11 321 mX11_painterMisfit 1 11 := ⟨⟨Or.inl (wA_t 636 (by decide +kernel) rfl), mwX11_painterMisfit⟩, wA_t 638 (by decide +kernel) rfl, wA_p 37 (by decide +kernel) rfl, by decide, rfl⟩
theorem lkX11_399 : VL RX11 399 mX11_painterApart 2 11 := ⟨⟨Or.inl (wA_t 644 (by decide +kernel) rfl), mwX11_painterApart⟩, wA_t 646 (by decide +kernel) rfl, wA_p 39 (by decide +kernel) rfl, by decide, rfl⟩
theorem lkX11_405 : SL RX11 405 mJ9_abs_0f7a4 1 := ⟨⟨Or.inl (wA_t 653 (by decide +kernel) rfl), mwJ9_abs_0f7a4⟩, wA_t 431 (by decide +kernel) rfl⟩
theorem lkX11_410 : SL RX11 410 mJ9_min_7cf53 2 := ⟨⟨Or.inl (wA_t 658 (by decide +kernel) rfl), mwJ9_min_7cf53⟩, wA_t 416 (by decide +kernel) rfl⟩
theorem lkX11_325 : VL RX11 325 mX11_hasPainterMade 2 11 := ⟨⟨Or.inl (wA_t 659 (by decide +kernel) rfl), mwX11_hasPainterMade⟩, wA_t 661 (by decide +kernel) rfl, wA_p 42 (by decide +kernel) rfl, by decide, rfl⟩
theorem lkX11_412 : VL RX11 412 mX11_isPainterNear 3 11 := ⟨⟨Or.inl (wA_t 663 (by decide +kernel) rfl), mwX11_isPainterNear⟩, wA_t 665 (by decide +kernel) rfl, wA_p 43 (by decide +kernel) rfl, by decide, rfl⟩
theorem lkL_118 : VL RL 118 mX11_studios 6 11 := ⟨⟨Or.inl (wA_t 667 (by decide +kernel) rfl), mwX11_studios⟩, wA_t 668 (by decide +kernel) rfl, wA_t 669 (by decide +kernel) rfl, by decide, rfl⟩
theorem lkX11_329 : VL RX11 329 mX11_bestStudio 4 11 := ⟨⟨Or.inl (wA_t 671 (by decide +kernel) rfl), mwX11_bestStudio⟩, wA_t 673 (by decide +kernel) rfl, wA_p 44 (by decide +kernel) rfl, by decide, rfl⟩
theorem lkX11_333 : VL RX11 333 mX11_studiosThatMade 5 11 := ⟨⟨Or.inl (wA_t 675 (by decide +kernel) rfl), mwX11_studiosThatMade⟩, wA_t 677 (by decide +kernel) rfl, wA_p 45 (by decide +kernel) rfl, by decide, rfl⟩
theorem lkX11_337 : VL RX11 337 mX11_marksOfNoStudio 5 11 := ⟨⟨Or.inl (wA_t 679 (by decide +kernel) rfl), mwX11_marksOfNoStudio⟩, wA_t 681 (by decide +kernel) rfl, wA_p 46 (by decide +kernel) rfl, by decide, rfl⟩
theorem lkL_123 : VL RL 123 mX11_spot 4 11 := ⟨⟨Or.inl (wA_t 683 (by decide +kernel) rfl), mwX11_spot⟩, wA_t 684 (by decide +kernel) rfl, wA_t 685 (by decide +kernel) rfl, by decide, rfl⟩
theorem lkX11_340 : SL RX11 340 mX11_spotAside 2 := ⟨⟨Or.inl (wA_t 687 (by decide +kernel) rfl), mwX11_spotAside⟩, wA_t 688 (by decide +kernel) rfl⟩
theorem lkX11_343 : SL RX11 343 mX11_noonOf 1 := ⟨⟨Or.inl (wA_t 690 (by decide +kernel) rfl), mwX11_noonOf⟩, wA_t 691 (by decide +kernel) rfl⟩
theorem lkX11_346 : SL RX11 346 mX11_spotAhead 3 := ⟨⟨Or.inl (wA_t 693 (by decide +kernel) rfl), mwX11_spotAhead⟩, wA_t 694 (by decide +kernel) rfl⟩
theorem lkL_127 : VL RL 127 mX11_days 4 11 := ⟨⟨Or.inl (wA_t 696 (by decide +kernel) rfl), mwX11_days⟩, wA_t 697 (by decide +kernel) rfl, wA_t 698 (by decide +kernel) rfl, by decide, rfl⟩
theorem lkL_131 : VL RL 131 mX11_kind 1 11 := ⟨⟨Or.inl (wA_t 700 (by decide +kernel) rfl), mwX11_kind⟩, wA_t 701 (by decide +kernel) rfl, wA_t 702 (by decide +kernel) rfl, by decide, rfl⟩
theorem lkX11_349 : VL RX11 349 mX11_kindOf 1 11 := ⟨⟨Or.inl (wA_t 704 (by decide +kernel) rfl), mwX11_kindOf⟩, wA_t 706 (by decide +kernel) rfl, wA_p 47 (by decide +kernel) rfl, by decide, rfl⟩
theorem lkL_135 : VL RL 135 mX11_as 2 11 := ⟨⟨Or.inl (wA_t 708 (by decide +kernel) rfl), mwX11_as⟩, wA_t 709 (by decide +kernel) rfl, wA_t 710 (by decide +kernel) rfl, by decide, rfl⟩
theorem lkL_139 : VL RL 139 mX11_ask 2 11 := ⟨⟨Or.inl (wA_t 712 (by decide +kernel) rfl), mwX11_ask⟩, wA_t 713 (by decide +kernel) rfl, wA_t 714 (by decide +kernel) rfl, by decide, rfl⟩
theorem lkX0_28 : VL RX0 28 mX0_sizeOfSeen 0 0 := ⟨⟨Or.inl (wA_t 724 (by decide +kernel) rfl), mwX0_sizeOfSeen⟩, wA_t 726 (by decide +kernel) rfl, wA_p 50 (by decide +kernel) rfl, by decide, rfl⟩
theorem lkX0_53 : VL RX0 53 mX0_begin 1 0 := ⟨⟨Or.inl (wA_t 728 (by decide +kernel) rfl), mwX0_begin⟩, wA_t 730 (by decide +kernel) rfl, wA_p 51 (by decide +kernel) rfl, by decide, rfl⟩
theorem lkX0_38 : VL RX0 38 mX0_sizeLent 0 0 := ⟨⟨Or.inl (wA_t 732 (by decide +kernel) rfl), mwX0_sizeLent⟩, wA_t 734 (by decide +kernel) rfl, wA_p 52 (by decide +kernel) rfl, by decide, rfl⟩
theorem lkX0_32 : VL RX0 32 mX0_sizeOfSharp 0 0 := ⟨⟨Or.inl (wA_t 736 (by decide +kernel) rfl), mwX0_sizeOfSharp⟩, wA_t 738 (by decide +kernel) rfl, wA_p 53 (by decide +kernel) rfl, by decide, rfl⟩
theorem lkX0_35 : VL RX0 35 mX0_sizeOfLost 0 0 := ⟨⟨Or.inl (wA_t 740 (by decide +kernel) rfl), mwX0_sizeOfLost⟩, wA_t 742 (by decide +kernel) rfl, wA_p 54 (by decide +kernel) rfl, by decide, rfl⟩
theorem lkX0_47 : VL RX0 47 mX0_signOfLost 0 0 := ⟨⟨Or.inl (wA_t 744 (by decide +kernel) rfl), mwX0_signOfLost⟩, wA_t 746 (by decide +kernel) rfl, wA_p 55 (by decide +kernel) rfl, by decide, rfl⟩
theorem lkX0_50 : VL RX0 50 mX0_signLent 0 0 := ⟨⟨Or.inl (wA_t 748 (by decide +kernel) rfl), mwX0_signLent⟩, wA_t 750 (by decide +kernel) rfl, wA_p 56 (by decide +kernel) rfl, by decide, rfl⟩
theorem lkX0_41 : VL RX0 41 mX0_signOfSeen 0 0 := ⟨⟨Or.inl (wA_t 756 (by decide +kernel) rfl), mwX0_signOfSeen⟩, wA_t 758 (by decide +kernel) rfl, wA_p 58 (by decide +kernel) rfl, by decide, rfl⟩
theorem lkX0_44 : VL RX0 44 mX0_signOfSharp 0 0 := ⟨⟨Or.inl (wA_t 760 (by decide +kernel) rfl), mwX0_signOfSharp⟩, wA_t 762 (by decide +kernel) rfl, wA_p 59 (by decide +kernel) rfl, by decide, rfl⟩
theorem lkL_143 : VL RL 143 mX11_trace 1 11 := ⟨⟨Or.inl (wA_t 764 (by decide +kernel) rfl), mwX11_trace⟩, wA_t 765 (by decide +kernel) rfl, wA_t 766 (by decide +kernel) rfl, by decide, rfl⟩
theorem lkL_147 : VL RL 147 mX11_count 1 11 := ⟨⟨Or.inl (wA_t 768 (by decide +kernel) rfl), mwX11_count⟩, wA_t 769 (by decide +kernel) rfl, wA_t 770 (by decide +kernel) rfl, by decide, rfl⟩
theorem lkX11_367 : VL RX11 367 mX11_sheetsLaid 0 11 := ⟨⟨Or.inl (wA_t 772 (by decide +kernel) rfl), mwX11_sheetsLaid⟩, wA_t 774 (by decide +kernel) rfl, wA_p 60 (by decide +kernel) rfl, by decide, rfl⟩
theorem lkX11_370 : VL RX11 370 mX11_thingsToldAs 1 11 := ⟨⟨Or.inl (wA_t 776 (by decide +kernel) rfl), mwX11_thingsToldAs⟩, wA_t 778 (by decide +kernel) rfl, wA_p 61 (by decide +kernel) rfl, by decide, rfl⟩
theorem lkX11_373 : VL RX11 373 mX11_marksOnPaper 0 11 := ⟨⟨Or.inl (wA_t 780 (by decide +kernel) rfl), mwX11_marksOnPaper⟩, wA_t 782 (by decide +kernel) rfl, wA_p 62 (by decide +kernel) rfl, by decide, rfl⟩
theorem lkX11_376 : VL RX11 376 mX11_tracesMarked 0 11 := ⟨⟨Or.inl (wA_t 784 (by decide +kernel) rfl), mwX11_tracesMarked⟩, wA_t 786 (by decide +kernel) rfl, wA_p 63 (by decide +kernel) rfl, by decide, rfl⟩
theorem lkL_151 : VL RL 151 mX11_status 0 11 := ⟨⟨Or.inl (wA_t 788 (by decide +kernel) rfl), mwX11_status⟩, wA_t 789 (by decide +kernel) rfl, wA_t 790 (by decide +kernel) rfl, by decide, rfl⟩
theorem lkL_12 : IL RL 12 mX12_init 0 := ⟨⟨Or.inl (wA_t 794 (by decide +kernel) rfl), mwX12_init⟩, wA_t 795 (by decide +kernel) rfl, rfl, rfl⟩
theorem lkL_17 : VL RL 17 mX12_sheet 3 12 := ⟨⟨Or.inl (wA_t 886 (by decide +kernel) rfl), mwX12_sheet⟩, wA_t 887 (by decide +kernel) rfl, wA_t 888 (by decide +kernel) rfl, by decide, rfl⟩
theorem lkX12_73 : SL RX12 73 mX12_isSheet 1 := ⟨⟨Or.inl (wA_t 890 (by decide +kernel) rfl), mwX12_isSheet⟩, wA_t 891 (by decide +kernel) rfl⟩
theorem lkX12_69 : SL RX12 69 mX12_in 3 := ⟨⟨Or.inl (wA_t 894 (by decide +kernel) rfl), mwX12_in⟩, wA_t 895 (by decide +kernel) rfl⟩
theorem lkX12_80 : VL RX12 80 mX12_found 1 12 := ⟨⟨Or.inl (wA_t 899 (by decide +kernel) rfl), mwX12_found⟩, wA_t 901 (by decide +kernel) rfl, wA_p 64 (by decide +kernel) rfl, by decide, rfl⟩
theorem lkL_21 : VL RL 21 mX12_set 3 12 := ⟨⟨Or.inl (wA_t 904 (by decide +kernel) rfl), mwX12_set⟩, wA_t 905 (by decide +kernel) rfl, wA_t 906 (by decide +kernel) rfl, by decide, rfl⟩
theorem lkL_26 : VL RL 26 mX12_copy 5 12 := ⟨⟨Or.inl (wA_t 908 (by decide +kernel) rfl), mwX12_copy⟩, wA_t 909 (by decide +kernel) rfl, wA_t 910 (by decide +kernel) rfl, by decide, rfl⟩
theorem lkL_31 : VL RL 31 mX12_drop 1 12 := ⟨⟨Or.inl (wA_t 912 (by decide +kernel) rfl), mwX12_drop⟩, wA_t 913 (by decide +kernel) rfl, wA_t 914 (by decide +kernel) rfl, by decide, rfl⟩
theorem lkL_36 : VL RL 36 mX12_room 2 12 := ⟨⟨Or.inl (wA_t 916 (by decide +kernel) rfl), mwX12_room⟩, wA_t 917 (by decide +kernel) rfl, wA_t 918 (by decide +kernel) rfl, by decide, rfl⟩
theorem lkL_40 : VL RL 40 mX12_bend 2 12 := ⟨⟨Or.inl (wA_t 921 (by decide +kernel) rfl), mwX12_bend⟩, wA_t 922 (by decide +kernel) rfl, wA_t 923 (by decide +kernel) rfl, by decide, rfl⟩
theorem lkL_44 : VL RL 44 mX12_told 1 12 := ⟨⟨Or.inl (wA_t 929 (by decide +kernel) rfl), mwX12_told⟩, wA_t 930 (by decide +kernel) rfl, wA_t 931 (by decide +kernel) rfl, by decide, rfl⟩
theorem lkL_48 : VL RL 48 mX12_thing 3 12 := ⟨⟨Or.inl (wA_t 934 (by decide +kernel) rfl), mwX12_thing⟩, wA_t 935 (by decide +kernel) rfl, wA_t 936 (by decide +kernel) rfl, by decide, rfl⟩
theorem lkX12_105 : SL RX12 105 mX12_isPlace 3 := ⟨⟨Or.inl (wA_t 938 (by decide +kernel) rfl), mwX12_isPlace⟩, wA_t 939 (by decide +kernel) rfl⟩
theorem lkL_53 : VL RL 53 mX12_move 4 12 := ⟨⟨Or.inl (wA_t 945 (by decide +kernel) rfl), mwX12_move⟩, wA_t 946 (by decide +kernel) rfl, wA_t 947 (by decide +kernel) rfl, by decide, rfl⟩
theorem lkX12_110 : VL RX12 110 mX12_isThing 1 12 := ⟨⟨Or.inl (wA_t 949 (by decide +kernel) rfl), mwX12_isThing⟩, wA_t 951 (by decide +kernel) rfl, wA_p 65 (by decide +kernel) rfl, by decide, rfl⟩
theorem lkL_57 : VL RL 57 mX12_picture 2 12 := ⟨⟨Or.inl (wA_t 953 (by decide +kernel) rfl), mwX12_picture⟩, wA_t 954 (by decide +kernel) rfl, wA_t 955 (by decide +kernel) rfl, by decide, rfl⟩
theorem lkX12_113 : VL RX12 113 mX12_firstOf 2 12 := ⟨⟨Or.inl (wA_t 957 (by decide +kernel) rfl), mwX12_firstOf⟩, wA_t 959 (by decide +kernel) rfl, wA_p 66 (by decide +kernel) rfl, by decide, rfl⟩
theorem lkX12_117 : VL RX12 117 mX12_columnOf 2 12 := ⟨⟨Or.inl (wA_t 961 (by decide +kernel) rfl), mwX12_columnOf⟩, wA_t 963 (by decide +kernel) rfl, wA_p 67 (by decide +kernel) rfl, by decide, rfl⟩
theorem lkX12_120 : VL RX12 120 mX12_farBy 2 12 := ⟨⟨Or.inl (wA_t 965 (by decide +kernel) rfl), mwX12_farBy⟩, wA_t 967 (by decide +kernel) rfl, wA_p 68 (by decide +kernel) rfl, by decide, rfl⟩
theorem lkX12_129 : VL RX12 129 mX12_acrossOf 1 12 := ⟨⟨Or.inl (wA_t 969 (by decide +kernel) rfl), mwX12_acrossOf⟩, wA_t 971 (by decide +kernel) rfl, wA_p 69 (by decide +kernel) rfl, by decide, rfl⟩
theorem lkX12_132 : VL RX12 132 mX12_downOf 1 12 := ⟨⟨Or.inl (wA_t 973 (by decide +kernel) rfl), mwX12_downOf⟩, wA_t 975 (by decide +kernel) rfl, wA_p 70 (by decide +kernel) rfl, by decide, rfl⟩
theorem lkX12_135 : VL RX12 135 mX12_blurOf 1 12 := ⟨⟨Or.inl (wA_t 977 (by decide +kernel) rfl), mwX12_blurOf⟩, wA_t 979 (by decide +kernel) rfl, wA_p 71 (by decide +kernel) rfl, by decide, rfl⟩
theorem lkX12_126 : VL RX12 126 mX12_blurBy 2 12 := ⟨⟨Or.inl (wA_t 981 (by decide +kernel) rfl), mwX12_blurBy⟩, wA_t 983 (by decide +kernel) rfl, wA_p 72 (by decide +kernel) rfl, by decide, rfl⟩
theorem lkX12_123 : SL RX12 123 mX12_size 1 := ⟨⟨Or.inl (wA_t 985 (by decide +kernel) rfl), mwX12_size⟩, wA_t 986 (by decide +kernel) rfl⟩
theorem lkL_61 : VL RL 61 mX12_focused 2 12 := ⟨⟨Or.inl (wA_t 988 (by decide +kernel) rfl), mwX12_focused⟩, wA_t 989 (by decide +kernel) rfl, wA_t 990 (by decide +kernel) rfl, by decide, rfl⟩
theorem lkL_66 : VL RL 66 mX12_bent 0 12 := ⟨⟨Or.inl (wA_t 992 (by decide +kernel) rfl), mwX12_bent⟩, wA_t 993 (by decide +kernel) rfl, wA_t 994 (by decide +kernel) rfl, by decide, rfl⟩
theorem lkL_70 : VL RL 70 mX12_mark 4 12 := ⟨⟨Or.inl (wA_t 997 (by decide +kernel) rfl), mwX12_mark⟩, wA_t 998 (by decide +kernel) rfl, wA_t 999 (by decide +kernel) rfl, by decide, rfl⟩
theorem lkX12_140 : SL RX12 140 mX12_isTrace 1 := ⟨⟨Or.inl (wA_t 1001 (by decide +kernel) rfl), mwX12_isTrace⟩, wA_t 1002 (by decide +kernel) rfl⟩
theorem lkX12_143 : SL RX12 143 mX12_isNumber 1 := ⟨⟨Or.inl (wA_t 1004 (by decide +kernel) rfl), mwX12_isNumber⟩, wA_t 1005 (by decide +kernel) rfl⟩
theorem lkL_74 : VL RL 74 mX12_rub 2 12 := ⟨⟨Or.inl (wA_t 1007 (by decide +kernel) rfl), mwX12_rub⟩, wA_t 1008 (by decide +kernel) rfl, wA_t 1009 (by decide +kernel) rfl, by decide, rfl⟩
theorem lkL_78 : VL RL 78 mX12_draw 1 12 := ⟨⟨Or.inl (wA_t 1011 (by decide +kernel) rfl), mwX12_draw⟩, wA_t 1012 (by decide +kernel) rfl, wA_t 1013 (by decide +kernel) rfl, by decide, rfl⟩
theorem lkX12_146 : VL RX12 146 mX12_isSeen 1 12 := ⟨⟨Or.inl (wA_t 1015 (by decide +kernel) rfl), mwX12_isSeen⟩, wA_t 1017 (by decide +kernel) rfl, wA_p 73 (by decide +kernel) rfl, by decide, rfl⟩
theorem lkL_82 : VL RL 82 mX12_marked 3 12 := ⟨⟨Or.inl (wA_t 1019 (by decide +kernel) rfl), mwX12_marked⟩, wA_t 1020 (by decide +kernel) rfl, wA_t 1021 (by decide +kernel) rfl, by decide, rfl⟩
theorem lkL_86 : VL RL 86 mX12_joined 3 12 := ⟨⟨Or.inl (wA_t 1024 (by decide +kernel) rfl), mwX12_joined⟩, wA_t 1025 (by decide +kernel) rfl, wA_t 1026 (by decide +kernel) rfl, by decide, rfl⟩
theorem lkX12_171 : VL RX12 171 mX12_join 2 12 := ⟨⟨Or.inl (wA_t 1029 (by decide +kernel) rfl), mwX12_join⟩, wA_t 1031 (by decide +kernel) rfl, wA_p 74 (by decide +kernel) rfl, by decide, rfl⟩
theorem lkX12_156 : VL RX12 156 mX12_middle 0 12 := ⟨⟨Or.inl (wA_t 1033 (by decide +kernel) rfl), mwX12_middle⟩, wA_t 1035 (by decide +kernel) rfl, wA_p 75 (by decide +kernel) rfl, by decide, rfl⟩
theorem lkX12_160 : VL RX12 160 mX12_sumFrom 1 12 := ⟨⟨Or.inl (wA_t 1037 (by decide +kernel) rfl), mwX12_sumFrom⟩, wA_t 1039 (by decide +kernel) rfl, wA_p 76 (by decide +kernel) rfl, by decide, rfl⟩
theorem lkL_90 : VL RL 90 mX12_round 2 12 := ⟨⟨Or.inl (wA_t 1041 (by decide +kernel) rfl), mwX12_round⟩, wA_t 1042 (by decide +kernel) rfl, wA_t 1043 (by decide +kernel) rfl, by decide, rfl⟩
theorem lkX12_178 : VL RX12 178 mX12_goRound 1 12 := ⟨⟨Or.inl (wA_t 1045 (by decide +kernel) rfl), mwX12_goRound⟩, wA_t 1047 (by decide +kernel) rfl, wA_p 77 (by decide +kernel) rfl, by decide, rfl⟩
theorem lkL_94 : VL RL 94 mX12_around 3 12 := ⟨⟨Or.inl (wA_t 1049 (by decide +kernel) rfl), mwX12_around⟩, wA_t 1050 (by decide +kernel) rfl, wA_t 1051 (by decide +kernel) rfl, by decide, rfl⟩
theorem lkL_98 : VL RL 98 mX12_stand 5 12 := ⟨⟨Or.inl (wA_t 1053 (by decide +kernel) rfl), mwX12_stand⟩, wA_t 1054 (by decide +kernel) rfl, wA_t 1055 (by decide +kernel) rfl, by decide, rfl⟩
theorem lkL_103 : VL RL 103 mX12_far 3 12 := ⟨⟨Or.inl (wA_t 1057 (by decide +kernel) rfl), mwX12_far⟩, wA_t 1058 (by decide +kernel) rfl, wA_t 1059 (by decide +kernel) rfl, by decide, rfl⟩
theorem lkX12_188 : SL RX12 188 mX12_isSight 1 := ⟨⟨Or.inl (wA_t 1061 (by decide +kernel) rfl), mwX12_isSight⟩, wA_t 1062 (by decide +kernel) rfl⟩
theorem lkX12_193 : VL RX12 193 mX12_see 2 12 := ⟨⟨Or.inl (wA_t 1065 (by decide +kernel) rfl), mwX12_see⟩, wA_t 1067 (by decide +kernel) rfl, wA_p 78 (by decide +kernel) rfl, by decide, rfl⟩
theorem lkL_107 : VL RL 107 mX12_high 3 12 := ⟨⟨Or.inl (wA_t 1070 (by decide +kernel) rfl), mwX12_high⟩, wA_t 1071 (by decide +kernel) rfl, wA_t 1072 (by decide +kernel) rfl, by decide, rfl⟩
theorem lkL_112 : VL RL 112 mX12_span 4 12 := ⟨⟨Or.inl (wA_t 1074 (by decide +kernel) rfl), mwX12_span⟩, wA_t 1075 (by decide +kernel) rfl, wA_t 1076 (by decide +kernel) rfl, by decide, rfl⟩
theorem lkL_117 : VL RL 117 mX12_studio 7 12 := ⟨⟨Or.inl (wA_t 1079 (by decide +kernel) rfl), mwX12_studio⟩, wA_t 1080 (by decide +kernel) rfl, wA_t 1081 (by decide +kernel) rfl, by decide, rfl⟩
theorem lkX12_210 : VL RX12 210 mX12_lookStudios 4 12 := ⟨⟨Or.inl (wA_t 1083 (by decide +kernel) rfl), mwX12_lookStudios⟩, wA_t 1085 (by decide +kernel) rfl, wA_p 79 (by decide +kernel) rfl, by decide, rfl⟩
theorem lkX12_214 : VL RX12 214 mX12_misfitOf 2 12 := ⟨⟨Or.inl (wA_t 1087 (by decide +kernel) rfl), mwX12_misfitOf⟩, wA_t 1089 (by decide +kernel) rfl, wA_p 80 (by decide +kernel) rfl, by decide, rfl⟩
theorem lkX12_207 : VL RX12 207 mX12_puts 3 12 := ⟨⟨Or.inl (wA_t 1091 (by decide +kernel) rfl), mwX12_puts⟩, wA_t 1093 (by decide +kernel) rfl, wA_p 81 (by decide +kernel) rfl, by decide, rfl⟩
theorem lkX12_217 : VL RX12 217 mX12_isMade 3 12 := ⟨⟨Or.inl (wA_t 1095 (by decide +kernel) rfl), mwX12_isMade⟩, wA_t 1097 (by decide +kernel) rfl, wA_p 82 (by decide +kernel) rfl, by decide, rfl⟩
theorem lkL_122 : VL RL 122 mX12_studios 6 12 := ⟨⟨Or.inl (wA_t 1099 (by decide +kernel) rfl), mwX12_studios⟩, wA_t 1100 (by decide +kernel) rfl, wA_t 1101 (by decide +kernel) rfl, by decide, rfl⟩
theorem lkL_126 : VL RL 126 mX12_spot 4 12 := ⟨⟨Or.inl (wA_t 1103 (by decide +kernel) rfl), mwX12_spot⟩, wA_t 1104 (by decide +kernel) rfl, wA_t 1105 (by decide +kernel) rfl, by decide, rfl⟩
theorem lkX12_224 : SL RX12 224 mX12_spotOf 4 := ⟨⟨Or.inl (wA_t 1109 (by decide +kernel) rfl), mwX12_spotOf⟩, wA_t 1110 (by decide +kernel) rfl⟩
theorem lkL_130 : VL RL 130 mX12_days 4 12 := ⟨⟨Or.inl (wA_t 1112 (by decide +kernel) rfl), mwX12_days⟩, wA_t 1113 (by decide +kernel) rfl, wA_t 1114 (by decide +kernel) rfl, by decide, rfl⟩
theorem lkL_134 : VL RL 134 mX12_kind 1 12 := ⟨⟨Or.inl (wA_t 1116 (by decide +kernel) rfl), mwX12_kind⟩, wA_t 1117 (by decide +kernel) rfl, wA_t 1118 (by decide +kernel) rfl, by decide, rfl⟩
theorem lkX12_227 : VL RX12 227 mX12_kindOf 1 12 := ⟨⟨Or.inl (wA_t 1120 (by decide +kernel) rfl), mwX12_kindOf⟩, wA_t 1122 (by decide +kernel) rfl, wA_p 83 (by decide +kernel) rfl, by decide, rfl⟩
theorem lkL_138 : VL RL 138 mX12_as 2 12 := ⟨⟨Or.inl (wA_t 1124 (by decide +kernel) rfl), mwX12_as⟩, wA_t 1125 (by decide +kernel) rfl, wA_t 1126 (by decide +kernel) rfl, by decide, rfl⟩
theorem lkX12_230 : SL RX12 230 mX12_isOf 2 := ⟨⟨Or.inl (wA_t 1128 (by decide +kernel) rfl), mwX12_isOf⟩, wA_t 1129 (by decide +kernel) rfl⟩
theorem lkL_142 : VL RL 142 mX12_ask 2 12 := ⟨⟨Or.inl (wA_t 1131 (by decide +kernel) rfl), mwX12_ask⟩, wA_t 1132 (by decide +kernel) rfl, wA_t 1133 (by decide +kernel) rfl, by decide, rfl⟩
theorem lkX12_243 : VL RX12 243 mX12_markOf 2 12 := ⟨⟨Or.inl (wA_t 1135 (by decide +kernel) rfl), mwX12_markOf⟩, wA_t 1137 (by decide +kernel) rfl, wA_p 84 (by decide +kernel) rfl, by decide, rfl⟩
theorem lkX12_236 : VL RX12 236 mX12_began 1 12 := ⟨⟨Or.inl (wA_t 1139 (by decide +kernel) rfl), mwX12_began⟩, wA_t 1141 (by decide +kernel) rfl, wA_p 85 (by decide +kernel) rfl, by decide, rfl⟩
theorem lkX12_240 : VL RX12 240 mX12_seenSize 2 12 := ⟨⟨Or.inl (wA_t 1143 (by decide +kernel) rfl), mwX12_seenSize⟩, wA_t 1145 (by decide +kernel) rfl, wA_p 86 (by decide +kernel) rfl, by decide, rfl⟩
theorem lkL_146 : VL RL 146 mX12_trace 1 12 := ⟨⟨Or.inl (wA_t 1147 (by decide +kernel) rfl), mwX12_trace⟩, wA_t 1148 (by decide +kernel) rfl, wA_t 1149 (by decide +kernel) rfl, by decide, rfl⟩
theorem lkL_150 : VL RL 150 mX12_count 1 12 := ⟨⟨Or.inl (wA_t 1151 (by decide +kernel) rfl), mwX12_count⟩, wA_t 1152 (by decide +kernel) rfl, wA_t 1153 (by decide +kernel) rfl, by decide, rfl⟩
theorem lkL_154 : VL RL 154 mX12_status 0 12 := ⟨⟨Or.inl (wA_t 1155 (by decide +kernel) rfl), mwX12_status⟩, wA_t 1156 (by decide +kernel) rfl, wA_t 1157 (by decide +kernel) rfl, by decide, rfl⟩
theorem lkX11_17 : IL RX11 17 mX4_init 0 := ⟨⟨Or.inr ⟨"LensTable", wN_t 28 (by decide +kernel) rfl⟩, mwX4_init⟩, wA_t 29 (by decide +kernel) rfl, rfl, rfl⟩
theorem lkX11_34 : IL RX11 34 mX2_init 0 := ⟨⟨Or.inr ⟨"LensTable", wN_t 50 (by decide +kernel) rfl⟩, mwX2_init⟩, wA_t 51 (by decide +kernel) rfl, rfl, rfl⟩
theorem lkX11_47 : IL RX11 47 mX1_init 0 := ⟨⟨Or.inr ⟨"LensTable", wN_t 85 (by decide +kernel) rfl⟩, mwX1_init⟩, wA_t 86 (by decide +kernel) rfl, rfl, rfl⟩
theorem lkX1_11 : IL RX1 11 mX5_init 0 := ⟨⟨Or.inr ⟨"LensTable", wN_t 91 (by decide +kernel) rfl⟩, mwX5_init⟩, wA_t 92 (by decide +kernel) rfl, rfl, rfl⟩
theorem lkX11_54 : IL RX11 54 mX3_init 0 := ⟨⟨Or.inr ⟨"LensTable", wN_t 112 (by decide +kernel) rfl⟩, mwX3_init⟩, wA_t 113 (by decide +kernel) rfl, rfl, rfl⟩
theorem lkX11_67 : IL RX11 67 mX7_init 0 := ⟨⟨Or.inr ⟨"LensTable", wN_t 133 (by decide +kernel) rfl⟩, mwX7_init⟩, wA_t 134 (by decide +kernel) rfl, rfl, rfl⟩
theorem lkX11_72 : IL RX11 72 mX8_init 0 := ⟨⟨Or.inr ⟨"LensTable", wN_t 147 (by decide +kernel) rfl⟩, mwX8_init⟩, wA_t 148 (by decide +kernel) rfl, rfl, rfl⟩
theorem lkX11_79 : IL RX11 79 mX0_init 0 := ⟨⟨Or.inr ⟨"LensTable", wN_t 174 (by decide +kernel) rfl⟩, mwX0_init⟩, wA_t 175 (by decide +kernel) rfl, rfl, rfl⟩
theorem lkX11_87 : IL RX11 87 mX6_init 0 := ⟨⟨Or.inr ⟨"LensTable", wN_t 197 (by decide +kernel) rfl⟩, mwX6_init⟩, wA_t 198 (by decide +kernel) rfl, rfl, rfl⟩
theorem lkX11_88 : IL RX11 88 mX9_init 0 := ⟨⟨Or.inr ⟨"LensTable", wN_t 214 (by decide +kernel) rfl⟩, mwX9_init⟩, wA_t 215 (by decide +kernel) rfl, rfl, rfl⟩
theorem lkX11_89 : IL RX11 89 mX10_init 0 := ⟨⟨Or.inr ⟨"LensTable", wN_t 240 (by decide +kernel) rfl⟩, mwX10_init⟩, wA_t 241 (by decide +kernel) rfl, rfl, rfl⟩
theorem lkX11_103 : VL RX11 103 mX6_lay 2 6 := ⟨⟨Or.inr ⟨"LensTable", wN_t 317 (by decide +kernel) rfl⟩, mwX6_lay⟩, wA_t 319 (by decide +kernel) rfl, wA_p 1 (by decide +kernel) rfl, by decide, rfl⟩
theorem lkX11_110 : VL RX11 110 mX6_isMissing 0 6 := ⟨⟨Or.inr ⟨"LensTable", wN_t 329 (by decide +kernel) rfl⟩, mwX6_isMissing⟩, wA_t 331 (by decide +kernel) rfl, wA_p 3 (by decide +kernel) rfl, by decide, rfl⟩
theorem lkX11_114 : VL RX11 114 mX6_holds 2 6 := ⟨⟨Or.inr ⟨"LensTable", wN_t 333 (by decide +kernel) rfl⟩, mwX6_holds⟩, wA_t 335 (by decide +kernel) rfl, wA_p 4 (by decide +kernel) rfl, by decide, rfl⟩
theorem lkX11_118 : VL RX11 118 mX6_write 2 6 := ⟨⟨Or.inr ⟨"LensTable", wN_t 337 (by decide +kernel) rfl⟩, mwX6_write⟩, wA_t 339 (by decide +kernel) rfl, wA_p 5 (by decide +kernel) rfl, by decide, rfl⟩
theorem lkX11_135 : VL RX11 135 mX6_lose 0 6 := ⟨⟨Or.inr ⟨"LensTable", wN_t 352 (by decide +kernel) rfl⟩, mwX6_lose⟩, wA_t 354 (by decide +kernel) rfl, wA_p 6 (by decide +kernel) rfl, by decide, rfl⟩
theorem lkX11_155 : VL RX11 155 mX9_put 3 9 := ⟨⟨Or.inr ⟨"LensTable", wN_t 383 (by decide +kernel) rfl⟩, mwX9_put⟩, wA_t 385 (by decide +kernel) rfl, wA_p 7 (by decide +kernel) rfl, by decide, rfl⟩
theorem lkX11_162 : VL RX11 162 mX2_take 2 2 := ⟨⟨Or.inr ⟨"LensTable", wN_t 399 (by decide +kernel) rfl⟩, mwX2_take⟩, wA_t 401 (by decide +kernel) rfl, wA_p 9 (by decide +kernel) rfl, by decide, rfl⟩
theorem lkX2_15 : SL RX2 15 mX4_firstAt 2 := ⟨⟨Or.inr ⟨"LensTable", wN_t 403 (by decide +kernel) rfl⟩, mwX4_firstAt⟩, wA_t 404 (by decide +kernel) rfl⟩
theorem lkX4_30 : SL RX4 30 mX11_by 2 := ⟨⟨Or.inr ⟨"LensTable", wN_t 406 (by decide +kernel) rfl⟩, mwX11_by⟩, wA_t 407 (by decide +kernel) rfl⟩
theorem lkX2_25 : SL RX2 25 mX4_columnOf 1 := ⟨⟨Or.inr ⟨"LensTable", wN_t 409 (by decide +kernel) rfl⟩, mwX4_columnOf⟩, wA_t 410 (by decide +kernel) rfl⟩
theorem lkX2_32 : VL RX2 32 mX4_reach 2 4 := ⟨⟨Or.inr ⟨"LensTable", wN_t 421 (by decide +kernel) rfl⟩, mwX4_reach⟩, wA_t 423 (by decide +kernel) rfl, wA_p 10 (by decide +kernel) rfl, by decide, rfl⟩
theorem lkX2_47 : SL RX2 47 mX11_by 2 := ⟨⟨Or.inr ⟨"LensTable", wN_t 425 (by decide +kernel) rfl⟩, mwX11_by⟩, wA_t 407 (by decide +kernel) rfl⟩
theorem lkX2_55 : VL RX2 55 mX4_blurBy 2 4 := ⟨⟨Or.inr ⟨"LensTable", wN_t 426 (by decide +kernel) rfl⟩, mwX4_blurBy⟩, wA_t 428 (by decide +kernel) rfl, wA_p 11 (by decide +kernel) rfl, by decide, rfl⟩
theorem lkX11_189 : VL RX11 189 mX4_sharpestDepth 1 4 := ⟨⟨Or.inr ⟨"LensTable", wN_t 437 (by decide +kernel) rfl⟩, mwX4_sharpestDepth⟩, wA_t 439 (by decide +kernel) rfl, wA_p 12 (by decide +kernel) rfl, by decide, rfl⟩
theorem lkX11_193 : VL RX11 193 mX4_blurAt 2 4 := ⟨⟨Or.inr ⟨"LensTable", wN_t 452 (by decide +kernel) rfl⟩, mwX4_blurAt⟩, wA_t 443 (by decide +kernel) rfl, wA_p 13 (by decide +kernel) rfl, by decide, rfl⟩
theorem lkX11_197 : VL RX11 197 mX4_clearBlurs 0 4 := ⟨⟨Or.inr ⟨"LensTable", wN_t 457 (by decide +kernel) rfl⟩, mwX4_clearBlurs⟩, wA_t 459 (by decide +kernel) rfl, wA_p 14 (by decide +kernel) rfl, by decide, rfl⟩
theorem lkX11_200 : SL RX11 200 mX4_columnAt 2 := ⟨⟨Or.inr ⟨"LensTable", wN_t 461 (by decide +kernel) rfl⟩, mwX4_columnAt⟩, wA_t 446 (by decide +kernel) rfl⟩
theorem lkX11_203 : VL RX11 203 mX4_addBlurs 1 4 := ⟨⟨Or.inr ⟨"LensTable", wN_t 462 (by decide +kernel) rfl⟩, mwX4_addBlurs⟩, wA_t 464 (by decide +kernel) rfl, wA_p 15 (by decide +kernel) rfl, by decide, rfl⟩
theorem lkX11_207 : VL RX11 207 mX4_bestBend 0 4 := ⟨⟨Or.inr ⟨"LensTable", wN_t 466 (by decide +kernel) rfl⟩, mwX4_bestBend⟩, wA_t 468 (by decide +kernel) rfl, wA_p 16 (by decide +kernel) rfl, by decide, rfl⟩
theorem lkX11_210 : VL RX11 210 mX4_bendsMade 0 4 := ⟨⟨Or.inr ⟨"LensTable", wN_t 470 (by decide +kernel) rfl⟩, mwX4_bendsMade⟩, wA_t 472 (by decide +kernel) rfl, wA_p 17 (by decide +kernel) rfl, by decide, rfl⟩
theorem lkX11_226 : VL RX11 226 mX10_put 3 10 := ⟨⟨Or.inr ⟨"LensTable", wN_t 484 (by decide +kernel) rfl⟩, mwX10_put⟩, wA_t 486 (by decide +kernel) rfl, wA_p 18 (by decide +kernel) rfl, by decide, rfl⟩
theorem lkX11_227 : VL RX11 227 mX10_clear 0 10 := ⟨⟨Or.inr ⟨"LensTable", wN_t 496 (by decide +kernel) rfl⟩, mwX10_clear⟩, wA_t 498 (by decide +kernel) rfl, wA_p 19 (by decide +kernel) rfl, by decide, rfl⟩
theorem lkX11_230 : VL RX11 230 mX4_shows 1 4 := ⟨⟨Or.inr ⟨"LensTable", wN_t 500 (by decide +kernel) rfl⟩, mwX4_shows⟩, wA_t 502 (by decide +kernel) rfl, wA_p 20 (by decide +kernel) rfl, by decide, rfl⟩
theorem lkX4_71 : SL RX4 71 mX11_within 3 := ⟨⟨Or.inr ⟨"LensTable", wN_t 504 (by decide +kernel) rfl⟩, mwX11_within⟩, wA_t 309 (by decide +kernel) rfl⟩
theorem lkX11_234 : VL RX11 234 mX10_marksMade 0 10 := ⟨⟨Or.inr ⟨"LensTable", wN_t 505 (by decide +kernel) rfl⟩, mwX10_marksMade⟩, wA_t 507 (by decide +kernel) rfl, wA_p 21 (by decide +kernel) rfl, by decide, rfl⟩
theorem lkX11_242 : VL RX11 242 mX1_take 2 1 := ⟨⟨Or.inr ⟨"LensTable", wN_t 518 (by decide +kernel) rfl⟩, mwX1_take⟩, wA_t 520 (by decide +kernel) rfl, wA_p 22 (by decide +kernel) rfl, by decide, rfl⟩
theorem lkX1_35 : VL RX1 35 mX5_insert 1 5 := ⟨⟨Or.inr ⟨"LensTable", wN_t 522 (by decide +kernel) rfl⟩, mwX5_insert⟩, wA_t 524 (by decide +kernel) rfl, wA_p 23 (by decide +kernel) rfl, by decide, rfl⟩
theorem lkX11_245 : VL RX11 245 mX1_common 0 1 := ⟨⟨Or.inr ⟨"LensTable", wN_t 526 (by decide +kernel) rfl⟩, mwX1_common⟩, wA_t 528 (by decide +kernel) rfl, wA_p 24 (by decide +kernel) rfl, by decide, rfl⟩
theorem lkX11_248 : VL RX11 248 mX1_misfit 0 1 := ⟨⟨Or.inr ⟨"LensTable", wN_t 530 (by decide +kernel) rfl⟩, mwX1_misfit⟩, wA_t 532 (by decide +kernel) rfl, wA_p 25 (by decide +kernel) rfl, by decide, rfl⟩
theorem lkX1_46 : VL RX1 46 mX5_misfit 0 5 := ⟨⟨Or.inr ⟨"LensTable", wN_t 534 (by decide +kernel) rfl⟩, mwX5_misfit⟩, wA_t 536 (by decide +kernel) rfl, wA_p 26 (by decide +kernel) rfl, by decide, rfl⟩
theorem lkX11_251 : VL RX11 251 mX1_acrossShift 0 1 := ⟨⟨Or.inr ⟨"LensTable", wN_t 543 (by decide +kernel) rfl⟩, mwX1_acrossShift⟩, wA_t 545 (by decide +kernel) rfl, wA_p 28 (by decide +kernel) rfl, by decide, rfl⟩
theorem lkX1_42 : VL RX1 42 mX5_middle 0 5 := ⟨⟨Or.inr ⟨"LensTable", wN_t 547 (by decide +kernel) rfl⟩, mwX5_middle⟩, wA_t 540 (by decide +kernel) rfl, wA_p 27 (by decide +kernel) rfl, by decide, rfl⟩
theorem lkX11_254 : VL RX11 254 mX1_upShift 0 1 := ⟨⟨Or.inr ⟨"LensTable", wN_t 548 (by decide +kernel) rfl⟩, mwX1_upShift⟩, wA_t 550 (by decide +kernel) rfl, wA_p 29 (by decide +kernel) rfl, by decide, rfl⟩
theorem lkX11_257 : VL RX11 257 mX3_take 3 3 := ⟨⟨Or.inr ⟨"LensTable", wN_t 556 (by decide +kernel) rfl⟩, mwX3_take⟩, wA_t 558 (by decide +kernel) rfl, wA_p 30 (by decide +kernel) rfl, by decide, rfl⟩
theorem lkX3_22 : VL RX3 22 mX1_take 2 1 := ⟨⟨Or.inr ⟨"LensTable", wN_t 560 (by decide +kernel) rfl⟩, mwX1_take⟩, wA_t 520 (by decide +kernel) rfl, wA_p 22 (by decide +kernel) rfl, by decide, rfl⟩
theorem lkX3_28 : VL RX3 28 mX1_common 0 1 := ⟨⟨Or.inr ⟨"LensTable", wN_t 561 (by decide +kernel) rfl⟩, mwX1_common⟩, wA_t 528 (by decide +kernel) rfl, wA_p 24 (by decide +kernel) rfl, by decide, rfl⟩
theorem lkX3_32 : VL RX3 32 mX1_acrossShift 0 1 := ⟨⟨Or.inr ⟨"LensTable", wN_t 562 (by decide +kernel) rfl⟩, mwX1_acrossShift⟩, wA_t 545 (by decide +kernel) rfl, wA_p 28 (by decide +kernel) rfl, by decide, rfl⟩
theorem lkX3_35 : VL RX3 35 mX1_upShift 0 1 := ⟨⟨Or.inr ⟨"LensTable", wN_t 563 (by decide +kernel) rfl⟩, mwX1_upShift⟩, wA_t 550 (by decide +kernel) rfl, wA_p 29 (by decide +kernel) rfl, by decide, rfl⟩
theorem lkX3_38 : VL RX3 38 mX1_misfit 0 1 := ⟨⟨Or.inr ⟨"LensTable", wN_t 564 (by decide +kernel) rfl⟩, mwX1_misfit⟩, wA_t 532 (by decide +kernel) rfl, wA_p 25 (by decide +kernel) rfl, by decide, rfl⟩
theorem lkX11_279 : VL RX11 279 mX8_put 4 8 := ⟨⟨Or.inr ⟨"LensTable", wN_t 580 (by decide +kernel) rfl⟩, mwX8_put⟩, wA_t 582 (by decide +kernel) rfl, wA_p 31 (by decide +kernel) rfl, by decide, rfl⟩
theorem lkX11_284 : VL RX11 284 mX7_take 4 7 := ⟨⟨Or.inr ⟨"LensTable", wN_t 589 (by decide +kernel) rfl⟩, mwX7_take⟩, wA_t 591 (by decide +kernel) rfl, wA_p 32 (by decide +kernel) rfl, by decide, rfl⟩
theorem lkX11_296 : VL RX11 296 mX7_highOf 2 7 := ⟨⟨Or.inr ⟨"LensTable", wN_t 599 (by decide +kernel) rfl⟩, mwX7_highOf⟩, wA_t 601 (by decide +kernel) rfl, wA_p 33 (by decide +kernel) rfl, by decide, rfl⟩
theorem lkX7_37 : SL RX7 37 mX11_by_ 2 := ⟨⟨Or.inr ⟨"LensTable", wN_t 603 (by decide +kernel) rfl⟩, mwX11_by_⟩, wA_t 604 (by decide +kernel) rfl⟩
theorem lkX11_395 : VL RX11 395 mX8_sees 1 8 := ⟨⟨Or.inr ⟨"LensTable", wN_t 640 (by decide +kernel) rfl⟩, mwX8_sees⟩, wA_t 642 (by decide +kernel) rfl, wA_p 38 (by decide +kernel) rfl, by decide, rfl⟩
theorem lkX11_403 : VL RX11 403 mX8_across 1 8 := ⟨⟨Or.inr ⟨"LensTable", wN_t 648 (by decide +kernel) rfl⟩, mwX8_across⟩, wA_t 650 (by decide +kernel) rfl, wA_p 40 (by decide +kernel) rfl, by decide, rfl⟩
theorem lkX8_30 : SL RX8 30 mX11_by 2 := ⟨⟨Or.inr ⟨"LensTable", wN_t 652 (by decide +kernel) rfl⟩, mwX11_by⟩, wA_t 407 (by decide +kernel) rfl⟩
theorem lkX11_408 : VL RX11 408 mX8_up 1 8 := ⟨⟨Or.inr ⟨"LensTable", wN_t 654 (by decide +kernel) rfl⟩, mwX8_up⟩, wA_t 656 (by decide +kernel) rfl, wA_p 41 (by decide +kernel) rfl, by decide, rfl⟩
theorem lkX11_352 : VL RX11 352 mX0_face 3 0 := ⟨⟨Or.inr ⟨"LensTable", wN_t 716 (by decide +kernel) rfl⟩, mwX0_face⟩, wA_t 718 (by decide +kernel) rfl, wA_p 48 (by decide +kernel) rfl, by decide, rfl⟩
theorem lkX11_355 : VL RX11 355 mX0_size 1 0 := ⟨⟨Or.inr ⟨"LensTable", wN_t 720 (by decide +kernel) rfl⟩, mwX0_size⟩, wA_t 722 (by decide +kernel) rfl, wA_p 49 (by decide +kernel) rfl, by decide, rfl⟩
theorem lkX11_358 : VL RX11 358 mX0_sign 1 0 := ⟨⟨Or.inr ⟨"LensTable", wN_t 752 (by decide +kernel) rfl⟩, mwX0_sign⟩, wA_t 754 (by decide +kernel) rfl, wA_p 57 (by decide +kernel) rfl, by decide, rfl⟩
theorem cwX0 : ∀ w ∈ u_ws (clsC 0) (clsF 0) (nfc 0), w ∈ wA := by
  intro w hw
  obtain ⟨k, hk, rfl⟩ := List.mem_map.mp hw
  have hk : k < 5 := List.mem_range.mp hk
  rcases (show k = 0 ∨ k = 1 ∨ k = 2 ∨ k = 3 ∨ k = 4 by omega) with rfl | rfl | rfl | rfl | rfl
  · exact wA_t 185 (by decide +kernel) rfl
  · exact wA_t 187 (by decide +kernel) rfl
  · exact wA_t 189 (by decide +kernel) rfl
  · exact wA_t 191 (by decide +kernel) rfl
  · exact wA_t 193 (by decide +kernel) rfl
theorem cwX1 : ∀ w ∈ u_ws (clsC 1) (clsF 1) (nfc 1), w ∈ wA := by
  intro w hw
  obtain ⟨k, hk, rfl⟩ := List.mem_map.mp hw
  have hk : k < 2 := List.mem_range.mp hk
  rcases (show k = 0 ∨ k = 1 by omega) with rfl | rfl
  · exact wA_t 105 (by decide +kernel) rfl
  · exact wA_t 107 (by decide +kernel) rfl
theorem cwX2 : ∀ w ∈ u_ws (clsC 2) (clsF 2) (nfc 2), w ∈ wA := by
  intro w hw
  obtain ⟨k, hk, rfl⟩ := List.mem_map.mp hw
  have hk : k < 6 := List.mem_range.mp hk
  rcases (show k = 0 ∨ k = 1 ∨ k = 2 ∨ k = 3 ∨ k = 4 ∨ k = 5 by omega) with rfl | rfl | rfl | rfl | rfl | rfl
  · exact wA_t 68 (by decide +kernel) rfl
  · exact wA_t 70 (by decide +kernel) rfl
  · exact wA_t 72 (by decide +kernel) rfl
  · exact wA_t 74 (by decide +kernel) rfl
  · exact wA_t 76 (by decide +kernel) rfl
  · exact wA_t 78 (by decide +kernel) rfl
theorem cwX3 : ∀ w ∈ u_ws (clsC 3) (clsF 3) (nfc 3), w ∈ wA := by
  intro w hw
  obtain ⟨k, hk, rfl⟩ := List.mem_map.mp hw
  have hk : k < 3 := List.mem_range.mp hk
  rcases (show k = 0 ∨ k = 1 ∨ k = 2 by omega) with rfl | rfl | rfl
  · exact wA_t 122 (by decide +kernel) rfl
  · exact wA_t 124 (by decide +kernel) rfl
  · exact wA_t 126 (by decide +kernel) rfl
theorem cwX4 : ∀ w ∈ u_ws (clsC 4) (clsF 4) (nfc 4), w ∈ wA := by
  intro w hw
  obtain ⟨k, hk, rfl⟩ := List.mem_map.mp hw
  have hk : k < 3 := List.mem_range.mp hk
  rcases (show k = 0 ∨ k = 1 ∨ k = 2 by omega) with rfl | rfl | rfl
  · exact wA_t 38 (by decide +kernel) rfl
  · exact wA_t 40 (by decide +kernel) rfl
  · exact wA_t 42 (by decide +kernel) rfl
theorem cwX5 : ∀ w ∈ u_ws (clsC 5) (clsF 5) (nfc 5), w ∈ wA := by
  intro w hw
  obtain ⟨k, hk, rfl⟩ := List.mem_map.mp hw
  have hk : k < 2 := List.mem_range.mp hk
  rcases (show k = 0 ∨ k = 1 by omega) with rfl | rfl
  · exact wA_t 98 (by decide +kernel) rfl
  · exact wA_t 100 (by decide +kernel) rfl
theorem cwX6 : ∀ w ∈ u_ws (clsC 6) (clsF 6) (nfc 6), w ∈ wA := by
  intro w hw
  obtain ⟨k, hk, rfl⟩ := List.mem_map.mp hw
  have hk : k < 3 := List.mem_range.mp hk
  rcases (show k = 0 ∨ k = 1 ∨ k = 2 by omega) with rfl | rfl | rfl
  · exact wA_t 206 (by decide +kernel) rfl
  · exact wA_t 208 (by decide +kernel) rfl
  · exact wA_t 210 (by decide +kernel) rfl
theorem cwX7 : ∀ w ∈ u_ws (clsC 7) (clsF 7) (nfc 7), w ∈ wA := by
  intro w hw
  obtain ⟨k, hk, rfl⟩ := List.mem_map.mp hw
  have hk : k < 2 := List.mem_range.mp hk
  rcases (show k = 0 ∨ k = 1 by omega) with rfl | rfl
  · exact wA_t 141 (by decide +kernel) rfl
  · exact wA_t 143 (by decide +kernel) rfl
theorem cwX8 : ∀ w ∈ u_ws (clsC 8) (clsF 8) (nfc 8), w ∈ wA := by
  intro w hw
  obtain ⟨k, hk, rfl⟩ := List.mem_map.mp hw
  have hk : k < 4 := List.mem_range.mp hk
  rcases (show k = 0 ∨ k = 1 ∨ k = 2 ∨ k = 3 by omega) with rfl | rfl | rfl | rfl
  · exact wA_t 163 (by decide +kernel) rfl
  · exact wA_t 165 (by decide +kernel) rfl
  · exact wA_t 167 (by decide +kernel) rfl
  · exact wA_t 169 (by decide +kernel) rfl
theorem cwX9 : ∀ w ∈ u_ws (clsC 9) (clsF 9) (nfc 9), w ∈ wA := by
  intro w hw
  obtain ⟨k, hk, rfl⟩ := List.mem_map.mp hw
  have hk : k < 3 := List.mem_range.mp hk
  rcases (show k = 0 ∨ k = 1 ∨ k = 2 by omega) with rfl | rfl | rfl
  · exact wA_t 232 (by decide +kernel) rfl
  · exact wA_t 234 (by decide +kernel) rfl
  · exact wA_t 236 (by decide +kernel) rfl
theorem cwX10 : ∀ w ∈ u_ws (clsC 10) (clsF 10) (nfc 10), w ∈ wA := by
  intro w hw
  obtain ⟨k, hk, rfl⟩ := List.mem_map.mp hw
  have hk : k < 3 := List.mem_range.mp hk
  rcases (show k = 0 ∨ k = 1 ∨ k = 2 by omega) with rfl | rfl | rfl
  · exact wA_t 253 (by decide +kernel) rfl
  · exact wA_t 255 (by decide +kernel) rfl
  · exact wA_t 257 (by decide +kernel) rfl
theorem cwX11 : ∀ w ∈ u_ws (clsC 11) (clsF 11) (nfc 11), w ∈ wA := by
  intro w hw
  obtain ⟨k, hk, rfl⟩ := List.mem_map.mp hw
  have hk : k < 13 := List.mem_range.mp hk
  rcases (show k = 0 ∨ k = 1 ∨ k = 2 ∨ k = 3 ∨ k = 4 ∨ k = 5 ∨ k = 6 ∨ k = 7 ∨ k = 8 ∨ k = 9 ∨ k = 10 ∨ k = 11 ∨ k = 12 by omega) with rfl | rfl | rfl | rfl | rfl | rfl | rfl | rfl | rfl | rfl | rfl | rfl | rfl
  · exact wA_t 274 (by decide +kernel) rfl
  · exact wA_t 276 (by decide +kernel) rfl
  · exact wA_t 278 (by decide +kernel) rfl
  · exact wA_t 280 (by decide +kernel) rfl
  · exact wA_t 282 (by decide +kernel) rfl
  · exact wA_t 284 (by decide +kernel) rfl
  · exact wA_t 286 (by decide +kernel) rfl
  · exact wA_t 288 (by decide +kernel) rfl
  · exact wA_t 290 (by decide +kernel) rfl
  · exact wA_t 292 (by decide +kernel) rfl
  · exact wA_t 294 (by decide +kernel) rfl
  · exact wA_t 296 (by decide +kernel) rfl
  · exact wA_t 298 (by decide +kernel) rfl
theorem cwX12 : ∀ w ∈ u_ws (clsC 12) (clsF 12) (nfc 12), w ∈ wA := by
  intro w hw
  obtain ⟨k, hk, rfl⟩ := List.mem_map.mp hw
  have hk : k < 29 := List.mem_range.mp hk
  rcases (show k = 0 ∨ k = 1 ∨ k = 2 ∨ k = 3 ∨ k = 4 ∨ k = 5 ∨ k = 6 ∨ k = 7 ∨ k = 8 ∨ k = 9 ∨ k = 10 ∨ k = 11 ∨ k = 12 ∨ k = 13 ∨ k = 14 ∨ k = 15 ∨ k = 16 ∨ k = 17 ∨ k = 18 ∨ k = 19 ∨ k = 20 ∨ k = 21 ∨ k = 22 ∨ k = 23 ∨ k = 24 ∨ k = 25 ∨ k = 26 ∨ k = 27 ∨ k = 28 by omega) with rfl | rfl | rfl | rfl | rfl | rfl | rfl | rfl | rfl | rfl | rfl | rfl | rfl | rfl | rfl | rfl | rfl | rfl | rfl | rfl | rfl | rfl | rfl | rfl | rfl | rfl | rfl | rfl | rfl
  · exact wA_t 827 (by decide +kernel) rfl
  · exact wA_t 829 (by decide +kernel) rfl
  · exact wA_t 831 (by decide +kernel) rfl
  · exact wA_t 833 (by decide +kernel) rfl
  · exact wA_t 835 (by decide +kernel) rfl
  · exact wA_t 837 (by decide +kernel) rfl
  · exact wA_t 839 (by decide +kernel) rfl
  · exact wA_t 841 (by decide +kernel) rfl
  · exact wA_t 843 (by decide +kernel) rfl
  · exact wA_t 845 (by decide +kernel) rfl
  · exact wA_t 847 (by decide +kernel) rfl
  · exact wA_t 849 (by decide +kernel) rfl
  · exact wA_t 851 (by decide +kernel) rfl
  · exact wA_t 853 (by decide +kernel) rfl
  · exact wA_t 855 (by decide +kernel) rfl
  · exact wA_t 857 (by decide +kernel) rfl
  · exact wA_t 859 (by decide +kernel) rfl
  · exact wA_t 861 (by decide +kernel) rfl
  · exact wA_t 863 (by decide +kernel) rfl
  · exact wA_t 865 (by decide +kernel) rfl
  · exact wA_t 867 (by decide +kernel) rfl
  · exact wA_t 869 (by decide +kernel) rfl
  · exact wA_t 871 (by decide +kernel) rfl
  · exact wA_t 873 (by decide +kernel) rfl
  · exact wA_t 875 (by decide +kernel) rfl
  · exact wA_t 877 (by decide +kernel) rfl
  · exact wA_t 879 (by decide +kernel) rfl
  · exact wA_t 881 (by decide +kernel) rfl
  · exact wA_t 883 (by decide +kernel) rfl
theorem flX4_9 : FL RX4 9 4 0 (.array .int) true := ⟨by decide, by decide, rfl, rfl, rfl, cwX4, Or.inl (wA_t 32 (by decide +kernel) rfl)⟩
theorem flX4_15 : FL RX4 15 4 1 (.array .int) true := ⟨by decide, by decide, rfl, rfl, rfl, cwX4, Or.inl (wA_t 35 (by decide +kernel) rfl)⟩
theorem flX4_18 : FL RX4 18 4 2 (.array .int) true := ⟨by decide, by decide, rfl, rfl, rfl, cwX4, Or.inl (wA_t 37 (by decide +kernel) rfl)⟩
theorem flX2_19 : FL RX2 19 2 0 .int false := ⟨by decide, by decide, rfl, rfl, rfl, cwX2, Or.inl (wA_t 54 (by decide +kernel) rfl)⟩
theorem flX2_29 : FL RX2 29 2 1 .int false := ⟨by decide, by decide, rfl, rfl, rfl, cwX2, Or.inl (wA_t 56 (by decide +kernel) rfl)⟩
theorem flX2_36 : FL RX2 36 2 2 .int false := ⟨by decide, by decide, rfl, rfl, rfl, cwX2, Or.inl (wA_t 58 (by decide +kernel) rfl)⟩
theorem flX2_50 : FL RX2 50 2 3 .int false := ⟨by decide, by decide, rfl, rfl, rfl, cwX2, Or.inl (wA_t 60 (by decide +kernel) rfl)⟩
theorem flX2_54 : FL RX2 54 2 4 .int false := ⟨by decide, by decide, rfl, rfl, rfl, cwX2, Or.inl (wA_t 63 (by decide +kernel) rfl)⟩
theorem flX2_58 : FL RX2 58 2 5 .int false := ⟨by decide, by decide, rfl, rfl, rfl, cwX2, Or.inl (wA_t 66 (by decide +kernel) rfl)⟩
theorem flX5_9 : FL RX5 9 5 0 (.array .int) true := ⟨by decide, by decide, rfl, rfl, rfl, cwX5, Or.inl (wA_t 95 (by decide +kernel) rfl)⟩
theorem flX5_15 : FL RX5 15 5 1 .int false := ⟨by decide, by decide, rfl, rfl, rfl, cwX5, Or.inl (wA_t 96 (by decide +kernel) rfl)⟩
theorem flX1_12 : FL RX1 12 1 0 (.object "LensTable$Row") true := ⟨by decide, by decide, rfl, rfl, rfl, cwX1, Or.inl (wA_t 103 (by decide +kernel) rfl)⟩
theorem flX1_18 : FL RX1 18 1 1 (.object "LensTable$Row") true := ⟨by decide, by decide, rfl, rfl, rfl, cwX1, Or.inl (wA_t 104 (by decide +kernel) rfl)⟩
theorem flX3_9 : FL RX3 9 3 0 (.array .int) true := ⟨by decide, by decide, rfl, rfl, rfl, cwX3, Or.inl (wA_t 116 (by decide +kernel) rfl)⟩
theorem flX3_15 : FL RX3 15 3 1 (.array .int) true := ⟨by decide, by decide, rfl, rfl, rfl, cwX3, Or.inl (wA_t 118 (by decide +kernel) rfl)⟩
theorem flX3_18 : FL RX3 18 3 2 .int false := ⟨by decide, by decide, rfl, rfl, rfl, cwX3, Or.inl (wA_t 120 (by decide +kernel) rfl)⟩
theorem flX7_25 : FL RX7 25 7 0 .long false := ⟨by decide, by decide, rfl, rfl, rfl, cwX7, Or.inl (wA_t 137 (by decide +kernel) rfl)⟩
theorem flX7_13 : FL RX7 13 7 1 .long false := ⟨by decide, by decide, rfl, rfl, rfl, cwX7, Or.inl (wA_t 139 (by decide +kernel) rfl)⟩
theorem flX8_13 : FL RX8 13 8 0 .int false := ⟨by decide, by decide, rfl, rfl, rfl, cwX8, Or.inl (wA_t 151 (by decide +kernel) rfl)⟩
theorem flX8_16 : FL RX8 16 8 1 .int false := ⟨by decide, by decide, rfl, rfl, rfl, cwX8, Or.inl (wA_t 154 (by decide +kernel) rfl)⟩
theorem flX8_19 : FL RX8 19 8 2 .int false := ⟨by decide, by decide, rfl, rfl, rfl, cwX8, Or.inl (wA_t 157 (by decide +kernel) rfl)⟩
theorem flX8_7 : FL RX8 7 8 3 .int false := ⟨by decide, by decide, rfl, rfl, rfl, cwX8, Or.inl (wA_t 160 (by decide +kernel) rfl)⟩
theorem flX0_9 : FL RX0 9 0 0 (.array .int) true := ⟨by decide, by decide, rfl, rfl, rfl, cwX0, Or.inl (wA_t 178 (by decide +kernel) rfl)⟩
theorem flX0_15 : FL RX0 15 0 1 .int false := ⟨by decide, by decide, rfl, rfl, rfl, cwX0, Or.inl (wA_t 180 (by decide +kernel) rfl)⟩
theorem flX0_19 : FL RX0 19 0 2 .int false := ⟨by decide, by decide, rfl, rfl, rfl, cwX0, Or.inl (wA_t 182 (by decide +kernel) rfl)⟩
theorem flX0_22 : FL RX0 22 0 3 .int false := ⟨by decide, by decide, rfl, rfl, rfl, cwX0, Or.inl (wA_t 183 (by decide +kernel) rfl)⟩
theorem flX0_25 : FL RX0 25 0 4 .int false := ⟨by decide, by decide, rfl, rfl, rfl, cwX0, Or.inl (wA_t 184 (by decide +kernel) rfl)⟩
theorem flX6_9 : FL RX6 9 6 0 (.array .int) true := ⟨by decide, by decide, rfl, rfl, rfl, cwX6, Or.inl (wA_t 201 (by decide +kernel) rfl)⟩
theorem flX6_15 : FL RX6 15 6 1 .int false := ⟨by decide, by decide, rfl, rfl, rfl, cwX6, Or.inl (wA_t 203 (by decide +kernel) rfl)⟩
theorem flX6_19 : FL RX6 19 6 2 .int false := ⟨by decide, by decide, rfl, rfl, rfl, cwX6, Or.inl (wA_t 205 (by decide +kernel) rfl)⟩
theorem flX9_13 : FL RX9 13 9 0 .int false := ⟨by decide, by decide, rfl, rfl, rfl, cwX9, Or.inl (wA_t 219 (by decide +kernel) rfl)⟩
theorem flX9_16 : FL RX9 16 9 1 .int false := ⟨by decide, by decide, rfl, rfl, rfl, cwX9, Or.inl (wA_t 223 (by decide +kernel) rfl)⟩
theorem flX9_7 : FL RX9 7 9 2 .int false := ⟨by decide, by decide, rfl, rfl, rfl, cwX9, Or.inl (wA_t 227 (by decide +kernel) rfl)⟩
theorem flX10_9 : FL RX10 9 10 0 (.array .boolean) true := ⟨by decide, by decide, rfl, rfl, rfl, cwX10, Or.inl (wA_t 244 (by decide +kernel) rfl)⟩
theorem flX10_15 : FL RX10 15 10 1 (.array .int) true := ⟨by decide, by decide, rfl, rfl, rfl, cwX10, Or.inl (wA_t 247 (by decide +kernel) rfl)⟩
theorem flX10_19 : FL RX10 19 10 2 (.array .int) true := ⟨by decide, by decide, rfl, rfl, rfl, cwX10, Or.inl (wA_t 250 (by decide +kernel) rfl)⟩
theorem flX11_11 : FL RX11 11 11 0 (.array (.object "LensTable$Sheet")) true := ⟨by decide, by decide, rfl, rfl, rfl, cwX11, Or.inl (wA_t 261 (by decide +kernel) rfl)⟩
theorem flX11_18 : FL RX11 18 11 1 (.object "LensTable$Room") true := ⟨by decide, by decide, rfl, rfl, rfl, cwX11, Or.inl (wA_t 262 (by decide +kernel) rfl)⟩
theorem flX11_24 : FL RX11 24 11 2 (.array (.object "LensTable$Thing")) true := ⟨by decide, by decide, rfl, rfl, rfl, cwX11, Or.inl (wA_t 263 (by decide +kernel) rfl)⟩
theorem flX11_28 : FL RX11 28 11 3 .int false := ⟨by decide, by decide, rfl, rfl, rfl, cwX11, Or.inl (wA_t 264 (by decide +kernel) rfl)⟩
theorem flX11_35 : FL RX11 35 11 4 (.object "LensTable$Picture") true := ⟨by decide, by decide, rfl, rfl, rfl, cwX11, Or.inl (wA_t 265 (by decide +kernel) rfl)⟩
theorem flX11_41 : FL RX11 41 11 5 (.array (.object "LensTable$Trace")) true := ⟨by decide, by decide, rfl, rfl, rfl, cwX11, Or.inl (wA_t 266 (by decide +kernel) rfl)⟩
theorem flX11_48 : FL RX11 48 11 6 (.object "LensTable$Joint") true := ⟨by decide, by decide, rfl, rfl, rfl, cwX11, Or.inl (wA_t 267 (by decide +kernel) rfl)⟩
theorem flX11_55 : FL RX11 55 11 7 (.object "LensTable$Ring") true := ⟨by decide, by decide, rfl, rfl, rfl, cwX11, Or.inl (wA_t 268 (by decide +kernel) rfl)⟩
theorem flX11_61 : FL RX11 61 11 8 (.array (.object "LensTable$Stand")) true := ⟨by decide, by decide, rfl, rfl, rfl, cwX11, Or.inl (wA_t 269 (by decide +kernel) rfl)⟩
theorem flX11_68 : FL RX11 68 11 9 (.object "LensTable$Sight") true := ⟨by decide, by decide, rfl, rfl, rfl, cwX11, Or.inl (wA_t 270 (by decide +kernel) rfl)⟩
theorem flX11_73 : FL RX11 73 11 10 (.object "LensTable$Stand") true := ⟨by decide, by decide, rfl, rfl, rfl, cwX11, Or.inl (wA_t 271 (by decide +kernel) rfl)⟩
theorem flX11_80 : FL RX11 80 11 11 (.object "LensTable$Bodies") true := ⟨by decide, by decide, rfl, rfl, rfl, cwX11, Or.inl (wA_t 272 (by decide +kernel) rfl)⟩
theorem flX11_84 : FL RX11 84 11 12 .int false := ⟨by decide, by decide, rfl, rfl, rfl, cwX11, Or.inl (wA_t 273 (by decide +kernel) rfl)⟩
theorem gsX11_139 : Cond.fieldLink RX11 139 RX11 "NUMBER_LEAST" "[I" ∈ wA := wA_t 360 (by decide +kernel) rfl
theorem gsX11_142 : Cond.fieldLink RX11 142 RX11 "NUMBER_MOST" "[I" ∈ wA := wA_t 362 (by decide +kernel) rfl
theorem flX12_59 : FL RX12 59 12 0 .int false := ⟨by decide, by decide, rfl, rfl, rfl, cwX12, Or.inl (wA_t 798 (by decide +kernel) rfl)⟩
theorem flX12_63 : FL RX12 63 12 1 .int false := ⟨by decide, by decide, rfl, rfl, rfl, cwX12, Or.inl (wA_t 799 (by decide +kernel) rfl)⟩
theorem flX12_7 : FL RX12 7 12 2 (.array .int) true := ⟨by decide, by decide, rfl, rfl, rfl, cwX12, Or.inl (wA_t 800 (by decide +kernel) rfl)⟩
theorem flX12_13 : FL RX12 13 12 3 (.array .int) true := ⟨by decide, by decide, rfl, rfl, rfl, cwX12, Or.inl (wA_t 801 (by decide +kernel) rfl)⟩
theorem flX12_16 : FL RX12 16 12 4 (.array .int) true := ⟨by decide, by decide, rfl, rfl, rfl, cwX12, Or.inl (wA_t 802 (by decide +kernel) rfl)⟩
theorem flX12_19 : FL RX12 19 12 5 (.array .int) true := ⟨by decide, by decide, rfl, rfl, rfl, cwX12, Or.inl (wA_t 803 (by decide +kernel) rfl)⟩
theorem flX12_22 : FL RX12 22 12 6 (.array .int) true := ⟨by decide, by decide, rfl, rfl, rfl, cwX12, Or.inl (wA_t 804 (by decide +kernel) rfl)⟩
theorem flX12_102 : FL RX12 102 12 7 .int false := ⟨by decide, by decide, rfl, rfl, rfl, cwX12, Or.inl (wA_t 805 (by decide +kernel) rfl)⟩
theorem flX12_25 : FL RX12 25 12 8 (.array .int) true := ⟨by decide, by decide, rfl, rfl, rfl, cwX12, Or.inl (wA_t 806 (by decide +kernel) rfl)⟩
theorem flX12_28 : FL RX12 28 12 9 (.array .int) true := ⟨by decide, by decide, rfl, rfl, rfl, cwX12, Or.inl (wA_t 807 (by decide +kernel) rfl)⟩
theorem flX12_31 : FL RX12 31 12 10 (.array .int) true := ⟨by decide, by decide, rfl, rfl, rfl, cwX12, Or.inl (wA_t 808 (by decide +kernel) rfl)⟩
theorem flX12_34 : FL RX12 34 12 11 (.array .boolean) true := ⟨by decide, by decide, rfl, rfl, rfl, cwX12, Or.inl (wA_t 809 (by decide +kernel) rfl)⟩
theorem flX12_38 : FL RX12 38 12 12 (.array .int) true := ⟨by decide, by decide, rfl, rfl, rfl, cwX12, Or.inl (wA_t 810 (by decide +kernel) rfl)⟩
theorem flX12_41 : FL RX12 41 12 13 (.array .int) true := ⟨by decide, by decide, rfl, rfl, rfl, cwX12, Or.inl (wA_t 811 (by decide +kernel) rfl)⟩
theorem flX12_150 : FL RX12 150 12 14 .int false := ⟨by decide, by decide, rfl, rfl, rfl, cwX12, Or.inl (wA_t 812 (by decide +kernel) rfl)⟩
theorem flX12_163 : FL RX12 163 12 15 .int false := ⟨by decide, by decide, rfl, rfl, rfl, cwX12, Or.inl (wA_t 813 (by decide +kernel) rfl)⟩
theorem flX12_166 : FL RX12 166 12 16 .int false := ⟨by decide, by decide, rfl, rfl, rfl, cwX12, Or.inl (wA_t 814 (by decide +kernel) rfl)⟩
theorem flX12_153 : FL RX12 153 12 17 .int false := ⟨by decide, by decide, rfl, rfl, rfl, cwX12, Or.inl (wA_t 815 (by decide +kernel) rfl)⟩
theorem flX12_44 : FL RX12 44 12 18 (.array .int) true := ⟨by decide, by decide, rfl, rfl, rfl, cwX12, Or.inl (wA_t 816 (by decide +kernel) rfl)⟩
theorem flX12_47 : FL RX12 47 12 19 (.array .int) true := ⟨by decide, by decide, rfl, rfl, rfl, cwX12, Or.inl (wA_t 817 (by decide +kernel) rfl)⟩
theorem flX12_50 : FL RX12 50 12 20 (.array .int) true := ⟨by decide, by decide, rfl, rfl, rfl, cwX12, Or.inl (wA_t 818 (by decide +kernel) rfl)⟩
theorem flX12_175 : FL RX12 175 12 21 .int false := ⟨by decide, by decide, rfl, rfl, rfl, cwX12, Or.inl (wA_t 819 (by decide +kernel) rfl)⟩
theorem flX12_53 : FL RX12 53 12 22 (.array .int) true := ⟨by decide, by decide, rfl, rfl, rfl, cwX12, Or.inl (wA_t 820 (by decide +kernel) rfl)⟩
theorem flX12_185 : FL RX12 185 12 23 .long false := ⟨by decide, by decide, rfl, rfl, rfl, cwX12, Or.inl (wA_t 821 (by decide +kernel) rfl)⟩
theorem flX12_181 : FL RX12 181 12 24 .long false := ⟨by decide, by decide, rfl, rfl, rfl, cwX12, Or.inl (wA_t 822 (by decide +kernel) rfl)⟩
theorem flX12_201 : FL RX12 201 12 25 .int false := ⟨by decide, by decide, rfl, rfl, rfl, cwX12, Or.inl (wA_t 823 (by decide +kernel) rfl)⟩
theorem flX12_204 : FL RX12 204 12 26 .int false := ⟨by decide, by decide, rfl, rfl, rfl, cwX12, Or.inl (wA_t 824 (by decide +kernel) rfl)⟩
theorem flX12_56 : FL RX12 56 12 27 (.array .int) true := ⟨by decide, by decide, rfl, rfl, rfl, cwX12, Or.inl (wA_t 825 (by decide +kernel) rfl)⟩
theorem flX12_233 : FL RX12 233 12 28 .int false := ⟨by decide, by decide, rfl, rfl, rfl, cwX12, Or.inl (wA_t 826 (by decide +kernel) rfl)⟩
theorem flX2_9 : FL RX2 9 4 0 (.array .int) true := ⟨by decide, by decide, rfl, rfl, rfl, cwX4, Or.inr ⟨"LensTable", wN_t 33 (by decide +kernel) rfl⟩⟩
theorem flX11_145 : FL RX11 145 4 0 (.array .int) true := ⟨by decide, by decide, rfl, rfl, rfl, cwX4, Or.inr ⟨"LensTable", wN_t 34 (by decide +kernel) rfl⟩⟩
theorem flX11_148 : FL RX11 148 4 1 (.array .int) true := ⟨by decide, by decide, rfl, rfl, rfl, cwX4, Or.inr ⟨"LensTable", wN_t 36 (by decide +kernel) rfl⟩⟩
theorem flX11_175 : FL RX11 175 2 0 .int false := ⟨by decide, by decide, rfl, rfl, rfl, cwX2, Or.inr ⟨"LensTable", wN_t 55 (by decide +kernel) rfl⟩⟩
theorem flX11_178 : FL RX11 178 2 1 .int false := ⟨by decide, by decide, rfl, rfl, rfl, cwX2, Or.inr ⟨"LensTable", wN_t 57 (by decide +kernel) rfl⟩⟩
theorem flX11_181 : FL RX11 181 2 2 .int false := ⟨by decide, by decide, rfl, rfl, rfl, cwX2, Or.inr ⟨"LensTable", wN_t 59 (by decide +kernel) rfl⟩⟩
theorem flX11_184 : FL RX11 184 2 3 .int false := ⟨by decide, by decide, rfl, rfl, rfl, cwX2, Or.inr ⟨"LensTable", wN_t 61 (by decide +kernel) rfl⟩⟩
theorem flX4_68 : FL RX4 68 2 3 .int false := ⟨by decide, by decide, rfl, rfl, rfl, cwX2, Or.inr ⟨"LensTable", wN_t 62 (by decide +kernel) rfl⟩⟩
theorem flX11_185 : FL RX11 185 2 4 .int false := ⟨by decide, by decide, rfl, rfl, rfl, cwX2, Or.inr ⟨"LensTable", wN_t 64 (by decide +kernel) rfl⟩⟩
theorem flX4_75 : FL RX4 75 2 4 .int false := ⟨by decide, by decide, rfl, rfl, rfl, cwX2, Or.inr ⟨"LensTable", wN_t 65 (by decide +kernel) rfl⟩⟩
theorem flX11_186 : FL RX11 186 2 5 .int false := ⟨by decide, by decide, rfl, rfl, rfl, cwX2, Or.inr ⟨"LensTable", wN_t 67 (by decide +kernel) rfl⟩⟩
theorem flX1_21 : FL RX1 21 5 1 .int false := ⟨by decide, by decide, rfl, rfl, rfl, cwX5, Or.inr ⟨"LensTable", wN_t 97 (by decide +kernel) rfl⟩⟩
theorem flX11_262 : FL RX11 262 3 0 (.array .int) true := ⟨by decide, by decide, rfl, rfl, rfl, cwX3, Or.inr ⟨"LensTable", wN_t 117 (by decide +kernel) rfl⟩⟩
theorem flX11_265 : FL RX11 265 3 1 (.array .int) true := ⟨by decide, by decide, rfl, rfl, rfl, cwX3, Or.inr ⟨"LensTable", wN_t 119 (by decide +kernel) rfl⟩⟩
theorem flX11_260 : FL RX11 260 3 2 .int false := ⟨by decide, by decide, rfl, rfl, rfl, cwX3, Or.inr ⟨"LensTable", wN_t 121 (by decide +kernel) rfl⟩⟩
theorem flX11_289 : FL RX11 289 7 0 .long false := ⟨by decide, by decide, rfl, rfl, rfl, cwX7, Or.inr ⟨"LensTable", wN_t 138 (by decide +kernel) rfl⟩⟩
theorem flX11_293 : FL RX11 293 7 1 .long false := ⟨by decide, by decide, rfl, rfl, rfl, cwX7, Or.inr ⟨"LensTable", wN_t 140 (by decide +kernel) rfl⟩⟩
theorem flX7_19 : FL RX7 19 8 0 .int false := ⟨by decide, by decide, rfl, rfl, rfl, cwX8, Or.inr ⟨"LensTable", wN_t 152 (by decide +kernel) rfl⟩⟩
theorem flX11_383 : FL RX11 383 8 0 .int false := ⟨by decide, by decide, rfl, rfl, rfl, cwX8, Or.inr ⟨"LensTable", wN_t 153 (by decide +kernel) rfl⟩⟩
theorem flX7_34 : FL RX7 34 8 1 .int false := ⟨by decide, by decide, rfl, rfl, rfl, cwX8, Or.inr ⟨"LensTable", wN_t 155 (by decide +kernel) rfl⟩⟩
theorem flX11_386 : FL RX11 386 8 1 .int false := ⟨by decide, by decide, rfl, rfl, rfl, cwX8, Or.inr ⟨"LensTable", wN_t 156 (by decide +kernel) rfl⟩⟩
theorem flX7_22 : FL RX7 22 8 2 .int false := ⟨by decide, by decide, rfl, rfl, rfl, cwX8, Or.inr ⟨"LensTable", wN_t 158 (by decide +kernel) rfl⟩⟩
theorem flX11_389 : FL RX11 389 8 2 .int false := ⟨by decide, by decide, rfl, rfl, rfl, cwX8, Or.inr ⟨"LensTable", wN_t 159 (by decide +kernel) rfl⟩⟩
theorem flX7_7 : FL RX7 7 8 3 .int false := ⟨by decide, by decide, rfl, rfl, rfl, cwX8, Or.inr ⟨"LensTable", wN_t 161 (by decide +kernel) rfl⟩⟩
theorem flX11_392 : FL RX11 392 8 3 .int false := ⟨by decide, by decide, rfl, rfl, rfl, cwX8, Or.inr ⟨"LensTable", wN_t 162 (by decide +kernel) rfl⟩⟩
theorem flX11_364 : FL RX11 364 0 0 (.array .int) true := ⟨by decide, by decide, rfl, rfl, rfl, cwX0, Or.inr ⟨"LensTable", wN_t 179 (by decide +kernel) rfl⟩⟩
theorem flX11_361 : FL RX11 361 0 1 .int false := ⟨by decide, by decide, rfl, rfl, rfl, cwX0, Or.inr ⟨"LensTable", wN_t 181 (by decide +kernel) rfl⟩⟩
theorem flX11_125 : FL RX11 125 6 0 (.array .int) true := ⟨by decide, by decide, rfl, rfl, rfl, cwX6, Or.inr ⟨"LensTable", wN_t 202 (by decide +kernel) rfl⟩⟩
theorem flX11_122 : FL RX11 122 6 1 .int false := ⟨by decide, by decide, rfl, rfl, rfl, cwX6, Or.inr ⟨"LensTable", wN_t 204 (by decide +kernel) rfl⟩⟩
theorem flX4_21 : FL RX4 21 9 0 .int false := ⟨by decide, by decide, rfl, rfl, rfl, cwX9, Or.inr ⟨"LensTable", wN_t 218 (by decide +kernel) rfl⟩⟩
theorem flX2_39 : FL RX2 39 9 0 .int false := ⟨by decide, by decide, rfl, rfl, rfl, cwX9, Or.inr ⟨"LensTable", wN_t 220 (by decide +kernel) rfl⟩⟩
theorem flX8_27 : FL RX8 27 9 0 .int false := ⟨by decide, by decide, rfl, rfl, rfl, cwX9, Or.inr ⟨"LensTable", wN_t 221 (by decide +kernel) rfl⟩⟩
theorem flX11_166 : FL RX11 166 9 0 .int false := ⟨by decide, by decide, rfl, rfl, rfl, cwX9, Or.inr ⟨"LensTable", wN_t 222 (by decide +kernel) rfl⟩⟩
theorem flX2_51 : FL RX2 51 9 1 .int false := ⟨by decide, by decide, rfl, rfl, rfl, cwX9, Or.inr ⟨"LensTable", wN_t 224 (by decide +kernel) rfl⟩⟩
theorem flX8_36 : FL RX8 36 9 1 .int false := ⟨by decide, by decide, rfl, rfl, rfl, cwX9, Or.inr ⟨"LensTable", wN_t 225 (by decide +kernel) rfl⟩⟩
theorem flX11_169 : FL RX11 169 9 1 .int false := ⟨by decide, by decide, rfl, rfl, rfl, cwX9, Or.inr ⟨"LensTable", wN_t 226 (by decide +kernel) rfl⟩⟩
theorem flX4_27 : FL RX4 27 9 2 .int false := ⟨by decide, by decide, rfl, rfl, rfl, cwX9, Or.inr ⟨"LensTable", wN_t 228 (by decide +kernel) rfl⟩⟩
theorem flX2_44 : FL RX2 44 9 2 .int false := ⟨by decide, by decide, rfl, rfl, rfl, cwX9, Or.inr ⟨"LensTable", wN_t 229 (by decide +kernel) rfl⟩⟩
theorem flX8_22 : FL RX8 22 9 2 .int false := ⟨by decide, by decide, rfl, rfl, rfl, cwX9, Or.inr ⟨"LensTable", wN_t 230 (by decide +kernel) rfl⟩⟩
theorem flX11_172 : FL RX11 172 9 2 .int false := ⟨by decide, by decide, rfl, rfl, rfl, cwX9, Or.inr ⟨"LensTable", wN_t 231 (by decide +kernel) rfl⟩⟩
theorem flX1_25 : FL RX1 25 10 0 (.array .boolean) true := ⟨by decide, by decide, rfl, rfl, rfl, cwX10, Or.inr ⟨"LensTable", wN_t 245 (by decide +kernel) rfl⟩⟩
theorem flX11_222 : FL RX11 222 10 0 (.array .boolean) true := ⟨by decide, by decide, rfl, rfl, rfl, cwX10, Or.inr ⟨"LensTable", wN_t 246 (by decide +kernel) rfl⟩⟩
theorem flX1_31 : FL RX1 31 10 1 (.array .int) true := ⟨by decide, by decide, rfl, rfl, rfl, cwX10, Or.inr ⟨"LensTable", wN_t 248 (by decide +kernel) rfl⟩⟩
theorem flX11_238 : FL RX11 238 10 1 (.array .int) true := ⟨by decide, by decide, rfl, rfl, rfl, cwX10, Or.inr ⟨"LensTable", wN_t 249 (by decide +kernel) rfl⟩⟩
theorem flX1_39 : FL RX1 39 10 2 (.array .int) true := ⟨by decide, by decide, rfl, rfl, rfl, cwX10, Or.inr ⟨"LensTable", wN_t 251 (by decide +kernel) rfl⟩⟩
theorem flX11_240 : FL RX11 240 10 2 (.array .int) true := ⟨by decide, by decide, rfl, rfl, rfl, cwX10, Or.inr ⟨"LensTable", wN_t 252 (by decide +kernel) rfl⟩⟩
theorem kcX11_98 : Cond.constant RX11 98 (-1000001) ∈ wA := wA_t 311 (by decide +kernel) rfl
theorem kcX11_379 : Cond.constant RX11 379 (-1000010) ∈ wA := wA_t 316 (by decide +kernel) rfl
theorem kcX11_154 : Cond.constant RX11 154 (-1000003) ∈ wA := wA_t 382 (by decide +kernel) rfl
theorem kcX11_237 : Cond.constant RX11 237 (-1000000) ∈ wA := wA_t 513 (by decide +kernel) rfl
theorem kcX12_79 : Cond.constant RX12 79 (-1000001) ∈ wA := wA_t 898 (by decide +kernel) rfl
theorem kcX12_66 : Cond.constant RX12 66 (-1000010) ∈ wA := wA_t 903 (by decide +kernel) rfl
theorem kcX12_109 : Cond.constant RX12 109 (-1000003) ∈ wA := wA_t 944 (by decide +kernel) rfl
theorem kcX12_149 : Cond.constant RX12 149 (-1000000) ∈ wA := wA_t 1023 (by decide +kernel) rfl
theorem kcX11_282 : Cond.constantLong RX11 282 (-1000001) ∈ wA := wA_t 588 (by decide +kernel) rfl
theorem kcX11_287 : Cond.constantLong RX11 287 (-1000000) ∈ wA := wA_t 594 (by decide +kernel) rfl
theorem kcX12_67 : Cond.constantLong RX12 67 (7) ∈ wA := wA_t 893 (by decide +kernel) rfl
theorem kcX12_77 : Cond.constantLong RX12 77 (2) ∈ wA := wA_t 897 (by decide +kernel) rfl
theorem kcX12_84 : Cond.constantLong RX12 84 (6) ∈ wA := wA_t 920 (by decide +kernel) rfl
theorem kcX12_86 : Cond.constantLong RX12 86 (-8) ∈ wA := wA_t 925 (by decide +kernel) rfl
theorem kcX12_88 : Cond.constantLong RX12 88 (8) ∈ wA := wA_t 926 (by decide +kernel) rfl
theorem kcX12_90 : Cond.constantLong RX12 90 (-50) ∈ wA := wA_t 927 (by decide +kernel) rfl
theorem kcX12_92 : Cond.constantLong RX12 92 (50) ∈ wA := wA_t 928 (by decide +kernel) rfl
theorem kcX12_94 : Cond.constantLong RX12 94 (23) ∈ wA := wA_t 933 (by decide +kernel) rfl
theorem kcX12_96 : Cond.constantLong RX12 96 (-1000) ∈ wA := wA_t 941 (by decide +kernel) rfl
theorem kcX12_98 : Cond.constantLong RX12 98 (1000) ∈ wA := wA_t 942 (by decide +kernel) rfl
theorem kcX12_100 : Cond.constantLong RX12 100 (5000) ∈ wA := wA_t 943 (by decide +kernel) rfl
theorem kcX12_138 : Cond.constantLong RX12 138 (-1) ∈ wA := wA_t 996 (by decide +kernel) rfl
theorem kcX12_169 : Cond.constantLong RX12 169 (3) ∈ wA := wA_t 1028 (by decide +kernel) rfl
theorem kcX12_191 : Cond.constantLong RX12 191 (-1000001) ∈ wA := wA_t 1064 (by decide +kernel) rfl
theorem kcX12_197 : Cond.constantLong RX12 197 (-1000000) ∈ wA := wA_t 1069 (by decide +kernel) rfl
theorem kcX12_199 : Cond.constantLong RX12 199 (20) ∈ wA := wA_t 1078 (by decide +kernel) rfl
theorem kcX12_220 : Cond.constantLong RX12 220 (364) ∈ wA := wA_t 1107 (by decide +kernel) rfl
theorem kcX12_222 : Cond.constantLong RX12 222 (-6) ∈ wA := wA_t 1108 (by decide +kernel) rfl
theorem T0_k {k c n : Nat} (h : k < 113) (e : T0ty k = (c, n)) : KD T0 k c n := ⟨h, e⟩
theorem kd_sheet {i : Nat} (h : i < 8) : KD T0 (22 + 2 * i) 6 0 := T0_k (by omega) ((by decide +kernel : ∀ i, i < 8 → T0ty (22 + 2 * i) = (6, 0)) i h)
theorem kd_items {i : Nat} (h : i < 8) : KD T0 (23 + 2 * i) 20 80 := T0_k (by omega) ((by decide +kernel : ∀ i, i < 8 → T0ty (23 + 2 * i) = (20, 80)) i h)
theorem kd_thing {i : Nat} (h : i < 24) : KD T0 (38 + i) 9 0 := T0_k (by omega) ((by decide +kernel : ∀ i, i < 24 → T0ty (38 + i) = (9, 0)) i h)
theorem kd_trace {i : Nat} (h : i < 8) : KD T0 (62 + 4 * i) 10 0 := T0_k (by omega) ((by decide +kernel : ∀ i, i < 8 → T0ty (62 + 4 * i) = (10, 0)) i h)
theorem kd_has {i : Nat} (h : i < 8) : KD T0 (63 + 4 * i) 21 24 := T0_k (by omega) ((by decide +kernel : ∀ i, i < 8 → T0ty (63 + 4 * i) = (21, 24)) i h)
theorem kd_tx {i : Nat} (h : i < 8) : KD T0 (64 + 4 * i) 20 24 := T0_k (by omega) ((by decide +kernel : ∀ i, i < 8 → T0ty (64 + 4 * i) = (20, 24)) i h)
theorem kd_ty {i : Nat} (h : i < 8) : KD T0 (65 + 4 * i) 20 24 := T0_k (by omega) ((by decide +kernel : ∀ i, i < 8 → T0ty (65 + 4 * i) = (20, 24)) i h)
theorem kd_stand {i : Nat} (h : i < 2) : KD T0 (94 + i) 8 0 := T0_k (by omega) ((by decide +kernel : ∀ i, i < 2 → T0ty (94 + i) = (8, 0)) i h)
theorem rf_sheets {i : Nat} (h : i < 8) : T0r 1 i = some (22 + 2 * i) := (by decide +kernel : ∀ i, i < 8 → T0r 1 i = some (22 + 2 * i)) i h
theorem rf_items {i : Nat} (h : i < 8) : T0r (22 + 2 * i) 0 = some (23 + 2 * i) := (by decide +kernel : ∀ i, i < 8 → T0r (22 + 2 * i) 0 = some (23 + 2 * i)) i h
theorem rf_things {i : Nat} (h : i < 24) : T0r 6 i = some (38 + i) := (by decide +kernel : ∀ i, i < 24 → T0r 6 i = some (38 + i)) i h
theorem rf_traces {i : Nat} (h : i < 8) : T0r 8 i = some (62 + 4 * i) := (by decide +kernel : ∀ i, i < 8 → T0r 8 i = some (62 + 4 * i)) i h
theorem rf_has {i : Nat} (h : i < 8) : T0r (62 + 4 * i) 0 = some (63 + 4 * i) := (by decide +kernel : ∀ i, i < 8 → T0r (62 + 4 * i) 0 = some (63 + 4 * i)) i h
theorem rf_tx {i : Nat} (h : i < 8) : T0r (62 + 4 * i) 1 = some (64 + 4 * i) := (by decide +kernel : ∀ i, i < 8 → T0r (62 + 4 * i) 1 = some (64 + 4 * i)) i h
theorem rf_ty {i : Nat} (h : i < 8) : T0r (62 + 4 * i) 2 = some (65 + 4 * i) := (by decide +kernel : ∀ i, i < 8 → T0r (62 + 4 * i) 2 = some (65 + 4 * i)) i h
theorem rf_stands {i : Nat} (h : i < 2) : T0r 17 i = some (94 + i) := (by decide +kernel : ∀ i, i < 2 → T0r 17 i = some (94 + i)) i h
theorem kd_0 : KD T0 0 11 0 := T0_k (by decide) (by decide +kernel)
theorem kd_1 : KD T0 1 22 8 := T0_k (by decide) (by decide +kernel)
theorem kd_2 : KD T0 2 4 0 := T0_k (by decide) (by decide +kernel)
theorem kd_3 : KD T0 3 20 7 := T0_k (by decide) (by decide +kernel)
theorem kd_4 : KD T0 4 20 17 := T0_k (by decide) (by decide +kernel)
theorem kd_5 : KD T0 5 20 101 := T0_k (by decide) (by decide +kernel)
theorem kd_6 : KD T0 6 23 24 := T0_k (by decide) (by decide +kernel)
theorem kd_7 : KD T0 7 2 0 := T0_k (by decide) (by decide +kernel)
theorem kd_8 : KD T0 8 24 8 := T0_k (by decide) (by decide +kernel)
theorem kd_9 : KD T0 9 1 0 := T0_k (by decide) (by decide +kernel)
theorem kd_10 : KD T0 10 5 0 := T0_k (by decide) (by decide +kernel)
theorem kd_11 : KD T0 11 20 24 := T0_k (by decide) (by decide +kernel)
theorem kd_12 : KD T0 12 5 0 := T0_k (by decide) (by decide +kernel)
theorem kd_13 : KD T0 13 20 24 := T0_k (by decide) (by decide +kernel)
theorem kd_14 : KD T0 14 3 0 := T0_k (by decide) (by decide +kernel)
theorem kd_15 : KD T0 15 20 9 := T0_k (by decide) (by decide +kernel)
theorem kd_16 : KD T0 16 20 9 := T0_k (by decide) (by decide +kernel)
theorem kd_17 : KD T0 17 25 2 := T0_k (by decide) (by decide +kernel)
theorem kd_18 : KD T0 18 7 0 := T0_k (by decide) (by decide +kernel)
theorem kd_19 : KD T0 19 8 0 := T0_k (by decide) (by decide +kernel)
theorem kd_20 : KD T0 20 0 0 := T0_k (by decide) (by decide +kernel)
theorem kd_21 : KD T0 21 20 16 := T0_k (by decide) (by decide +kernel)
theorem kd_96 : KD T0 96 12 0 := T0_k (by decide) (by decide +kernel)
theorem kd_97 : KD T0 97 20 8 := T0_k (by decide) (by decide +kernel)
theorem kd_98 : KD T0 98 20 8 := T0_k (by decide) (by decide +kernel)
theorem kd_99 : KD T0 99 20 640 := T0_k (by decide) (by decide +kernel)
theorem kd_100 : KD T0 100 20 7 := T0_k (by decide) (by decide +kernel)
theorem kd_101 : KD T0 101 20 17 := T0_k (by decide) (by decide +kernel)
theorem kd_102 : KD T0 102 20 24 := T0_k (by decide) (by decide +kernel)
theorem kd_103 : KD T0 103 20 24 := T0_k (by decide) (by decide +kernel)
theorem kd_104 : KD T0 104 20 24 := T0_k (by decide) (by decide +kernel)
theorem kd_105 : KD T0 105 21 192 := T0_k (by decide) (by decide +kernel)
theorem kd_106 : KD T0 106 20 192 := T0_k (by decide) (by decide +kernel)
theorem kd_107 : KD T0 107 20 192 := T0_k (by decide) (by decide +kernel)
theorem kd_108 : KD T0 108 20 24 := T0_k (by decide) (by decide +kernel)
theorem kd_109 : KD T0 109 20 9 := T0_k (by decide) (by decide +kernel)
theorem kd_110 : KD T0 110 20 9 := T0_k (by decide) (by decide +kernel)
theorem kd_111 : KD T0 111 20 8 := T0_k (by decide) (by decide +kernel)
theorem kd_112 : KD T0 112 20 16 := T0_k (by decide) (by decide +kernel)
theorem kd_94 : KD T0 94 8 0 := T0_k (by decide) (by decide +kernel)
theorem kd_95 : KD T0 95 8 0 := T0_k (by decide) (by decide +kernel)
theorem rf_0_0 : T0r 0 0 = some 1 := by decide +kernel
theorem rf_0_1 : T0r 0 1 = some 2 := by decide +kernel
theorem rf_0_2 : T0r 0 2 = some 6 := by decide +kernel
theorem rf_0_4 : T0r 0 4 = some 7 := by decide +kernel
theorem rf_0_5 : T0r 0 5 = some 8 := by decide +kernel
theorem rf_0_6 : T0r 0 6 = some 9 := by decide +kernel
theorem rf_0_7 : T0r 0 7 = some 14 := by decide +kernel
theorem rf_0_8 : T0r 0 8 = some 17 := by decide +kernel
theorem rf_0_9 : T0r 0 9 = some 18 := by decide +kernel
theorem rf_0_10 : T0r 0 10 = some 19 := by decide +kernel
theorem rf_0_11 : T0r 0 11 = some 20 := by decide +kernel
theorem rf_2_0 : T0r 2 0 = some 3 := by decide +kernel
theorem rf_2_1 : T0r 2 1 = some 4 := by decide +kernel
theorem rf_2_2 : T0r 2 2 = some 5 := by decide +kernel
theorem rf_9_0 : T0r 9 0 = some 10 := by decide +kernel
theorem rf_9_1 : T0r 9 1 = some 12 := by decide +kernel
theorem rf_10_0 : T0r 10 0 = some 11 := by decide +kernel
theorem rf_12_0 : T0r 12 0 = some 13 := by decide +kernel
theorem rf_14_0 : T0r 14 0 = some 15 := by decide +kernel
theorem rf_14_1 : T0r 14 1 = some 16 := by decide +kernel
theorem rf_20_0 : T0r 20 0 = some 21 := by decide +kernel
theorem rf_17_0 : T0r 17 0 = some 94 := by decide +kernel
theorem rf_17_1 : T0r 17 1 = some 95 := by decide +kernel
theorem rf_96_2 : T0r 96 2 = some 97 := by decide +kernel
theorem rf_96_3 : T0r 96 3 = some 98 := by decide +kernel
theorem rf_96_4 : T0r 96 4 = some 99 := by decide +kernel
theorem rf_96_5 : T0r 96 5 = some 100 := by decide +kernel
theorem rf_96_6 : T0r 96 6 = some 101 := by decide +kernel
theorem rf_96_8 : T0r 96 8 = some 102 := by decide +kernel
theorem rf_96_9 : T0r 96 9 = some 103 := by decide +kernel
theorem rf_96_10 : T0r 96 10 = some 104 := by decide +kernel
theorem rf_96_11 : T0r 96 11 = some 105 := by decide +kernel
theorem rf_96_12 : T0r 96 12 = some 106 := by decide +kernel
theorem rf_96_13 : T0r 96 13 = some 107 := by decide +kernel
theorem rf_96_18 : T0r 96 18 = some 108 := by decide +kernel
theorem rf_96_19 : T0r 96 19 = some 109 := by decide +kernel
theorem rf_96_20 : T0r 96 20 = some 110 := by decide +kernel
theorem rf_96_22 : T0r 96 22 = some 111 := by decide +kernel
theorem rf_96_27 : T0r 96 27 = some 112 := by decide +kernel
