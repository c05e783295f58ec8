section ZZM
abbrev mX0_init : zz_M := (yX0_init, cX0_init, 1, none, RX0, [])
abbrev mX0_below : zz_M := (yX0_below, cX0_below, 1, (some .long), RX0, [])
theorem wYX0_below : mX0_below.2.2.2.2.2 = [] ∧ mX0_below.2.2.1 ≤ 17 ∧ Cond.static mX0_below.1 ∈ zz_g ∧ Cond.initialized mX0_below.1.cls ∈ zz_g ∧ Cond.code mX0_below.1 mX0_below.2.1 mX0_below.2.2.1 mX0_below.2.2.2.1 ∈ zz_g := ⟨rfl, by decide, zw_t_X0_below, zw_n_X0, zw_c_X0_below⟩
theorem wDX0_below : (mX0_below.1.cls ≠ "java/lang/invoke/MethodHandle" ∧ mX0_below.1.cls ≠ "java/lang/invoke/VarHandle") ∧ (parseMethodDescriptor mX0_below.1.desc).map (fun d => d.parameters.length) = some 1 := by decide +kernel
theorem wPX0_below : plainName mX0_below.1.cls = true := by decide +kernel
abbrev mX0_lowRange : zz_M := (yX0_lowRange, cX0_lowRange, 2, (some .long), RX0, [])
theorem wYX0_lowRange : mX0_lowRange.2.2.2.2.2 = [] ∧ mX0_lowRange.2.2.1 ≤ 17 ∧ Cond.static mX0_lowRange.1 ∈ zz_g ∧ Cond.initialized mX0_lowRange.1.cls ∈ zz_g ∧ Cond.code mX0_lowRange.1 mX0_lowRange.2.1 mX0_lowRange.2.2.1 mX0_lowRange.2.2.2.1 ∈ zz_g := ⟨rfl, by decide, zw_t_X0_lowRange, zw_n_X0, zw_c_X0_lowRange⟩
theorem wDX0_lowRange : (mX0_lowRange.1.cls ≠ "java/lang/invoke/MethodHandle" ∧ mX0_lowRange.1.cls ≠ "java/lang/invoke/VarHandle") ∧ (parseMethodDescriptor mX0_lowRange.1.desc).map (fun d => d.parameters.length) = some 2 := by decide +kernel
theorem wPX0_lowRange : plainName mX0_lowRange.1.cls = true := by decide +kernel
abbrev mX0_highRange : zz_M := (yX0_highRange, cX0_highRange, 2, (some .long), RX0, [])
theorem wYX0_highRange : mX0_highRange.2.2.2.2.2 = [] ∧ mX0_highRange.2.2.1 ≤ 17 ∧ Cond.static mX0_highRange.1 ∈ zz_g ∧ Cond.initialized mX0_highRange.1.cls ∈ zz_g ∧ Cond.code mX0_highRange.1 mX0_highRange.2.1 mX0_highRange.2.2.1 mX0_highRange.2.2.2.1 ∈ zz_g := ⟨rfl, by decide, zw_t_X0_highRange, zw_n_X0, zw_c_X0_highRange⟩
theorem wDX0_highRange : (mX0_highRange.1.cls ≠ "java/lang/invoke/MethodHandle" ∧ mX0_highRange.1.cls ≠ "java/lang/invoke/VarHandle") ∧ (parseMethodDescriptor mX0_highRange.1.desc).map (fun d => d.parameters.length) = some 2 := by decide +kernel
theorem wPX0_highRange : plainName mX0_highRange.1.cls = true := by decide +kernel
abbrev mX0_clear : zz_M := (yX0_clear, cX0_clear, 1, none, RX0, [])
theorem wYX0_clear : mX0_clear.2.2.2.2.2 = [] ∧ mX0_clear.2.2.1 ≤ 17 ∧ Cond.instanceMethod mX0_clear.1 ∈ zz_g ∧ Cond.selects mX0_clear.1.cls mX0_clear.1 mX0_clear.1 ∈ zz_g ∧ Cond.initialized mX0_clear.1.cls ∈ zz_g ∧ Cond.code mX0_clear.1 mX0_clear.2.1 mX0_clear.2.2.1 mX0_clear.2.2.2.1 ∈ zz_g := ⟨rfl, by decide, zw_i_X0_clear, zw_s_X0_clear, zw_n_X0, zw_c_X0_clear⟩
theorem wDX0_clear : (mX0_clear.1.cls ≠ "java/lang/invoke/MethodHandle" ∧ mX0_clear.1.cls ≠ "java/lang/invoke/VarHandle") ∧ (parseMethodDescriptor mX0_clear.1.desc).map (fun d => d.parameters.length) = some 0 := by decide +kernel
theorem wPX0_clear : plainName mX0_clear.1.cls = true := by decide +kernel
abbrev mX0_become : zz_M := (yX0_become, cX0_become, 2, none, RX0, [])
theorem wYX0_become : mX0_become.2.2.2.2.2 = [] ∧ mX0_become.2.2.1 ≤ 17 ∧ Cond.instanceMethod mX0_become.1 ∈ zz_g ∧ Cond.selects mX0_become.1.cls mX0_become.1 mX0_become.1 ∈ zz_g ∧ Cond.initialized mX0_become.1.cls ∈ zz_g ∧ Cond.code mX0_become.1 mX0_become.2.1 mX0_become.2.2.1 mX0_become.2.2.2.1 ∈ zz_g := ⟨rfl, by decide, zw_i_X0_become, zw_s_X0_become, zw_n_X0, zw_c_X0_become⟩
theorem wDX0_become : (mX0_become.1.cls ≠ "java/lang/invoke/MethodHandle" ∧ mX0_become.1.cls ≠ "java/lang/invoke/VarHandle") ∧ (parseMethodDescriptor mX0_become.1.desc).map (fun d => d.parameters.length) = some 1 := by decide +kernel
theorem wPX0_become : plainName mX0_become.1.cls = true := by decide +kernel
abbrev mX0_unite : zz_M := (yX0_unite, cX0_unite, 2, none, RX0, [])
theorem wYX0_unite : mX0_unite.2.2.2.2.2 = [] ∧ mX0_unite.2.2.1 ≤ 17 ∧ Cond.instanceMethod mX0_unite.1 ∈ zz_g ∧ Cond.selects mX0_unite.1.cls mX0_unite.1 mX0_unite.1 ∈ zz_g ∧ Cond.initialized mX0_unite.1.cls ∈ zz_g ∧ Cond.code mX0_unite.1 mX0_unite.2.1 mX0_unite.2.2.1 mX0_unite.2.2.2.1 ∈ zz_g := ⟨rfl, by decide, zw_i_X0_unite, zw_s_X0_unite, zw_n_X0, zw_c_X0_unite⟩
theorem wDX0_unite : (mX0_unite.1.cls ≠ "java/lang/invoke/MethodHandle" ∧ mX0_unite.1.cls ≠ "java/lang/invoke/VarHandle") ∧ (parseMethodDescriptor mX0_unite.1.desc).map (fun d => d.parameters.length) = some 1 := by decide +kernel
theorem wPX0_unite : plainName mX0_unite.1.cls = true := by decide +kernel
abbrev mX0_remove : zz_M := (yX0_remove, cX0_remove, 2, none, RX0, [])
theorem wYX0_remove : mX0_remove.2.2.2.2.2 = [] ∧ mX0_remove.2.2.1 ≤ 17 ∧ Cond.instanceMethod mX0_remove.1 ∈ zz_g ∧ Cond.selects mX0_remove.1.cls mX0_remove.1 mX0_remove.1 ∈ zz_g ∧ Cond.initialized mX0_remove.1.cls ∈ zz_g ∧ Cond.code mX0_remove.1 mX0_remove.2.1 mX0_remove.2.2.1 mX0_remove.2.2.2.1 ∈ zz_g := ⟨rfl, by decide, zw_i_X0_remove, zw_s_X0_remove, zw_n_X0, zw_c_X0_remove⟩
theorem wDX0_remove : (mX0_remove.1.cls ≠ "java/lang/invoke/MethodHandle" ∧ mX0_remove.1.cls ≠ "java/lang/invoke/VarHandle") ∧ (parseMethodDescriptor mX0_remove.1.desc).map (fun d => d.parameters.length) = some 1 := by decide +kernel
theorem wPX0_remove : plainName mX0_remove.1.cls = true := by decide +kernel
abbrev mX0_putRange : zz_M := (yX0_putRange, cX0_putRange, 8, none, RX0, [])
theorem wYX0_putRange : mX0_putRange.2.2.2.2.2 = [] ∧ mX0_putRange.2.2.1 ≤ 17 ∧ Cond.instanceMethod mX0_putRange.1 ∈ zz_g ∧ Cond.selects mX0_putRange.1.cls mX0_putRange.1 mX0_putRange.1 ∈ zz_g ∧ Cond.initialized mX0_putRange.1.cls ∈ zz_g ∧ Cond.code mX0_putRange.1 mX0_putRange.2.1 mX0_putRange.2.2.1 mX0_putRange.2.2.2.1 ∈ zz_g := ⟨rfl, by decide, zw_i_X0_putRange, zw_s_X0_putRange, zw_n_X0, zw_c_X0_putRange⟩
theorem wDX0_putRange : (mX0_putRange.1.cls ≠ "java/lang/invoke/MethodHandle" ∧ mX0_putRange.1.cls ≠ "java/lang/invoke/VarHandle") ∧ (parseMethodDescriptor mX0_putRange.1.desc).map (fun d => d.parameters.length) = some 3 := by decide +kernel
theorem wPX0_putRange : plainName mX0_putRange.1.cls = true := by decide +kernel
abbrev mX0_invert : zz_M := (yX0_invert, cX0_invert, 3, none, RX0, [])
theorem wYX0_invert : mX0_invert.2.2.2.2.2 = [] ∧ mX0_invert.2.2.1 ≤ 17 ∧ Cond.instanceMethod mX0_invert.1 ∈ zz_g ∧ Cond.selects mX0_invert.1.cls mX0_invert.1 mX0_invert.1 ∈ zz_g ∧ Cond.initialized mX0_invert.1.cls ∈ zz_g ∧ Cond.code mX0_invert.1 mX0_invert.2.1 mX0_invert.2.2.1 mX0_invert.2.2.2.1 ∈ zz_g := ⟨rfl, by decide, zw_i_X0_invert, zw_s_X0_invert, zw_n_X0, zw_c_X0_invert⟩
theorem wDX0_invert : (mX0_invert.1.cls ≠ "java/lang/invoke/MethodHandle" ∧ mX0_invert.1.cls ≠ "java/lang/invoke/VarHandle") ∧ (parseMethodDescriptor mX0_invert.1.desc).map (fun d => d.parameters.length) = some 2 := by decide +kernel
theorem wPX0_invert : plainName mX0_invert.1.cls = true := by decide +kernel
abbrev mX0_holds : zz_M := (yX0_holds, cX0_holds, 4, (some .boolean), RX0, [])
theorem wYX0_holds : mX0_holds.2.2.2.2.2 = [] ∧ mX0_holds.2.2.1 ≤ 17 ∧ Cond.instanceMethod mX0_holds.1 ∈ zz_g ∧ Cond.selects mX0_holds.1.cls mX0_holds.1 mX0_holds.1 ∈ zz_g ∧ Cond.initialized mX0_holds.1.cls ∈ zz_g ∧ Cond.code mX0_holds.1 mX0_holds.2.1 mX0_holds.2.2.1 mX0_holds.2.2.2.1 ∈ zz_g := ⟨rfl, by decide, zw_i_X0_holds, zw_s_X0_holds, zw_n_X0, zw_c_X0_holds⟩
theorem wDX0_holds : (mX0_holds.1.cls ≠ "java/lang/invoke/MethodHandle" ∧ mX0_holds.1.cls ≠ "java/lang/invoke/VarHandle") ∧ (parseMethodDescriptor mX0_holds.1.desc).map (fun d => d.parameters.length) = some 1 := by decide +kernel
theorem wPX0_holds : plainName mX0_holds.1.cls = true := by decide +kernel
abbrev mX0_isEmpty : zz_M := (yX0_isEmpty, cX0_isEmpty, 1, (some .boolean), RX0, [])
theorem wYX0_isEmpty : mX0_isEmpty.2.2.2.2.2 = [] ∧ mX0_isEmpty.2.2.1 ≤ 17 ∧ Cond.instanceMethod mX0_isEmpty.1 ∈ zz_g ∧ Cond.selects mX0_isEmpty.1.cls mX0_isEmpty.1 mX0_isEmpty.1 ∈ zz_g ∧ Cond.initialized mX0_isEmpty.1.cls ∈ zz_g ∧ Cond.code mX0_isEmpty.1 mX0_isEmpty.2.1 mX0_isEmpty.2.2.1 mX0_isEmpty.2.2.2.1 ∈ zz_g := ⟨rfl, by decide, zw_i_X0_isEmpty, zw_s_X0_isEmpty, zw_n_X0, zw_c_X0_isEmpty⟩
theorem wDX0_isEmpty : (mX0_isEmpty.1.cls ≠ "java/lang/invoke/MethodHandle" ∧ mX0_isEmpty.1.cls ≠ "java/lang/invoke/VarHandle") ∧ (parseMethodDescriptor mX0_isEmpty.1.desc).map (fun d => d.parameters.length) = some 0 := by decide +kernel
theorem wPX0_isEmpty : plainName mX0_isEmpty.1.cls = true := by decide +kernel
abbrev mX0_meets : zz_M := (yX0_meets, cX0_meets, 2, (some .boolean), RX0, [])
theorem wYX0_meets : mX0_meets.2.2.2.2.2 = [] ∧ mX0_meets.2.2.1 ≤ 17 ∧ Cond.instanceMethod mX0_meets.1 ∈ zz_g ∧ Cond.selects mX0_meets.1.cls mX0_meets.1 mX0_meets.1 ∈ zz_g ∧ Cond.initialized mX0_meets.1.cls ∈ zz_g ∧ Cond.code mX0_meets.1 mX0_meets.2.1 mX0_meets.2.2.1 mX0_meets.2.2.2.1 ∈ zz_g := ⟨rfl, by decide, zw_i_X0_meets, zw_s_X0_meets, zw_n_X0, zw_c_X0_meets⟩
theorem wDX0_meets : (mX0_meets.1.cls ≠ "java/lang/invoke/MethodHandle" ∧ mX0_meets.1.cls ≠ "java/lang/invoke/VarHandle") ∧ (parseMethodDescriptor mX0_meets.1.desc).map (fun d => d.parameters.length) = some 1 := by decide +kernel
theorem wPX0_meets : plainName mX0_meets.1.cls = true := by decide +kernel
abbrev mX0_isLike : zz_M := (yX0_isLike, cX0_isLike, 2, (some .boolean), RX0, [])
theorem wYX0_isLike : mX0_isLike.2.2.2.2.2 = [] ∧ mX0_isLike.2.2.1 ≤ 17 ∧ Cond.instanceMethod mX0_isLike.1 ∈ zz_g ∧ Cond.selects mX0_isLike.1.cls mX0_isLike.1 mX0_isLike.1 ∈ zz_g ∧ Cond.initialized mX0_isLike.1.cls ∈ zz_g ∧ Cond.code mX0_isLike.1 mX0_isLike.2.1 mX0_isLike.2.2.1 mX0_isLike.2.2.2.1 ∈ zz_g := ⟨rfl, by decide, zw_i_X0_isLike, zw_s_X0_isLike, zw_n_X0, zw_c_X0_isLike⟩
theorem wDX0_isLike : (mX0_isLike.1.cls ≠ "java/lang/invoke/MethodHandle" ∧ mX0_isLike.1.cls ≠ "java/lang/invoke/VarHandle") ∧ (parseMethodDescriptor mX0_isLike.1.desc).map (fun d => d.parameters.length) = some 1 := by decide +kernel
theorem wPX0_isLike : plainName mX0_isLike.1.cls = true := by decide +kernel
abbrev mJ13_bitCount_95d88 : zz_M := (yJ13_bitCount_95d88, cJ13_bitCount_95d88, 2, (some .int), RJ13, [])
theorem wYJ13_bitCount_95d88 : mJ13_bitCount_95d88.2.2.2.2.2 = [] ∧ mJ13_bitCount_95d88.2.2.1 ≤ 17 ∧ Cond.static mJ13_bitCount_95d88.1 ∈ zz_g ∧ Cond.initialized mJ13_bitCount_95d88.1.cls ∈ zz_g ∧ Cond.code mJ13_bitCount_95d88.1 mJ13_bitCount_95d88.2.1 mJ13_bitCount_95d88.2.2.1 mJ13_bitCount_95d88.2.2.2.1 ∈ zz_g := ⟨rfl, by decide, zw_t_J13_bitCount_95d88, zw_n_J13, zw_c_J13_bitCount_95d88⟩
theorem wDJ13_bitCount_95d88 : (mJ13_bitCount_95d88.1.cls ≠ "java/lang/invoke/MethodHandle" ∧ mJ13_bitCount_95d88.1.cls ≠ "java/lang/invoke/VarHandle") ∧ (parseMethodDescriptor mJ13_bitCount_95d88.1.desc).map (fun d => d.parameters.length) = some 1 := by decide +kernel
theorem wPJ13_bitCount_95d88 : plainName mJ13_bitCount_95d88.1.cls = true := by decide +kernel
abbrev mX0_size : zz_M := (yX0_size, cX0_size, 1, (some .int), RX0, [])
theorem wYX0_size : mX0_size.2.2.2.2.2 = [] ∧ mX0_size.2.2.1 ≤ 17 ∧ Cond.instanceMethod mX0_size.1 ∈ zz_g ∧ Cond.selects mX0_size.1.cls mX0_size.1 mX0_size.1 ∈ zz_g ∧ Cond.initialized mX0_size.1.cls ∈ zz_g ∧ Cond.code mX0_size.1 mX0_size.2.1 mX0_size.2.2.1 mX0_size.2.2.2.1 ∈ zz_g := ⟨rfl, by decide, zw_i_X0_size, zw_s_X0_size, zw_n_X0, zw_c_X0_size⟩
theorem wDX0_size : (mX0_size.1.cls ≠ "java/lang/invoke/MethodHandle" ∧ mX0_size.1.cls ≠ "java/lang/invoke/VarHandle") ∧ (parseMethodDescriptor mX0_size.1.desc).map (fun d => d.parameters.length) = some 0 := by decide +kernel
theorem wPX0_size : plainName mX0_size.1.cls = true := by decide +kernel
abbrev mX0_leastFrom : zz_M := (yX0_leastFrom, cX0_leastFrom, 7, (some .int), RX0, [])
theorem wYX0_leastFrom : mX0_leastFrom.2.2.2.2.2 = [] ∧ mX0_leastFrom.2.2.1 ≤ 17 ∧ Cond.instanceMethod mX0_leastFrom.1 ∈ zz_g ∧ Cond.selects mX0_leastFrom.1.cls mX0_leastFrom.1 mX0_leastFrom.1 ∈ zz_g ∧ Cond.initialized mX0_leastFrom.1.cls ∈ zz_g ∧ Cond.code mX0_leastFrom.1 mX0_leastFrom.2.1 mX0_leastFrom.2.2.1 mX0_leastFrom.2.2.2.1 ∈ zz_g := ⟨rfl, by decide, zw_i_X0_leastFrom, zw_s_X0_leastFrom, zw_n_X0, zw_c_X0_leastFrom⟩
theorem wDX0_leastFrom : (mX0_leastFrom.1.cls ≠ "java/lang/invoke/MethodHandle" ∧ mX0_leastFrom.1.cls ≠ "java/lang/invoke/VarHandle") ∧ (parseMethodDescriptor mX0_leastFrom.1.desc).map (fun d => d.parameters.length) = some 1 := by decide +kernel
theorem wPX0_leastFrom : plainName mX0_leastFrom.1.cls = true := by decide +kernel
abbrev mX0_greatestTo : zz_M := (yX0_greatestTo, cX0_greatestTo, 3, (some .int), RX0, [])
theorem wYX0_greatestTo : mX0_greatestTo.2.2.2.2.2 = [] ∧ mX0_greatestTo.2.2.1 ≤ 17 ∧ Cond.instanceMethod mX0_greatestTo.1 ∈ zz_g ∧ Cond.selects mX0_greatestTo.1.cls mX0_greatestTo.1 mX0_greatestTo.1 ∈ zz_g ∧ Cond.initialized mX0_greatestTo.1.cls ∈ zz_g ∧ Cond.code mX0_greatestTo.1 mX0_greatestTo.2.1 mX0_greatestTo.2.2.1 mX0_greatestTo.2.2.2.1 ∈ zz_g := ⟨rfl, by decide, zw_i_X0_greatestTo, zw_s_X0_greatestTo, zw_n_X0, zw_c_X0_greatestTo⟩
theorem wDX0_greatestTo : (mX0_greatestTo.1.cls ≠ "java/lang/invoke/MethodHandle" ∧ mX0_greatestTo.1.cls ≠ "java/lang/invoke/VarHandle") ∧ (parseMethodDescriptor mX0_greatestTo.1.desc).map (fun d => d.parameters.length) = some 1 := by decide +kernel
theorem wPX0_greatestTo : plainName mX0_greatestTo.1.cls = true := by decide +kernel
abbrev mX1_init : zz_M := (yX1_init, cX1_init, 1, none, RX1, [])
abbrev mX1_putWords : zz_M := (yX1_putWords, cX1_putWords, 6, none, RX1, [])
theorem wYX1_putWords : mX1_putWords.2.2.2.2.2 = [] ∧ mX1_putWords.2.2.1 ≤ 17 ∧ Cond.instanceMethod mX1_putWords.1 ∈ zz_g ∧ Cond.selects mX1_putWords.1.cls mX1_putWords.1 mX1_putWords.1 ∈ zz_g ∧ Cond.initialized mX1_putWords.1.cls ∈ zz_g ∧ Cond.code mX1_putWords.1 mX1_putWords.2.1 mX1_putWords.2.2.1 mX1_putWords.2.2.2.1 ∈ zz_g := ⟨rfl, by decide, zw_i_X1_putWords, zw_s_X1_putWords, zw_n_X1, zw_c_X1_putWords⟩
theorem wDX1_putWords : (mX1_putWords.1.cls ≠ "java/lang/invoke/MethodHandle" ∧ mX1_putWords.1.cls ≠ "java/lang/invoke/VarHandle") ∧ (parseMethodDescriptor mX1_putWords.1.desc).map (fun d => d.parameters.length) = some 3 := by decide +kernel
theorem wPX1_putWords : plainName mX1_putWords.1.cls = true := by decide +kernel
abbrev mX1_putRow : zz_M := (yX1_putRow, cX1_putRow, 3, none, RX1, [])
theorem wYX1_putRow : mX1_putRow.2.2.2.2.2 = [] ∧ mX1_putRow.2.2.1 ≤ 17 ∧ Cond.instanceMethod mX1_putRow.1 ∈ zz_g ∧ Cond.selects mX1_putRow.1.cls mX1_putRow.1 mX1_putRow.1 ∈ zz_g ∧ Cond.initialized mX1_putRow.1.cls ∈ zz_g ∧ Cond.code mX1_putRow.1 mX1_putRow.2.1 mX1_putRow.2.2.1 mX1_putRow.2.2.2.1 ∈ zz_g := ⟨rfl, by decide, zw_i_X1_putRow, zw_s_X1_putRow, zw_n_X1, zw_c_X1_putRow⟩
theorem wDX1_putRow : (mX1_putRow.1.cls ≠ "java/lang/invoke/MethodHandle" ∧ mX1_putRow.1.cls ≠ "java/lang/invoke/VarHandle") ∧ (parseMethodDescriptor mX1_putRow.1.desc).map (fun d => d.parameters.length) = some 2 := by decide +kernel
theorem wPX1_putRow : plainName mX1_putRow.1.cls = true := by decide +kernel
abbrev mX1_restart : zz_M := (yX1_restart, cX1_restart, 3, none, RX1, [])
theorem wYX1_restart : mX1_restart.2.2.2.2.2 = [] ∧ mX1_restart.2.2.1 ≤ 17 ∧ Cond.instanceMethod mX1_restart.1 ∈ zz_g ∧ Cond.selects mX1_restart.1.cls mX1_restart.1 mX1_restart.1 ∈ zz_g ∧ Cond.initialized mX1_restart.1.cls ∈ zz_g ∧ Cond.code mX1_restart.1 mX1_restart.2.1 mX1_restart.2.2.1 mX1_restart.2.2.2.1 ∈ zz_g := ⟨rfl, by decide, zw_i_X1_restart, zw_s_X1_restart, zw_n_X1, zw_c_X1_restart⟩
theorem wDX1_restart : (mX1_restart.1.cls ≠ "java/lang/invoke/MethodHandle" ∧ mX1_restart.1.cls ≠ "java/lang/invoke/VarHandle") ∧ (parseMethodDescriptor mX1_restart.1.desc).map (fun d => d.parameters.length) = some 1 := by decide +kernel
theorem wPX1_restart : plainName mX1_restart.1.cls = true := by decide +kernel
abbrev mX1_elementsInside : zz_M := (yX1_elementsInside, cX1_elementsInside, 1, (some .int), RX1, [])
theorem wYX1_elementsInside : mX1_elementsInside.2.2.2.2.2 = [] ∧ mX1_elementsInside.2.2.1 ≤ 17 ∧ Cond.instanceMethod mX1_elementsInside.1 ∈ zz_g ∧ Cond.selects mX1_elementsInside.1.cls mX1_elementsInside.1 mX1_elementsInside.1 ∈ zz_g ∧ Cond.initialized mX1_elementsInside.1.cls ∈ zz_g ∧ Cond.code mX1_elementsInside.1 mX1_elementsInside.2.1 mX1_elementsInside.2.2.1 mX1_elementsInside.2.2.2.1 ∈ zz_g := ⟨rfl, by decide, zw_i_X1_elementsInside, zw_s_X1_elementsInside, zw_n_X1, zw_c_X1_elementsInside⟩
theorem wDX1_elementsInside : (mX1_elementsInside.1.cls ≠ "java/lang/invoke/MethodHandle" ∧ mX1_elementsInside.1.cls ≠ "java/lang/invoke/VarHandle") ∧ (parseMethodDescriptor mX1_elementsInside.1.desc).map (fun d => d.parameters.length) = some 0 := by decide +kernel
theorem wPX1_elementsInside : plainName mX1_elementsInside.1.cls = true := by decide +kernel
abbrev mX1_lowAt : zz_M := (yX1_lowAt, cX1_lowAt, 2, (some .long), RX1, [])
theorem wYX1_lowAt : mX1_lowAt.2.2.2.2.2 = [] ∧ mX1_lowAt.2.2.1 ≤ 17 ∧ Cond.instanceMethod mX1_lowAt.1 ∈ zz_g ∧ Cond.selects mX1_lowAt.1.cls mX1_lowAt.1 mX1_lowAt.1 ∈ zz_g ∧ Cond.initialized mX1_lowAt.1.cls ∈ zz_g ∧ Cond.code mX1_lowAt.1 mX1_lowAt.2.1 mX1_lowAt.2.2.1 mX1_lowAt.2.2.2.1 ∈ zz_g := ⟨rfl, by decide, zw_i_X1_lowAt, zw_s_X1_lowAt, zw_n_X1, zw_c_X1_lowAt⟩
theorem wDX1_lowAt : (mX1_lowAt.1.cls ≠ "java/lang/invoke/MethodHandle" ∧ mX1_lowAt.1.cls ≠ "java/lang/invoke/VarHandle") ∧ (parseMethodDescriptor mX1_lowAt.1.desc).map (fun d => d.parameters.length) = some 1 := by decide +kernel
theorem wPX1_lowAt : plainName mX1_lowAt.1.cls = true := by decide +kernel
abbrev mX1_highAt : zz_M := (yX1_highAt, cX1_highAt, 2, (some .long), RX1, [])
theorem wYX1_highAt : mX1_highAt.2.2.2.2.2 = [] ∧ mX1_highAt.2.2.1 ≤ 17 ∧ Cond.instanceMethod mX1_highAt.1 ∈ zz_g ∧ Cond.selects mX1_highAt.1.cls mX1_highAt.1 mX1_highAt.1 ∈ zz_g ∧ Cond.initialized mX1_highAt.1.cls ∈ zz_g ∧ Cond.code mX1_highAt.1 mX1_highAt.2.1 mX1_highAt.2.2.1 mX1_highAt.2.2.2.1 ∈ zz_g := ⟨rfl, by decide, zw_i_X1_highAt, zw_s_X1_highAt, zw_n_X1, zw_c_X1_highAt⟩
theorem wDX1_highAt : (mX1_highAt.1.cls ≠ "java/lang/invoke/MethodHandle" ∧ mX1_highAt.1.cls ≠ "java/lang/invoke/VarHandle") ∧ (parseMethodDescriptor mX1_highAt.1.desc).map (fun d => d.parameters.length) = some 1 := by decide +kernel
theorem wPX1_highAt : plainName mX1_highAt.1.cls = true := by decide +kernel
abbrev mX1_rowInto : zz_M := (yX1_rowInto, cX1_rowInto, 3, none, RX1, [])
theorem wYX1_rowInto : mX1_rowInto.2.2.2.2.2 = [] ∧ mX1_rowInto.2.2.1 ≤ 17 ∧ Cond.instanceMethod mX1_rowInto.1 ∈ zz_g ∧ Cond.selects mX1_rowInto.1.cls mX1_rowInto.1 mX1_rowInto.1 ∈ zz_g ∧ Cond.initialized mX1_rowInto.1.cls ∈ zz_g ∧ Cond.code mX1_rowInto.1 mX1_rowInto.2.1 mX1_rowInto.2.2.1 mX1_rowInto.2.2.2.1 ∈ zz_g := ⟨rfl, by decide, zw_i_X1_rowInto, zw_s_X1_rowInto, zw_n_X1, zw_c_X1_rowInto⟩
theorem wDX1_rowInto : (mX1_rowInto.1.cls ≠ "java/lang/invoke/MethodHandle" ∧ mX1_rowInto.1.cls ≠ "java/lang/invoke/VarHandle") ∧ (parseMethodDescriptor mX1_rowInto.1.desc).map (fun d => d.parameters.length) = some 2 := by decide +kernel
theorem wPX1_rowInto : plainName mX1_rowInto.1.cls = true := by decide +kernel
abbrev mX1_holds : zz_M := (yX1_holds, cX1_holds, 5, (some .boolean), RX1, [])
theorem wYX1_holds : mX1_holds.2.2.2.2.2 = [] ∧ mX1_holds.2.2.1 ≤ 17 ∧ Cond.instanceMethod mX1_holds.1 ∈ zz_g ∧ Cond.selects mX1_holds.1.cls mX1_holds.1 mX1_holds.1 ∈ zz_g ∧ Cond.initialized mX1_holds.1.cls ∈ zz_g ∧ Cond.code mX1_holds.1 mX1_holds.2.1 mX1_holds.2.2.1 mX1_holds.2.2.2.1 ∈ zz_g := ⟨rfl, by decide, zw_i_X1_holds, zw_s_X1_holds, zw_n_X1, zw_c_X1_holds⟩
theorem wDX1_holds : (mX1_holds.1.cls ≠ "java/lang/invoke/MethodHandle" ∧ mX1_holds.1.cls ≠ "java/lang/invoke/VarHandle") ∧ (parseMethodDescriptor mX1_holds.1.desc).map (fun d => d.parameters.length) = some 2 := by decide +kernel
theorem wPX1_holds : plainName mX1_holds.1.cls = true := by decide +kernel
abbrev mX1_join : zz_M := (yX1_join, cX1_join, 3, none, RX1, [])
theorem wYX1_join : mX1_join.2.2.2.2.2 = [] ∧ mX1_join.2.2.1 ≤ 17 ∧ Cond.instanceMethod mX1_join.1 ∈ zz_g ∧ Cond.selects mX1_join.1.cls mX1_join.1 mX1_join.1 ∈ zz_g ∧ Cond.initialized mX1_join.1.cls ∈ zz_g ∧ Cond.code mX1_join.1 mX1_join.2.1 mX1_join.2.2.1 mX1_join.2.2.2.1 ∈ zz_g := ⟨rfl, by decide, zw_i_X1_join, zw_s_X1_join, zw_n_X1, zw_c_X1_join⟩
theorem wDX1_join : (mX1_join.1.cls ≠ "java/lang/invoke/MethodHandle" ∧ mX1_join.1.cls ≠ "java/lang/invoke/VarHandle") ∧ (parseMethodDescriptor mX1_join.1.desc).map (fun d => d.parameters.length) = some 2 := by decide +kernel
theorem wPX1_join : plainName mX1_join.1.cls = true := by decide +kernel
abbrev mX1_joinOwn : zz_M := (yX1_joinOwn, cX1_joinOwn, 2, none, RX1, [])
theorem wYX1_joinOwn : mX1_joinOwn.2.2.2.2.2 = [] ∧ mX1_joinOwn.2.2.1 ≤ 17 ∧ Cond.instanceMethod mX1_joinOwn.1 ∈ zz_g ∧ Cond.selects mX1_joinOwn.1.cls mX1_joinOwn.1 mX1_joinOwn.1 ∈ zz_g ∧ Cond.initialized mX1_joinOwn.1.cls ∈ zz_g ∧ Cond.code mX1_joinOwn.1 mX1_joinOwn.2.1 mX1_joinOwn.2.2.1 mX1_joinOwn.2.2.2.1 ∈ zz_g := ⟨rfl, by decide, zw_i_X1_joinOwn, zw_s_X1_joinOwn, zw_n_X1, zw_c_X1_joinOwn⟩
theorem wDX1_joinOwn : (mX1_joinOwn.1.cls ≠ "java/lang/invoke/MethodHandle" ∧ mX1_joinOwn.1.cls ≠ "java/lang/invoke/VarHandle") ∧ (parseMethodDescriptor mX1_joinOwn.1.desc).map (fun d => d.parameters.length) = some 0 := by decide +kernel
theorem wPX1_joinOwn : plainName mX1_joinOwn.1.cls = true := by decide +kernel
abbrev mX1_sizeOf : zz_M := (yX1_sizeOf, cX1_sizeOf, 2, (some .int), RX1, [])
theorem wYX1_sizeOf : mX1_sizeOf.2.2.2.2.2 = [] ∧ mX1_sizeOf.2.2.1 ≤ 17 ∧ Cond.instanceMethod mX1_sizeOf.1 ∈ zz_g ∧ Cond.selects mX1_sizeOf.1.cls mX1_sizeOf.1 mX1_sizeOf.1 ∈ zz_g ∧ Cond.initialized mX1_sizeOf.1.cls ∈ zz_g ∧ Cond.code mX1_sizeOf.1 mX1_sizeOf.2.1 mX1_sizeOf.2.2.1 mX1_sizeOf.2.2.2.1 ∈ zz_g := ⟨rfl, by decide, zw_i_X1_sizeOf, zw_s_X1_sizeOf, zw_n_X1, zw_c_X1_sizeOf⟩
theorem wDX1_sizeOf : (mX1_sizeOf.1.cls ≠ "java/lang/invoke/MethodHandle" ∧ mX1_sizeOf.1.cls ≠ "java/lang/invoke/VarHandle") ∧ (parseMethodDescriptor mX1_sizeOf.1.desc).map (fun d => d.parameters.length) = some 1 := by decide +kernel
theorem wPX1_sizeOf : plainName mX1_sizeOf.1.cls = true := by decide +kernel
abbrev mX1_pairs : zz_M := (yX1_pairs, cX1_pairs, 3, (some .int), RX1, [])
theorem wYX1_pairs : mX1_pairs.2.2.2.2.2 = [] ∧ mX1_pairs.2.2.1 ≤ 17 ∧ Cond.instanceMethod mX1_pairs.1 ∈ zz_g ∧ Cond.selects mX1_pairs.1.cls mX1_pairs.1 mX1_pairs.1 ∈ zz_g ∧ Cond.initialized mX1_pairs.1.cls ∈ zz_g ∧ Cond.code mX1_pairs.1 mX1_pairs.2.1 mX1_pairs.2.2.1 mX1_pairs.2.2.2.1 ∈ zz_g := ⟨rfl, by decide, zw_i_X1_pairs, zw_s_X1_pairs, zw_n_X1, zw_c_X1_pairs⟩
theorem wDX1_pairs : (mX1_pairs.1.cls ≠ "java/lang/invoke/MethodHandle" ∧ mX1_pairs.1.cls ≠ "java/lang/invoke/VarHandle") ∧ (parseMethodDescriptor mX1_pairs.1.desc).map (fun d => d.parameters.length) = some 0 := by decide +kernel
theorem wPX1_pairs : plainName mX1_pairs.1.cls = true := by decide +kernel
abbrev mX1_ownPairs : zz_M := (yX1_ownPairs, cX1_ownPairs, 3, (some .int), RX1, [])
theorem wYX1_ownPairs : mX1_ownPairs.2.2.2.2.2 = [] ∧ mX1_ownPairs.2.2.1 ≤ 17 ∧ Cond.instanceMethod mX1_ownPairs.1 ∈ zz_g ∧ Cond.selects mX1_ownPairs.1.cls mX1_ownPairs.1 mX1_ownPairs.1 ∈ zz_g ∧ Cond.initialized mX1_ownPairs.1.cls ∈ zz_g ∧ Cond.code mX1_ownPairs.1 mX1_ownPairs.2.1 mX1_ownPairs.2.2.1 mX1_ownPairs.2.2.2.1 ∈ zz_g := ⟨rfl, by decide, zw_i_X1_ownPairs, zw_s_X1_ownPairs, zw_n_X1, zw_c_X1_ownPairs⟩
theorem wDX1_ownPairs : (mX1_ownPairs.1.cls ≠ "java/lang/invoke/MethodHandle" ∧ mX1_ownPairs.1.cls ≠ "java/lang/invoke/VarHandle") ∧ (parseMethodDescriptor mX1_ownPairs.1.desc).map (fun d => d.parameters.length) = some 0 := by decide +kernel
theorem wPX1_ownPairs : plainName mX1_ownPairs.1.cls = true := by decide +kernel
abbrev mX1_take : zz_M := (yX1_take, cX1_take, 3, none, RX1, [])
theorem wYX1_take : mX1_take.2.2.2.2.2 = [] ∧ mX1_take.2.2.1 ≤ 17 ∧ Cond.instanceMethod mX1_take.1 ∈ zz_g ∧ Cond.selects mX1_take.1.cls mX1_take.1 mX1_take.1 ∈ zz_g ∧ Cond.initialized mX1_take.1.cls ∈ zz_g ∧ Cond.code mX1_take.1 mX1_take.2.1 mX1_take.2.2.1 mX1_take.2.2.2.1 ∈ zz_g := ⟨rfl, by decide, zw_i_X1_take, zw_s_X1_take, zw_n_X1, zw_c_X1_take⟩
theorem wDX1_take : (mX1_take.1.cls ≠ "java/lang/invoke/MethodHandle" ∧ mX1_take.1.cls ≠ "java/lang/invoke/VarHandle") ∧ (parseMethodDescriptor mX1_take.1.desc).map (fun d => d.parameters.length) = some 1 := by decide +kernel
theorem wPX1_take : plainName mX1_take.1.cls = true := by decide +kernel
abbrev mX1_mixed : zz_M := (yX1_mixed, cX1_mixed, 5, (some .long), RX1, [])
theorem wYX1_mixed : mX1_mixed.2.2.2.2.2 = [] ∧ mX1_mixed.2.2.1 ≤ 17 ∧ Cond.static mX1_mixed.1 ∈ zz_g ∧ Cond.initialized mX1_mixed.1.cls ∈ zz_g ∧ Cond.code mX1_mixed.1 mX1_mixed.2.1 mX1_mixed.2.2.1 mX1_mixed.2.2.2.1 ∈ zz_g := ⟨rfl, by decide, zw_t_X1_mixed, zw_n_X1, zw_c_X1_mixed⟩
theorem wDX1_mixed : (mX1_mixed.1.cls ≠ "java/lang/invoke/MethodHandle" ∧ mX1_mixed.1.cls ≠ "java/lang/invoke/VarHandle") ∧ (parseMethodDescriptor mX1_mixed.1.desc).map (fun d => d.parameters.length) = some 3 := by decide +kernel
theorem wPX1_mixed : plainName mX1_mixed.1.cls = true := by decide +kernel
abbrev mX1_mix : zz_M := (yX1_mix, cX1_mix, 4, none, RX1, [])
theorem wYX1_mix : mX1_mix.2.2.2.2.2 = [] ∧ mX1_mix.2.2.1 ≤ 17 ∧ Cond.instanceMethod mX1_mix.1 ∈ zz_g ∧ Cond.selects mX1_mix.1.cls mX1_mix.1 mX1_mix.1 ∈ zz_g ∧ Cond.initialized mX1_mix.1.cls ∈ zz_g ∧ Cond.code mX1_mix.1 mX1_mix.2.1 mX1_mix.2.2.1 mX1_mix.2.2.2.1 ∈ zz_g := ⟨rfl, by decide, zw_i_X1_mix, zw_s_X1_mix, zw_n_X1, zw_c_X1_mix⟩
theorem wDX1_mix : (mX1_mix.1.cls ≠ "java/lang/invoke/MethodHandle" ∧ mX1_mix.1.cls ≠ "java/lang/invoke/VarHandle") ∧ (parseMethodDescriptor mX1_mix.1.desc).map (fun d => d.parameters.length) = some 2 := by decide +kernel
theorem wPX1_mix : plainName mX1_mix.1.cls = true := by decide +kernel
abbrev mX1_imageOf : zz_M := (yX1_imageOf, cX1_imageOf, 9, none, RX1, [])
theorem wYX1_imageOf : mX1_imageOf.2.2.2.2.2 = [] ∧ mX1_imageOf.2.2.1 ≤ 17 ∧ Cond.instanceMethod mX1_imageOf.1 ∈ zz_g ∧ Cond.selects mX1_imageOf.1.cls mX1_imageOf.1 mX1_imageOf.1 ∈ zz_g ∧ Cond.initialized mX1_imageOf.1.cls ∈ zz_g ∧ Cond.code mX1_imageOf.1 mX1_imageOf.2.1 mX1_imageOf.2.2.1 mX1_imageOf.2.2.2.1 ∈ zz_g := ⟨rfl, by decide, zw_i_X1_imageOf, zw_s_X1_imageOf, zw_n_X1, zw_c_X1_imageOf⟩
theorem wDX1_imageOf : (mX1_imageOf.1.cls ≠ "java/lang/invoke/MethodHandle" ∧ mX1_imageOf.1.cls ≠ "java/lang/invoke/VarHandle") ∧ (parseMethodDescriptor mX1_imageOf.1.desc).map (fun d => d.parameters.length) = some 2 := by decide +kernel
theorem wPX1_imageOf : plainName mX1_imageOf.1.cls = true := by decide +kernel
abbrev mX1_product : zz_M := (yX1_product, cX1_product, 4, none, RX1, [])
theorem wYX1_product : mX1_product.2.2.2.2.2 = [] ∧ mX1_product.2.2.1 ≤ 17 ∧ Cond.instanceMethod mX1_product.1 ∈ zz_g ∧ Cond.selects mX1_product.1.cls mX1_product.1 mX1_product.1 ∈ zz_g ∧ Cond.initialized mX1_product.1.cls ∈ zz_g ∧ Cond.code mX1_product.1 mX1_product.2.1 mX1_product.2.2.1 mX1_product.2.2.2.1 ∈ zz_g := ⟨rfl, by decide, zw_i_X1_product, zw_s_X1_product, zw_n_X1, zw_c_X1_product⟩
theorem wDX1_product : (mX1_product.1.cls ≠ "java/lang/invoke/MethodHandle" ∧ mX1_product.1.cls ≠ "java/lang/invoke/VarHandle") ∧ (parseMethodDescriptor mX1_product.1.desc).map (fun d => d.parameters.length) = some 2 := by decide +kernel
theorem wPX1_product : plainName mX1_product.1.cls = true := by decide +kernel
abbrev mX1_takeCovers : zz_M := (yX1_takeCovers, cX1_takeCovers, 3, none, RX1, [])
theorem wYX1_takeCovers : mX1_takeCovers.2.2.2.2.2 = [] ∧ mX1_takeCovers.2.2.1 ≤ 17 ∧ Cond.instanceMethod mX1_takeCovers.1 ∈ zz_g ∧ Cond.selects mX1_takeCovers.1.cls mX1_takeCovers.1 mX1_takeCovers.1 ∈ zz_g ∧ Cond.initialized mX1_takeCovers.1.cls ∈ zz_g ∧ Cond.code mX1_takeCovers.1 mX1_takeCovers.2.1 mX1_takeCovers.2.2.1 mX1_takeCovers.2.2.2.1 ∈ zz_g := ⟨rfl, by decide, zw_i_X1_takeCovers, zw_s_X1_takeCovers, zw_n_X1, zw_c_X1_takeCovers⟩
theorem wDX1_takeCovers : (mX1_takeCovers.1.cls ≠ "java/lang/invoke/MethodHandle" ∧ mX1_takeCovers.1.cls ≠ "java/lang/invoke/VarHandle") ∧ (parseMethodDescriptor mX1_takeCovers.1.desc).map (fun d => d.parameters.length) = some 1 := by decide +kernel
theorem wPX1_takeCovers : plainName mX1_takeCovers.1.cls = true := by decide +kernel
abbrev mX1_swapPair : zz_M := (yX1_swapPair, cX1_swapPair, 3, none, RX1, [])
theorem wYX1_swapPair : mX1_swapPair.2.2.2.2.2 = [] ∧ mX1_swapPair.2.2.1 ≤ 17 ∧ Cond.instanceMethod mX1_swapPair.1 ∈ zz_g ∧ Cond.selects mX1_swapPair.1.cls mX1_swapPair.1 mX1_swapPair.1 ∈ zz_g ∧ Cond.initialized mX1_swapPair.1.cls ∈ zz_g ∧ Cond.code mX1_swapPair.1 mX1_swapPair.2.1 mX1_swapPair.2.2.1 mX1_swapPair.2.2.2.1 ∈ zz_g := ⟨rfl, by decide, zw_i_X1_swapPair, zw_s_X1_swapPair, zw_n_X1, zw_c_X1_swapPair⟩
theorem wDX1_swapPair : (mX1_swapPair.1.cls ≠ "java/lang/invoke/MethodHandle" ∧ mX1_swapPair.1.cls ≠ "java/lang/invoke/VarHandle") ∧ (parseMethodDescriptor mX1_swapPair.1.desc).map (fun d => d.parameters.length) = some 2 := by decide +kernel
theorem wPX1_swapPair : plainName mX1_swapPair.1.cls = true := by decide +kernel
abbrev mX1_reverse : zz_M := (yX1_reverse, cX1_reverse, 3, none, RX1, [])
theorem wYX1_reverse : mX1_reverse.2.2.2.2.2 = [] ∧ mX1_reverse.2.2.1 ≤ 17 ∧ Cond.instanceMethod mX1_reverse.1 ∈ zz_g ∧ Cond.selects mX1_reverse.1.cls mX1_reverse.1 mX1_reverse.1 ∈ zz_g ∧ Cond.initialized mX1_reverse.1.cls ∈ zz_g ∧ Cond.code mX1_reverse.1 mX1_reverse.2.1 mX1_reverse.2.2.1 mX1_reverse.2.2.2.1 ∈ zz_g := ⟨rfl, by decide, zw_i_X1_reverse, zw_s_X1_reverse, zw_n_X1, zw_c_X1_reverse⟩
theorem wDX1_reverse : (mX1_reverse.1.cls ≠ "java/lang/invoke/MethodHandle" ∧ mX1_reverse.1.cls ≠ "java/lang/invoke/VarHandle") ∧ (parseMethodDescriptor mX1_reverse.1.desc).map (fun d => d.parameters.length) = some 0 := by decide +kernel
theorem wPX1_reverse : plainName mX1_reverse.1.cls = true := by decide +kernel
abbrev mX1_invert : zz_M := (yX1_invert, cX1_invert, 2, none, RX1, [])
theorem wYX1_invert : mX1_invert.2.2.2.2.2 = [] ∧ mX1_invert.2.2.1 ≤ 17 ∧ Cond.instanceMethod mX1_invert.1 ∈ zz_g ∧ Cond.selects mX1_invert.1.cls mX1_invert.1 mX1_invert.1 ∈ zz_g ∧ Cond.initialized mX1_invert.1.cls ∈ zz_g ∧ Cond.code mX1_invert.1 mX1_invert.2.1 mX1_invert.2.2.1 mX1_invert.2.2.2.1 ∈ zz_g := ⟨rfl, by decide, zw_i_X1_invert, zw_s_X1_invert, zw_n_X1, zw_c_X1_invert⟩
theorem wDX1_invert : (mX1_invert.1.cls ≠ "java/lang/invoke/MethodHandle" ∧ mX1_invert.1.cls ≠ "java/lang/invoke/VarHandle") ∧ (parseMethodDescriptor mX1_invert.1.desc).map (fun d => d.parameters.length) = some 0 := by decide +kernel
theorem wPX1_invert : plainName mX1_invert.1.cls = true := by decide +kernel
abbrev mX1_closeUp : zz_M := (yX1_closeUp, cX1_closeUp, 7, none, RX1, [])
theorem wYX1_closeUp : mX1_closeUp.2.2.2.2.2 = [] ∧ mX1_closeUp.2.2.1 ≤ 17 ∧ Cond.instanceMethod mX1_closeUp.1 ∈ zz_g ∧ Cond.selects mX1_closeUp.1.cls mX1_closeUp.1 mX1_closeUp.1 ∈ zz_g ∧ Cond.initialized mX1_closeUp.1.cls ∈ zz_g ∧ Cond.code mX1_closeUp.1 mX1_closeUp.2.1 mX1_closeUp.2.2.1 mX1_closeUp.2.2.2.1 ∈ zz_g := ⟨rfl, by decide, zw_i_X1_closeUp, zw_s_X1_closeUp, zw_n_X1, zw_c_X1_closeUp⟩
theorem wDX1_closeUp : (mX1_closeUp.1.cls ≠ "java/lang/invoke/MethodHandle" ∧ mX1_closeUp.1.cls ≠ "java/lang/invoke/VarHandle") ∧ (parseMethodDescriptor mX1_closeUp.1.desc).map (fun d => d.parameters.length) = some 0 := by decide +kernel
theorem wPX1_closeUp : plainName mX1_closeUp.1.cls = true := by decide +kernel
abbrev mX1_hasAllOf : zz_M := (yX1_hasAllOf, cX1_hasAllOf, 3, (some .boolean), RX1, [])
theorem wYX1_hasAllOf : mX1_hasAllOf.2.2.2.2.2 = [] ∧ mX1_hasAllOf.2.2.1 ≤ 17 ∧ Cond.instanceMethod mX1_hasAllOf.1 ∈ zz_g ∧ Cond.selects mX1_hasAllOf.1.cls mX1_hasAllOf.1 mX1_hasAllOf.1 ∈ zz_g ∧ Cond.initialized mX1_hasAllOf.1.cls ∈ zz_g ∧ Cond.code mX1_hasAllOf.1 mX1_hasAllOf.2.1 mX1_hasAllOf.2.2.1 mX1_hasAllOf.2.2.2.1 ∈ zz_g := ⟨rfl, by decide, zw_i_X1_hasAllOf, zw_s_X1_hasAllOf, zw_n_X1, zw_c_X1_hasAllOf⟩
theorem wDX1_hasAllOf : (mX1_hasAllOf.1.cls ≠ "java/lang/invoke/MethodHandle" ∧ mX1_hasAllOf.1.cls ≠ "java/lang/invoke/VarHandle") ∧ (parseMethodDescriptor mX1_hasAllOf.1.desc).map (fun d => d.parameters.length) = some 1 := by decide +kernel
theorem wPX1_hasAllOf : plainName mX1_hasAllOf.1.cls = true := by decide +kernel
abbrev mX1_isLike : zz_M := (yX1_isLike, cX1_isLike, 2, (some .boolean), RX1, [])
theorem wYX1_isLike : mX1_isLike.2.2.2.2.2 = [] ∧ mX1_isLike.2.2.1 ≤ 17 ∧ Cond.instanceMethod mX1_isLike.1 ∈ zz_g ∧ Cond.selects mX1_isLike.1.cls mX1_isLike.1 mX1_isLike.1 ∈ zz_g ∧ Cond.initialized mX1_isLike.1.cls ∈ zz_g ∧ Cond.code mX1_isLike.1 mX1_isLike.2.1 mX1_isLike.2.2.1 mX1_isLike.2.2.2.1 ∈ zz_g := ⟨rfl, by decide, zw_i_X1_isLike, zw_s_X1_isLike, zw_n_X1, zw_c_X1_isLike⟩
theorem wDX1_isLike : (mX1_isLike.1.cls ≠ "java/lang/invoke/MethodHandle" ∧ mX1_isLike.1.cls ≠ "java/lang/invoke/VarHandle") ∧ (parseMethodDescriptor mX1_isLike.1.desc).map (fun d => d.parameters.length) = some 1 := by decide +kernel
theorem wPX1_isLike : plainName mX1_isLike.1.cls = true := by decide +kernel
abbrev mX1_isTransitive : zz_M := (yX1_isTransitive, cX1_isTransitive, 2, (some .boolean), RX1, [])
theorem wYX1_isTransitive : mX1_isTransitive.2.2.2.2.2 = [] ∧ mX1_isTransitive.2.2.1 ≤ 17 ∧ Cond.instanceMethod mX1_isTransitive.1 ∈ zz_g ∧ Cond.selects mX1_isTransitive.1.cls mX1_isTransitive.1 mX1_isTransitive.1 ∈ zz_g ∧ Cond.initialized mX1_isTransitive.1.cls ∈ zz_g ∧ Cond.code mX1_isTransitive.1 mX1_isTransitive.2.1 mX1_isTransitive.2.2.1 mX1_isTransitive.2.2.2.1 ∈ zz_g := ⟨rfl, by decide, zw_i_X1_isTransitive, zw_s_X1_isTransitive, zw_n_X1, zw_c_X1_isTransitive⟩
theorem wDX1_isTransitive : (mX1_isTransitive.1.cls ≠ "java/lang/invoke/MethodHandle" ∧ mX1_isTransitive.1.cls ≠ "java/lang/invoke/VarHandle") ∧ (parseMethodDescriptor mX1_isTransitive.1.desc).map (fun d => d.parameters.length) = some 0 := by decide +kernel
theorem wPX1_isTransitive : plainName mX1_isTransitive.1.cls = true := by decide +kernel
abbrev mX1_fits : zz_M := (yX1_fits, cX1_fits, 3, (some .boolean), RX1, [])
theorem wYX1_fits : mX1_fits.2.2.2.2.2 = [] ∧ mX1_fits.2.2.1 ≤ 17 ∧ Cond.static mX1_fits.1 ∈ zz_g ∧ Cond.initialized mX1_fits.1.cls ∈ zz_g ∧ Cond.code mX1_fits.1 mX1_fits.2.1 mX1_fits.2.2.1 mX1_fits.2.2.2.1 ∈ zz_g := ⟨rfl, by decide, zw_t_X1_fits, zw_n_X1, zw_c_X1_fits⟩
theorem wDX1_fits : (mX1_fits.1.cls ≠ "java/lang/invoke/MethodHandle" ∧ mX1_fits.1.cls ≠ "java/lang/invoke/VarHandle") ∧ (parseMethodDescriptor mX1_fits.1.desc).map (fun d => d.parameters.length) = some 3 := by decide +kernel
theorem wPX1_fits : plainName mX1_fits.1.cls = true := by decide +kernel
abbrev mX1_everyTwoAre : zz_M := (yX1_everyTwoAre, cX1_everyTwoAre, 4, (some .boolean), RX1, [])
theorem wYX1_everyTwoAre : mX1_everyTwoAre.2.2.2.2.2 = [] ∧ mX1_everyTwoAre.2.2.1 ≤ 17 ∧ Cond.instanceMethod mX1_everyTwoAre.1 ∈ zz_g ∧ Cond.selects mX1_everyTwoAre.1.cls mX1_everyTwoAre.1 mX1_everyTwoAre.1 ∈ zz_g ∧ Cond.initialized mX1_everyTwoAre.1.cls ∈ zz_g ∧ Cond.code mX1_everyTwoAre.1 mX1_everyTwoAre.2.1 mX1_everyTwoAre.2.2.1 mX1_everyTwoAre.2.2.2.1 ∈ zz_g := ⟨rfl, by decide, zw_i_X1_everyTwoAre, zw_s_X1_everyTwoAre, zw_n_X1, zw_c_X1_everyTwoAre⟩
theorem wDX1_everyTwoAre : (mX1_everyTwoAre.1.cls ≠ "java/lang/invoke/MethodHandle" ∧ mX1_everyTwoAre.1.cls ≠ "java/lang/invoke/VarHandle") ∧ (parseMethodDescriptor mX1_everyTwoAre.1.desc).map (fun d => d.parameters.length) = some 1 := by decide +kernel
theorem wPX1_everyTwoAre : plainName mX1_everyTwoAre.1.cls = true := by decide +kernel
abbrev mX1_inOneClass : zz_M := (yX1_inOneClass, cX1_inOneClass, 3, (some .boolean), RX1, [])
theorem wYX1_inOneClass : mX1_inOneClass.2.2.2.2.2 = [] ∧ mX1_inOneClass.2.2.1 ≤ 17 ∧ Cond.instanceMethod mX1_inOneClass.1 ∈ zz_g ∧ Cond.selects mX1_inOneClass.1.cls mX1_inOneClass.1 mX1_inOneClass.1 ∈ zz_g ∧ Cond.initialized mX1_inOneClass.1.cls ∈ zz_g ∧ Cond.code mX1_inOneClass.1 mX1_inOneClass.2.1 mX1_inOneClass.2.2.1 mX1_inOneClass.2.2.2.1 ∈ zz_g := ⟨rfl, by decide, zw_i_X1_inOneClass, zw_s_X1_inOneClass, zw_n_X1, zw_c_X1_inOneClass⟩
theorem wDX1_inOneClass : (mX1_inOneClass.1.cls ≠ "java/lang/invoke/MethodHandle" ∧ mX1_inOneClass.1.cls ≠ "java/lang/invoke/VarHandle") ∧ (parseMethodDescriptor mX1_inOneClass.1.desc).map (fun d => d.parameters.length) = some 2 := by decide +kernel
theorem wPX1_inOneClass : plainName mX1_inOneClass.1.cls = true := by decide +kernel
abbrev mX1_leastOfClass : zz_M := (yX1_leastOfClass, cX1_leastOfClass, 3, (some .int), RX1, [])
theorem wYX1_leastOfClass : mX1_leastOfClass.2.2.2.2.2 = [] ∧ mX1_leastOfClass.2.2.1 ≤ 17 ∧ Cond.instanceMethod mX1_leastOfClass.1 ∈ zz_g ∧ Cond.selects mX1_leastOfClass.1.cls mX1_leastOfClass.1 mX1_leastOfClass.1 ∈ zz_g ∧ Cond.initialized mX1_leastOfClass.1.cls ∈ zz_g ∧ Cond.code mX1_leastOfClass.1 mX1_leastOfClass.2.1 mX1_leastOfClass.2.2.1 mX1_leastOfClass.2.2.2.1 ∈ zz_g := ⟨rfl, by decide, zw_i_X1_leastOfClass, zw_s_X1_leastOfClass, zw_n_X1, zw_c_X1_leastOfClass⟩
theorem wDX1_leastOfClass : (mX1_leastOfClass.1.cls ≠ "java/lang/invoke/MethodHandle" ∧ mX1_leastOfClass.1.cls ≠ "java/lang/invoke/VarHandle") ∧ (parseMethodDescriptor mX1_leastOfClass.1.desc).map (fun d => d.parameters.length) = some 1 := by decide +kernel
theorem wPX1_leastOfClass : plainName mX1_leastOfClass.1.cls = true := by decide +kernel
abbrev mX1_classesInside : zz_M := (yX1_classesInside, cX1_classesInside, 3, (some .int), RX1, [])
theorem wYX1_classesInside : mX1_classesInside.2.2.2.2.2 = [] ∧ mX1_classesInside.2.2.1 ≤ 17 ∧ Cond.instanceMethod mX1_classesInside.1 ∈ zz_g ∧ Cond.selects mX1_classesInside.1.cls mX1_classesInside.1 mX1_classesInside.1 ∈ zz_g ∧ Cond.initialized mX1_classesInside.1.cls ∈ zz_g ∧ Cond.code mX1_classesInside.1 mX1_classesInside.2.1 mX1_classesInside.2.2.1 mX1_classesInside.2.2.2.1 ∈ zz_g := ⟨rfl, by decide, zw_i_X1_classesInside, zw_s_X1_classesInside, zw_n_X1, zw_c_X1_classesInside⟩
theorem wDX1_classesInside : (mX1_classesInside.1.cls ≠ "java/lang/invoke/MethodHandle" ∧ mX1_classesInside.1.cls ≠ "java/lang/invoke/VarHandle") ∧ (parseMethodDescriptor mX1_classesInside.1.desc).map (fun d => d.parameters.length) = some 0 := by decide +kernel
theorem wPX1_classesInside : plainName mX1_classesInside.1.cls = true := by decide +kernel
abbrev mX3_init : zz_M := (yX3_init, cX3_init, 1, none, RX3, [])
abbrev mX2_init : zz_M := (yX2_init, cX2_init, 1, none, RX2, [])
abbrev mX3_leave : zz_M := (yX3_leave, cX3_leave, 3, none, RX3, [])
theorem wYX3_leave : mX3_leave.2.2.2.2.2 = [] ∧ mX3_leave.2.2.1 ≤ 17 ∧ Cond.instanceMethod mX3_leave.1 ∈ zz_g ∧ Cond.selects mX3_leave.1.cls mX3_leave.1 mX3_leave.1 ∈ zz_g ∧ Cond.initialized mX3_leave.1.cls ∈ zz_g ∧ Cond.code mX3_leave.1 mX3_leave.2.1 mX3_leave.2.2.1 mX3_leave.2.2.2.1 ∈ zz_g := ⟨rfl, by decide, zw_i_X3_leave, zw_s_X3_leave, zw_n_X3, zw_c_X3_leave⟩
theorem wDX3_leave : (mX3_leave.1.cls ≠ "java/lang/invoke/MethodHandle" ∧ mX3_leave.1.cls ≠ "java/lang/invoke/VarHandle") ∧ (parseMethodDescriptor mX3_leave.1.desc).map (fun d => d.parameters.length) = some 2 := by decide +kernel
theorem wPX3_leave : plainName mX3_leave.1.cls = true := by decide +kernel
abbrev mX3_goOn : zz_M := (yX3_goOn, cX3_goOn, 2, none, RX3, [])
theorem wYX3_goOn : mX3_goOn.2.2.2.2.2 = [] ∧ mX3_goOn.2.2.1 ≤ 17 ∧ Cond.instanceMethod mX3_goOn.1 ∈ zz_g ∧ Cond.selects mX3_goOn.1.cls mX3_goOn.1 mX3_goOn.1 ∈ zz_g ∧ Cond.initialized mX3_goOn.1.cls ∈ zz_g ∧ Cond.code mX3_goOn.1 mX3_goOn.2.1 mX3_goOn.2.2.1 mX3_goOn.2.2.2.1 ∈ zz_g := ⟨rfl, by decide, zw_i_X3_goOn, zw_s_X3_goOn, zw_n_X3, zw_c_X3_goOn⟩
theorem wDX3_goOn : (mX3_goOn.1.cls ≠ "java/lang/invoke/MethodHandle" ∧ mX3_goOn.1.cls ≠ "java/lang/invoke/VarHandle") ∧ (parseMethodDescriptor mX3_goOn.1.desc).map (fun d => d.parameters.length) = some 1 := by decide +kernel
theorem wPX3_goOn : plainName mX3_goOn.1.cls = true := by decide +kernel
abbrev mX3_reachFrom : zz_M := (yX3_reachFrom, cX3_reachFrom, 6, none, RX3, [])
theorem wYX3_reachFrom : mX3_reachFrom.2.2.2.2.2 = [] ∧ mX3_reachFrom.2.2.1 ≤ 17 ∧ Cond.instanceMethod mX3_reachFrom.1 ∈ zz_g ∧ Cond.selects mX3_reachFrom.1.cls mX3_reachFrom.1 mX3_reachFrom.1 ∈ zz_g ∧ Cond.initialized mX3_reachFrom.1.cls ∈ zz_g ∧ Cond.code mX3_reachFrom.1 mX3_reachFrom.2.1 mX3_reachFrom.2.2.1 mX3_reachFrom.2.2.2.1 ∈ zz_g := ⟨rfl, by decide, zw_i_X3_reachFrom, zw_s_X3_reachFrom, zw_n_X3, zw_c_X3_reachFrom⟩
theorem wDX3_reachFrom : (mX3_reachFrom.1.cls ≠ "java/lang/invoke/MethodHandle" ∧ mX3_reachFrom.1.cls ≠ "java/lang/invoke/VarHandle") ∧ (parseMethodDescriptor mX3_reachFrom.1.desc).map (fun d => d.parameters.length) = some 3 := by decide +kernel
theorem wPX3_reachFrom : plainName mX3_reachFrom.1.cls = true := by decide +kernel
abbrev mX2_closureTellsWalks : zz_M := (yX2_closureTellsWalks, cX2_closureTellsWalks, 4, (some .boolean), RX2, [])
theorem wYX2_closureTellsWalks : mX2_closureTellsWalks.2.2.2.2.2 = [] ∧ mX2_closureTellsWalks.2.2.1 ≤ 17 ∧ Cond.instanceMethod mX2_closureTellsWalks.1 ∈ zz_g ∧ Cond.selects mX2_closureTellsWalks.1.cls mX2_closureTellsWalks.1 mX2_closureTellsWalks.1 ∈ zz_g ∧ Cond.initialized mX2_closureTellsWalks.1.cls ∈ zz_g ∧ Cond.code mX2_closureTellsWalks.1 mX2_closureTellsWalks.2.1 mX2_closureTellsWalks.2.2.1 mX2_closureTellsWalks.2.2.2.1 ∈ zz_g := ⟨rfl, by decide, zw_i_X2_closureTellsWalks, zw_s_X2_closureTellsWalks, zw_n_X2, zw_c_X2_closureTellsWalks⟩
theorem wDX2_closureTellsWalks : (mX2_closureTellsWalks.1.cls ≠ "java/lang/invoke/MethodHandle" ∧ mX2_closureTellsWalks.1.cls ≠ "java/lang/invoke/VarHandle") ∧ (parseMethodDescriptor mX2_closureTellsWalks.1.desc).map (fun d => d.parameters.length) = some 1 := by decide +kernel
theorem wPX2_closureTellsWalks : plainName mX2_closureTellsWalks.1.cls = true := by decide +kernel
abbrev mX2_wrongUnless : zz_M := (yX2_wrongUnless, cX2_wrongUnless, 1, (some .int), RX2, [])
theorem wYX2_wrongUnless : mX2_wrongUnless.2.2.2.2.2 = [] ∧ mX2_wrongUnless.2.2.1 ≤ 17 ∧ Cond.static mX2_wrongUnless.1 ∈ zz_g ∧ Cond.initialized mX2_wrongUnless.1.cls ∈ zz_g ∧ Cond.code mX2_wrongUnless.1 mX2_wrongUnless.2.1 mX2_wrongUnless.2.2.1 mX2_wrongUnless.2.2.2.1 ∈ zz_g := ⟨rfl, by decide, zw_t_X2_wrongUnless, zw_n_X2, zw_c_X2_wrongUnless⟩
theorem wDX2_wrongUnless : (mX2_wrongUnless.1.cls ≠ "java/lang/invoke/MethodHandle" ∧ mX2_wrongUnless.1.cls ≠ "java/lang/invoke/VarHandle") ∧ (parseMethodDescriptor mX2_wrongUnless.1.desc).map (fun d => d.parameters.length) = some 1 := by decide +kernel
theorem wPX2_wrongUnless : plainName mX2_wrongUnless.1.cls = true := by decide +kernel
abbrev mX2_classesPartElements : zz_M := (yX2_classesPartElements, cX2_classesPartElements, 6, (some .boolean), RX2, [])
theorem wYX2_classesPartElements : mX2_classesPartElements.2.2.2.2.2 = [] ∧ mX2_classesPartElements.2.2.1 ≤ 17 ∧ Cond.instanceMethod mX2_classesPartElements.1 ∈ zz_g ∧ Cond.selects mX2_classesPartElements.1.cls mX2_classesPartElements.1 mX2_classesPartElements.1 ∈ zz_g ∧ Cond.initialized mX2_classesPartElements.1.cls ∈ zz_g ∧ Cond.code mX2_classesPartElements.1 mX2_classesPartElements.2.1 mX2_classesPartElements.2.2.1 mX2_classesPartElements.2.2.2.1 ∈ zz_g := ⟨rfl, by decide, zw_i_X2_classesPartElements, zw_s_X2_classesPartElements, zw_n_X2, zw_c_X2_classesPartElements⟩
theorem wDX2_classesPartElements : (mX2_classesPartElements.1.cls ≠ "java/lang/invoke/MethodHandle" ∧ mX2_classesPartElements.1.cls ≠ "java/lang/invoke/VarHandle") ∧ (parseMethodDescriptor mX2_classesPartElements.1.desc).map (fun d => d.parameters.length) = some 0 := by decide +kernel
theorem wPX2_classesPartElements : plainName mX2_classesPartElements.1.cls = true := by decide +kernel
abbrev mX3_findOrder : zz_M := (yX3_findOrder, cX3_findOrder, 5, (some .boolean), RX3, [])
theorem wYX3_findOrder : mX3_findOrder.2.2.2.2.2 = [] ∧ mX3_findOrder.2.2.1 ≤ 17 ∧ Cond.instanceMethod mX3_findOrder.1 ∈ zz_g ∧ Cond.selects mX3_findOrder.1.cls mX3_findOrder.1 mX3_findOrder.1 ∈ zz_g ∧ Cond.initialized mX3_findOrder.1.cls ∈ zz_g ∧ Cond.code mX3_findOrder.1 mX3_findOrder.2.1 mX3_findOrder.2.2.1 mX3_findOrder.2.2.2.1 ∈ zz_g := ⟨rfl, by decide, zw_i_X3_findOrder, zw_s_X3_findOrder, zw_n_X3, zw_c_X3_findOrder⟩
theorem wDX3_findOrder : (mX3_findOrder.1.cls ≠ "java/lang/invoke/MethodHandle" ∧ mX3_findOrder.1.cls ≠ "java/lang/invoke/VarHandle") ∧ (parseMethodDescriptor mX3_findOrder.1.desc).map (fun d => d.parameters.length) = some 1 := by decide +kernel
theorem wPX3_findOrder : plainName mX3_findOrder.1.cls = true := by decide +kernel
abbrev mX3_orderedAt : zz_M := (yX3_orderedAt, cX3_orderedAt, 2, (some .int), RX3, [])
theorem wYX3_orderedAt : mX3_orderedAt.2.2.2.2.2 = [] ∧ mX3_orderedAt.2.2.1 ≤ 17 ∧ Cond.instanceMethod mX3_orderedAt.1 ∈ zz_g ∧ Cond.selects mX3_orderedAt.1.cls mX3_orderedAt.1 mX3_orderedAt.1 ∈ zz_g ∧ Cond.initialized mX3_orderedAt.1.cls ∈ zz_g ∧ Cond.code mX3_orderedAt.1 mX3_orderedAt.2.1 mX3_orderedAt.2.2.1 mX3_orderedAt.2.2.2.1 ∈ zz_g := ⟨rfl, by decide, zw_i_X3_orderedAt, zw_s_X3_orderedAt, zw_n_X3, zw_c_X3_orderedAt⟩
theorem wDX3_orderedAt : (mX3_orderedAt.1.cls ≠ "java/lang/invoke/MethodHandle" ∧ mX3_orderedAt.1.cls ≠ "java/lang/invoke/VarHandle") ∧ (parseMethodDescriptor mX3_orderedAt.1.desc).map (fun d => d.parameters.length) = some 1 := by decide +kernel
theorem wPX3_orderedAt : plainName mX3_orderedAt.1.cls = true := by decide +kernel
abbrev mX2_orderKeeps : zz_M := (yX2_orderKeeps, cX2_orderKeeps, 7, (some .boolean), RX2, [])
theorem wYX2_orderKeeps : mX2_orderKeeps.2.2.2.2.2 = [] ∧ mX2_orderKeeps.2.2.1 ≤ 17 ∧ Cond.instanceMethod mX2_orderKeeps.1 ∈ zz_g ∧ Cond.selects mX2_orderKeeps.1.cls mX2_orderKeeps.1 mX2_orderKeeps.1 ∈ zz_g ∧ Cond.initialized mX2_orderKeeps.1.cls ∈ zz_g ∧ Cond.code mX2_orderKeeps.1 mX2_orderKeeps.2.1 mX2_orderKeeps.2.2.1 mX2_orderKeeps.2.2.2.1 ∈ zz_g := ⟨rfl, by decide, zw_i_X2_orderKeeps, zw_s_X2_orderKeeps, zw_n_X2, zw_c_X2_orderKeeps⟩
theorem wDX2_orderKeeps : (mX2_orderKeeps.1.cls ≠ "java/lang/invoke/MethodHandle" ∧ mX2_orderKeeps.1.cls ≠ "java/lang/invoke/VarHandle") ∧ (parseMethodDescriptor mX2_orderKeeps.1.desc).map (fun d => d.parameters.length) = some 1 := by decide +kernel
theorem wPX2_orderKeeps : plainName mX2_orderKeeps.1.cls = true := by decide +kernel
abbrev mX2_coversGiveClosure : zz_M := (yX2_coversGiveClosure, cX2_coversGiveClosure, 1, (some .boolean), RX2, [])
theorem wYX2_coversGiveClosure : mX2_coversGiveClosure.2.2.2.2.2 = [] ∧ mX2_coversGiveClosure.2.2.1 ≤ 17 ∧ Cond.instanceMethod mX2_coversGiveClosure.1 ∈ zz_g ∧ Cond.selects mX2_coversGiveClosure.1.cls mX2_coversGiveClosure.1 mX2_coversGiveClosure.1 ∈ zz_g ∧ Cond.initialized mX2_coversGiveClosure.1.cls ∈ zz_g ∧ Cond.code mX2_coversGiveClosure.1 mX2_coversGiveClosure.2.1 mX2_coversGiveClosure.2.2.1 mX2_coversGiveClosure.2.2.2.1 ∈ zz_g := ⟨rfl, by decide, zw_i_X2_coversGiveClosure, zw_s_X2_coversGiveClosure, zw_n_X2, zw_c_X2_coversGiveClosure⟩
theorem wDX2_coversGiveClosure : (mX2_coversGiveClosure.1.cls ≠ "java/lang/invoke/MethodHandle" ∧ mX2_coversGiveClosure.1.cls ≠ "java/lang/invoke/VarHandle") ∧ (parseMethodDescriptor mX2_coversGiveClosure.1.desc).map (fun d => d.parameters.length) = some 0 := by decide +kernel
theorem wPX2_coversGiveClosure : plainName mX2_coversGiveClosure.1.cls = true := by decide +kernel
abbrev mX2_wrongOfOne : zz_M := (yX2_wrongOfOne, cX2_wrongOfOne, 2, (some .int), RX2, [])
theorem wYX2_wrongOfOne : mX2_wrongOfOne.2.2.2.2.2 = [] ∧ mX2_wrongOfOne.2.2.1 ≤ 17 ∧ Cond.instanceMethod mX2_wrongOfOne.1 ∈ zz_g ∧ Cond.selects mX2_wrongOfOne.1.cls mX2_wrongOfOne.1 mX2_wrongOfOne.1 ∈ zz_g ∧ Cond.initialized mX2_wrongOfOne.1.cls ∈ zz_g ∧ Cond.code mX2_wrongOfOne.1 mX2_wrongOfOne.2.1 mX2_wrongOfOne.2.2.1 mX2_wrongOfOne.2.2.2.1 ∈ zz_g := ⟨rfl, by decide, zw_i_X2_wrongOfOne, zw_s_X2_wrongOfOne, zw_n_X2, zw_c_X2_wrongOfOne⟩
theorem wDX2_wrongOfOne : (mX2_wrongOfOne.1.cls ≠ "java/lang/invoke/MethodHandle" ∧ mX2_wrongOfOne.1.cls ≠ "java/lang/invoke/VarHandle") ∧ (parseMethodDescriptor mX2_wrongOfOne.1.desc).map (fun d => d.parameters.length) = some 1 := by decide +kernel
theorem wPX2_wrongOfOne : plainName mX2_wrongOfOne.1.cls = true := by decide +kernel
abbrev mX2_isAssociative : zz_M := (yX2_isAssociative, cX2_isAssociative, 4, (some .boolean), RX2, [])
theorem wYX2_isAssociative : mX2_isAssociative.2.2.2.2.2 = [] ∧ mX2_isAssociative.2.2.1 ≤ 17 ∧ Cond.instanceMethod mX2_isAssociative.1 ∈ zz_g ∧ Cond.selects mX2_isAssociative.1.cls mX2_isAssociative.1 mX2_isAssociative.1 ∈ zz_g ∧ Cond.initialized mX2_isAssociative.1.cls ∈ zz_g ∧ Cond.code mX2_isAssociative.1 mX2_isAssociative.2.1 mX2_isAssociative.2.2.1 mX2_isAssociative.2.2.2.1 ∈ zz_g := ⟨rfl, by decide, zw_i_X2_isAssociative, zw_s_X2_isAssociative, zw_n_X2, zw_c_X2_isAssociative⟩
theorem wDX2_isAssociative : (mX2_isAssociative.1.cls ≠ "java/lang/invoke/MethodHandle" ∧ mX2_isAssociative.1.cls ≠ "java/lang/invoke/VarHandle") ∧ (parseMethodDescriptor mX2_isAssociative.1.desc).map (fun d => d.parameters.length) = some 3 := by decide +kernel
theorem wPX2_isAssociative : plainName mX2_isAssociative.1.cls = true := by decide +kernel
abbrev mX2_distributesBefore : zz_M := (yX2_distributesBefore, cX2_distributesBefore, 4, (some .boolean), RX2, [])
theorem wYX2_distributesBefore : mX2_distributesBefore.2.2.2.2.2 = [] ∧ mX2_distributesBefore.2.2.1 ≤ 17 ∧ Cond.instanceMethod mX2_distributesBefore.1 ∈ zz_g ∧ Cond.selects mX2_distributesBefore.1.cls mX2_distributesBefore.1 mX2_distributesBefore.1 ∈ zz_g ∧ Cond.initialized mX2_distributesBefore.1.cls ∈ zz_g ∧ Cond.code mX2_distributesBefore.1 mX2_distributesBefore.2.1 mX2_distributesBefore.2.2.1 mX2_distributesBefore.2.2.2.1 ∈ zz_g := ⟨rfl, by decide, zw_i_X2_distributesBefore, zw_s_X2_distributesBefore, zw_n_X2, zw_c_X2_distributesBefore⟩
theorem wDX2_distributesBefore : (mX2_distributesBefore.1.cls ≠ "java/lang/invoke/MethodHandle" ∧ mX2_distributesBefore.1.cls ≠ "java/lang/invoke/VarHandle") ∧ (parseMethodDescriptor mX2_distributesBefore.1.desc).map (fun d => d.parameters.length) = some 3 := by decide +kernel
theorem wPX2_distributesBefore : plainName mX2_distributesBefore.1.cls = true := by decide +kernel
abbrev mX2_distributesBehind : zz_M := (yX2_distributesBehind, cX2_distributesBehind, 4, (some .boolean), RX2, [])
theorem wYX2_distributesBehind : mX2_distributesBehind.2.2.2.2.2 = [] ∧ mX2_distributesBehind.2.2.1 ≤ 17 ∧ Cond.instanceMethod mX2_distributesBehind.1 ∈ zz_g ∧ Cond.selects mX2_distributesBehind.1.cls mX2_distributesBehind.1 mX2_distributesBehind.1 ∈ zz_g ∧ Cond.initialized mX2_distributesBehind.1.cls ∈ zz_g ∧ Cond.code mX2_distributesBehind.1 mX2_distributesBehind.2.1 mX2_distributesBehind.2.2.1 mX2_distributesBehind.2.2.2.1 ∈ zz_g := ⟨rfl, by decide, zw_i_X2_distributesBehind, zw_s_X2_distributesBehind, zw_n_X2, zw_c_X2_distributesBehind⟩
theorem wDX2_distributesBehind : (mX2_distributesBehind.1.cls ≠ "java/lang/invoke/MethodHandle" ∧ mX2_distributesBehind.1.cls ≠ "java/lang/invoke/VarHandle") ∧ (parseMethodDescriptor mX2_distributesBehind.1.desc).map (fun d => d.parameters.length) = some 3 := by decide +kernel
theorem wPX2_distributesBehind : plainName mX2_distributesBehind.1.cls = true := by decide +kernel
abbrev mX2_wrongOfThree : zz_M := (yX2_wrongOfThree, cX2_wrongOfThree, 4, (some .int), RX2, [])
theorem wYX2_wrongOfThree : mX2_wrongOfThree.2.2.2.2.2 = [] ∧ mX2_wrongOfThree.2.2.1 ≤ 17 ∧ Cond.instanceMethod mX2_wrongOfThree.1 ∈ zz_g ∧ Cond.selects mX2_wrongOfThree.1.cls mX2_wrongOfThree.1 mX2_wrongOfThree.1 ∈ zz_g ∧ Cond.initialized mX2_wrongOfThree.1.cls ∈ zz_g ∧ Cond.code mX2_wrongOfThree.1 mX2_wrongOfThree.2.1 mX2_wrongOfThree.2.2.1 mX2_wrongOfThree.2.2.2.1 ∈ zz_g := ⟨rfl, by decide, zw_i_X2_wrongOfThree, zw_s_X2_wrongOfThree, zw_n_X2, zw_c_X2_wrongOfThree⟩
theorem wDX2_wrongOfThree : (mX2_wrongOfThree.1.cls ≠ "java/lang/invoke/MethodHandle" ∧ mX2_wrongOfThree.1.cls ≠ "java/lang/invoke/VarHandle") ∧ (parseMethodDescriptor mX2_wrongOfThree.1.desc).map (fun d => d.parameters.length) = some 3 := by decide +kernel
theorem wPX2_wrongOfThree : plainName mX2_wrongOfThree.1.cls = true := by decide +kernel
abbrev mX3_stepsBetween : zz_M := (yX3_stepsBetween, cX3_stepsBetween, 6, (some .int), RX3, [])
theorem wYX3_stepsBetween : mX3_stepsBetween.2.2.2.2.2 = [] ∧ mX3_stepsBetween.2.2.1 ≤ 17 ∧ Cond.instanceMethod mX3_stepsBetween.1 ∈ zz_g ∧ Cond.selects mX3_stepsBetween.1.cls mX3_stepsBetween.1 mX3_stepsBetween.1 ∈ zz_g ∧ Cond.initialized mX3_stepsBetween.1.cls ∈ zz_g ∧ Cond.code mX3_stepsBetween.1 mX3_stepsBetween.2.1 mX3_stepsBetween.2.2.1 mX3_stepsBetween.2.2.2.1 ∈ zz_g := ⟨rfl, by decide, zw_i_X3_stepsBetween, zw_s_X3_stepsBetween, zw_n_X3, zw_c_X3_stepsBetween⟩
theorem wDX3_stepsBetween : (mX3_stepsBetween.1.cls ≠ "java/lang/invoke/MethodHandle" ∧ mX3_stepsBetween.1.cls ≠ "java/lang/invoke/VarHandle") ∧ (parseMethodDescriptor mX3_stepsBetween.1.desc).map (fun d => d.parameters.length) = some 3 := by decide +kernel
theorem wPX3_stepsBetween : plainName mX3_stepsBetween.1.cls = true := by decide +kernel
abbrev mX3_longest : zz_M := (yX3_longest, cX3_longest, 4, (some .int), RX3, [])
theorem wYX3_longest : mX3_longest.2.2.2.2.2 = [] ∧ mX3_longest.2.2.1 ≤ 17 ∧ Cond.instanceMethod mX3_longest.1 ∈ zz_g ∧ Cond.selects mX3_longest.1.cls mX3_longest.1 mX3_longest.1 ∈ zz_g ∧ Cond.initialized mX3_longest.1.cls ∈ zz_g ∧ Cond.code mX3_longest.1 mX3_longest.2.1 mX3_longest.2.2.1 mX3_longest.2.2.2.1 ∈ zz_g := ⟨rfl, by decide, zw_i_X3_longest, zw_s_X3_longest, zw_n_X3, zw_c_X3_longest⟩
theorem wDX3_longest : (mX3_longest.1.cls ≠ "java/lang/invoke/MethodHandle" ∧ mX3_longest.1.cls ≠ "java/lang/invoke/VarHandle") ∧ (parseMethodDescriptor mX3_longest.1.desc).map (fun d => d.parameters.length) = some 1 := by decide +kernel
theorem wPX3_longest : plainName mX3_longest.1.cls = true := by decide +kernel
abbrev mX4_init : zz_M := (yX4_init, cX4_init, 2, none, RX4, [])
abbrev mX4_relationAt : zz_M := (yX4_relationAt, cX4_relationAt, 2, (some (.object "Relationrows$Relation")), RX4, [])
theorem wYX4_relationAt : mX4_relationAt.2.2.2.2.2 = [] ∧ mX4_relationAt.2.2.1 ≤ 17 ∧ Cond.instanceMethod mX4_relationAt.1 ∈ zz_g ∧ Cond.selects mX4_relationAt.1.cls mX4_relationAt.1 mX4_relationAt.1 ∈ zz_g ∧ Cond.initialized mX4_relationAt.1.cls ∈ zz_g ∧ Cond.code mX4_relationAt.1 mX4_relationAt.2.1 mX4_relationAt.2.2.1 mX4_relationAt.2.2.2.1 ∈ zz_g := ⟨rfl, by decide, zw_i_X4_relationAt, zw_s_X4_relationAt, zw_n_X4, zw_c_X4_relationAt⟩
theorem wDX4_relationAt : (mX4_relationAt.1.cls ≠ "java/lang/invoke/MethodHandle" ∧ mX4_relationAt.1.cls ≠ "java/lang/invoke/VarHandle") ∧ (parseMethodDescriptor mX4_relationAt.1.desc).map (fun d => d.parameters.length) = some 1 := by decide +kernel
theorem wPX4_relationAt : plainName mX4_relationAt.1.cls = true := by decide +kernel
abbrev mX4_begin : zz_M := (yX4_begin, cX4_begin, 4, (some .int), RX4, [])
theorem wYX4_begin : mX4_begin.2.2.2.2.2 = [] ∧ mX4_begin.2.2.1 ≤ 17 ∧ Cond.instanceMethod mX4_begin.1 ∈ zz_g ∧ Cond.selects mX4_begin.1.cls mX4_begin.1 mX4_begin.1 ∈ zz_g ∧ Cond.initialized mX4_begin.1.cls ∈ zz_g ∧ Cond.code mX4_begin.1 mX4_begin.2.1 mX4_begin.2.2.1 mX4_begin.2.2.2.1 ∈ zz_g := ⟨rfl, by decide, zw_i_X4_begin, zw_s_X4_begin, zw_n_X4, zw_c_X4_begin⟩
theorem wDX4_begin : (mX4_begin.1.cls ≠ "java/lang/invoke/MethodHandle" ∧ mX4_begin.1.cls ≠ "java/lang/invoke/VarHandle") ∧ (parseMethodDescriptor mX4_begin.1.desc).map (fun d => d.parameters.length) = some 1 := by decide +kernel
theorem wPX4_begin : plainName mX4_begin.1.cls = true := by decide +kernel
abbrev mX4_checkElement : zz_M := (yX4_checkElement, cX4_checkElement, 2, none, RX4, [])
theorem wYX4_checkElement : mX4_checkElement.2.2.2.2.2 = [] ∧ mX4_checkElement.2.2.1 ≤ 17 ∧ Cond.instanceMethod mX4_checkElement.1 ∈ zz_g ∧ Cond.selects mX4_checkElement.1.cls mX4_checkElement.1 mX4_checkElement.1 ∈ zz_g ∧ Cond.initialized mX4_checkElement.1.cls ∈ zz_g ∧ Cond.code mX4_checkElement.1 mX4_checkElement.2.1 mX4_checkElement.2.2.1 mX4_checkElement.2.2.2.1 ∈ zz_g := ⟨rfl, by decide, zw_i_X4_checkElement, zw_s_X4_checkElement, zw_n_X4, zw_c_X4_checkElement⟩
theorem wDX4_checkElement : (mX4_checkElement.1.cls ≠ "java/lang/invoke/MethodHandle" ∧ mX4_checkElement.1.cls ≠ "java/lang/invoke/VarHandle") ∧ (parseMethodDescriptor mX4_checkElement.1.desc).map (fun d => d.parameters.length) = some 1 := by decide +kernel
theorem wPX4_checkElement : plainName mX4_checkElement.1.cls = true := by decide +kernel
abbrev mX4_set : zz_M := (yX4_set, cX4_set, 7, (some .boolean), RX4, [])
theorem wYX4_set : mX4_set.2.2.2.2.2 = [] ∧ mX4_set.2.2.1 ≤ 17 ∧ Cond.instanceMethod mX4_set.1 ∈ zz_g ∧ Cond.selects mX4_set.1.cls mX4_set.1 mX4_set.1 ∈ zz_g ∧ Cond.initialized mX4_set.1.cls ∈ zz_g ∧ Cond.code mX4_set.1 mX4_set.2.1 mX4_set.2.2.1 mX4_set.2.2.2.1 ∈ zz_g := ⟨rfl, by decide, zw_i_X4_set, zw_s_X4_set, zw_n_X4, zw_c_X4_set⟩
theorem wDX4_set : (mX4_set.1.cls ≠ "java/lang/invoke/MethodHandle" ∧ mX4_set.1.cls ≠ "java/lang/invoke/VarHandle") ∧ (parseMethodDescriptor mX4_set.1.desc).map (fun d => d.parameters.length) = some 4 := by decide +kernel
theorem wPX4_set : plainName mX4_set.1.cls = true := by decide +kernel
abbrev mX4_checkRange : zz_M := (yX4_checkRange, cX4_checkRange, 3, none, RX4, [])
theorem wYX4_checkRange : mX4_checkRange.2.2.2.2.2 = [] ∧ mX4_checkRange.2.2.1 ≤ 17 ∧ Cond.instanceMethod mX4_checkRange.1 ∈ zz_g ∧ Cond.selects mX4_checkRange.1.cls mX4_checkRange.1 mX4_checkRange.1 ∈ zz_g ∧ Cond.initialized mX4_checkRange.1.cls ∈ zz_g ∧ Cond.code mX4_checkRange.1 mX4_checkRange.2.1 mX4_checkRange.2.2.1 mX4_checkRange.2.2.2.1 ∈ zz_g := ⟨rfl, by decide, zw_i_X4_checkRange, zw_s_X4_checkRange, zw_n_X4, zw_c_X4_checkRange⟩
theorem wDX4_checkRange : (mX4_checkRange.1.cls ≠ "java/lang/invoke/MethodHandle" ∧ mX4_checkRange.1.cls ≠ "java/lang/invoke/VarHandle") ∧ (parseMethodDescriptor mX4_checkRange.1.desc).map (fun d => d.parameters.length) = some 2 := by decide +kernel
theorem wPX4_checkRange : plainName mX4_checkRange.1.cls = true := by decide +kernel
abbrev mX4_setRange : zz_M := (yX4_setRange, cX4_setRange, 7, (some .int), RX4, [])
theorem wYX4_setRange : mX4_setRange.2.2.2.2.2 = [] ∧ mX4_setRange.2.2.1 ≤ 17 ∧ Cond.instanceMethod mX4_setRange.1 ∈ zz_g ∧ Cond.selects mX4_setRange.1.cls mX4_setRange.1 mX4_setRange.1 ∈ zz_g ∧ Cond.initialized mX4_setRange.1.cls ∈ zz_g ∧ Cond.code mX4_setRange.1 mX4_setRange.2.1 mX4_setRange.2.2.1 mX4_setRange.2.2.2.1 ∈ zz_g := ⟨rfl, by decide, zw_i_X4_setRange, zw_s_X4_setRange, zw_n_X4, zw_c_X4_setRange⟩
theorem wDX4_setRange : (mX4_setRange.1.cls ≠ "java/lang/invoke/MethodHandle" ∧ mX4_setRange.1.cls ≠ "java/lang/invoke/VarHandle") ∧ (parseMethodDescriptor mX4_setRange.1.desc).map (fun d => d.parameters.length) = some 5 := by decide +kernel
theorem wPX4_setRange : plainName mX4_setRange.1.cls = true := by decide +kernel
abbrev mX4_flipRange : zz_M := (yX4_flipRange, cX4_flipRange, 6, (some .int), RX4, [])
theorem wYX4_flipRange : mX4_flipRange.2.2.2.2.2 = [] ∧ mX4_flipRange.2.2.1 ≤ 17 ∧ Cond.instanceMethod mX4_flipRange.1 ∈ zz_g ∧ Cond.selects mX4_flipRange.1.cls mX4_flipRange.1 mX4_flipRange.1 ∈ zz_g ∧ Cond.initialized mX4_flipRange.1.cls ∈ zz_g ∧ Cond.code mX4_flipRange.1 mX4_flipRange.2.1 mX4_flipRange.2.2.1 mX4_flipRange.2.2.2.1 ∈ zz_g := ⟨rfl, by decide, zw_i_X4_flipRange, zw_s_X4_flipRange, zw_n_X4, zw_c_X4_flipRange⟩
theorem wDX4_flipRange : (mX4_flipRange.1.cls ≠ "java/lang/invoke/MethodHandle" ∧ mX4_flipRange.1.cls ≠ "java/lang/invoke/VarHandle") ∧ (parseMethodDescriptor mX4_flipRange.1.desc).map (fun d => d.parameters.length) = some 4 := by decide +kernel
theorem wPX4_flipRange : plainName mX4_flipRange.1.cls = true := by decide +kernel
abbrev mX4_setRow : zz_M := (yX4_setRow, cX4_setRow, 6, (some .int), RX4, [])
theorem wYX4_setRow : mX4_setRow.2.2.2.2.2 = [] ∧ mX4_setRow.2.2.1 ≤ 17 ∧ Cond.instanceMethod mX4_setRow.1 ∈ zz_g ∧ Cond.selects mX4_setRow.1.cls mX4_setRow.1 mX4_setRow.1 ∈ zz_g ∧ Cond.initialized mX4_setRow.1.cls ∈ zz_g ∧ Cond.code mX4_setRow.1 mX4_setRow.2.1 mX4_setRow.2.2.1 mX4_setRow.2.2.2.1 ∈ zz_g := ⟨rfl, by decide, zw_i_X4_setRow, zw_s_X4_setRow, zw_n_X4, zw_c_X4_setRow⟩
theorem wDX4_setRow : (mX4_setRow.1.cls ≠ "java/lang/invoke/MethodHandle" ∧ mX4_setRow.1.cls ≠ "java/lang/invoke/VarHandle") ∧ (parseMethodDescriptor mX4_setRow.1.desc).map (fun d => d.parameters.length) = some 3 := by decide +kernel
theorem wPX4_setRow : plainName mX4_setRow.1.cls = true := by decide +kernel
abbrev mX4_chain : zz_M := (yX4_chain, cX4_chain, 4, (some .int), RX4, [])
theorem wYX4_chain : mX4_chain.2.2.2.2.2 = [] ∧ mX4_chain.2.2.1 ≤ 17 ∧ Cond.instanceMethod mX4_chain.1 ∈ zz_g ∧ Cond.selects mX4_chain.1.cls mX4_chain.1 mX4_chain.1 ∈ zz_g ∧ Cond.initialized mX4_chain.1.cls ∈ zz_g ∧ Cond.code mX4_chain.1 mX4_chain.2.1 mX4_chain.2.2.1 mX4_chain.2.2.2.1 ∈ zz_g := ⟨rfl, by decide, zw_i_X4_chain, zw_s_X4_chain, zw_n_X4, zw_c_X4_chain⟩
theorem wDX4_chain : (mX4_chain.1.cls ≠ "java/lang/invoke/MethodHandle" ∧ mX4_chain.1.cls ≠ "java/lang/invoke/VarHandle") ∧ (parseMethodDescriptor mX4_chain.1.desc).map (fun d => d.parameters.length) = some 1 := by decide +kernel
theorem wPX4_chain : plainName mX4_chain.1.cls = true := by decide +kernel
abbrev mX4_seedAfter : zz_M := (yX4_seedAfter, cX4_seedAfter, 1, (some .int), RX4, [])
theorem wYX4_seedAfter : mX4_seedAfter.2.2.2.2.2 = [] ∧ mX4_seedAfter.2.2.1 ≤ 17 ∧ Cond.static mX4_seedAfter.1 ∈ zz_g ∧ Cond.initialized mX4_seedAfter.1.cls ∈ zz_g ∧ Cond.code mX4_seedAfter.1 mX4_seedAfter.2.1 mX4_seedAfter.2.2.1 mX4_seedAfter.2.2.2.1 ∈ zz_g := ⟨rfl, by decide, zw_t_X4_seedAfter, zw_n_X4, zw_c_X4_seedAfter⟩
theorem wDX4_seedAfter : (mX4_seedAfter.1.cls ≠ "java/lang/invoke/MethodHandle" ∧ mX4_seedAfter.1.cls ≠ "java/lang/invoke/VarHandle") ∧ (parseMethodDescriptor mX4_seedAfter.1.desc).map (fun d => d.parameters.length) = some 1 := by decide +kernel
theorem wPX4_seedAfter : plainName mX4_seedAfter.1.cls = true := by decide +kernel
abbrev mX4_elementOf : zz_M := (yX4_elementOf, cX4_elementOf, 2, (some .int), RX4, [])
theorem wYX4_elementOf : mX4_elementOf.2.2.2.2.2 = [] ∧ mX4_elementOf.2.2.1 ≤ 17 ∧ Cond.instanceMethod mX4_elementOf.1 ∈ zz_g ∧ Cond.selects mX4_elementOf.1.cls mX4_elementOf.1 mX4_elementOf.1 ∈ zz_g ∧ Cond.initialized mX4_elementOf.1.cls ∈ zz_g ∧ Cond.code mX4_elementOf.1 mX4_elementOf.2.1 mX4_elementOf.2.2.1 mX4_elementOf.2.2.2.1 ∈ zz_g := ⟨rfl, by decide, zw_i_X4_elementOf, zw_s_X4_elementOf, zw_n_X4, zw_c_X4_elementOf⟩
theorem wDX4_elementOf : (mX4_elementOf.1.cls ≠ "java/lang/invoke/MethodHandle" ∧ mX4_elementOf.1.cls ≠ "java/lang/invoke/VarHandle") ∧ (parseMethodDescriptor mX4_elementOf.1.desc).map (fun d => d.parameters.length) = some 1 := by decide +kernel
theorem wPX4_elementOf : plainName mX4_elementOf.1.cls = true := by decide +kernel
abbrev mX4_draw : zz_M := (yX4_draw, cX4_draw, 8, (some .int), RX4, [])
theorem wYX4_draw : mX4_draw.2.2.2.2.2 = [] ∧ mX4_draw.2.2.1 ≤ 17 ∧ Cond.instanceMethod mX4_draw.1 ∈ zz_g ∧ Cond.selects mX4_draw.1.cls mX4_draw.1 mX4_draw.1 ∈ zz_g ∧ Cond.initialized mX4_draw.1.cls ∈ zz_g ∧ Cond.code mX4_draw.1 mX4_draw.2.1 mX4_draw.2.2.1 mX4_draw.2.2.2.1 ∈ zz_g := ⟨rfl, by decide, zw_i_X4_draw, zw_s_X4_draw, zw_n_X4, zw_c_X4_draw⟩
theorem wDX4_draw : (mX4_draw.1.cls ≠ "java/lang/invoke/MethodHandle" ∧ mX4_draw.1.cls ≠ "java/lang/invoke/VarHandle") ∧ (parseMethodDescriptor mX4_draw.1.desc).map (fun d => d.parameters.length) = some 3 := by decide +kernel
theorem wPX4_draw : plainName mX4_draw.1.cls = true := by decide +kernel
abbrev mX4_copy : zz_M := (yX4_copy, cX4_copy, 5, (some .int), RX4, [])
theorem wYX4_copy : mX4_copy.2.2.2.2.2 = [] ∧ mX4_copy.2.2.1 ≤ 17 ∧ Cond.instanceMethod mX4_copy.1 ∈ zz_g ∧ Cond.selects mX4_copy.1.cls mX4_copy.1 mX4_copy.1 ∈ zz_g ∧ Cond.initialized mX4_copy.1.cls ∈ zz_g ∧ Cond.code mX4_copy.1 mX4_copy.2.1 mX4_copy.2.2.1 mX4_copy.2.2.2.1 ∈ zz_g := ⟨rfl, by decide, zw_i_X4_copy, zw_s_X4_copy, zw_n_X4, zw_c_X4_copy⟩
theorem wDX4_copy : (mX4_copy.1.cls ≠ "java/lang/invoke/MethodHandle" ∧ mX4_copy.1.cls ≠ "java/lang/invoke/VarHandle") ∧ (parseMethodDescriptor mX4_copy.1.desc).map (fun d => d.parameters.length) = some 2 := by decide +kernel
theorem wPX4_copy : plainName mX4_copy.1.cls = true := by decide +kernel
abbrev mX4_combine : zz_M := (yX4_combine, cX4_combine, 6, (some .int), RX4, [])
theorem wYX4_combine : mX4_combine.2.2.2.2.2 = [] ∧ mX4_combine.2.2.1 ≤ 17 ∧ Cond.instanceMethod mX4_combine.1 ∈ zz_g ∧ Cond.selects mX4_combine.1.cls mX4_combine.1 mX4_combine.1 ∈ zz_g ∧ Cond.initialized mX4_combine.1.cls ∈ zz_g ∧ Cond.code mX4_combine.1 mX4_combine.2.1 mX4_combine.2.2.1 mX4_combine.2.2.2.1 ∈ zz_g := ⟨rfl, by decide, zw_i_X4_combine, zw_s_X4_combine, zw_n_X4, zw_c_X4_combine⟩
theorem wDX4_combine : (mX4_combine.1.cls ≠ "java/lang/invoke/MethodHandle" ∧ mX4_combine.1.cls ≠ "java/lang/invoke/VarHandle") ∧ (parseMethodDescriptor mX4_combine.1.desc).map (fun d => d.parameters.length) = some 3 := by decide +kernel
theorem wPX4_combine : plainName mX4_combine.1.cls = true := by decide +kernel
abbrev mX4_compose : zz_M := (yX4_compose, cX4_compose, 7, (some .int), RX4, [])
theorem wYX4_compose : mX4_compose.2.2.2.2.2 = [] ∧ mX4_compose.2.2.1 ≤ 17 ∧ Cond.instanceMethod mX4_compose.1 ∈ zz_g ∧ Cond.selects mX4_compose.1.cls mX4_compose.1 mX4_compose.1 ∈ zz_g ∧ Cond.initialized mX4_compose.1.cls ∈ zz_g ∧ Cond.code mX4_compose.1 mX4_compose.2.1 mX4_compose.2.2.1 mX4_compose.2.2.2.1 ∈ zz_g := ⟨rfl, by decide, zw_i_X4_compose, zw_s_X4_compose, zw_n_X4, zw_c_X4_compose⟩
theorem wDX4_compose : (mX4_compose.1.cls ≠ "java/lang/invoke/MethodHandle" ∧ mX4_compose.1.cls ≠ "java/lang/invoke/VarHandle") ∧ (parseMethodDescriptor mX4_compose.1.desc).map (fun d => d.parameters.length) = some 3 := by decide +kernel
theorem wPX4_compose : plainName mX4_compose.1.cls = true := by decide +kernel
abbrev mX4_turn : zz_M := (yX4_turn, cX4_turn, 3, (some .int), RX4, [])
theorem wYX4_turn : mX4_turn.2.2.2.2.2 = [] ∧ mX4_turn.2.2.1 ≤ 17 ∧ Cond.instanceMethod mX4_turn.1 ∈ zz_g ∧ Cond.selects mX4_turn.1.cls mX4_turn.1 mX4_turn.1 ∈ zz_g ∧ Cond.initialized mX4_turn.1.cls ∈ zz_g ∧ Cond.code mX4_turn.1 mX4_turn.2.1 mX4_turn.2.2.1 mX4_turn.2.2.2.1 ∈ zz_g := ⟨rfl, by decide, zw_i_X4_turn, zw_s_X4_turn, zw_n_X4, zw_c_X4_turn⟩
theorem wDX4_turn : (mX4_turn.1.cls ≠ "java/lang/invoke/MethodHandle" ∧ mX4_turn.1.cls ≠ "java/lang/invoke/VarHandle") ∧ (parseMethodDescriptor mX4_turn.1.desc).map (fun d => d.parameters.length) = some 1 := by decide +kernel
theorem wPX4_turn : plainName mX4_turn.1.cls = true := by decide +kernel
abbrev mX4_oppose : zz_M := (yX4_oppose, cX4_oppose, 3, (some .int), RX4, [])
theorem wYX4_oppose : mX4_oppose.2.2.2.2.2 = [] ∧ mX4_oppose.2.2.1 ≤ 17 ∧ Cond.instanceMethod mX4_oppose.1 ∈ zz_g ∧ Cond.selects mX4_oppose.1.cls mX4_oppose.1 mX4_oppose.1 ∈ zz_g ∧ Cond.initialized mX4_oppose.1.cls ∈ zz_g ∧ Cond.code mX4_oppose.1 mX4_oppose.2.1 mX4_oppose.2.2.1 mX4_oppose.2.2.2.1 ∈ zz_g := ⟨rfl, by decide, zw_i_X4_oppose, zw_s_X4_oppose, zw_n_X4, zw_c_X4_oppose⟩
theorem wDX4_oppose : (mX4_oppose.1.cls ≠ "java/lang/invoke/MethodHandle" ∧ mX4_oppose.1.cls ≠ "java/lang/invoke/VarHandle") ∧ (parseMethodDescriptor mX4_oppose.1.desc).map (fun d => d.parameters.length) = some 1 := by decide +kernel
theorem wPX4_oppose : plainName mX4_oppose.1.cls = true := by decide +kernel
abbrev mX4_close : zz_M := (yX4_close, cX4_close, 4, (some .int), RX4, [])
theorem wYX4_close : mX4_close.2.2.2.2.2 = [] ∧ mX4_close.2.2.1 ≤ 17 ∧ Cond.instanceMethod mX4_close.1 ∈ zz_g ∧ Cond.selects mX4_close.1.cls mX4_close.1 mX4_close.1 ∈ zz_g ∧ Cond.initialized mX4_close.1.cls ∈ zz_g ∧ Cond.code mX4_close.1 mX4_close.2.1 mX4_close.2.2.1 mX4_close.2.2.2.1 ∈ zz_g := ⟨rfl, by decide, zw_i_X4_close, zw_s_X4_close, zw_n_X4, zw_c_X4_close⟩
theorem wDX4_close : (mX4_close.1.cls ≠ "java/lang/invoke/MethodHandle" ∧ mX4_close.1.cls ≠ "java/lang/invoke/VarHandle") ∧ (parseMethodDescriptor mX4_close.1.desc).map (fun d => d.parameters.length) = some 2 := by decide +kernel
theorem wPX4_close : plainName mX4_close.1.cls = true := by decide +kernel
abbrev mX4_closeAside : zz_M := (yX4_closeAside, cX4_closeAside, 2, none, RX4, [])
theorem wYX4_closeAside : mX4_closeAside.2.2.2.2.2 = [] ∧ mX4_closeAside.2.2.1 ≤ 17 ∧ Cond.instanceMethod mX4_closeAside.1 ∈ zz_g ∧ Cond.selects mX4_closeAside.1.cls mX4_closeAside.1 mX4_closeAside.1 ∈ zz_g ∧ Cond.initialized mX4_closeAside.1.cls ∈ zz_g ∧ Cond.code mX4_closeAside.1 mX4_closeAside.2.1 mX4_closeAside.2.2.1 mX4_closeAside.2.2.2.1 ∈ zz_g := ⟨rfl, by decide, zw_i_X4_closeAside, zw_s_X4_closeAside, zw_n_X4, zw_c_X4_closeAside⟩
theorem wDX4_closeAside : (mX4_closeAside.1.cls ≠ "java/lang/invoke/MethodHandle" ∧ mX4_closeAside.1.cls ≠ "java/lang/invoke/VarHandle") ∧ (parseMethodDescriptor mX4_closeAside.1.desc).map (fun d => d.parameters.length) = some 1 := by decide +kernel
theorem wPX4_closeAside : plainName mX4_closeAside.1.cls = true := by decide +kernel
abbrev mX4_cover : zz_M := (yX4_cover, cX4_cover, 5, (some .int), RX4, [])
theorem wYX4_cover : mX4_cover.2.2.2.2.2 = [] ∧ mX4_cover.2.2.1 ≤ 17 ∧ Cond.instanceMethod mX4_cover.1 ∈ zz_g ∧ Cond.selects mX4_cover.1.cls mX4_cover.1 mX4_cover.1 ∈ zz_g ∧ Cond.initialized mX4_cover.1.cls ∈ zz_g ∧ Cond.code mX4_cover.1 mX4_cover.2.1 mX4_cover.2.2.1 mX4_cover.2.2.2.1 ∈ zz_g := ⟨rfl, by decide, zw_i_X4_cover, zw_s_X4_cover, zw_n_X4, zw_c_X4_cover⟩
theorem wDX4_cover : (mX4_cover.1.cls ≠ "java/lang/invoke/MethodHandle" ∧ mX4_cover.1.cls ≠ "java/lang/invoke/VarHandle") ∧ (parseMethodDescriptor mX4_cover.1.desc).map (fun d => d.parameters.length) = some 2 := by decide +kernel
theorem wPX4_cover : plainName mX4_cover.1.cls = true := by decide +kernel
abbrev mX4_has : zz_M := (yX4_has, cX4_has, 5, (some .boolean), RX4, [])
theorem wYX4_has : mX4_has.2.2.2.2.2 = [] ∧ mX4_has.2.2.1 ≤ 17 ∧ Cond.instanceMethod mX4_has.1 ∈ zz_g ∧ Cond.selects mX4_has.1.cls mX4_has.1 mX4_has.1 ∈ zz_g ∧ Cond.initialized mX4_has.1.cls ∈ zz_g ∧ Cond.code mX4_has.1 mX4_has.2.1 mX4_has.2.2.1 mX4_has.2.2.2.1 ∈ zz_g := ⟨rfl, by decide, zw_i_X4_has, zw_s_X4_has, zw_n_X4, zw_c_X4_has⟩
theorem wDX4_has : (mX4_has.1.cls ≠ "java/lang/invoke/MethodHandle" ∧ mX4_has.1.cls ≠ "java/lang/invoke/VarHandle") ∧ (parseMethodDescriptor mX4_has.1.desc).map (fun d => d.parameters.length) = some 3 := by decide +kernel
theorem wPX4_has : plainName mX4_has.1.cls = true := by decide +kernel
abbrev mX4_count : zz_M := (yX4_count, cX4_count, 2, (some .int), RX4, [])
theorem wYX4_count : mX4_count.2.2.2.2.2 = [] ∧ mX4_count.2.2.1 ≤ 17 ∧ Cond.instanceMethod mX4_count.1 ∈ zz_g ∧ Cond.selects mX4_count.1.cls mX4_count.1 mX4_count.1 ∈ zz_g ∧ Cond.initialized mX4_count.1.cls ∈ zz_g ∧ Cond.code mX4_count.1 mX4_count.2.1 mX4_count.2.2.1 mX4_count.2.2.2.1 ∈ zz_g := ⟨rfl, by decide, zw_i_X4_count, zw_s_X4_count, zw_n_X4, zw_c_X4_count⟩
theorem wDX4_count : (mX4_count.1.cls ≠ "java/lang/invoke/MethodHandle" ∧ mX4_count.1.cls ≠ "java/lang/invoke/VarHandle") ∧ (parseMethodDescriptor mX4_count.1.desc).map (fun d => d.parameters.length) = some 1 := by decide +kernel
theorem wPX4_count : plainName mX4_count.1.cls = true := by decide +kernel
abbrev mX4_countOf : zz_M := (yX4_countOf, cX4_countOf, 4, (some .int), RX4, [])
theorem wYX4_countOf : mX4_countOf.2.2.2.2.2 = [] ∧ mX4_countOf.2.2.1 ≤ 17 ∧ Cond.instanceMethod mX4_countOf.1 ∈ zz_g ∧ Cond.selects mX4_countOf.1.cls mX4_countOf.1 mX4_countOf.1 ∈ zz_g ∧ Cond.initialized mX4_countOf.1.cls ∈ zz_g ∧ Cond.code mX4_countOf.1 mX4_countOf.2.1 mX4_countOf.2.2.1 mX4_countOf.2.2.2.1 ∈ zz_g := ⟨rfl, by decide, zw_i_X4_countOf, zw_s_X4_countOf, zw_n_X4, zw_c_X4_countOf⟩
theorem wDX4_countOf : (mX4_countOf.1.cls ≠ "java/lang/invoke/MethodHandle" ∧ mX4_countOf.1.cls ≠ "java/lang/invoke/VarHandle") ∧ (parseMethodDescriptor mX4_countOf.1.desc).map (fun d => d.parameters.length) = some 2 := by decide +kernel
theorem wPX4_countOf : plainName mX4_countOf.1.cls = true := by decide +kernel
abbrev mX4_beside : zz_M := (yX4_beside, cX4_beside, 7, (some .int), RX4, [])
theorem wYX4_beside : mX4_beside.2.2.2.2.2 = [] ∧ mX4_beside.2.2.1 ≤ 17 ∧ Cond.instanceMethod mX4_beside.1 ∈ zz_g ∧ Cond.selects mX4_beside.1.cls mX4_beside.1 mX4_beside.1 ∈ zz_g ∧ Cond.initialized mX4_beside.1.cls ∈ zz_g ∧ Cond.code mX4_beside.1 mX4_beside.2.1 mX4_beside.2.2.1 mX4_beside.2.2.2.1 ∈ zz_g := ⟨rfl, by decide, zw_i_X4_beside, zw_s_X4_beside, zw_n_X4, zw_c_X4_beside⟩
theorem wDX4_beside : (mX4_beside.1.cls ≠ "java/lang/invoke/MethodHandle" ∧ mX4_beside.1.cls ≠ "java/lang/invoke/VarHandle") ∧ (parseMethodDescriptor mX4_beside.1.desc).map (fun d => d.parameters.length) = some 4 := by decide +kernel
theorem wPX4_beside : plainName mX4_beside.1.cls = true := by decide +kernel
abbrev mX4_wordOf : zz_M := (yX4_wordOf, cX4_wordOf, 5, (some .long), RX4, [])
theorem wYX4_wordOf : mX4_wordOf.2.2.2.2.2 = [] ∧ mX4_wordOf.2.2.1 ≤ 17 ∧ Cond.instanceMethod mX4_wordOf.1 ∈ zz_g ∧ Cond.selects mX4_wordOf.1.cls mX4_wordOf.1 mX4_wordOf.1 ∈ zz_g ∧ Cond.initialized mX4_wordOf.1.cls ∈ zz_g ∧ Cond.code mX4_wordOf.1 mX4_wordOf.2.1 mX4_wordOf.2.2.1 mX4_wordOf.2.2.2.1 ∈ zz_g := ⟨rfl, by decide, zw_i_X4_wordOf, zw_s_X4_wordOf, zw_n_X4, zw_c_X4_wordOf⟩
theorem wDX4_wordOf : (mX4_wordOf.1.cls ≠ "java/lang/invoke/MethodHandle" ∧ mX4_wordOf.1.cls ≠ "java/lang/invoke/VarHandle") ∧ (parseMethodDescriptor mX4_wordOf.1.desc).map (fun d => d.parameters.length) = some 3 := by decide +kernel
theorem wPX4_wordOf : plainName mX4_wordOf.1.cls = true := by decide +kernel
abbrev mX4_meet : zz_M := (yX4_meet, cX4_meet, 7, (some .boolean), RX4, [])
theorem wYX4_meet : mX4_meet.2.2.2.2.2 = [] ∧ mX4_meet.2.2.1 ≤ 17 ∧ Cond.instanceMethod mX4_meet.1 ∈ zz_g ∧ Cond.selects mX4_meet.1.cls mX4_meet.1 mX4_meet.1 ∈ zz_g ∧ Cond.initialized mX4_meet.1.cls ∈ zz_g ∧ Cond.code mX4_meet.1 mX4_meet.2.1 mX4_meet.2.2.1 mX4_meet.2.2.2.1 ∈ zz_g := ⟨rfl, by decide, zw_i_X4_meet, zw_s_X4_meet, zw_n_X4, zw_c_X4_meet⟩
theorem wDX4_meet : (mX4_meet.1.cls ≠ "java/lang/invoke/MethodHandle" ∧ mX4_meet.1.cls ≠ "java/lang/invoke/VarHandle") ∧ (parseMethodDescriptor mX4_meet.1.desc).map (fun d => d.parameters.length) = some 4 := by decide +kernel
theorem wPX4_meet : plainName mX4_meet.1.cls = true := by decide +kernel
abbrev mX4_compare : zz_M := (yX4_compare, cX4_compare, 7, (some .int), RX4, [])
theorem wYX4_compare : mX4_compare.2.2.2.2.2 = [] ∧ mX4_compare.2.2.1 ≤ 17 ∧ Cond.instanceMethod mX4_compare.1 ∈ zz_g ∧ Cond.selects mX4_compare.1.cls mX4_compare.1 mX4_compare.1 ∈ zz_g ∧ Cond.initialized mX4_compare.1.cls ∈ zz_g ∧ Cond.code mX4_compare.1 mX4_compare.2.1 mX4_compare.2.2.1 mX4_compare.2.2.2.1 ∈ zz_g := ⟨rfl, by decide, zw_i_X4_compare, zw_s_X4_compare, zw_n_X4, zw_c_X4_compare⟩
theorem wDX4_compare : (mX4_compare.1.cls ≠ "java/lang/invoke/MethodHandle" ∧ mX4_compare.1.cls ≠ "java/lang/invoke/VarHandle") ∧ (parseMethodDescriptor mX4_compare.1.desc).map (fun d => d.parameters.length) = some 2 := by decide +kernel
theorem wPX4_compare : plainName mX4_compare.1.cls = true := by decide +kernel
abbrev mX4_is : zz_M := (yX4_is, cX4_is, 4, (some .boolean), RX4, [])
theorem wYX4_is : mX4_is.2.2.2.2.2 = [] ∧ mX4_is.2.2.1 ≤ 17 ∧ Cond.instanceMethod mX4_is.1 ∈ zz_g ∧ Cond.selects mX4_is.1.cls mX4_is.1 mX4_is.1 ∈ zz_g ∧ Cond.initialized mX4_is.1.cls ∈ zz_g ∧ Cond.code mX4_is.1 mX4_is.2.1 mX4_is.2.2.1 mX4_is.2.2.2.1 ∈ zz_g := ⟨rfl, by decide, zw_i_X4_is, zw_s_X4_is, zw_n_X4, zw_c_X4_is⟩
theorem wDX4_is : (mX4_is.1.cls ≠ "java/lang/invoke/MethodHandle" ∧ mX4_is.1.cls ≠ "java/lang/invoke/VarHandle") ∧ (parseMethodDescriptor mX4_is.1.desc).map (fun d => d.parameters.length) = some 2 := by decide +kernel
theorem wPX4_is : plainName mX4_is.1.cls = true := by decide +kernel
abbrev mX4_steps : zz_M := (yX4_steps, cX4_steps, 5, (some .int), RX4, [])
theorem wYX4_steps : mX4_steps.2.2.2.2.2 = [] ∧ mX4_steps.2.2.1 ≤ 17 ∧ Cond.instanceMethod mX4_steps.1 ∈ zz_g ∧ Cond.selects mX4_steps.1.cls mX4_steps.1 mX4_steps.1 ∈ zz_g ∧ Cond.initialized mX4_steps.1.cls ∈ zz_g ∧ Cond.code mX4_steps.1 mX4_steps.2.1 mX4_steps.2.2.1 mX4_steps.2.2.2.1 ∈ zz_g := ⟨rfl, by decide, zw_i_X4_steps, zw_s_X4_steps, zw_n_X4, zw_c_X4_steps⟩
theorem wDX4_steps : (mX4_steps.1.cls ≠ "java/lang/invoke/MethodHandle" ∧ mX4_steps.1.cls ≠ "java/lang/invoke/VarHandle") ∧ (parseMethodDescriptor mX4_steps.1.desc).map (fun d => d.parameters.length) = some 3 := by decide +kernel
theorem wPX4_steps : plainName mX4_steps.1.cls = true := by decide +kernel
abbrev mX4_classOf : zz_M := (yX4_classOf, cX4_classOf, 4, (some .int), RX4, [])
theorem wYX4_classOf : mX4_classOf.2.2.2.2.2 = [] ∧ mX4_classOf.2.2.1 ≤ 17 ∧ Cond.instanceMethod mX4_classOf.1 ∈ zz_g ∧ Cond.selects mX4_classOf.1.cls mX4_classOf.1 mX4_classOf.1 ∈ zz_g ∧ Cond.initialized mX4_classOf.1.cls ∈ zz_g ∧ Cond.code mX4_classOf.1 mX4_classOf.2.1 mX4_classOf.2.2.1 mX4_classOf.2.2.2.1 ∈ zz_g := ⟨rfl, by decide, zw_i_X4_classOf, zw_s_X4_classOf, zw_n_X4, zw_c_X4_classOf⟩
theorem wDX4_classOf : (mX4_classOf.1.cls ≠ "java/lang/invoke/MethodHandle" ∧ mX4_classOf.1.cls ≠ "java/lang/invoke/VarHandle") ∧ (parseMethodDescriptor mX4_classOf.1.desc).map (fun d => d.parameters.length) = some 2 := by decide +kernel
theorem wPX4_classOf : plainName mX4_classOf.1.cls = true := by decide +kernel
abbrev mX4_classes : zz_M := (yX4_classes, cX4_classes, 3, (some .int), RX4, [])
theorem wYX4_classes : mX4_classes.2.2.2.2.2 = [] ∧ mX4_classes.2.2.1 ≤ 17 ∧ Cond.instanceMethod mX4_classes.1 ∈ zz_g ∧ Cond.selects mX4_classes.1.cls mX4_classes.1 mX4_classes.1 ∈ zz_g ∧ Cond.initialized mX4_classes.1.cls ∈ zz_g ∧ Cond.code mX4_classes.1 mX4_classes.2.1 mX4_classes.2.2.1 mX4_classes.2.2.2.1 ∈ zz_g := ⟨rfl, by decide, zw_i_X4_classes, zw_s_X4_classes, zw_n_X4, zw_c_X4_classes⟩
theorem wDX4_classes : (mX4_classes.1.cls ≠ "java/lang/invoke/MethodHandle" ∧ mX4_classes.1.cls ≠ "java/lang/invoke/VarHandle") ∧ (parseMethodDescriptor mX4_classes.1.desc).map (fun d => d.parameters.length) = some 1 := by decide +kernel
theorem wPX4_classes : plainName mX4_classes.1.cls = true := by decide +kernel
abbrev mX4_hasRing : zz_M := (yX4_hasRing, cX4_hasRing, 2, (some .boolean), RX4, [])
theorem wYX4_hasRing : mX4_hasRing.2.2.2.2.2 = [] ∧ mX4_hasRing.2.2.1 ≤ 17 ∧ Cond.instanceMethod mX4_hasRing.1 ∈ zz_g ∧ Cond.selects mX4_hasRing.1.cls mX4_hasRing.1 mX4_hasRing.1 ∈ zz_g ∧ Cond.initialized mX4_hasRing.1.cls ∈ zz_g ∧ Cond.code mX4_hasRing.1 mX4_hasRing.2.1 mX4_hasRing.2.2.1 mX4_hasRing.2.2.2.1 ∈ zz_g := ⟨rfl, by decide, zw_i_X4_hasRing, zw_s_X4_hasRing, zw_n_X4, zw_c_X4_hasRing⟩
theorem wDX4_hasRing : (mX4_hasRing.1.cls ≠ "java/lang/invoke/MethodHandle" ∧ mX4_hasRing.1.cls ≠ "java/lang/invoke/VarHandle") ∧ (parseMethodDescriptor mX4_hasRing.1.desc).map (fun d => d.parameters.length) = some 1 := by decide +kernel
theorem wPX4_hasRing : plainName mX4_hasRing.1.cls = true := by decide +kernel
abbrev mX4_orderAt : zz_M := (yX4_orderAt, cX4_orderAt, 4, (some .int), RX4, [])
theorem wYX4_orderAt : mX4_orderAt.2.2.2.2.2 = [] ∧ mX4_orderAt.2.2.1 ≤ 17 ∧ Cond.instanceMethod mX4_orderAt.1 ∈ zz_g ∧ Cond.selects mX4_orderAt.1.cls mX4_orderAt.1 mX4_orderAt.1 ∈ zz_g ∧ Cond.initialized mX4_orderAt.1.cls ∈ zz_g ∧ Cond.code mX4_orderAt.1 mX4_orderAt.2.1 mX4_orderAt.2.2.1 mX4_orderAt.2.2.2.1 ∈ zz_g := ⟨rfl, by decide, zw_i_X4_orderAt, zw_s_X4_orderAt, zw_n_X4, zw_c_X4_orderAt⟩
theorem wDX4_orderAt : (mX4_orderAt.1.cls ≠ "java/lang/invoke/MethodHandle" ∧ mX4_orderAt.1.cls ≠ "java/lang/invoke/VarHandle") ∧ (parseMethodDescriptor mX4_orderAt.1.desc).map (fun d => d.parameters.length) = some 2 := by decide +kernel
theorem wPX4_orderAt : plainName mX4_orderAt.1.cls = true := by decide +kernel
abbrev mX4_longestWalk : zz_M := (yX4_longestWalk, cX4_longestWalk, 3, (some .int), RX4, [])
theorem wYX4_longestWalk : mX4_longestWalk.2.2.2.2.2 = [] ∧ mX4_longestWalk.2.2.1 ≤ 17 ∧ Cond.instanceMethod mX4_longestWalk.1 ∈ zz_g ∧ Cond.selects mX4_longestWalk.1.cls mX4_longestWalk.1 mX4_longestWalk.1 ∈ zz_g ∧ Cond.initialized mX4_longestWalk.1.cls ∈ zz_g ∧ Cond.code mX4_longestWalk.1 mX4_longestWalk.2.1 mX4_longestWalk.2.2.1 mX4_longestWalk.2.2.2.1 ∈ zz_g := ⟨rfl, by decide, zw_i_X4_longestWalk, zw_s_X4_longestWalk, zw_n_X4, zw_c_X4_longestWalk⟩
theorem wDX4_longestWalk : (mX4_longestWalk.1.cls ≠ "java/lang/invoke/MethodHandle" ∧ mX4_longestWalk.1.cls ≠ "java/lang/invoke/VarHandle") ∧ (parseMethodDescriptor mX4_longestWalk.1.desc).map (fun d => d.parameters.length) = some 1 := by decide +kernel
theorem wPX4_longestWalk : plainName mX4_longestWalk.1.cls = true := by decide +kernel
abbrev mX4_mark : zz_M := (yX4_mark, cX4_mark, 4, (some .int), RX4, [])
theorem wYX4_mark : mX4_mark.2.2.2.2.2 = [] ∧ mX4_mark.2.2.1 ≤ 17 ∧ Cond.instanceMethod mX4_mark.1 ∈ zz_g ∧ Cond.selects mX4_mark.1.cls mX4_mark.1 mX4_mark.1 ∈ zz_g ∧ Cond.initialized mX4_mark.1.cls ∈ zz_g ∧ Cond.code mX4_mark.1 mX4_mark.2.1 mX4_mark.2.2.1 mX4_mark.2.2.2.1 ∈ zz_g := ⟨rfl, by decide, zw_i_X4_mark, zw_s_X4_mark, zw_n_X4, zw_c_X4_mark⟩
theorem wDX4_mark : (mX4_mark.1.cls ≠ "java/lang/invoke/MethodHandle" ∧ mX4_mark.1.cls ≠ "java/lang/invoke/VarHandle") ∧ (parseMethodDescriptor mX4_mark.1.desc).map (fun d => d.parameters.length) = some 3 := by decide +kernel
theorem wPX4_mark : plainName mX4_mark.1.cls = true := by decide +kernel
abbrev mX4_spread : zz_M := (yX4_spread, cX4_spread, 4, (some .int), RX4, [])
theorem wYX4_spread : mX4_spread.2.2.2.2.2 = [] ∧ mX4_spread.2.2.1 ≤ 17 ∧ Cond.instanceMethod mX4_spread.1 ∈ zz_g ∧ Cond.selects mX4_spread.1.cls mX4_spread.1 mX4_spread.1 ∈ zz_g ∧ Cond.initialized mX4_spread.1.cls ∈ zz_g ∧ Cond.code mX4_spread.1 mX4_spread.2.1 mX4_spread.2.2.1 mX4_spread.2.2.2.1 ∈ zz_g := ⟨rfl, by decide, zw_i_X4_spread, zw_s_X4_spread, zw_n_X4, zw_c_X4_spread⟩
theorem wDX4_spread : (mX4_spread.1.cls ≠ "java/lang/invoke/MethodHandle" ∧ mX4_spread.1.cls ≠ "java/lang/invoke/VarHandle") ∧ (parseMethodDescriptor mX4_spread.1.desc).map (fun d => d.parameters.length) = some 2 := by decide +kernel
theorem wPX4_spread : plainName mX4_spread.1.cls = true := by decide +kernel
abbrev mX4_markedAt : zz_M := (yX4_markedAt, cX4_markedAt, 4, (some .int), RX4, [])
theorem wYX4_markedAt : mX4_markedAt.2.2.2.2.2 = [] ∧ mX4_markedAt.2.2.1 ≤ 17 ∧ Cond.instanceMethod mX4_markedAt.1 ∈ zz_g ∧ Cond.selects mX4_markedAt.1.cls mX4_markedAt.1 mX4_markedAt.1 ∈ zz_g ∧ Cond.initialized mX4_markedAt.1.cls ∈ zz_g ∧ Cond.code mX4_markedAt.1 mX4_markedAt.2.1 mX4_markedAt.2.2.1 mX4_markedAt.2.2.2.1 ∈ zz_g := ⟨rfl, by decide, zw_i_X4_markedAt, zw_s_X4_markedAt, zw_n_X4, zw_c_X4_markedAt⟩
theorem wDX4_markedAt : (mX4_markedAt.1.cls ≠ "java/lang/invoke/MethodHandle" ∧ mX4_markedAt.1.cls ≠ "java/lang/invoke/VarHandle") ∧ (parseMethodDescriptor mX4_markedAt.1.desc).map (fun d => d.parameters.length) = some 1 := by decide +kernel
theorem wPX4_markedAt : plainName mX4_markedAt.1.cls = true := by decide +kernel
abbrev mX4_endOfMarks : zz_M := (yX4_endOfMarks, cX4_endOfMarks, 1, (some .int), RX4, [])
theorem wYX4_endOfMarks : mX4_endOfMarks.2.2.2.2.2 = [] ∧ mX4_endOfMarks.2.2.1 ≤ 17 ∧ Cond.instanceMethod mX4_endOfMarks.1 ∈ zz_g ∧ Cond.selects mX4_endOfMarks.1.cls mX4_endOfMarks.1 mX4_endOfMarks.1 ∈ zz_g ∧ Cond.initialized mX4_endOfMarks.1.cls ∈ zz_g ∧ Cond.code mX4_endOfMarks.1 mX4_endOfMarks.2.1 mX4_endOfMarks.2.2.1 mX4_endOfMarks.2.2.2.1 ∈ zz_g := ⟨rfl, by decide, zw_i_X4_endOfMarks, zw_s_X4_endOfMarks, zw_n_X4, zw_c_X4_endOfMarks⟩
theorem wDX4_endOfMarks : (mX4_endOfMarks.1.cls ≠ "java/lang/invoke/MethodHandle" ∧ mX4_endOfMarks.1.cls ≠ "java/lang/invoke/VarHandle") ∧ (parseMethodDescriptor mX4_endOfMarks.1.desc).map (fun d => d.parameters.length) = some 0 := by decide +kernel
theorem wPX4_endOfMarks : plainName mX4_endOfMarks.1.cls = true := by decide +kernel
abbrev mX4_meanRow : zz_M := (yX4_meanRow, cX4_meanRow, 4, (some .double), RX4, [])
theorem wYX4_meanRow : mX4_meanRow.2.2.2.2.2 = [] ∧ mX4_meanRow.2.2.1 ≤ 17 ∧ Cond.instanceMethod mX4_meanRow.1 ∈ zz_g ∧ Cond.selects mX4_meanRow.1.cls mX4_meanRow.1 mX4_meanRow.1 ∈ zz_g ∧ Cond.initialized mX4_meanRow.1.cls ∈ zz_g ∧ Cond.code mX4_meanRow.1 mX4_meanRow.2.1 mX4_meanRow.2.2.1 mX4_meanRow.2.2.2.1 ∈ zz_g := ⟨rfl, by decide, zw_i_X4_meanRow, zw_s_X4_meanRow, zw_n_X4, zw_c_X4_meanRow⟩
theorem wDX4_meanRow : (mX4_meanRow.1.cls ≠ "java/lang/invoke/MethodHandle" ∧ mX4_meanRow.1.cls ≠ "java/lang/invoke/VarHandle") ∧ (parseMethodDescriptor mX4_meanRow.1.desc).map (fun d => d.parameters.length) = some 1 := by decide +kernel
theorem wPX4_meanRow : plainName mX4_meanRow.1.cls = true := by decide +kernel
abbrev mX4_share : zz_M := (yX4_share, cX4_share, 3, (some .float), RX4, [])
theorem wYX4_share : mX4_share.2.2.2.2.2 = [] ∧ mX4_share.2.2.1 ≤ 17 ∧ Cond.instanceMethod mX4_share.1 ∈ zz_g ∧ Cond.selects mX4_share.1.cls mX4_share.1 mX4_share.1 ∈ zz_g ∧ Cond.initialized mX4_share.1.cls ∈ zz_g ∧ Cond.code mX4_share.1 mX4_share.2.1 mX4_share.2.2.1 mX4_share.2.2.2.1 ∈ zz_g := ⟨rfl, by decide, zw_i_X4_share, zw_s_X4_share, zw_n_X4, zw_c_X4_share⟩
theorem wDX4_share : (mX4_share.1.cls ≠ "java/lang/invoke/MethodHandle" ∧ mX4_share.1.cls ≠ "java/lang/invoke/VarHandle") ∧ (parseMethodDescriptor mX4_share.1.desc).map (fun d => d.parameters.length) = some 1 := by decide +kernel
theorem wPX4_share : plainName mX4_share.1.cls = true := by decide +kernel
abbrev mX4_errors : zz_M := (yX4_errors, cX4_errors, 3, (some .int), RX4, [])
theorem wYX4_errors : mX4_errors.2.2.2.2.2 = [] ∧ mX4_errors.2.2.1 ≤ 17 ∧ Cond.instanceMethod mX4_errors.1 ∈ zz_g ∧ Cond.selects mX4_errors.1.cls mX4_errors.1 mX4_errors.1 ∈ zz_g ∧ Cond.initialized mX4_errors.1.cls ∈ zz_g ∧ Cond.code mX4_errors.1 mX4_errors.2.1 mX4_errors.2.2.1 mX4_errors.2.2.2.1 ∈ zz_g := ⟨rfl, by decide, zw_i_X4_errors, zw_s_X4_errors, zw_n_X4, zw_c_X4_errors⟩
theorem wDX4_errors : (mX4_errors.1.cls ≠ "java/lang/invoke/MethodHandle" ∧ mX4_errors.1.cls ≠ "java/lang/invoke/VarHandle") ∧ (parseMethodDescriptor mX4_errors.1.desc).map (fun d => d.parameters.length) = some 0 := by decide +kernel
theorem wPX4_errors : plainName mX4_errors.1.cls = true := by decide +kernel
abbrev mX5_init : zz_M := (yX5_init, cX5_init, 1, none, RX5, [])
abbrev mX5_thrown : zz_M := (yX5_thrown, cX5_thrown, 1, (some .int), RX5, [])
theorem wYX5_thrown : mX5_thrown.2.2.2.2.2 = [] ∧ mX5_thrown.2.2.1 ≤ 17 ∧ Cond.instanceMethod mX5_thrown.1 ∈ zz_g ∧ Cond.selects mX5_thrown.1.cls mX5_thrown.1 mX5_thrown.1 ∈ zz_g ∧ Cond.initialized mX5_thrown.1.cls ∈ zz_g ∧ Cond.code mX5_thrown.1 mX5_thrown.2.1 mX5_thrown.2.2.1 mX5_thrown.2.2.2.1 ∈ zz_g := ⟨rfl, by decide, zw_i_X5_thrown, zw_s_X5_thrown, zw_n_X5, zw_c_X5_thrown⟩
theorem wDX5_thrown : (mX5_thrown.1.cls ≠ "java/lang/invoke/MethodHandle" ∧ mX5_thrown.1.cls ≠ "java/lang/invoke/VarHandle") ∧ (parseMethodDescriptor mX5_thrown.1.desc).map (fun d => d.parameters.length) = some 0 := by decide +kernel
theorem wPX5_thrown : plainName mX5_thrown.1.cls = true := by decide +kernel
abbrev mX5_in : zz_M := (yX5_in, cX5_in, 3, (some .boolean), RX5, [])
theorem wYX5_in : mX5_in.2.2.2.2.2 = [] ∧ mX5_in.2.2.1 ≤ 17 ∧ Cond.static mX5_in.1 ∈ zz_g ∧ Cond.initialized mX5_in.1.cls ∈ zz_g ∧ Cond.code mX5_in.1 mX5_in.2.1 mX5_in.2.2.1 mX5_in.2.2.2.1 ∈ zz_g := ⟨rfl, by decide, zw_t_X5_in, zw_n_X5, zw_c_X5_in⟩
theorem wDX5_in : (mX5_in.1.cls ≠ "java/lang/invoke/MethodHandle" ∧ mX5_in.1.cls ≠ "java/lang/invoke/VarHandle") ∧ (parseMethodDescriptor mX5_in.1.desc).map (fun d => d.parameters.length) = some 3 := by decide +kernel
theorem wPX5_in : plainName mX5_in.1.cls = true := by decide +kernel
abbrev mX5_isRelation : zz_M := (yX5_isRelation, cX5_isRelation, 1, (some .boolean), RX5, [])
theorem wYX5_isRelation : mX5_isRelation.2.2.2.2.2 = [] ∧ mX5_isRelation.2.2.1 ≤ 17 ∧ Cond.static mX5_isRelation.1 ∈ zz_g ∧ Cond.initialized mX5_isRelation.1.cls ∈ zz_g ∧ Cond.code mX5_isRelation.1 mX5_isRelation.2.1 mX5_isRelation.2.2.1 mX5_isRelation.2.2.2.1 ∈ zz_g := ⟨rfl, by decide, zw_t_X5_isRelation, zw_n_X5, zw_c_X5_isRelation⟩
theorem wDX5_isRelation : (mX5_isRelation.1.cls ≠ "java/lang/invoke/MethodHandle" ∧ mX5_isRelation.1.cls ≠ "java/lang/invoke/VarHandle") ∧ (parseMethodDescriptor mX5_isRelation.1.desc).map (fun d => d.parameters.length) = some 1 := by decide +kernel
theorem wPX5_isRelation : plainName mX5_isRelation.1.cls = true := by decide +kernel
abbrev mX5_isElement : zz_M := (yX5_isElement, cX5_isElement, 2, (some .boolean), RX5, [])
theorem wYX5_isElement : mX5_isElement.2.2.2.2.2 = [] ∧ mX5_isElement.2.2.1 ≤ 17 ∧ Cond.instanceMethod mX5_isElement.1 ∈ zz_g ∧ Cond.selects mX5_isElement.1.cls mX5_isElement.1 mX5_isElement.1 ∈ zz_g ∧ Cond.initialized mX5_isElement.1.cls ∈ zz_g ∧ Cond.code mX5_isElement.1 mX5_isElement.2.1 mX5_isElement.2.2.1 mX5_isElement.2.2.2.1 ∈ zz_g := ⟨rfl, by decide, zw_i_X5_isElement, zw_s_X5_isElement, zw_n_X5, zw_c_X5_isElement⟩
theorem wDX5_isElement : (mX5_isElement.1.cls ≠ "java/lang/invoke/MethodHandle" ∧ mX5_isElement.1.cls ≠ "java/lang/invoke/VarHandle") ∧ (parseMethodDescriptor mX5_isElement.1.desc).map (fun d => d.parameters.length) = some 1 := by decide +kernel
theorem wPX5_isElement : plainName mX5_isElement.1.cls = true := by decide +kernel
abbrev mX5_isRow : zz_M := (yX5_isRow, cX5_isRow, 3, (some .boolean), RX5, [])
theorem wYX5_isRow : mX5_isRow.2.2.2.2.2 = [] ∧ mX5_isRow.2.2.1 ≤ 17 ∧ Cond.instanceMethod mX5_isRow.1 ∈ zz_g ∧ Cond.selects mX5_isRow.1.cls mX5_isRow.1 mX5_isRow.1 ∈ zz_g ∧ Cond.initialized mX5_isRow.1.cls ∈ zz_g ∧ Cond.code mX5_isRow.1 mX5_isRow.2.1 mX5_isRow.2.2.1 mX5_isRow.2.2.2.1 ∈ zz_g := ⟨rfl, by decide, zw_i_X5_isRow, zw_s_X5_isRow, zw_n_X5, zw_c_X5_isRow⟩
theorem wDX5_isRow : (mX5_isRow.1.cls ≠ "java/lang/invoke/MethodHandle" ∧ mX5_isRow.1.cls ≠ "java/lang/invoke/VarHandle") ∧ (parseMethodDescriptor mX5_isRow.1.desc).map (fun d => d.parameters.length) = some 2 := by decide +kernel
theorem wPX5_isRow : plainName mX5_isRow.1.cls = true := by decide +kernel
abbrev mX5_isRange : zz_M := (yX5_isRange, cX5_isRange, 3, (some .boolean), RX5, [])
theorem wYX5_isRange : mX5_isRange.2.2.2.2.2 = [] ∧ mX5_isRange.2.2.1 ≤ 17 ∧ Cond.instanceMethod mX5_isRange.1 ∈ zz_g ∧ Cond.selects mX5_isRange.1.cls mX5_isRange.1 mX5_isRange.1 ∈ zz_g ∧ Cond.initialized mX5_isRange.1.cls ∈ zz_g ∧ Cond.code mX5_isRange.1 mX5_isRange.2.1 mX5_isRange.2.2.1 mX5_isRange.2.2.2.1 ∈ zz_g := ⟨rfl, by decide, zw_i_X5_isRange, zw_s_X5_isRange, zw_n_X5, zw_c_X5_isRange⟩
theorem wDX5_isRange : (mX5_isRange.1.cls ≠ "java/lang/invoke/MethodHandle" ∧ mX5_isRange.1.cls ≠ "java/lang/invoke/VarHandle") ∧ (parseMethodDescriptor mX5_isRange.1.desc).map (fun d => d.parameters.length) = some 2 := by decide +kernel
theorem wPX5_isRange : plainName mX5_isRange.1.cls = true := by decide +kernel
abbrev mX5_refuse : zz_M := (yX5_refuse, cX5_refuse, 2, (some .int), RX5, [])
theorem wYX5_refuse : mX5_refuse.2.2.2.2.2 = [] ∧ mX5_refuse.2.2.1 ≤ 17 ∧ Cond.instanceMethod mX5_refuse.1 ∈ zz_g ∧ Cond.selects mX5_refuse.1.cls mX5_refuse.1 mX5_refuse.1 ∈ zz_g ∧ Cond.initialized mX5_refuse.1.cls ∈ zz_g ∧ Cond.code mX5_refuse.1 mX5_refuse.2.1 mX5_refuse.2.2.1 mX5_refuse.2.2.2.1 ∈ zz_g := ⟨rfl, by decide, zw_i_X5_refuse, zw_s_X5_refuse, zw_n_X5, zw_c_X5_refuse⟩
theorem wDX5_refuse : (mX5_refuse.1.cls ≠ "java/lang/invoke/MethodHandle" ∧ mX5_refuse.1.cls ≠ "java/lang/invoke/VarHandle") ∧ (parseMethodDescriptor mX5_refuse.1.desc).map (fun d => d.parameters.length) = some 1 := by decide +kernel
theorem wPX5_refuse : plainName mX5_refuse.1.cls = true := by decide +kernel
abbrev mX5_told : zz_M := (yX5_told, cX5_told, 2, (some .int), RX5, [])
theorem wYX5_told : mX5_told.2.2.2.2.2 = [] ∧ mX5_told.2.2.1 ≤ 17 ∧ Cond.instanceMethod mX5_told.1 ∈ zz_g ∧ Cond.selects mX5_told.1.cls mX5_told.1 mX5_told.1 ∈ zz_g ∧ Cond.initialized mX5_told.1.cls ∈ zz_g ∧ Cond.code mX5_told.1 mX5_told.2.1 mX5_told.2.2.1 mX5_told.2.2.2.1 ∈ zz_g := ⟨rfl, by decide, zw_i_X5_told, zw_s_X5_told, zw_n_X5, zw_c_X5_told⟩
theorem wDX5_told : (mX5_told.1.cls ≠ "java/lang/invoke/MethodHandle" ∧ mX5_told.1.cls ≠ "java/lang/invoke/VarHandle") ∧ (parseMethodDescriptor mX5_told.1.desc).map (fun d => d.parameters.length) = some 1 := by decide +kernel
theorem wPX5_told : plainName mX5_told.1.cls = true := by decide +kernel
abbrev mX5_says : zz_M := (yX5_says, cX5_says, 2, (some .boolean), RX5, [])
theorem wYX5_says : mX5_says.2.2.2.2.2 = [] ∧ mX5_says.2.2.1 ≤ 17 ∧ Cond.instanceMethod mX5_says.1 ∈ zz_g ∧ Cond.selects mX5_says.1.cls mX5_says.1 mX5_says.1 ∈ zz_g ∧ Cond.initialized mX5_says.1.cls ∈ zz_g ∧ Cond.code mX5_says.1 mX5_says.2.1 mX5_says.2.2.1 mX5_says.2.2.2.1 ∈ zz_g := ⟨rfl, by decide, zw_i_X5_says, zw_s_X5_says, zw_n_X5, zw_c_X5_says⟩
theorem wDX5_says : (mX5_says.1.cls ≠ "java/lang/invoke/MethodHandle" ∧ mX5_says.1.cls ≠ "java/lang/invoke/VarHandle") ∧ (parseMethodDescriptor mX5_says.1.desc).map (fun d => d.parameters.length) = some 1 := by decide +kernel
theorem wPX5_says : plainName mX5_says.1.cls = true := by decide +kernel
abbrev mX5_denies : zz_M := (yX5_denies, cX5_denies, 2, (some .boolean), RX5, [])
theorem wYX5_denies : mX5_denies.2.2.2.2.2 = [] ∧ mX5_denies.2.2.1 ≤ 17 ∧ Cond.instanceMethod mX5_denies.1 ∈ zz_g ∧ Cond.selects mX5_denies.1.cls mX5_denies.1 mX5_denies.1 ∈ zz_g ∧ Cond.initialized mX5_denies.1.cls ∈ zz_g ∧ Cond.code mX5_denies.1 mX5_denies.2.1 mX5_denies.2.2.1 mX5_denies.2.2.2.1 ∈ zz_g := ⟨rfl, by decide, zw_i_X5_denies, zw_s_X5_denies, zw_n_X5, zw_c_X5_denies⟩
theorem wDX5_denies : (mX5_denies.1.cls ≠ "java/lang/invoke/MethodHandle" ∧ mX5_denies.1.cls ≠ "java/lang/invoke/VarHandle") ∧ (parseMethodDescriptor mX5_denies.1.desc).map (fun d => d.parameters.length) = some 1 := by decide +kernel
theorem wPX5_denies : plainName mX5_denies.1.cls = true := by decide +kernel
abbrev mX5_place : zz_M := (yX5_place, cX5_place, 3, (some .int), RX5, [])
theorem wYX5_place : mX5_place.2.2.2.2.2 = [] ∧ mX5_place.2.2.1 ≤ 17 ∧ Cond.static mX5_place.1 ∈ zz_g ∧ Cond.initialized mX5_place.1.cls ∈ zz_g ∧ Cond.code mX5_place.1 mX5_place.2.1 mX5_place.2.2.1 mX5_place.2.2.2.1 ∈ zz_g := ⟨rfl, by decide, zw_t_X5_place, zw_n_X5, zw_c_X5_place⟩
theorem wDX5_place : (mX5_place.1.cls ≠ "java/lang/invoke/MethodHandle" ∧ mX5_place.1.cls ≠ "java/lang/invoke/VarHandle") ∧ (parseMethodDescriptor mX5_place.1.desc).map (fun d => d.parameters.length) = some 3 := by decide +kernel
theorem wPX5_place : plainName mX5_place.1.cls = true := by decide +kernel
abbrev mX5_leads : zz_M := (yX5_leads, cX5_leads, 4, (some .boolean), RX5, [])
theorem wYX5_leads : mX5_leads.2.2.2.2.2 = [] ∧ mX5_leads.2.2.1 ≤ 17 ∧ Cond.instanceMethod mX5_leads.1 ∈ zz_g ∧ Cond.selects mX5_leads.1.cls mX5_leads.1 mX5_leads.1 ∈ zz_g ∧ Cond.initialized mX5_leads.1.cls ∈ zz_g ∧ Cond.code mX5_leads.1 mX5_leads.2.1 mX5_leads.2.2.1 mX5_leads.2.2.2.1 ∈ zz_g := ⟨rfl, by decide, zw_i_X5_leads, zw_s_X5_leads, zw_n_X5, zw_c_X5_leads⟩
theorem wDX5_leads : (mX5_leads.1.cls ≠ "java/lang/invoke/MethodHandle" ∧ mX5_leads.1.cls ≠ "java/lang/invoke/VarHandle") ∧ (parseMethodDescriptor mX5_leads.1.desc).map (fun d => d.parameters.length) = some 3 := by decide +kernel
theorem wPX5_leads : plainName mX5_leads.1.cls = true := by decide +kernel
abbrev mX5_inRow : zz_M := (yX5_inRow, cX5_inRow, 5, (some .int), RX5, [])
theorem wYX5_inRow : mX5_inRow.2.2.2.2.2 = [] ∧ mX5_inRow.2.2.1 ≤ 17 ∧ Cond.instanceMethod mX5_inRow.1 ∈ zz_g ∧ Cond.selects mX5_inRow.1.cls mX5_inRow.1 mX5_inRow.1 ∈ zz_g ∧ Cond.initialized mX5_inRow.1.cls ∈ zz_g ∧ Cond.code mX5_inRow.1 mX5_inRow.2.1 mX5_inRow.2.2.1 mX5_inRow.2.2.2.1 ∈ zz_g := ⟨rfl, by decide, zw_i_X5_inRow, zw_s_X5_inRow, zw_n_X5, zw_c_X5_inRow⟩
theorem wDX5_inRow : (mX5_inRow.1.cls ≠ "java/lang/invoke/MethodHandle" ∧ mX5_inRow.1.cls ≠ "java/lang/invoke/VarHandle") ∧ (parseMethodDescriptor mX5_inRow.1.desc).map (fun d => d.parameters.length) = some 2 := by decide +kernel
theorem wPX5_inRow : plainName mX5_inRow.1.cls = true := by decide +kernel
abbrev mX5_pairs : zz_M := (yX5_pairs, cX5_pairs, 4, (some .int), RX5, [])
theorem wYX5_pairs : mX5_pairs.2.2.2.2.2 = [] ∧ mX5_pairs.2.2.1 ≤ 17 ∧ Cond.instanceMethod mX5_pairs.1 ∈ zz_g ∧ Cond.selects mX5_pairs.1.cls mX5_pairs.1 mX5_pairs.1 ∈ zz_g ∧ Cond.initialized mX5_pairs.1.cls ∈ zz_g ∧ Cond.code mX5_pairs.1 mX5_pairs.2.1 mX5_pairs.2.2.1 mX5_pairs.2.2.2.1 ∈ zz_g := ⟨rfl, by decide, zw_i_X5_pairs, zw_s_X5_pairs, zw_n_X5, zw_c_X5_pairs⟩
theorem wDX5_pairs : (mX5_pairs.1.cls ≠ "java/lang/invoke/MethodHandle" ∧ mX5_pairs.1.cls ≠ "java/lang/invoke/VarHandle") ∧ (parseMethodDescriptor mX5_pairs.1.desc).map (fun d => d.parameters.length) = some 1 := by decide +kernel
theorem wPX5_pairs : plainName mX5_pairs.1.cls = true := by decide +kernel
abbrev mX5_lays : zz_M := (yX5_lays, cX5_lays, 4, (some .int), RX5, [])
theorem wYX5_lays : mX5_lays.2.2.2.2.2 = [] ∧ mX5_lays.2.2.1 ≤ 17 ∧ Cond.instanceMethod mX5_lays.1 ∈ zz_g ∧ Cond.selects mX5_lays.1.cls mX5_lays.1 mX5_lays.1 ∈ zz_g ∧ Cond.initialized mX5_lays.1.cls ∈ zz_g ∧ Cond.code mX5_lays.1 mX5_lays.2.1 mX5_lays.2.2.1 mX5_lays.2.2.2.1 ∈ zz_g := ⟨rfl, by decide, zw_i_X5_lays, zw_s_X5_lays, zw_n_X5, zw_c_X5_lays⟩
theorem wDX5_lays : (mX5_lays.1.cls ≠ "java/lang/invoke/MethodHandle" ∧ mX5_lays.1.cls ≠ "java/lang/invoke/VarHandle") ∧ (parseMethodDescriptor mX5_lays.1.desc).map (fun d => d.parameters.length) = some 1 := by decide +kernel
theorem wPX5_lays : plainName mX5_lays.1.cls = true := by decide +kernel
abbrev mX5_begin : zz_M := (yX5_begin, cX5_begin, 4, (some .int), RX5, [])
theorem wYX5_begin : mX5_begin.2.2.2.2.2 = [] ∧ mX5_begin.2.2.1 ≤ 17 ∧ Cond.instanceMethod mX5_begin.1 ∈ zz_g ∧ Cond.selects mX5_begin.1.cls mX5_begin.1 mX5_begin.1 ∈ zz_g ∧ Cond.initialized mX5_begin.1.cls ∈ zz_g ∧ Cond.code mX5_begin.1 mX5_begin.2.1 mX5_begin.2.2.1 mX5_begin.2.2.2.1 ∈ zz_g := ⟨rfl, by decide, zw_i_X5_begin, zw_s_X5_begin, zw_n_X5, zw_c_X5_begin⟩
theorem wDX5_begin : (mX5_begin.1.cls ≠ "java/lang/invoke/MethodHandle" ∧ mX5_begin.1.cls ≠ "java/lang/invoke/VarHandle") ∧ (parseMethodDescriptor mX5_begin.1.desc).map (fun d => d.parameters.length) = some 1 := by decide +kernel
theorem wPX5_begin : plainName mX5_begin.1.cls = true := by decide +kernel
abbrev mX5_set : zz_M := (yX5_set, cX5_set, 6, (some .boolean), RX5, [])
theorem wYX5_set : mX5_set.2.2.2.2.2 = [] ∧ mX5_set.2.2.1 ≤ 17 ∧ Cond.instanceMethod mX5_set.1 ∈ zz_g ∧ Cond.selects mX5_set.1.cls mX5_set.1 mX5_set.1 ∈ zz_g ∧ Cond.initialized mX5_set.1.cls ∈ zz_g ∧ Cond.code mX5_set.1 mX5_set.2.1 mX5_set.2.2.1 mX5_set.2.2.2.1 ∈ zz_g := ⟨rfl, by decide, zw_i_X5_set, zw_s_X5_set, zw_n_X5, zw_c_X5_set⟩
theorem wDX5_set : (mX5_set.1.cls ≠ "java/lang/invoke/MethodHandle" ∧ mX5_set.1.cls ≠ "java/lang/invoke/VarHandle") ∧ (parseMethodDescriptor mX5_set.1.desc).map (fun d => d.parameters.length) = some 4 := by decide +kernel
theorem wPX5_set : plainName mX5_set.1.cls = true := by decide +kernel
abbrev mX5_setRange : zz_M := (yX5_setRange, cX5_setRange, 7, (some .int), RX5, [])
theorem wYX5_setRange : mX5_setRange.2.2.2.2.2 = [] ∧ mX5_setRange.2.2.1 ≤ 17 ∧ Cond.instanceMethod mX5_setRange.1 ∈ zz_g ∧ Cond.selects mX5_setRange.1.cls mX5_setRange.1 mX5_setRange.1 ∈ zz_g ∧ Cond.initialized mX5_setRange.1.cls ∈ zz_g ∧ Cond.code mX5_setRange.1 mX5_setRange.2.1 mX5_setRange.2.2.1 mX5_setRange.2.2.2.1 ∈ zz_g := ⟨rfl, by decide, zw_i_X5_setRange, zw_s_X5_setRange, zw_n_X5, zw_c_X5_setRange⟩
theorem wDX5_setRange : (mX5_setRange.1.cls ≠ "java/lang/invoke/MethodHandle" ∧ mX5_setRange.1.cls ≠ "java/lang/invoke/VarHandle") ∧ (parseMethodDescriptor mX5_setRange.1.desc).map (fun d => d.parameters.length) = some 5 := by decide +kernel
theorem wPX5_setRange : plainName mX5_setRange.1.cls = true := by decide +kernel
abbrev mX5_flipRange : zz_M := (yX5_flipRange, cX5_flipRange, 6, (some .int), RX5, [])
theorem wYX5_flipRange : mX5_flipRange.2.2.2.2.2 = [] ∧ mX5_flipRange.2.2.1 ≤ 17 ∧ Cond.instanceMethod mX5_flipRange.1 ∈ zz_g ∧ Cond.selects mX5_flipRange.1.cls mX5_flipRange.1 mX5_flipRange.1 ∈ zz_g ∧ Cond.initialized mX5_flipRange.1.cls ∈ zz_g ∧ Cond.code mX5_flipRange.1 mX5_flipRange.2.1 mX5_flipRange.2.2.1 mX5_flipRange.2.2.2.1 ∈ zz_g := ⟨rfl, by decide, zw_i_X5_flipRange, zw_s_X5_flipRange, zw_n_X5, zw_c_X5_flipRange⟩
theorem wDX5_flipRange : (mX5_flipRange.1.cls ≠ "java/lang/invoke/MethodHandle" ∧ mX5_flipRange.1.cls ≠ "java/lang/invoke/VarHandle") ∧ (parseMethodDescriptor mX5_flipRange.1.desc).map (fun d => d.parameters.length) = some 4 := by decide +kernel
theorem wPX5_flipRange : plainName mX5_flipRange.1.cls = true := by decide +kernel
abbrev mX5_setRow : zz_M := (yX5_setRow, cX5_setRow, 6, (some .int), RX5, [])
theorem wYX5_setRow : mX5_setRow.2.2.2.2.2 = [] ∧ mX5_setRow.2.2.1 ≤ 17 ∧ Cond.instanceMethod mX5_setRow.1 ∈ zz_g ∧ Cond.selects mX5_setRow.1.cls mX5_setRow.1 mX5_setRow.1 ∈ zz_g ∧ Cond.initialized mX5_setRow.1.cls ∈ zz_g ∧ Cond.code mX5_setRow.1 mX5_setRow.2.1 mX5_setRow.2.2.1 mX5_setRow.2.2.2.1 ∈ zz_g := ⟨rfl, by decide, zw_i_X5_setRow, zw_s_X5_setRow, zw_n_X5, zw_c_X5_setRow⟩
theorem wDX5_setRow : (mX5_setRow.1.cls ≠ "java/lang/invoke/MethodHandle" ∧ mX5_setRow.1.cls ≠ "java/lang/invoke/VarHandle") ∧ (parseMethodDescriptor mX5_setRow.1.desc).map (fun d => d.parameters.length) = some 3 := by decide +kernel
theorem wPX5_setRow : plainName mX5_setRow.1.cls = true := by decide +kernel
abbrev mX5_chain : zz_M := (yX5_chain, cX5_chain, 3, (some .int), RX5, [])
theorem wYX5_chain : mX5_chain.2.2.2.2.2 = [] ∧ mX5_chain.2.2.1 ≤ 17 ∧ Cond.instanceMethod mX5_chain.1 ∈ zz_g ∧ Cond.selects mX5_chain.1.cls mX5_chain.1 mX5_chain.1 ∈ zz_g ∧ Cond.initialized mX5_chain.1.cls ∈ zz_g ∧ Cond.code mX5_chain.1 mX5_chain.2.1 mX5_chain.2.2.1 mX5_chain.2.2.2.1 ∈ zz_g := ⟨rfl, by decide, zw_i_X5_chain, zw_s_X5_chain, zw_n_X5, zw_c_X5_chain⟩
theorem wDX5_chain : (mX5_chain.1.cls ≠ "java/lang/invoke/MethodHandle" ∧ mX5_chain.1.cls ≠ "java/lang/invoke/VarHandle") ∧ (parseMethodDescriptor mX5_chain.1.desc).map (fun d => d.parameters.length) = some 1 := by decide +kernel
theorem wPX5_chain : plainName mX5_chain.1.cls = true := by decide +kernel
abbrev mX5_draw : zz_M := (yX5_draw, cX5_draw, 7, (some .int), RX5, [])
theorem wYX5_draw : mX5_draw.2.2.2.2.2 = [] ∧ mX5_draw.2.2.1 ≤ 17 ∧ Cond.instanceMethod mX5_draw.1 ∈ zz_g ∧ Cond.selects mX5_draw.1.cls mX5_draw.1 mX5_draw.1 ∈ zz_g ∧ Cond.initialized mX5_draw.1.cls ∈ zz_g ∧ Cond.code mX5_draw.1 mX5_draw.2.1 mX5_draw.2.2.1 mX5_draw.2.2.2.1 ∈ zz_g := ⟨rfl, by decide, zw_i_X5_draw, zw_s_X5_draw, zw_n_X5, zw_c_X5_draw⟩
theorem wDX5_draw : (mX5_draw.1.cls ≠ "java/lang/invoke/MethodHandle" ∧ mX5_draw.1.cls ≠ "java/lang/invoke/VarHandle") ∧ (parseMethodDescriptor mX5_draw.1.desc).map (fun d => d.parameters.length) = some 3 := by decide +kernel
theorem wPX5_draw : plainName mX5_draw.1.cls = true := by decide +kernel
abbrev mX5_copy : zz_M := (yX5_copy, cX5_copy, 4, (some .int), RX5, [])
theorem wYX5_copy : mX5_copy.2.2.2.2.2 = [] ∧ mX5_copy.2.2.1 ≤ 17 ∧ Cond.instanceMethod mX5_copy.1 ∈ zz_g ∧ Cond.selects mX5_copy.1.cls mX5_copy.1 mX5_copy.1 ∈ zz_g ∧ Cond.initialized mX5_copy.1.cls ∈ zz_g ∧ Cond.code mX5_copy.1 mX5_copy.2.1 mX5_copy.2.2.1 mX5_copy.2.2.2.1 ∈ zz_g := ⟨rfl, by decide, zw_i_X5_copy, zw_s_X5_copy, zw_n_X5, zw_c_X5_copy⟩
theorem wDX5_copy : (mX5_copy.1.cls ≠ "java/lang/invoke/MethodHandle" ∧ mX5_copy.1.cls ≠ "java/lang/invoke/VarHandle") ∧ (parseMethodDescriptor mX5_copy.1.desc).map (fun d => d.parameters.length) = some 2 := by decide +kernel
theorem wPX5_copy : plainName mX5_copy.1.cls = true := by decide +kernel
abbrev mX5_combine : zz_M := (yX5_combine, cX5_combine, 7, (some .int), RX5, [])
theorem wYX5_combine : mX5_combine.2.2.2.2.2 = [] ∧ mX5_combine.2.2.1 ≤ 17 ∧ Cond.instanceMethod mX5_combine.1 ∈ zz_g ∧ Cond.selects mX5_combine.1.cls mX5_combine.1 mX5_combine.1 ∈ zz_g ∧ Cond.initialized mX5_combine.1.cls ∈ zz_g ∧ Cond.code mX5_combine.1 mX5_combine.2.1 mX5_combine.2.2.1 mX5_combine.2.2.2.1 ∈ zz_g := ⟨rfl, by decide, zw_i_X5_combine, zw_s_X5_combine, zw_n_X5, zw_c_X5_combine⟩
theorem wDX5_combine : (mX5_combine.1.cls ≠ "java/lang/invoke/MethodHandle" ∧ mX5_combine.1.cls ≠ "java/lang/invoke/VarHandle") ∧ (parseMethodDescriptor mX5_combine.1.desc).map (fun d => d.parameters.length) = some 3 := by decide +kernel
theorem wPX5_combine : plainName mX5_combine.1.cls = true := by decide +kernel
abbrev mX5_composes : zz_M := (yX5_composes, cX5_composes, 7, none, RX5, [])
theorem wYX5_composes : mX5_composes.2.2.2.2.2 = [] ∧ mX5_composes.2.2.1 ≤ 17 ∧ Cond.instanceMethod mX5_composes.1 ∈ zz_g ∧ Cond.selects mX5_composes.1.cls mX5_composes.1 mX5_composes.1 ∈ zz_g ∧ Cond.initialized mX5_composes.1.cls ∈ zz_g ∧ Cond.code mX5_composes.1 mX5_composes.2.1 mX5_composes.2.2.1 mX5_composes.2.2.2.1 ∈ zz_g := ⟨rfl, by decide, zw_i_X5_composes, zw_s_X5_composes, zw_n_X5, zw_c_X5_composes⟩
theorem wDX5_composes : (mX5_composes.1.cls ≠ "java/lang/invoke/MethodHandle" ∧ mX5_composes.1.cls ≠ "java/lang/invoke/VarHandle") ∧ (parseMethodDescriptor mX5_composes.1.desc).map (fun d => d.parameters.length) = some 2 := by decide +kernel
theorem wPX5_composes : plainName mX5_composes.1.cls = true := by decide +kernel
abbrev mX5_compose : zz_M := (yX5_compose, cX5_compose, 4, (some .int), RX5, [])
theorem wYX5_compose : mX5_compose.2.2.2.2.2 = [] ∧ mX5_compose.2.2.1 ≤ 17 ∧ Cond.instanceMethod mX5_compose.1 ∈ zz_g ∧ Cond.selects mX5_compose.1.cls mX5_compose.1 mX5_compose.1 ∈ zz_g ∧ Cond.initialized mX5_compose.1.cls ∈ zz_g ∧ Cond.code mX5_compose.1 mX5_compose.2.1 mX5_compose.2.2.1 mX5_compose.2.2.2.1 ∈ zz_g := ⟨rfl, by decide, zw_i_X5_compose, zw_s_X5_compose, zw_n_X5, zw_c_X5_compose⟩
theorem wDX5_compose : (mX5_compose.1.cls ≠ "java/lang/invoke/MethodHandle" ∧ mX5_compose.1.cls ≠ "java/lang/invoke/VarHandle") ∧ (parseMethodDescriptor mX5_compose.1.desc).map (fun d => d.parameters.length) = some 3 := by decide +kernel
theorem wPX5_compose : plainName mX5_compose.1.cls = true := by decide +kernel
abbrev mX5_turn : zz_M := (yX5_turn, cX5_turn, 4, (some .int), RX5, [])
theorem wYX5_turn : mX5_turn.2.2.2.2.2 = [] ∧ mX5_turn.2.2.1 ≤ 17 ∧ Cond.instanceMethod mX5_turn.1 ∈ zz_g ∧ Cond.selects mX5_turn.1.cls mX5_turn.1 mX5_turn.1 ∈ zz_g ∧ Cond.initialized mX5_turn.1.cls ∈ zz_g ∧ Cond.code mX5_turn.1 mX5_turn.2.1 mX5_turn.2.2.1 mX5_turn.2.2.2.1 ∈ zz_g := ⟨rfl, by decide, zw_i_X5_turn, zw_s_X5_turn, zw_n_X5, zw_c_X5_turn⟩
theorem wDX5_turn : (mX5_turn.1.cls ≠ "java/lang/invoke/MethodHandle" ∧ mX5_turn.1.cls ≠ "java/lang/invoke/VarHandle") ∧ (parseMethodDescriptor mX5_turn.1.desc).map (fun d => d.parameters.length) = some 1 := by decide +kernel
theorem wPX5_turn : plainName mX5_turn.1.cls = true := by decide +kernel
abbrev mX5_oppose : zz_M := (yX5_oppose, cX5_oppose, 4, (some .int), RX5, [])
theorem wYX5_oppose : mX5_oppose.2.2.2.2.2 = [] ∧ mX5_oppose.2.2.1 ≤ 17 ∧ Cond.instanceMethod mX5_oppose.1 ∈ zz_g ∧ Cond.selects mX5_oppose.1.cls mX5_oppose.1 mX5_oppose.1 ∈ zz_g ∧ Cond.initialized mX5_oppose.1.cls ∈ zz_g ∧ Cond.code mX5_oppose.1 mX5_oppose.2.1 mX5_oppose.2.2.1 mX5_oppose.2.2.2.1 ∈ zz_g := ⟨rfl, by decide, zw_i_X5_oppose, zw_s_X5_oppose, zw_n_X5, zw_c_X5_oppose⟩
theorem wDX5_oppose : (mX5_oppose.1.cls ≠ "java/lang/invoke/MethodHandle" ∧ mX5_oppose.1.cls ≠ "java/lang/invoke/VarHandle") ∧ (parseMethodDescriptor mX5_oppose.1.desc).map (fun d => d.parameters.length) = some 1 := by decide +kernel
theorem wPX5_oppose : plainName mX5_oppose.1.cls = true := by decide +kernel
abbrev mX5_walks : zz_M := (yX5_walks, cX5_walks, 7, none, RX5, [])
theorem wYX5_walks : mX5_walks.2.2.2.2.2 = [] ∧ mX5_walks.2.2.1 ≤ 17 ∧ Cond.instanceMethod mX5_walks.1 ∈ zz_g ∧ Cond.selects mX5_walks.1.cls mX5_walks.1 mX5_walks.1 ∈ zz_g ∧ Cond.initialized mX5_walks.1.cls ∈ zz_g ∧ Cond.code mX5_walks.1 mX5_walks.2.1 mX5_walks.2.2.1 mX5_walks.2.2.2.1 ∈ zz_g := ⟨rfl, by decide, zw_i_X5_walks, zw_s_X5_walks, zw_n_X5, zw_c_X5_walks⟩
theorem wDX5_walks : (mX5_walks.1.cls ≠ "java/lang/invoke/MethodHandle" ∧ mX5_walks.1.cls ≠ "java/lang/invoke/VarHandle") ∧ (parseMethodDescriptor mX5_walks.1.desc).map (fun d => d.parameters.length) = some 2 := by decide +kernel
theorem wPX5_walks : plainName mX5_walks.1.cls = true := by decide +kernel
abbrev mX5_closes : zz_M := (yX5_closes, cX5_closes, 4, none, RX5, [])
theorem wYX5_closes : mX5_closes.2.2.2.2.2 = [] ∧ mX5_closes.2.2.1 ≤ 17 ∧ Cond.instanceMethod mX5_closes.1 ∈ zz_g ∧ Cond.selects mX5_closes.1.cls mX5_closes.1 mX5_closes.1 ∈ zz_g ∧ Cond.initialized mX5_closes.1.cls ∈ zz_g ∧ Cond.code mX5_closes.1 mX5_closes.2.1 mX5_closes.2.2.1 mX5_closes.2.2.2.1 ∈ zz_g := ⟨rfl, by decide, zw_i_X5_closes, zw_s_X5_closes, zw_n_X5, zw_c_X5_closes⟩
theorem wDX5_closes : (mX5_closes.1.cls ≠ "java/lang/invoke/MethodHandle" ∧ mX5_closes.1.cls ≠ "java/lang/invoke/VarHandle") ∧ (parseMethodDescriptor mX5_closes.1.desc).map (fun d => d.parameters.length) = some 1 := by decide +kernel
theorem wPX5_closes : plainName mX5_closes.1.cls = true := by decide +kernel
abbrev mX5_close : zz_M := (yX5_close, cX5_close, 4, (some .int), RX5, [])
theorem wYX5_close : mX5_close.2.2.2.2.2 = [] ∧ mX5_close.2.2.1 ≤ 17 ∧ Cond.instanceMethod mX5_close.1 ∈ zz_g ∧ Cond.selects mX5_close.1.cls mX5_close.1 mX5_close.1 ∈ zz_g ∧ Cond.initialized mX5_close.1.cls ∈ zz_g ∧ Cond.code mX5_close.1 mX5_close.2.1 mX5_close.2.2.1 mX5_close.2.2.2.1 ∈ zz_g := ⟨rfl, by decide, zw_i_X5_close, zw_s_X5_close, zw_n_X5, zw_c_X5_close⟩
theorem wDX5_close : (mX5_close.1.cls ≠ "java/lang/invoke/MethodHandle" ∧ mX5_close.1.cls ≠ "java/lang/invoke/VarHandle") ∧ (parseMethodDescriptor mX5_close.1.desc).map (fun d => d.parameters.length) = some 2 := by decide +kernel
theorem wPX5_close : plainName mX5_close.1.cls = true := by decide +kernel
abbrev mX5_isRinged : zz_M := (yX5_isRinged, cX5_isRinged, 4, (some .boolean), RX5, [])
theorem wYX5_isRinged : mX5_isRinged.2.2.2.2.2 = [] ∧ mX5_isRinged.2.2.1 ≤ 17 ∧ Cond.instanceMethod mX5_isRinged.1 ∈ zz_g ∧ Cond.selects mX5_isRinged.1.cls mX5_isRinged.1 mX5_isRinged.1 ∈ zz_g ∧ Cond.initialized mX5_isRinged.1.cls ∈ zz_g ∧ Cond.code mX5_isRinged.1 mX5_isRinged.2.1 mX5_isRinged.2.2.1 mX5_isRinged.2.2.2.1 ∈ zz_g := ⟨rfl, by decide, zw_i_X5_isRinged, zw_s_X5_isRinged, zw_n_X5, zw_c_X5_isRinged⟩
theorem wDX5_isRinged : (mX5_isRinged.1.cls ≠ "java/lang/invoke/MethodHandle" ∧ mX5_isRinged.1.cls ≠ "java/lang/invoke/VarHandle") ∧ (parseMethodDescriptor mX5_isRinged.1.desc).map (fun d => d.parameters.length) = some 1 := by decide +kernel
theorem wPX5_isRinged : plainName mX5_isRinged.1.cls = true := by decide +kernel
abbrev mX5_covers : zz_M := (yX5_covers, cX5_covers, 5, none, RX5, [])
theorem wYX5_covers : mX5_covers.2.2.2.2.2 = [] ∧ mX5_covers.2.2.1 ≤ 17 ∧ Cond.instanceMethod mX5_covers.1 ∈ zz_g ∧ Cond.selects mX5_covers.1.cls mX5_covers.1 mX5_covers.1 ∈ zz_g ∧ Cond.initialized mX5_covers.1.cls ∈ zz_g ∧ Cond.code mX5_covers.1 mX5_covers.2.1 mX5_covers.2.2.1 mX5_covers.2.2.2.1 ∈ zz_g := ⟨rfl, by decide, zw_i_X5_covers, zw_s_X5_covers, zw_n_X5, zw_c_X5_covers⟩
theorem wDX5_covers : (mX5_covers.1.cls ≠ "java/lang/invoke/MethodHandle" ∧ mX5_covers.1.cls ≠ "java/lang/invoke/VarHandle") ∧ (parseMethodDescriptor mX5_covers.1.desc).map (fun d => d.parameters.length) = some 0 := by decide +kernel
theorem wPX5_covers : plainName mX5_covers.1.cls = true := by decide +kernel
abbrev mX5_cover : zz_M := (yX5_cover, cX5_cover, 4, (some .int), RX5, [])
theorem wYX5_cover : mX5_cover.2.2.2.2.2 = [] ∧ mX5_cover.2.2.1 ≤ 17 ∧ Cond.instanceMethod mX5_cover.1 ∈ zz_g ∧ Cond.selects mX5_cover.1.cls mX5_cover.1 mX5_cover.1 ∈ zz_g ∧ Cond.initialized mX5_cover.1.cls ∈ zz_g ∧ Cond.code mX5_cover.1 mX5_cover.2.1 mX5_cover.2.2.1 mX5_cover.2.2.2.1 ∈ zz_g := ⟨rfl, by decide, zw_i_X5_cover, zw_s_X5_cover, zw_n_X5, zw_c_X5_cover⟩
theorem wDX5_cover : (mX5_cover.1.cls ≠ "java/lang/invoke/MethodHandle" ∧ mX5_cover.1.cls ≠ "java/lang/invoke/VarHandle") ∧ (parseMethodDescriptor mX5_cover.1.desc).map (fun d => d.parameters.length) = some 2 := by decide +kernel
theorem wPX5_cover : plainName mX5_cover.1.cls = true := by decide +kernel
abbrev mX5_has : zz_M := (yX5_has, cX5_has, 4, (some .boolean), RX5, [])
theorem wYX5_has : mX5_has.2.2.2.2.2 = [] ∧ mX5_has.2.2.1 ≤ 17 ∧ Cond.instanceMethod mX5_has.1 ∈ zz_g ∧ Cond.selects mX5_has.1.cls mX5_has.1 mX5_has.1 ∈ zz_g ∧ Cond.initialized mX5_has.1.cls ∈ zz_g ∧ Cond.code mX5_has.1 mX5_has.2.1 mX5_has.2.2.1 mX5_has.2.2.2.1 ∈ zz_g := ⟨rfl, by decide, zw_i_X5_has, zw_s_X5_has, zw_n_X5, zw_c_X5_has⟩
theorem wDX5_has : (mX5_has.1.cls ≠ "java/lang/invoke/MethodHandle" ∧ mX5_has.1.cls ≠ "java/lang/invoke/VarHandle") ∧ (parseMethodDescriptor mX5_has.1.desc).map (fun d => d.parameters.length) = some 3 := by decide +kernel
theorem wPX5_has : plainName mX5_has.1.cls = true := by decide +kernel
abbrev mX5_count : zz_M := (yX5_count, cX5_count, 2, (some .int), RX5, [])
theorem wYX5_count : mX5_count.2.2.2.2.2 = [] ∧ mX5_count.2.2.1 ≤ 17 ∧ Cond.instanceMethod mX5_count.1 ∈ zz_g ∧ Cond.selects mX5_count.1.cls mX5_count.1 mX5_count.1 ∈ zz_g ∧ Cond.initialized mX5_count.1.cls ∈ zz_g ∧ Cond.code mX5_count.1 mX5_count.2.1 mX5_count.2.2.1 mX5_count.2.2.2.1 ∈ zz_g := ⟨rfl, by decide, zw_i_X5_count, zw_s_X5_count, zw_n_X5, zw_c_X5_count⟩
theorem wDX5_count : (mX5_count.1.cls ≠ "java/lang/invoke/MethodHandle" ∧ mX5_count.1.cls ≠ "java/lang/invoke/VarHandle") ∧ (parseMethodDescriptor mX5_count.1.desc).map (fun d => d.parameters.length) = some 1 := by decide +kernel
theorem wPX5_count : plainName mX5_count.1.cls = true := by decide +kernel
abbrev mX5_countOf : zz_M := (yX5_countOf, cX5_countOf, 3, (some .int), RX5, [])
theorem wYX5_countOf : mX5_countOf.2.2.2.2.2 = [] ∧ mX5_countOf.2.2.1 ≤ 17 ∧ Cond.instanceMethod mX5_countOf.1 ∈ zz_g ∧ Cond.selects mX5_countOf.1.cls mX5_countOf.1 mX5_countOf.1 ∈ zz_g ∧ Cond.initialized mX5_countOf.1.cls ∈ zz_g ∧ Cond.code mX5_countOf.1 mX5_countOf.2.1 mX5_countOf.2.2.1 mX5_countOf.2.2.2.1 ∈ zz_g := ⟨rfl, by decide, zw_i_X5_countOf, zw_s_X5_countOf, zw_n_X5, zw_c_X5_countOf⟩
theorem wDX5_countOf : (mX5_countOf.1.cls ≠ "java/lang/invoke/MethodHandle" ∧ mX5_countOf.1.cls ≠ "java/lang/invoke/VarHandle") ∧ (parseMethodDescriptor mX5_countOf.1.desc).map (fun d => d.parameters.length) = some 2 := by decide +kernel
theorem wPX5_countOf : plainName mX5_countOf.1.cls = true := by decide +kernel
abbrev mX5_beside : zz_M := (yX5_beside, cX5_beside, 7, (some .int), RX5, [])
theorem wYX5_beside : mX5_beside.2.2.2.2.2 = [] ∧ mX5_beside.2.2.1 ≤ 17 ∧ Cond.instanceMethod mX5_beside.1 ∈ zz_g ∧ Cond.selects mX5_beside.1.cls mX5_beside.1 mX5_beside.1 ∈ zz_g ∧ Cond.initialized mX5_beside.1.cls ∈ zz_g ∧ Cond.code mX5_beside.1 mX5_beside.2.1 mX5_beside.2.2.1 mX5_beside.2.2.2.1 ∈ zz_g := ⟨rfl, by decide, zw_i_X5_beside, zw_s_X5_beside, zw_n_X5, zw_c_X5_beside⟩
theorem wDX5_beside : (mX5_beside.1.cls ≠ "java/lang/invoke/MethodHandle" ∧ mX5_beside.1.cls ≠ "java/lang/invoke/VarHandle") ∧ (parseMethodDescriptor mX5_beside.1.desc).map (fun d => d.parameters.length) = some 4 := by decide +kernel
theorem wPX5_beside : plainName mX5_beside.1.cls = true := by decide +kernel
abbrev mX5_wordOf : zz_M := (yX5_wordOf, cX5_wordOf, 8, (some .long), RX5, [])
theorem wYX5_wordOf : mX5_wordOf.2.2.2.2.2 = [] ∧ mX5_wordOf.2.2.1 ≤ 17 ∧ Cond.instanceMethod mX5_wordOf.1 ∈ zz_g ∧ Cond.selects mX5_wordOf.1.cls mX5_wordOf.1 mX5_wordOf.1 ∈ zz_g ∧ Cond.initialized mX5_wordOf.1.cls ∈ zz_g ∧ Cond.code mX5_wordOf.1 mX5_wordOf.2.1 mX5_wordOf.2.2.1 mX5_wordOf.2.2.2.1 ∈ zz_g := ⟨rfl, by decide, zw_i_X5_wordOf, zw_s_X5_wordOf, zw_n_X5, zw_c_X5_wordOf⟩
theorem wDX5_wordOf : (mX5_wordOf.1.cls ≠ "java/lang/invoke/MethodHandle" ∧ mX5_wordOf.1.cls ≠ "java/lang/invoke/VarHandle") ∧ (parseMethodDescriptor mX5_wordOf.1.desc).map (fun d => d.parameters.length) = some 3 := by decide +kernel
theorem wPX5_wordOf : plainName mX5_wordOf.1.cls = true := by decide +kernel
abbrev mX5_meet : zz_M := (yX5_meet, cX5_meet, 7, (some .boolean), RX5, [])
theorem wYX5_meet : mX5_meet.2.2.2.2.2 = [] ∧ mX5_meet.2.2.1 ≤ 17 ∧ Cond.instanceMethod mX5_meet.1 ∈ zz_g ∧ Cond.selects mX5_meet.1.cls mX5_meet.1 mX5_meet.1 ∈ zz_g ∧ Cond.initialized mX5_meet.1.cls ∈ zz_g ∧ Cond.code mX5_meet.1 mX5_meet.2.1 mX5_meet.2.2.1 mX5_meet.2.2.2.1 ∈ zz_g := ⟨rfl, by decide, zw_i_X5_meet, zw_s_X5_meet, zw_n_X5, zw_c_X5_meet⟩
theorem wDX5_meet : (mX5_meet.1.cls ≠ "java/lang/invoke/MethodHandle" ∧ mX5_meet.1.cls ≠ "java/lang/invoke/VarHandle") ∧ (parseMethodDescriptor mX5_meet.1.desc).map (fun d => d.parameters.length) = some 4 := by decide +kernel
theorem wPX5_meet : plainName mX5_meet.1.cls = true := by decide +kernel
abbrev mX5_compare : zz_M := (yX5_compare, cX5_compare, 6, (some .int), RX5, [])
theorem wYX5_compare : mX5_compare.2.2.2.2.2 = [] ∧ mX5_compare.2.2.1 ≤ 17 ∧ Cond.instanceMethod mX5_compare.1 ∈ zz_g ∧ Cond.selects mX5_compare.1.cls mX5_compare.1 mX5_compare.1 ∈ zz_g ∧ Cond.initialized mX5_compare.1.cls ∈ zz_g ∧ Cond.code mX5_compare.1 mX5_compare.2.1 mX5_compare.2.2.1 mX5_compare.2.2.2.1 ∈ zz_g := ⟨rfl, by decide, zw_i_X5_compare, zw_s_X5_compare, zw_n_X5, zw_c_X5_compare⟩
theorem wDX5_compare : (mX5_compare.1.cls ≠ "java/lang/invoke/MethodHandle" ∧ mX5_compare.1.cls ≠ "java/lang/invoke/VarHandle") ∧ (parseMethodDescriptor mX5_compare.1.desc).map (fun d => d.parameters.length) = some 2 := by decide +kernel
theorem wPX5_compare : plainName mX5_compare.1.cls = true := by decide +kernel
abbrev mX5_keeps : zz_M := (yX5_keeps, cX5_keeps, 7, (some .boolean), RX5, [])
theorem wYX5_keeps : mX5_keeps.2.2.2.2.2 = [] ∧ mX5_keeps.2.2.1 ≤ 17 ∧ Cond.instanceMethod mX5_keeps.1 ∈ zz_g ∧ Cond.selects mX5_keeps.1.cls mX5_keeps.1 mX5_keeps.1 ∈ zz_g ∧ Cond.initialized mX5_keeps.1.cls ∈ zz_g ∧ Cond.code mX5_keeps.1 mX5_keeps.2.1 mX5_keeps.2.2.1 mX5_keeps.2.2.2.1 ∈ zz_g := ⟨rfl, by decide, zw_i_X5_keeps, zw_s_X5_keeps, zw_n_X5, zw_c_X5_keeps⟩
theorem wDX5_keeps : (mX5_keeps.1.cls ≠ "java/lang/invoke/MethodHandle" ∧ mX5_keeps.1.cls ≠ "java/lang/invoke/VarHandle") ∧ (parseMethodDescriptor mX5_keeps.1.desc).map (fun d => d.parameters.length) = some 4 := by decide +kernel
theorem wPX5_keeps : plainName mX5_keeps.1.cls = true := by decide +kernel
abbrev mX5_is : zz_M := (yX5_is, cX5_is, 6, (some .boolean), RX5, [])
theorem wYX5_is : mX5_is.2.2.2.2.2 = [] ∧ mX5_is.2.2.1 ≤ 17 ∧ Cond.instanceMethod mX5_is.1 ∈ zz_g ∧ Cond.selects mX5_is.1.cls mX5_is.1 mX5_is.1 ∈ zz_g ∧ Cond.initialized mX5_is.1.cls ∈ zz_g ∧ Cond.code mX5_is.1 mX5_is.2.1 mX5_is.2.2.1 mX5_is.2.2.2.1 ∈ zz_g := ⟨rfl, by decide, zw_i_X5_is, zw_s_X5_is, zw_n_X5, zw_c_X5_is⟩
theorem wDX5_is : (mX5_is.1.cls ≠ "java/lang/invoke/MethodHandle" ∧ mX5_is.1.cls ≠ "java/lang/invoke/VarHandle") ∧ (parseMethodDescriptor mX5_is.1.desc).map (fun d => d.parameters.length) = some 2 := by decide +kernel
theorem wPX5_is : plainName mX5_is.1.cls = true := by decide +kernel
abbrev mX5_steps : zz_M := (yX5_steps, cX5_steps, 4, (some .int), RX5, [])
theorem wYX5_steps : mX5_steps.2.2.2.2.2 = [] ∧ mX5_steps.2.2.1 ≤ 17 ∧ Cond.instanceMethod mX5_steps.1 ∈ zz_g ∧ Cond.selects mX5_steps.1.cls mX5_steps.1 mX5_steps.1 ∈ zz_g ∧ Cond.initialized mX5_steps.1.cls ∈ zz_g ∧ Cond.code mX5_steps.1 mX5_steps.2.1 mX5_steps.2.2.1 mX5_steps.2.2.2.1 ∈ zz_g := ⟨rfl, by decide, zw_i_X5_steps, zw_s_X5_steps, zw_n_X5, zw_c_X5_steps⟩
theorem wDX5_steps : (mX5_steps.1.cls ≠ "java/lang/invoke/MethodHandle" ∧ mX5_steps.1.cls ≠ "java/lang/invoke/VarHandle") ∧ (parseMethodDescriptor mX5_steps.1.desc).map (fun d => d.parameters.length) = some 3 := by decide +kernel
theorem wPX5_steps : plainName mX5_steps.1.cls = true := by decide +kernel
abbrev mX5_leastOf : zz_M := (yX5_leastOf, cX5_leastOf, 3, (some .int), RX5, [])
theorem wYX5_leastOf : mX5_leastOf.2.2.2.2.2 = [] ∧ mX5_leastOf.2.2.1 ≤ 17 ∧ Cond.instanceMethod mX5_leastOf.1 ∈ zz_g ∧ Cond.selects mX5_leastOf.1.cls mX5_leastOf.1 mX5_leastOf.1 ∈ zz_g ∧ Cond.initialized mX5_leastOf.1.cls ∈ zz_g ∧ Cond.code mX5_leastOf.1 mX5_leastOf.2.1 mX5_leastOf.2.2.1 mX5_leastOf.2.2.2.1 ∈ zz_g := ⟨rfl, by decide, zw_i_X5_leastOf, zw_s_X5_leastOf, zw_n_X5, zw_c_X5_leastOf⟩
theorem wDX5_leastOf : (mX5_leastOf.1.cls ≠ "java/lang/invoke/MethodHandle" ∧ mX5_leastOf.1.cls ≠ "java/lang/invoke/VarHandle") ∧ (parseMethodDescriptor mX5_leastOf.1.desc).map (fun d => d.parameters.length) = some 1 := by decide +kernel
theorem wPX5_leastOf : plainName mX5_leastOf.1.cls = true := by decide +kernel
abbrev mX5_classOf : zz_M := (yX5_classOf, cX5_classOf, 3, (some .int), RX5, [])
theorem wYX5_classOf : mX5_classOf.2.2.2.2.2 = [] ∧ mX5_classOf.2.2.1 ≤ 17 ∧ Cond.instanceMethod mX5_classOf.1 ∈ zz_g ∧ Cond.selects mX5_classOf.1.cls mX5_classOf.1 mX5_classOf.1 ∈ zz_g ∧ Cond.initialized mX5_classOf.1.cls ∈ zz_g ∧ Cond.code mX5_classOf.1 mX5_classOf.2.1 mX5_classOf.2.2.1 mX5_classOf.2.2.2.1 ∈ zz_g := ⟨rfl, by decide, zw_i_X5_classOf, zw_s_X5_classOf, zw_n_X5, zw_c_X5_classOf⟩
theorem wDX5_classOf : (mX5_classOf.1.cls ≠ "java/lang/invoke/MethodHandle" ∧ mX5_classOf.1.cls ≠ "java/lang/invoke/VarHandle") ∧ (parseMethodDescriptor mX5_classOf.1.desc).map (fun d => d.parameters.length) = some 2 := by decide +kernel
theorem wPX5_classOf : plainName mX5_classOf.1.cls = true := by decide +kernel
abbrev mX5_classes : zz_M := (yX5_classes, cX5_classes, 4, (some .int), RX5, [])
theorem wYX5_classes : mX5_classes.2.2.2.2.2 = [] ∧ mX5_classes.2.2.1 ≤ 17 ∧ Cond.instanceMethod mX5_classes.1 ∈ zz_g ∧ Cond.selects mX5_classes.1.cls mX5_classes.1 mX5_classes.1 ∈ zz_g ∧ Cond.initialized mX5_classes.1.cls ∈ zz_g ∧ Cond.code mX5_classes.1 mX5_classes.2.1 mX5_classes.2.2.1 mX5_classes.2.2.2.1 ∈ zz_g := ⟨rfl, by decide, zw_i_X5_classes, zw_s_X5_classes, zw_n_X5, zw_c_X5_classes⟩
theorem wDX5_classes : (mX5_classes.1.cls ≠ "java/lang/invoke/MethodHandle" ∧ mX5_classes.1.cls ≠ "java/lang/invoke/VarHandle") ∧ (parseMethodDescriptor mX5_classes.1.desc).map (fun d => d.parameters.length) = some 1 := by decide +kernel
theorem wPX5_classes : plainName mX5_classes.1.cls = true := by decide +kernel
abbrev mX5_hasRing : zz_M := (yX5_hasRing, cX5_hasRing, 2, (some .boolean), RX5, [])
theorem wYX5_hasRing : mX5_hasRing.2.2.2.2.2 = [] ∧ mX5_hasRing.2.2.1 ≤ 17 ∧ Cond.instanceMethod mX5_hasRing.1 ∈ zz_g ∧ Cond.selects mX5_hasRing.1.cls mX5_hasRing.1 mX5_hasRing.1 ∈ zz_g ∧ Cond.initialized mX5_hasRing.1.cls ∈ zz_g ∧ Cond.code mX5_hasRing.1 mX5_hasRing.2.1 mX5_hasRing.2.2.1 mX5_hasRing.2.2.2.1 ∈ zz_g := ⟨rfl, by decide, zw_i_X5_hasRing, zw_s_X5_hasRing, zw_n_X5, zw_c_X5_hasRing⟩
theorem wDX5_hasRing : (mX5_hasRing.1.cls ≠ "java/lang/invoke/MethodHandle" ∧ mX5_hasRing.1.cls ≠ "java/lang/invoke/VarHandle") ∧ (parseMethodDescriptor mX5_hasRing.1.desc).map (fun d => d.parameters.length) = some 1 := by decide +kernel
theorem wPX5_hasRing : plainName mX5_hasRing.1.cls = true := by decide +kernel
abbrev mX5_isFree : zz_M := (yX5_isFree, cX5_isFree, 5, (some .boolean), RX5, [])
theorem wYX5_isFree : mX5_isFree.2.2.2.2.2 = [] ∧ mX5_isFree.2.2.1 ≤ 17 ∧ Cond.instanceMethod mX5_isFree.1 ∈ zz_g ∧ Cond.selects mX5_isFree.1.cls mX5_isFree.1 mX5_isFree.1 ∈ zz_g ∧ Cond.initialized mX5_isFree.1.cls ∈ zz_g ∧ Cond.code mX5_isFree.1 mX5_isFree.2.1 mX5_isFree.2.2.1 mX5_isFree.2.2.2.1 ∈ zz_g := ⟨rfl, by decide, zw_i_X5_isFree, zw_s_X5_isFree, zw_n_X5, zw_c_X5_isFree⟩
theorem wDX5_isFree : (mX5_isFree.1.cls ≠ "java/lang/invoke/MethodHandle" ∧ mX5_isFree.1.cls ≠ "java/lang/invoke/VarHandle") ∧ (parseMethodDescriptor mX5_isFree.1.desc).map (fun d => d.parameters.length) = some 2 := by decide +kernel
theorem wPX5_isFree : plainName mX5_isFree.1.cls = true := by decide +kernel
abbrev mX5_orders : zz_M := (yX5_orders, cX5_orders, 4, (some .int), RX5, [])
theorem wYX5_orders : mX5_orders.2.2.2.2.2 = [] ∧ mX5_orders.2.2.1 ≤ 17 ∧ Cond.instanceMethod mX5_orders.1 ∈ zz_g ∧ Cond.selects mX5_orders.1.cls mX5_orders.1 mX5_orders.1 ∈ zz_g ∧ Cond.initialized mX5_orders.1.cls ∈ zz_g ∧ Cond.code mX5_orders.1 mX5_orders.2.1 mX5_orders.2.2.1 mX5_orders.2.2.2.1 ∈ zz_g := ⟨rfl, by decide, zw_i_X5_orders, zw_s_X5_orders, zw_n_X5, zw_c_X5_orders⟩
theorem wDX5_orders : (mX5_orders.1.cls ≠ "java/lang/invoke/MethodHandle" ∧ mX5_orders.1.cls ≠ "java/lang/invoke/VarHandle") ∧ (parseMethodDescriptor mX5_orders.1.desc).map (fun d => d.parameters.length) = some 1 := by decide +kernel
theorem wPX5_orders : plainName mX5_orders.1.cls = true := by decide +kernel
abbrev mX5_orderAt : zz_M := (yX5_orderAt, cX5_orderAt, 3, (some .int), RX5, [])
theorem wYX5_orderAt : mX5_orderAt.2.2.2.2.2 = [] ∧ mX5_orderAt.2.2.1 ≤ 17 ∧ Cond.instanceMethod mX5_orderAt.1 ∈ zz_g ∧ Cond.selects mX5_orderAt.1.cls mX5_orderAt.1 mX5_orderAt.1 ∈ zz_g ∧ Cond.initialized mX5_orderAt.1.cls ∈ zz_g ∧ Cond.code mX5_orderAt.1 mX5_orderAt.2.1 mX5_orderAt.2.2.1 mX5_orderAt.2.2.2.1 ∈ zz_g := ⟨rfl, by decide, zw_i_X5_orderAt, zw_s_X5_orderAt, zw_n_X5, zw_c_X5_orderAt⟩
theorem wDX5_orderAt : (mX5_orderAt.1.cls ≠ "java/lang/invoke/MethodHandle" ∧ mX5_orderAt.1.cls ≠ "java/lang/invoke/VarHandle") ∧ (parseMethodDescriptor mX5_orderAt.1.desc).map (fun d => d.parameters.length) = some 2 := by decide +kernel
theorem wPX5_orderAt : plainName mX5_orderAt.1.cls = true := by decide +kernel
abbrev mX5_longestWalk : zz_M := (yX5_longestWalk, cX5_longestWalk, 7, (some .int), RX5, [])
theorem wYX5_longestWalk : mX5_longestWalk.2.2.2.2.2 = [] ∧ mX5_longestWalk.2.2.1 ≤ 17 ∧ Cond.instanceMethod mX5_longestWalk.1 ∈ zz_g ∧ Cond.selects mX5_longestWalk.1.cls mX5_longestWalk.1 mX5_longestWalk.1 ∈ zz_g ∧ Cond.initialized mX5_longestWalk.1.cls ∈ zz_g ∧ Cond.code mX5_longestWalk.1 mX5_longestWalk.2.1 mX5_longestWalk.2.2.1 mX5_longestWalk.2.2.2.1 ∈ zz_g := ⟨rfl, by decide, zw_i_X5_longestWalk, zw_s_X5_longestWalk, zw_n_X5, zw_c_X5_longestWalk⟩
theorem wDX5_longestWalk : (mX5_longestWalk.1.cls ≠ "java/lang/invoke/MethodHandle" ∧ mX5_longestWalk.1.cls ≠ "java/lang/invoke/VarHandle") ∧ (parseMethodDescriptor mX5_longestWalk.1.desc).map (fun d => d.parameters.length) = some 1 := by decide +kernel
theorem wPX5_longestWalk : plainName mX5_longestWalk.1.cls = true := by decide +kernel
abbrev mX5_marks : zz_M := (yX5_marks, cX5_marks, 3, (some .int), RX5, [])
theorem wYX5_marks : mX5_marks.2.2.2.2.2 = [] ∧ mX5_marks.2.2.1 ≤ 17 ∧ Cond.instanceMethod mX5_marks.1 ∈ zz_g ∧ Cond.selects mX5_marks.1.cls mX5_marks.1 mX5_marks.1 ∈ zz_g ∧ Cond.initialized mX5_marks.1.cls ∈ zz_g ∧ Cond.code mX5_marks.1 mX5_marks.2.1 mX5_marks.2.2.1 mX5_marks.2.2.2.1 ∈ zz_g := ⟨rfl, by decide, zw_i_X5_marks, zw_s_X5_marks, zw_n_X5, zw_c_X5_marks⟩
theorem wDX5_marks : (mX5_marks.1.cls ≠ "java/lang/invoke/MethodHandle" ∧ mX5_marks.1.cls ≠ "java/lang/invoke/VarHandle") ∧ (parseMethodDescriptor mX5_marks.1.desc).map (fun d => d.parameters.length) = some 0 := by decide +kernel
theorem wPX5_marks : plainName mX5_marks.1.cls = true := by decide +kernel
abbrev mX5_mark : zz_M := (yX5_mark, cX5_mark, 5, (some .int), RX5, [])
theorem wYX5_mark : mX5_mark.2.2.2.2.2 = [] ∧ mX5_mark.2.2.1 ≤ 17 ∧ Cond.instanceMethod mX5_mark.1 ∈ zz_g ∧ Cond.selects mX5_mark.1.cls mX5_mark.1 mX5_mark.1 ∈ zz_g ∧ Cond.initialized mX5_mark.1.cls ∈ zz_g ∧ Cond.code mX5_mark.1 mX5_mark.2.1 mX5_mark.2.2.1 mX5_mark.2.2.2.1 ∈ zz_g := ⟨rfl, by decide, zw_i_X5_mark, zw_s_X5_mark, zw_n_X5, zw_c_X5_mark⟩
theorem wDX5_mark : (mX5_mark.1.cls ≠ "java/lang/invoke/MethodHandle" ∧ mX5_mark.1.cls ≠ "java/lang/invoke/VarHandle") ∧ (parseMethodDescriptor mX5_mark.1.desc).map (fun d => d.parameters.length) = some 3 := by decide +kernel
theorem wPX5_mark : plainName mX5_mark.1.cls = true := by decide +kernel
abbrev mX5_spread : zz_M := (yX5_spread, cX5_spread, 6, (some .int), RX5, [])
theorem wYX5_spread : mX5_spread.2.2.2.2.2 = [] ∧ mX5_spread.2.2.1 ≤ 17 ∧ Cond.instanceMethod mX5_spread.1 ∈ zz_g ∧ Cond.selects mX5_spread.1.cls mX5_spread.1 mX5_spread.1 ∈ zz_g ∧ Cond.initialized mX5_spread.1.cls ∈ zz_g ∧ Cond.code mX5_spread.1 mX5_spread.2.1 mX5_spread.2.2.1 mX5_spread.2.2.2.1 ∈ zz_g := ⟨rfl, by decide, zw_i_X5_spread, zw_s_X5_spread, zw_n_X5, zw_c_X5_spread⟩
theorem wDX5_spread : (mX5_spread.1.cls ≠ "java/lang/invoke/MethodHandle" ∧ mX5_spread.1.cls ≠ "java/lang/invoke/VarHandle") ∧ (parseMethodDescriptor mX5_spread.1.desc).map (fun d => d.parameters.length) = some 2 := by decide +kernel
theorem wPX5_spread : plainName mX5_spread.1.cls = true := by decide +kernel
abbrev mX5_markedAt : zz_M := (yX5_markedAt, cX5_markedAt, 4, (some .int), RX5, [])
theorem wYX5_markedAt : mX5_markedAt.2.2.2.2.2 = [] ∧ mX5_markedAt.2.2.1 ≤ 17 ∧ Cond.instanceMethod mX5_markedAt.1 ∈ zz_g ∧ Cond.selects mX5_markedAt.1.cls mX5_markedAt.1 mX5_markedAt.1 ∈ zz_g ∧ Cond.initialized mX5_markedAt.1.cls ∈ zz_g ∧ Cond.code mX5_markedAt.1 mX5_markedAt.2.1 mX5_markedAt.2.2.1 mX5_markedAt.2.2.2.1 ∈ zz_g := ⟨rfl, by decide, zw_i_X5_markedAt, zw_s_X5_markedAt, zw_n_X5, zw_c_X5_markedAt⟩
theorem wDX5_markedAt : (mX5_markedAt.1.cls ≠ "java/lang/invoke/MethodHandle" ∧ mX5_markedAt.1.cls ≠ "java/lang/invoke/VarHandle") ∧ (parseMethodDescriptor mX5_markedAt.1.desc).map (fun d => d.parameters.length) = some 1 := by decide +kernel
theorem wPX5_markedAt : plainName mX5_markedAt.1.cls = true := by decide +kernel
abbrev mX5_endOfMarks : zz_M := (yX5_endOfMarks, cX5_endOfMarks, 3, (some .int), RX5, [])
theorem wYX5_endOfMarks : mX5_endOfMarks.2.2.2.2.2 = [] ∧ mX5_endOfMarks.2.2.1 ≤ 17 ∧ Cond.instanceMethod mX5_endOfMarks.1 ∈ zz_g ∧ Cond.selects mX5_endOfMarks.1.cls mX5_endOfMarks.1 mX5_endOfMarks.1 ∈ zz_g ∧ Cond.initialized mX5_endOfMarks.1.cls ∈ zz_g ∧ Cond.code mX5_endOfMarks.1 mX5_endOfMarks.2.1 mX5_endOfMarks.2.2.1 mX5_endOfMarks.2.2.2.1 ∈ zz_g := ⟨rfl, by decide, zw_i_X5_endOfMarks, zw_s_X5_endOfMarks, zw_n_X5, zw_c_X5_endOfMarks⟩
theorem wDX5_endOfMarks : (mX5_endOfMarks.1.cls ≠ "java/lang/invoke/MethodHandle" ∧ mX5_endOfMarks.1.cls ≠ "java/lang/invoke/VarHandle") ∧ (parseMethodDescriptor mX5_endOfMarks.1.desc).map (fun d => d.parameters.length) = some 0 := by decide +kernel
theorem wPX5_endOfMarks : plainName mX5_endOfMarks.1.cls = true := by decide +kernel
abbrev mX5_meanRow : zz_M := (yX5_meanRow, cX5_meanRow, 2, (some .double), RX5, [])
theorem wYX5_meanRow : mX5_meanRow.2.2.2.2.2 = [] ∧ mX5_meanRow.2.2.1 ≤ 17 ∧ Cond.instanceMethod mX5_meanRow.1 ∈ zz_g ∧ Cond.selects mX5_meanRow.1.cls mX5_meanRow.1 mX5_meanRow.1 ∈ zz_g ∧ Cond.initialized mX5_meanRow.1.cls ∈ zz_g ∧ Cond.code mX5_meanRow.1 mX5_meanRow.2.1 mX5_meanRow.2.2.1 mX5_meanRow.2.2.2.1 ∈ zz_g := ⟨rfl, by decide, zw_i_X5_meanRow, zw_s_X5_meanRow, zw_n_X5, zw_c_X5_meanRow⟩
theorem wDX5_meanRow : (mX5_meanRow.1.cls ≠ "java/lang/invoke/MethodHandle" ∧ mX5_meanRow.1.cls ≠ "java/lang/invoke/VarHandle") ∧ (parseMethodDescriptor mX5_meanRow.1.desc).map (fun d => d.parameters.length) = some 1 := by decide +kernel
theorem wPX5_meanRow : plainName mX5_meanRow.1.cls = true := by decide +kernel
abbrev mX5_share : zz_M := (yX5_share, cX5_share, 2, (some .float), RX5, [])
theorem wYX5_share : mX5_share.2.2.2.2.2 = [] ∧ mX5_share.2.2.1 ≤ 17 ∧ Cond.instanceMethod mX5_share.1 ∈ zz_g ∧ Cond.selects mX5_share.1.cls mX5_share.1 mX5_share.1 ∈ zz_g ∧ Cond.initialized mX5_share.1.cls ∈ zz_g ∧ Cond.code mX5_share.1 mX5_share.2.1 mX5_share.2.2.1 mX5_share.2.2.2.1 ∈ zz_g := ⟨rfl, by decide, zw_i_X5_share, zw_s_X5_share, zw_n_X5, zw_c_X5_share⟩
theorem wDX5_share : (mX5_share.1.cls ≠ "java/lang/invoke/MethodHandle" ∧ mX5_share.1.cls ≠ "java/lang/invoke/VarHandle") ∧ (parseMethodDescriptor mX5_share.1.desc).map (fun d => d.parameters.length) = some 1 := by decide +kernel
theorem wPX5_share : plainName mX5_share.1.cls = true := by decide +kernel
abbrev mX5_isClosed : zz_M := (yX5_isClosed, cX5_isClosed, 7, (some .boolean), RX5, [])
theorem wYX5_isClosed : mX5_isClosed.2.2.2.2.2 = [] ∧ mX5_isClosed.2.2.1 ≤ 17 ∧ Cond.instanceMethod mX5_isClosed.1 ∈ zz_g ∧ Cond.selects mX5_isClosed.1.cls mX5_isClosed.1 mX5_isClosed.1 ∈ zz_g ∧ Cond.initialized mX5_isClosed.1.cls ∈ zz_g ∧ Cond.code mX5_isClosed.1 mX5_isClosed.2.1 mX5_isClosed.2.2.1 mX5_isClosed.2.2.2.1 ∈ zz_g := ⟨rfl, by decide, zw_i_X5_isClosed, zw_s_X5_isClosed, zw_n_X5, zw_c_X5_isClosed⟩
theorem wDX5_isClosed : (mX5_isClosed.1.cls ≠ "java/lang/invoke/MethodHandle" ∧ mX5_isClosed.1.cls ≠ "java/lang/invoke/VarHandle") ∧ (parseMethodDescriptor mX5_isClosed.1.desc).map (fun d => d.parameters.length) = some 1 := by decide +kernel
theorem wPX5_isClosed : plainName mX5_isClosed.1.cls = true := by decide +kernel
abbrev mX5_isOrdered : zz_M := (yX5_isOrdered, cX5_isOrdered, 3, (some .boolean), RX5, [])
theorem wYX5_isOrdered : mX5_isOrdered.2.2.2.2.2 = [] ∧ mX5_isOrdered.2.2.1 ≤ 17 ∧ Cond.instanceMethod mX5_isOrdered.1 ∈ zz_g ∧ Cond.selects mX5_isOrdered.1.cls mX5_isOrdered.1 mX5_isOrdered.1 ∈ zz_g ∧ Cond.initialized mX5_isOrdered.1.cls ∈ zz_g ∧ Cond.code mX5_isOrdered.1 mX5_isOrdered.2.1 mX5_isOrdered.2.2.1 mX5_isOrdered.2.2.2.1 ∈ zz_g := ⟨rfl, by decide, zw_i_X5_isOrdered, zw_s_X5_isOrdered, zw_n_X5, zw_c_X5_isOrdered⟩
theorem wDX5_isOrdered : (mX5_isOrdered.1.cls ≠ "java/lang/invoke/MethodHandle" ∧ mX5_isOrdered.1.cls ≠ "java/lang/invoke/VarHandle") ∧ (parseMethodDescriptor mX5_isOrdered.1.desc).map (fun d => d.parameters.length) = some 1 := by decide +kernel
theorem wPX5_isOrdered : plainName mX5_isOrdered.1.cls = true := by decide +kernel
abbrev mX5_areComposed : zz_M := (yX5_areComposed, cX5_areComposed, 6, (some .boolean), RX5, [])
theorem wYX5_areComposed : mX5_areComposed.2.2.2.2.2 = [] ∧ mX5_areComposed.2.2.1 ≤ 17 ∧ Cond.instanceMethod mX5_areComposed.1 ∈ zz_g ∧ Cond.selects mX5_areComposed.1.cls mX5_areComposed.1 mX5_areComposed.1 ∈ zz_g ∧ Cond.initialized mX5_areComposed.1.cls ∈ zz_g ∧ Cond.code mX5_areComposed.1 mX5_areComposed.2.1 mX5_areComposed.2.2.1 mX5_areComposed.2.2.2.1 ∈ zz_g := ⟨rfl, by decide, zw_i_X5_areComposed, zw_s_X5_areComposed, zw_n_X5, zw_c_X5_areComposed⟩
theorem wDX5_areComposed : (mX5_areComposed.1.cls ≠ "java/lang/invoke/MethodHandle" ∧ mX5_areComposed.1.cls ≠ "java/lang/invoke/VarHandle") ∧ (parseMethodDescriptor mX5_areComposed.1.desc).map (fun d => d.parameters.length) = some 0 := by decide +kernel
theorem wPX5_areComposed : plainName mX5_areComposed.1.cls = true := by decide +kernel
abbrev mX5_errors : zz_M := (yX5_errors, cX5_errors, 3, (some .int), RX5, [])
theorem wYX5_errors : mX5_errors.2.2.2.2.2 = [] ∧ mX5_errors.2.2.1 ≤ 17 ∧ Cond.instanceMethod mX5_errors.1 ∈ zz_g ∧ Cond.selects mX5_errors.1.cls mX5_errors.1 mX5_errors.1 ∈ zz_g ∧ Cond.initialized mX5_errors.1.cls ∈ zz_g ∧ Cond.code mX5_errors.1 mX5_errors.2.1 mX5_errors.2.2.1 mX5_errors.2.2.2.1 ∈ zz_g := ⟨rfl, by decide, zw_i_X5_errors, zw_s_X5_errors, zw_n_X5, zw_c_X5_errors⟩
theorem wDX5_errors : (mX5_errors.1.cls ≠ "java/lang/invoke/MethodHandle" ∧ mX5_errors.1.cls ≠ "java/lang/invoke/VarHandle") ∧ (parseMethodDescriptor mX5_errors.1.desc).map (fun d => d.parameters.length) = some 0 := by decide +kernel
theorem wPX5_errors : plainName mX5_errors.1.cls = true := by decide +kernel
abbrev mJ9_min_7cf53 : zz_M := (yJ9_min_7cf53, cJ9_min_7cf53, 2, (some .int), RJ9, [])
abbrev mL_begin : zz_M := (yL_begin, cL_begin, 4, (some .int), RL, [(0, 9, 12, 13)])
theorem wYL_begin : mL_begin.2.2.1 ≤ 17 ∧ Cond.static mL_begin.1 ∈ zz_g ∧ Cond.initialized mL_begin.1.cls ∈ zz_g ∧ Cond.codeWith mL_begin.1 mL_begin.2.1 mL_begin.2.2.1 mL_begin.2.2.2.1 mL_begin.2.2.2.2.2 ∈ zz_g := ⟨by decide, zw_t_L_begin, zw_n_L, zw_c_L_begin⟩
theorem wDL_begin : (mL_begin.1.cls ≠ "java/lang/invoke/MethodHandle" ∧ mL_begin.1.cls ≠ "java/lang/invoke/VarHandle") ∧ (parseMethodDescriptor mL_begin.1.desc).map (fun d => d.parameters.length) = some 3 := by decide +kernel
theorem wPL_begin : plainName mL_begin.1.cls = true := by decide +kernel
abbrev mL_set : zz_M := (yL_set, cL_set, 7, (some .int), RL, [(0, 21, 24, 19)])
theorem wYL_set : mL_set.2.2.1 ≤ 17 ∧ Cond.static mL_set.1 ∈ zz_g ∧ Cond.initialized mL_set.1.cls ∈ zz_g ∧ Cond.codeWith mL_set.1 mL_set.2.1 mL_set.2.2.1 mL_set.2.2.2.1 mL_set.2.2.2.2.2 ∈ zz_g := ⟨by decide, zw_t_L_set, zw_n_L, zw_c_L_set⟩
theorem wDL_set : (mL_set.1.cls ≠ "java/lang/invoke/MethodHandle" ∧ mL_set.1.cls ≠ "java/lang/invoke/VarHandle") ∧ (parseMethodDescriptor mL_set.1.desc).map (fun d => d.parameters.length) = some 6 := by decide +kernel
theorem wPL_set : plainName mL_set.1.cls = true := by decide +kernel
abbrev mL_setRange : zz_M := (yL_setRange, cL_setRange, 8, (some .int), RL, [(0, 16, 19, 19)])
theorem wYL_setRange : mL_setRange.2.2.1 ≤ 17 ∧ Cond.static mL_setRange.1 ∈ zz_g ∧ Cond.initialized mL_setRange.1.cls ∈ zz_g ∧ Cond.codeWith mL_setRange.1 mL_setRange.2.1 mL_setRange.2.2.1 mL_setRange.2.2.2.1 mL_setRange.2.2.2.2.2 ∈ zz_g := ⟨by decide, zw_t_L_setRange, zw_n_L, zw_c_L_setRange⟩
theorem wDL_setRange : (mL_setRange.1.cls ≠ "java/lang/invoke/MethodHandle" ∧ mL_setRange.1.cls ≠ "java/lang/invoke/VarHandle") ∧ (parseMethodDescriptor mL_setRange.1.desc).map (fun d => d.parameters.length) = some 7 := by decide +kernel
theorem wPL_setRange : plainName mL_setRange.1.cls = true := by decide +kernel
abbrev mL_flipRange : zz_M := (yL_flipRange, cL_flipRange, 7, (some .int), RL, [(0, 14, 17, 19)])
theorem wYL_flipRange : mL_flipRange.2.2.1 ≤ 17 ∧ Cond.static mL_flipRange.1 ∈ zz_g ∧ Cond.initialized mL_flipRange.1.cls ∈ zz_g ∧ Cond.codeWith mL_flipRange.1 mL_flipRange.2.1 mL_flipRange.2.2.1 mL_flipRange.2.2.2.1 mL_flipRange.2.2.2.2.2 ∈ zz_g := ⟨by decide, zw_t_L_flipRange, zw_n_L, zw_c_L_flipRange⟩
theorem wDL_flipRange : (mL_flipRange.1.cls ≠ "java/lang/invoke/MethodHandle" ∧ mL_flipRange.1.cls ≠ "java/lang/invoke/VarHandle") ∧ (parseMethodDescriptor mL_flipRange.1.desc).map (fun d => d.parameters.length) = some 6 := by decide +kernel
theorem wPL_flipRange : plainName mL_flipRange.1.cls = true := by decide +kernel
abbrev mL_setRow : zz_M := (yL_setRow, cL_setRow, 7, (some .int), RL, [(0, 12, 15, 19)])
theorem wYL_setRow : mL_setRow.2.2.1 ≤ 17 ∧ Cond.static mL_setRow.1 ∈ zz_g ∧ Cond.initialized mL_setRow.1.cls ∈ zz_g ∧ Cond.codeWith mL_setRow.1 mL_setRow.2.1 mL_setRow.2.2.1 mL_setRow.2.2.2.1 mL_setRow.2.2.2.2.2 ∈ zz_g := ⟨by decide, zw_t_L_setRow, zw_n_L, zw_c_L_setRow⟩
theorem wDL_setRow : (mL_setRow.1.cls ≠ "java/lang/invoke/MethodHandle" ∧ mL_setRow.1.cls ≠ "java/lang/invoke/VarHandle") ∧ (parseMethodDescriptor mL_setRow.1.desc).map (fun d => d.parameters.length) = some 5 := by decide +kernel
theorem wPL_setRow : plainName mL_setRow.1.cls = true := by decide +kernel
abbrev mL_chain : zz_M := (yL_chain, cL_chain, 4, (some .int), RL, [(0, 9, 12, 19)])
theorem wYL_chain : mL_chain.2.2.1 ≤ 17 ∧ Cond.static mL_chain.1 ∈ zz_g ∧ Cond.initialized mL_chain.1.cls ∈ zz_g ∧ Cond.codeWith mL_chain.1 mL_chain.2.1 mL_chain.2.2.1 mL_chain.2.2.2.1 mL_chain.2.2.2.2.2 ∈ zz_g := ⟨by decide, zw_t_L_chain, zw_n_L, zw_c_L_chain⟩
theorem wDL_chain : (mL_chain.1.cls ≠ "java/lang/invoke/MethodHandle" ∧ mL_chain.1.cls ≠ "java/lang/invoke/VarHandle") ∧ (parseMethodDescriptor mL_chain.1.desc).map (fun d => d.parameters.length) = some 3 := by decide +kernel
theorem wPL_chain : plainName mL_chain.1.cls = true := by decide +kernel
abbrev mL_draw : zz_M := (yL_draw, cL_draw, 6, (some .int), RL, [(0, 12, 15, 19), (0, 12, 19, 13)])
theorem wYL_draw : mL_draw.2.2.1 ≤ 17 ∧ Cond.static mL_draw.1 ∈ zz_g ∧ Cond.initialized mL_draw.1.cls ∈ zz_g ∧ Cond.codeWith mL_draw.1 mL_draw.2.1 mL_draw.2.2.1 mL_draw.2.2.2.1 mL_draw.2.2.2.2.2 ∈ zz_g := ⟨by decide, zw_t_L_draw, zw_n_L, zw_c_L_draw⟩
theorem wDL_draw : (mL_draw.1.cls ≠ "java/lang/invoke/MethodHandle" ∧ mL_draw.1.cls ≠ "java/lang/invoke/VarHandle") ∧ (parseMethodDescriptor mL_draw.1.desc).map (fun d => d.parameters.length) = some 5 := by decide +kernel
theorem wPL_draw : plainName mL_draw.1.cls = true := by decide +kernel
abbrev mL_copy : zz_M := (yL_copy, cL_copy, 5, (some .int), RL, [(0, 10, 13, 19)])
theorem wYL_copy : mL_copy.2.2.1 ≤ 17 ∧ Cond.static mL_copy.1 ∈ zz_g ∧ Cond.initialized mL_copy.1.cls ∈ zz_g ∧ Cond.codeWith mL_copy.1 mL_copy.2.1 mL_copy.2.2.1 mL_copy.2.2.2.1 mL_copy.2.2.2.2.2 ∈ zz_g := ⟨by decide, zw_t_L_copy, zw_n_L, zw_c_L_copy⟩
theorem wDL_copy : (mL_copy.1.cls ≠ "java/lang/invoke/MethodHandle" ∧ mL_copy.1.cls ≠ "java/lang/invoke/VarHandle") ∧ (parseMethodDescriptor mL_copy.1.desc).map (fun d => d.parameters.length) = some 4 := by decide +kernel
theorem wPL_copy : plainName mL_copy.1.cls = true := by decide +kernel
abbrev mL_combine : zz_M := (yL_combine, cL_combine, 6, (some .int), RL, [(0, 12, 15, 19), (0, 12, 19, 13)])
theorem wYL_combine : mL_combine.2.2.1 ≤ 17 ∧ Cond.static mL_combine.1 ∈ zz_g ∧ Cond.initialized mL_combine.1.cls ∈ zz_g ∧ Cond.codeWith mL_combine.1 mL_combine.2.1 mL_combine.2.2.1 mL_combine.2.2.2.1 mL_combine.2.2.2.2.2 ∈ zz_g := ⟨by decide, zw_t_L_combine, zw_n_L, zw_c_L_combine⟩
theorem wDL_combine : (mL_combine.1.cls ≠ "java/lang/invoke/MethodHandle" ∧ mL_combine.1.cls ≠ "java/lang/invoke/VarHandle") ∧ (parseMethodDescriptor mL_combine.1.desc).map (fun d => d.parameters.length) = some 5 := by decide +kernel
theorem wPL_combine : plainName mL_combine.1.cls = true := by decide +kernel
abbrev mL_compose : zz_M := (yL_compose, cL_compose, 6, (some .int), RL, [(0, 12, 15, 19)])
theorem wYL_compose : mL_compose.2.2.1 ≤ 17 ∧ Cond.static mL_compose.1 ∈ zz_g ∧ Cond.initialized mL_compose.1.cls ∈ zz_g ∧ Cond.codeWith mL_compose.1 mL_compose.2.1 mL_compose.2.2.1 mL_compose.2.2.2.1 mL_compose.2.2.2.2.2 ∈ zz_g := ⟨by decide, zw_t_L_compose, zw_n_L, zw_c_L_compose⟩
theorem wDL_compose : (mL_compose.1.cls ≠ "java/lang/invoke/MethodHandle" ∧ mL_compose.1.cls ≠ "java/lang/invoke/VarHandle") ∧ (parseMethodDescriptor mL_compose.1.desc).map (fun d => d.parameters.length) = some 5 := by decide +kernel
theorem wPL_compose : plainName mL_compose.1.cls = true := by decide +kernel
abbrev mL_turn : zz_M := (yL_turn, cL_turn, 4, (some .int), RL, [(0, 9, 12, 19)])
theorem wYL_turn : mL_turn.2.2.1 ≤ 17 ∧ Cond.static mL_turn.1 ∈ zz_g ∧ Cond.initialized mL_turn.1.cls ∈ zz_g ∧ Cond.codeWith mL_turn.1 mL_turn.2.1 mL_turn.2.2.1 mL_turn.2.2.2.1 mL_turn.2.2.2.2.2 ∈ zz_g := ⟨by decide, zw_t_L_turn, zw_n_L, zw_c_L_turn⟩
theorem wDL_turn : (mL_turn.1.cls ≠ "java/lang/invoke/MethodHandle" ∧ mL_turn.1.cls ≠ "java/lang/invoke/VarHandle") ∧ (parseMethodDescriptor mL_turn.1.desc).map (fun d => d.parameters.length) = some 3 := by decide +kernel
theorem wPL_turn : plainName mL_turn.1.cls = true := by decide +kernel
abbrev mL_oppose : zz_M := (yL_oppose, cL_oppose, 4, (some .int), RL, [(0, 9, 12, 19)])
theorem wYL_oppose : mL_oppose.2.2.1 ≤ 17 ∧ Cond.static mL_oppose.1 ∈ zz_g ∧ Cond.initialized mL_oppose.1.cls ∈ zz_g ∧ Cond.codeWith mL_oppose.1 mL_oppose.2.1 mL_oppose.2.2.1 mL_oppose.2.2.2.1 mL_oppose.2.2.2.2.2 ∈ zz_g := ⟨by decide, zw_t_L_oppose, zw_n_L, zw_c_L_oppose⟩
theorem wDL_oppose : (mL_oppose.1.cls ≠ "java/lang/invoke/MethodHandle" ∧ mL_oppose.1.cls ≠ "java/lang/invoke/VarHandle") ∧ (parseMethodDescriptor mL_oppose.1.desc).map (fun d => d.parameters.length) = some 3 := by decide +kernel
theorem wPL_oppose : plainName mL_oppose.1.cls = true := by decide +kernel
abbrev mL_close : zz_M := (yL_close, cL_close, 5, (some .int), RL, [(0, 10, 13, 19)])
theorem wYL_close : mL_close.2.2.1 ≤ 17 ∧ Cond.static mL_close.1 ∈ zz_g ∧ Cond.initialized mL_close.1.cls ∈ zz_g ∧ Cond.codeWith mL_close.1 mL_close.2.1 mL_close.2.2.1 mL_close.2.2.2.1 mL_close.2.2.2.2.2 ∈ zz_g := ⟨by decide, zw_t_L_close, zw_n_L, zw_c_L_close⟩
theorem wDL_close : (mL_close.1.cls ≠ "java/lang/invoke/MethodHandle" ∧ mL_close.1.cls ≠ "java/lang/invoke/VarHandle") ∧ (parseMethodDescriptor mL_close.1.desc).map (fun d => d.parameters.length) = some 4 := by decide +kernel
theorem wPL_close : plainName mL_close.1.cls = true := by decide +kernel
abbrev mL_cover : zz_M := (yL_cover, cL_cover, 5, (some .int), RL, [(0, 10, 13, 19), (0, 10, 17, 63)])
theorem wYL_cover : mL_cover.2.2.1 ≤ 17 ∧ Cond.static mL_cover.1 ∈ zz_g ∧ Cond.initialized mL_cover.1.cls ∈ zz_g ∧ Cond.codeWith mL_cover.1 mL_cover.2.1 mL_cover.2.2.1 mL_cover.2.2.2.1 mL_cover.2.2.2.2.2 ∈ zz_g := ⟨by decide, zw_t_L_cover, zw_n_L, zw_c_L_cover⟩
theorem wDL_cover : (mL_cover.1.cls ≠ "java/lang/invoke/MethodHandle" ∧ mL_cover.1.cls ≠ "java/lang/invoke/VarHandle") ∧ (parseMethodDescriptor mL_cover.1.desc).map (fun d => d.parameters.length) = some 4 := by decide +kernel
theorem wPL_cover : plainName mL_cover.1.cls = true := by decide +kernel
abbrev mL_has : zz_M := (yL_has, cL_has, 6, (some .int), RL, [(0, 19, 22, 19)])
theorem wYL_has : mL_has.2.2.1 ≤ 17 ∧ Cond.static mL_has.1 ∈ zz_g ∧ Cond.initialized mL_has.1.cls ∈ zz_g ∧ Cond.codeWith mL_has.1 mL_has.2.1 mL_has.2.2.1 mL_has.2.2.2.1 mL_has.2.2.2.2.2 ∈ zz_g := ⟨by decide, zw_t_L_has, zw_n_L, zw_c_L_has⟩
theorem wDL_has : (mL_has.1.cls ≠ "java/lang/invoke/MethodHandle" ∧ mL_has.1.cls ≠ "java/lang/invoke/VarHandle") ∧ (parseMethodDescriptor mL_has.1.desc).map (fun d => d.parameters.length) = some 5 := by decide +kernel
theorem wPL_has : plainName mL_has.1.cls = true := by decide +kernel
abbrev mL_count : zz_M := (yL_count, cL_count, 4, (some .int), RL, [(0, 9, 12, 19)])
theorem wYL_count : mL_count.2.2.1 ≤ 17 ∧ Cond.static mL_count.1 ∈ zz_g ∧ Cond.initialized mL_count.1.cls ∈ zz_g ∧ Cond.codeWith mL_count.1 mL_count.2.1 mL_count.2.2.1 mL_count.2.2.2.1 mL_count.2.2.2.2.2 ∈ zz_g := ⟨by decide, zw_t_L_count, zw_n_L, zw_c_L_count⟩
theorem wDL_count : (mL_count.1.cls ≠ "java/lang/invoke/MethodHandle" ∧ mL_count.1.cls ≠ "java/lang/invoke/VarHandle") ∧ (parseMethodDescriptor mL_count.1.desc).map (fun d => d.parameters.length) = some 3 := by decide +kernel
theorem wPL_count : plainName mL_count.1.cls = true := by decide +kernel
abbrev mL_countOf : zz_M := (yL_countOf, cL_countOf, 5, (some .int), RL, [(0, 10, 13, 19)])
theorem wYL_countOf : mL_countOf.2.2.1 ≤ 17 ∧ Cond.static mL_countOf.1 ∈ zz_g ∧ Cond.initialized mL_countOf.1.cls ∈ zz_g ∧ Cond.codeWith mL_countOf.1 mL_countOf.2.1 mL_countOf.2.2.1 mL_countOf.2.2.2.1 mL_countOf.2.2.2.2.2 ∈ zz_g := ⟨by decide, zw_t_L_countOf, zw_n_L, zw_c_L_countOf⟩
theorem wDL_countOf : (mL_countOf.1.cls ≠ "java/lang/invoke/MethodHandle" ∧ mL_countOf.1.cls ≠ "java/lang/invoke/VarHandle") ∧ (parseMethodDescriptor mL_countOf.1.desc).map (fun d => d.parameters.length) = some 4 := by decide +kernel
theorem wPL_countOf : plainName mL_countOf.1.cls = true := by decide +kernel
abbrev mL_beside : zz_M := (yL_beside, cL_beside, 7, (some .int), RL, [(0, 14, 17, 19), (0, 14, 21, 13)])
theorem wYL_beside : mL_beside.2.2.1 ≤ 17 ∧ Cond.static mL_beside.1 ∈ zz_g ∧ Cond.initialized mL_beside.1.cls ∈ zz_g ∧ Cond.codeWith mL_beside.1 mL_beside.2.1 mL_beside.2.2.1 mL_beside.2.2.2.1 mL_beside.2.2.2.2.2 ∈ zz_g := ⟨by decide, zw_t_L_beside, zw_n_L, zw_c_L_beside⟩
theorem wDL_beside : (mL_beside.1.cls ≠ "java/lang/invoke/MethodHandle" ∧ mL_beside.1.cls ≠ "java/lang/invoke/VarHandle") ∧ (parseMethodDescriptor mL_beside.1.desc).map (fun d => d.parameters.length) = some 6 := by decide +kernel
theorem wPL_beside : plainName mL_beside.1.cls = true := by decide +kernel
abbrev mL_wordOf : zz_M := (yL_wordOf, cL_wordOf, 6, (some .int), RL, [(0, 11, 14, 19), (0, 11, 18, 13)])
theorem wYL_wordOf : mL_wordOf.2.2.1 ≤ 17 ∧ Cond.static mL_wordOf.1 ∈ zz_g ∧ Cond.initialized mL_wordOf.1.cls ∈ zz_g ∧ Cond.codeWith mL_wordOf.1 mL_wordOf.2.1 mL_wordOf.2.2.1 mL_wordOf.2.2.2.1 mL_wordOf.2.2.2.2.2 ∈ zz_g := ⟨by decide, zw_t_L_wordOf, zw_n_L, zw_c_L_wordOf⟩
theorem wDL_wordOf : (mL_wordOf.1.cls ≠ "java/lang/invoke/MethodHandle" ∧ mL_wordOf.1.cls ≠ "java/lang/invoke/VarHandle") ∧ (parseMethodDescriptor mL_wordOf.1.desc).map (fun d => d.parameters.length) = some 5 := by decide +kernel
theorem wPL_wordOf : plainName mL_wordOf.1.cls = true := by decide +kernel
abbrev mL_meet : zz_M := (yL_meet, cL_meet, 7, (some .int), RL, [(0, 21, 24, 19)])
theorem wYL_meet : mL_meet.2.2.1 ≤ 17 ∧ Cond.static mL_meet.1 ∈ zz_g ∧ Cond.initialized mL_meet.1.cls ∈ zz_g ∧ Cond.codeWith mL_meet.1 mL_meet.2.1 mL_meet.2.2.1 mL_meet.2.2.2.1 mL_meet.2.2.2.2.2 ∈ zz_g := ⟨by decide, zw_t_L_meet, zw_n_L, zw_c_L_meet⟩
theorem wDL_meet : (mL_meet.1.cls ≠ "java/lang/invoke/MethodHandle" ∧ mL_meet.1.cls ≠ "java/lang/invoke/VarHandle") ∧ (parseMethodDescriptor mL_meet.1.desc).map (fun d => d.parameters.length) = some 6 := by decide +kernel
theorem wPL_meet : plainName mL_meet.1.cls = true := by decide +kernel
abbrev mL_compare : zz_M := (yL_compare, cL_compare, 5, (some .int), RL, [(0, 10, 13, 19)])
theorem wYL_compare : mL_compare.2.2.1 ≤ 17 ∧ Cond.static mL_compare.1 ∈ zz_g ∧ Cond.initialized mL_compare.1.cls ∈ zz_g ∧ Cond.codeWith mL_compare.1 mL_compare.2.1 mL_compare.2.2.1 mL_compare.2.2.2.1 mL_compare.2.2.2.2.2 ∈ zz_g := ⟨by decide, zw_t_L_compare, zw_n_L, zw_c_L_compare⟩
theorem wDL_compare : (mL_compare.1.cls ≠ "java/lang/invoke/MethodHandle" ∧ mL_compare.1.cls ≠ "java/lang/invoke/VarHandle") ∧ (parseMethodDescriptor mL_compare.1.desc).map (fun d => d.parameters.length) = some 4 := by decide +kernel
theorem wPL_compare : plainName mL_compare.1.cls = true := by decide +kernel
abbrev mL_is : zz_M := (yL_is, cL_is, 5, (some .int), RL, [(0, 17, 20, 19), (0, 17, 24, 13)])
theorem wYL_is : mL_is.2.2.1 ≤ 17 ∧ Cond.static mL_is.1 ∈ zz_g ∧ Cond.initialized mL_is.1.cls ∈ zz_g ∧ Cond.codeWith mL_is.1 mL_is.2.1 mL_is.2.2.1 mL_is.2.2.2.1 mL_is.2.2.2.2.2 ∈ zz_g := ⟨by decide, zw_t_L_is, zw_n_L, zw_c_L_is⟩
theorem wDL_is : (mL_is.1.cls ≠ "java/lang/invoke/MethodHandle" ∧ mL_is.1.cls ≠ "java/lang/invoke/VarHandle") ∧ (parseMethodDescriptor mL_is.1.desc).map (fun d => d.parameters.length) = some 4 := by decide +kernel
theorem wPL_is : plainName mL_is.1.cls = true := by decide +kernel
abbrev mL_steps : zz_M := (yL_steps, cL_steps, 6, (some .int), RL, [(0, 12, 15, 19)])
theorem wYL_steps : mL_steps.2.2.1 ≤ 17 ∧ Cond.static mL_steps.1 ∈ zz_g ∧ Cond.initialized mL_steps.1.cls ∈ zz_g ∧ Cond.codeWith mL_steps.1 mL_steps.2.1 mL_steps.2.2.1 mL_steps.2.2.2.1 mL_steps.2.2.2.2.2 ∈ zz_g := ⟨by decide, zw_t_L_steps, zw_n_L, zw_c_L_steps⟩
theorem wDL_steps : (mL_steps.1.cls ≠ "java/lang/invoke/MethodHandle" ∧ mL_steps.1.cls ≠ "java/lang/invoke/VarHandle") ∧ (parseMethodDescriptor mL_steps.1.desc).map (fun d => d.parameters.length) = some 5 := by decide +kernel
theorem wPL_steps : plainName mL_steps.1.cls = true := by decide +kernel
abbrev mL_classOf : zz_M := (yL_classOf, cL_classOf, 5, (some .int), RL, [(0, 10, 13, 19)])
theorem wYL_classOf : mL_classOf.2.2.1 ≤ 17 ∧ Cond.static mL_classOf.1 ∈ zz_g ∧ Cond.initialized mL_classOf.1.cls ∈ zz_g ∧ Cond.codeWith mL_classOf.1 mL_classOf.2.1 mL_classOf.2.2.1 mL_classOf.2.2.2.1 mL_classOf.2.2.2.2.2 ∈ zz_g := ⟨by decide, zw_t_L_classOf, zw_n_L, zw_c_L_classOf⟩
theorem wDL_classOf : (mL_classOf.1.cls ≠ "java/lang/invoke/MethodHandle" ∧ mL_classOf.1.cls ≠ "java/lang/invoke/VarHandle") ∧ (parseMethodDescriptor mL_classOf.1.desc).map (fun d => d.parameters.length) = some 4 := by decide +kernel
theorem wPL_classOf : plainName mL_classOf.1.cls = true := by decide +kernel
abbrev mL_classes : zz_M := (yL_classes, cL_classes, 4, (some .int), RL, [(0, 9, 12, 19)])
theorem wYL_classes : mL_classes.2.2.1 ≤ 17 ∧ Cond.static mL_classes.1 ∈ zz_g ∧ Cond.initialized mL_classes.1.cls ∈ zz_g ∧ Cond.codeWith mL_classes.1 mL_classes.2.1 mL_classes.2.2.1 mL_classes.2.2.2.1 mL_classes.2.2.2.2.2 ∈ zz_g := ⟨by decide, zw_t_L_classes, zw_n_L, zw_c_L_classes⟩
theorem wDL_classes : (mL_classes.1.cls ≠ "java/lang/invoke/MethodHandle" ∧ mL_classes.1.cls ≠ "java/lang/invoke/VarHandle") ∧ (parseMethodDescriptor mL_classes.1.desc).map (fun d => d.parameters.length) = some 3 := by decide +kernel
theorem wPL_classes : plainName mL_classes.1.cls = true := by decide +kernel
abbrev mL_hasRing : zz_M := (yL_hasRing, cL_hasRing, 4, (some .int), RL, [(0, 16, 19, 19)])
theorem wYL_hasRing : mL_hasRing.2.2.1 ≤ 17 ∧ Cond.static mL_hasRing.1 ∈ zz_g ∧ Cond.initialized mL_hasRing.1.cls ∈ zz_g ∧ Cond.codeWith mL_hasRing.1 mL_hasRing.2.1 mL_hasRing.2.2.1 mL_hasRing.2.2.2.1 mL_hasRing.2.2.2.2.2 ∈ zz_g := ⟨by decide, zw_t_L_hasRing, zw_n_L, zw_c_L_hasRing⟩
theorem wDL_hasRing : (mL_hasRing.1.cls ≠ "java/lang/invoke/MethodHandle" ∧ mL_hasRing.1.cls ≠ "java/lang/invoke/VarHandle") ∧ (parseMethodDescriptor mL_hasRing.1.desc).map (fun d => d.parameters.length) = some 3 := by decide +kernel
theorem wPL_hasRing : plainName mL_hasRing.1.cls = true := by decide +kernel
abbrev mL_orderAt : zz_M := (yL_orderAt, cL_orderAt, 5, (some .int), RL, [(0, 10, 13, 19), (0, 10, 17, 63)])
theorem wYL_orderAt : mL_orderAt.2.2.1 ≤ 17 ∧ Cond.static mL_orderAt.1 ∈ zz_g ∧ Cond.initialized mL_orderAt.1.cls ∈ zz_g ∧ Cond.codeWith mL_orderAt.1 mL_orderAt.2.1 mL_orderAt.2.2.1 mL_orderAt.2.2.2.1 mL_orderAt.2.2.2.2.2 ∈ zz_g := ⟨by decide, zw_t_L_orderAt, zw_n_L, zw_c_L_orderAt⟩
theorem wDL_orderAt : (mL_orderAt.1.cls ≠ "java/lang/invoke/MethodHandle" ∧ mL_orderAt.1.cls ≠ "java/lang/invoke/VarHandle") ∧ (parseMethodDescriptor mL_orderAt.1.desc).map (fun d => d.parameters.length) = some 4 := by decide +kernel
theorem wPL_orderAt : plainName mL_orderAt.1.cls = true := by decide +kernel
abbrev mL_longestWalk : zz_M := (yL_longestWalk, cL_longestWalk, 4, (some .int), RL, [(0, 9, 12, 19), (0, 9, 15, 63)])
theorem wYL_longestWalk : mL_longestWalk.2.2.1 ≤ 17 ∧ Cond.static mL_longestWalk.1 ∈ zz_g ∧ Cond.initialized mL_longestWalk.1.cls ∈ zz_g ∧ Cond.codeWith mL_longestWalk.1 mL_longestWalk.2.1 mL_longestWalk.2.2.1 mL_longestWalk.2.2.2.1 mL_longestWalk.2.2.2.2.2 ∈ zz_g := ⟨by decide, zw_t_L_longestWalk, zw_n_L, zw_c_L_longestWalk⟩
theorem wDL_longestWalk : (mL_longestWalk.1.cls ≠ "java/lang/invoke/MethodHandle" ∧ mL_longestWalk.1.cls ≠ "java/lang/invoke/VarHandle") ∧ (parseMethodDescriptor mL_longestWalk.1.desc).map (fun d => d.parameters.length) = some 3 := by decide +kernel
theorem wPL_longestWalk : plainName mL_longestWalk.1.cls = true := by decide +kernel
abbrev mL_mark : zz_M := (yL_mark, cL_mark, 6, (some .int), RL, [(0, 12, 15, 19)])
theorem wYL_mark : mL_mark.2.2.1 ≤ 17 ∧ Cond.static mL_mark.1 ∈ zz_g ∧ Cond.initialized mL_mark.1.cls ∈ zz_g ∧ Cond.codeWith mL_mark.1 mL_mark.2.1 mL_mark.2.2.1 mL_mark.2.2.2.1 mL_mark.2.2.2.2.2 ∈ zz_g := ⟨by decide, zw_t_L_mark, zw_n_L, zw_c_L_mark⟩
theorem wDL_mark : (mL_mark.1.cls ≠ "java/lang/invoke/MethodHandle" ∧ mL_mark.1.cls ≠ "java/lang/invoke/VarHandle") ∧ (parseMethodDescriptor mL_mark.1.desc).map (fun d => d.parameters.length) = some 5 := by decide +kernel
theorem wPL_mark : plainName mL_mark.1.cls = true := by decide +kernel
abbrev mL_spread : zz_M := (yL_spread, cL_spread, 5, (some .int), RL, [(0, 10, 13, 19)])
theorem wYL_spread : mL_spread.2.2.1 ≤ 17 ∧ Cond.static mL_spread.1 ∈ zz_g ∧ Cond.initialized mL_spread.1.cls ∈ zz_g ∧ Cond.codeWith mL_spread.1 mL_spread.2.1 mL_spread.2.2.1 mL_spread.2.2.2.1 mL_spread.2.2.2.2.2 ∈ zz_g := ⟨by decide, zw_t_L_spread, zw_n_L, zw_c_L_spread⟩
theorem wDL_spread : (mL_spread.1.cls ≠ "java/lang/invoke/MethodHandle" ∧ mL_spread.1.cls ≠ "java/lang/invoke/VarHandle") ∧ (parseMethodDescriptor mL_spread.1.desc).map (fun d => d.parameters.length) = some 4 := by decide +kernel
theorem wPL_spread : plainName mL_spread.1.cls = true := by decide +kernel
abbrev mL_markedAt : zz_M := (yL_markedAt, cL_markedAt, 4, (some .int), RL, [(0, 9, 12, 122)])
theorem wYL_markedAt : mL_markedAt.2.2.1 ≤ 17 ∧ Cond.static mL_markedAt.1 ∈ zz_g ∧ Cond.initialized mL_markedAt.1.cls ∈ zz_g ∧ Cond.codeWith mL_markedAt.1 mL_markedAt.2.1 mL_markedAt.2.2.1 mL_markedAt.2.2.2.1 mL_markedAt.2.2.2.2.2 ∈ zz_g := ⟨by decide, zw_t_L_markedAt, zw_n_L, zw_c_L_markedAt⟩
theorem wDL_markedAt : (mL_markedAt.1.cls ≠ "java/lang/invoke/MethodHandle" ∧ mL_markedAt.1.cls ≠ "java/lang/invoke/VarHandle") ∧ (parseMethodDescriptor mL_markedAt.1.desc).map (fun d => d.parameters.length) = some 3 := by decide +kernel
theorem wPL_markedAt : plainName mL_markedAt.1.cls = true := by decide +kernel
abbrev mL_meanRow : zz_M := (yL_meanRow, cL_meanRow, 4, (some .int), RL, [(0, 8, 11, 19)])
theorem wYL_meanRow : mL_meanRow.2.2.1 ≤ 17 ∧ Cond.static mL_meanRow.1 ∈ zz_g ∧ Cond.initialized mL_meanRow.1.cls ∈ zz_g ∧ Cond.codeWith mL_meanRow.1 mL_meanRow.2.1 mL_meanRow.2.2.1 mL_meanRow.2.2.2.1 mL_meanRow.2.2.2.2.2 ∈ zz_g := ⟨by decide, zw_t_L_meanRow, zw_n_L, zw_c_L_meanRow⟩
theorem wDL_meanRow : (mL_meanRow.1.cls ≠ "java/lang/invoke/MethodHandle" ∧ mL_meanRow.1.cls ≠ "java/lang/invoke/VarHandle") ∧ (parseMethodDescriptor mL_meanRow.1.desc).map (fun d => d.parameters.length) = some 3 := by decide +kernel
theorem wPL_meanRow : plainName mL_meanRow.1.cls = true := by decide +kernel
abbrev mL_share : zz_M := (yL_share, cL_share, 4, (some .int), RL, [(0, 9, 12, 19)])
theorem wYL_share : mL_share.2.2.1 ≤ 17 ∧ Cond.static mL_share.1 ∈ zz_g ∧ Cond.initialized mL_share.1.cls ∈ zz_g ∧ Cond.codeWith mL_share.1 mL_share.2.1 mL_share.2.2.1 mL_share.2.2.2.1 mL_share.2.2.2.2.2 ∈ zz_g := ⟨by decide, zw_t_L_share, zw_n_L, zw_c_L_share⟩
theorem wDL_share : (mL_share.1.cls ≠ "java/lang/invoke/MethodHandle" ∧ mL_share.1.cls ≠ "java/lang/invoke/VarHandle") ∧ (parseMethodDescriptor mL_share.1.desc).map (fun d => d.parameters.length) = some 3 := by decide +kernel
theorem wPL_share : plainName mL_share.1.cls = true := by decide +kernel
end ZZM
