section ZZM
abbrev mX0_init : zz_M := (yX0_init, cX0_init, 1, none, RX0, [])
abbrev mX0_below : zz_M := (yX0_below, cX0_below, 1, (some .long), RX0, [])
theorem wYX0_below : mX0_below.2.2.2.2.2 = [] ∧ mX0_below.2.2.1 ≤ 21 ∧ Cond.static mX0_below.1 ∈ zz_g ∧ Cond.initialized mX0_below.1.cls ∈ zz_g ∧ Cond.code mX0_below.1 mX0_below.2.1 mX0_below.2.2.1 mX0_below.2.2.2.1 ∈ zz_g := ⟨rfl, by decide, zw_t_X0_below, zw_n_X0, zw_c_X0_below⟩
theorem wDX0_below : (mX0_below.1.cls ≠ "java/lang/invoke/MethodHandle" ∧ mX0_below.1.cls ≠ "java/lang/invoke/VarHandle") ∧ (parseMethodDescriptor mX0_below.1.desc).map (fun d => d.parameters.length) = some 1 := by decide +kernel
theorem wPX0_below : plainName mX0_below.1.cls = true := by decide +kernel
abbrev mX0_lowRange : zz_M := (yX0_lowRange, cX0_lowRange, 2, (some .long), RX0, [])
theorem wYX0_lowRange : mX0_lowRange.2.2.2.2.2 = [] ∧ mX0_lowRange.2.2.1 ≤ 21 ∧ Cond.static mX0_lowRange.1 ∈ zz_g ∧ Cond.initialized mX0_lowRange.1.cls ∈ zz_g ∧ Cond.code mX0_lowRange.1 mX0_lowRange.2.1 mX0_lowRange.2.2.1 mX0_lowRange.2.2.2.1 ∈ zz_g := ⟨rfl, by decide, zw_t_X0_lowRange, zw_n_X0, zw_c_X0_lowRange⟩
theorem wDX0_lowRange : (mX0_lowRange.1.cls ≠ "java/lang/invoke/MethodHandle" ∧ mX0_lowRange.1.cls ≠ "java/lang/invoke/VarHandle") ∧ (parseMethodDescriptor mX0_lowRange.1.desc).map (fun d => d.parameters.length) = some 2 := by decide +kernel
theorem wPX0_lowRange : plainName mX0_lowRange.1.cls = true := by decide +kernel
abbrev mX0_highRange : zz_M := (yX0_highRange, cX0_highRange, 2, (some .long), RX0, [])
theorem wYX0_highRange : mX0_highRange.2.2.2.2.2 = [] ∧ mX0_highRange.2.2.1 ≤ 21 ∧ Cond.static mX0_highRange.1 ∈ zz_g ∧ Cond.initialized mX0_highRange.1.cls ∈ zz_g ∧ Cond.code mX0_highRange.1 mX0_highRange.2.1 mX0_highRange.2.2.1 mX0_highRange.2.2.2.1 ∈ zz_g := ⟨rfl, by decide, zw_t_X0_highRange, zw_n_X0, zw_c_X0_highRange⟩
theorem wDX0_highRange : (mX0_highRange.1.cls ≠ "java/lang/invoke/MethodHandle" ∧ mX0_highRange.1.cls ≠ "java/lang/invoke/VarHandle") ∧ (parseMethodDescriptor mX0_highRange.1.desc).map (fun d => d.parameters.length) = some 2 := by decide +kernel
theorem wPX0_highRange : plainName mX0_highRange.1.cls = true := by decide +kernel
abbrev mX0_clear : zz_M := (yX0_clear, cX0_clear, 1, none, RX0, [])
theorem wYX0_clear : mX0_clear.2.2.2.2.2 = [] ∧ mX0_clear.2.2.1 ≤ 21 ∧ Cond.instanceMethod mX0_clear.1 ∈ zz_g ∧ Cond.selects mX0_clear.1.cls mX0_clear.1 mX0_clear.1 ∈ zz_g ∧ Cond.initialized mX0_clear.1.cls ∈ zz_g ∧ Cond.code mX0_clear.1 mX0_clear.2.1 mX0_clear.2.2.1 mX0_clear.2.2.2.1 ∈ zz_g := ⟨rfl, by decide, zw_i_X0_clear, zw_s_X0_clear, zw_n_X0, zw_c_X0_clear⟩
theorem wDX0_clear : (mX0_clear.1.cls ≠ "java/lang/invoke/MethodHandle" ∧ mX0_clear.1.cls ≠ "java/lang/invoke/VarHandle") ∧ (parseMethodDescriptor mX0_clear.1.desc).map (fun d => d.parameters.length) = some 0 := by decide +kernel
theorem wPX0_clear : plainName mX0_clear.1.cls = true := by decide +kernel
abbrev mX0_become : zz_M := (yX0_become, cX0_become, 2, none, RX0, [])
theorem wYX0_become : mX0_become.2.2.2.2.2 = [] ∧ mX0_become.2.2.1 ≤ 21 ∧ Cond.instanceMethod mX0_become.1 ∈ zz_g ∧ Cond.selects mX0_become.1.cls mX0_become.1 mX0_become.1 ∈ zz_g ∧ Cond.initialized mX0_become.1.cls ∈ zz_g ∧ Cond.code mX0_become.1 mX0_become.2.1 mX0_become.2.2.1 mX0_become.2.2.2.1 ∈ zz_g := ⟨rfl, by decide, zw_i_X0_become, zw_s_X0_become, zw_n_X0, zw_c_X0_become⟩
theorem wDX0_become : (mX0_become.1.cls ≠ "java/lang/invoke/MethodHandle" ∧ mX0_become.1.cls ≠ "java/lang/invoke/VarHandle") ∧ (parseMethodDescriptor mX0_become.1.desc).map (fun d => d.parameters.length) = some 1 := by decide +kernel
theorem wPX0_become : plainName mX0_become.1.cls = true := by decide +kernel
abbrev mX0_unite : zz_M := (yX0_unite, cX0_unite, 2, none, RX0, [])
theorem wYX0_unite : mX0_unite.2.2.2.2.2 = [] ∧ mX0_unite.2.2.1 ≤ 21 ∧ Cond.instanceMethod mX0_unite.1 ∈ zz_g ∧ Cond.selects mX0_unite.1.cls mX0_unite.1 mX0_unite.1 ∈ zz_g ∧ Cond.initialized mX0_unite.1.cls ∈ zz_g ∧ Cond.code mX0_unite.1 mX0_unite.2.1 mX0_unite.2.2.1 mX0_unite.2.2.2.1 ∈ zz_g := ⟨rfl, by decide, zw_i_X0_unite, zw_s_X0_unite, zw_n_X0, zw_c_X0_unite⟩
theorem wDX0_unite : (mX0_unite.1.cls ≠ "java/lang/invoke/MethodHandle" ∧ mX0_unite.1.cls ≠ "java/lang/invoke/VarHandle") ∧ (parseMethodDescriptor mX0_unite.1.desc).map (fun d => d.parameters.length) = some 1 := by decide +kernel
theorem wPX0_unite : plainName mX0_unite.1.cls = true := by decide +kernel
abbrev mX0_remove : zz_M := (yX0_remove, cX0_remove, 2, none, RX0, [])
theorem wYX0_remove : mX0_remove.2.2.2.2.2 = [] ∧ mX0_remove.2.2.1 ≤ 21 ∧ Cond.instanceMethod mX0_remove.1 ∈ zz_g ∧ Cond.selects mX0_remove.1.cls mX0_remove.1 mX0_remove.1 ∈ zz_g ∧ Cond.initialized mX0_remove.1.cls ∈ zz_g ∧ Cond.code mX0_remove.1 mX0_remove.2.1 mX0_remove.2.2.1 mX0_remove.2.2.2.1 ∈ zz_g := ⟨rfl, by decide, zw_i_X0_remove, zw_s_X0_remove, zw_n_X0, zw_c_X0_remove⟩
theorem wDX0_remove : (mX0_remove.1.cls ≠ "java/lang/invoke/MethodHandle" ∧ mX0_remove.1.cls ≠ "java/lang/invoke/VarHandle") ∧ (parseMethodDescriptor mX0_remove.1.desc).map (fun d => d.parameters.length) = some 1 := by decide +kernel
theorem wPX0_remove : plainName mX0_remove.1.cls = true := by decide +kernel
abbrev mX0_putRange : zz_M := (yX0_putRange, cX0_putRange, 8, none, RX0, [])
theorem wYX0_putRange : mX0_putRange.2.2.2.2.2 = [] ∧ mX0_putRange.2.2.1 ≤ 21 ∧ Cond.instanceMethod mX0_putRange.1 ∈ zz_g ∧ Cond.selects mX0_putRange.1.cls mX0_putRange.1 mX0_putRange.1 ∈ zz_g ∧ Cond.initialized mX0_putRange.1.cls ∈ zz_g ∧ Cond.code mX0_putRange.1 mX0_putRange.2.1 mX0_putRange.2.2.1 mX0_putRange.2.2.2.1 ∈ zz_g := ⟨rfl, by decide, zw_i_X0_putRange, zw_s_X0_putRange, zw_n_X0, zw_c_X0_putRange⟩
theorem wDX0_putRange : (mX0_putRange.1.cls ≠ "java/lang/invoke/MethodHandle" ∧ mX0_putRange.1.cls ≠ "java/lang/invoke/VarHandle") ∧ (parseMethodDescriptor mX0_putRange.1.desc).map (fun d => d.parameters.length) = some 3 := by decide +kernel
theorem wPX0_putRange : plainName mX0_putRange.1.cls = true := by decide +kernel
abbrev mX0_invert : zz_M := (yX0_invert, cX0_invert, 3, none, RX0, [])
theorem wYX0_invert : mX0_invert.2.2.2.2.2 = [] ∧ mX0_invert.2.2.1 ≤ 21 ∧ Cond.instanceMethod mX0_invert.1 ∈ zz_g ∧ Cond.selects mX0_invert.1.cls mX0_invert.1 mX0_invert.1 ∈ zz_g ∧ Cond.initialized mX0_invert.1.cls ∈ zz_g ∧ Cond.code mX0_invert.1 mX0_invert.2.1 mX0_invert.2.2.1 mX0_invert.2.2.2.1 ∈ zz_g := ⟨rfl, by decide, zw_i_X0_invert, zw_s_X0_invert, zw_n_X0, zw_c_X0_invert⟩
theorem wDX0_invert : (mX0_invert.1.cls ≠ "java/lang/invoke/MethodHandle" ∧ mX0_invert.1.cls ≠ "java/lang/invoke/VarHandle") ∧ (parseMethodDescriptor mX0_invert.1.desc).map (fun d => d.parameters.length) = some 2 := by decide +kernel
theorem wPX0_invert : plainName mX0_invert.1.cls = true := by decide +kernel
abbrev mX0_holds : zz_M := (yX0_holds, cX0_holds, 4, (some .boolean), RX0, [])
theorem wYX0_holds : mX0_holds.2.2.2.2.2 = [] ∧ mX0_holds.2.2.1 ≤ 21 ∧ Cond.instanceMethod mX0_holds.1 ∈ zz_g ∧ Cond.selects mX0_holds.1.cls mX0_holds.1 mX0_holds.1 ∈ zz_g ∧ Cond.initialized mX0_holds.1.cls ∈ zz_g ∧ Cond.code mX0_holds.1 mX0_holds.2.1 mX0_holds.2.2.1 mX0_holds.2.2.2.1 ∈ zz_g := ⟨rfl, by decide, zw_i_X0_holds, zw_s_X0_holds, zw_n_X0, zw_c_X0_holds⟩
theorem wDX0_holds : (mX0_holds.1.cls ≠ "java/lang/invoke/MethodHandle" ∧ mX0_holds.1.cls ≠ "java/lang/invoke/VarHandle") ∧ (parseMethodDescriptor mX0_holds.1.desc).map (fun d => d.parameters.length) = some 1 := by decide +kernel
theorem wPX0_holds : plainName mX0_holds.1.cls = true := by decide +kernel
abbrev mX0_isEmpty : zz_M := (yX0_isEmpty, cX0_isEmpty, 1, (some .boolean), RX0, [])
theorem wYX0_isEmpty : mX0_isEmpty.2.2.2.2.2 = [] ∧ mX0_isEmpty.2.2.1 ≤ 21 ∧ Cond.instanceMethod mX0_isEmpty.1 ∈ zz_g ∧ Cond.selects mX0_isEmpty.1.cls mX0_isEmpty.1 mX0_isEmpty.1 ∈ zz_g ∧ Cond.initialized mX0_isEmpty.1.cls ∈ zz_g ∧ Cond.code mX0_isEmpty.1 mX0_isEmpty.2.1 mX0_isEmpty.2.2.1 mX0_isEmpty.2.2.2.1 ∈ zz_g := ⟨rfl, by decide, zw_i_X0_isEmpty, zw_s_X0_isEmpty, zw_n_X0, zw_c_X0_isEmpty⟩
theorem wDX0_isEmpty : (mX0_isEmpty.1.cls ≠ "java/lang/invoke/MethodHandle" ∧ mX0_isEmpty.1.cls ≠ "java/lang/invoke/VarHandle") ∧ (parseMethodDescriptor mX0_isEmpty.1.desc).map (fun d => d.parameters.length) = some 0 := by decide +kernel
theorem wPX0_isEmpty : plainName mX0_isEmpty.1.cls = true := by decide +kernel
abbrev mX0_meets : zz_M := (yX0_meets, cX0_meets, 2, (some .boolean), RX0, [])
theorem wYX0_meets : mX0_meets.2.2.2.2.2 = [] ∧ mX0_meets.2.2.1 ≤ 21 ∧ Cond.instanceMethod mX0_meets.1 ∈ zz_g ∧ Cond.selects mX0_meets.1.cls mX0_meets.1 mX0_meets.1 ∈ zz_g ∧ Cond.initialized mX0_meets.1.cls ∈ zz_g ∧ Cond.code mX0_meets.1 mX0_meets.2.1 mX0_meets.2.2.1 mX0_meets.2.2.2.1 ∈ zz_g := ⟨rfl, by decide, zw_i_X0_meets, zw_s_X0_meets, zw_n_X0, zw_c_X0_meets⟩
theorem wDX0_meets : (mX0_meets.1.cls ≠ "java/lang/invoke/MethodHandle" ∧ mX0_meets.1.cls ≠ "java/lang/invoke/VarHandle") ∧ (parseMethodDescriptor mX0_meets.1.desc).map (fun d => d.parameters.length) = some 1 := by decide +kernel
theorem wPX0_meets : plainName mX0_meets.1.cls = true := by decide +kernel
abbrev mX0_isLike : zz_M := (yX0_isLike, cX0_isLike, 2, (some .boolean), RX0, [])
theorem wYX0_isLike : mX0_isLike.2.2.2.2.2 = [] ∧ mX0_isLike.2.2.1 ≤ 21 ∧ Cond.instanceMethod mX0_isLike.1 ∈ zz_g ∧ Cond.selects mX0_isLike.1.cls mX0_isLike.1 mX0_isLike.1 ∈ zz_g ∧ Cond.initialized mX0_isLike.1.cls ∈ zz_g ∧ Cond.code mX0_isLike.1 mX0_isLike.2.1 mX0_isLike.2.2.1 mX0_isLike.2.2.2.1 ∈ zz_g := ⟨rfl, by decide, zw_i_X0_isLike, zw_s_X0_isLike, zw_n_X0, zw_c_X0_isLike⟩
theorem wDX0_isLike : (mX0_isLike.1.cls ≠ "java/lang/invoke/MethodHandle" ∧ mX0_isLike.1.cls ≠ "java/lang/invoke/VarHandle") ∧ (parseMethodDescriptor mX0_isLike.1.desc).map (fun d => d.parameters.length) = some 1 := by decide +kernel
theorem wPX0_isLike : plainName mX0_isLike.1.cls = true := by decide +kernel
abbrev mJ13_bitCount_95d88 : zz_M := (yJ13_bitCount_95d88, cJ13_bitCount_95d88, 2, (some .int), RJ13, [])
theorem wYJ13_bitCount_95d88 : mJ13_bitCount_95d88.2.2.2.2.2 = [] ∧ mJ13_bitCount_95d88.2.2.1 ≤ 21 ∧ Cond.static mJ13_bitCount_95d88.1 ∈ zz_g ∧ Cond.initialized mJ13_bitCount_95d88.1.cls ∈ zz_g ∧ Cond.code mJ13_bitCount_95d88.1 mJ13_bitCount_95d88.2.1 mJ13_bitCount_95d88.2.2.1 mJ13_bitCount_95d88.2.2.2.1 ∈ zz_g := ⟨rfl, by decide, zw_t_J13_bitCount_95d88, zw_n_J13, zw_c_J13_bitCount_95d88⟩
theorem wDJ13_bitCount_95d88 : (mJ13_bitCount_95d88.1.cls ≠ "java/lang/invoke/MethodHandle" ∧ mJ13_bitCount_95d88.1.cls ≠ "java/lang/invoke/VarHandle") ∧ (parseMethodDescriptor mJ13_bitCount_95d88.1.desc).map (fun d => d.parameters.length) = some 1 := by decide +kernel
theorem wPJ13_bitCount_95d88 : plainName mJ13_bitCount_95d88.1.cls = true := by decide +kernel
abbrev mX0_size : zz_M := (yX0_size, cX0_size, 1, (some .int), RX0, [])
theorem wYX0_size : mX0_size.2.2.2.2.2 = [] ∧ mX0_size.2.2.1 ≤ 21 ∧ Cond.instanceMethod mX0_size.1 ∈ zz_g ∧ Cond.selects mX0_size.1.cls mX0_size.1 mX0_size.1 ∈ zz_g ∧ Cond.initialized mX0_size.1.cls ∈ zz_g ∧ Cond.code mX0_size.1 mX0_size.2.1 mX0_size.2.2.1 mX0_size.2.2.2.1 ∈ zz_g := ⟨rfl, by decide, zw_i_X0_size, zw_s_X0_size, zw_n_X0, zw_c_X0_size⟩
theorem wDX0_size : (mX0_size.1.cls ≠ "java/lang/invoke/MethodHandle" ∧ mX0_size.1.cls ≠ "java/lang/invoke/VarHandle") ∧ (parseMethodDescriptor mX0_size.1.desc).map (fun d => d.parameters.length) = some 0 := by decide +kernel
theorem wPX0_size : plainName mX0_size.1.cls = true := by decide +kernel
abbrev mX0_leastFrom : zz_M := (yX0_leastFrom, cX0_leastFrom, 7, (some .int), RX0, [])
theorem wYX0_leastFrom : mX0_leastFrom.2.2.2.2.2 = [] ∧ mX0_leastFrom.2.2.1 ≤ 21 ∧ Cond.instanceMethod mX0_leastFrom.1 ∈ zz_g ∧ Cond.selects mX0_leastFrom.1.cls mX0_leastFrom.1 mX0_leastFrom.1 ∈ zz_g ∧ Cond.initialized mX0_leastFrom.1.cls ∈ zz_g ∧ Cond.code mX0_leastFrom.1 mX0_leastFrom.2.1 mX0_leastFrom.2.2.1 mX0_leastFrom.2.2.2.1 ∈ zz_g := ⟨rfl, by decide, zw_i_X0_leastFrom, zw_s_X0_leastFrom, zw_n_X0, zw_c_X0_leastFrom⟩
theorem wDX0_leastFrom : (mX0_leastFrom.1.cls ≠ "java/lang/invoke/MethodHandle" ∧ mX0_leastFrom.1.cls ≠ "java/lang/invoke/VarHandle") ∧ (parseMethodDescriptor mX0_leastFrom.1.desc).map (fun d => d.parameters.length) = some 1 := by decide +kernel
theorem wPX0_leastFrom : plainName mX0_leastFrom.1.cls = true := by decide +kernel
abbrev mX0_greatestTo : zz_M := (yX0_greatestTo, cX0_greatestTo, 3, (some .int), RX0, [])
theorem wYX0_greatestTo : mX0_greatestTo.2.2.2.2.2 = [] ∧ mX0_greatestTo.2.2.1 ≤ 21 ∧ Cond.instanceMethod mX0_greatestTo.1 ∈ zz_g ∧ Cond.selects mX0_greatestTo.1.cls mX0_greatestTo.1 mX0_greatestTo.1 ∈ zz_g ∧ Cond.initialized mX0_greatestTo.1.cls ∈ zz_g ∧ Cond.code mX0_greatestTo.1 mX0_greatestTo.2.1 mX0_greatestTo.2.2.1 mX0_greatestTo.2.2.2.1 ∈ zz_g := ⟨rfl, by decide, zw_i_X0_greatestTo, zw_s_X0_greatestTo, zw_n_X0, zw_c_X0_greatestTo⟩
theorem wDX0_greatestTo : (mX0_greatestTo.1.cls ≠ "java/lang/invoke/MethodHandle" ∧ mX0_greatestTo.1.cls ≠ "java/lang/invoke/VarHandle") ∧ (parseMethodDescriptor mX0_greatestTo.1.desc).map (fun d => d.parameters.length) = some 1 := by decide +kernel
theorem wPX0_greatestTo : plainName mX0_greatestTo.1.cls = true := by decide +kernel
abbrev mX1_init : zz_M := (yX1_init, cX1_init, 1, none, RX1, [])
abbrev mX1_putWords : zz_M := (yX1_putWords, cX1_putWords, 6, none, RX1, [])
theorem wYX1_putWords : mX1_putWords.2.2.2.2.2 = [] ∧ mX1_putWords.2.2.1 ≤ 21 ∧ Cond.instanceMethod mX1_putWords.1 ∈ zz_g ∧ Cond.selects mX1_putWords.1.cls mX1_putWords.1 mX1_putWords.1 ∈ zz_g ∧ Cond.initialized mX1_putWords.1.cls ∈ zz_g ∧ Cond.code mX1_putWords.1 mX1_putWords.2.1 mX1_putWords.2.2.1 mX1_putWords.2.2.2.1 ∈ zz_g := ⟨rfl, by decide, zw_i_X1_putWords, zw_s_X1_putWords, zw_n_X1, zw_c_X1_putWords⟩
theorem wDX1_putWords : (mX1_putWords.1.cls ≠ "java/lang/invoke/MethodHandle" ∧ mX1_putWords.1.cls ≠ "java/lang/invoke/VarHandle") ∧ (parseMethodDescriptor mX1_putWords.1.desc).map (fun d => d.parameters.length) = some 3 := by decide +kernel
theorem wPX1_putWords : plainName mX1_putWords.1.cls = true := by decide +kernel
abbrev mX1_putRow : zz_M := (yX1_putRow, cX1_putRow, 3, none, RX1, [])
theorem wYX1_putRow : mX1_putRow.2.2.2.2.2 = [] ∧ mX1_putRow.2.2.1 ≤ 21 ∧ Cond.instanceMethod mX1_putRow.1 ∈ zz_g ∧ Cond.selects mX1_putRow.1.cls mX1_putRow.1 mX1_putRow.1 ∈ zz_g ∧ Cond.initialized mX1_putRow.1.cls ∈ zz_g ∧ Cond.code mX1_putRow.1 mX1_putRow.2.1 mX1_putRow.2.2.1 mX1_putRow.2.2.2.1 ∈ zz_g := ⟨rfl, by decide, zw_i_X1_putRow, zw_s_X1_putRow, zw_n_X1, zw_c_X1_putRow⟩
theorem wDX1_putRow : (mX1_putRow.1.cls ≠ "java/lang/invoke/MethodHandle" ∧ mX1_putRow.1.cls ≠ "java/lang/invoke/VarHandle") ∧ (parseMethodDescriptor mX1_putRow.1.desc).map (fun d => d.parameters.length) = some 2 := by decide +kernel
theorem wPX1_putRow : plainName mX1_putRow.1.cls = true := by decide +kernel
abbrev mX1_restart : zz_M := (yX1_restart, cX1_restart, 3, none, RX1, [])
theorem wYX1_restart : mX1_restart.2.2.2.2.2 = [] ∧ mX1_restart.2.2.1 ≤ 21 ∧ Cond.instanceMethod mX1_restart.1 ∈ zz_g ∧ Cond.selects mX1_restart.1.cls mX1_restart.1 mX1_restart.1 ∈ zz_g ∧ Cond.initialized mX1_restart.1.cls ∈ zz_g ∧ Cond.code mX1_restart.1 mX1_restart.2.1 mX1_restart.2.2.1 mX1_restart.2.2.2.1 ∈ zz_g := ⟨rfl, by decide, zw_i_X1_restart, zw_s_X1_restart, zw_n_X1, zw_c_X1_restart⟩
theorem wDX1_restart : (mX1_restart.1.cls ≠ "java/lang/invoke/MethodHandle" ∧ mX1_restart.1.cls ≠ "java/lang/invoke/VarHandle") ∧ (parseMethodDescriptor mX1_restart.1.desc).map (fun d => d.parameters.length) = some 1 := by decide +kernel
theorem wPX1_restart : plainName mX1_restart.1.cls = true := by decide +kernel
abbrev mX1_elementsInside : zz_M := (yX1_elementsInside, cX1_elementsInside, 1, (some .int), RX1, [])
theorem wYX1_elementsInside : mX1_elementsInside.2.2.2.2.2 = [] ∧ mX1_elementsInside.2.2.1 ≤ 21 ∧ Cond.instanceMethod mX1_elementsInside.1 ∈ zz_g ∧ Cond.selects mX1_elementsInside.1.cls mX1_elementsInside.1 mX1_elementsInside.1 ∈ zz_g ∧ Cond.initialized mX1_elementsInside.1.cls ∈ zz_g ∧ Cond.code mX1_elementsInside.1 mX1_elementsInside.2.1 mX1_elementsInside.2.2.1 mX1_elementsInside.2.2.2.1 ∈ zz_g := ⟨rfl, by decide, zw_i_X1_elementsInside, zw_s_X1_elementsInside, zw_n_X1, zw_c_X1_elementsInside⟩
theorem wDX1_elementsInside : (mX1_elementsInside.1.cls ≠ "java/lang/invoke/MethodHandle" ∧ mX1_elementsInside.1.cls ≠ "java/lang/invoke/VarHandle") ∧ (parseMethodDescriptor mX1_elementsInside.1.desc).map (fun d => d.parameters.length) = some 0 := by decide +kernel
theorem wPX1_elementsInside : plainName mX1_elementsInside.1.cls = true := by decide +kernel
abbrev mX1_lowAt : zz_M := (yX1_lowAt, cX1_lowAt, 2, (some .long), RX1, [])
theorem wYX1_lowAt : mX1_lowAt.2.2.2.2.2 = [] ∧ mX1_lowAt.2.2.1 ≤ 21 ∧ Cond.instanceMethod mX1_lowAt.1 ∈ zz_g ∧ Cond.selects mX1_lowAt.1.cls mX1_lowAt.1 mX1_lowAt.1 ∈ zz_g ∧ Cond.initialized mX1_lowAt.1.cls ∈ zz_g ∧ Cond.code mX1_lowAt.1 mX1_lowAt.2.1 mX1_lowAt.2.2.1 mX1_lowAt.2.2.2.1 ∈ zz_g := ⟨rfl, by decide, zw_i_X1_lowAt, zw_s_X1_lowAt, zw_n_X1, zw_c_X1_lowAt⟩
theorem wDX1_lowAt : (mX1_lowAt.1.cls ≠ "java/lang/invoke/MethodHandle" ∧ mX1_lowAt.1.cls ≠ "java/lang/invoke/VarHandle") ∧ (parseMethodDescriptor mX1_lowAt.1.desc).map (fun d => d.parameters.length) = some 1 := by decide +kernel
theorem wPX1_lowAt : plainName mX1_lowAt.1.cls = true := by decide +kernel
abbrev mX1_highAt : zz_M := (yX1_highAt, cX1_highAt, 2, (some .long), RX1, [])
theorem wYX1_highAt : mX1_highAt.2.2.2.2.2 = [] ∧ mX1_highAt.2.2.1 ≤ 21 ∧ Cond.instanceMethod mX1_highAt.1 ∈ zz_g ∧ Cond.selects mX1_highAt.1.cls mX1_highAt.1 mX1_highAt.1 ∈ zz_g ∧ Cond.initialized mX1_highAt.1.cls ∈ zz_g ∧ Cond.code mX1_highAt.1 mX1_highAt.2.1 mX1_highAt.2.2.1 mX1_highAt.2.2.2.1 ∈ zz_g := ⟨rfl, by decide, zw_i_X1_highAt, zw_s_X1_highAt, zw_n_X1, zw_c_X1_highAt⟩
theorem wDX1_highAt : (mX1_highAt.1.cls ≠ "java/lang/invoke/MethodHandle" ∧ mX1_highAt.1.cls ≠ "java/lang/invoke/VarHandle") ∧ (parseMethodDescriptor mX1_highAt.1.desc).map (fun d => d.parameters.length) = some 1 := by decide +kernel
theorem wPX1_highAt : plainName mX1_highAt.1.cls = true := by decide +kernel
abbrev mX1_rowInto : zz_M := (yX1_rowInto, cX1_rowInto, 3, none, RX1, [])
theorem wYX1_rowInto : mX1_rowInto.2.2.2.2.2 = [] ∧ mX1_rowInto.2.2.1 ≤ 21 ∧ Cond.instanceMethod mX1_rowInto.1 ∈ zz_g ∧ Cond.selects mX1_rowInto.1.cls mX1_rowInto.1 mX1_rowInto.1 ∈ zz_g ∧ Cond.initialized mX1_rowInto.1.cls ∈ zz_g ∧ Cond.code mX1_rowInto.1 mX1_rowInto.2.1 mX1_rowInto.2.2.1 mX1_rowInto.2.2.2.1 ∈ zz_g := ⟨rfl, by decide, zw_i_X1_rowInto, zw_s_X1_rowInto, zw_n_X1, zw_c_X1_rowInto⟩
theorem wDX1_rowInto : (mX1_rowInto.1.cls ≠ "java/lang/invoke/MethodHandle" ∧ mX1_rowInto.1.cls ≠ "java/lang/invoke/VarHandle") ∧ (parseMethodDescriptor mX1_rowInto.1.desc).map (fun d => d.parameters.length) = some 2 := by decide +kernel
theorem wPX1_rowInto : plainName mX1_rowInto.1.cls = true := by decide +kernel
abbrev mX1_holds : zz_M := (yX1_holds, cX1_holds, 5, (some .boolean), RX1, [])
theorem wYX1_holds : mX1_holds.2.2.2.2.2 = [] ∧ mX1_holds.2.2.1 ≤ 21 ∧ Cond.instanceMethod mX1_holds.1 ∈ zz_g ∧ Cond.selects mX1_holds.1.cls mX1_holds.1 mX1_holds.1 ∈ zz_g ∧ Cond.initialized mX1_holds.1.cls ∈ zz_g ∧ Cond.code mX1_holds.1 mX1_holds.2.1 mX1_holds.2.2.1 mX1_holds.2.2.2.1 ∈ zz_g := ⟨rfl, by decide, zw_i_X1_holds, zw_s_X1_holds, zw_n_X1, zw_c_X1_holds⟩
theorem wDX1_holds : (mX1_holds.1.cls ≠ "java/lang/invoke/MethodHandle" ∧ mX1_holds.1.cls ≠ "java/lang/invoke/VarHandle") ∧ (parseMethodDescriptor mX1_holds.1.desc).map (fun d => d.parameters.length) = some 2 := by decide +kernel
theorem wPX1_holds : plainName mX1_holds.1.cls = true := by decide +kernel
abbrev mX1_join : zz_M := (yX1_join, cX1_join, 3, none, RX1, [])
theorem wYX1_join : mX1_join.2.2.2.2.2 = [] ∧ mX1_join.2.2.1 ≤ 21 ∧ Cond.instanceMethod mX1_join.1 ∈ zz_g ∧ Cond.selects mX1_join.1.cls mX1_join.1 mX1_join.1 ∈ zz_g ∧ Cond.initialized mX1_join.1.cls ∈ zz_g ∧ Cond.code mX1_join.1 mX1_join.2.1 mX1_join.2.2.1 mX1_join.2.2.2.1 ∈ zz_g := ⟨rfl, by decide, zw_i_X1_join, zw_s_X1_join, zw_n_X1, zw_c_X1_join⟩
theorem wDX1_join : (mX1_join.1.cls ≠ "java/lang/invoke/MethodHandle" ∧ mX1_join.1.cls ≠ "java/lang/invoke/VarHandle") ∧ (parseMethodDescriptor mX1_join.1.desc).map (fun d => d.parameters.length) = some 2 := by decide +kernel
theorem wPX1_join : plainName mX1_join.1.cls = true := by decide +kernel
abbrev mX1_joinOwn : zz_M := (yX1_joinOwn, cX1_joinOwn, 2, none, RX1, [])
theorem wYX1_joinOwn : mX1_joinOwn.2.2.2.2.2 = [] ∧ mX1_joinOwn.2.2.1 ≤ 21 ∧ Cond.instanceMethod mX1_joinOwn.1 ∈ zz_g ∧ Cond.selects mX1_joinOwn.1.cls mX1_joinOwn.1 mX1_joinOwn.1 ∈ zz_g ∧ Cond.initialized mX1_joinOwn.1.cls ∈ zz_g ∧ Cond.code mX1_joinOwn.1 mX1_joinOwn.2.1 mX1_joinOwn.2.2.1 mX1_joinOwn.2.2.2.1 ∈ zz_g := ⟨rfl, by decide, zw_i_X1_joinOwn, zw_s_X1_joinOwn, zw_n_X1, zw_c_X1_joinOwn⟩
theorem wDX1_joinOwn : (mX1_joinOwn.1.cls ≠ "java/lang/invoke/MethodHandle" ∧ mX1_joinOwn.1.cls ≠ "java/lang/invoke/VarHandle") ∧ (parseMethodDescriptor mX1_joinOwn.1.desc).map (fun d => d.parameters.length) = some 0 := by decide +kernel
theorem wPX1_joinOwn : plainName mX1_joinOwn.1.cls = true := by decide +kernel
abbrev mX1_sizeOf : zz_M := (yX1_sizeOf, cX1_sizeOf, 2, (some .int), RX1, [])
theorem wYX1_sizeOf : mX1_sizeOf.2.2.2.2.2 = [] ∧ mX1_sizeOf.2.2.1 ≤ 21 ∧ Cond.instanceMethod mX1_sizeOf.1 ∈ zz_g ∧ Cond.selects mX1_sizeOf.1.cls mX1_sizeOf.1 mX1_sizeOf.1 ∈ zz_g ∧ Cond.initialized mX1_sizeOf.1.cls ∈ zz_g ∧ Cond.code mX1_sizeOf.1 mX1_sizeOf.2.1 mX1_sizeOf.2.2.1 mX1_sizeOf.2.2.2.1 ∈ zz_g := ⟨rfl, by decide, zw_i_X1_sizeOf, zw_s_X1_sizeOf, zw_n_X1, zw_c_X1_sizeOf⟩
theorem wDX1_sizeOf : (mX1_sizeOf.1.cls ≠ "java/lang/invoke/MethodHandle" ∧ mX1_sizeOf.1.cls ≠ "java/lang/invoke/VarHandle") ∧ (parseMethodDescriptor mX1_sizeOf.1.desc).map (fun d => d.parameters.length) = some 1 := by decide +kernel
theorem wPX1_sizeOf : plainName mX1_sizeOf.1.cls = true := by decide +kernel
abbrev mX1_pairs : zz_M := (yX1_pairs, cX1_pairs, 3, (some .int), RX1, [])
theorem wYX1_pairs : mX1_pairs.2.2.2.2.2 = [] ∧ mX1_pairs.2.2.1 ≤ 21 ∧ Cond.instanceMethod mX1_pairs.1 ∈ zz_g ∧ Cond.selects mX1_pairs.1.cls mX1_pairs.1 mX1_pairs.1 ∈ zz_g ∧ Cond.initialized mX1_pairs.1.cls ∈ zz_g ∧ Cond.code mX1_pairs.1 mX1_pairs.2.1 mX1_pairs.2.2.1 mX1_pairs.2.2.2.1 ∈ zz_g := ⟨rfl, by decide, zw_i_X1_pairs, zw_s_X1_pairs, zw_n_X1, zw_c_X1_pairs⟩
theorem wDX1_pairs : (mX1_pairs.1.cls ≠ "java/lang/invoke/MethodHandle" ∧ mX1_pairs.1.cls ≠ "java/lang/invoke/VarHandle") ∧ (parseMethodDescriptor mX1_pairs.1.desc).map (fun d => d.parameters.length) = some 0 := by decide +kernel
theorem wPX1_pairs : plainName mX1_pairs.1.cls = true := by decide +kernel
abbrev mX1_ownPairs : zz_M := (yX1_ownPairs, cX1_ownPairs, 3, (some .int), RX1, [])
theorem wYX1_ownPairs : mX1_ownPairs.2.2.2.2.2 = [] ∧ mX1_ownPairs.2.2.1 ≤ 21 ∧ Cond.instanceMethod mX1_ownPairs.1 ∈ zz_g ∧ Cond.selects mX1_ownPairs.1.cls mX1_ownPairs.1 mX1_ownPairs.1 ∈ zz_g ∧ Cond.initialized mX1_ownPairs.1.cls ∈ zz_g ∧ Cond.code mX1_ownPairs.1 mX1_ownPairs.2.1 mX1_ownPairs.2.2.1 mX1_ownPairs.2.2.2.1 ∈ zz_g := ⟨rfl, by decide, zw_i_X1_ownPairs, zw_s_X1_ownPairs, zw_n_X1, zw_c_X1_ownPairs⟩
theorem wDX1_ownPairs : (mX1_ownPairs.1.cls ≠ "java/lang/invoke/MethodHandle" ∧ mX1_ownPairs.1.cls ≠ "java/lang/invoke/VarHandle") ∧ (parseMethodDescriptor mX1_ownPairs.1.desc).map (fun d => d.parameters.length) = some 0 := by decide +kernel
theorem wPX1_ownPairs : plainName mX1_ownPairs.1.cls = true := by decide +kernel
abbrev mX1_take : zz_M := (yX1_take, cX1_take, 3, none, RX1, [])
theorem wYX1_take : mX1_take.2.2.2.2.2 = [] ∧ mX1_take.2.2.1 ≤ 21 ∧ Cond.instanceMethod mX1_take.1 ∈ zz_g ∧ Cond.selects mX1_take.1.cls mX1_take.1 mX1_take.1 ∈ zz_g ∧ Cond.initialized mX1_take.1.cls ∈ zz_g ∧ Cond.code mX1_take.1 mX1_take.2.1 mX1_take.2.2.1 mX1_take.2.2.2.1 ∈ zz_g := ⟨rfl, by decide, zw_i_X1_take, zw_s_X1_take, zw_n_X1, zw_c_X1_take⟩
theorem wDX1_take : (mX1_take.1.cls ≠ "java/lang/invoke/MethodHandle" ∧ mX1_take.1.cls ≠ "java/lang/invoke/VarHandle") ∧ (parseMethodDescriptor mX1_take.1.desc).map (fun d => d.parameters.length) = some 1 := by decide +kernel
theorem wPX1_take : plainName mX1_take.1.cls = true := by decide +kernel
abbrev mX1_mixed : zz_M := (yX1_mixed, cX1_mixed, 5, (some .long), RX1, [])
theorem wYX1_mixed : mX1_mixed.2.2.2.2.2 = [] ∧ mX1_mixed.2.2.1 ≤ 21 ∧ Cond.static mX1_mixed.1 ∈ zz_g ∧ Cond.initialized mX1_mixed.1.cls ∈ zz_g ∧ Cond.code mX1_mixed.1 mX1_mixed.2.1 mX1_mixed.2.2.1 mX1_mixed.2.2.2.1 ∈ zz_g := ⟨rfl, by decide, zw_t_X1_mixed, zw_n_X1, zw_c_X1_mixed⟩
theorem wDX1_mixed : (mX1_mixed.1.cls ≠ "java/lang/invoke/MethodHandle" ∧ mX1_mixed.1.cls ≠ "java/lang/invoke/VarHandle") ∧ (parseMethodDescriptor mX1_mixed.1.desc).map (fun d => d.parameters.length) = some 3 := by decide +kernel
theorem wPX1_mixed : plainName mX1_mixed.1.cls = true := by decide +kernel
abbrev mX1_mix : zz_M := (yX1_mix, cX1_mix, 4, none, RX1, [])
theorem wYX1_mix : mX1_mix.2.2.2.2.2 = [] ∧ mX1_mix.2.2.1 ≤ 21 ∧ Cond.instanceMethod mX1_mix.1 ∈ zz_g ∧ Cond.selects mX1_mix.1.cls mX1_mix.1 mX1_mix.1 ∈ zz_g ∧ Cond.initialized mX1_mix.1.cls ∈ zz_g ∧ Cond.code mX1_mix.1 mX1_mix.2.1 mX1_mix.2.2.1 mX1_mix.2.2.2.1 ∈ zz_g := ⟨rfl, by decide, zw_i_X1_mix, zw_s_X1_mix, zw_n_X1, zw_c_X1_mix⟩
theorem wDX1_mix : (mX1_mix.1.cls ≠ "java/lang/invoke/MethodHandle" ∧ mX1_mix.1.cls ≠ "java/lang/invoke/VarHandle") ∧ (parseMethodDescriptor mX1_mix.1.desc).map (fun d => d.parameters.length) = some 2 := by decide +kernel
theorem wPX1_mix : plainName mX1_mix.1.cls = true := by decide +kernel
abbrev mX1_imageOf : zz_M := (yX1_imageOf, cX1_imageOf, 9, none, RX1, [])
theorem wYX1_imageOf : mX1_imageOf.2.2.2.2.2 = [] ∧ mX1_imageOf.2.2.1 ≤ 21 ∧ Cond.instanceMethod mX1_imageOf.1 ∈ zz_g ∧ Cond.selects mX1_imageOf.1.cls mX1_imageOf.1 mX1_imageOf.1 ∈ zz_g ∧ Cond.initialized mX1_imageOf.1.cls ∈ zz_g ∧ Cond.code mX1_imageOf.1 mX1_imageOf.2.1 mX1_imageOf.2.2.1 mX1_imageOf.2.2.2.1 ∈ zz_g := ⟨rfl, by decide, zw_i_X1_imageOf, zw_s_X1_imageOf, zw_n_X1, zw_c_X1_imageOf⟩
theorem wDX1_imageOf : (mX1_imageOf.1.cls ≠ "java/lang/invoke/MethodHandle" ∧ mX1_imageOf.1.cls ≠ "java/lang/invoke/VarHandle") ∧ (parseMethodDescriptor mX1_imageOf.1.desc).map (fun d => d.parameters.length) = some 2 := by decide +kernel
theorem wPX1_imageOf : plainName mX1_imageOf.1.cls = true := by decide +kernel
abbrev mX1_product : zz_M := (yX1_product, cX1_product, 4, none, RX1, [])
theorem wYX1_product : mX1_product.2.2.2.2.2 = [] ∧ mX1_product.2.2.1 ≤ 21 ∧ Cond.instanceMethod mX1_product.1 ∈ zz_g ∧ Cond.selects mX1_product.1.cls mX1_product.1 mX1_product.1 ∈ zz_g ∧ Cond.initialized mX1_product.1.cls ∈ zz_g ∧ Cond.code mX1_product.1 mX1_product.2.1 mX1_product.2.2.1 mX1_product.2.2.2.1 ∈ zz_g := ⟨rfl, by decide, zw_i_X1_product, zw_s_X1_product, zw_n_X1, zw_c_X1_product⟩
theorem wDX1_product : (mX1_product.1.cls ≠ "java/lang/invoke/MethodHandle" ∧ mX1_product.1.cls ≠ "java/lang/invoke/VarHandle") ∧ (parseMethodDescriptor mX1_product.1.desc).map (fun d => d.parameters.length) = some 2 := by decide +kernel
theorem wPX1_product : plainName mX1_product.1.cls = true := by decide +kernel
abbrev mX1_takeCovers : zz_M := (yX1_takeCovers, cX1_takeCovers, 3, none, RX1, [])
theorem wYX1_takeCovers : mX1_takeCovers.2.2.2.2.2 = [] ∧ mX1_takeCovers.2.2.1 ≤ 21 ∧ Cond.instanceMethod mX1_takeCovers.1 ∈ zz_g ∧ Cond.selects mX1_takeCovers.1.cls mX1_takeCovers.1 mX1_takeCovers.1 ∈ zz_g ∧ Cond.initialized mX1_takeCovers.1.cls ∈ zz_g ∧ Cond.code mX1_takeCovers.1 mX1_takeCovers.2.1 mX1_takeCovers.2.2.1 mX1_takeCovers.2.2.2.1 ∈ zz_g := ⟨rfl, by decide, zw_i_X1_takeCovers, zw_s_X1_takeCovers, zw_n_X1, zw_c_X1_takeCovers⟩
theorem wDX1_takeCovers : (mX1_takeCovers.1.cls ≠ "java/lang/invoke/MethodHandle" ∧ mX1_takeCovers.1.cls ≠ "java/lang/invoke/VarHandle") ∧ (parseMethodDescriptor mX1_takeCovers.1.desc).map (fun d => d.parameters.length) = some 1 := by decide +kernel
theorem wPX1_takeCovers : plainName mX1_takeCovers.1.cls = true := by decide +kernel
abbrev mX1_swapPair : zz_M := (yX1_swapPair, cX1_swapPair, 3, none, RX1, [])
theorem wYX1_swapPair : mX1_swapPair.2.2.2.2.2 = [] ∧ mX1_swapPair.2.2.1 ≤ 21 ∧ Cond.instanceMethod mX1_swapPair.1 ∈ zz_g ∧ Cond.selects mX1_swapPair.1.cls mX1_swapPair.1 mX1_swapPair.1 ∈ zz_g ∧ Cond.initialized mX1_swapPair.1.cls ∈ zz_g ∧ Cond.code mX1_swapPair.1 mX1_swapPair.2.1 mX1_swapPair.2.2.1 mX1_swapPair.2.2.2.1 ∈ zz_g := ⟨rfl, by decide, zw_i_X1_swapPair, zw_s_X1_swapPair, zw_n_X1, zw_c_X1_swapPair⟩
theorem wDX1_swapPair : (mX1_swapPair.1.cls ≠ "java/lang/invoke/MethodHandle" ∧ mX1_swapPair.1.cls ≠ "java/lang/invoke/VarHandle") ∧ (parseMethodDescriptor mX1_swapPair.1.desc).map (fun d => d.parameters.length) = some 2 := by decide +kernel
theorem wPX1_swapPair : plainName mX1_swapPair.1.cls = true := by decide +kernel
abbrev mX1_reverse : zz_M := (yX1_reverse, cX1_reverse, 3, none, RX1, [])
theorem wYX1_reverse : mX1_reverse.2.2.2.2.2 = [] ∧ mX1_reverse.2.2.1 ≤ 21 ∧ Cond.instanceMethod mX1_reverse.1 ∈ zz_g ∧ Cond.selects mX1_reverse.1.cls mX1_reverse.1 mX1_reverse.1 ∈ zz_g ∧ Cond.initialized mX1_reverse.1.cls ∈ zz_g ∧ Cond.code mX1_reverse.1 mX1_reverse.2.1 mX1_reverse.2.2.1 mX1_reverse.2.2.2.1 ∈ zz_g := ⟨rfl, by decide, zw_i_X1_reverse, zw_s_X1_reverse, zw_n_X1, zw_c_X1_reverse⟩
theorem wDX1_reverse : (mX1_reverse.1.cls ≠ "java/lang/invoke/MethodHandle" ∧ mX1_reverse.1.cls ≠ "java/lang/invoke/VarHandle") ∧ (parseMethodDescriptor mX1_reverse.1.desc).map (fun d => d.parameters.length) = some 0 := by decide +kernel
theorem wPX1_reverse : plainName mX1_reverse.1.cls = true := by decide +kernel
abbrev mX1_invert : zz_M := (yX1_invert, cX1_invert, 2, none, RX1, [])
theorem wYX1_invert : mX1_invert.2.2.2.2.2 = [] ∧ mX1_invert.2.2.1 ≤ 21 ∧ Cond.instanceMethod mX1_invert.1 ∈ zz_g ∧ Cond.selects mX1_invert.1.cls mX1_invert.1 mX1_invert.1 ∈ zz_g ∧ Cond.initialized mX1_invert.1.cls ∈ zz_g ∧ Cond.code mX1_invert.1 mX1_invert.2.1 mX1_invert.2.2.1 mX1_invert.2.2.2.1 ∈ zz_g := ⟨rfl, by decide, zw_i_X1_invert, zw_s_X1_invert, zw_n_X1, zw_c_X1_invert⟩
theorem wDX1_invert : (mX1_invert.1.cls ≠ "java/lang/invoke/MethodHandle" ∧ mX1_invert.1.cls ≠ "java/lang/invoke/VarHandle") ∧ (parseMethodDescriptor mX1_invert.1.desc).map (fun d => d.parameters.length) = some 0 := by decide +kernel
theorem wPX1_invert : plainName mX1_invert.1.cls = true := by decide +kernel
abbrev mX1_closeUp : zz_M := (yX1_closeUp, cX1_closeUp, 7, none, RX1, [])
theorem wYX1_closeUp : mX1_closeUp.2.2.2.2.2 = [] ∧ mX1_closeUp.2.2.1 ≤ 21 ∧ Cond.instanceMethod mX1_closeUp.1 ∈ zz_g ∧ Cond.selects mX1_closeUp.1.cls mX1_closeUp.1 mX1_closeUp.1 ∈ zz_g ∧ Cond.initialized mX1_closeUp.1.cls ∈ zz_g ∧ Cond.code mX1_closeUp.1 mX1_closeUp.2.1 mX1_closeUp.2.2.1 mX1_closeUp.2.2.2.1 ∈ zz_g := ⟨rfl, by decide, zw_i_X1_closeUp, zw_s_X1_closeUp, zw_n_X1, zw_c_X1_closeUp⟩
theorem wDX1_closeUp : (mX1_closeUp.1.cls ≠ "java/lang/invoke/MethodHandle" ∧ mX1_closeUp.1.cls ≠ "java/lang/invoke/VarHandle") ∧ (parseMethodDescriptor mX1_closeUp.1.desc).map (fun d => d.parameters.length) = some 0 := by decide +kernel
theorem wPX1_closeUp : plainName mX1_closeUp.1.cls = true := by decide +kernel
abbrev mX1_hasAllOf : zz_M := (yX1_hasAllOf, cX1_hasAllOf, 3, (some .boolean), RX1, [])
theorem wYX1_hasAllOf : mX1_hasAllOf.2.2.2.2.2 = [] ∧ mX1_hasAllOf.2.2.1 ≤ 21 ∧ Cond.instanceMethod mX1_hasAllOf.1 ∈ zz_g ∧ Cond.selects mX1_hasAllOf.1.cls mX1_hasAllOf.1 mX1_hasAllOf.1 ∈ zz_g ∧ Cond.initialized mX1_hasAllOf.1.cls ∈ zz_g ∧ Cond.code mX1_hasAllOf.1 mX1_hasAllOf.2.1 mX1_hasAllOf.2.2.1 mX1_hasAllOf.2.2.2.1 ∈ zz_g := ⟨rfl, by decide, zw_i_X1_hasAllOf, zw_s_X1_hasAllOf, zw_n_X1, zw_c_X1_hasAllOf⟩
theorem wDX1_hasAllOf : (mX1_hasAllOf.1.cls ≠ "java/lang/invoke/MethodHandle" ∧ mX1_hasAllOf.1.cls ≠ "java/lang/invoke/VarHandle") ∧ (parseMethodDescriptor mX1_hasAllOf.1.desc).map (fun d => d.parameters.length) = some 1 := by decide +kernel
theorem wPX1_hasAllOf : plainName mX1_hasAllOf.1.cls = true := by decide +kernel
abbrev mX1_isLike : zz_M := (yX1_isLike, cX1_isLike, 2, (some .boolean), RX1, [])
theorem wYX1_isLike : mX1_isLike.2.2.2.2.2 = [] ∧ mX1_isLike.2.2.1 ≤ 21 ∧ Cond.instanceMethod mX1_isLike.1 ∈ zz_g ∧ Cond.selects mX1_isLike.1.cls mX1_isLike.1 mX1_isLike.1 ∈ zz_g ∧ Cond.initialized mX1_isLike.1.cls ∈ zz_g ∧ Cond.code mX1_isLike.1 mX1_isLike.2.1 mX1_isLike.2.2.1 mX1_isLike.2.2.2.1 ∈ zz_g := ⟨rfl, by decide, zw_i_X1_isLike, zw_s_X1_isLike, zw_n_X1, zw_c_X1_isLike⟩
theorem wDX1_isLike : (mX1_isLike.1.cls ≠ "java/lang/invoke/MethodHandle" ∧ mX1_isLike.1.cls ≠ "java/lang/invoke/VarHandle") ∧ (parseMethodDescriptor mX1_isLike.1.desc).map (fun d => d.parameters.length) = some 1 := by decide +kernel
theorem wPX1_isLike : plainName mX1_isLike.1.cls = true := by decide +kernel
abbrev mX1_isTransitive : zz_M := (yX1_isTransitive, cX1_isTransitive, 2, (some .boolean), RX1, [])
theorem wYX1_isTransitive : mX1_isTransitive.2.2.2.2.2 = [] ∧ mX1_isTransitive.2.2.1 ≤ 21 ∧ Cond.instanceMethod mX1_isTransitive.1 ∈ zz_g ∧ Cond.selects mX1_isTransitive.1.cls mX1_isTransitive.1 mX1_isTransitive.1 ∈ zz_g ∧ Cond.initialized mX1_isTransitive.1.cls ∈ zz_g ∧ Cond.code mX1_isTransitive.1 mX1_isTransitive.2.1 mX1_isTransitive.2.2.1 mX1_isTransitive.2.2.2.1 ∈ zz_g := ⟨rfl, by decide, zw_i_X1_isTransitive, zw_s_X1_isTransitive, zw_n_X1, zw_c_X1_isTransitive⟩
theorem wDX1_isTransitive : (mX1_isTransitive.1.cls ≠ "java/lang/invoke/MethodHandle" ∧ mX1_isTransitive.1.cls ≠ "java/lang/invoke/VarHandle") ∧ (parseMethodDescriptor mX1_isTransitive.1.desc).map (fun d => d.parameters.length) = some 0 := by decide +kernel
theorem wPX1_isTransitive : plainName mX1_isTransitive.1.cls = true := by decide +kernel
abbrev mX1_fits : zz_M := (yX1_fits, cX1_fits, 3, (some .boolean), RX1, [])
theorem wYX1_fits : mX1_fits.2.2.2.2.2 = [] ∧ mX1_fits.2.2.1 ≤ 21 ∧ Cond.static mX1_fits.1 ∈ zz_g ∧ Cond.initialized mX1_fits.1.cls ∈ zz_g ∧ Cond.code mX1_fits.1 mX1_fits.2.1 mX1_fits.2.2.1 mX1_fits.2.2.2.1 ∈ zz_g := ⟨rfl, by decide, zw_t_X1_fits, zw_n_X1, zw_c_X1_fits⟩
theorem wDX1_fits : (mX1_fits.1.cls ≠ "java/lang/invoke/MethodHandle" ∧ mX1_fits.1.cls ≠ "java/lang/invoke/VarHandle") ∧ (parseMethodDescriptor mX1_fits.1.desc).map (fun d => d.parameters.length) = some 3 := by decide +kernel
theorem wPX1_fits : plainName mX1_fits.1.cls = true := by decide +kernel
abbrev mX1_everyTwoAre : zz_M := (yX1_everyTwoAre, cX1_everyTwoAre, 4, (some .boolean), RX1, [])
theorem wYX1_everyTwoAre : mX1_everyTwoAre.2.2.2.2.2 = [] ∧ mX1_everyTwoAre.2.2.1 ≤ 21 ∧ Cond.instanceMethod mX1_everyTwoAre.1 ∈ zz_g ∧ Cond.selects mX1_everyTwoAre.1.cls mX1_everyTwoAre.1 mX1_everyTwoAre.1 ∈ zz_g ∧ Cond.initialized mX1_everyTwoAre.1.cls ∈ zz_g ∧ Cond.code mX1_everyTwoAre.1 mX1_everyTwoAre.2.1 mX1_everyTwoAre.2.2.1 mX1_everyTwoAre.2.2.2.1 ∈ zz_g := ⟨rfl, by decide, zw_i_X1_everyTwoAre, zw_s_X1_everyTwoAre, zw_n_X1, zw_c_X1_everyTwoAre⟩
theorem wDX1_everyTwoAre : (mX1_everyTwoAre.1.cls ≠ "java/lang/invoke/MethodHandle" ∧ mX1_everyTwoAre.1.cls ≠ "java/lang/invoke/VarHandle") ∧ (parseMethodDescriptor mX1_everyTwoAre.1.desc).map (fun d => d.parameters.length) = some 1 := by decide +kernel
theorem wPX1_everyTwoAre : plainName mX1_everyTwoAre.1.cls = true := by decide +kernel
abbrev mX1_inOneClass : zz_M := (yX1_inOneClass, cX1_inOneClass, 3, (some .boolean), RX1, [])
theorem wYX1_inOneClass : mX1_inOneClass.2.2.2.2.2 = [] ∧ mX1_inOneClass.2.2.1 ≤ 21 ∧ Cond.instanceMethod mX1_inOneClass.1 ∈ zz_g ∧ Cond.selects mX1_inOneClass.1.cls mX1_inOneClass.1 mX1_inOneClass.1 ∈ zz_g ∧ Cond.initialized mX1_inOneClass.1.cls ∈ zz_g ∧ Cond.code mX1_inOneClass.1 mX1_inOneClass.2.1 mX1_inOneClass.2.2.1 mX1_inOneClass.2.2.2.1 ∈ zz_g := ⟨rfl, by decide, zw_i_X1_inOneClass, zw_s_X1_inOneClass, zw_n_X1, zw_c_X1_inOneClass⟩
theorem wDX1_inOneClass : (mX1_inOneClass.1.cls ≠ "java/lang/invoke/MethodHandle" ∧ mX1_inOneClass.1.cls ≠ "java/lang/invoke/VarHandle") ∧ (parseMethodDescriptor mX1_inOneClass.1.desc).map (fun d => d.parameters.length) = some 2 := by decide +kernel
theorem wPX1_inOneClass : plainName mX1_inOneClass.1.cls = true := by decide +kernel
abbrev mX1_leastOfClass : zz_M := (yX1_leastOfClass, cX1_leastOfClass, 3, (some .int), RX1, [])
theorem wYX1_leastOfClass : mX1_leastOfClass.2.2.2.2.2 = [] ∧ mX1_leastOfClass.2.2.1 ≤ 21 ∧ Cond.instanceMethod mX1_leastOfClass.1 ∈ zz_g ∧ Cond.selects mX1_leastOfClass.1.cls mX1_leastOfClass.1 mX1_leastOfClass.1 ∈ zz_g ∧ Cond.initialized mX1_leastOfClass.1.cls ∈ zz_g ∧ Cond.code mX1_leastOfClass.1 mX1_leastOfClass.2.1 mX1_leastOfClass.2.2.1 mX1_leastOfClass.2.2.2.1 ∈ zz_g := ⟨rfl, by decide, zw_i_X1_leastOfClass, zw_s_X1_leastOfClass, zw_n_X1, zw_c_X1_leastOfClass⟩
theorem wDX1_leastOfClass : (mX1_leastOfClass.1.cls ≠ "java/lang/invoke/MethodHandle" ∧ mX1_leastOfClass.1.cls ≠ "java/lang/invoke/VarHandle") ∧ (parseMethodDescriptor mX1_leastOfClass.1.desc).map (fun d => d.parameters.length) = some 1 := by decide +kernel
theorem wPX1_leastOfClass : plainName mX1_leastOfClass.1.cls = true := by decide +kernel
abbrev mX1_classesInside : zz_M := (yX1_classesInside, cX1_classesInside, 3, (some .int), RX1, [])
theorem wYX1_classesInside : mX1_classesInside.2.2.2.2.2 = [] ∧ mX1_classesInside.2.2.1 ≤ 21 ∧ Cond.instanceMethod mX1_classesInside.1 ∈ zz_g ∧ Cond.selects mX1_classesInside.1.cls mX1_classesInside.1 mX1_classesInside.1 ∈ zz_g ∧ Cond.initialized mX1_classesInside.1.cls ∈ zz_g ∧ Cond.code mX1_classesInside.1 mX1_classesInside.2.1 mX1_classesInside.2.2.1 mX1_classesInside.2.2.2.1 ∈ zz_g := ⟨rfl, by decide, zw_i_X1_classesInside, zw_s_X1_classesInside, zw_n_X1, zw_c_X1_classesInside⟩
theorem wDX1_classesInside : (mX1_classesInside.1.cls ≠ "java/lang/invoke/MethodHandle" ∧ mX1_classesInside.1.cls ≠ "java/lang/invoke/VarHandle") ∧ (parseMethodDescriptor mX1_classesInside.1.desc).map (fun d => d.parameters.length) = some 0 := by decide +kernel
theorem wPX1_classesInside : plainName mX1_classesInside.1.cls = true := by decide +kernel
abbrev mX3_init : zz_M := (yX3_init, cX3_init, 1, none, RX3, [])
abbrev mX2_init : zz_M := (yX2_init, cX2_init, 1, none, RX2, [])
abbrev mX3_leave : zz_M := (yX3_leave, cX3_leave, 3, none, RX3, [])
theorem wYX3_leave : mX3_leave.2.2.2.2.2 = [] ∧ mX3_leave.2.2.1 ≤ 21 ∧ Cond.instanceMethod mX3_leave.1 ∈ zz_g ∧ Cond.selects mX3_leave.1.cls mX3_leave.1 mX3_leave.1 ∈ zz_g ∧ Cond.initialized mX3_leave.1.cls ∈ zz_g ∧ Cond.code mX3_leave.1 mX3_leave.2.1 mX3_leave.2.2.1 mX3_leave.2.2.2.1 ∈ zz_g := ⟨rfl, by decide, zw_i_X3_leave, zw_s_X3_leave, zw_n_X3, zw_c_X3_leave⟩
theorem wDX3_leave : (mX3_leave.1.cls ≠ "java/lang/invoke/MethodHandle" ∧ mX3_leave.1.cls ≠ "java/lang/invoke/VarHandle") ∧ (parseMethodDescriptor mX3_leave.1.desc).map (fun d => d.parameters.length) = some 2 := by decide +kernel
theorem wPX3_leave : plainName mX3_leave.1.cls = true := by decide +kernel
abbrev mX3_goOn : zz_M := (yX3_goOn, cX3_goOn, 2, none, RX3, [])
theorem wYX3_goOn : mX3_goOn.2.2.2.2.2 = [] ∧ mX3_goOn.2.2.1 ≤ 21 ∧ Cond.instanceMethod mX3_goOn.1 ∈ zz_g ∧ Cond.selects mX3_goOn.1.cls mX3_goOn.1 mX3_goOn.1 ∈ zz_g ∧ Cond.initialized mX3_goOn.1.cls ∈ zz_g ∧ Cond.code mX3_goOn.1 mX3_goOn.2.1 mX3_goOn.2.2.1 mX3_goOn.2.2.2.1 ∈ zz_g := ⟨rfl, by decide, zw_i_X3_goOn, zw_s_X3_goOn, zw_n_X3, zw_c_X3_goOn⟩
theorem wDX3_goOn : (mX3_goOn.1.cls ≠ "java/lang/invoke/MethodHandle" ∧ mX3_goOn.1.cls ≠ "java/lang/invoke/VarHandle") ∧ (parseMethodDescriptor mX3_goOn.1.desc).map (fun d => d.parameters.length) = some 1 := by decide +kernel
theorem wPX3_goOn : plainName mX3_goOn.1.cls = true := by decide +kernel
abbrev mX3_reachFrom : zz_M := (yX3_reachFrom, cX3_reachFrom, 6, none, RX3, [])
theorem wYX3_reachFrom : mX3_reachFrom.2.2.2.2.2 = [] ∧ mX3_reachFrom.2.2.1 ≤ 21 ∧ Cond.instanceMethod mX3_reachFrom.1 ∈ zz_g ∧ Cond.selects mX3_reachFrom.1.cls mX3_reachFrom.1 mX3_reachFrom.1 ∈ zz_g ∧ Cond.initialized mX3_reachFrom.1.cls ∈ zz_g ∧ Cond.code mX3_reachFrom.1 mX3_reachFrom.2.1 mX3_reachFrom.2.2.1 mX3_reachFrom.2.2.2.1 ∈ zz_g := ⟨rfl, by decide, zw_i_X3_reachFrom, zw_s_X3_reachFrom, zw_n_X3, zw_c_X3_reachFrom⟩
theorem wDX3_reachFrom : (mX3_reachFrom.1.cls ≠ "java/lang/invoke/MethodHandle" ∧ mX3_reachFrom.1.cls ≠ "java/lang/invoke/VarHandle") ∧ (parseMethodDescriptor mX3_reachFrom.1.desc).map (fun d => d.parameters.length) = some 3 := by decide +kernel
theorem wPX3_reachFrom : plainName mX3_reachFrom.1.cls = true := by decide +kernel
abbrev mX2_closureTellsWalks : zz_M := (yX2_closureTellsWalks, cX2_closureTellsWalks, 4, (some .boolean), RX2, [])
theorem wYX2_closureTellsWalks : mX2_closureTellsWalks.2.2.2.2.2 = [] ∧ mX2_closureTellsWalks.2.2.1 ≤ 21 ∧ Cond.instanceMethod mX2_closureTellsWalks.1 ∈ zz_g ∧ Cond.selects mX2_closureTellsWalks.1.cls mX2_closureTellsWalks.1 mX2_closureTellsWalks.1 ∈ zz_g ∧ Cond.initialized mX2_closureTellsWalks.1.cls ∈ zz_g ∧ Cond.code mX2_closureTellsWalks.1 mX2_closureTellsWalks.2.1 mX2_closureTellsWalks.2.2.1 mX2_closureTellsWalks.2.2.2.1 ∈ zz_g := ⟨rfl, by decide, zw_i_X2_closureTellsWalks, zw_s_X2_closureTellsWalks, zw_n_X2, zw_c_X2_closureTellsWalks⟩
theorem wDX2_closureTellsWalks : (mX2_closureTellsWalks.1.cls ≠ "java/lang/invoke/MethodHandle" ∧ mX2_closureTellsWalks.1.cls ≠ "java/lang/invoke/VarHandle") ∧ (parseMethodDescriptor mX2_closureTellsWalks.1.desc).map (fun d => d.parameters.length) = some 1 := by decide +kernel
theorem wPX2_closureTellsWalks : plainName mX2_closureTellsWalks.1.cls = true := by decide +kernel
abbrev mX2_wrongUnless : zz_M := (yX2_wrongUnless, cX2_wrongUnless, 1, (some .int), RX2, [])
theorem wYX2_wrongUnless : mX2_wrongUnless.2.2.2.2.2 = [] ∧ mX2_wrongUnless.2.2.1 ≤ 21 ∧ Cond.static mX2_wrongUnless.1 ∈ zz_g ∧ Cond.initialized mX2_wrongUnless.1.cls ∈ zz_g ∧ Cond.code mX2_wrongUnless.1 mX2_wrongUnless.2.1 mX2_wrongUnless.2.2.1 mX2_wrongUnless.2.2.2.1 ∈ zz_g := ⟨rfl, by decide, zw_t_X2_wrongUnless, zw_n_X2, zw_c_X2_wrongUnless⟩
theorem wDX2_wrongUnless : (mX2_wrongUnless.1.cls ≠ "java/lang/invoke/MethodHandle" ∧ mX2_wrongUnless.1.cls ≠ "java/lang/invoke/VarHandle") ∧ (parseMethodDescriptor mX2_wrongUnless.1.desc).map (fun d => d.parameters.length) = some 1 := by decide +kernel
theorem wPX2_wrongUnless : plainName mX2_wrongUnless.1.cls = true := by decide +kernel
abbrev mX2_classesPartElements : zz_M := (yX2_classesPartElements, cX2_classesPartElements, 6, (some .boolean), RX2, [])
theorem wYX2_classesPartElements : mX2_classesPartElements.2.2.2.2.2 = [] ∧ mX2_classesPartElements.2.2.1 ≤ 21 ∧ Cond.instanceMethod mX2_classesPartElements.1 ∈ zz_g ∧ Cond.selects mX2_classesPartElements.1.cls mX2_classesPartElements.1 mX2_classesPartElements.1 ∈ zz_g ∧ Cond.initialized mX2_classesPartElements.1.cls ∈ zz_g ∧ Cond.code mX2_classesPartElements.1 mX2_classesPartElements.2.1 mX2_classesPartElements.2.2.1 mX2_classesPartElements.2.2.2.1 ∈ zz_g := ⟨rfl, by decide, zw_i_X2_classesPartElements, zw_s_X2_classesPartElements, zw_n_X2, zw_c_X2_classesPartElements⟩
theorem wDX2_classesPartElements : (mX2_classesPartElements.1.cls ≠ "java/lang/invoke/MethodHandle" ∧ mX2_classesPartElements.1.cls ≠ "java/lang/invoke/VarHandle") ∧ (parseMethodDescriptor mX2_classesPartElements.1.desc).map (fun d => d.parameters.length) = some 0 := by decide +kernel
theorem wPX2_classesPartElements : plainName mX2_classesPartElements.1.cls = true := by decide +kernel
abbrev mX3_findOrder : zz_M := (yX3_findOrder, cX3_findOrder, 5, (some .boolean), RX3, [])
theorem wYX3_findOrder : mX3_findOrder.2.2.2.2.2 = [] ∧ mX3_findOrder.2.2.1 ≤ 21 ∧ Cond.instanceMethod mX3_findOrder.1 ∈ zz_g ∧ Cond.selects mX3_findOrder.1.cls mX3_findOrder.1 mX3_findOrder.1 ∈ zz_g ∧ Cond.initialized mX3_findOrder.1.cls ∈ zz_g ∧ Cond.code mX3_findOrder.1 mX3_findOrder.2.1 mX3_findOrder.2.2.1 mX3_findOrder.2.2.2.1 ∈ zz_g := ⟨rfl, by decide, zw_i_X3_findOrder, zw_s_X3_findOrder, zw_n_X3, zw_c_X3_findOrder⟩
theorem wDX3_findOrder : (mX3_findOrder.1.cls ≠ "java/lang/invoke/MethodHandle" ∧ mX3_findOrder.1.cls ≠ "java/lang/invoke/VarHandle") ∧ (parseMethodDescriptor mX3_findOrder.1.desc).map (fun d => d.parameters.length) = some 1 := by decide +kernel
theorem wPX3_findOrder : plainName mX3_findOrder.1.cls = true := by decide +kernel
abbrev mX3_orderedAt : zz_M := (yX3_orderedAt, cX3_orderedAt, 2, (some .int), RX3, [])
theorem wYX3_orderedAt : mX3_orderedAt.2.2.2.2.2 = [] ∧ mX3_orderedAt.2.2.1 ≤ 21 ∧ Cond.instanceMethod mX3_orderedAt.1 ∈ zz_g ∧ Cond.selects mX3_orderedAt.1.cls mX3_orderedAt.1 mX3_orderedAt.1 ∈ zz_g ∧ Cond.initialized mX3_orderedAt.1.cls ∈ zz_g ∧ Cond.code mX3_orderedAt.1 mX3_orderedAt.2.1 mX3_orderedAt.2.2.1 mX3_orderedAt.2.2.2.1 ∈ zz_g := ⟨rfl, by decide, zw_i_X3_orderedAt, zw_s_X3_orderedAt, zw_n_X3, zw_c_X3_orderedAt⟩
theorem wDX3_orderedAt : (mX3_orderedAt.1.cls ≠ "java/lang/invoke/MethodHandle" ∧ mX3_orderedAt.1.cls ≠ "java/lang/invoke/VarHandle") ∧ (parseMethodDescriptor mX3_orderedAt.1.desc).map (fun d => d.parameters.length) = some 1 := by decide +kernel
theorem wPX3_orderedAt : plainName mX3_orderedAt.1.cls = true := by decide +kernel
abbrev mX2_orderKeeps : zz_M := (yX2_orderKeeps, cX2_orderKeeps, 7, (some .boolean), RX2, [])
theorem wYX2_orderKeeps : mX2_orderKeeps.2.2.2.2.2 = [] ∧ mX2_orderKeeps.2.2.1 ≤ 21 ∧ Cond.instanceMethod mX2_orderKeeps.1 ∈ zz_g ∧ Cond.selects mX2_orderKeeps.1.cls mX2_orderKeeps.1 mX2_orderKeeps.1 ∈ zz_g ∧ Cond.initialized mX2_orderKeeps.1.cls ∈ zz_g ∧ Cond.code mX2_orderKeeps.1 mX2_orderKeeps.2.1 mX2_orderKeeps.2.2.1 mX2_orderKeeps.2.2.2.1 ∈ zz_g := ⟨rfl, by decide, zw_i_X2_orderKeeps, zw_s_X2_orderKeeps, zw_n_X2, zw_c_X2_orderKeeps⟩
theorem wDX2_orderKeeps : (mX2_orderKeeps.1.cls ≠ "java/lang/invoke/MethodHandle" ∧ mX2_orderKeeps.1.cls ≠ "java/lang/invoke/VarHandle") ∧ (parseMethodDescriptor mX2_orderKeeps.1.desc).map (fun d => d.parameters.length) = some 1 := by decide +kernel
theorem wPX2_orderKeeps : plainName mX2_orderKeeps.1.cls = true := by decide +kernel
abbrev mX2_coversGiveClosure : zz_M := (yX2_coversGiveClosure, cX2_coversGiveClosure, 1, (some .boolean), RX2, [])
theorem wYX2_coversGiveClosure : mX2_coversGiveClosure.2.2.2.2.2 = [] ∧ mX2_coversGiveClosure.2.2.1 ≤ 21 ∧ Cond.instanceMethod mX2_coversGiveClosure.1 ∈ zz_g ∧ Cond.selects mX2_coversGiveClosure.1.cls mX2_coversGiveClosure.1 mX2_coversGiveClosure.1 ∈ zz_g ∧ Cond.initialized mX2_coversGiveClosure.1.cls ∈ zz_g ∧ Cond.code mX2_coversGiveClosure.1 mX2_coversGiveClosure.2.1 mX2_coversGiveClosure.2.2.1 mX2_coversGiveClosure.2.2.2.1 ∈ zz_g := ⟨rfl, by decide, zw_i_X2_coversGiveClosure, zw_s_X2_coversGiveClosure, zw_n_X2, zw_c_X2_coversGiveClosure⟩
theorem wDX2_coversGiveClosure : (mX2_coversGiveClosure.1.cls ≠ "java/lang/invoke/MethodHandle" ∧ mX2_coversGiveClosure.1.cls ≠ "java/lang/invoke/VarHandle") ∧ (parseMethodDescriptor mX2_coversGiveClosure.1.desc).map (fun d => d.parameters.length) = some 0 := by decide +kernel
theorem wPX2_coversGiveClosure : plainName mX2_coversGiveClosure.1.cls = true := by decide +kernel
abbrev mX2_wrongOfOne : zz_M := (yX2_wrongOfOne, cX2_wrongOfOne, 2, (some .int), RX2, [])
theorem wYX2_wrongOfOne : mX2_wrongOfOne.2.2.2.2.2 = [] ∧ mX2_wrongOfOne.2.2.1 ≤ 21 ∧ Cond.instanceMethod mX2_wrongOfOne.1 ∈ zz_g ∧ Cond.selects mX2_wrongOfOne.1.cls mX2_wrongOfOne.1 mX2_wrongOfOne.1 ∈ zz_g ∧ Cond.initialized mX2_wrongOfOne.1.cls ∈ zz_g ∧ Cond.code mX2_wrongOfOne.1 mX2_wrongOfOne.2.1 mX2_wrongOfOne.2.2.1 mX2_wrongOfOne.2.2.2.1 ∈ zz_g := ⟨rfl, by decide, zw_i_X2_wrongOfOne, zw_s_X2_wrongOfOne, zw_n_X2, zw_c_X2_wrongOfOne⟩
theorem wDX2_wrongOfOne : (mX2_wrongOfOne.1.cls ≠ "java/lang/invoke/MethodHandle" ∧ mX2_wrongOfOne.1.cls ≠ "java/lang/invoke/VarHandle") ∧ (parseMethodDescriptor mX2_wrongOfOne.1.desc).map (fun d => d.parameters.length) = some 1 := by decide +kernel
theorem wPX2_wrongOfOne : plainName mX2_wrongOfOne.1.cls = true := by decide +kernel
abbrev mX2_isAssociative : zz_M := (yX2_isAssociative, cX2_isAssociative, 4, (some .boolean), RX2, [])
theorem wYX2_isAssociative : mX2_isAssociative.2.2.2.2.2 = [] ∧ mX2_isAssociative.2.2.1 ≤ 21 ∧ Cond.instanceMethod mX2_isAssociative.1 ∈ zz_g ∧ Cond.selects mX2_isAssociative.1.cls mX2_isAssociative.1 mX2_isAssociative.1 ∈ zz_g ∧ Cond.initialized mX2_isAssociative.1.cls ∈ zz_g ∧ Cond.code mX2_isAssociative.1 mX2_isAssociative.2.1 mX2_isAssociative.2.2.1 mX2_isAssociative.2.2.2.1 ∈ zz_g := ⟨rfl, by decide, zw_i_X2_isAssociative, zw_s_X2_isAssociative, zw_n_X2, zw_c_X2_isAssociative⟩
theorem wDX2_isAssociative : (mX2_isAssociative.1.cls ≠ "java/lang/invoke/MethodHandle" ∧ mX2_isAssociative.1.cls ≠ "java/lang/invoke/VarHandle") ∧ (parseMethodDescriptor mX2_isAssociative.1.desc).map (fun d => d.parameters.length) = some 3 := by decide +kernel
theorem wPX2_isAssociative : plainName mX2_isAssociative.1.cls = true := by decide +kernel
abbrev mX2_distributesBefore : zz_M := (yX2_distributesBefore, cX2_distributesBefore, 4, (some .boolean), RX2, [])
theorem wYX2_distributesBefore : mX2_distributesBefore.2.2.2.2.2 = [] ∧ mX2_distributesBefore.2.2.1 ≤ 21 ∧ Cond.instanceMethod mX2_distributesBefore.1 ∈ zz_g ∧ Cond.selects mX2_distributesBefore.1.cls mX2_distributesBefore.1 mX2_distributesBefore.1 ∈ zz_g ∧ Cond.initialized mX2_distributesBefore.1.cls ∈ zz_g ∧ Cond.code mX2_distributesBefore.1 mX2_distributesBefore.2.1 mX2_distributesBefore.2.2.1 mX2_distributesBefore.2.2.2.1 ∈ zz_g := ⟨rfl, by decide, zw_i_X2_distributesBefore, zw_s_X2_distributesBefore, zw_n_X2, zw_c_X2_distributesBefore⟩
theorem wDX2_distributesBefore : (mX2_distributesBefore.1.cls ≠ "java/lang/invoke/MethodHandle" ∧ mX2_distributesBefore.1.cls ≠ "java/lang/invoke/VarHandle") ∧ (parseMethodDescriptor mX2_distributesBefore.1.desc).map (fun d => d.parameters.length) = some 3 := by decide +kernel
theorem wPX2_distributesBefore : plainName mX2_distributesBefore.1.cls = true := by decide +kernel
abbrev mX2_distributesBehind : zz_M := (yX2_distributesBehind, cX2_distributesBehind, 4, (some .boolean), RX2, [])
theorem wYX2_distributesBehind : mX2_distributesBehind.2.2.2.2.2 = [] ∧ mX2_distributesBehind.2.2.1 ≤ 21 ∧ Cond.instanceMethod mX2_distributesBehind.1 ∈ zz_g ∧ Cond.selects mX2_distributesBehind.1.cls mX2_distributesBehind.1 mX2_distributesBehind.1 ∈ zz_g ∧ Cond.initialized mX2_distributesBehind.1.cls ∈ zz_g ∧ Cond.code mX2_distributesBehind.1 mX2_distributesBehind.2.1 mX2_distributesBehind.2.2.1 mX2_distributesBehind.2.2.2.1 ∈ zz_g := ⟨rfl, by decide, zw_i_X2_distributesBehind, zw_s_X2_distributesBehind, zw_n_X2, zw_c_X2_distributesBehind⟩
theorem wDX2_distributesBehind : (mX2_distributesBehind.1.cls ≠ "java/lang/invoke/MethodHandle" ∧ mX2_distributesBehind.1.cls ≠ "java/lang/invoke/VarHandle") ∧ (parseMethodDescriptor mX2_distributesBehind.1.desc).map (fun d => d.parameters.length) = some 3 := by decide +kernel
theorem wPX2_distributesBehind : plainName mX2_distributesBehind.1.cls = true := by decide +kernel
abbrev mX2_wrongOfThree : zz_M := (yX2_wrongOfThree, cX2_wrongOfThree, 4, (some .int), RX2, [])
theorem wYX2_wrongOfThree : mX2_wrongOfThree.2.2.2.2.2 = [] ∧ mX2_wrongOfThree.2.2.1 ≤ 21 ∧ Cond.instanceMethod mX2_wrongOfThree.1 ∈ zz_g ∧ Cond.selects mX2_wrongOfThree.1.cls mX2_wrongOfThree.1 mX2_wrongOfThree.1 ∈ zz_g ∧ Cond.initialized mX2_wrongOfThree.1.cls ∈ zz_g ∧ Cond.code mX2_wrongOfThree.1 mX2_wrongOfThree.2.1 mX2_wrongOfThree.2.2.1 mX2_wrongOfThree.2.2.2.1 ∈ zz_g := ⟨rfl, by decide, zw_i_X2_wrongOfThree, zw_s_X2_wrongOfThree, zw_n_X2, zw_c_X2_wrongOfThree⟩
theorem wDX2_wrongOfThree : (mX2_wrongOfThree.1.cls ≠ "java/lang/invoke/MethodHandle" ∧ mX2_wrongOfThree.1.cls ≠ "java/lang/invoke/VarHandle") ∧ (parseMethodDescriptor mX2_wrongOfThree.1.desc).map (fun d => d.parameters.length) = some 3 := by decide +kernel
theorem wPX2_wrongOfThree : plainName mX2_wrongOfThree.1.cls = true := by decide +kernel
abbrev mX3_stepsBetween : zz_M := (yX3_stepsBetween, cX3_stepsBetween, 6, (some .int), RX3, [])
theorem wYX3_stepsBetween : mX3_stepsBetween.2.2.2.2.2 = [] ∧ mX3_stepsBetween.2.2.1 ≤ 21 ∧ Cond.instanceMethod mX3_stepsBetween.1 ∈ zz_g ∧ Cond.selects mX3_stepsBetween.1.cls mX3_stepsBetween.1 mX3_stepsBetween.1 ∈ zz_g ∧ Cond.initialized mX3_stepsBetween.1.cls ∈ zz_g ∧ Cond.code mX3_stepsBetween.1 mX3_stepsBetween.2.1 mX3_stepsBetween.2.2.1 mX3_stepsBetween.2.2.2.1 ∈ zz_g := ⟨rfl, by decide, zw_i_X3_stepsBetween, zw_s_X3_stepsBetween, zw_n_X3, zw_c_X3_stepsBetween⟩
theorem wDX3_stepsBetween : (mX3_stepsBetween.1.cls ≠ "java/lang/invoke/MethodHandle" ∧ mX3_stepsBetween.1.cls ≠ "java/lang/invoke/VarHandle") ∧ (parseMethodDescriptor mX3_stepsBetween.1.desc).map (fun d => d.parameters.length) = some 3 := by decide +kernel
theorem wPX3_stepsBetween : plainName mX3_stepsBetween.1.cls = true := by decide +kernel
abbrev mX3_longest : zz_M := (yX3_longest, cX3_longest, 4, (some .int), RX3, [])
theorem wYX3_longest : mX3_longest.2.2.2.2.2 = [] ∧ mX3_longest.2.2.1 ≤ 21 ∧ Cond.instanceMethod mX3_longest.1 ∈ zz_g ∧ Cond.selects mX3_longest.1.cls mX3_longest.1 mX3_longest.1 ∈ zz_g ∧ Cond.initialized mX3_longest.1.cls ∈ zz_g ∧ Cond.code mX3_longest.1 mX3_longest.2.1 mX3_longest.2.2.1 mX3_longest.2.2.2.1 ∈ zz_g := ⟨rfl, by decide, zw_i_X3_longest, zw_s_X3_longest, zw_n_X3, zw_c_X3_longest⟩
theorem wDX3_longest : (mX3_longest.1.cls ≠ "java/lang/invoke/MethodHandle" ∧ mX3_longest.1.cls ≠ "java/lang/invoke/VarHandle") ∧ (parseMethodDescriptor mX3_longest.1.desc).map (fun d => d.parameters.length) = some 1 := by decide +kernel
theorem wPX3_longest : plainName mX3_longest.1.cls = true := by decide +kernel
abbrev mX4_init : zz_M := (yX4_init, cX4_init, 2, none, RX4, [])
abbrev mX4_relationAt : zz_M := (yX4_relationAt, cX4_relationAt, 2, (some (.object "Relationrows$Relation")), RX4, [])
theorem wYX4_relationAt : mX4_relationAt.2.2.2.2.2 = [] ∧ mX4_relationAt.2.2.1 ≤ 21 ∧ Cond.instanceMethod mX4_relationAt.1 ∈ zz_g ∧ Cond.selects mX4_relationAt.1.cls mX4_relationAt.1 mX4_relationAt.1 ∈ zz_g ∧ Cond.initialized mX4_relationAt.1.cls ∈ zz_g ∧ Cond.code mX4_relationAt.1 mX4_relationAt.2.1 mX4_relationAt.2.2.1 mX4_relationAt.2.2.2.1 ∈ zz_g := ⟨rfl, by decide, zw_i_X4_relationAt, zw_s_X4_relationAt, zw_n_X4, zw_c_X4_relationAt⟩
theorem wDX4_relationAt : (mX4_relationAt.1.cls ≠ "java/lang/invoke/MethodHandle" ∧ mX4_relationAt.1.cls ≠ "java/lang/invoke/VarHandle") ∧ (parseMethodDescriptor mX4_relationAt.1.desc).map (fun d => d.parameters.length) = some 1 := by decide +kernel
theorem wPX4_relationAt : plainName mX4_relationAt.1.cls = true := by decide +kernel
abbrev mX4_begin : zz_M := (yX4_begin, cX4_begin, 4, (some .int), RX4, [])
theorem wYX4_begin : mX4_begin.2.2.2.2.2 = [] ∧ mX4_begin.2.2.1 ≤ 21 ∧ Cond.instanceMethod mX4_begin.1 ∈ zz_g ∧ Cond.selects mX4_begin.1.cls mX4_begin.1 mX4_begin.1 ∈ zz_g ∧ Cond.initialized mX4_begin.1.cls ∈ zz_g ∧ Cond.code mX4_begin.1 mX4_begin.2.1 mX4_begin.2.2.1 mX4_begin.2.2.2.1 ∈ zz_g := ⟨rfl, by decide, zw_i_X4_begin, zw_s_X4_begin, zw_n_X4, zw_c_X4_begin⟩
theorem wDX4_begin : (mX4_begin.1.cls ≠ "java/lang/invoke/MethodHandle" ∧ mX4_begin.1.cls ≠ "java/lang/invoke/VarHandle") ∧ (parseMethodDescriptor mX4_begin.1.desc).map (fun d => d.parameters.length) = some 1 := by decide +kernel
theorem wPX4_begin : plainName mX4_begin.1.cls = true := by decide +kernel
abbrev mX4_checkElement : zz_M := (yX4_checkElement, cX4_checkElement, 2, none, RX4, [])
theorem wYX4_checkElement : mX4_checkElement.2.2.2.2.2 = [] ∧ mX4_checkElement.2.2.1 ≤ 21 ∧ Cond.instanceMethod mX4_checkElement.1 ∈ zz_g ∧ Cond.selects mX4_checkElement.1.cls mX4_checkElement.1 mX4_checkElement.1 ∈ zz_g ∧ Cond.initialized mX4_checkElement.1.cls ∈ zz_g ∧ Cond.code mX4_checkElement.1 mX4_checkElement.2.1 mX4_checkElement.2.2.1 mX4_checkElement.2.2.2.1 ∈ zz_g := ⟨rfl, by decide, zw_i_X4_checkElement, zw_s_X4_checkElement, zw_n_X4, zw_c_X4_checkElement⟩
theorem wDX4_checkElement : (mX4_checkElement.1.cls ≠ "java/lang/invoke/MethodHandle" ∧ mX4_checkElement.1.cls ≠ "java/lang/invoke/VarHandle") ∧ (parseMethodDescriptor mX4_checkElement.1.desc).map (fun d => d.parameters.length) = some 1 := by decide +kernel
theorem wPX4_checkElement : plainName mX4_checkElement.1.cls = true := by decide +kernel
abbrev mX4_set : zz_M := (yX4_set, cX4_set, 7, (some .boolean), RX4, [])
theorem wYX4_set : mX4_set.2.2.2.2.2 = [] ∧ mX4_set.2.2.1 ≤ 21 ∧ Cond.instanceMethod mX4_set.1 ∈ zz_g ∧ Cond.selects mX4_set.1.cls mX4_set.1 mX4_set.1 ∈ zz_g ∧ Cond.initialized mX4_set.1.cls ∈ zz_g ∧ Cond.code mX4_set.1 mX4_set.2.1 mX4_set.2.2.1 mX4_set.2.2.2.1 ∈ zz_g := ⟨rfl, by decide, zw_i_X4_set, zw_s_X4_set, zw_n_X4, zw_c_X4_set⟩
theorem wDX4_set : (mX4_set.1.cls ≠ "java/lang/invoke/MethodHandle" ∧ mX4_set.1.cls ≠ "java/lang/invoke/VarHandle") ∧ (parseMethodDescriptor mX4_set.1.desc).map (fun d => d.parameters.length) = some 4 := by decide +kernel
theorem wPX4_set : plainName mX4_set.1.cls = true := by decide +kernel
abbrev mX4_checkRange : zz_M := (yX4_checkRange, cX4_checkRange, 3, none, RX4, [])
theorem wYX4_checkRange : mX4_checkRange.2.2.2.2.2 = [] ∧ mX4_checkRange.2.2.1 ≤ 21 ∧ Cond.instanceMethod mX4_checkRange.1 ∈ zz_g ∧ Cond.selects mX4_checkRange.1.cls mX4_checkRange.1 mX4_checkRange.1 ∈ zz_g ∧ Cond.initialized mX4_checkRange.1.cls ∈ zz_g ∧ Cond.code mX4_checkRange.1 mX4_checkRange.2.1 mX4_checkRange.2.2.1 mX4_checkRange.2.2.2.1 ∈ zz_g := ⟨rfl, by decide, zw_i_X4_checkRange, zw_s_X4_checkRange, zw_n_X4, zw_c_X4_checkRange⟩
theorem wDX4_checkRange : (mX4_checkRange.1.cls ≠ "java/lang/invoke/MethodHandle" ∧ mX4_checkRange.1.cls ≠ "java/lang/invoke/VarHandle") ∧ (parseMethodDescriptor mX4_checkRange.1.desc).map (fun d => d.parameters.length) = some 2 := by decide +kernel
theorem wPX4_checkRange : plainName mX4_checkRange.1.cls = true := by decide +kernel
abbrev mX4_setRange : zz_M := (yX4_setRange, cX4_setRange, 7, (some .int), RX4, [])
theorem wYX4_setRange : mX4_setRange.2.2.2.2.2 = [] ∧ mX4_setRange.2.2.1 ≤ 21 ∧ Cond.instanceMethod mX4_setRange.1 ∈ zz_g ∧ Cond.selects mX4_setRange.1.cls mX4_setRange.1 mX4_setRange.1 ∈ zz_g ∧ Cond.initialized mX4_setRange.1.cls ∈ zz_g ∧ Cond.code mX4_setRange.1 mX4_setRange.2.1 mX4_setRange.2.2.1 mX4_setRange.2.2.2.1 ∈ zz_g := ⟨rfl, by decide, zw_i_X4_setRange, zw_s_X4_setRange, zw_n_X4, zw_c_X4_setRange⟩
theorem wDX4_setRange : (mX4_setRange.1.cls ≠ "java/lang/invoke/MethodHandle" ∧ mX4_setRange.1.cls ≠ "java/lang/invoke/VarHandle") ∧ (parseMethodDescriptor mX4_setRange.1.desc).map (fun d => d.parameters.length) = some 5 := by decide +kernel
theorem wPX4_setRange : plainName mX4_setRange.1.cls = true := by decide +kernel
abbrev mX4_flipRange : zz_M := (yX4_flipRange, cX4_flipRange, 6, (some .int), RX4, [])
theorem wYX4_flipRange : mX4_flipRange.2.2.2.2.2 = [] ∧ mX4_flipRange.2.2.1 ≤ 21 ∧ Cond.instanceMethod mX4_flipRange.1 ∈ zz_g ∧ Cond.selects mX4_flipRange.1.cls mX4_flipRange.1 mX4_flipRange.1 ∈ zz_g ∧ Cond.initialized mX4_flipRange.1.cls ∈ zz_g ∧ Cond.code mX4_flipRange.1 mX4_flipRange.2.1 mX4_flipRange.2.2.1 mX4_flipRange.2.2.2.1 ∈ zz_g := ⟨rfl, by decide, zw_i_X4_flipRange, zw_s_X4_flipRange, zw_n_X4, zw_c_X4_flipRange⟩
theorem wDX4_flipRange : (mX4_flipRange.1.cls ≠ "java/lang/invoke/MethodHandle" ∧ mX4_flipRange.1.cls ≠ "java/lang/invoke/VarHandle") ∧ (parseMethodDescriptor mX4_flipRange.1.desc).map (fun d => d.parameters.length) = some 4 := by decide +kernel
theorem wPX4_flipRange : plainName mX4_flipRange.1.cls = true := by decide +kernel
abbrev mX4_setRow : zz_M := (yX4_setRow, cX4_setRow, 6, (some .int), RX4, [])
theorem wYX4_setRow : mX4_setRow.2.2.2.2.2 = [] ∧ mX4_setRow.2.2.1 ≤ 21 ∧ Cond.instanceMethod mX4_setRow.1 ∈ zz_g ∧ Cond.selects mX4_setRow.1.cls mX4_setRow.1 mX4_setRow.1 ∈ zz_g ∧ Cond.initialized mX4_setRow.1.cls ∈ zz_g ∧ Cond.code mX4_setRow.1 mX4_setRow.2.1 mX4_setRow.2.2.1 mX4_setRow.2.2.2.1 ∈ zz_g := ⟨rfl, by decide, zw_i_X4_setRow, zw_s_X4_setRow, zw_n_X4, zw_c_X4_setRow⟩
theorem wDX4_setRow : (mX4_setRow.1.cls ≠ "java/lang/invoke/MethodHandle" ∧ mX4_setRow.1.cls ≠ "java/lang/invoke/VarHandle") ∧ (parseMethodDescriptor mX4_setRow.1.desc).map (fun d => d.parameters.length) = some 3 := by decide +kernel
theorem wPX4_setRow : plainName mX4_setRow.1.cls = true := by decide +kernel
abbrev mX4_chain : zz_M := (yX4_chain, cX4_chain, 4, (some .int), RX4, [])
theorem wYX4_chain : mX4_chain.2.2.2.2.2 = [] ∧ mX4_chain.2.2.1 ≤ 21 ∧ Cond.instanceMethod mX4_chain.1 ∈ zz_g ∧ Cond.selects mX4_chain.1.cls mX4_chain.1 mX4_chain.1 ∈ zz_g ∧ Cond.initialized mX4_chain.1.cls ∈ zz_g ∧ Cond.code mX4_chain.1 mX4_chain.2.1 mX4_chain.2.2.1 mX4_chain.2.2.2.1 ∈ zz_g := ⟨rfl, by decide, zw_i_X4_chain, zw_s_X4_chain, zw_n_X4, zw_c_X4_chain⟩
theorem wDX4_chain : (mX4_chain.1.cls ≠ "java/lang/invoke/MethodHandle" ∧ mX4_chain.1.cls ≠ "java/lang/invoke/VarHandle") ∧ (parseMethodDescriptor mX4_chain.1.desc).map (fun d => d.parameters.length) = some 1 := by decide +kernel
theorem wPX4_chain : plainName mX4_chain.1.cls = true := by decide +kernel
abbrev mX4_seedAfter : zz_M := (yX4_seedAfter, cX4_seedAfter, 1, (some .int), RX4, [])
theorem wYX4_seedAfter : mX4_seedAfter.2.2.2.2.2 = [] ∧ mX4_seedAfter.2.2.1 ≤ 21 ∧ Cond.static mX4_seedAfter.1 ∈ zz_g ∧ Cond.initialized mX4_seedAfter.1.cls ∈ zz_g ∧ Cond.code mX4_seedAfter.1 mX4_seedAfter.2.1 mX4_seedAfter.2.2.1 mX4_seedAfter.2.2.2.1 ∈ zz_g := ⟨rfl, by decide, zw_t_X4_seedAfter, zw_n_X4, zw_c_X4_seedAfter⟩
theorem wDX4_seedAfter : (mX4_seedAfter.1.cls ≠ "java/lang/invoke/MethodHandle" ∧ mX4_seedAfter.1.cls ≠ "java/lang/invoke/VarHandle") ∧ (parseMethodDescriptor mX4_seedAfter.1.desc).map (fun d => d.parameters.length) = some 1 := by decide +kernel
theorem wPX4_seedAfter : plainName mX4_seedAfter.1.cls = true := by decide +kernel
abbrev mX4_elementOf : zz_M := (yX4_elementOf, cX4_elementOf, 2, (some .int), RX4, [])
theorem wYX4_elementOf : mX4_elementOf.2.2.2.2.2 = [] ∧ mX4_elementOf.2.2.1 ≤ 21 ∧ Cond.instanceMethod mX4_elementOf.1 ∈ zz_g ∧ Cond.selects mX4_elementOf.1.cls mX4_elementOf.1 mX4_elementOf.1 ∈ zz_g ∧ Cond.initialized mX4_elementOf.1.cls ∈ zz_g ∧ Cond.code mX4_elementOf.1 mX4_elementOf.2.1 mX4_elementOf.2.2.1 mX4_elementOf.2.2.2.1 ∈ zz_g := ⟨rfl, by decide, zw_i_X4_elementOf, zw_s_X4_elementOf, zw_n_X4, zw_c_X4_elementOf⟩
theorem wDX4_elementOf : (mX4_elementOf.1.cls ≠ "java/lang/invoke/MethodHandle" ∧ mX4_elementOf.1.cls ≠ "java/lang/invoke/VarHandle") ∧ (parseMethodDescriptor mX4_elementOf.1.desc).map (fun d => d.parameters.length) = some 1 := by decide +kernel
theorem wPX4_elementOf : plainName mX4_elementOf.1.cls = true := by decide +kernel
abbrev mX4_draw : zz_M := (yX4_draw, cX4_draw, 8, (some .int), RX4, [])
theorem wYX4_draw : mX4_draw.2.2.2.2.2 = [] ∧ mX4_draw.2.2.1 ≤ 21 ∧ Cond.instanceMethod mX4_draw.1 ∈ zz_g ∧ Cond.selects mX4_draw.1.cls mX4_draw.1 mX4_draw.1 ∈ zz_g ∧ Cond.initialized mX4_draw.1.cls ∈ zz_g ∧ Cond.code mX4_draw.1 mX4_draw.2.1 mX4_draw.2.2.1 mX4_draw.2.2.2.1 ∈ zz_g := ⟨rfl, by decide, zw_i_X4_draw, zw_s_X4_draw, zw_n_X4, zw_c_X4_draw⟩
theorem wDX4_draw : (mX4_draw.1.cls ≠ "java/lang/invoke/MethodHandle" ∧ mX4_draw.1.cls ≠ "java/lang/invoke/VarHandle") ∧ (parseMethodDescriptor mX4_draw.1.desc).map (fun d => d.parameters.length) = some 3 := by decide +kernel
theorem wPX4_draw : plainName mX4_draw.1.cls = true := by decide +kernel
abbrev mX4_copy : zz_M := (yX4_copy, cX4_copy, 5, (some .int), RX4, [])
theorem wYX4_copy : mX4_copy.2.2.2.2.2 = [] ∧ mX4_copy.2.2.1 ≤ 21 ∧ Cond.instanceMethod mX4_copy.1 ∈ zz_g ∧ Cond.selects mX4_copy.1.cls mX4_copy.1 mX4_copy.1 ∈ zz_g ∧ Cond.initialized mX4_copy.1.cls ∈ zz_g ∧ Cond.code mX4_copy.1 mX4_copy.2.1 mX4_copy.2.2.1 mX4_copy.2.2.2.1 ∈ zz_g := ⟨rfl, by decide, zw_i_X4_copy, zw_s_X4_copy, zw_n_X4, zw_c_X4_copy⟩
theorem wDX4_copy : (mX4_copy.1.cls ≠ "java/lang/invoke/MethodHandle" ∧ mX4_copy.1.cls ≠ "java/lang/invoke/VarHandle") ∧ (parseMethodDescriptor mX4_copy.1.desc).map (fun d => d.parameters.length) = some 2 := by decide +kernel
theorem wPX4_copy : plainName mX4_copy.1.cls = true := by decide +kernel
abbrev mX4_combine : zz_M := (yX4_combine, cX4_combine, 6, (some .int), RX4, [])
theorem wYX4_combine : mX4_combine.2.2.2.2.2 = [] ∧ mX4_combine.2.2.1 ≤ 21 ∧ Cond.instanceMethod mX4_combine.1 ∈ zz_g ∧ Cond.selects mX4_combine.1.cls mX4_combine.1 mX4_combine.1 ∈ zz_g ∧ Cond.initialized mX4_combine.1.cls ∈ zz_g ∧ Cond.code mX4_combine.1 mX4_combine.2.1 mX4_combine.2.2.1 mX4_combine.2.2.2.1 ∈ zz_g := ⟨rfl, by decide, zw_i_X4_combine, zw_s_X4_combine, zw_n_X4, zw_c_X4_combine⟩
theorem wDX4_combine : (mX4_combine.1.cls ≠ "java/lang/invoke/MethodHandle" ∧ mX4_combine.1.cls ≠ "java/lang/invoke/VarHandle") ∧ (parseMethodDescriptor mX4_combine.1.desc).map (fun d => d.parameters.length) = some 3 := by decide +kernel
theorem wPX4_combine : plainName mX4_combine.1.cls = true := by decide +kernel
abbrev mX4_compose : zz_M := (yX4_compose, cX4_compose, 7, (some .int), RX4, [])
theorem wYX4_compose : mX4_compose.2.2.2.2.2 = [] ∧ mX4_compose.2.2.1 ≤ 21 ∧ Cond.instanceMethod mX4_compose.1 ∈ zz_g ∧ Cond.selects mX4_compose.1.cls mX4_compose.1 mX4_compose.1 ∈ zz_g ∧ Cond.initialized mX4_compose.1.cls ∈ zz_g ∧ Cond.code mX4_compose.1 mX4_compose.2.1 mX4_compose.2.2.1 mX4_compose.2.2.2.1 ∈ zz_g := ⟨rfl, by decide, zw_i_X4_compose, zw_s_X4_compose, zw_n_X4, zw_c_X4_compose⟩
theorem wDX4_compose : (mX4_compose.1.cls ≠ "java/lang/invoke/MethodHandle" ∧ mX4_compose.1.cls ≠ "java/lang/invoke/VarHandle") ∧ (parseMethodDescriptor mX4_compose.1.desc).map (fun d => d.parameters.length) = some 3 := by decide +kernel
theorem wPX4_compose : plainName mX4_compose.1.cls = true := by decide +kernel
abbrev mX4_turn : zz_M := (yX4_turn, cX4_turn, 3, (some .int), RX4, [])
theorem wYX4_turn : mX4_turn.2.2.2.2.2 = [] ∧ mX4_turn.2.2.1 ≤ 21 ∧ Cond.instanceMethod mX4_turn.1 ∈ zz_g ∧ Cond.selects mX4_turn.1.cls mX4_turn.1 mX4_turn.1 ∈ zz_g ∧ Cond.initialized mX4_turn.1.cls ∈ zz_g ∧ Cond.code mX4_turn.1 mX4_turn.2.1 mX4_turn.2.2.1 mX4_turn.2.2.2.1 ∈ zz_g := ⟨rfl, by decide, zw_i_X4_turn, zw_s_X4_turn, zw_n_X4, zw_c_X4_turn⟩
theorem wDX4_turn : (mX4_turn.1.cls ≠ "java/lang/invoke/MethodHandle" ∧ mX4_turn.1.cls ≠ "java/lang/invoke/VarHandle") ∧ (parseMethodDescriptor mX4_turn.1.desc).map (fun d => d.parameters.length) = some 1 := by decide +kernel
theorem wPX4_turn : plainName mX4_turn.1.cls = true := by decide +kernel
abbrev mX4_oppose : zz_M := (yX4_oppose, cX4_oppose, 3, (some .int), RX4, [])
theorem wYX4_oppose : mX4_oppose.2.2.2.2.2 = [] ∧ mX4_oppose.2.2.1 ≤ 21 ∧ Cond.instanceMethod mX4_oppose.1 ∈ zz_g ∧ Cond.selects mX4_oppose.1.cls mX4_oppose.1 mX4_oppose.1 ∈ zz_g ∧ Cond.initialized mX4_oppose.1.cls ∈ zz_g ∧ Cond.code mX4_oppose.1 mX4_oppose.2.1 mX4_oppose.2.2.1 mX4_oppose.2.2.2.1 ∈ zz_g := ⟨rfl, by decide, zw_i_X4_oppose, zw_s_X4_oppose, zw_n_X4, zw_c_X4_oppose⟩
theorem wDX4_oppose : (mX4_oppose.1.cls ≠ "java/lang/invoke/MethodHandle" ∧ mX4_oppose.1.cls ≠ "java/lang/invoke/VarHandle") ∧ (parseMethodDescriptor mX4_oppose.1.desc).map (fun d => d.parameters.length) = some 1 := by decide +kernel
theorem wPX4_oppose : plainName mX4_oppose.1.cls = true := by decide +kernel
abbrev mX4_close : zz_M := (yX4_close, cX4_close, 4, (some .int), RX4, [])
theorem wYX4_close : mX4_close.2.2.2.2.2 = [] ∧ mX4_close.2.2.1 ≤ 21 ∧ Cond.instanceMethod mX4_close.1 ∈ zz_g ∧ Cond.selects mX4_close.1.cls mX4_close.1 mX4_close.1 ∈ zz_g ∧ Cond.initialized mX4_close.1.cls ∈ zz_g ∧ Cond.code mX4_close.1 mX4_close.2.1 mX4_close.2.2.1 mX4_close.2.2.2.1 ∈ zz_g := ⟨rfl, by decide, zw_i_X4_close, zw_s_X4_close, zw_n_X4, zw_c_X4_close⟩
theorem wDX4_close : (mX4_close.1.cls ≠ "java/lang/invoke/MethodHandle" ∧ mX4_close.1.cls ≠ "java/lang/invoke/VarHandle") ∧ (parseMethodDescriptor mX4_close.1.desc).map (fun d => d.parameters.length) = some 2 := by decide +kernel
theorem wPX4_close : plainName mX4_close.1.cls = true := by decide +kernel
abbrev mX4_closeAside : zz_M := (yX4_closeAside, cX4_closeAside, 2, none, RX4, [])
theorem wYX4_closeAside : mX4_closeAside.2.2.2.2.2 = [] ∧ mX4_closeAside.2.2.1 ≤ 21 ∧ Cond.instanceMethod mX4_closeAside.1 ∈ zz_g ∧ Cond.selects mX4_closeAside.1.cls mX4_closeAside.1 mX4_closeAside.1 ∈ zz_g ∧ Cond.initialized mX4_closeAside.1.cls ∈ zz_g ∧ Cond.code mX4_closeAside.1 mX4_closeAside.2.1 mX4_closeAside.2.2.1 mX4_closeAside.2.2.2.1 ∈ zz_g := ⟨rfl, by decide, zw_i_X4_closeAside, zw_s_X4_closeAside, zw_n_X4, zw_c_X4_closeAside⟩
theorem wDX4_closeAside : (mX4_closeAside.1.cls ≠ "java/lang/invoke/MethodHandle" ∧ mX4_closeAside.1.cls ≠ "java/lang/invoke/VarHandle") ∧ (parseMethodDescriptor mX4_closeAside.1.desc).map (fun d => d.parameters.length) = some 1 := by decide +kernel
theorem wPX4_closeAside : plainName mX4_closeAside.1.cls = true := by decide +kernel
abbrev mX4_cover : zz_M := (yX4_cover, cX4_cover, 5, (some .int), RX4, [])
theorem wYX4_cover : mX4_cover.2.2.2.2.2 = [] ∧ mX4_cover.2.2.1 ≤ 21 ∧ Cond.instanceMethod mX4_cover.1 ∈ zz_g ∧ Cond.selects mX4_cover.1.cls mX4_cover.1 mX4_cover.1 ∈ zz_g ∧ Cond.initialized mX4_cover.1.cls ∈ zz_g ∧ Cond.code mX4_cover.1 mX4_cover.2.1 mX4_cover.2.2.1 mX4_cover.2.2.2.1 ∈ zz_g := ⟨rfl, by decide, zw_i_X4_cover, zw_s_X4_cover, zw_n_X4, zw_c_X4_cover⟩
theorem wDX4_cover : (mX4_cover.1.cls ≠ "java/lang/invoke/MethodHandle" ∧ mX4_cover.1.cls ≠ "java/lang/invoke/VarHandle") ∧ (parseMethodDescriptor mX4_cover.1.desc).map (fun d => d.parameters.length) = some 2 := by decide +kernel
theorem wPX4_cover : plainName mX4_cover.1.cls = true := by decide +kernel
abbrev mX4_has : zz_M := (yX4_has, cX4_has, 5, (some .boolean), RX4, [])
theorem wYX4_has : mX4_has.2.2.2.2.2 = [] ∧ mX4_has.2.2.1 ≤ 21 ∧ Cond.instanceMethod mX4_has.1 ∈ zz_g ∧ Cond.selects mX4_has.1.cls mX4_has.1 mX4_has.1 ∈ zz_g ∧ Cond.initialized mX4_has.1.cls ∈ zz_g ∧ Cond.code mX4_has.1 mX4_has.2.1 mX4_has.2.2.1 mX4_has.2.2.2.1 ∈ zz_g := ⟨rfl, by decide, zw_i_X4_has, zw_s_X4_has, zw_n_X4, zw_c_X4_has⟩
theorem wDX4_has : (mX4_has.1.cls ≠ "java/lang/invoke/MethodHandle" ∧ mX4_has.1.cls ≠ "java/lang/invoke/VarHandle") ∧ (parseMethodDescriptor mX4_has.1.desc).map (fun d => d.parameters.length) = some 3 := by decide +kernel
theorem wPX4_has : plainName mX4_has.1.cls = true := by decide +kernel
abbrev mX4_count : zz_M := (yX4_count, cX4_count, 2, (some .int), RX4, [])
theorem wYX4_count : mX4_count.2.2.2.2.2 = [] ∧ mX4_count.2.2.1 ≤ 21 ∧ Cond.instanceMethod mX4_count.1 ∈ zz_g ∧ Cond.selects mX4_count.1.cls mX4_count.1 mX4_count.1 ∈ zz_g ∧ Cond.initialized mX4_count.1.cls ∈ zz_g ∧ Cond.code mX4_count.1 mX4_count.2.1 mX4_count.2.2.1 mX4_count.2.2.2.1 ∈ zz_g := ⟨rfl, by decide, zw_i_X4_count, zw_s_X4_count, zw_n_X4, zw_c_X4_count⟩
theorem wDX4_count : (mX4_count.1.cls ≠ "java/lang/invoke/MethodHandle" ∧ mX4_count.1.cls ≠ "java/lang/invoke/VarHandle") ∧ (parseMethodDescriptor mX4_count.1.desc).map (fun d => d.parameters.length) = some 1 := by decide +kernel
theorem wPX4_count : plainName mX4_count.1.cls = true := by decide +kernel
abbrev mX4_countOf : zz_M := (yX4_countOf, cX4_countOf, 4, (some .int), RX4, [])
theorem wYX4_countOf : mX4_countOf.2.2.2.2.2 = [] ∧ mX4_countOf.2.2.1 ≤ 21 ∧ Cond.instanceMethod mX4_countOf.1 ∈ zz_g ∧ Cond.selects mX4_countOf.1.cls mX4_countOf.1 mX4_countOf.1 ∈ zz_g ∧ Cond.initialized mX4_countOf.1.cls ∈ zz_g ∧ Cond.code mX4_countOf.1 mX4_countOf.2.1 mX4_countOf.2.2.1 mX4_countOf.2.2.2.1 ∈ zz_g := ⟨rfl, by decide, zw_i_X4_countOf, zw_s_X4_countOf, zw_n_X4, zw_c_X4_countOf⟩
theorem wDX4_countOf : (mX4_countOf.1.cls ≠ "java/lang/invoke/MethodHandle" ∧ mX4_countOf.1.cls ≠ "java/lang/invoke/VarHandle") ∧ (parseMethodDescriptor mX4_countOf.1.desc).map (fun d => d.parameters.length) = some 2 := by decide +kernel
theorem wPX4_countOf : plainName mX4_countOf.1.cls = true := by decide +kernel
abbrev mX4_beside : zz_M := (yX4_beside, cX4_beside, 7, (some .int), RX4, [])
theorem wYX4_beside : mX4_beside.2.2.2.2.2 = [] ∧ mX4_beside.2.2.1 ≤ 21 ∧ Cond.instanceMethod mX4_beside.1 ∈ zz_g ∧ Cond.selects mX4_beside.1.cls mX4_beside.1 mX4_beside.1 ∈ zz_g ∧ Cond.initialized mX4_beside.1.cls ∈ zz_g ∧ Cond.code mX4_beside.1 mX4_beside.2.1 mX4_beside.2.2.1 mX4_beside.2.2.2.1 ∈ zz_g := ⟨rfl, by decide, zw_i_X4_beside, zw_s_X4_beside, zw_n_X4, zw_c_X4_beside⟩
theorem wDX4_beside : (mX4_beside.1.cls ≠ "java/lang/invoke/MethodHandle" ∧ mX4_beside.1.cls ≠ "java/lang/invoke/VarHandle") ∧ (parseMethodDescriptor mX4_beside.1.desc).map (fun d => d.parameters.length) = some 4 := by decide +kernel
theorem wPX4_beside : plainName mX4_beside.1.cls = true := by decide +kernel
abbrev mX4_wordOf : zz_M := (yX4_wordOf, cX4_wordOf, 5, (some .long), RX4, [])
theorem wYX4_wordOf : mX4_wordOf.2.2.2.2.2 = [] ∧ mX4_wordOf.2.2.1 ≤ 21 ∧ Cond.instanceMethod mX4_wordOf.1 ∈ zz_g ∧ Cond.selects mX4_wordOf.1.cls mX4_wordOf.1 mX4_wordOf.1 ∈ zz_g ∧ Cond.initialized mX4_wordOf.1.cls ∈ zz_g ∧ Cond.code mX4_wordOf.1 mX4_wordOf.2.1 mX4_wordOf.2.2.1 mX4_wordOf.2.2.2.1 ∈ zz_g := ⟨rfl, by decide, zw_i_X4_wordOf, zw_s_X4_wordOf, zw_n_X4, zw_c_X4_wordOf⟩
theorem wDX4_wordOf : (mX4_wordOf.1.cls ≠ "java/lang/invoke/MethodHandle" ∧ mX4_wordOf.1.cls ≠ "java/lang/invoke/VarHandle") ∧ (parseMethodDescriptor mX4_wordOf.1.desc).map (fun d => d.parameters.length) = some 3 := by decide +kernel
theorem wPX4_wordOf : plainName mX4_wordOf.1.cls = true := by decide +kernel
abbrev mX4_meet : zz_M := (yX4_meet, cX4_meet, 7, (some .boolean), RX4, [])
theorem wYX4_meet : mX4_meet.2.2.2.2.2 = [] ∧ mX4_meet.2.2.1 ≤ 21 ∧ Cond.instanceMethod mX4_meet.1 ∈ zz_g ∧ Cond.selects mX4_meet.1.cls mX4_meet.1 mX4_meet.1 ∈ zz_g ∧ Cond.initialized mX4_meet.1.cls ∈ zz_g ∧ Cond.code mX4_meet.1 mX4_meet.2.1 mX4_meet.2.2.1 mX4_meet.2.2.2.1 ∈ zz_g := ⟨rfl, by decide, zw_i_X4_meet, zw_s_X4_meet, zw_n_X4, zw_c_X4_meet⟩
theorem wDX4_meet : (mX4_meet.1.cls ≠ "java/lang/invoke/MethodHandle" ∧ mX4_meet.1.cls ≠ "java/lang/invoke/VarHandle") ∧ (parseMethodDescriptor mX4_meet.1.desc).map (fun d => d.parameters.length) = some 4 := by decide +kernel
theorem wPX4_meet : plainName mX4_meet.1.cls = true := by decide +kernel
abbrev mX4_compare : zz_M := (yX4_compare, cX4_compare, 7, (some .int), RX4, [])
theorem wYX4_compare : mX4_compare.2.2.2.2.2 = [] ∧ mX4_compare.2.2.1 ≤ 21 ∧ Cond.instanceMethod mX4_compare.1 ∈ zz_g ∧ Cond.selects mX4_compare.1.cls mX4_compare.1 mX4_compare.1 ∈ zz_g ∧ Cond.initialized mX4_compare.1.cls ∈ zz_g ∧ Cond.code mX4_compare.1 mX4_compare.2.1 mX4_compare.2.2.1 mX4_compare.2.2.2.1 ∈ zz_g := ⟨rfl, by decide, zw_i_X4_compare, zw_s_X4_compare, zw_n_X4, zw_c_X4_compare⟩
theorem wDX4_compare : (mX4_compare.1.cls ≠ "java/lang/invoke/MethodHandle" ∧ mX4_compare.1.cls ≠ "java/lang/invoke/VarHandle") ∧ (parseMethodDescriptor mX4_compare.1.desc).map (fun d => d.parameters.length) = some 2 := by decide +kernel
theorem wPX4_compare : plainName mX4_compare.1.cls = true := by decide +kernel
abbrev mX4_is : zz_M := (yX4_is, cX4_is, 4, (some .boolean), RX4, [])
theorem wYX4_is : mX4_is.2.2.2.2.2 = [] ∧ mX4_is.2.2.1 ≤ 21 ∧ Cond.instanceMethod mX4_is.1 ∈ zz_g ∧ Cond.selects mX4_is.1.cls mX4_is.1 mX4_is.1 ∈ zz_g ∧ Cond.initialized mX4_is.1.cls ∈ zz_g ∧ Cond.code mX4_is.1 mX4_is.2.1 mX4_is.2.2.1 mX4_is.2.2.2.1 ∈ zz_g := ⟨rfl, by decide, zw_i_X4_is, zw_s_X4_is, zw_n_X4, zw_c_X4_is⟩
theorem wDX4_is : (mX4_is.1.cls ≠ "java/lang/invoke/MethodHandle" ∧ mX4_is.1.cls ≠ "java/lang/invoke/VarHandle") ∧ (parseMethodDescriptor mX4_is.1.desc).map (fun d => d.parameters.length) = some 2 := by decide +kernel
theorem wPX4_is : plainName mX4_is.1.cls = true := by decide +kernel
abbrev mX4_steps : zz_M := (yX4_steps, cX4_steps, 5, (some .int), RX4, [])
theorem wYX4_steps : mX4_steps.2.2.2.2.2 = [] ∧ mX4_steps.2.2.1 ≤ 21 ∧ Cond.instanceMethod mX4_steps.1 ∈ zz_g ∧ Cond.selects mX4_steps.1.cls mX4_steps.1 mX4_steps.1 ∈ zz_g ∧ Cond.initialized mX4_steps.1.cls ∈ zz_g ∧ Cond.code mX4_steps.1 mX4_steps.2.1 mX4_steps.2.2.1 mX4_steps.2.2.2.1 ∈ zz_g := ⟨rfl, by decide, zw_i_X4_steps, zw_s_X4_steps, zw_n_X4, zw_c_X4_steps⟩
theorem wDX4_steps : (mX4_steps.1.cls ≠ "java/lang/invoke/MethodHandle" ∧ mX4_steps.1.cls ≠ "java/lang/invoke/VarHandle") ∧ (parseMethodDescriptor mX4_steps.1.desc).map (fun d => d.parameters.length) = some 3 := by decide +kernel
theorem wPX4_steps : plainName mX4_steps.1.cls = true := by decide +kernel
abbrev mX4_classOf : zz_M := (yX4_classOf, cX4_classOf, 4, (some .int), RX4, [])
theorem wYX4_classOf : mX4_classOf.2.2.2.2.2 = [] ∧ mX4_classOf.2.2.1 ≤ 21 ∧ Cond.instanceMethod mX4_classOf.1 ∈ zz_g ∧ Cond.selects mX4_classOf.1.cls mX4_classOf.1 mX4_classOf.1 ∈ zz_g ∧ Cond.initialized mX4_classOf.1.cls ∈ zz_g ∧ Cond.code mX4_classOf.1 mX4_classOf.2.1 mX4_classOf.2.2.1 mX4_classOf.2.2.2.1 ∈ zz_g := ⟨rfl, by decide, zw_i_X4_classOf, zw_s_X4_classOf, zw_n_X4, zw_c_X4_classOf⟩
theorem wDX4_classOf : (mX4_classOf.1.cls ≠ "java/lang/invoke/MethodHandle" ∧ mX4_classOf.1.cls ≠ "java/lang/invoke/VarHandle") ∧ (parseMethodDescriptor mX4_classOf.1.desc).map (fun d => d.parameters.length) = some 2 := by decide +kernel
theorem wPX4_classOf : plainName mX4_classOf.1.cls = true := by decide +kernel
abbrev mX4_classes : zz_M := (yX4_classes, cX4_classes, 3, (some .int), RX4, [])
theorem wYX4_classes : mX4_classes.2.2.2.2.2 = [] ∧ mX4_classes.2.2.1 ≤ 21 ∧ Cond.instanceMethod mX4_classes.1 ∈ zz_g ∧ Cond.selects mX4_classes.1.cls mX4_classes.1 mX4_classes.1 ∈ zz_g ∧ Cond.initialized mX4_classes.1.cls ∈ zz_g ∧ Cond.code mX4_classes.1 mX4_classes.2.1 mX4_classes.2.2.1 mX4_classes.2.2.2.1 ∈ zz_g := ⟨rfl, by decide, zw_i_X4_classes, zw_s_X4_classes, zw_n_X4, zw_c_X4_classes⟩
theorem wDX4_classes : (mX4_classes.1.cls ≠ "java/lang/invoke/MethodHandle" ∧ mX4_classes.1.cls ≠ "java/lang/invoke/VarHandle") ∧ (parseMethodDescriptor mX4_classes.1.desc).map (fun d => d.parameters.length) = some 1 := by decide +kernel
theorem wPX4_classes : plainName mX4_classes.1.cls = true := by decide +kernel
abbrev mX4_hasRing : zz_M := (yX4_hasRing, cX4_hasRing, 2, (some .boolean), RX4, [])
theorem wYX4_hasRing : mX4_hasRing.2.2.2.2.2 = [] ∧ mX4_hasRing.2.2.1 ≤ 21 ∧ Cond.instanceMethod mX4_hasRing.1 ∈ zz_g ∧ Cond.selects mX4_hasRing.1.cls mX4_hasRing.1 mX4_hasRing.1 ∈ zz_g ∧ Cond.initialized mX4_hasRing.1.cls ∈ zz_g ∧ Cond.code mX4_hasRing.1 mX4_hasRing.2.1 mX4_hasRing.2.2.1 mX4_hasRing.2.2.2.1 ∈ zz_g := ⟨rfl, by decide, zw_i_X4_hasRing, zw_s_X4_hasRing, zw_n_X4, zw_c_X4_hasRing⟩
theorem wDX4_hasRing : (mX4_hasRing.1.cls ≠ "java/lang/invoke/MethodHandle" ∧ mX4_hasRing.1.cls ≠ "java/lang/invoke/VarHandle") ∧ (parseMethodDescriptor mX4_hasRing.1.desc).map (fun d => d.parameters.length) = some 1 := by decide +kernel
theorem wPX4_hasRing : plainName mX4_hasRing.1.cls = true := by decide +kernel
abbrev mX4_orderAt : zz_M := (yX4_orderAt, cX4_orderAt, 4, (some .int), RX4, [])
theorem wYX4_orderAt : mX4_orderAt.2.2.2.2.2 = [] ∧ mX4_orderAt.2.2.1 ≤ 21 ∧ Cond.instanceMethod mX4_orderAt.1 ∈ zz_g ∧ Cond.selects mX4_orderAt.1.cls mX4_orderAt.1 mX4_orderAt.1 ∈ zz_g ∧ Cond.initialized mX4_orderAt.1.cls ∈ zz_g ∧ Cond.code mX4_orderAt.1 mX4_orderAt.2.1 mX4_orderAt.2.2.1 mX4_orderAt.2.2.2.1 ∈ zz_g := ⟨rfl, by decide, zw_i_X4_orderAt, zw_s_X4_orderAt, zw_n_X4, zw_c_X4_orderAt⟩
theorem wDX4_orderAt : (mX4_orderAt.1.cls ≠ "java/lang/invoke/MethodHandle" ∧ mX4_orderAt.1.cls ≠ "java/lang/invoke/VarHandle") ∧ (parseMethodDescriptor mX4_orderAt.1.desc).map (fun d => d.parameters.length) = some 2 := by decide +kernel
theorem wPX4_orderAt : plainName mX4_orderAt.1.cls = true := by decide +kernel
abbrev mX4_longestWalk : zz_M := (yX4_longestWalk, cX4_longestWalk, 3, (some .int), RX4, [])
theorem wYX4_longestWalk : mX4_longestWalk.2.2.2.2.2 = [] ∧ mX4_longestWalk.2.2.1 ≤ 21 ∧ Cond.instanceMethod mX4_longestWalk.1 ∈ zz_g ∧ Cond.selects mX4_longestWalk.1.cls mX4_longestWalk.1 mX4_longestWalk.1 ∈ zz_g ∧ Cond.initialized mX4_longestWalk.1.cls ∈ zz_g ∧ Cond.code mX4_longestWalk.1 mX4_longestWalk.2.1 mX4_longestWalk.2.2.1 mX4_longestWalk.2.2.2.1 ∈ zz_g := ⟨rfl, by decide, zw_i_X4_longestWalk, zw_s_X4_longestWalk, zw_n_X4, zw_c_X4_longestWalk⟩
theorem wDX4_longestWalk : (mX4_longestWalk.1.cls ≠ "java/lang/invoke/MethodHandle" ∧ mX4_longestWalk.1.cls ≠ "java/lang/invoke/VarHandle") ∧ (parseMethodDescriptor mX4_longestWalk.1.desc).map (fun d => d.parameters.length) = some 1 := by decide +kernel
theorem wPX4_longestWalk : plainName mX4_longestWalk.1.cls = true := by decide +kernel
abbrev mX4_mark : zz_M := (yX4_mark, cX4_mark, 4, (some .int), RX4, [])
theorem wYX4_mark : mX4_mark.2.2.2.2.2 = [] ∧ mX4_mark.2.2.1 ≤ 21 ∧ Cond.instanceMethod mX4_mark.1 ∈ zz_g ∧ Cond.selects mX4_mark.1.cls mX4_mark.1 mX4_mark.1 ∈ zz_g ∧ Cond.initialized mX4_mark.1.cls ∈ zz_g ∧ Cond.code mX4_mark.1 mX4_mark.2.1 mX4_mark.2.2.1 mX4_mark.2.2.2.1 ∈ zz_g := ⟨rfl, by decide, zw_i_X4_mark, zw_s_X4_mark, zw_n_X4, zw_c_X4_mark⟩
theorem wDX4_mark : (mX4_mark.1.cls ≠ "java/lang/invoke/MethodHandle" ∧ mX4_mark.1.cls ≠ "java/lang/invoke/VarHandle") ∧ (parseMethodDescriptor mX4_mark.1.desc).map (fun d => d.parameters.length) = some 3 := by decide +kernel
theorem wPX4_mark : plainName mX4_mark.1.cls = true := by decide +kernel
abbrev mX4_spread : zz_M := (yX4_spread, cX4_spread, 4, (some .int), RX4, [])
theorem wYX4_spread : mX4_spread.2.2.2.2.2 = [] ∧ mX4_spread.2.2.1 ≤ 21 ∧ Cond.instanceMethod mX4_spread.1 ∈ zz_g ∧ Cond.selects mX4_spread.1.cls mX4_spread.1 mX4_spread.1 ∈ zz_g ∧ Cond.initialized mX4_spread.1.cls ∈ zz_g ∧ Cond.code mX4_spread.1 mX4_spread.2.1 mX4_spread.2.2.1 mX4_spread.2.2.2.1 ∈ zz_g := ⟨rfl, by decide, zw_i_X4_spread, zw_s_X4_spread, zw_n_X4, zw_c_X4_spread⟩
theorem wDX4_spread : (mX4_spread.1.cls ≠ "java/lang/invoke/MethodHandle" ∧ mX4_spread.1.cls ≠ "java/lang/invoke/VarHandle") ∧ (parseMethodDescriptor mX4_spread.1.desc).map (fun d => d.parameters.length) = some 2 := by decide +kernel
theorem wPX4_spread : plainName mX4_spread.1.cls = true := by decide +kernel
abbrev mX4_markedAt : zz_M := (yX4_markedAt, cX4_markedAt, 4, (some .int), RX4, [])
theorem wYX4_markedAt : mX4_markedAt.2.2.2.2.2 = [] ∧ mX4_markedAt.2.2.1 ≤ 21 ∧ Cond.instanceMethod mX4_markedAt.1 ∈ zz_g ∧ Cond.selects mX4_markedAt.1.cls mX4_markedAt.1 mX4_markedAt.1 ∈ zz_g ∧ Cond.initialized mX4_markedAt.1.cls ∈ zz_g ∧ Cond.code mX4_markedAt.1 mX4_markedAt.2.1 mX4_markedAt.2.2.1 mX4_markedAt.2.2.2.1 ∈ zz_g := ⟨rfl, by decide, zw_i_X4_markedAt, zw_s_X4_markedAt, zw_n_X4, zw_c_X4_markedAt⟩
theorem wDX4_markedAt : (mX4_markedAt.1.cls ≠ "java/lang/invoke/MethodHandle" ∧ mX4_markedAt.1.cls ≠ "java/lang/invoke/VarHandle") ∧ (parseMethodDescriptor mX4_markedAt.1.desc).map (fun d => d.parameters.length) = some 1 := by decide +kernel
theorem wPX4_markedAt : plainName mX4_markedAt.1.cls = true := by decide +kernel
abbrev mX4_endOfMarks : zz_M := (yX4_endOfMarks, cX4_endOfMarks, 1, (some .int), RX4, [])
theorem wYX4_endOfMarks : mX4_endOfMarks.2.2.2.2.2 = [] ∧ mX4_endOfMarks.2.2.1 ≤ 21 ∧ Cond.instanceMethod mX4_endOfMarks.1 ∈ zz_g ∧ Cond.selects mX4_endOfMarks.1.cls mX4_endOfMarks.1 mX4_endOfMarks.1 ∈ zz_g ∧ Cond.initialized mX4_endOfMarks.1.cls ∈ zz_g ∧ Cond.code mX4_endOfMarks.1 mX4_endOfMarks.2.1 mX4_endOfMarks.2.2.1 mX4_endOfMarks.2.2.2.1 ∈ zz_g := ⟨rfl, by decide, zw_i_X4_endOfMarks, zw_s_X4_endOfMarks, zw_n_X4, zw_c_X4_endOfMarks⟩
theorem wDX4_endOfMarks : (mX4_endOfMarks.1.cls ≠ "java/lang/invoke/MethodHandle" ∧ mX4_endOfMarks.1.cls ≠ "java/lang/invoke/VarHandle") ∧ (parseMethodDescriptor mX4_endOfMarks.1.desc).map (fun d => d.parameters.length) = some 0 := by decide +kernel
theorem wPX4_endOfMarks : plainName mX4_endOfMarks.1.cls = true := by decide +kernel
abbrev mX4_meanRow : zz_M := (yX4_meanRow, cX4_meanRow, 4, (some .double), RX4, [])
theorem wYX4_meanRow : mX4_meanRow.2.2.2.2.2 = [] ∧ mX4_meanRow.2.2.1 ≤ 21 ∧ Cond.instanceMethod mX4_meanRow.1 ∈ zz_g ∧ Cond.selects mX4_meanRow.1.cls mX4_meanRow.1 mX4_meanRow.1 ∈ zz_g ∧ Cond.initialized mX4_meanRow.1.cls ∈ zz_g ∧ Cond.code mX4_meanRow.1 mX4_meanRow.2.1 mX4_meanRow.2.2.1 mX4_meanRow.2.2.2.1 ∈ zz_g := ⟨rfl, by decide, zw_i_X4_meanRow, zw_s_X4_meanRow, zw_n_X4, zw_c_X4_meanRow⟩
theorem wDX4_meanRow : (mX4_meanRow.1.cls ≠ "java/lang/invoke/MethodHandle" ∧ mX4_meanRow.1.cls ≠ "java/lang/invoke/VarHandle") ∧ (parseMethodDescriptor mX4_meanRow.1.desc).map (fun d => d.parameters.length) = some 1 := by decide +kernel
theorem wPX4_meanRow : plainName mX4_meanRow.1.cls = true := by decide +kernel
abbrev mX4_errors : zz_M := (yX4_errors, cX4_errors, 3, (some .int), RX4, [])
theorem wYX4_errors : mX4_errors.2.2.2.2.2 = [] ∧ mX4_errors.2.2.1 ≤ 21 ∧ Cond.instanceMethod mX4_errors.1 ∈ zz_g ∧ Cond.selects mX4_errors.1.cls mX4_errors.1 mX4_errors.1 ∈ zz_g ∧ Cond.initialized mX4_errors.1.cls ∈ zz_g ∧ Cond.code mX4_errors.1 mX4_errors.2.1 mX4_errors.2.2.1 mX4_errors.2.2.2.1 ∈ zz_g := ⟨rfl, by decide, zw_i_X4_errors, zw_s_X4_errors, zw_n_X4, zw_c_X4_errors⟩
theorem wDX4_errors : (mX4_errors.1.cls ≠ "java/lang/invoke/MethodHandle" ∧ mX4_errors.1.cls ≠ "java/lang/invoke/VarHandle") ∧ (parseMethodDescriptor mX4_errors.1.desc).map (fun d => d.parameters.length) = some 0 := by decide +kernel
theorem wPX4_errors : plainName mX4_errors.1.cls = true := by decide +kernel
abbrev mJ9_max_7cf53 : zz_M := (yJ9_max_7cf53, cJ9_max_7cf53, 2, (some .int), RJ9, [])
abbrev mJ9_min_7cf53 : zz_M := (yJ9_min_7cf53, cJ9_min_7cf53, 2, (some .int), RJ9, [])
abbrev mL_next : zz_M := (yL_next, cL_next, 1, (some .int), RL, [])
theorem wYL_next : mL_next.2.2.2.2.2 = [] ∧ mL_next.2.2.1 ≤ 21 ∧ Cond.static mL_next.1 ∈ zz_g ∧ Cond.initialized mL_next.1.cls ∈ zz_g ∧ Cond.code mL_next.1 mL_next.2.1 mL_next.2.2.1 mL_next.2.2.2.1 ∈ zz_g := ⟨rfl, by decide, zw_t_L_next, zw_n_L, zw_c_L_next⟩
theorem wDL_next : (mL_next.1.cls ≠ "java/lang/invoke/MethodHandle" ∧ mL_next.1.cls ≠ "java/lang/invoke/VarHandle") ∧ (parseMethodDescriptor mL_next.1.desc).map (fun d => d.parameters.length) = some 1 := by decide +kernel
theorem wPL_next : plainName mL_next.1.cls = true := by decide +kernel
abbrev mL_from : zz_M := (yL_from, cL_from, 3, (some .int), RL, [])
theorem wYL_from : mL_from.2.2.2.2.2 = [] ∧ mL_from.2.2.1 ≤ 21 ∧ Cond.static mL_from.1 ∈ zz_g ∧ Cond.initialized mL_from.1.cls ∈ zz_g ∧ Cond.code mL_from.1 mL_from.2.1 mL_from.2.2.1 mL_from.2.2.2.1 ∈ zz_g := ⟨rfl, by decide, zw_t_L_from, zw_n_L, zw_c_L_from⟩
theorem wDL_from : (mL_from.1.cls ≠ "java/lang/invoke/MethodHandle" ∧ mL_from.1.cls ≠ "java/lang/invoke/VarHandle") ∧ (parseMethodDescriptor mL_from.1.desc).map (fun d => d.parameters.length) = some 3 := by decide +kernel
theorem wPL_from : plainName mL_from.1.cls = true := by decide +kernel
abbrev mL_done : zz_M := (yL_done, cL_done, 6, (some .int), RL, [(0, 64, 157, 55), (65, 71, 157, 55), (72, 83, 157, 55), (84, 89, 157, 55), (90, 98, 157, 55), (99, 104, 157, 55), (105, 122, 157, 55), (123, 128, 157, 55), (129, 135, 157, 55), (136, 146, 157, 55), (147, 156, 157, 55), (0, 64, 161, 57), (65, 71, 161, 57), (72, 83, 161, 57), (84, 89, 161, 57), (90, 98, 161, 57), (99, 104, 161, 57), (105, 122, 161, 57), (123, 128, 161, 57), (129, 135, 161, 57), (136, 146, 161, 57), (147, 156, 161, 57), (0, 64, 166, 59), (65, 71, 166, 59), (72, 83, 166, 59), (84, 89, 166, 59), (90, 98, 166, 59), (99, 104, 166, 59), (105, 122, 166, 59), (123, 128, 166, 59), (129, 135, 166, 59), (136, 146, 166, 59), (147, 156, 166, 59), (0, 64, 171, 61), (65, 71, 171, 61), (72, 83, 171, 61), (84, 89, 171, 61), (90, 98, 171, 61), (99, 104, 171, 61), (105, 122, 171, 61), (123, 128, 171, 61), (129, 135, 171, 61), (136, 146, 171, 61), (147, 156, 171, 61)])
theorem wYL_done : mL_done.2.2.1 ≤ 21 ∧ Cond.static mL_done.1 ∈ zz_g ∧ Cond.initialized mL_done.1.cls ∈ zz_g ∧ Cond.codeWith mL_done.1 mL_done.2.1 mL_done.2.2.1 mL_done.2.2.2.1 mL_done.2.2.2.2.2 ∈ zz_g := ⟨by decide, zw_t_L_done, zw_n_L, zw_c_L_done⟩
theorem wDL_done : (mL_done.1.cls ≠ "java/lang/invoke/MethodHandle" ∧ mL_done.1.cls ≠ "java/lang/invoke/VarHandle") ∧ (parseMethodDescriptor mL_done.1.desc).map (fun d => d.parameters.length) = some 5 := by decide +kernel
theorem wPL_done : plainName mL_done.1.cls = true := by decide +kernel
abbrev mL_sees : zz_M := (yL_sees, cL_sees, 11, (some .int), RL, [])
theorem wYL_sees : mL_sees.2.2.2.2.2 = [] ∧ mL_sees.2.2.1 ≤ 21 ∧ Cond.static mL_sees.1 ∈ zz_g ∧ Cond.initialized mL_sees.1.cls ∈ zz_g ∧ Cond.code mL_sees.1 mL_sees.2.1 mL_sees.2.2.1 mL_sees.2.2.2.1 ∈ zz_g := ⟨rfl, by decide, zw_t_L_sees, zw_n_L, zw_c_L_sees⟩
theorem wDL_sees : (mL_sees.1.cls ≠ "java/lang/invoke/MethodHandle" ∧ mL_sees.1.cls ≠ "java/lang/invoke/VarHandle") ∧ (parseMethodDescriptor mL_sees.1.desc).map (fun d => d.parameters.length) = some 4 := by decide +kernel
theorem wPL_sees : plainName mL_sees.1.cls = true := by decide +kernel
abbrev mL_isLike : zz_M := (yL_isLike, cL_isLike, 5, (some .boolean), RL, [])
theorem wYL_isLike : mL_isLike.2.2.2.2.2 = [] ∧ mL_isLike.2.2.1 ≤ 21 ∧ Cond.static mL_isLike.1 ∈ zz_g ∧ Cond.initialized mL_isLike.1.cls ∈ zz_g ∧ Cond.code mL_isLike.1 mL_isLike.2.1 mL_isLike.2.2.1 mL_isLike.2.2.2.1 ∈ zz_g := ⟨rfl, by decide, zw_t_L_isLike, zw_n_L, zw_c_L_isLike⟩
theorem wDL_isLike : (mL_isLike.1.cls ≠ "java/lang/invoke/MethodHandle" ∧ mL_isLike.1.cls ≠ "java/lang/invoke/VarHandle") ∧ (parseMethodDescriptor mL_isLike.1.desc).map (fun d => d.parameters.length) = some 3 := by decide +kernel
theorem wPL_isLike : plainName mL_isLike.1.cls = true := by decide +kernel
abbrev mL_closes : zz_M := (yL_closes, cL_closes, 6, none, RL, [])
theorem wYL_closes : mL_closes.2.2.2.2.2 = [] ∧ mL_closes.2.2.1 ≤ 21 ∧ Cond.static mL_closes.1 ∈ zz_g ∧ Cond.initialized mL_closes.1.cls ∈ zz_g ∧ Cond.code mL_closes.1 mL_closes.2.1 mL_closes.2.2.1 mL_closes.2.2.2.1 ∈ zz_g := ⟨rfl, by decide, zw_t_L_closes, zw_n_L, zw_c_L_closes⟩
theorem wDL_closes : (mL_closes.1.cls ≠ "java/lang/invoke/MethodHandle" ∧ mL_closes.1.cls ≠ "java/lang/invoke/VarHandle") ∧ (parseMethodDescriptor mL_closes.1.desc).map (fun d => d.parameters.length) = some 3 := by decide +kernel
theorem wPL_closes : plainName mL_closes.1.cls = true := by decide +kernel
abbrev mL_isRing : zz_M := (yL_isRing, cL_isRing, 3, (some .boolean), RL, [])
theorem wYL_isRing : mL_isRing.2.2.2.2.2 = [] ∧ mL_isRing.2.2.1 ≤ 21 ∧ Cond.static mL_isRing.1 ∈ zz_g ∧ Cond.initialized mL_isRing.1.cls ∈ zz_g ∧ Cond.code mL_isRing.1 mL_isRing.2.1 mL_isRing.2.2.1 mL_isRing.2.2.2.1 ∈ zz_g := ⟨rfl, by decide, zw_t_L_isRing, zw_n_L, zw_c_L_isRing⟩
theorem wDL_isRing : (mL_isRing.1.cls ≠ "java/lang/invoke/MethodHandle" ∧ mL_isRing.1.cls ≠ "java/lang/invoke/VarHandle") ∧ (parseMethodDescriptor mL_isRing.1.desc).map (fun d => d.parameters.length) = some 2 := by decide +kernel
theorem wPL_isRing : plainName mL_isRing.1.cls = true := by decide +kernel
abbrev mL_draws : zz_M := (yL_draws, cL_draws, 8, none, RL, [])
theorem wYL_draws : mL_draws.2.2.2.2.2 = [] ∧ mL_draws.2.2.1 ≤ 21 ∧ Cond.static mL_draws.1 ∈ zz_g ∧ Cond.initialized mL_draws.1.cls ∈ zz_g ∧ Cond.code mL_draws.1 mL_draws.2.1 mL_draws.2.2.1 mL_draws.2.2.2.1 ∈ zz_g := ⟨rfl, by decide, zw_t_L_draws, zw_n_L, zw_c_L_draws⟩
theorem wDL_draws : (mL_draws.1.cls ≠ "java/lang/invoke/MethodHandle" ∧ mL_draws.1.cls ≠ "java/lang/invoke/VarHandle") ∧ (parseMethodDescriptor mL_draws.1.desc).map (fun d => d.parameters.length) = some 4 := by decide +kernel
theorem wPL_draws : plainName mL_draws.1.cls = true := by decide +kernel
abbrev mL_isStep : zz_M := (yL_isStep, cL_isStep, 10, (some .boolean), RL, [])
theorem wYL_isStep : mL_isStep.2.2.2.2.2 = [] ∧ mL_isStep.2.2.1 ≤ 21 ∧ Cond.static mL_isStep.1 ∈ zz_g ∧ Cond.initialized mL_isStep.1.cls ∈ zz_g ∧ Cond.code mL_isStep.1 mL_isStep.2.1 mL_isStep.2.2.1 mL_isStep.2.2.2.1 ∈ zz_g := ⟨rfl, by decide, zw_t_L_isStep, zw_n_L, zw_c_L_isStep⟩
theorem wDL_isStep : (mL_isStep.1.cls ≠ "java/lang/invoke/MethodHandle" ∧ mL_isStep.1.cls ≠ "java/lang/invoke/VarHandle") ∧ (parseMethodDescriptor mL_isStep.1.desc).map (fun d => d.parameters.length) = some 6 := by decide +kernel
theorem wPL_isStep : plainName mL_isStep.1.cls = true := by decide +kernel
abbrev mL_isFree : zz_M := (yL_isFree, cL_isFree, 5, (some .boolean), RL, [])
theorem wYL_isFree : mL_isFree.2.2.2.2.2 = [] ∧ mL_isFree.2.2.1 ≤ 21 ∧ Cond.static mL_isFree.1 ∈ zz_g ∧ Cond.initialized mL_isFree.1.cls ∈ zz_g ∧ Cond.code mL_isFree.1 mL_isFree.2.1 mL_isFree.2.2.1 mL_isFree.2.2.2.1 ∈ zz_g := ⟨rfl, by decide, zw_t_L_isFree, zw_n_L, zw_c_L_isFree⟩
theorem wDL_isFree : (mL_isFree.1.cls ≠ "java/lang/invoke/MethodHandle" ∧ mL_isFree.1.cls ≠ "java/lang/invoke/VarHandle") ∧ (parseMethodDescriptor mL_isFree.1.desc).map (fun d => d.parameters.length) = some 4 := by decide +kernel
theorem wPL_isFree : plainName mL_isFree.1.cls = true := by decide +kernel
abbrev mL_isOrder : zz_M := (yL_isOrder, cL_isOrder, 10, (some .boolean), RL, [])
theorem wYL_isOrder : mL_isOrder.2.2.2.2.2 = [] ∧ mL_isOrder.2.2.1 ≤ 21 ∧ Cond.static mL_isOrder.1 ∈ zz_g ∧ Cond.initialized mL_isOrder.1.cls ∈ zz_g ∧ Cond.code mL_isOrder.1 mL_isOrder.2.1 mL_isOrder.2.2.1 mL_isOrder.2.2.2.1 ∈ zz_g := ⟨rfl, by decide, zw_t_L_isOrder, zw_n_L, zw_c_L_isOrder⟩
theorem wDL_isOrder : (mL_isOrder.1.cls ≠ "java/lang/invoke/MethodHandle" ∧ mL_isOrder.1.cls ≠ "java/lang/invoke/VarHandle") ∧ (parseMethodDescriptor mL_isOrder.1.desc).map (fun d => d.parameters.length) = some 4 := by decide +kernel
theorem wPL_isOrder : plainName mL_isOrder.1.cls = true := by decide +kernel
abbrev mL_areCovers : zz_M := (yL_areCovers, cL_areCovers, 10, (some .boolean), RL, [])
theorem wYL_areCovers : mL_areCovers.2.2.2.2.2 = [] ∧ mL_areCovers.2.2.1 ≤ 21 ∧ Cond.static mL_areCovers.1 ∈ zz_g ∧ Cond.initialized mL_areCovers.1.cls ∈ zz_g ∧ Cond.code mL_areCovers.1 mL_areCovers.2.1 mL_areCovers.2.2.1 mL_areCovers.2.2.2.1 ∈ zz_g := ⟨rfl, by decide, zw_t_L_areCovers, zw_n_L, zw_c_L_areCovers⟩
theorem wDL_areCovers : (mL_areCovers.1.cls ≠ "java/lang/invoke/MethodHandle" ∧ mL_areCovers.1.cls ≠ "java/lang/invoke/VarHandle") ∧ (parseMethodDescriptor mL_areCovers.1.desc).map (fun d => d.parameters.length) = some 5 := by decide +kernel
theorem wPL_areCovers : plainName mL_areCovers.1.cls = true := by decide +kernel
abbrev mL_isTrue : zz_M := (yL_isTrue, cL_isTrue, 16, (some .boolean), RL, [])
theorem wYL_isTrue : mL_isTrue.2.2.2.2.2 = [] ∧ mL_isTrue.2.2.1 ≤ 21 ∧ Cond.static mL_isTrue.1 ∈ zz_g ∧ Cond.initialized mL_isTrue.1.cls ∈ zz_g ∧ Cond.code mL_isTrue.1 mL_isTrue.2.1 mL_isTrue.2.2.1 mL_isTrue.2.2.2.1 ∈ zz_g := ⟨rfl, by decide, zw_t_L_isTrue, zw_n_L, zw_c_L_isTrue⟩
theorem wDL_isTrue : (mL_isTrue.1.cls ≠ "java/lang/invoke/MethodHandle" ∧ mL_isTrue.1.cls ≠ "java/lang/invoke/VarHandle") ∧ (parseMethodDescriptor mL_isTrue.1.desc).map (fun d => d.parameters.length) = some 7 := by decide +kernel
theorem wPL_isTrue : plainName mL_isTrue.1.cls = true := by decide +kernel
abbrev mL_isAlgebra : zz_M := (yL_isAlgebra, cL_isAlgebra, 18, (some .boolean), RL, [])
theorem wYL_isAlgebra : mL_isAlgebra.2.2.2.2.2 = [] ∧ mL_isAlgebra.2.2.1 ≤ 21 ∧ Cond.static mL_isAlgebra.1 ∈ zz_g ∧ Cond.initialized mL_isAlgebra.1.cls ∈ zz_g ∧ Cond.code mL_isAlgebra.1 mL_isAlgebra.2.1 mL_isAlgebra.2.2.1 mL_isAlgebra.2.2.2.1 ∈ zz_g := ⟨rfl, by decide, zw_t_L_isAlgebra, zw_n_L, zw_c_L_isAlgebra⟩
theorem wDL_isAlgebra : (mL_isAlgebra.1.cls ≠ "java/lang/invoke/MethodHandle" ∧ mL_isAlgebra.1.cls ≠ "java/lang/invoke/VarHandle") ∧ (parseMethodDescriptor mL_isAlgebra.1.desc).map (fun d => d.parameters.length) = some 6 := by decide +kernel
theorem wPL_isAlgebra : plainName mL_isAlgebra.1.cls = true := by decide +kernel
abbrev mL_areRows : zz_M := (yL_areRows, cL_areRows, 18, (some .boolean), RL, [])
theorem wYL_areRows : mL_areRows.2.2.2.2.2 = [] ∧ mL_areRows.2.2.1 ≤ 21 ∧ Cond.static mL_areRows.1 ∈ zz_g ∧ Cond.initialized mL_areRows.1.cls ∈ zz_g ∧ Cond.code mL_areRows.1 mL_areRows.2.1 mL_areRows.2.2.1 mL_areRows.2.2.2.1 ∈ zz_g := ⟨rfl, by decide, zw_t_L_areRows, zw_n_L, zw_c_L_areRows⟩
theorem wDL_areRows : (mL_areRows.1.cls ≠ "java/lang/invoke/MethodHandle" ∧ mL_areRows.1.cls ≠ "java/lang/invoke/VarHandle") ∧ (parseMethodDescriptor mL_areRows.1.desc).map (fun d => d.parameters.length) = some 6 := by decide +kernel
theorem wPL_areRows : plainName mL_areRows.1.cls = true := by decide +kernel
abbrev mL_spreads : zz_M := (yL_spreads, cL_spreads, 14, (some .boolean), RL, [])
theorem wYL_spreads : mL_spreads.2.2.2.2.2 = [] ∧ mL_spreads.2.2.1 ≤ 21 ∧ Cond.static mL_spreads.1 ∈ zz_g ∧ Cond.initialized mL_spreads.1.cls ∈ zz_g ∧ Cond.code mL_spreads.1 mL_spreads.2.1 mL_spreads.2.2.1 mL_spreads.2.2.2.1 ∈ zz_g := ⟨rfl, by decide, zw_t_L_spreads, zw_n_L, zw_c_L_spreads⟩
theorem wDL_spreads : (mL_spreads.1.cls ≠ "java/lang/invoke/MethodHandle" ∧ mL_spreads.1.cls ≠ "java/lang/invoke/VarHandle") ∧ (parseMethodDescriptor mL_spreads.1.desc).map (fun d => d.parameters.length) = some 6 := by decide +kernel
theorem wPL_spreads : plainName mL_spreads.1.cls = true := by decide +kernel
abbrev mL_plays : zz_M := (yL_plays, cL_plays, 10, (some .boolean), RL, [])
theorem wYL_plays : mL_plays.2.2.2.2.2 = [] ∧ mL_plays.2.2.1 ≤ 21 ∧ Cond.static mL_plays.1 ∈ zz_g ∧ Cond.initialized mL_plays.1.cls ∈ zz_g ∧ Cond.code mL_plays.1 mL_plays.2.1 mL_plays.2.2.1 mL_plays.2.2.2.1 ∈ zz_g := ⟨rfl, by decide, zw_t_L_plays, zw_n_L, zw_c_L_plays⟩
theorem wDL_plays : (mL_plays.1.cls ≠ "java/lang/invoke/MethodHandle" ∧ mL_plays.1.cls ≠ "java/lang/invoke/VarHandle") ∧ (parseMethodDescriptor mL_plays.1.desc).map (fun d => d.parameters.length) = some 4 := by decide +kernel
theorem wPL_plays : plainName mL_plays.1.cls = true := by decide +kernel
end ZZM
