section ZZWC
set_option maxRecDepth 100000 in
theorem zw_c_L_plays : Cond.code yL_plays cL_plays 10 (some .boolean) ∈ zz_g := zz_g_in (i := 34) rfl (by decide +kernel)
set_option maxRecDepth 100000 in
theorem zw_c_L_next : Cond.code yL_next cL_next 1 (some .int) ∈ zz_g := zz_g_in (i := 169) rfl (by decide +kernel)
set_option maxRecDepth 100000 in
theorem zw_c_L_from : Cond.code yL_from cL_from 3 (some .int) ∈ zz_g := zz_g_in (i := 173) rfl (by decide +kernel)
set_option maxRecDepth 100000 in
theorem zw_c_L_done : Cond.codeWith yL_done cL_done 6 (some .int) [(0, 64, 157, 55), (65, 71, 157, 55), (72, 83, 157, 55), (84, 89, 157, 55), (90, 98, 157, 55), (99, 104, 157, 55), (105, 122, 157, 55), (123, 128, 157, 55), (129, 135, 157, 55), (136, 146, 157, 55), (147, 156, 157, 55), (0, 64, 161, 57), (65, 71, 161, 57), (72, 83, 161, 57), (84, 89, 161, 57), (90, 98, 161, 57), (99, 104, 161, 57), (105, 122, 161, 57), (123, 128, 161, 57), (129, 135, 161, 57), (136, 146, 161, 57), (147, 156, 161, 57), (0, 64, 166, 59), (65, 71, 166, 59), (72, 83, 166, 59), (84, 89, 166, 59), (90, 98, 166, 59), (99, 104, 166, 59), (105, 122, 166, 59), (123, 128, 166, 59), (129, 135, 166, 59), (136, 146, 166, 59), (147, 156, 166, 59), (0, 64, 171, 61), (65, 71, 171, 61), (72, 83, 171, 61), (84, 89, 171, 61), (90, 98, 171, 61), (99, 104, 171, 61), (105, 122, 171, 61), (123, 128, 171, 61), (129, 135, 171, 61), (136, 146, 171, 61), (147, 156, 171, 61)] ∈ zz_g := zz_g_in (i := 176) rfl (by decide +kernel)
set_option maxRecDepth 100000 in
theorem zw_c_L_draws : Cond.code yL_draws cL_draws 8 none ∈ zz_g := zz_g_in (i := 522) rfl (by decide +kernel)
set_option maxRecDepth 100000 in
theorem zw_c_L_isAlgebra : Cond.code yL_isAlgebra cL_isAlgebra 18 (some .boolean) ∈ zz_g := zz_g_in (i := 539) rfl (by decide +kernel)
set_option maxRecDepth 100000 in
theorem zw_c_L_sees : Cond.code yL_sees cL_sees 11 (some .int) ∈ zz_g := zz_g_in (i := 550) rfl (by decide +kernel)
set_option maxRecDepth 100000 in
theorem zw_c_L_isLike : Cond.code yL_isLike cL_isLike 5 (some .boolean) ∈ zz_g := zz_g_in (i := 560) rfl (by decide +kernel)
set_option maxRecDepth 100000 in
theorem zw_c_L_areRows : Cond.code yL_areRows cL_areRows 18 (some .boolean) ∈ zz_g := zz_g_in (i := 592) rfl (by decide +kernel)
set_option maxRecDepth 100000 in
theorem zw_c_L_spreads : Cond.code yL_spreads cL_spreads 14 (some .boolean) ∈ zz_g := zz_g_in (i := 612) rfl (by decide +kernel)
set_option maxRecDepth 100000 in
theorem zw_c_L_closes : Cond.code yL_closes cL_closes 6 none ∈ zz_g := zz_g_in (i := 615) rfl (by decide +kernel)
set_option maxRecDepth 100000 in
theorem zw_c_L_isTrue : Cond.code yL_isTrue cL_isTrue 16 (some .boolean) ∈ zz_g := zz_g_in (i := 632) rfl (by decide +kernel)
set_option maxRecDepth 100000 in
theorem zw_c_L_isRing : Cond.code yL_isRing cL_isRing 3 (some .boolean) ∈ zz_g := zz_g_in (i := 635) rfl (by decide +kernel)
set_option maxRecDepth 100000 in
theorem zw_c_L_isStep : Cond.code yL_isStep cL_isStep 10 (some .boolean) ∈ zz_g := zz_g_in (i := 759) rfl (by decide +kernel)
set_option maxRecDepth 100000 in
theorem zw_c_L_isOrder : Cond.code yL_isOrder cL_isOrder 10 (some .boolean) ∈ zz_g := zz_g_in (i := 772) rfl (by decide +kernel)
set_option maxRecDepth 100000 in
theorem zw_c_L_isFree : Cond.code yL_isFree cL_isFree 5 (some .boolean) ∈ zz_g := zz_g_in (i := 775) rfl (by decide +kernel)
set_option maxRecDepth 100000 in
theorem zw_c_L_areCovers : Cond.code yL_areCovers cL_areCovers 10 (some .boolean) ∈ zz_g := zz_g_in (i := 781) rfl (by decide +kernel)
end ZZWC
