set_option maxRecDepth 4000 in
theorem in_Dv : ∀ w ∈ u_ws R_Dv T_Dv 3, w ∈ Tw := by decide +kernel
set_option maxRecDepth 4000 in
theorem ct_Dv : CT 0 t_Dv := ⟨R_Dv, T_Dv, 3, rfl, in_Dv, ty_Dv, n_Dv⟩
set_option maxRecDepth 4000 in
theorem ff_Dv_0 : FF 0 0 true := ⟨R_Dv, T_Dv, 3, rfl, rfl, rfl⟩
set_option maxRecDepth 4000 in
theorem ff_Dv_1 : FF 0 1 true := ⟨R_Dv, T_Dv, 3, rfl, rfl, rfl⟩
set_option maxRecDepth 4000 in
theorem ff_Dv_2 : FF 0 2 true := ⟨R_Dv, T_Dv, 3, rfl, rfl, rfl⟩
set_option maxRecDepth 4000 in
theorem cb_Dv : ∃ q : vw_C, classes[0]? = some q ∧ q.1 = R_Dv := ⟨_, rfl, rfl⟩
set_option maxRecDepth 4000 in
theorem is_Dv : Cond.instantiable R_Dv 3 ∈ Tw := (tw1_of 89 rfl rfl)
set_option maxRecDepth 4000 in
theorem in_Fr : ∀ w ∈ u_ws R_Fr T_Fr 3, w ∈ Tw := by decide +kernel
set_option maxRecDepth 4000 in
theorem ct_Fr : CT 1 t_Fr := ⟨R_Fr, T_Fr, 3, rfl, in_Fr, ty_Fr, n_Fr⟩
set_option maxRecDepth 4000 in
theorem ff_Fr_0 : FF 1 0 true := ⟨R_Fr, T_Fr, 3, rfl, rfl, rfl⟩
set_option maxRecDepth 4000 in
theorem ff_Fr_1 : FF 1 1 true := ⟨R_Fr, T_Fr, 3, rfl, rfl, rfl⟩
set_option maxRecDepth 4000 in
theorem ff_Fr_2 : FF 1 2 false := ⟨R_Fr, T_Fr, 3, rfl, rfl, rfl⟩
set_option maxRecDepth 4000 in
theorem cb_Fr : ∃ q : vw_C, classes[1]? = some q ∧ q.1 = R_Fr := ⟨_, rfl, rfl⟩
set_option maxRecDepth 4000 in
theorem is_Fr : Cond.instantiable R_Fr 3 ∈ Tw := (tw1_of 45 rfl rfl)
set_option maxRecDepth 4000 in
theorem in_Na : ∀ w ∈ u_ws R_Na T_Na 2, w ∈ Tw := by decide +kernel
set_option maxRecDepth 4000 in
theorem ct_Na : CT 2 t_Na := ⟨R_Na, T_Na, 2, rfl, in_Na, ty_Na, n_Na⟩
set_option maxRecDepth 4000 in
theorem ff_Na_0 : FF 2 0 true := ⟨R_Na, T_Na, 2, rfl, rfl, rfl⟩
set_option maxRecDepth 4000 in
theorem ff_Na_1 : FF 2 1 false := ⟨R_Na, T_Na, 2, rfl, rfl, rfl⟩
set_option maxRecDepth 4000 in
theorem cb_Na : ∃ q : vw_C, classes[2]? = some q ∧ q.1 = R_Na := ⟨_, rfl, rfl⟩
set_option maxRecDepth 4000 in
theorem is_Na : Cond.instantiable R_Na 2 ∈ Tw := (tw1_of 51 rfl rfl)
set_option maxRecDepth 4000 in
theorem in_Re : ∀ w ∈ u_ws R_Re T_Re 8, w ∈ Tw := by decide +kernel
set_option maxRecDepth 4000 in
theorem ct_Re : CT 3 t_Re := ⟨R_Re, T_Re, 8, rfl, in_Re, ty_Re, n_Re⟩
set_option maxRecDepth 4000 in
theorem ff_Re_0 : FF 3 0 true := ⟨R_Re, T_Re, 8, rfl, rfl, rfl⟩
set_option maxRecDepth 4000 in
theorem ff_Re_1 : FF 3 1 true := ⟨R_Re, T_Re, 8, rfl, rfl, rfl⟩
set_option maxRecDepth 4000 in
theorem ff_Re_2 : FF 3 2 true := ⟨R_Re, T_Re, 8, rfl, rfl, rfl⟩
set_option maxRecDepth 4000 in
theorem ff_Re_3 : FF 3 3 true := ⟨R_Re, T_Re, 8, rfl, rfl, rfl⟩
set_option maxRecDepth 4000 in
theorem ff_Re_4 : FF 3 4 true := ⟨R_Re, T_Re, 8, rfl, rfl, rfl⟩
set_option maxRecDepth 4000 in
theorem ff_Re_5 : FF 3 5 true := ⟨R_Re, T_Re, 8, rfl, rfl, rfl⟩
set_option maxRecDepth 4000 in
theorem ff_Re_6 : FF 3 6 true := ⟨R_Re, T_Re, 8, rfl, rfl, rfl⟩
set_option maxRecDepth 4000 in
theorem ff_Re_7 : FF 3 7 true := ⟨R_Re, T_Re, 8, rfl, rfl, rfl⟩
set_option maxRecDepth 4000 in
theorem cb_Re : ∃ q : vw_C, classes[3]? = some q ∧ q.1 = R_Re := ⟨_, rfl, rfl⟩
set_option maxRecDepth 4000 in
theorem is_Re : Cond.instantiable R_Re 8 ∈ Tw := (tw1_of 39 rfl rfl)
set_option maxRecDepth 4000 in
theorem in_Ro : ∀ w ∈ u_ws R_Ro T_Ro 2, w ∈ Tw := by decide +kernel
set_option maxRecDepth 4000 in
theorem ct_Ro : CT 4 t_Ro := ⟨R_Ro, T_Ro, 2, rfl, in_Ro, ty_Ro, n_Ro⟩
set_option maxRecDepth 4000 in
theorem ff_Ro_0 : FF 4 0 true := ⟨R_Ro, T_Ro, 2, rfl, rfl, rfl⟩
set_option maxRecDepth 4000 in
theorem ff_Ro_1 : FF 4 1 false := ⟨R_Ro, T_Ro, 2, rfl, rfl, rfl⟩
set_option maxRecDepth 4000 in
theorem cb_Ro : ∃ q : vw_C, classes[4]? = some q ∧ q.1 = R_Ro := ⟨_, rfl, rfl⟩
set_option maxRecDepth 4000 in
theorem is_Ro : Cond.instantiable R_Ro 2 ∈ Tw := (tw1_of 24 rfl rfl)
set_option maxRecDepth 4000 in
theorem in_Te : ∀ w ∈ u_ws R_Te T_Te 3, w ∈ Tw := by decide +kernel
set_option maxRecDepth 4000 in
theorem ct_Te : CT 5 t_Te := ⟨R_Te, T_Te, 3, rfl, in_Te, ty_Te, n_Te⟩
set_option maxRecDepth 4000 in
theorem ff_Te_0 : FF 5 0 true := ⟨R_Te, T_Te, 3, rfl, rfl, rfl⟩
set_option maxRecDepth 4000 in
theorem ff_Te_1 : FF 5 1 true := ⟨R_Te, T_Te, 3, rfl, rfl, rfl⟩
set_option maxRecDepth 4000 in
theorem ff_Te_2 : FF 5 2 true := ⟨R_Te, T_Te, 3, rfl, rfl, rfl⟩
set_option maxRecDepth 4000 in
theorem cb_Te : ∃ q : vw_C, classes[5]? = some q ∧ q.1 = R_Te := ⟨_, rfl, rfl⟩
set_option maxRecDepth 4000 in
theorem is_Te : Cond.instantiable R_Te 3 ∈ Tw := (tw1_of 139 rfl rfl)
set_option maxRecDepth 4000 in
theorem in_Od : ∀ w ∈ u_ws R_Od T_Od 6, w ∈ Tw := by decide +kernel
set_option maxRecDepth 4000 in
theorem ct_Od : CT 6 t_Od := ⟨R_Od, T_Od, 6, rfl, in_Od, ty_Od, n_Od⟩
set_option maxRecDepth 4000 in
theorem ff_Od_0 : FF 6 0 true := ⟨R_Od, T_Od, 6, rfl, rfl, rfl⟩
set_option maxRecDepth 4000 in
theorem ff_Od_1 : FF 6 1 true := ⟨R_Od, T_Od, 6, rfl, rfl, rfl⟩
set_option maxRecDepth 4000 in
theorem ff_Od_2 : FF 6 2 true := ⟨R_Od, T_Od, 6, rfl, rfl, rfl⟩
set_option maxRecDepth 4000 in
theorem ff_Od_3 : FF 6 3 true := ⟨R_Od, T_Od, 6, rfl, rfl, rfl⟩
set_option maxRecDepth 4000 in
theorem ff_Od_4 : FF 6 4 false := ⟨R_Od, T_Od, 6, rfl, rfl, rfl⟩
set_option maxRecDepth 4000 in
theorem ff_Od_5 : FF 6 5 false := ⟨R_Od, T_Od, 6, rfl, rfl, rfl⟩
set_option maxRecDepth 4000 in
theorem cb_Od : ∃ q : vw_C, classes[6]? = some q ∧ q.1 = R_Od := ⟨_, rfl, rfl⟩
set_option maxRecDepth 4000 in
theorem is_Od : Cond.instantiable R_Od 6 ∈ Tw := (tw1_of 13 rfl rfl)
set_option maxRecDepth 4000 in
theorem in_Mo : ∀ w ∈ u_ws R_Mo T_Mo 16, w ∈ Tw := by decide +kernel
set_option maxRecDepth 4000 in
theorem ct_Mo : CT 7 t_Mo := ⟨R_Mo, T_Mo, 16, rfl, in_Mo, ty_Mo, n_Mo⟩
set_option maxRecDepth 4000 in
theorem ff_Mo_0 : FF 7 0 true := ⟨R_Mo, T_Mo, 16, rfl, rfl, rfl⟩
set_option maxRecDepth 4000 in
theorem ff_Mo_1 : FF 7 1 true := ⟨R_Mo, T_Mo, 16, rfl, rfl, rfl⟩
set_option maxRecDepth 4000 in
theorem ff_Mo_2 : FF 7 2 true := ⟨R_Mo, T_Mo, 16, rfl, rfl, rfl⟩
set_option maxRecDepth 4000 in
theorem ff_Mo_3 : FF 7 3 true := ⟨R_Mo, T_Mo, 16, rfl, rfl, rfl⟩
set_option maxRecDepth 4000 in
theorem ff_Mo_4 : FF 7 4 true := ⟨R_Mo, T_Mo, 16, rfl, rfl, rfl⟩
set_option maxRecDepth 4000 in
theorem ff_Mo_5 : FF 7 5 false := ⟨R_Mo, T_Mo, 16, rfl, rfl, rfl⟩
set_option maxRecDepth 4000 in
theorem ff_Mo_6 : FF 7 6 false := ⟨R_Mo, T_Mo, 16, rfl, rfl, rfl⟩
set_option maxRecDepth 4000 in
theorem ff_Mo_7 : FF 7 7 true := ⟨R_Mo, T_Mo, 16, rfl, rfl, rfl⟩
set_option maxRecDepth 4000 in
theorem ff_Mo_8 : FF 7 8 true := ⟨R_Mo, T_Mo, 16, rfl, rfl, rfl⟩
set_option maxRecDepth 4000 in
theorem ff_Mo_9 : FF 7 9 false := ⟨R_Mo, T_Mo, 16, rfl, rfl, rfl⟩
set_option maxRecDepth 4000 in
theorem ff_Mo_10 : FF 7 10 true := ⟨R_Mo, T_Mo, 16, rfl, rfl, rfl⟩
set_option maxRecDepth 4000 in
theorem ff_Mo_11 : FF 7 11 true := ⟨R_Mo, T_Mo, 16, rfl, rfl, rfl⟩
set_option maxRecDepth 4000 in
theorem ff_Mo_12 : FF 7 12 true := ⟨R_Mo, T_Mo, 16, rfl, rfl, rfl⟩
set_option maxRecDepth 4000 in
theorem ff_Mo_13 : FF 7 13 true := ⟨R_Mo, T_Mo, 16, rfl, rfl, rfl⟩
set_option maxRecDepth 4000 in
theorem ff_Mo_14 : FF 7 14 true := ⟨R_Mo, T_Mo, 16, rfl, rfl, rfl⟩
set_option maxRecDepth 4000 in
theorem ff_Mo_15 : FF 7 15 true := ⟨R_Mo, T_Mo, 16, rfl, rfl, rfl⟩
set_option maxRecDepth 4000 in
theorem cb_Mo : ∃ q : vw_C, classes[7]? = some q ∧ q.1 = R_Mo := ⟨_, rfl, rfl⟩
set_option maxRecDepth 4000 in
theorem is_Mo : Cond.instantiable R_Mo 16 ∈ Tw := (tw3_of 180 rfl rfl)
set_option maxRecDepth 4000 in
theorem it_Dv : Cond.initialized R_Dv ∈ Tw := (tw1_of 6 rfl rfl)
set_option maxRecDepth 4000 in
theorem it_Fr : Cond.initialized R_Fr ∈ Tw := (tw1_of 4 rfl rfl)
set_option maxRecDepth 4000 in
theorem it_Ls : Cond.initialized R_Ls ∈ Tw := (tw1_of 11 rfl rfl)
set_option maxRecDepth 4000 in
theorem it_Na : Cond.initialized R_Na ∈ Tw := (tw1_of 5 rfl rfl)
set_option maxRecDepth 4000 in
theorem it_Re : Cond.initialized R_Re ∈ Tw := (tw1_of 3 rfl rfl)
set_option maxRecDepth 4000 in
theorem it_Ro : Cond.initialized R_Ro ∈ Tw := (tw1_of 2 rfl rfl)
set_option maxRecDepth 4000 in
theorem it_Te : Cond.initialized R_Te ∈ Tw := (tw1_of 7 rfl rfl)
set_option maxRecDepth 4000 in
theorem it_Od : Cond.initialized R_Od ∈ Tw := (tw1_of 1 rfl rfl)
set_option maxRecDepth 4000 in
theorem it_Mo : Cond.initialized R_Mo ∈ Tw := (tw1_of 8 rfl rfl)
set_option maxRecDepth 4000 in
theorem it_Jl : Cond.initialized R_Jl ∈ Tw := (tw1_of 9 rfl rfl)
set_option maxRecDepth 4000 in
theorem it_Jm : Cond.initialized R_Jm ∈ Tw := (tw1_of 10 rfl rfl)
set_option maxRecDepth 4000 in
theorem it_Lw : Cond.initialized R_Lw ∈ Tw := (tw1_of 0 rfl rfl)
set_option maxRecDepth 4000 in
theorem fl_Ro_11 : FL R_Ro 11 4 0 := ⟨R_Ro, T_Ro, 2, rfl, in_Ro, by decide, tw1_of 30 rfl rfl⟩
set_option maxRecDepth 4000 in
theorem fl_Ro_17 : FL R_Ro 17 4 1 := ⟨R_Ro, T_Ro, 2, rfl, in_Ro, by decide, tw1_of 31 rfl rfl⟩
set_option maxRecDepth 4000 in
theorem fl_Na_7 : FL R_Na 7 2 0 := ⟨R_Na, T_Na, 2, rfl, in_Na, by decide, tw1_of 56 rfl rfl⟩
set_option maxRecDepth 4000 in
theorem fl_Na_13 : FL R_Na 13 2 1 := ⟨R_Na, T_Na, 2, rfl, in_Na, by decide, tw1_of 57 rfl rfl⟩
set_option maxRecDepth 4000 in
theorem fl_Fr_12 : FL R_Fr 12 1 0 := ⟨R_Fr, T_Fr, 3, rfl, in_Fr, by decide, tw1_of 69 rfl rfl⟩
set_option maxRecDepth 4000 in
theorem fl_Fr_18 : FL R_Fr 18 1 1 := ⟨R_Fr, T_Fr, 3, rfl, in_Fr, by decide, tw1_of 73 rfl rfl⟩
set_option maxRecDepth 4000 in
theorem fl_Fr_21 : FL R_Fr 21 1 2 := ⟨R_Fr, T_Fr, 3, rfl, in_Fr, by decide, tw1_of 77 rfl rfl⟩
set_option maxRecDepth 4000 in
theorem fl_Dv_14 : FL R_Dv 14 0 0 := ⟨R_Dv, T_Dv, 3, rfl, in_Dv, by decide, tw1_of 96 rfl rfl⟩
set_option maxRecDepth 4000 in
theorem fl_Dv_20 : FL R_Dv 20 0 1 := ⟨R_Dv, T_Dv, 3, rfl, in_Dv, by decide, tw1_of 97 rfl rfl⟩
set_option maxRecDepth 4000 in
theorem fl_Dv_23 : FL R_Dv 23 0 2 := ⟨R_Dv, T_Dv, 3, rfl, in_Dv, by decide, tw1_of 100 rfl rfl⟩
set_option maxRecDepth 4000 in
theorem fl_Re_14 : FL R_Re 14 3 0 := ⟨R_Re, T_Re, 8, rfl, in_Re, by decide, tw1_of 112 rfl rfl⟩
set_option maxRecDepth 4000 in
theorem fl_Re_23 : FL R_Re 23 3 1 := ⟨R_Re, T_Re, 8, rfl, in_Re, by decide, tw1_of 114 rfl rfl⟩
set_option maxRecDepth 4000 in
theorem fl_Re_30 : FL R_Re 30 3 2 := ⟨R_Re, T_Re, 8, rfl, in_Re, by decide, tw1_of 115 rfl rfl⟩
set_option maxRecDepth 4000 in
theorem fl_Re_34 : FL R_Re 34 3 3 := ⟨R_Re, T_Re, 8, rfl, in_Re, by decide, tw1_of 116 rfl rfl⟩
set_option maxRecDepth 4000 in
theorem fl_Re_37 : FL R_Re 37 3 4 := ⟨R_Re, T_Re, 8, rfl, in_Re, by decide, tw1_of 117 rfl rfl⟩
set_option maxRecDepth 4000 in
theorem fl_Re_40 : FL R_Re 40 3 5 := ⟨R_Re, T_Re, 8, rfl, in_Re, by decide, tw1_of 118 rfl rfl⟩
set_option maxRecDepth 4000 in
theorem fl_Re_43 : FL R_Re 43 3 6 := ⟨R_Re, T_Re, 8, rfl, in_Re, by decide, tw1_of 119 rfl rfl⟩
set_option maxRecDepth 4000 in
theorem fl_Re_46 : FL R_Re 46 3 7 := ⟨R_Re, T_Re, 8, rfl, in_Re, by decide, tw1_of 120 rfl rfl⟩
set_option maxRecDepth 4000 in
theorem fl_Te_12 : FL R_Te 12 5 0 := ⟨R_Te, T_Te, 3, rfl, in_Te, by decide, tw1_of 148 rfl rfl⟩
set_option maxRecDepth 4000 in
theorem fl_Te_23 : FL R_Te 23 5 1 := ⟨R_Te, T_Te, 3, rfl, in_Te, by decide, tw1_of 149 rfl rfl⟩
set_option maxRecDepth 4000 in
theorem fl_Te_27 : FL R_Te 27 5 2 := ⟨R_Te, T_Te, 3, rfl, in_Te, by decide, tw1_of 150 rfl rfl⟩
set_option maxRecDepth 4000 in
theorem fl_Od_11 : FL R_Od 11 6 0 := ⟨R_Od, T_Od, 6, rfl, in_Od, by decide, tw1_of 158 rfl rfl⟩
set_option maxRecDepth 4000 in
theorem fl_Od_17 : FL R_Od 17 6 1 := ⟨R_Od, T_Od, 6, rfl, in_Od, by decide, tw1_of 159 rfl rfl⟩
set_option maxRecDepth 4000 in
theorem fl_Od_25 : FL R_Od 25 6 2 := ⟨R_Od, T_Od, 6, rfl, in_Od, by decide, tw1_of 160 rfl rfl⟩
set_option maxRecDepth 4000 in
theorem fl_Od_32 : FL R_Od 32 6 3 := ⟨R_Od, T_Od, 6, rfl, in_Od, by decide, tw1_of 161 rfl rfl⟩
set_option maxRecDepth 4000 in
theorem fl_Od_36 : FL R_Od 36 6 4 := ⟨R_Od, T_Od, 6, rfl, in_Od, by decide, tw1_of 162 rfl rfl⟩
set_option maxRecDepth 4000 in
theorem fl_Od_40 : FL R_Od 40 6 5 := ⟨R_Od, T_Od, 6, rfl, in_Od, by decide, tw1_of 163 rfl rfl⟩
set_option maxRecDepth 4000 in
theorem fl_Mo_7 : FL R_Mo 7 7 0 := ⟨R_Mo, T_Mo, 16, rfl, in_Mo, by decide, tw3_of 185 rfl rfl⟩
set_option maxRecDepth 4000 in
theorem fl_Mo_13 : FL R_Mo 13 7 1 := ⟨R_Mo, T_Mo, 16, rfl, in_Mo, by decide, tw3_of 186 rfl rfl⟩
set_option maxRecDepth 4000 in
theorem fl_Mo_17 : FL R_Mo 17 7 2 := ⟨R_Mo, T_Mo, 16, rfl, in_Mo, by decide, tw3_of 187 rfl rfl⟩
set_option maxRecDepth 4000 in
theorem fl_Mo_20 : FL R_Mo 20 7 3 := ⟨R_Mo, T_Mo, 16, rfl, in_Mo, by decide, tw3_of 188 rfl rfl⟩
set_option maxRecDepth 4000 in
theorem fl_Mo_23 : FL R_Mo 23 7 4 := ⟨R_Mo, T_Mo, 16, rfl, in_Mo, by decide, tw3_of 189 rfl rfl⟩
set_option maxRecDepth 4000 in
theorem fl_Mo_50 : FL R_Mo 50 7 5 := ⟨R_Mo, T_Mo, 16, rfl, in_Mo, by decide, tw3_of 190 rfl rfl⟩
set_option maxRecDepth 4000 in
theorem fl_Mo_110 : FL R_Mo 110 7 6 := ⟨R_Mo, T_Mo, 16, rfl, in_Mo, by decide, tw3_of 191 rfl rfl⟩
set_option maxRecDepth 4000 in
theorem fl_Mo_26 : FL R_Mo 26 7 7 := ⟨R_Mo, T_Mo, 16, rfl, in_Mo, by decide, tw3_of 192 rfl rfl⟩
set_option maxRecDepth 4000 in
theorem fl_Mo_29 : FL R_Mo 29 7 8 := ⟨R_Mo, T_Mo, 16, rfl, in_Mo, by decide, tw3_of 193 rfl rfl⟩
set_option maxRecDepth 4000 in
theorem fl_Mo_99 : FL R_Mo 99 7 9 := ⟨R_Mo, T_Mo, 16, rfl, in_Mo, by decide, tw3_of 194 rfl rfl⟩
set_option maxRecDepth 4000 in
theorem fl_Mo_32 : FL R_Mo 32 7 10 := ⟨R_Mo, T_Mo, 16, rfl, in_Mo, by decide, tw3_of 195 rfl rfl⟩
set_option maxRecDepth 4000 in
theorem fl_Mo_35 : FL R_Mo 35 7 11 := ⟨R_Mo, T_Mo, 16, rfl, in_Mo, by decide, tw3_of 196 rfl rfl⟩
set_option maxRecDepth 4000 in
theorem fl_Mo_38 : FL R_Mo 38 7 12 := ⟨R_Mo, T_Mo, 16, rfl, in_Mo, by decide, tw3_of 197 rfl rfl⟩
set_option maxRecDepth 4000 in
theorem fl_Mo_41 : FL R_Mo 41 7 13 := ⟨R_Mo, T_Mo, 16, rfl, in_Mo, by decide, tw3_of 198 rfl rfl⟩
set_option maxRecDepth 4000 in
theorem fl_Mo_44 : FL R_Mo 44 7 14 := ⟨R_Mo, T_Mo, 16, rfl, in_Mo, by decide, tw3_of 199 rfl rfl⟩
set_option maxRecDepth 4000 in
theorem fl_Mo_47 : FL R_Mo 47 7 15 := ⟨R_Mo, T_Mo, 16, rfl, in_Mo, by decide, tw3_of 200 rfl rfl⟩
set_option maxRecDepth 4000 in
theorem fl_Od_193 : FN R_Od 193 4 1 := ⟨R_Ro, T_Ro, 2, "OddsFractions", rfl, in_Ro, by decide, nw1_of 32 rfl rfl⟩
set_option maxRecDepth 4000 in
theorem fl_Dv_41 : FN R_Dv 41 2 1 := ⟨R_Na, T_Na, 2, "OddsFractions", rfl, in_Na, by decide, nw1_of 58 rfl rfl⟩
set_option maxRecDepth 4000 in
theorem fl_Fr_39 : FN R_Fr 39 2 1 := ⟨R_Na, T_Na, 2, "OddsFractions", rfl, in_Na, by decide, nw1_of 59 rfl rfl⟩
set_option maxRecDepth 4000 in
theorem fl_Te_86 : FN R_Te 86 2 1 := ⟨R_Na, T_Na, 2, "OddsFractions", rfl, in_Na, by decide, nw1_of 60 rfl rfl⟩
set_option maxRecDepth 4000 in
theorem fl_Re_102 : FN R_Re 102 2 1 := ⟨R_Na, T_Na, 2, "OddsFractions", rfl, in_Na, by decide, nw1_of 61 rfl rfl⟩
set_option maxRecDepth 4000 in
theorem fl_Od_108 : FN R_Od 108 2 1 := ⟨R_Na, T_Na, 2, "OddsFractions", rfl, in_Na, by decide, nw1_of 62 rfl rfl⟩
set_option maxRecDepth 4000 in
theorem fl_Te_36 : FN R_Te 36 1 0 := ⟨R_Fr, T_Fr, 3, "OddsFractions", rfl, in_Fr, by decide, nw1_of 70 rfl rfl⟩
set_option maxRecDepth 4000 in
theorem fl_Re_67 : FN R_Re 67 1 0 := ⟨R_Fr, T_Fr, 3, "OddsFractions", rfl, in_Fr, by decide, nw1_of 71 rfl rfl⟩
set_option maxRecDepth 4000 in
theorem fl_Od_213 : FN R_Od 213 1 0 := ⟨R_Fr, T_Fr, 3, "OddsFractions", rfl, in_Fr, by decide, nw1_of 72 rfl rfl⟩
set_option maxRecDepth 4000 in
theorem fl_Te_43 : FN R_Te 43 1 1 := ⟨R_Fr, T_Fr, 3, "OddsFractions", rfl, in_Fr, by decide, nw1_of 74 rfl rfl⟩
set_option maxRecDepth 4000 in
theorem fl_Re_74 : FN R_Re 74 1 1 := ⟨R_Fr, T_Fr, 3, "OddsFractions", rfl, in_Fr, by decide, nw1_of 75 rfl rfl⟩
set_option maxRecDepth 4000 in
theorem fl_Od_217 : FN R_Od 217 1 1 := ⟨R_Fr, T_Fr, 3, "OddsFractions", rfl, in_Fr, by decide, nw1_of 76 rfl rfl⟩
set_option maxRecDepth 4000 in
theorem fl_Re_55 : FN R_Re 55 1 2 := ⟨R_Fr, T_Fr, 3, "OddsFractions", rfl, in_Fr, by decide, nw1_of 78 rfl rfl⟩
set_option maxRecDepth 4000 in
theorem fl_Te_65 : FN R_Te 65 1 2 := ⟨R_Fr, T_Fr, 3, "OddsFractions", rfl, in_Fr, by decide, nw1_of 79 rfl rfl⟩
set_option maxRecDepth 4000 in
theorem fl_Od_67 : FN R_Od 67 1 2 := ⟨R_Fr, T_Fr, 3, "OddsFractions", rfl, in_Fr, by decide, nw1_of 80 rfl rfl⟩
set_option maxRecDepth 4000 in
theorem fl_Te_51 : FN R_Te 51 0 1 := ⟨R_Dv, T_Dv, 3, "OddsFractions", rfl, in_Dv, by decide, nw1_of 98 rfl rfl⟩
set_option maxRecDepth 4000 in
theorem fl_Re_194 : FN R_Re 194 0 1 := ⟨R_Dv, T_Dv, 3, "OddsFractions", rfl, in_Dv, by decide, nw1_of 99 rfl rfl⟩
set_option maxRecDepth 4000 in
theorem fl_Te_58 : FN R_Te 58 0 2 := ⟨R_Dv, T_Dv, 3, "OddsFractions", rfl, in_Dv, by decide, nw1_of 101 rfl rfl⟩
set_option maxRecDepth 4000 in
theorem fl_Re_161 : FN R_Re 161 0 2 := ⟨R_Dv, T_Dv, 3, "OddsFractions", rfl, in_Dv, by decide, nw1_of 102 rfl rfl⟩
set_option maxRecDepth 4000 in
theorem fl_Od_182 : FN R_Od 182 3 0 := ⟨R_Re, T_Re, 8, "OddsFractions", rfl, in_Re, by decide, nw1_of 113 rfl rfl⟩
set_option maxRecDepth 4000 in
theorem ol_Od_1 : Cond.methodLink R_Od 1 objectInit ∈ Tw := tw1_of 17 rfl rfl
set_option maxRecDepth 4000 in
theorem cl_Od_21 : CI R_Od 21 m_Ro_init 0 := ⟨⟨tw1_of 25 rfl rfl, (tw1_of 27 rfl rfl), it_Ro, by decide, by decide, by decide +kernel⟩, tw1_of 26 rfl rfl, rfl, rfl⟩
set_option maxRecDepth 4000 in
theorem cl_Od_24 : CIN R_Od 24 m_Re_init 0 := ⟨⟨"OddsFractions", nw1_of 40 rfl rfl⟩, ⟨(tw1_of 42 rfl rfl), it_Re, by decide, by decide, by decide +kernel⟩, tw1_of 41 rfl rfl, rfl, rfl⟩
set_option maxRecDepth 4000 in
theorem cl_Od_31 : CIN R_Od 31 m_Te_init 0 := ⟨⟨"OddsFractions", nw1_of 140 rfl rfl⟩, ⟨(tw1_of 142 rfl rfl), it_Te, by decide, by decide, by decide +kernel⟩, tw1_of 141 rfl rfl, rfl, rfl⟩
set_option maxRecDepth 4000 in
theorem cl_Od_43 : CS R_Od 43 m_Od_isNoFraction 1 := ⟨⟨tw1_of 185 rfl rfl, (tw1_of 187 rfl rfl), it_Od, by decide, by decide, by decide +kernel⟩, tw1_of 186 rfl rfl⟩
set_option maxRecDepth 4000 in
theorem cl_Od_48 : CV R_Od 48 m_Od_tell 1 := ⟨⟨tw1_of 192 rfl rfl, (tw1_of 195 rfl rfl), it_Od, by decide, by decide, by decide +kernel⟩, tw1_of 194 rfl rfl, sw_of 0 rfl rfl⟩
set_option maxRecDepth 4000 in
theorem cl_Od_52 : CV R_Od 52 m_Re_divideLongs 2 := ⟨⟨tw1_of 196 rfl rfl, (tw1_of 199 rfl rfl), it_Re, by decide, by decide, by decide +kernel⟩, tw1_of 197 rfl rfl, tw1_of 198 rfl rfl⟩
set_option maxRecDepth 4000 in
theorem cl_Od_56 : CV R_Od 56 m_Od_make 1 := ⟨⟨tw2_of 94 rfl rfl, (tw2_of 97 rfl rfl), it_Od, by decide, by decide, by decide +kernel⟩, tw2_of 96 rfl rfl, sw_of 8 rfl rfl⟩
set_option maxRecDepth 4000 in
theorem cl_Od_59 : CV R_Od 59 m_Od_fractionAt 1 := ⟨⟨tw2_of 130 rfl rfl, (tw2_of 133 rfl rfl), it_Od, by decide, by decide, by decide +kernel⟩, tw2_of 132 rfl rfl, sw_of 11 rfl rfl⟩
set_option maxRecDepth 4000 in
theorem cl_Od_63 : CV R_Od 63 m_Od_keep 2 := ⟨⟨tw2_of 113 rfl rfl, (tw2_of 116 rfl rfl), it_Od, by decide, by decide, by decide +kernel⟩, tw2_of 115 rfl rfl, sw_of 9 rfl rfl⟩
set_option maxRecDepth 4000 in
theorem cl_Od_70 : CV R_Od 70 m_Od_done 1 := ⟨⟨tw2_of 122 rfl rfl, (tw2_of 125 rfl rfl), it_Od, by decide, by decide, by decide +kernel⟩, tw2_of 124 rfl rfl, sw_of 10 rfl rfl⟩
set_option maxRecDepth 4000 in
theorem cl_Od_73 : CS R_Od 73 m_Od_isOut 3 := ⟨⟨tw1_of 188 rfl rfl, (tw1_of 190 rfl rfl), it_Od, by decide, by decide, by decide +kernel⟩, tw1_of 189 rfl rfl⟩
set_option maxRecDepth 4000 in
theorem cl_Od_77 : CV R_Od 77 m_Od_workOut 3 := ⟨⟨tw2_of 142 rfl rfl, (tw2_of 145 rfl rfl), it_Od, by decide, by decide, by decide +kernel⟩, tw2_of 144 rfl rfl, sw_of 12 rfl rfl⟩
set_option maxRecDepth 4000 in
theorem cl_Od_81 : CV R_Od 81 m_Re_raise 2 := ⟨⟨tw2_of 179 rfl rfl, (tw2_of 182 rfl rfl), it_Re, by decide, by decide, by decide +kernel⟩, tw2_of 180 rfl rfl, tw2_of 181 rfl rfl⟩
set_option maxRecDepth 4000 in
theorem cl_Od_85 : CV R_Od 85 m_Re_countWays 2 := ⟨⟨tw2_of 191 rfl rfl, (tw2_of 194 rfl rfl), it_Re, by decide, by decide, by decide +kernel⟩, tw2_of 192 rfl rfl, tw2_of 193 rfl rfl⟩
set_option maxRecDepth 4000 in
theorem cl_Od_89 : CV R_Od 89 m_Fr_isWhole 0 := ⟨⟨tw2_of 214 rfl rfl, (tw2_of 217 rfl rfl), it_Fr, by decide, by decide, by decide +kernel⟩, tw2_of 215 rfl rfl, tw2_of 216 rfl rfl⟩
set_option maxRecDepth 4000 in
theorem cl_Od_93 : CV R_Od 93 m_Re_findCommonWhole 2 := ⟨⟨tw2_of 219 rfl rfl, (tw2_of 222 rfl rfl), it_Re, by decide, by decide, by decide +kernel⟩, tw2_of 220 rfl rfl, tw2_of 221 rfl rfl⟩
set_option maxRecDepth 4000 in
theorem cl_Od_97 : CV R_Od 97 m_Re_compare 2 := ⟨⟨tw2_of 170 rfl rfl, (tw2_of 173 rfl rfl), it_Re, by decide, by decide, by decide +kernel⟩, tw2_of 171 rfl rfl, tw2_of 172 rfl rfl⟩
set_option maxRecDepth 4000 in
theorem cl_Od_101 : CV R_Od 101 m_Fr_isSmall 0 := ⟨⟨tw2_of 117 rfl rfl, (tw2_of 120 rfl rfl), it_Fr, by decide, by decide, by decide +kernel⟩, tw2_of 118 rfl rfl, tw2_of 119 rfl rfl⟩
set_option maxRecDepth 4000 in
theorem cl_Od_104 : CV R_Od 104 m_Fr_partOf 1 := ⟨⟨tw2_of 239 rfl rfl, (tw3_of 2 rfl rfl), it_Fr, by decide, by decide, by decide +kernel⟩, tw3_of 0 rfl rfl, tw3_of 1 rfl rfl⟩
set_option maxRecDepth 4000 in
theorem cl_Od_115 : CV R_Od 115 m_Na_at 1 := ⟨⟨tw3_of 8 rfl rfl, (tw1_of 233 rfl rfl), it_Na, by decide, by decide, by decide +kernel⟩, tw1_of 231 rfl rfl, tw1_of 232 rfl rfl⟩
set_option maxRecDepth 4000 in
theorem cl_Od_119 : CV R_Od 119 m_Te_roundOff 3 := ⟨⟨tw3_of 13 rfl rfl, (tw3_of 16 rfl rfl), it_Te, by decide, by decide, by decide +kernel⟩, tw3_of 14 rfl rfl, tw3_of 15 rfl rfl⟩
set_option maxRecDepth 4000 in
theorem cl_Od_123 : CV R_Od 123 m_Te_isRoundedLong 1 := ⟨⟨tw3_of 38 rfl rfl, (tw3_of 41 rfl rfl), it_Te, by decide, by decide, by decide +kernel⟩, tw3_of 39 rfl rfl, tw3_of 40 rfl rfl⟩
set_option maxRecDepth 4000 in
theorem cl_Od_126 : CV R_Od 126 m_Te_roundedLong 1 := ⟨⟨tw3_of 44 rfl rfl, (tw3_of 47 rfl rfl), it_Te, by decide, by decide, by decide +kernel⟩, tw3_of 45 rfl rfl, tw3_of 46 rfl rfl⟩
set_option maxRecDepth 4000 in
theorem cl_Od_129 : CV R_Od 129 m_Te_doubleBits 2 := ⟨⟨tw3_of 52 rfl rfl, (tw3_of 55 rfl rfl), it_Te, by decide, by decide, by decide +kernel⟩, tw3_of 53 rfl rfl, tw3_of 54 rfl rfl⟩
set_option maxRecDepth 4000 in
theorem cl_Od_133 : CS R_Od 133 m_Te_isNoNumber 1 := ⟨⟨tw3_of 63 rfl rfl, (tw3_of 65 rfl rfl), it_Te, by decide, by decide, by decide +kernel⟩, tw3_of 64 rfl rfl⟩
set_option maxRecDepth 4000 in
theorem cl_Od_137 : CV R_Od 137 m_Re_readDouble 1 := ⟨⟨tw3_of 69 rfl rfl, (tw3_of 72 rfl rfl), it_Re, by decide, by decide, by decide +kernel⟩, tw3_of 70 rfl rfl, tw3_of 71 rfl rfl⟩
set_option maxRecDepth 4000 in
theorem cl_Od_142 : CS R_Od 142 m_Ls_divides 1 := ⟨⟨tw3_of 83 rfl rfl, (tw3_of 85 rfl rfl), it_Ls, by decide, by decide, by decide +kernel⟩, tw3_of 84 rfl rfl⟩
set_option maxRecDepth 4000 in
theorem cl_Od_145 : CS R_Od 145 m_Ls_fits 3 := ⟨⟨tw3_of 86 rfl rfl, (tw3_of 88 rfl rfl), it_Ls, by decide, by decide, by decide +kernel⟩, tw3_of 87 rfl rfl⟩
set_option maxRecDepth 4000 in
theorem cl_Od_149 : CS R_Od 149 m_Ls_outcome 3 := ⟨⟨tw3_of 94 rfl rfl, (tw3_of 96 rfl rfl), it_Ls, by decide, by decide, by decide +kernel⟩, tw3_of 95 rfl rfl⟩
set_option maxRecDepth 4000 in
theorem cl_Od_153 : CS R_Od 153 m_Od_isNoRow 1 := ⟨⟨tw3_of 104 rfl rfl, (tw3_of 106 rfl rfl), it_Od, by decide, by decide, by decide +kernel⟩, tw3_of 105 rfl rfl⟩
set_option maxRecDepth 4000 in
theorem cl_Od_156 : CV R_Od 156 m_Ro_empty 1 := ⟨⟨tw3_of 107 rfl rfl, (tw3_of 110 rfl rfl), it_Ro, by decide, by decide, by decide +kernel⟩, tw3_of 108 rfl rfl, tw3_of 109 rfl rfl⟩
set_option maxRecDepth 4000 in
theorem cl_Od_160 : CV R_Od 160 m_Od_rowAt 1 := ⟨⟨tw3_of 116 rfl rfl, (tw3_of 119 rfl rfl), it_Od, by decide, by decide, by decide +kernel⟩, tw3_of 118 rfl rfl, sw_of 17 rfl rfl⟩
set_option maxRecDepth 4000 in
theorem cl_Od_164 : CV R_Od 164 m_Ro_hasPlaces 2 := ⟨⟨tw3_of 124 rfl rfl, (tw3_of 127 rfl rfl), it_Ro, by decide, by decide, by decide +kernel⟩, tw3_of 125 rfl rfl, tw3_of 126 rfl rfl⟩
set_option maxRecDepth 4000 in
theorem cl_Od_168 : CV R_Od 168 m_Ro_hold 2 := ⟨⟨tw3_of 128 rfl rfl, (tw3_of 131 rfl rfl), it_Ro, by decide, by decide, by decide +kernel⟩, tw3_of 129 rfl rfl, tw3_of 130 rfl rfl⟩
set_option maxRecDepth 4000 in
theorem cl_Od_171 : CV R_Od 171 m_Ro_take 4 := ⟨⟨tw3_of 136 rfl rfl, (tw3_of 139 rfl rfl), it_Ro, by decide, by decide, by decide +kernel⟩, tw3_of 137 rfl rfl, tw3_of 138 rfl rfl⟩
set_option maxRecDepth 4000 in
theorem cl_Od_175 : CV R_Od 175 m_Ro_countHeld 0 := ⟨⟨tw3_of 149 rfl rfl, (tw3_of 152 rfl rfl), it_Ro, by decide, by decide, by decide +kernel⟩, tw3_of 150 rfl rfl, tw3_of 151 rfl rfl⟩
set_option maxRecDepth 4000 in
theorem cl_Od_179 : CV R_Od 179 m_Od_addUpRow 1 := ⟨⟨tw3_of 157 rfl rfl, (tw3_of 160 rfl rfl), it_Od, by decide, by decide, by decide +kernel⟩, tw3_of 159 rfl rfl, sw_of 18 rfl rfl⟩
set_option maxRecDepth 4000 in
theorem cl_Od_186 : CV R_Od 186 m_Fr_isOne 0 := ⟨⟨tw3_of 167 rfl rfl, (tw3_of 170 rfl rfl), it_Fr, by decide, by decide, by decide +kernel⟩, tw3_of 168 rfl rfl, tw3_of 169 rfl rfl⟩
set_option maxRecDepth 4000 in
theorem cl_Od_189 : CV R_Od 189 m_Fr_becomeWhole 1 := ⟨⟨tw3_of 161 rfl rfl, (tw2_of 198 rfl rfl), it_Fr, by decide, by decide, by decide +kernel⟩, tw2_of 196 rfl rfl, tw2_of 197 rfl rfl⟩
set_option maxRecDepth 4000 in
theorem cl_Od_196 : CV R_Od 196 m_Ro_heldAt 1 := ⟨⟨tw3_of 162 rfl rfl, (tw3_of 143 rfl rfl), it_Ro, by decide, by decide, by decide +kernel⟩, tw3_of 141 rfl rfl, tw3_of 142 rfl rfl⟩
set_option maxRecDepth 4000 in
theorem cl_Od_199 : CV R_Od 199 m_Re_add 3 := ⟨⟨tw2_of 146 rfl rfl, (tw2_of 149 rfl rfl), it_Re, by decide, by decide, by decide +kernel⟩, tw2_of 147 rfl rfl, tw2_of 148 rfl rfl⟩
set_option maxRecDepth 4000 in
theorem cl_Od_203 : CV R_Od 203 m_Fr_isWide 0 := ⟨⟨tw2_of 98 rfl rfl, (tw2_of 101 rfl rfl), it_Fr, by decide, by decide, by decide +kernel⟩, tw2_of 99 rfl rfl, tw2_of 100 rfl rfl⟩
set_option maxRecDepth 4000 in
theorem cl_Od_206 : CV R_Od 206 m_Ro_isThere 0 := ⟨⟨tw3_of 120 rfl rfl, (tw3_of 123 rfl rfl), it_Ro, by decide, by decide, by decide +kernel⟩, tw3_of 121 rfl rfl, tw3_of 122 rfl rfl⟩
set_option maxRecDepth 4000 in
theorem cl_Od_209 : CV R_Od 209 m_Fr_copied 0 := ⟨⟨tw2_of 102 rfl rfl, (tw2_of 105 rfl rfl), it_Fr, by decide, by decide, by decide +kernel⟩, tw2_of 103 rfl rfl, tw2_of 104 rfl rfl⟩
set_option maxRecDepth 4000 in
theorem cl_Od_220 : CV R_Od 220 m_Re_multiply 4 := ⟨⟨tw2_of 166 rfl rfl, (tw2_of 169 rfl rfl), it_Re, by decide, by decide, by decide +kernel⟩, tw2_of 167 rfl rfl, tw2_of 168 rfl rfl⟩
set_option maxRecDepth 4000 in
theorem cl_Od_224 : CV R_Od 224 m_Fr_become 1 := ⟨⟨tw2_of 174 rfl rfl, (tw2_of 111 rfl rfl), it_Fr, by decide, by decide, by decide +kernel⟩, tw2_of 109 rfl rfl, tw2_of 110 rfl rfl⟩
set_option maxRecDepth 4000 in
theorem ol_Dv_3 : Cond.methodLink R_Dv 3 objectInit ∈ Tw := tw1_of 93 rfl rfl
set_option maxRecDepth 4000 in
theorem cl_Dv_11 : CI R_Dv 11 m_Na_init 1 := ⟨⟨tw1_of 95 rfl rfl, (tw1_of 54 rfl rfl), it_Na, by decide, by decide, by decide +kernel⟩, tw1_of 53 rfl rfl, rfl, rfl⟩
set_option maxRecDepth 4000 in
theorem cl_Dv_26 : CV R_Dv 26 m_Na_become 1 := ⟨⟨tw2_of 49 rfl rfl, (tw2_of 5 rfl rfl), it_Na, by decide, by decide, by decide +kernel⟩, tw2_of 3 rfl rfl, tw2_of 4 rfl rfl⟩
set_option maxRecDepth 4000 in
theorem cl_Dv_30 : CV R_Dv 30 m_Na_clear 0 := ⟨⟨tw2_of 50 rfl rfl, (tw1_of 210 rfl rfl), it_Na, by decide, by decide, by decide +kernel⟩, tw1_of 208 rfl rfl, tw1_of 209 rfl rfl⟩
set_option maxRecDepth 4000 in
theorem cl_Dv_33 : CV R_Dv 33 m_Na_isZero 0 := ⟨⟨tw2_of 51 rfl rfl, (tw2_of 10 rfl rfl), it_Na, by decide, by decide, by decide +kernel⟩, tw2_of 8 rfl rfl, tw2_of 9 rfl rfl⟩
set_option maxRecDepth 4000 in
theorem cl_Dv_37 : CV R_Dv 37 m_Na_compareWith 1 := ⟨⟨tw2_of 52 rfl rfl, (tw2_of 1 rfl rfl), it_Na, by decide, by decide, by decide +kernel⟩, tw1_of 239 rfl rfl, tw2_of 0 rfl rfl⟩
set_option maxRecDepth 4000 in
theorem cl_Dv_45 : CV R_Dv 45 m_Na_at 1 := ⟨⟨tw2_of 53 rfl rfl, (tw1_of 233 rfl rfl), it_Na, by decide, by decide, by decide +kernel⟩, tw1_of 231 rfl rfl, tw1_of 232 rfl rfl⟩
set_option maxRecDepth 4000 in
theorem cl_Dv_49 : CS R_Dv 49 m_Na_countLimbBits 1 := ⟨⟨tw2_of 54 rfl rfl, (tw2_of 31 rfl rfl), it_Na, by decide, by decide, by decide +kernel⟩, tw2_of 30 rfl rfl⟩
set_option maxRecDepth 4000 in
theorem cl_Dv_53 : CV R_Dv 53 m_Na_shiftUp 1 := ⟨⟨tw2_of 55 rfl rfl, (tw2_of 58 rfl rfl), it_Na, by decide, by decide, by decide +kernel⟩, tw2_of 56 rfl rfl, tw2_of 57 rfl rfl⟩
set_option maxRecDepth 4000 in
theorem cl_Dv_56 : CV R_Dv 56 m_Na_widen 1 := ⟨⟨tw2_of 59 rfl rfl, (tw1_of 214 rfl rfl), it_Na, by decide, by decide, by decide +kernel⟩, tw1_of 212 rfl rfl, tw1_of 213 rfl rfl⟩
set_option maxRecDepth 4000 in
theorem cl_Dv_59 : CV R_Dv 59 m_Dv_guessDigit 1 := ⟨⟨tw2_of 60 rfl rfl, (tw2_of 63 rfl rfl), it_Dv, by decide, by decide, by decide +kernel⟩, tw2_of 62 rfl rfl, sw_of 4 rfl rfl⟩
set_option maxRecDepth 4000 in
theorem cl_Dv_62 : CV R_Dv 62 m_Dv_takeTimes 2 := ⟨⟨tw2_of 72 rfl rfl, (tw2_of 75 rfl rfl), it_Dv, by decide, by decide, by decide +kernel⟩, tw2_of 74 rfl rfl, sw_of 5 rfl rfl⟩
set_option maxRecDepth 4000 in
theorem cl_Dv_66 : CV R_Dv 66 m_Dv_giveBack 1 := ⟨⟨tw2_of 77 rfl rfl, (tw2_of 80 rfl rfl), it_Dv, by decide, by decide, by decide +kernel⟩, tw2_of 79 rfl rfl, sw_of 6 rfl rfl⟩
set_option maxRecDepth 4000 in
theorem cl_Dv_69 : CV R_Dv 69 m_Na_store 2 := ⟨⟨tw2_of 76 rfl rfl, (tw1_of 225 rfl rfl), it_Na, by decide, by decide, by decide +kernel⟩, tw1_of 223 rfl rfl, tw1_of 224 rfl rfl⟩
set_option maxRecDepth 4000 in
theorem cl_Dv_73 : CV R_Dv 73 m_Na_trim 0 := ⟨⟨tw2_of 81 rfl rfl, (tw1_of 229 rfl rfl), it_Na, by decide, by decide, by decide +kernel⟩, tw1_of 227 rfl rfl, tw1_of 228 rfl rfl⟩
set_option maxRecDepth 4000 in
theorem cl_Dv_76 : CV R_Dv 76 m_Na_shiftDown 1 := ⟨⟨tw2_of 82 rfl rfl, (tw2_of 85 rfl rfl), it_Na, by decide, by decide, by decide +kernel⟩, tw2_of 83 rfl rfl, tw2_of 84 rfl rfl⟩
set_option maxRecDepth 4000 in
theorem cl_Dv_81 : CS R_Dv 81 m_Dv_divideUnsigned 2 := ⟨⟨tw2_of 65 rfl rfl, (tw2_of 67 rfl rfl), it_Dv, by decide, by decide, by decide +kernel⟩, tw2_of 66 rfl rfl⟩
set_option maxRecDepth 4000 in
theorem cl_Dv_85 : CS R_Dv 85 m_Dv_isAboveUnsigned 2 := ⟨⟨tw2_of 68 rfl rfl, (tw2_of 70 rfl rfl), it_Dv, by decide, by decide, by decide +kernel⟩, tw2_of 69 rfl rfl⟩
set_option maxRecDepth 4000 in
theorem ol_Fr_1 : Cond.methodLink R_Fr 1 objectInit ∈ Tw := tw1_of 49 rfl rfl
set_option maxRecDepth 4000 in
theorem cl_Fr_9 : CI R_Fr 9 m_Na_init 1 := ⟨⟨tw1_of 52 rfl rfl, (tw1_of 54 rfl rfl), it_Na, by decide, by decide, by decide +kernel⟩, tw1_of 53 rfl rfl, rfl, rfl⟩
set_option maxRecDepth 4000 in
theorem cl_Fr_25 : CV R_Fr 25 m_Na_become 1 := ⟨⟨tw2_of 112 rfl rfl, (tw2_of 5 rfl rfl), it_Na, by decide, by decide, by decide +kernel⟩, tw2_of 3 rfl rfl, tw2_of 4 rfl rfl⟩
set_option maxRecDepth 4000 in
theorem cl_Fr_29 : CS R_Fr 29 m_Jl_compare 2 := ⟨⟨tw2_of 199 rfl rfl, (tw1_of 202 rfl rfl), it_Jl, by decide, by decide, by decide +kernel⟩, tw1_of 201 rfl rfl⟩
set_option maxRecDepth 4000 in
theorem cl_Fr_35 : CV R_Fr 35 m_Na_becomeLong 1 := ⟨⟨tw2_of 200 rfl rfl, (tw1_of 206 rfl rfl), it_Na, by decide, by decide, by decide +kernel⟩, tw1_of 204 rfl rfl, tw1_of 205 rfl rfl⟩
set_option maxRecDepth 4000 in
theorem cl_Fr_42 : CI R_Fr 42 m_Fr_init 2 := ⟨⟨tw2_of 107 rfl rfl, (tw1_of 48 rfl rfl), it_Fr, by decide, by decide, by decide +kernel⟩, tw1_of 47 rfl rfl, rfl, rfl⟩
set_option maxRecDepth 4000 in
theorem cl_Fr_45 : CV R_Fr 45 m_Fr_become 1 := ⟨⟨tw2_of 108 rfl rfl, (tw2_of 111 rfl rfl), it_Fr, by decide, by decide, by decide +kernel⟩, tw2_of 109 rfl rfl, tw2_of 110 rfl rfl⟩
set_option maxRecDepth 4000 in
theorem cl_Fr_48 : CV R_Fr 48 m_Na_isOne 0 := ⟨⟨tw2_of 218 rfl rfl, (tw2_of 93 rfl rfl), it_Na, by decide, by decide, by decide +kernel⟩, tw2_of 91 rfl rfl, tw2_of 92 rfl rfl⟩
set_option maxRecDepth 4000 in
theorem cl_Fr_52 : CV R_Fr 52 m_Na_countBits 0 := ⟨⟨tw2_of 121 rfl rfl, (tw2_of 28 rfl rfl), it_Na, by decide, by decide, by decide +kernel⟩, tw2_of 26 rfl rfl, tw2_of 27 rfl rfl⟩
set_option maxRecDepth 4000 in
theorem cl_Ls_11 : CS R_Ls 11 m_Ls_isProductLong 2 := ⟨⟨tw3_of 89 rfl rfl, (tw3_of 91 rfl rfl), it_Ls, by decide, by decide, by decide +kernel⟩, tw3_of 90 rfl rfl⟩
set_option maxRecDepth 4000 in
theorem cl_Ls_19 : CS R_Ls 19 m_Ls_floorOf 2 := ⟨⟨tw3_of 97 rfl rfl, (tw3_of 99 rfl rfl), it_Ls, by decide, by decide, by decide +kernel⟩, tw3_of 98 rfl rfl⟩
set_option maxRecDepth 4000 in
theorem ol_Na_1 : Cond.methodLink R_Na 1 objectInit ∈ Tw := tw1_of 55 rfl rfl
set_option maxRecDepth 4000 in
theorem cl_Na_17 : CS R_Na 17 m_Jm_min 2 := ⟨⟨tw1_of 215 rfl rfl, (tw1_of 217 rfl rfl), it_Jm, by decide, by decide, by decide +kernel⟩, tw1_of 216 rfl rfl⟩
set_option maxRecDepth 4000 in
theorem cl_Na_23 : CS R_Na 23 m_Jm_max 2 := ⟨⟨tw1_of 218 rfl rfl, (tw1_of 220 rfl rfl), it_Jm, by decide, by decide, by decide +kernel⟩, tw1_of 219 rfl rfl⟩
set_option maxRecDepth 4000 in
theorem cl_Na_26 : CV R_Na 26 m_Na_at 1 := ⟨⟨tw1_of 230 rfl rfl, (tw1_of 233 rfl rfl), it_Na, by decide, by decide, by decide +kernel⟩, tw1_of 231 rfl rfl, tw1_of 232 rfl rfl⟩
set_option maxRecDepth 4000 in
theorem cl_Na_30 : CV R_Na 30 m_Na_store 2 := ⟨⟨tw1_of 222 rfl rfl, (tw1_of 225 rfl rfl), it_Na, by decide, by decide, by decide +kernel⟩, tw1_of 223 rfl rfl, tw1_of 224 rfl rfl⟩
set_option maxRecDepth 4000 in
theorem cl_Na_34 : CV R_Na 34 m_Na_clear 0 := ⟨⟨tw1_of 207 rfl rfl, (tw1_of 210 rfl rfl), it_Na, by decide, by decide, by decide +kernel⟩, tw1_of 208 rfl rfl, tw1_of 209 rfl rfl⟩
set_option maxRecDepth 4000 in
theorem cl_Na_37 : CV R_Na 37 m_Na_widen 1 := ⟨⟨tw1_of 211 rfl rfl, (tw1_of 214 rfl rfl), it_Na, by decide, by decide, by decide +kernel⟩, tw1_of 212 rfl rfl, tw1_of 213 rfl rfl⟩
set_option maxRecDepth 4000 in
theorem cl_Na_43 : CV R_Na 43 m_Na_trim 0 := ⟨⟨tw1_of 226 rfl rfl, (tw1_of 229 rfl rfl), it_Na, by decide, by decide, by decide +kernel⟩, tw1_of 227 rfl rfl, tw1_of 228 rfl rfl⟩
set_option maxRecDepth 4000 in
theorem cl_Na_46 : CS R_Na 46 m_Na_countLimbBits 1 := ⟨⟨tw2_of 29 rfl rfl, (tw2_of 31 rfl rfl), it_Na, by decide, by decide, by decide +kernel⟩, tw2_of 30 rfl rfl⟩
set_option maxRecDepth 4000 in
theorem ol_Re_1 : Cond.methodLink R_Re 1 objectInit ∈ Tw := tw1_of 43 rfl rfl
set_option maxRecDepth 4000 in
theorem cl_Re_11 : CI R_Re 11 m_Fr_init 2 := ⟨⟨tw1_of 46 rfl rfl, (tw1_of 48 rfl rfl), it_Fr, by decide, by decide, by decide +kernel⟩, tw1_of 47 rfl rfl, rfl, rfl⟩
set_option maxRecDepth 4000 in
theorem cl_Re_22 : CIN R_Re 22 m_Dv_init 0 := ⟨⟨"OddsFractions", nw1_of 90 rfl rfl⟩, ⟨(tw1_of 92 rfl rfl), it_Dv, by decide, by decide, by decide +kernel⟩, tw1_of 91 rfl rfl, rfl, rfl⟩
set_option maxRecDepth 4000 in
theorem cl_Re_27 : CI R_Re 27 m_Na_init 1 := ⟨⟨tw1_of 111 rfl rfl, (tw1_of 54 rfl rfl), it_Na, by decide, by decide, by decide +kernel⟩, tw1_of 53 rfl rfl, rfl, rfl⟩
set_option maxRecDepth 4000 in
theorem cl_Re_49 : CS R_Re 49 m_Jl_compare 2 := ⟨⟨tw1_of 200 rfl rfl, (tw1_of 202 rfl rfl), it_Jl, by decide, by decide, by decide +kernel⟩, tw1_of 201 rfl rfl⟩
set_option maxRecDepth 4000 in
theorem cl_Re_59 : CV R_Re 59 m_Na_becomeLong 1 := ⟨⟨tw1_of 203 rfl rfl, (tw1_of 206 rfl rfl), it_Na, by decide, by decide, by decide +kernel⟩, tw1_of 204 rfl rfl, tw1_of 205 rfl rfl⟩
set_option maxRecDepth 4000 in
theorem cl_Re_63 : CV R_Re 63 m_Re_findCommon 2 := ⟨⟨tw1_of 234 rfl rfl, (tw1_of 237 rfl rfl), it_Re, by decide, by decide, by decide +kernel⟩, tw1_of 236 rfl rfl, sw_of 1 rfl rfl⟩
set_option maxRecDepth 4000 in
theorem cl_Re_70 : CV R_Re 70 m_Re_divideInto 3 := ⟨⟨tw2_of 86 rfl rfl, (tw2_of 89 rfl rfl), it_Re, by decide, by decide, by decide +kernel⟩, tw2_of 88 rfl rfl, sw_of 7 rfl rfl⟩
set_option maxRecDepth 4000 in
theorem cl_Re_77 : CV R_Re 77 m_Na_becomeProduct 2 := ⟨⟨tw2_of 150 rfl rfl, (tw2_of 153 rfl rfl), it_Na, by decide, by decide, by decide +kernel⟩, tw2_of 151 rfl rfl, tw2_of 152 rfl rfl⟩
set_option maxRecDepth 4000 in
theorem cl_Re_80 : CV R_Re 80 m_Re_addSigned 2 := ⟨⟨tw2_of 154 rfl rfl, (tw2_of 157 rfl rfl), it_Re, by decide, by decide, by decide +kernel⟩, tw2_of 156 rfl rfl, sw_of 13 rfl rfl⟩
set_option maxRecDepth 4000 in
theorem cl_Re_84 : CV R_Re 84 m_Na_become 1 := ⟨⟨tw2_of 2 rfl rfl, (tw2_of 5 rfl rfl), it_Na, by decide, by decide, by decide +kernel⟩, tw2_of 3 rfl rfl, tw2_of 4 rfl rfl⟩
set_option maxRecDepth 4000 in
theorem cl_Re_88 : CV R_Re 88 m_Na_add 1 := ⟨⟨tw2_of 158 rfl rfl, (tw2_of 161 rfl rfl), it_Na, by decide, by decide, by decide +kernel⟩, tw2_of 159 rfl rfl, tw2_of 160 rfl rfl⟩
set_option maxRecDepth 4000 in
theorem cl_Re_91 : CV R_Re 91 m_Na_compareWith 1 := ⟨⟨tw1_of 238 rfl rfl, (tw2_of 1 rfl rfl), it_Na, by decide, by decide, by decide +kernel⟩, tw1_of 239 rfl rfl, tw2_of 0 rfl rfl⟩
set_option maxRecDepth 4000 in
theorem cl_Re_95 : CV R_Re 95 m_Na_subtract 1 := ⟨⟨tw2_of 162 rfl rfl, (tw2_of 165 rfl rfl), it_Na, by decide, by decide, by decide +kernel⟩, tw2_of 163 rfl rfl, tw2_of 164 rfl rfl⟩
set_option maxRecDepth 4000 in
theorem cl_Re_98 : CV R_Re 98 m_Re_raiseInto 3 := ⟨⟨tw2_of 183 rfl rfl, (tw2_of 186 rfl rfl), it_Re, by decide, by decide, by decide +kernel⟩, tw2_of 185 rfl rfl, sw_of 14 rfl rfl⟩
set_option maxRecDepth 4000 in
theorem cl_Re_105 : CV R_Re 105 m_Fr_becomeWhole 1 := ⟨⟨tw2_of 195 rfl rfl, (tw2_of 198 rfl rfl), it_Fr, by decide, by decide, by decide +kernel⟩, tw2_of 196 rfl rfl, tw2_of 197 rfl rfl⟩
set_option maxRecDepth 4000 in
theorem cl_Re_108 : CS R_Re 108 m_Jm_min 2 := ⟨⟨tw2_of 201 rfl rfl, (tw1_of 217 rfl rfl), it_Jm, by decide, by decide, by decide +kernel⟩, tw1_of 216 rfl rfl⟩
set_option maxRecDepth 4000 in
theorem cl_Re_113 : CV R_Re 113 m_Na_multiplyByInt 1 := ⟨⟨tw2_of 202 rfl rfl, (tw2_of 205 rfl rfl), it_Na, by decide, by decide, by decide +kernel⟩, tw2_of 203 rfl rfl, tw2_of 204 rfl rfl⟩
set_option maxRecDepth 4000 in
theorem cl_Re_116 : CV R_Re 116 m_Na_divideByInt 1 := ⟨⟨tw2_of 206 rfl rfl, (tw2_of 209 rfl rfl), it_Na, by decide, by decide, by decide +kernel⟩, tw2_of 207 rfl rfl, tw2_of 208 rfl rfl⟩
set_option maxRecDepth 4000 in
theorem cl_Re_119 : CV R_Re 119 m_Na_isZero 0 := ⟨⟨tw2_of 7 rfl rfl, (tw2_of 10 rfl rfl), it_Na, by decide, by decide, by decide +kernel⟩, tw2_of 8 rfl rfl, tw2_of 9 rfl rfl⟩
set_option maxRecDepth 4000 in
theorem cl_Re_123 : CS R_Re 123 m_Te_exponentOf 1 := ⟨⟨tw3_of 73 rfl rfl, (tw3_of 68 rfl rfl), it_Te, by decide, by decide, by decide +kernel⟩, tw3_of 67 rfl rfl⟩
set_option maxRecDepth 4000 in
theorem cl_Re_133 : CS R_Re 133 m_Jm_max 2 := ⟨⟨tw3_of 76 rfl rfl, (tw1_of 220 rfl rfl), it_Jm, by decide, by decide, by decide +kernel⟩, tw1_of 219 rfl rfl⟩
set_option maxRecDepth 4000 in
theorem cl_Re_136 : CV R_Re 136 m_Na_shiftUp 1 := ⟨⟨tw3_of 77 rfl rfl, (tw2_of 58 rfl rfl), it_Na, by decide, by decide, by decide +kernel⟩, tw2_of 56 rfl rfl, tw2_of 57 rfl rfl⟩
set_option maxRecDepth 4000 in
theorem cl_Re_139 : CV R_Re 139 m_Fr_isWide 0 := ⟨⟨tw3_of 78 rfl rfl, (tw2_of 101 rfl rfl), it_Fr, by decide, by decide, by decide +kernel⟩, tw2_of 99 rfl rfl, tw2_of 100 rfl rfl⟩
set_option maxRecDepth 4000 in
theorem cl_Re_143 : CS R_Re 143 m_Re_isShort 1 := ⟨⟨tw2_of 11 rfl rfl, (tw2_of 13 rfl rfl), it_Re, by decide, by decide, by decide +kernel⟩, tw2_of 12 rfl rfl⟩
set_option maxRecDepth 4000 in
theorem cl_Re_147 : CV R_Re 147 m_Na_lowLong 0 := ⟨⟨tw2_of 14 rfl rfl, (tw2_of 17 rfl rfl), it_Na, by decide, by decide, by decide +kernel⟩, tw2_of 15 rfl rfl, tw2_of 16 rfl rfl⟩
set_option maxRecDepth 4000 in
theorem cl_Re_151 : CS R_Re 151 m_Re_commonOfLongs 2 := ⟨⟨tw2_of 18 rfl rfl, (tw2_of 20 rfl rfl), it_Re, by decide, by decide, by decide +kernel⟩, tw2_of 19 rfl rfl⟩
set_option maxRecDepth 4000 in
theorem cl_Re_155 : CV R_Re 155 m_Re_leap 0 := ⟨⟨tw2_of 21 rfl rfl, (tw2_of 24 rfl rfl), it_Re, by decide, by decide, by decide +kernel⟩, tw2_of 23 rfl rfl, sw_of 2 rfl rfl⟩
set_option maxRecDepth 4000 in
theorem cl_Re_158 : CV R_Re 158 m_Dv_divide 2 := ⟨⟨tw2_of 45 rfl rfl, (tw2_of 48 rfl rfl), it_Dv, by decide, by decide, by decide +kernel⟩, tw2_of 46 rfl rfl, tw2_of 47 rfl rfl⟩
set_option maxRecDepth 4000 in
theorem cl_Re_164 : CV R_Re 164 m_Na_countBits 0 := ⟨⟨tw2_of 25 rfl rfl, (tw2_of 28 rfl rfl), it_Na, by decide, by decide, by decide +kernel⟩, tw2_of 26 rfl rfl, tw2_of 27 rfl rfl⟩
set_option maxRecDepth 4000 in
theorem cl_Re_168 : CV R_Re 168 m_Na_bitsFrom 1 := ⟨⟨tw2_of 32 rfl rfl, (tw2_of 35 rfl rfl), it_Na, by decide, by decide, by decide +kernel⟩, tw2_of 33 rfl rfl, tw2_of 34 rfl rfl⟩
set_option maxRecDepth 4000 in
theorem cl_Re_172 : CV R_Re 172 m_Re_mix 4 := ⟨⟨tw2_of 36 rfl rfl, (tw2_of 39 rfl rfl), it_Re, by decide, by decide, by decide +kernel⟩, tw2_of 38 rfl rfl, sw_of 3 rfl rfl⟩
set_option maxRecDepth 4000 in
theorem cl_Re_176 : CV R_Re 176 m_Na_widen 1 := ⟨⟨tw2_of 40 rfl rfl, (tw1_of 214 rfl rfl), it_Na, by decide, by decide, by decide +kernel⟩, tw1_of 212 rfl rfl, tw1_of 213 rfl rfl⟩
set_option maxRecDepth 4000 in
theorem cl_Re_179 : CV R_Re 179 m_Na_at 1 := ⟨⟨tw2_of 41 rfl rfl, (tw1_of 233 rfl rfl), it_Na, by decide, by decide, by decide +kernel⟩, tw1_of 231 rfl rfl, tw1_of 232 rfl rfl⟩
set_option maxRecDepth 4000 in
theorem cl_Re_184 : CV R_Re 184 m_Na_store 2 := ⟨⟨tw2_of 43 rfl rfl, (tw1_of 225 rfl rfl), it_Na, by decide, by decide, by decide +kernel⟩, tw1_of 223 rfl rfl, tw1_of 224 rfl rfl⟩
set_option maxRecDepth 4000 in
theorem cl_Re_188 : CV R_Re 188 m_Na_trim 0 := ⟨⟨tw2_of 44 rfl rfl, (tw1_of 229 rfl rfl), it_Na, by decide, by decide, by decide +kernel⟩, tw1_of 227 rfl rfl, tw1_of 228 rfl rfl⟩
set_option maxRecDepth 4000 in
theorem cl_Re_191 : CV R_Re 191 m_Na_isOne 0 := ⟨⟨tw2_of 90 rfl rfl, (tw2_of 93 rfl rfl), it_Na, by decide, by decide, by decide +kernel⟩, tw2_of 91 rfl rfl, tw2_of 92 rfl rfl⟩
set_option maxRecDepth 4000 in
theorem ol_Ro_3 : Cond.methodLink R_Ro 3 objectInit ∈ Tw := tw1_of 28 rfl rfl
set_option maxRecDepth 4000 in
theorem cl_Ro_21 : CS R_Ro 21 m_Jm_min 2 := ⟨⟨tw3_of 111 rfl rfl, (tw1_of 217 rfl rfl), it_Jm, by decide, by decide, by decide +kernel⟩, tw1_of 216 rfl rfl⟩
set_option maxRecDepth 4000 in
theorem cl_Ro_27 : CV R_Ro 27 m_Ro_heldAt 1 := ⟨⟨tw3_of 140 rfl rfl, (tw3_of 143 rfl rfl), it_Ro, by decide, by decide, by decide +kernel⟩, tw3_of 141 rfl rfl, tw3_of 142 rfl rfl⟩
set_option maxRecDepth 4000 in
theorem cl_Ro_31 : CV R_Ro 31 m_Ro_hold 2 := ⟨⟨tw3_of 144 rfl rfl, (tw3_of 131 rfl rfl), it_Ro, by decide, by decide, by decide +kernel⟩, tw3_of 129 rfl rfl, tw3_of 130 rfl rfl⟩
set_option maxRecDepth 4000 in
theorem ol_Te_3 : Cond.methodLink R_Te 3 objectInit ∈ Tw := tw1_of 143 rfl rfl
set_option maxRecDepth 4000 in
theorem cl_Te_11 : CIN R_Te 11 m_Dv_init 0 := ⟨⟨"OddsFractions", nw1_of 145 rfl rfl⟩, ⟨(tw1_of 92 rfl rfl), it_Dv, by decide, by decide, by decide +kernel⟩, tw1_of 91 rfl rfl, rfl, rfl⟩
set_option maxRecDepth 4000 in
theorem cl_Te_20 : CI R_Te 20 m_Na_init 1 := ⟨⟨tw1_of 147 rfl rfl, (tw1_of 54 rfl rfl), it_Na, by decide, by decide, by decide +kernel⟩, tw1_of 53 rfl rfl, rfl, rfl⟩
set_option maxRecDepth 4000 in
theorem cl_Te_32 : CV R_Te 32 m_Na_becomeLong 1 := ⟨⟨tw3_of 18 rfl rfl, (tw1_of 206 rfl rfl), it_Na, by decide, by decide, by decide +kernel⟩, tw1_of 204 rfl rfl, tw1_of 205 rfl rfl⟩
set_option maxRecDepth 4000 in
theorem cl_Te_39 : CV R_Te 39 m_Na_becomeProduct 2 := ⟨⟨tw3_of 19 rfl rfl, (tw2_of 153 rfl rfl), it_Na, by decide, by decide, by decide +kernel⟩, tw2_of 151 rfl rfl, tw2_of 152 rfl rfl⟩
set_option maxRecDepth 4000 in
theorem cl_Te_44 : CV R_Te 44 m_Dv_divide 2 := ⟨⟨tw3_of 20 rfl rfl, (tw2_of 48 rfl rfl), it_Dv, by decide, by decide, by decide +kernel⟩, tw2_of 46 rfl rfl, tw2_of 47 rfl rfl⟩
set_option maxRecDepth 4000 in
theorem cl_Te_47 : CV R_Te 47 m_Te_isFurtherFrom0 2 := ⟨⟨tw3_of 21 rfl rfl, (tw3_of 24 rfl rfl), it_Te, by decide, by decide, by decide +kernel⟩, tw3_of 23 rfl rfl, sw_of 15 rfl rfl⟩
set_option maxRecDepth 4000 in
theorem cl_Te_54 : CV R_Te 54 m_Na_add 1 := ⟨⟨tw3_of 37 rfl rfl, (tw2_of 161 rfl rfl), it_Na, by decide, by decide, by decide +kernel⟩, tw2_of 159 rfl rfl, tw2_of 160 rfl rfl⟩
set_option maxRecDepth 4000 in
theorem cl_Te_61 : CV R_Te 61 m_Na_isZero 0 := ⟨⟨tw3_of 25 rfl rfl, (tw2_of 10 rfl rfl), it_Na, by decide, by decide, by decide +kernel⟩, tw2_of 8 rfl rfl, tw2_of 9 rfl rfl⟩
set_option maxRecDepth 4000 in
theorem cl_Te_69 : CV R_Te 69 m_Te_isNearerFurther 1 := ⟨⟨tw3_of 26 rfl rfl, (tw3_of 29 rfl rfl), it_Te, by decide, by decide, by decide +kernel⟩, tw3_of 28 rfl rfl, sw_of 16 rfl rfl⟩
set_option maxRecDepth 4000 in
theorem cl_Te_73 : CV R_Te 73 m_Na_become 1 := ⟨⟨tw3_of 30 rfl rfl, (tw2_of 5 rfl rfl), it_Na, by decide, by decide, by decide +kernel⟩, tw2_of 3 rfl rfl, tw2_of 4 rfl rfl⟩
set_option maxRecDepth 4000 in
theorem cl_Te_76 : CV R_Te 76 m_Na_shiftUp 1 := ⟨⟨tw3_of 31 rfl rfl, (tw2_of 58 rfl rfl), it_Na, by decide, by decide, by decide +kernel⟩, tw2_of 56 rfl rfl, tw2_of 57 rfl rfl⟩
set_option maxRecDepth 4000 in
theorem cl_Te_79 : CV R_Te 79 m_Na_compareWith 1 := ⟨⟨tw3_of 32 rfl rfl, (tw2_of 1 rfl rfl), it_Na, by decide, by decide, by decide +kernel⟩, tw1_of 239 rfl rfl, tw2_of 0 rfl rfl⟩
set_option maxRecDepth 4000 in
theorem cl_Te_83 : CV R_Te 83 m_Na_isOdd 0 := ⟨⟨tw3_of 33 rfl rfl, (tw3_of 36 rfl rfl), it_Na, by decide, by decide, by decide +kernel⟩, tw3_of 34 rfl rfl, tw3_of 35 rfl rfl⟩
set_option maxRecDepth 4000 in
theorem cl_Te_89 : CV R_Te 89 m_Na_lowLong 0 := ⟨⟨tw3_of 42 rfl rfl, (tw2_of 17 rfl rfl), it_Na, by decide, by decide, by decide +kernel⟩, tw2_of 15 rfl rfl, tw2_of 16 rfl rfl⟩
set_option maxRecDepth 4000 in
theorem cl_Te_95 : CV R_Te 95 m_Na_countBits 0 := ⟨⟨tw3_of 56 rfl rfl, (tw2_of 28 rfl rfl), it_Na, by decide, by decide, by decide +kernel⟩, tw2_of 26 rfl rfl, tw2_of 27 rfl rfl⟩
set_option maxRecDepth 4000 in
theorem cl_Te_103 : CS R_Te 103 m_Te_exponentOf 1 := ⟨⟨tw3_of 66 rfl rfl, (tw3_of 68 rfl rfl), it_Te, by decide, by decide, by decide +kernel⟩, tw3_of 67 rfl rfl⟩
set_option maxRecDepth 4000 in
theorem cl_Lw_9 : CI R_Lw 9 m_Od_init 0 := ⟨⟨tw1_of 14 rfl rfl, (tw1_of 16 rfl rfl), it_Od, by decide, by decide, by decide +kernel⟩, tw1_of 15 rfl rfl, rfl, rfl⟩
set_option maxRecDepth 4000 in
theorem cl_Lw_12 : CI R_Lw 12 m_Mo_init 0 := ⟨⟨tw3_of 181 rfl rfl, (tw3_of 183 rfl rfl), it_Mo, by decide, by decide, by decide +kernel⟩, tw3_of 182 rfl rfl, rfl, rfl⟩
set_option maxRecDepth 4000 in
theorem cl_Lw_13 : CV R_Lw 13 m_Od_code 0 := ⟨⟨tw1_of 177 rfl rfl, (tw1_of 180 rfl rfl), it_Od, by decide, by decide, by decide +kernel⟩, tw1_of 178 rfl rfl, tw1_of 179 rfl rfl⟩
set_option maxRecDepth 4000 in
theorem cl_Lw_17 : CV R_Lw 17 m_Mo_code 0 := ⟨⟨tw3_of 236 rfl rfl, (tw3_of 239 rfl rfl), it_Mo, by decide, by decide, by decide +kernel⟩, tw3_of 237 rfl rfl, tw3_of 238 rfl rfl⟩
set_option maxRecDepth 4000 in
theorem cl_Lw_20 : CV R_Lw 20 m_Od_value 3 := ⟨⟨tw1_of 181 rfl rfl, (tw1_of 184 rfl rfl), it_Od, by decide, by decide, by decide +kernel⟩, tw1_of 182 rfl rfl, tw1_of 183 rfl rfl⟩
set_option maxRecDepth 4000 in
theorem cl_Lw_24 : CV R_Lw 24 m_Mo_value 3 := ⟨⟨tw4_of 0 rfl rfl, (tw4_of 3 rfl rfl), it_Mo, by decide, by decide, by decide +kernel⟩, tw4_of 1 rfl rfl, tw4_of 2 rfl rfl⟩
set_option maxRecDepth 4000 in
theorem cl_Lw_25 : CV R_Lw 25 m_Od_copy 2 := ⟨⟨tw2_of 126 rfl rfl, (tw2_of 129 rfl rfl), it_Od, by decide, by decide, by decide +kernel⟩, tw2_of 127 rfl rfl, tw2_of 128 rfl rfl⟩
set_option maxRecDepth 4000 in
theorem cl_Lw_29 : CV R_Lw 29 m_Mo_copy 2 := ⟨⟨tw4_of 78 rfl rfl, (tw4_of 81 rfl rfl), it_Mo, by decide, by decide, by decide +kernel⟩, tw4_of 79 rfl rfl, tw4_of 80 rfl rfl⟩
set_option maxRecDepth 4000 in
theorem cl_Lw_30 : CV R_Lw 30 m_Od_nothing 1 := ⟨⟨tw2_of 134 rfl rfl, (tw2_of 137 rfl rfl), it_Od, by decide, by decide, by decide +kernel⟩, tw2_of 135 rfl rfl, tw2_of 136 rfl rfl⟩
set_option maxRecDepth 4000 in
theorem cl_Lw_34 : CV R_Lw 34 m_Mo_nothing 1 := ⟨⟨tw4_of 86 rfl rfl, (tw4_of 89 rfl rfl), it_Mo, by decide, by decide, by decide +kernel⟩, tw4_of 87 rfl rfl, tw4_of 88 rfl rfl⟩
set_option maxRecDepth 4000 in
theorem cl_Lw_35 : CV R_Lw 35 m_Od_work 4 := ⟨⟨tw2_of 138 rfl rfl, (tw2_of 141 rfl rfl), it_Od, by decide, by decide, by decide +kernel⟩, tw2_of 139 rfl rfl, tw2_of 140 rfl rfl⟩
set_option maxRecDepth 4000 in
theorem cl_Lw_39 : CV R_Lw 39 m_Mo_work 4 := ⟨⟨tw4_of 90 rfl rfl, (tw4_of 93 rfl rfl), it_Mo, by decide, by decide, by decide +kernel⟩, tw4_of 91 rfl rfl, tw4_of 92 rfl rfl⟩
set_option maxRecDepth 4000 in
theorem cl_Lw_40 : CV R_Lw 40 m_Od_power 3 := ⟨⟨tw2_of 175 rfl rfl, (tw2_of 178 rfl rfl), it_Od, by decide, by decide, by decide +kernel⟩, tw2_of 176 rfl rfl, tw2_of 177 rfl rfl⟩
set_option maxRecDepth 4000 in
theorem cl_Lw_44 : CV R_Lw 44 m_Mo_power 3 := ⟨⟨tw4_of 117 rfl rfl, (tw4_of 120 rfl rfl), it_Mo, by decide, by decide, by decide +kernel⟩, tw4_of 118 rfl rfl, tw4_of 119 rfl rfl⟩
set_option maxRecDepth 4000 in
theorem cl_Lw_45 : CV R_Lw 45 m_Od_binomial 3 := ⟨⟨tw2_of 187 rfl rfl, (tw2_of 190 rfl rfl), it_Od, by decide, by decide, by decide +kernel⟩, tw2_of 188 rfl rfl, tw2_of 189 rfl rfl⟩
set_option maxRecDepth 4000 in
theorem cl_Lw_48 : CV R_Lw 48 m_Mo_binomial 3 := ⟨⟨tw4_of 123 rfl rfl, (tw4_of 126 rfl rfl), it_Mo, by decide, by decide, by decide +kernel⟩, tw4_of 124 rfl rfl, tw4_of 125 rfl rfl⟩
set_option maxRecDepth 4000 in
theorem cl_Lw_49 : CV R_Lw 49 m_Od_common 3 := ⟨⟨tw2_of 210 rfl rfl, (tw2_of 213 rfl rfl), it_Od, by decide, by decide, by decide +kernel⟩, tw2_of 211 rfl rfl, tw2_of 212 rfl rfl⟩
set_option maxRecDepth 4000 in
theorem cl_Lw_52 : CV R_Lw 52 m_Mo_common 3 := ⟨⟨tw4_of 128 rfl rfl, (tw4_of 131 rfl rfl), it_Mo, by decide, by decide, by decide +kernel⟩, tw4_of 129 rfl rfl, tw4_of 130 rfl rfl⟩
set_option maxRecDepth 4000 in
theorem cl_Lw_53 : CV R_Lw 53 m_Od_order 2 := ⟨⟨tw2_of 223 rfl rfl, (tw2_of 226 rfl rfl), it_Od, by decide, by decide, by decide +kernel⟩, tw2_of 224 rfl rfl, tw2_of 225 rfl rfl⟩
set_option maxRecDepth 4000 in
theorem cl_Lw_56 : CV R_Lw 56 m_Mo_order 2 := ⟨⟨tw4_of 136 rfl rfl, (tw4_of 139 rfl rfl), it_Mo, by decide, by decide, by decide +kernel⟩, tw4_of 137 rfl rfl, tw4_of 138 rfl rfl⟩
set_option maxRecDepth 4000 in
theorem cl_Lw_57 : CV R_Lw 57 m_Od_sign 1 := ⟨⟨tw2_of 227 rfl rfl, (tw2_of 230 rfl rfl), it_Od, by decide, by decide, by decide +kernel⟩, tw2_of 228 rfl rfl, tw2_of 229 rfl rfl⟩
set_option maxRecDepth 4000 in
theorem cl_Lw_60 : CV R_Lw 60 m_Mo_sign 1 := ⟨⟨tw4_of 140 rfl rfl, (tw4_of 143 rfl rfl), it_Mo, by decide, by decide, by decide +kernel⟩, tw4_of 141 rfl rfl, tw4_of 142 rfl rfl⟩
set_option maxRecDepth 4000 in
theorem cl_Lw_61 : CV R_Lw 61 m_Od_small 1 := ⟨⟨tw2_of 231 rfl rfl, (tw2_of 234 rfl rfl), it_Od, by decide, by decide, by decide +kernel⟩, tw2_of 232 rfl rfl, tw2_of 233 rfl rfl⟩
set_option maxRecDepth 4000 in
theorem cl_Lw_64 : CV R_Lw 64 m_Mo_small 1 := ⟨⟨tw4_of 144 rfl rfl, (tw4_of 147 rfl rfl), it_Mo, by decide, by decide, by decide +kernel⟩, tw4_of 145 rfl rfl, tw4_of 146 rfl rfl⟩
set_option maxRecDepth 4000 in
theorem cl_Lw_65 : CV R_Lw 65 m_Od_limbs 2 := ⟨⟨tw2_of 235 rfl rfl, (tw2_of 238 rfl rfl), it_Od, by decide, by decide, by decide +kernel⟩, tw2_of 236 rfl rfl, tw2_of 237 rfl rfl⟩
set_option maxRecDepth 4000 in
theorem cl_Lw_68 : CV R_Lw 68 m_Mo_limbs 2 := ⟨⟨tw4_of 148 rfl rfl, (tw4_of 151 rfl rfl), it_Mo, by decide, by decide, by decide +kernel⟩, tw4_of 149 rfl rfl, tw4_of 150 rfl rfl⟩
set_option maxRecDepth 4000 in
theorem cl_Lw_69 : CV R_Lw 69 m_Od_limb 3 := ⟨⟨tw3_of 3 rfl rfl, (tw3_of 6 rfl rfl), it_Od, by decide, by decide, by decide +kernel⟩, tw3_of 4 rfl rfl, tw3_of 5 rfl rfl⟩
set_option maxRecDepth 4000 in
theorem cl_Lw_73 : CV R_Lw 73 m_Mo_limb 3 := ⟨⟨tw4_of 156 rfl rfl, (tw4_of 159 rfl rfl), it_Mo, by decide, by decide, by decide +kernel⟩, tw4_of 157 rfl rfl, tw4_of 158 rfl rfl⟩
set_option maxRecDepth 4000 in
theorem cl_Lw_74 : CV R_Lw 74 m_Od_round 3 := ⟨⟨tw3_of 9 rfl rfl, (tw3_of 12 rfl rfl), it_Od, by decide, by decide, by decide +kernel⟩, tw3_of 10 rfl rfl, tw3_of 11 rfl rfl⟩
set_option maxRecDepth 4000 in
theorem cl_Lw_77 : CV R_Lw 77 m_Mo_round 3 := ⟨⟨tw4_of 161 rfl rfl, (tw4_of 164 rfl rfl), it_Mo, by decide, by decide, by decide +kernel⟩, tw4_of 162 rfl rfl, tw4_of 163 rfl rfl⟩
set_option maxRecDepth 4000 in
theorem cl_Lw_78 : CV R_Lw 78 m_Od_real 2 := ⟨⟨tw3_of 48 rfl rfl, (tw3_of 51 rfl rfl), it_Od, by decide, by decide, by decide +kernel⟩, tw3_of 49 rfl rfl, tw3_of 50 rfl rfl⟩
set_option maxRecDepth 4000 in
theorem cl_Lw_82 : CV R_Lw 82 m_Mo_real 2 := ⟨⟨tw4_of 177 rfl rfl, (tw4_of 180 rfl rfl), it_Mo, by decide, by decide, by decide +kernel⟩, tw4_of 178 rfl rfl, tw4_of 179 rfl rfl⟩
set_option maxRecDepth 4000 in
theorem cl_Lw_83 : CV R_Lw 83 m_Od_from 2 := ⟨⟨tw3_of 59 rfl rfl, (tw3_of 62 rfl rfl), it_Od, by decide, by decide, by decide +kernel⟩, tw3_of 60 rfl rfl, tw3_of 61 rfl rfl⟩
set_option maxRecDepth 4000 in
theorem cl_Lw_87 : CV R_Lw 87 m_Mo_from 2 := ⟨⟨tw4_of 187 rfl rfl, (tw4_of 190 rfl rfl), it_Mo, by decide, by decide, by decide +kernel⟩, tw4_of 188 rfl rfl, tw4_of 189 rfl rfl⟩
set_option maxRecDepth 4000 in
theorem cl_Lw_88 : CV R_Lw 88 m_Od_exact 3 := ⟨⟨tw3_of 79 rfl rfl, (tw3_of 82 rfl rfl), it_Od, by decide, by decide, by decide +kernel⟩, tw3_of 80 rfl rfl, tw3_of 81 rfl rfl⟩
set_option maxRecDepth 4000 in
theorem cl_Lw_92 : CV R_Lw 92 m_Mo_exact 3 := ⟨⟨tw4_of 193 rfl rfl, (tw4_of 196 rfl rfl), it_Mo, by decide, by decide, by decide +kernel⟩, tw4_of 194 rfl rfl, tw4_of 195 rfl rfl⟩
set_option maxRecDepth 4000 in
theorem cl_Lw_93 : CV R_Lw 93 m_Od_row 2 := ⟨⟨tw3_of 100 rfl rfl, (tw3_of 103 rfl rfl), it_Od, by decide, by decide, by decide +kernel⟩, tw3_of 101 rfl rfl, tw3_of 102 rfl rfl⟩
set_option maxRecDepth 4000 in
theorem cl_Lw_96 : CV R_Lw 96 m_Mo_row 2 := ⟨⟨tw4_of 207 rfl rfl, (tw4_of 210 rfl rfl), it_Mo, by decide, by decide, by decide +kernel⟩, tw4_of 208 rfl rfl, tw4_of 209 rfl rfl⟩
set_option maxRecDepth 4000 in
theorem cl_Lw_97 : CV R_Lw 97 m_Od_put 3 := ⟨⟨tw3_of 112 rfl rfl, (tw3_of 115 rfl rfl), it_Od, by decide, by decide, by decide +kernel⟩, tw3_of 113 rfl rfl, tw3_of 114 rfl rfl⟩
set_option maxRecDepth 4000 in
theorem cl_Lw_100 : CV R_Lw 100 m_Mo_put 3 := ⟨⟨tw4_of 217 rfl rfl, (tw4_of 220 rfl rfl), it_Mo, by decide, by decide, by decide +kernel⟩, tw4_of 218 rfl rfl, tw4_of 219 rfl rfl⟩
set_option maxRecDepth 4000 in
theorem cl_Lw_101 : CV R_Lw 101 m_Od_move 5 := ⟨⟨tw3_of 132 rfl rfl, (tw3_of 135 rfl rfl), it_Od, by decide, by decide, by decide +kernel⟩, tw3_of 133 rfl rfl, tw3_of 134 rfl rfl⟩
set_option maxRecDepth 4000 in
theorem cl_Lw_105 : CV R_Lw 105 m_Mo_move 5 := ⟨⟨tw4_of 221 rfl rfl, (tw4_of 224 rfl rfl), it_Mo, by decide, by decide, by decide +kernel⟩, tw4_of 222 rfl rfl, tw4_of 223 rfl rfl⟩
set_option maxRecDepth 4000 in
theorem cl_Lw_106 : CV R_Lw 106 m_Od_filled 1 := ⟨⟨tw3_of 145 rfl rfl, (tw3_of 148 rfl rfl), it_Od, by decide, by decide, by decide +kernel⟩, tw3_of 146 rfl rfl, tw3_of 147 rfl rfl⟩
set_option maxRecDepth 4000 in
theorem cl_Lw_109 : CV R_Lw 109 m_Mo_filled 1 := ⟨⟨tw4_of 225 rfl rfl, (tw4_of 228 rfl rfl), it_Mo, by decide, by decide, by decide +kernel⟩, tw4_of 226 rfl rfl, tw4_of 227 rfl rfl⟩
set_option maxRecDepth 4000 in
theorem cl_Lw_110 : CV R_Lw 110 m_Od_sum 2 := ⟨⟨tw3_of 153 rfl rfl, (tw3_of 156 rfl rfl), it_Od, by decide, by decide, by decide +kernel⟩, tw3_of 154 rfl rfl, tw3_of 155 rfl rfl⟩
set_option maxRecDepth 4000 in
theorem cl_Lw_113 : CV R_Lw 113 m_Mo_sum 2 := ⟨⟨tw4_of 229 rfl rfl, (tw4_of 232 rfl rfl), it_Mo, by decide, by decide, by decide +kernel⟩, tw4_of 230 rfl rfl, tw4_of 231 rfl rfl⟩
set_option maxRecDepth 4000 in
theorem cl_Lw_114 : CV R_Lw 114 m_Od_one 1 := ⟨⟨tw3_of 163 rfl rfl, (tw3_of 166 rfl rfl), it_Od, by decide, by decide, by decide +kernel⟩, tw3_of 164 rfl rfl, tw3_of 165 rfl rfl⟩
set_option maxRecDepth 4000 in
theorem cl_Lw_117 : CV R_Lw 117 m_Mo_one 1 := ⟨⟨tw5_of 5 rfl rfl, (tw5_of 8 rfl rfl), it_Mo, by decide, by decide, by decide +kernel⟩, tw5_of 6 rfl rfl, tw5_of 7 rfl rfl⟩
set_option maxRecDepth 4000 in
theorem cl_Lw_118 : CV R_Lw 118 m_Od_pick 2 := ⟨⟨tw3_of 171 rfl rfl, (tw3_of 174 rfl rfl), it_Od, by decide, by decide, by decide +kernel⟩, tw3_of 172 rfl rfl, tw3_of 173 rfl rfl⟩
set_option maxRecDepth 4000 in
theorem cl_Lw_121 : CV R_Lw 121 m_Mo_pick 2 := ⟨⟨tw5_of 13 rfl rfl, (tw5_of 16 rfl rfl), it_Mo, by decide, by decide, by decide +kernel⟩, tw5_of 14 rfl rfl, tw5_of 15 rfl rfl⟩
set_option maxRecDepth 4000 in
theorem cl_Lw_122 : CV R_Lw 122 m_Od_grown 0 := ⟨⟨tw3_of 175 rfl rfl, (tw3_of 178 rfl rfl), it_Od, by decide, by decide, by decide +kernel⟩, tw3_of 176 rfl rfl, tw3_of 177 rfl rfl⟩
set_option maxRecDepth 4000 in
theorem cl_Lw_125 : CV R_Lw 125 m_Mo_grown 0 := ⟨⟨tw5_of 17 rfl rfl, (tw5_of 20 rfl rfl), it_Mo, by decide, by decide, by decide +kernel⟩, tw5_of 18 rfl rfl, tw5_of 19 rfl rfl⟩
set_option maxRecDepth 4000 in
theorem ol_Mo_1 : Cond.methodLink R_Mo 1 objectInit ∈ Tw := tw3_of 184 rfl rfl
set_option maxRecDepth 4000 in
theorem cl_Mo_54 : CS R_Mo 54 m_Mo_clear 1 := ⟨⟨tw4_of 19 rfl rfl, (tw4_of 21 rfl rfl), it_Mo, by decide, by decide, by decide +kernel⟩, tw4_of 20 rfl rfl⟩
set_option maxRecDepth 4000 in
theorem cl_Mo_61 : CS R_Mo 61 m_Mo_doubled 2 := ⟨⟨tw4_of 56 rfl rfl, (tw4_of 58 rfl rfl), it_Mo, by decide, by decide, by decide +kernel⟩, tw4_of 57 rfl rfl⟩
set_option maxRecDepth 4000 in
theorem cl_Mo_65 : CS R_Mo 65 m_Mo_bitsOf 1 := ⟨⟨tw4_of 63 rfl rfl, (tw4_of 65 rfl rfl), it_Mo, by decide, by decide, by decide +kernel⟩, tw4_of 64 rfl rfl⟩
set_option maxRecDepth 4000 in
theorem cl_Mo_69 : CS R_Mo 69 m_Mo_compared 2 := ⟨⟨tw4_of 43 rfl rfl, (tw4_of 45 rfl rfl), it_Mo, by decide, by decide, by decide +kernel⟩, tw4_of 44 rfl rfl⟩
set_option maxRecDepth 4000 in
theorem cl_Mo_73 : CS R_Mo 73 m_Mo_takeFrom 2 := ⟨⟨tw4_of 49 rfl rfl, (tw4_of 51 rfl rfl), it_Mo, by decide, by decide, by decide +kernel⟩, tw4_of 50 rfl rfl⟩
set_option maxRecDepth 4000 in
theorem cl_Mo_77 : CS R_Mo 77 m_Mo_isZero 1 := ⟨⟨tw4_of 37 rfl rfl, (tw4_of 39 rfl rfl), it_Mo, by decide, by decide, by decide +kernel⟩, tw4_of 38 rfl rfl⟩
set_option maxRecDepth 4000 in
theorem cl_Mo_81 : CS R_Mo 81 m_Mo_lay 2 := ⟨⟨tw4_of 31 rfl rfl, (tw4_of 33 rfl rfl), it_Mo, by decide, by decide, by decide +kernel⟩, tw4_of 32 rfl rfl⟩
set_option maxRecDepth 4000 in
theorem cl_Mo_84 : CS R_Mo 84 m_Mo_halved 1 := ⟨⟨tw4_of 40 rfl rfl, (tw4_of 42 rfl rfl), it_Mo, by decide, by decide, by decide +kernel⟩, tw4_of 41 rfl rfl⟩
set_option maxRecDepth 4000 in
theorem cl_Mo_87 : CS R_Mo 87 m_Mo_exchange 2 := ⟨⟨tw4_of 46 rfl rfl, (tw4_of 48 rfl rfl), it_Mo, by decide, by decide, by decide +kernel⟩, tw4_of 47 rfl rfl⟩
set_option maxRecDepth 4000 in
theorem cl_Mo_90 : CS R_Mo 90 m_Mo_shifted 2 := ⟨⟨tw4_of 53 rfl rfl, (tw4_of 55 rfl rfl), it_Mo, by decide, by decide, by decide +kernel⟩, tw4_of 54 rfl rfl⟩
set_option maxRecDepth 4000 in
theorem cl_Mo_93 : CS R_Mo 93 m_Mo_shared 2 := ⟨⟨tw4_of 34 rfl rfl, (tw4_of 36 rfl rfl), it_Mo, by decide, by decide, by decide +kernel⟩, tw4_of 35 rfl rfl⟩
set_option maxRecDepth 4000 in
theorem cl_Mo_96 : CV R_Mo 96 m_Mo_divide 2 := ⟨⟨tw4_of 59 rfl rfl, (tw4_of 62 rfl rfl), it_Mo, by decide, by decide, by decide +kernel⟩, tw4_of 61 rfl rfl, sw_of 22 rfl rfl⟩
set_option maxRecDepth 4000 in
theorem cl_Mo_102 : CV R_Mo 102 m_Mo_store 1 := ⟨⟨tw4_of 27 rfl rfl, (tw4_of 30 rfl rfl), it_Mo, by decide, by decide, by decide +kernel⟩, tw4_of 29 rfl rfl, sw_of 21 rfl rfl⟩
set_option maxRecDepth 4000 in
theorem cl_Mo_106 : CV R_Mo 106 m_Mo_fail 1 := ⟨⟨tw4_of 12 rfl rfl, (tw4_of 15 rfl rfl), it_Mo, by decide, by decide, by decide +kernel⟩, tw4_of 14 rfl rfl, sw_of 19 rfl rfl⟩
set_option maxRecDepth 4000 in
theorem cl_Mo_113 : CV R_Mo 113 m_Mo_isSmall 1 := ⟨⟨tw4_of 66 rfl rfl, (tw4_of 69 rfl rfl), it_Mo, by decide, by decide, by decide +kernel⟩, tw4_of 68 rfl rfl, sw_of 23 rfl rfl⟩
set_option maxRecDepth 4000 in
theorem cl_Mo_116 : CV R_Mo 116 m_Mo_done 1 := ⟨⟨tw4_of 74 rfl rfl, (tw4_of 77 rfl rfl), it_Mo, by decide, by decide, by decide +kernel⟩, tw4_of 76 rfl rfl, sw_of 25 rfl rfl⟩
set_option maxRecDepth 4000 in
theorem cl_Mo_119 : CV R_Mo 119 m_Mo_take 3 := ⟨⟨tw4_of 70 rfl rfl, (tw4_of 73 rfl rfl), it_Mo, by decide, by decide, by decide +kernel⟩, tw4_of 72 rfl rfl, sw_of 24 rfl rfl⟩
set_option maxRecDepth 4000 in
theorem cl_Mo_125 : CS R_Mo 125 m_Mo_in 3 := ⟨⟨tw4_of 8 rfl rfl, (tw4_of 10 rfl rfl), it_Mo, by decide, by decide, by decide +kernel⟩, tw4_of 9 rfl rfl⟩
set_option maxRecDepth 4000 in
theorem cl_Mo_131 : CS R_Mo 131 m_Mo_multiply 3 := ⟨⟨tw4_of 99 rfl rfl, (tw4_of 101 rfl rfl), it_Mo, by decide, by decide, by decide +kernel⟩, tw4_of 100 rfl rfl⟩
set_option maxRecDepth 4000 in
theorem cl_Mo_135 : CS R_Mo 135 m_Mo_addTo 2 := ⟨⟨tw4_of 102 rfl rfl, (tw4_of 104 rfl rfl), it_Mo, by decide, by decide, by decide +kernel⟩, tw4_of 103 rfl rfl⟩
set_option maxRecDepth 4000 in
theorem cl_Mo_138 : CS R_Mo 138 m_Mo_isFraction 1 := ⟨⟨tw4_of 4 rfl rfl, (tw4_of 6 rfl rfl), it_Mo, by decide, by decide, by decide +kernel⟩, tw4_of 5 rfl rfl⟩
set_option maxRecDepth 4000 in
theorem cl_Mo_142 : CS R_Mo 142 m_Mo_setLong 2 := ⟨⟨tw4_of 16 rfl rfl, (tw4_of 18 rfl rfl), it_Mo, by decide, by decide, by decide +kernel⟩, tw4_of 17 rfl rfl⟩
set_option maxRecDepth 4000 in
theorem cl_Mo_146 : CV R_Mo 146 m_Mo_made 1 := ⟨⟨tw4_of 23 rfl rfl, (tw4_of 26 rfl rfl), it_Mo, by decide, by decide, by decide +kernel⟩, tw4_of 25 rfl rfl, sw_of 20 rfl rfl⟩
set_option maxRecDepth 4000 in
theorem cl_Mo_149 : CV R_Mo 149 m_Mo_same 2 := ⟨⟨tw4_of 82 rfl rfl, (tw4_of 85 rfl rfl), it_Mo, by decide, by decide, by decide +kernel⟩, tw4_of 84 rfl rfl, sw_of 26 rfl rfl⟩
set_option maxRecDepth 4000 in
theorem cl_Mo_155 : CV R_Mo 155 m_Mo_sumOf 3 := ⟨⟨tw4_of 95 rfl rfl, (tw4_of 98 rfl rfl), it_Mo, by decide, by decide, by decide +kernel⟩, tw4_of 97 rfl rfl, sw_of 27 rfl rfl⟩
set_option maxRecDepth 4000 in
theorem cl_Mo_159 : CV R_Mo 159 m_Mo_productOf 2 := ⟨⟨tw4_of 105 rfl rfl, (tw4_of 108 rfl rfl), it_Mo, by decide, by decide, by decide +kernel⟩, tw4_of 107 rfl rfl, sw_of 28 rfl rfl⟩
set_option maxRecDepth 4000 in
theorem cl_Mo_162 : CV R_Mo 162 m_Mo_quotientOf 2 := ⟨⟨tw4_of 109 rfl rfl, (tw4_of 112 rfl rfl), it_Mo, by decide, by decide, by decide +kernel⟩, tw4_of 111 rfl rfl, sw_of 29 rfl rfl⟩
set_option maxRecDepth 4000 in
theorem cl_Mo_165 : CV R_Mo 165 m_Mo_orderOf 2 := ⟨⟨tw4_of 113 rfl rfl, (tw4_of 116 rfl rfl), it_Mo, by decide, by decide, by decide +kernel⟩, tw4_of 115 rfl rfl, sw_of 30 rfl rfl⟩
set_option maxRecDepth 4000 in
theorem cl_Mo_175 : CV R_Mo 175 m_Mo_isWhole 1 := ⟨⟨tw4_of 132 rfl rfl, (tw4_of 135 rfl rfl), it_Mo, by decide, by decide, by decide +kernel⟩, tw4_of 134 rfl rfl, sw_of 31 rfl rfl⟩
set_option maxRecDepth 4000 in
theorem cl_Mo_178 : CV R_Mo 178 m_Mo_limbsOf 2 := ⟨⟨tw4_of 152 rfl rfl, (tw4_of 155 rfl rfl), it_Mo, by decide, by decide, by decide +kernel⟩, tw4_of 154 rfl rfl, sw_of 32 rfl rfl⟩
set_option maxRecDepth 4000 in
theorem cl_Mo_189 : CV R_Mo 189 m_Mo_isUp 3 := ⟨⟨tw4_of 168 rfl rfl, (tw4_of 171 rfl rfl), it_Mo, by decide, by decide, by decide +kernel⟩, tw4_of 170 rfl rfl, sw_of 33 rfl rfl⟩
set_option maxRecDepth 4000 in
theorem cl_Mo_193 : CV R_Mo 193 m_Mo_signedLong 1 := ⟨⟨tw4_of 172 rfl rfl, (tw4_of 175 rfl rfl), it_Mo, by decide, by decide, by decide +kernel⟩, tw4_of 174 rfl rfl, sw_of 34 rfl rfl⟩
set_option maxRecDepth 4000 in
theorem cl_Mo_197 : CV R_Mo 197 m_Mo_shiftBoth 1 := ⟨⟨tw4_of 181 rfl rfl, (tw4_of 184 rfl rfl), it_Mo, by decide, by decide, by decide +kernel⟩, tw4_of 183 rfl rfl, sw_of 35 rfl rfl⟩
set_option maxRecDepth 4000 in
theorem cl_Mo_213 : CV R_Mo 213 m_Mo_exactProduct 2 := ⟨⟨tw4_of 198 rfl rfl, (tw4_of 201 rfl rfl), it_Mo, by decide, by decide, by decide +kernel⟩, tw4_of 200 rfl rfl, sw_of 36 rfl rfl⟩
set_option maxRecDepth 4000 in
theorem cl_Mo_217 : CV R_Mo 217 m_Mo_exactQuotient 3 := ⟨⟨tw4_of 202 rfl rfl, (tw4_of 205 rfl rfl), it_Mo, by decide, by decide, by decide +kernel⟩, tw4_of 204 rfl rfl, sw_of 37 rfl rfl⟩
set_option maxRecDepth 4000 in
theorem cl_Mo_221 : CS R_Mo 221 m_Mo_isRow 1 := ⟨⟨tw4_of 211 rfl rfl, (tw4_of 213 rfl rfl), it_Mo, by decide, by decide, by decide +kernel⟩, tw4_of 212 rfl rfl⟩
set_option maxRecDepth 4000 in
theorem cl_Mo_224 : CS R_Mo 224 m_Mo_placeOf 2 := ⟨⟨tw4_of 214 rfl rfl, (tw4_of 216 rfl rfl), it_Mo, by decide, by decide, by decide +kernel⟩, tw4_of 215 rfl rfl⟩
set_option maxRecDepth 4000 in
theorem cl_Mo_227 : CV R_Mo 227 m_Mo_beginSum 0 := ⟨⟨tw4_of 237 rfl rfl, (tw5_of 0 rfl rfl), it_Mo, by decide, by decide, by decide +kernel⟩, tw4_of 239 rfl rfl, sw_of 39 rfl rfl⟩
set_option maxRecDepth 4000 in
theorem cl_Mo_230 : CV R_Mo 230 m_Mo_addPlace 2 := ⟨⟨tw5_of 1 rfl rfl, (tw5_of 4 rfl rfl), it_Mo, by decide, by decide, by decide +kernel⟩, tw5_of 3 rfl rfl, sw_of 40 rfl rfl⟩
set_option maxRecDepth 4000 in
theorem cl_Mo_234 : CV R_Mo 234 m_Mo_summed 1 := ⟨⟨tw4_of 233 rfl rfl, (tw4_of 236 rfl rfl), it_Mo, by decide, by decide, by decide +kernel⟩, tw4_of 235 rfl rfl, sw_of 38 rfl rfl⟩
set_option maxRecDepth 4000 in
theorem cl_Mo_237 : CV R_Mo 237 m_Mo_isOne 1 := ⟨⟨tw5_of 9 rfl rfl, (tw5_of 12 rfl rfl), it_Mo, by decide, by decide, by decide +kernel⟩, tw5_of 11 rfl rfl, sw_of 41 rfl rfl⟩
set_option maxRecDepth 4000 in
theorem kl_Lw_7 : Cond.classLink R_Lw 7 "OddsFractions" ∈ Tw := tw1_of 12 rfl rfl
set_option maxRecDepth 4000 in
theorem kl_Od_9 : Cond.classLink R_Od 9 "OddsFractions$Fraction" ∈ Tw := tw1_of 20 rfl rfl
set_option maxRecDepth 4000 in
theorem kl_Od_15 : Cond.classLink R_Od 15 "OddsFractions$Row" ∈ Tw := tw1_of 22 rfl rfl
set_option maxRecDepth 4000 in
theorem kl_Ro_9 : Cond.classLink R_Ro 9 "OddsFractions$Fraction" ∈ Tw := tw1_of 29 rfl rfl
set_option maxRecDepth 4000 in
theorem kl_Od_22 : Cond.classLink R_Od 22 "OddsFractions$Reckoner" ∈ Tw := tw1_of 38 rfl rfl
set_option maxRecDepth 4000 in
theorem kl_Re_7 : Cond.classLink R_Re 7 "OddsFractions$Fraction" ∈ Tw := tw1_of 44 rfl rfl
set_option maxRecDepth 4000 in
theorem kl_Fr_7 : Cond.classLink R_Fr 7 "OddsFractions$Natural" ∈ Tw := tw1_of 50 rfl rfl
set_option maxRecDepth 4000 in
theorem kl_Re_20 : Cond.classLink R_Re 20 "OddsFractions$Division" ∈ Tw := tw1_of 88 rfl rfl
set_option maxRecDepth 4000 in
theorem kl_Dv_9 : Cond.classLink R_Dv 9 "OddsFractions$Natural" ∈ Tw := tw1_of 94 rfl rfl
set_option maxRecDepth 4000 in
theorem kl_Re_9 : Cond.classLink R_Re 9 "OddsFractions$Natural" ∈ Tw := tw1_of 110 rfl rfl
set_option maxRecDepth 4000 in
theorem kl_Od_29 : Cond.classLink R_Od 29 "OddsFractions$Teller" ∈ Tw := tw1_of 138 rfl rfl
set_option maxRecDepth 4000 in
theorem kl_Te_9 : Cond.classLink R_Te 9 "OddsFractions$Division" ∈ Tw := tw1_of 144 rfl rfl
set_option maxRecDepth 4000 in
theorem kl_Te_18 : Cond.classLink R_Te 18 "OddsFractions$Natural" ∈ Tw := tw1_of 146 rfl rfl
set_option maxRecDepth 4000 in
theorem kl_Fr_13 : Cond.classLink R_Fr 13 "OddsFractions$Fraction" ∈ Tw := tw2_of 106 rfl rfl
set_option maxRecDepth 4000 in
theorem kl_Lw_10 : Cond.classLink R_Lw 10 "OddsFractionsModel" ∈ Tw := tw3_of 179 rfl rfl
set_option maxRecDepth 4000 in
theorem ac_long : Cond.arrayClass .long ∈ Tw := tw1_of 68 rfl rfl
set_option maxRecDepth 4000 in
theorem ac_boolean : Cond.arrayClass .boolean ∈ Tw := tw3_of 234 rfl rfl
set_option maxRecDepth 4000 in
theorem ac_int : Cond.arrayClass .int ∈ Tw := tw3_of 235 rfl rfl
set_option maxRecDepth 4000 in
theorem cn_Od_47 : Cond.constant R_Od 47 (-2000000001) ∈ Tw := tw1_of 191 rfl rfl
set_option maxRecDepth 4000 in
theorem cn_Re_142 : Cond.constant R_Re 142 1000000 ∈ Tw := tw2_of 6 rfl rfl
set_option maxRecDepth 4000 in
theorem cn_Mo_141 : Cond.constant R_Mo 141 (-2000000001) ∈ Tw := tw4_of 11 rfl rfl
set_option maxRecDepth 4000 in
theorem cn_Mo_60 : Cond.constant R_Mo 60 65535 ∈ Tw := tw4_of 52 rfl rfl
set_option maxRecDepth 4000 in
theorem cn_Na_41 : Cond.constantLong R_Na 41 4294967295 ∈ Tw := tw1_of 221 rfl rfl
set_option maxRecDepth 4000 in
theorem cn_Re_182 : Cond.constantLong R_Re 182 4294967295 ∈ Tw := tw2_of 42 rfl rfl
set_option maxRecDepth 4000 in
theorem cn_Dv_79 : Cond.constantLong R_Dv 79 4294967295 ∈ Tw := tw2_of 64 rfl rfl
set_option maxRecDepth 4000 in
theorem cn_Dv_89 : Cond.constantLong R_Dv 89 (-9223372036854775808) ∈ Tw := tw2_of 71 rfl rfl
set_option maxRecDepth 4000 in
theorem cn_Od_113 : Cond.constantLong R_Od 113 (-2000000001) ∈ Tw := tw3_of 7 rfl rfl
set_option maxRecDepth 4000 in
theorem cn_Te_30 : Cond.constantLong R_Te 30 10 ∈ Tw := tw3_of 17 rfl rfl
set_option maxRecDepth 4000 in
theorem cn_Te_93 : Cond.constantLong R_Te 93 (-9223372036854775808) ∈ Tw := tw3_of 43 rfl rfl
set_option maxRecDepth 4000 in
theorem cn_Te_99 : Cond.constantLong R_Te 99 9007199254740992 ∈ Tw := tw3_of 57 rfl rfl
set_option maxRecDepth 4000 in
theorem cn_Te_101 : Cond.constantLong R_Te 101 4503599627370496 ∈ Tw := tw3_of 58 rfl rfl
set_option maxRecDepth 4000 in
theorem cn_Re_129 : Cond.constantLong R_Re 129 4503599627370495 ∈ Tw := tw3_of 74 rfl rfl
set_option maxRecDepth 4000 in
theorem cn_Re_131 : Cond.constantLong R_Re 131 4503599627370496 ∈ Tw := tw3_of 75 rfl rfl
set_option maxRecDepth 4000 in
theorem cn_Ls_17 : Cond.constantLong R_Ls 17 (-1) ∈ Tw := tw3_of 92 rfl rfl
set_option maxRecDepth 4000 in
theorem cn_Ls_15 : Cond.constantLong R_Ls 15 (-9223372036854775808) ∈ Tw := tw3_of 93 rfl rfl
set_option maxRecDepth 4000 in
theorem cn_Mo_123 : Cond.constantLong R_Mo 123 15 ∈ Tw := tw4_of 7 rfl rfl
set_option maxRecDepth 4000 in
theorem cn_Mo_58 : Cond.constantLong R_Mo 58 65535 ∈ Tw := tw4_of 22 rfl rfl
set_option maxRecDepth 4000 in
theorem cn_Mo_153 : Cond.constantLong R_Mo 153 5 ∈ Tw := tw4_of 94 rfl rfl
set_option maxRecDepth 4000 in
theorem cn_Mo_169 : Cond.constantLong R_Mo 169 (-300) ∈ Tw := tw4_of 121 rfl rfl
set_option maxRecDepth 4000 in
theorem cn_Mo_171 : Cond.constantLong R_Mo 171 300 ∈ Tw := tw4_of 122 rfl rfl
set_option maxRecDepth 4000 in
theorem cn_Mo_173 : Cond.constantLong R_Mo 173 250 ∈ Tw := tw4_of 127 rfl rfl
set_option maxRecDepth 4000 in
theorem cn_Mo_181 : Cond.constantLong R_Mo 181 (-2000000001) ∈ Tw := tw4_of 160 rfl rfl
set_option maxRecDepth 4000 in
theorem cn_Mo_185 : Cond.constantLong R_Mo 185 18 ∈ Tw := tw4_of 165 rfl rfl
set_option maxRecDepth 4000 in
theorem cn_Mo_129 : Cond.constantLong R_Mo 129 3 ∈ Tw := tw4_of 166 rfl rfl
set_option maxRecDepth 4000 in
theorem cn_Mo_187 : Cond.constantLong R_Mo 187 10 ∈ Tw := tw4_of 167 rfl rfl
set_option maxRecDepth 4000 in
theorem cn_Mo_183 : Cond.constantLong R_Mo 183 (-9223372036854775808) ∈ Tw := tw4_of 176 rfl rfl
set_option maxRecDepth 4000 in
theorem cn_Mo_201 : Cond.constantLong R_Mo 201 1023 ∈ Tw := tw4_of 185 rfl rfl
set_option maxRecDepth 4000 in
theorem cn_Mo_203 : Cond.constantLong R_Mo 203 4503599627370496 ∈ Tw := tw4_of 186 rfl rfl
set_option maxRecDepth 4000 in
theorem cn_Mo_205 : Cond.constantLong R_Mo 205 2047 ∈ Tw := tw4_of 191 rfl rfl
set_option maxRecDepth 4000 in
theorem cn_Mo_207 : Cond.constantLong R_Mo 207 4503599627370495 ∈ Tw := tw4_of 192 rfl rfl
set_option maxRecDepth 4000 in
theorem cn_Mo_211 : Cond.constantLong R_Mo 211 7 ∈ Tw := tw4_of 197 rfl rfl
set_option maxRecDepth 4000 in
theorem cn_Mo_209 : Cond.constantLong R_Mo 209 (-1) ∈ Tw := tw4_of 206 rfl rfl
set_option maxRecDepth 4000 in
theorem cn_Lw_18 : Cond.constantLong R_Lw 18 4294967295 ∈ Tw := tw5_of 21 rfl rfl
set_option maxRecDepth 4000 in
theorem ol_i : Cond.instanceMethod objectInit ∈ Tw := tw1_of 18 rfl rfl
set_option maxRecDepth 4000 in
theorem ol_c : Cond.code objectInit ⟨#[0xb1]⟩ 1 none ∈ Tw := tw1_of 19 rfl rfl
