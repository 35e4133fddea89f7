/-! the law: its calls -/
theorem lw_case0 (l : Launch) {E : zE} (hE : zOk E l m_Lw_law 600000 7302250) {b L : Nat} {xs : Nat → Int32} (hX : zX E b L xs) (hL : L ≤ 3072) {O k nx c s : Nat} {g : Gh} {S : Sx} (hC : CW g O nx S) (hM : MW g (O + 48) S) (hk : 6 * k + 6 ≤ L) (hc : c ≤ 100000) (hs : s ≤ 1000000) (next : ∀ (g2 : Gh) (n2 c2 s2 : Nat) (S2 : Sx), CW g2 O n2 S2 → MW g2 (O + 48) S2 → c2 ≤ c + 5 → s2 ≤ s + 47 → ∀ lv, lG lv 0 = some (.ref b) → lG lv 1 = some (.ref O) → lG lv 2 = some (.ref (O + 48)) → lG lv 3 = some (.int (nI (6 * k))) → zJ E g2 n2 c2 s2 1167 lv []) : zJ E g nx c s 148 [(0, .ref b), (1, .ref O), (2, .ref (O + 48)), (3, .int (nI (6 * k)))] [] := by
  have hn := CW_n hC
  have hS := CW_S hC
  obtain ⟨sg0, v0, w0, hV0⟩ := id hC
  have m0 := hV0.1
  refine z_aload_n hE d_Lw_law_148 rfl ?_
  refine z_callV hE d_Lw_law_149 cl_Lw_13 (c_Od_code l hC) (by assumption) cb_Od rfl (Nat.le_of_ble_eq_true rfl) ⟨by decide, by decide⟩ ⟨by omega, by omega⟩ (fun r_1 g_1 nx_1 hp_1 => ?_) rfl
  try dsimp only [Option.toList, List.nil_append, List.cons_append]
  obtain ⟨e1, hn1, C1, X1⟩ := hp_1
  obtain ⟨z, hz⟩ : ∃ z, (spCode S).1 = .int z := by
    unfold spCode
    repeat' (first | exact ⟨_, rfl⟩ | exact mkS_int _ _ _ | split)
  rw [hz] at e1
  subst e1
  try dsimp only [Option.toList, List.nil_append, List.cons_append]
  have M1 : MW g_1 (O + 48) S := MW_X hM (fun q a b => X1 q (by omega) (by omega))
  obtain ⟨E1, t1, ts1, V1, -⟩ := id M1
  have m1 := V1.1
  refine z_aload_n hE d_Lw_law_152 rfl ?_
  refine z_callV hE d_Lw_law_153 cl_Lw_17 (c_Mo_code l nx_1 M1 hS) (by assumption) cb_Mo rfl (Nat.le_of_ble_eq_true rfl) ⟨by decide, by decide⟩ ⟨by omega, by omega⟩ (fun r_2 g_2 nx_2 hp_2 => ?_) rfl
  try dsimp only [Option.toList, List.nil_append, List.cons_append]
  obtain ⟨e2, rfl, M2, W2⟩ := hp_2
  rw [hz] at e2
  subst e2
  try dsimp only [Option.toList, List.nil_append, List.cons_append]
  refine z_icmp_eq (tgt := 1167) hE d_Lw_law_156 (by decide) (fun _ => ?_) (fun c_ => absurd c_ (fun w => w rfl))
  exact next _ _ _ _ _ (CW_W C1 W2) M2 (by omega) (by omega) _ rfl rfl rfl rfl
theorem lw_case1 (l : Launch) {E : zE} (hE : zOk E l m_Lw_law 600000 7302250) {b L : Nat} {xs : Nat → Int32} (hX : zX E b L xs) (hL : L ≤ 3072) {O k nx c s : Nat} {g : Gh} {S : Sx} (hC : CW g O nx S) (hM : MW g (O + 48) S) (hk : 6 * k + 6 ≤ L) (hc : c ≤ 100000) (hs : s ≤ 1000000) (next : ∀ (g2 : Gh) (n2 c2 s2 : Nat) (S2 : Sx), CW g2 O n2 S2 → MW g2 (O + 48) S2 → c2 ≤ c + 5 → s2 ≤ s + 47 → ∀ lv, lG lv 0 = some (.ref b) → lG lv 1 = some (.ref O) → lG lv 2 = some (.ref (O + 48)) → lG lv 3 = some (.int (nI (6 * k))) → zJ E g2 n2 c2 s2 1167 lv []) : zJ E g nx c s 161 [(0, .ref b), (1, .ref O), (2, .ref (O + 48)), (3, .int (nI (6 * k)))] [] := by
  have hn := CW_n hC
  have hS := CW_S hC
  obtain ⟨sg0, v0, w0, hV0⟩ := id hC
  have m0 := hV0.1
  refine z_aload_n hE d_Lw_law_161 rfl ?_
  refine z_aload_n hE d_Lw_law_162 rfl ?_
  refine z_iload_n hE d_Lw_law_163 rfl ?_
  refine z_iconst (v := nI 1) hE d_Lw_law_164 (by decide) ?_
  refine z_iadd (v := nI (6 * k + 1)) hE d_Lw_law_165 (nI_add _ _) ?_
  refine z_sld hE d_Lw_law_166 hX (nI_in' (by omega : 6 * k + 1 < L) (by omega)) ?_
  rw [nI_cl (by omega)]
  refine z_aload_n hE d_Lw_law_167 rfl ?_
  refine z_iload_n hE d_Lw_law_168 rfl ?_
  refine z_iconst (v := nI 2) hE d_Lw_law_169 (by decide) ?_
  refine z_iadd (v := nI (6 * k + 2)) hE d_Lw_law_170 (nI_add _ _) ?_
  refine z_sld hE d_Lw_law_171 hX (nI_in' (by omega : 6 * k + 2 < L) (by omega)) ?_
  rw [nI_cl (by omega)]
  refine z_i2l hE d_Lw_law_172 (rfl) ?_
  refine z_bipush (v := nI 32) hE d_Lw_law_173 (by decide) ?_
  refine z_lshl hE d_Lw_law_175 (rfl) ?_
  refine z_aload_n hE d_Lw_law_176 rfl ?_
  refine z_iload_n hE d_Lw_law_177 rfl ?_
  refine z_iconst (v := nI 3) hE d_Lw_law_178 (by decide) ?_
  refine z_iadd (v := nI (6 * k + 3)) hE d_Lw_law_179 (nI_add _ _) ?_
  refine z_sld hE d_Lw_law_180 hX (nI_in' (by omega : 6 * k + 3 < L) (by omega)) ?_
  rw [nI_cl (by omega)]
  refine z_i2l hE d_Lw_law_181 (rfl) ?_
  refine z_ldc2 hE d_Lw_law_182 cn_Lw_18 ?_
  refine z_land hE d_Lw_law_185 (rfl) ?_
  refine z_lor hE d_Lw_law_186 (rfl) ?_
  refine z_aload_n hE d_Lw_law_187 rfl ?_
  refine z_iload_n hE d_Lw_law_188 rfl ?_
  refine z_iconst (v := nI 4) hE d_Lw_law_189 (by decide) ?_
  refine z_iadd (v := nI (6 * k + 4)) hE d_Lw_law_190 (nI_add _ _) ?_
  refine z_sld hE d_Lw_law_191 hX (nI_in' (by omega : 6 * k + 4 < L) (by omega)) ?_
  rw [nI_cl (by omega)]
  refine z_i2l hE d_Lw_law_192 (rfl) ?_
  refine z_bipush (v := nI 32) hE d_Lw_law_193 (by decide) ?_
  refine z_lshl hE d_Lw_law_195 (rfl) ?_
  refine z_aload_n hE d_Lw_law_196 rfl ?_
  refine z_iload_n hE d_Lw_law_197 rfl ?_
  refine z_iconst (v := nI 5) hE d_Lw_law_198 (by decide) ?_
  refine z_iadd (v := nI (6 * k + 5)) hE d_Lw_law_199 (nI_add _ _) ?_
  refine z_sld hE d_Lw_law_200 hX (nI_in' (by omega : 6 * k + 5 < L) (by omega)) ?_
  rw [nI_cl (by omega)]
  refine z_i2l hE d_Lw_law_201 (rfl) ?_
  refine z_ldc2 hE d_Lw_law_202 cn_Lw_18 ?_
  refine z_land hE d_Lw_law_205 (rfl) ?_
  refine z_lor hE d_Lw_law_206 (rfl) ?_
  refine z_callV hE d_Lw_law_207 cl_Lw_20 (c_Od_value l hC (xs (6 * k + 1)) ((((xs (6 * k + 2)).toInt64) <<< ((nI 32).toInt64 &&& 63)) ||| (((xs (6 * k + 3)).toInt64) &&& 4294967295)) ((((xs (6 * k + 4)).toInt64) <<< ((nI 32).toInt64 &&& 63)) ||| (((xs (6 * k + 5)).toInt64) &&& 4294967295))) (by assumption) cb_Od rfl (Nat.le_of_ble_eq_true rfl) ⟨by decide, by decide⟩ ⟨by omega, by omega⟩ (fun r_1 g_1 nx_1 hp_1 => ?_) rfl
  try dsimp only [Option.toList, List.nil_append, List.cons_append]
  obtain ⟨e1, hn1, C1, X1⟩ := hp_1
  obtain ⟨z, hz⟩ : ∃ z, (spValue S (xs (6 * k + 1)) ((((xs (6 * k + 2)).toInt64) <<< ((nI 32).toInt64 &&& 63)) ||| (((xs (6 * k + 3)).toInt64) &&& 4294967295)) ((((xs (6 * k + 4)).toInt64) <<< ((nI 32).toInt64 &&& 63)) ||| (((xs (6 * k + 5)).toInt64) &&& 4294967295))).1 = .int z := by
    unfold spValue
    repeat' (first | exact ⟨_, rfl⟩ | exact mkS_int _ _ _ | split)
  rw [hz] at e1
  subst e1
  try dsimp only [Option.toList, List.nil_append, List.cons_append]
  have M1 : MW g_1 (O + 48) S := MW_X hM (fun q a b => X1 q (by omega) (by omega))
  obtain ⟨E1, t1, ts1, V1, -⟩ := id M1
  have m1 := V1.1
  refine z_aload_n hE d_Lw_law_210 rfl ?_
  refine z_aload_n hE d_Lw_law_211 rfl ?_
  refine z_iload_n hE d_Lw_law_212 rfl ?_
  refine z_iconst (v := nI 1) hE d_Lw_law_213 (by decide) ?_
  refine z_iadd (v := nI (6 * k + 1)) hE d_Lw_law_214 (nI_add _ _) ?_
  refine z_sld hE d_Lw_law_215 hX (nI_in' (by omega : 6 * k + 1 < L) (by omega)) ?_
  rw [nI_cl (by omega)]
  refine z_aload_n hE d_Lw_law_216 rfl ?_
  refine z_iload_n hE d_Lw_law_217 rfl ?_
  refine z_iconst (v := nI 2) hE d_Lw_law_218 (by decide) ?_
  refine z_iadd (v := nI (6 * k + 2)) hE d_Lw_law_219 (nI_add _ _) ?_
  refine z_sld hE d_Lw_law_220 hX (nI_in' (by omega : 6 * k + 2 < L) (by omega)) ?_
  rw [nI_cl (by omega)]
  refine z_i2l hE d_Lw_law_221 (rfl) ?_
  refine z_bipush (v := nI 32) hE d_Lw_law_222 (by decide) ?_
  refine z_lshl hE d_Lw_law_224 (rfl) ?_
  refine z_aload_n hE d_Lw_law_225 rfl ?_
  refine z_iload_n hE d_Lw_law_226 rfl ?_
  refine z_iconst (v := nI 3) hE d_Lw_law_227 (by decide) ?_
  refine z_iadd (v := nI (6 * k + 3)) hE d_Lw_law_228 (nI_add _ _) ?_
  refine z_sld hE d_Lw_law_229 hX (nI_in' (by omega : 6 * k + 3 < L) (by omega)) ?_
  rw [nI_cl (by omega)]
  refine z_i2l hE d_Lw_law_230 (rfl) ?_
  refine z_ldc2 hE d_Lw_law_231 cn_Lw_18 ?_
  refine z_land hE d_Lw_law_234 (rfl) ?_
  refine z_lor hE d_Lw_law_235 (rfl) ?_
  refine z_aload_n hE d_Lw_law_236 rfl ?_
  refine z_iload_n hE d_Lw_law_237 rfl ?_
  refine z_iconst (v := nI 4) hE d_Lw_law_238 (by decide) ?_
  refine z_iadd (v := nI (6 * k + 4)) hE d_Lw_law_239 (nI_add _ _) ?_
  refine z_sld hE d_Lw_law_240 hX (nI_in' (by omega : 6 * k + 4 < L) (by omega)) ?_
  rw [nI_cl (by omega)]
  refine z_i2l hE d_Lw_law_241 (rfl) ?_
  refine z_bipush (v := nI 32) hE d_Lw_law_242 (by decide) ?_
  refine z_lshl hE d_Lw_law_244 (rfl) ?_
  refine z_aload_n hE d_Lw_law_245 rfl ?_
  refine z_iload_n hE d_Lw_law_246 rfl ?_
  refine z_iconst (v := nI 5) hE d_Lw_law_247 (by decide) ?_
  refine z_iadd (v := nI (6 * k + 5)) hE d_Lw_law_248 (nI_add _ _) ?_
  refine z_sld hE d_Lw_law_249 hX (nI_in' (by omega : 6 * k + 5 < L) (by omega)) ?_
  rw [nI_cl (by omega)]
  refine z_i2l hE d_Lw_law_250 (rfl) ?_
  refine z_ldc2 hE d_Lw_law_251 cn_Lw_18 ?_
  refine z_land hE d_Lw_law_254 (rfl) ?_
  refine z_lor hE d_Lw_law_255 (rfl) ?_
  refine z_callV hE d_Lw_law_256 cl_Lw_24 (c_Mo_value l nx_1 M1 hS (xs (6 * k + 1)) ((((xs (6 * k + 2)).toInt64) <<< ((nI 32).toInt64 &&& 63)) ||| (((xs (6 * k + 3)).toInt64) &&& 4294967295)) ((((xs (6 * k + 4)).toInt64) <<< ((nI 32).toInt64 &&& 63)) ||| (((xs (6 * k + 5)).toInt64) &&& 4294967295))) (by assumption) cb_Mo rfl (Nat.le_of_ble_eq_true rfl) ⟨by decide, by decide⟩ ⟨by omega, by omega⟩ (fun r_2 g_2 nx_2 hp_2 => ?_) rfl
  try dsimp only [Option.toList, List.nil_append, List.cons_append]
  obtain ⟨e2, rfl, M2, W2⟩ := hp_2
  rw [hz] at e2
  subst e2
  try dsimp only [Option.toList, List.nil_append, List.cons_append]
  refine z_icmp_eq (tgt := 1167) hE d_Lw_law_259 (by decide) (fun _ => ?_) (fun c_ => absurd c_ (fun w => w rfl))
  exact next _ _ _ _ _ (CW_W C1 W2) M2 (by omega) (by omega) _ rfl rfl rfl rfl
theorem lw_case2 (l : Launch) {E : zE} (hE : zOk E l m_Lw_law 600000 7302250) {b L : Nat} {xs : Nat → Int32} (hX : zX E b L xs) (hL : L ≤ 3072) {O k nx c s : Nat} {g : Gh} {S : Sx} (hC : CW g O nx S) (hM : MW g (O + 48) S) (hk : 6 * k + 6 ≤ L) (hc : c ≤ 100000) (hs : s ≤ 1000000) (next : ∀ (g2 : Gh) (n2 c2 s2 : Nat) (S2 : Sx), CW g2 O n2 S2 → MW g2 (O + 48) S2 → c2 ≤ c + 5 → s2 ≤ s + 47 → ∀ lv, lG lv 0 = some (.ref b) → lG lv 1 = some (.ref O) → lG lv 2 = some (.ref (O + 48)) → lG lv 3 = some (.int (nI (6 * k))) → zJ E g2 n2 c2 s2 1167 lv []) : zJ E g nx c s 264 [(0, .ref b), (1, .ref O), (2, .ref (O + 48)), (3, .int (nI (6 * k)))] [] := by
  have hn := CW_n hC
  have hS := CW_S hC
  obtain ⟨sg0, v0, w0, hV0⟩ := id hC
  have m0 := hV0.1
  refine z_aload_n hE d_Lw_law_264 rfl ?_
  refine z_aload_n hE d_Lw_law_265 rfl ?_
  refine z_iload_n hE d_Lw_law_266 rfl ?_
  refine z_iconst (v := nI 1) hE d_Lw_law_267 (by decide) ?_
  refine z_iadd (v := nI (6 * k + 1)) hE d_Lw_law_268 (nI_add _ _) ?_
  refine z_sld hE d_Lw_law_269 hX (nI_in' (by omega : 6 * k + 1 < L) (by omega)) ?_
  rw [nI_cl (by omega)]
  refine z_aload_n hE d_Lw_law_270 rfl ?_
  refine z_iload_n hE d_Lw_law_271 rfl ?_
  refine z_iconst (v := nI 2) hE d_Lw_law_272 (by decide) ?_
  refine z_iadd (v := nI (6 * k + 2)) hE d_Lw_law_273 (nI_add _ _) ?_
  refine z_sld hE d_Lw_law_274 hX (nI_in' (by omega : 6 * k + 2 < L) (by omega)) ?_
  rw [nI_cl (by omega)]
  refine z_callV hE d_Lw_law_275 cl_Lw_25 (c_Od_copy l hC (xs (6 * k + 1)) (xs (6 * k + 2))) (by assumption) cb_Od rfl (Nat.le_of_ble_eq_true rfl) ⟨by decide, by decide⟩ ⟨by omega, by omega⟩ (fun r_1 g_1 nx_1 hp_1 => ?_) rfl
  try dsimp only [Option.toList, List.nil_append, List.cons_append]
  obtain ⟨e1, hn1, C1, X1⟩ := hp_1
  obtain ⟨z, hz⟩ : ∃ z, (spCopy S (xs (6 * k + 1)) (xs (6 * k + 2))).1 = .int z := by
    unfold spCopy
    repeat' (first | exact ⟨_, rfl⟩ | exact mkS_int _ _ _ | split)
  rw [hz] at e1
  subst e1
  try dsimp only [Option.toList, List.nil_append, List.cons_append]
  have M1 : MW g_1 (O + 48) S := MW_X hM (fun q a b => X1 q (by omega) (by omega))
  obtain ⟨E1, t1, ts1, V1, -⟩ := id M1
  have m1 := V1.1
  refine z_aload_n hE d_Lw_law_278 rfl ?_
  refine z_aload_n hE d_Lw_law_279 rfl ?_
  refine z_iload_n hE d_Lw_law_280 rfl ?_
  refine z_iconst (v := nI 1) hE d_Lw_law_281 (by decide) ?_
  refine z_iadd (v := nI (6 * k + 1)) hE d_Lw_law_282 (nI_add _ _) ?_
  refine z_sld hE d_Lw_law_283 hX (nI_in' (by omega : 6 * k + 1 < L) (by omega)) ?_
  rw [nI_cl (by omega)]
  refine z_aload_n hE d_Lw_law_284 rfl ?_
  refine z_iload_n hE d_Lw_law_285 rfl ?_
  refine z_iconst (v := nI 2) hE d_Lw_law_286 (by decide) ?_
  refine z_iadd (v := nI (6 * k + 2)) hE d_Lw_law_287 (nI_add _ _) ?_
  refine z_sld hE d_Lw_law_288 hX (nI_in' (by omega : 6 * k + 2 < L) (by omega)) ?_
  rw [nI_cl (by omega)]
  refine z_callV hE d_Lw_law_289 cl_Lw_29 (c_Mo_copy l nx_1 M1 hS (xs (6 * k + 1)) (xs (6 * k + 2))) (by assumption) cb_Mo rfl (Nat.le_of_ble_eq_true rfl) ⟨by decide, by decide⟩ ⟨by omega, by omega⟩ (fun r_2 g_2 nx_2 hp_2 => ?_) rfl
  try dsimp only [Option.toList, List.nil_append, List.cons_append]
  obtain ⟨e2, rfl, M2, W2⟩ := hp_2
  rw [hz] at e2
  subst e2
  try dsimp only [Option.toList, List.nil_append, List.cons_append]
  refine z_icmp_eq (tgt := 1167) hE d_Lw_law_292 (by decide) (fun _ => ?_) (fun c_ => absurd c_ (fun w => w rfl))
  exact next _ _ _ _ _ (CW_W C1 W2) M2 (by omega) (by omega) _ rfl rfl rfl rfl
theorem lw_case3 (l : Launch) {E : zE} (hE : zOk E l m_Lw_law 600000 7302250) {b L : Nat} {xs : Nat → Int32} (hX : zX E b L xs) (hL : L ≤ 3072) {O k nx c s : Nat} {g : Gh} {S : Sx} (hC : CW g O nx S) (hM : MW g (O + 48) S) (hk : 6 * k + 6 ≤ L) (hc : c ≤ 100000) (hs : s ≤ 1000000) (next : ∀ (g2 : Gh) (n2 c2 s2 : Nat) (S2 : Sx), CW g2 O n2 S2 → MW g2 (O + 48) S2 → c2 ≤ c + 5 → s2 ≤ s + 47 → ∀ lv, lG lv 0 = some (.ref b) → lG lv 1 = some (.ref O) → lG lv 2 = some (.ref (O + 48)) → lG lv 3 = some (.int (nI (6 * k))) → zJ E g2 n2 c2 s2 1167 lv []) : zJ E g nx c s 297 [(0, .ref b), (1, .ref O), (2, .ref (O + 48)), (3, .int (nI (6 * k)))] [] := by
  have hn := CW_n hC
  have hS := CW_S hC
  obtain ⟨sg0, v0, w0, hV0⟩ := id hC
  have m0 := hV0.1
  refine z_aload_n hE d_Lw_law_297 rfl ?_
  refine z_aload_n hE d_Lw_law_298 rfl ?_
  refine z_iload_n hE d_Lw_law_299 rfl ?_
  refine z_iconst (v := nI 1) hE d_Lw_law_300 (by decide) ?_
  refine z_iadd (v := nI (6 * k + 1)) hE d_Lw_law_301 (nI_add _ _) ?_
  refine z_sld hE d_Lw_law_302 hX (nI_in' (by omega : 6 * k + 1 < L) (by omega)) ?_
  rw [nI_cl (by omega)]
  refine z_callV hE d_Lw_law_303 cl_Lw_30 (c_Od_nothing l hC (xs (6 * k + 1))) (by assumption) cb_Od rfl (Nat.le_of_ble_eq_true rfl) ⟨by decide, by decide⟩ ⟨by omega, by omega⟩ (fun r_1 g_1 nx_1 hp_1 => ?_) rfl
  try dsimp only [Option.toList, List.nil_append, List.cons_append]
  obtain ⟨e1, hn1, C1, X1⟩ := hp_1
  obtain ⟨z, hz⟩ : ∃ z, (spNothing S (xs (6 * k + 1))).1 = .int z := by
    unfold spNothing
    repeat' (first | exact ⟨_, rfl⟩ | exact mkS_int _ _ _ | split)
  rw [hz] at e1
  subst e1
  try dsimp only [Option.toList, List.nil_append, List.cons_append]
  have M1 : MW g_1 (O + 48) S := MW_X hM (fun q a b => X1 q (by omega) (by omega))
  obtain ⟨E1, t1, ts1, V1, -⟩ := id M1
  have m1 := V1.1
  refine z_aload_n hE d_Lw_law_306 rfl ?_
  refine z_aload_n hE d_Lw_law_307 rfl ?_
  refine z_iload_n hE d_Lw_law_308 rfl ?_
  refine z_iconst (v := nI 1) hE d_Lw_law_309 (by decide) ?_
  refine z_iadd (v := nI (6 * k + 1)) hE d_Lw_law_310 (nI_add _ _) ?_
  refine z_sld hE d_Lw_law_311 hX (nI_in' (by omega : 6 * k + 1 < L) (by omega)) ?_
  rw [nI_cl (by omega)]
  refine z_callV hE d_Lw_law_312 cl_Lw_34 (c_Mo_nothing l nx_1 M1 hS (xs (6 * k + 1))) (by assumption) cb_Mo rfl (Nat.le_of_ble_eq_true rfl) ⟨by decide, by decide⟩ ⟨by omega, by omega⟩ (fun r_2 g_2 nx_2 hp_2 => ?_) rfl
  try dsimp only [Option.toList, List.nil_append, List.cons_append]
  obtain ⟨e2, rfl, M2, W2⟩ := hp_2
  rw [hz] at e2
  subst e2
  try dsimp only [Option.toList, List.nil_append, List.cons_append]
  refine z_icmp_eq (tgt := 1167) hE d_Lw_law_315 (by decide) (fun _ => ?_) (fun c_ => absurd c_ (fun w => w rfl))
  exact next _ _ _ _ _ (CW_W C1 W2) M2 (by omega) (by omega) _ rfl rfl rfl rfl
theorem lw_case4 (l : Launch) {E : zE} (hE : zOk E l m_Lw_law 600000 7302250) {b L : Nat} {xs : Nat → Int32} (hX : zX E b L xs) (hL : L ≤ 3072) {O k nx c s : Nat} {g : Gh} {S : Sx} (hC : CW g O nx S) (hM : MW g (O + 48) S) (hk : 6 * k + 6 ≤ L) (hc : c ≤ 100000) (hs : s ≤ 1000000) (next : ∀ (g2 : Gh) (n2 c2 s2 : Nat) (S2 : Sx), CW g2 O n2 S2 → MW g2 (O + 48) S2 → c2 ≤ c + 5 → s2 ≤ s + 47 → ∀ lv, lG lv 0 = some (.ref b) → lG lv 1 = some (.ref O) → lG lv 2 = some (.ref (O + 48)) → lG lv 3 = some (.int (nI (6 * k))) → zJ E g2 n2 c2 s2 1167 lv []) : zJ E g nx c s 320 [(0, .ref b), (1, .ref O), (2, .ref (O + 48)), (3, .int (nI (6 * k)))] [] := by
  have hn := CW_n hC
  have hS := CW_S hC
  obtain ⟨sg0, v0, w0, hV0⟩ := id hC
  have m0 := hV0.1
  refine z_aload_n hE d_Lw_law_320 rfl ?_
  refine z_aload_n hE d_Lw_law_321 rfl ?_
  refine z_iload_n hE d_Lw_law_322 rfl ?_
  refine z_iconst (v := nI 1) hE d_Lw_law_323 (by decide) ?_
  refine z_iadd (v := nI (6 * k + 1)) hE d_Lw_law_324 (nI_add _ _) ?_
  refine z_sld hE d_Lw_law_325 hX (nI_in' (by omega : 6 * k + 1 < L) (by omega)) ?_
  rw [nI_cl (by omega)]
  refine z_aload_n hE d_Lw_law_326 rfl ?_
  refine z_iload_n hE d_Lw_law_327 rfl ?_
  refine z_iconst (v := nI 2) hE d_Lw_law_328 (by decide) ?_
  refine z_iadd (v := nI (6 * k + 2)) hE d_Lw_law_329 (nI_add _ _) ?_
  refine z_sld hE d_Lw_law_330 hX (nI_in' (by omega : 6 * k + 2 < L) (by omega)) ?_
  rw [nI_cl (by omega)]
  refine z_aload_n hE d_Lw_law_331 rfl ?_
  refine z_iload_n hE d_Lw_law_332 rfl ?_
  refine z_iconst (v := nI 3) hE d_Lw_law_333 (by decide) ?_
  refine z_iadd (v := nI (6 * k + 3)) hE d_Lw_law_334 (nI_add _ _) ?_
  refine z_sld hE d_Lw_law_335 hX (nI_in' (by omega : 6 * k + 3 < L) (by omega)) ?_
  rw [nI_cl (by omega)]
  refine z_aload_n hE d_Lw_law_336 rfl ?_
  refine z_iload_n hE d_Lw_law_337 rfl ?_
  refine z_iconst (v := nI 4) hE d_Lw_law_338 (by decide) ?_
  refine z_iadd (v := nI (6 * k + 4)) hE d_Lw_law_339 (nI_add _ _) ?_
  refine z_sld hE d_Lw_law_340 hX (nI_in' (by omega : 6 * k + 4 < L) (by omega)) ?_
  rw [nI_cl (by omega)]
  refine z_callV hE d_Lw_law_341 cl_Lw_35 (c_Od_work l hC (xs (6 * k + 1)) (xs (6 * k + 2)) (xs (6 * k + 3)) (xs (6 * k + 4))) (by assumption) cb_Od rfl (Nat.le_of_ble_eq_true rfl) ⟨by decide, by decide⟩ ⟨by omega, by omega⟩ (fun r_1 g_1 nx_1 hp_1 => ?_) rfl
  try dsimp only [Option.toList, List.nil_append, List.cons_append]
  obtain ⟨e1, hn1, C1, X1⟩ := hp_1
  obtain ⟨z, hz⟩ : ∃ z, (spWork S (xs (6 * k + 1)) (xs (6 * k + 2)) (xs (6 * k + 3)) (xs (6 * k + 4))).1 = .int z := by
    unfold spWork
    repeat' (first | exact ⟨_, rfl⟩ | exact mkS_int _ _ _ | split)
  rw [hz] at e1
  subst e1
  try dsimp only [Option.toList, List.nil_append, List.cons_append]
  have M1 : MW g_1 (O + 48) S := MW_X hM (fun q a b => X1 q (by omega) (by omega))
  obtain ⟨E1, t1, ts1, V1, -⟩ := id M1
  have m1 := V1.1
  refine z_aload_n hE d_Lw_law_344 rfl ?_
  refine z_aload_n hE d_Lw_law_345 rfl ?_
  refine z_iload_n hE d_Lw_law_346 rfl ?_
  refine z_iconst (v := nI 1) hE d_Lw_law_347 (by decide) ?_
  refine z_iadd (v := nI (6 * k + 1)) hE d_Lw_law_348 (nI_add _ _) ?_
  refine z_sld hE d_Lw_law_349 hX (nI_in' (by omega : 6 * k + 1 < L) (by omega)) ?_
  rw [nI_cl (by omega)]
  refine z_aload_n hE d_Lw_law_350 rfl ?_
  refine z_iload_n hE d_Lw_law_351 rfl ?_
  refine z_iconst (v := nI 2) hE d_Lw_law_352 (by decide) ?_
  refine z_iadd (v := nI (6 * k + 2)) hE d_Lw_law_353 (nI_add _ _) ?_
  refine z_sld hE d_Lw_law_354 hX (nI_in' (by omega : 6 * k + 2 < L) (by omega)) ?_
  rw [nI_cl (by omega)]
  refine z_aload_n hE d_Lw_law_355 rfl ?_
  refine z_iload_n hE d_Lw_law_356 rfl ?_
  refine z_iconst (v := nI 3) hE d_Lw_law_357 (by decide) ?_
  refine z_iadd (v := nI (6 * k + 3)) hE d_Lw_law_358 (nI_add _ _) ?_
  refine z_sld hE d_Lw_law_359 hX (nI_in' (by omega : 6 * k + 3 < L) (by omega)) ?_
  rw [nI_cl (by omega)]
  refine z_aload_n hE d_Lw_law_360 rfl ?_
  refine z_iload_n hE d_Lw_law_361 rfl ?_
  refine z_iconst (v := nI 4) hE d_Lw_law_362 (by decide) ?_
  refine z_iadd (v := nI (6 * k + 4)) hE d_Lw_law_363 (nI_add _ _) ?_
  refine z_sld hE d_Lw_law_364 hX (nI_in' (by omega : 6 * k + 4 < L) (by omega)) ?_
  rw [nI_cl (by omega)]
  refine z_callV hE d_Lw_law_365 cl_Lw_39 (c_Mo_work l nx_1 M1 hS (xs (6 * k + 1)) (xs (6 * k + 2)) (xs (6 * k + 3)) (xs (6 * k + 4))) (by assumption) cb_Mo rfl (Nat.le_of_ble_eq_true rfl) ⟨by decide, by decide⟩ ⟨by omega, by omega⟩ (fun r_2 g_2 nx_2 hp_2 => ?_) rfl
  try dsimp only [Option.toList, List.nil_append, List.cons_append]
  obtain ⟨e2, rfl, M2, W2⟩ := hp_2
  rw [hz] at e2
  subst e2
  try dsimp only [Option.toList, List.nil_append, List.cons_append]
  refine z_icmp_eq (tgt := 1167) hE d_Lw_law_368 (by decide) (fun _ => ?_) (fun c_ => absurd c_ (fun w => w rfl))
  exact next _ _ _ _ _ (CW_W C1 W2) M2 (by omega) (by omega) _ rfl rfl rfl rfl
theorem lw_case5 (l : Launch) {E : zE} (hE : zOk E l m_Lw_law 600000 7302250) {b L : Nat} {xs : Nat → Int32} (hX : zX E b L xs) (hL : L ≤ 3072) {O k nx c s : Nat} {g : Gh} {S : Sx} (hC : CW g O nx S) (hM : MW g (O + 48) S) (hk : 6 * k + 6 ≤ L) (hc : c ≤ 100000) (hs : s ≤ 1000000) (next : ∀ (g2 : Gh) (n2 c2 s2 : Nat) (S2 : Sx), CW g2 O n2 S2 → MW g2 (O + 48) S2 → c2 ≤ c + 5 → s2 ≤ s + 47 → ∀ lv, lG lv 0 = some (.ref b) → lG lv 1 = some (.ref O) → lG lv 2 = some (.ref (O + 48)) → lG lv 3 = some (.int (nI (6 * k))) → zJ E g2 n2 c2 s2 1167 lv []) : zJ E g nx c s 373 [(0, .ref b), (1, .ref O), (2, .ref (O + 48)), (3, .int (nI (6 * k)))] [] := by
  have hn := CW_n hC
  have hS := CW_S hC
  obtain ⟨sg0, v0, w0, hV0⟩ := id hC
  have m0 := hV0.1
  refine z_aload_n hE d_Lw_law_373 rfl ?_
  refine z_aload_n hE d_Lw_law_374 rfl ?_
  refine z_iload_n hE d_Lw_law_375 rfl ?_
  refine z_iconst (v := nI 1) hE d_Lw_law_376 (by decide) ?_
  refine z_iadd (v := nI (6 * k + 1)) hE d_Lw_law_377 (nI_add _ _) ?_
  refine z_sld hE d_Lw_law_378 hX (nI_in' (by omega : 6 * k + 1 < L) (by omega)) ?_
  rw [nI_cl (by omega)]
  refine z_aload_n hE d_Lw_law_379 rfl ?_
  refine z_iload_n hE d_Lw_law_380 rfl ?_
  refine z_iconst (v := nI 2) hE d_Lw_law_381 (by decide) ?_
  refine z_iadd (v := nI (6 * k + 2)) hE d_Lw_law_382 (nI_add _ _) ?_
  refine z_sld hE d_Lw_law_383 hX (nI_in' (by omega : 6 * k + 2 < L) (by omega)) ?_
  rw [nI_cl (by omega)]
  refine z_aload_n hE d_Lw_law_384 rfl ?_
  refine z_iload_n hE d_Lw_law_385 rfl ?_
  refine z_iconst (v := nI 3) hE d_Lw_law_386 (by decide) ?_
  refine z_iadd (v := nI (6 * k + 3)) hE d_Lw_law_387 (nI_add _ _) ?_
  refine z_sld hE d_Lw_law_388 hX (nI_in' (by omega : 6 * k + 3 < L) (by omega)) ?_
  rw [nI_cl (by omega)]
  refine z_callV hE d_Lw_law_389 cl_Lw_40 (c_Od_power l hC (xs (6 * k + 1)) (xs (6 * k + 2)) (xs (6 * k + 3))) (by assumption) cb_Od rfl (Nat.le_of_ble_eq_true rfl) ⟨by decide, by decide⟩ ⟨by omega, by omega⟩ (fun r_1 g_1 nx_1 hp_1 => ?_) rfl
  try dsimp only [Option.toList, List.nil_append, List.cons_append]
  obtain ⟨e1, hn1, C1, X1⟩ := hp_1
  obtain ⟨z, hz⟩ : ∃ z, (spPower S (xs (6 * k + 1)) (xs (6 * k + 2)) (xs (6 * k + 3))).1 = .int z := by
    unfold spPower
    repeat' (first | exact ⟨_, rfl⟩ | exact mkS_int _ _ _ | split)
  rw [hz] at e1
  subst e1
  try dsimp only [Option.toList, List.nil_append, List.cons_append]
  have M1 : MW g_1 (O + 48) S := MW_X hM (fun q a b => X1 q (by omega) (by omega))
  obtain ⟨E1, t1, ts1, V1, -⟩ := id M1
  have m1 := V1.1
  refine z_aload_n hE d_Lw_law_392 rfl ?_
  refine z_aload_n hE d_Lw_law_393 rfl ?_
  refine z_iload_n hE d_Lw_law_394 rfl ?_
  refine z_iconst (v := nI 1) hE d_Lw_law_395 (by decide) ?_
  refine z_iadd (v := nI (6 * k + 1)) hE d_Lw_law_396 (nI_add _ _) ?_
  refine z_sld hE d_Lw_law_397 hX (nI_in' (by omega : 6 * k + 1 < L) (by omega)) ?_
  rw [nI_cl (by omega)]
  refine z_aload_n hE d_Lw_law_398 rfl ?_
  refine z_iload_n hE d_Lw_law_399 rfl ?_
  refine z_iconst (v := nI 2) hE d_Lw_law_400 (by decide) ?_
  refine z_iadd (v := nI (6 * k + 2)) hE d_Lw_law_401 (nI_add _ _) ?_
  refine z_sld hE d_Lw_law_402 hX (nI_in' (by omega : 6 * k + 2 < L) (by omega)) ?_
  rw [nI_cl (by omega)]
  refine z_aload_n hE d_Lw_law_403 rfl ?_
  refine z_iload_n hE d_Lw_law_404 rfl ?_
  refine z_iconst (v := nI 3) hE d_Lw_law_405 (by decide) ?_
  refine z_iadd (v := nI (6 * k + 3)) hE d_Lw_law_406 (nI_add _ _) ?_
  refine z_sld hE d_Lw_law_407 hX (nI_in' (by omega : 6 * k + 3 < L) (by omega)) ?_
  rw [nI_cl (by omega)]
  refine z_callV hE d_Lw_law_408 cl_Lw_44 (c_Mo_power l nx_1 M1 hS (xs (6 * k + 1)) (xs (6 * k + 2)) (xs (6 * k + 3))) (by assumption) cb_Mo rfl (Nat.le_of_ble_eq_true rfl) ⟨by decide, by decide⟩ ⟨by omega, by omega⟩ (fun r_2 g_2 nx_2 hp_2 => ?_) rfl
  try dsimp only [Option.toList, List.nil_append, List.cons_append]
  obtain ⟨e2, rfl, M2, W2⟩ := hp_2
  rw [hz] at e2
  subst e2
  try dsimp only [Option.toList, List.nil_append, List.cons_append]
  refine z_icmp_eq (tgt := 1167) hE d_Lw_law_411 (by decide) (fun _ => ?_) (fun c_ => absurd c_ (fun w => w rfl))
  exact next _ _ _ _ _ (CW_W C1 W2) M2 (by omega) (by omega) _ rfl rfl rfl rfl
theorem lw_case6 (l : Launch) {E : zE} (hE : zOk E l m_Lw_law 600000 7302250) {b L : Nat} {xs : Nat → Int32} (hX : zX E b L xs) (hL : L ≤ 3072) {O k nx c s : Nat} {g : Gh} {S : Sx} (hC : CW g O nx S) (hM : MW g (O + 48) S) (hk : 6 * k + 6 ≤ L) (hc : c ≤ 100000) (hs : s ≤ 1000000) (next : ∀ (g2 : Gh) (n2 c2 s2 : Nat) (S2 : Sx), CW g2 O n2 S2 → MW g2 (O + 48) S2 → c2 ≤ c + 5 → s2 ≤ s + 47 → ∀ lv, lG lv 0 = some (.ref b) → lG lv 1 = some (.ref O) → lG lv 2 = some (.ref (O + 48)) → lG lv 3 = some (.int (nI (6 * k))) → zJ E g2 n2 c2 s2 1167 lv []) : zJ E g nx c s 416 [(0, .ref b), (1, .ref O), (2, .ref (O + 48)), (3, .int (nI (6 * k)))] [] := by
  have hn := CW_n hC
  have hS := CW_S hC
  obtain ⟨sg0, v0, w0, hV0⟩ := id hC
  have m0 := hV0.1
  refine z_aload_n hE d_Lw_law_416 rfl ?_
  refine z_aload_n hE d_Lw_law_417 rfl ?_
  refine z_iload_n hE d_Lw_law_418 rfl ?_
  refine z_iconst (v := nI 1) hE d_Lw_law_419 (by decide) ?_
  refine z_iadd (v := nI (6 * k + 1)) hE d_Lw_law_420 (nI_add _ _) ?_
  refine z_sld hE d_Lw_law_421 hX (nI_in' (by omega : 6 * k + 1 < L) (by omega)) ?_
  rw [nI_cl (by omega)]
  refine z_aload_n hE d_Lw_law_422 rfl ?_
  refine z_iload_n hE d_Lw_law_423 rfl ?_
  refine z_iconst (v := nI 2) hE d_Lw_law_424 (by decide) ?_
  refine z_iadd (v := nI (6 * k + 2)) hE d_Lw_law_425 (nI_add _ _) ?_
  refine z_sld hE d_Lw_law_426 hX (nI_in' (by omega : 6 * k + 2 < L) (by omega)) ?_
  rw [nI_cl (by omega)]
  refine z_aload_n hE d_Lw_law_427 rfl ?_
  refine z_iload_n hE d_Lw_law_428 rfl ?_
  refine z_iconst (v := nI 3) hE d_Lw_law_429 (by decide) ?_
  refine z_iadd (v := nI (6 * k + 3)) hE d_Lw_law_430 (nI_add _ _) ?_
  refine z_sld hE d_Lw_law_431 hX (nI_in' (by omega : 6 * k + 3 < L) (by omega)) ?_
  rw [nI_cl (by omega)]
  refine z_callV hE d_Lw_law_432 cl_Lw_45 (c_Od_binomial l hC (xs (6 * k + 1)) (xs (6 * k + 2)) (xs (6 * k + 3))) (by assumption) cb_Od rfl (Nat.le_of_ble_eq_true rfl) ⟨by decide, by decide⟩ ⟨by omega, by omega⟩ (fun r_1 g_1 nx_1 hp_1 => ?_) rfl
  try dsimp only [Option.toList, List.nil_append, List.cons_append]
  obtain ⟨e1, hn1, C1, X1⟩ := hp_1
  obtain ⟨z, hz⟩ : ∃ z, (spBinomial S (xs (6 * k + 1)) (xs (6 * k + 2)) (xs (6 * k + 3))).1 = .int z := by
    unfold spBinomial
    repeat' (first | exact ⟨_, rfl⟩ | exact mkS_int _ _ _ | split)
  rw [hz] at e1
  subst e1
  try dsimp only [Option.toList, List.nil_append, List.cons_append]
  have M1 : MW g_1 (O + 48) S := MW_X hM (fun q a b => X1 q (by omega) (by omega))
  obtain ⟨E1, t1, ts1, V1, -⟩ := id M1
  have m1 := V1.1
  refine z_aload_n hE d_Lw_law_435 rfl ?_
  refine z_aload_n hE d_Lw_law_436 rfl ?_
  refine z_iload_n hE d_Lw_law_437 rfl ?_
  refine z_iconst (v := nI 1) hE d_Lw_law_438 (by decide) ?_
  refine z_iadd (v := nI (6 * k + 1)) hE d_Lw_law_439 (nI_add _ _) ?_
  refine z_sld hE d_Lw_law_440 hX (nI_in' (by omega : 6 * k + 1 < L) (by omega)) ?_
  rw [nI_cl (by omega)]
  refine z_aload_n hE d_Lw_law_441 rfl ?_
  refine z_iload_n hE d_Lw_law_442 rfl ?_
  refine z_iconst (v := nI 2) hE d_Lw_law_443 (by decide) ?_
  refine z_iadd (v := nI (6 * k + 2)) hE d_Lw_law_444 (nI_add _ _) ?_
  refine z_sld hE d_Lw_law_445 hX (nI_in' (by omega : 6 * k + 2 < L) (by omega)) ?_
  rw [nI_cl (by omega)]
  refine z_aload_n hE d_Lw_law_446 rfl ?_
  refine z_iload_n hE d_Lw_law_447 rfl ?_
  refine z_iconst (v := nI 3) hE d_Lw_law_448 (by decide) ?_
  refine z_iadd (v := nI (6 * k + 3)) hE d_Lw_law_449 (nI_add _ _) ?_
  refine z_sld hE d_Lw_law_450 hX (nI_in' (by omega : 6 * k + 3 < L) (by omega)) ?_
  rw [nI_cl (by omega)]
  refine z_callV hE d_Lw_law_451 cl_Lw_48 (c_Mo_binomial l nx_1 M1 hS (xs (6 * k + 1)) (xs (6 * k + 2)) (xs (6 * k + 3))) (by assumption) cb_Mo rfl (Nat.le_of_ble_eq_true rfl) ⟨by decide, by decide⟩ ⟨by omega, by omega⟩ (fun r_2 g_2 nx_2 hp_2 => ?_) rfl
  try dsimp only [Option.toList, List.nil_append, List.cons_append]
  obtain ⟨e2, rfl, M2, W2⟩ := hp_2
  rw [hz] at e2
  subst e2
  try dsimp only [Option.toList, List.nil_append, List.cons_append]
  refine z_icmp_eq (tgt := 1167) hE d_Lw_law_454 (by decide) (fun _ => ?_) (fun c_ => absurd c_ (fun w => w rfl))
  exact next _ _ _ _ _ (CW_W C1 W2) M2 (by omega) (by omega) _ rfl rfl rfl rfl
theorem lw_case7 (l : Launch) {E : zE} (hE : zOk E l m_Lw_law 600000 7302250) {b L : Nat} {xs : Nat → Int32} (hX : zX E b L xs) (hL : L ≤ 3072) {O k nx c s : Nat} {g : Gh} {S : Sx} (hC : CW g O nx S) (hM : MW g (O + 48) S) (hk : 6 * k + 6 ≤ L) (hc : c ≤ 100000) (hs : s ≤ 1000000) (next : ∀ (g2 : Gh) (n2 c2 s2 : Nat) (S2 : Sx), CW g2 O n2 S2 → MW g2 (O + 48) S2 → c2 ≤ c + 5 → s2 ≤ s + 47 → ∀ lv, lG lv 0 = some (.ref b) → lG lv 1 = some (.ref O) → lG lv 2 = some (.ref (O + 48)) → lG lv 3 = some (.int (nI (6 * k))) → zJ E g2 n2 c2 s2 1167 lv []) : zJ E g nx c s 459 [(0, .ref b), (1, .ref O), (2, .ref (O + 48)), (3, .int (nI (6 * k)))] [] := by
  have hn := CW_n hC
  have hS := CW_S hC
  obtain ⟨sg0, v0, w0, hV0⟩ := id hC
  have m0 := hV0.1
  refine z_aload_n hE d_Lw_law_459 rfl ?_
  refine z_aload_n hE d_Lw_law_460 rfl ?_
  refine z_iload_n hE d_Lw_law_461 rfl ?_
  refine z_iconst (v := nI 1) hE d_Lw_law_462 (by decide) ?_
  refine z_iadd (v := nI (6 * k + 1)) hE d_Lw_law_463 (nI_add _ _) ?_
  refine z_sld hE d_Lw_law_464 hX (nI_in' (by omega : 6 * k + 1 < L) (by omega)) ?_
  rw [nI_cl (by omega)]
  refine z_aload_n hE d_Lw_law_465 rfl ?_
  refine z_iload_n hE d_Lw_law_466 rfl ?_
  refine z_iconst (v := nI 2) hE d_Lw_law_467 (by decide) ?_
  refine z_iadd (v := nI (6 * k + 2)) hE d_Lw_law_468 (nI_add _ _) ?_
  refine z_sld hE d_Lw_law_469 hX (nI_in' (by omega : 6 * k + 2 < L) (by omega)) ?_
  rw [nI_cl (by omega)]
  refine z_aload_n hE d_Lw_law_470 rfl ?_
  refine z_iload_n hE d_Lw_law_471 rfl ?_
  refine z_iconst (v := nI 3) hE d_Lw_law_472 (by decide) ?_
  refine z_iadd (v := nI (6 * k + 3)) hE d_Lw_law_473 (nI_add _ _) ?_
  refine z_sld hE d_Lw_law_474 hX (nI_in' (by omega : 6 * k + 3 < L) (by omega)) ?_
  rw [nI_cl (by omega)]
  refine z_callV hE d_Lw_law_475 cl_Lw_49 (c_Od_common l hC (xs (6 * k + 1)) (xs (6 * k + 2)) (xs (6 * k + 3))) (by assumption) cb_Od rfl (Nat.le_of_ble_eq_true rfl) ⟨by decide, by decide⟩ ⟨by omega, by omega⟩ (fun r_1 g_1 nx_1 hp_1 => ?_) rfl
  try dsimp only [Option.toList, List.nil_append, List.cons_append]
  obtain ⟨e1, hn1, C1, X1⟩ := hp_1
  obtain ⟨z, hz⟩ : ∃ z, (spCommon S (xs (6 * k + 1)) (xs (6 * k + 2)) (xs (6 * k + 3))).1 = .int z := by
    unfold spCommon
    repeat' (first | exact ⟨_, rfl⟩ | exact mkS_int _ _ _ | split)
  rw [hz] at e1
  subst e1
  try dsimp only [Option.toList, List.nil_append, List.cons_append]
  have M1 : MW g_1 (O + 48) S := MW_X hM (fun q a b => X1 q (by omega) (by omega))
  obtain ⟨E1, t1, ts1, V1, -⟩ := id M1
  have m1 := V1.1
  refine z_aload_n hE d_Lw_law_478 rfl ?_
  refine z_aload_n hE d_Lw_law_479 rfl ?_
  refine z_iload_n hE d_Lw_law_480 rfl ?_
  refine z_iconst (v := nI 1) hE d_Lw_law_481 (by decide) ?_
  refine z_iadd (v := nI (6 * k + 1)) hE d_Lw_law_482 (nI_add _ _) ?_
  refine z_sld hE d_Lw_law_483 hX (nI_in' (by omega : 6 * k + 1 < L) (by omega)) ?_
  rw [nI_cl (by omega)]
  refine z_aload_n hE d_Lw_law_484 rfl ?_
  refine z_iload_n hE d_Lw_law_485 rfl ?_
  refine z_iconst (v := nI 2) hE d_Lw_law_486 (by decide) ?_
  refine z_iadd (v := nI (6 * k + 2)) hE d_Lw_law_487 (nI_add _ _) ?_
  refine z_sld hE d_Lw_law_488 hX (nI_in' (by omega : 6 * k + 2 < L) (by omega)) ?_
  rw [nI_cl (by omega)]
  refine z_aload_n hE d_Lw_law_489 rfl ?_
  refine z_iload_n hE d_Lw_law_490 rfl ?_
  refine z_iconst (v := nI 3) hE d_Lw_law_491 (by decide) ?_
  refine z_iadd (v := nI (6 * k + 3)) hE d_Lw_law_492 (nI_add _ _) ?_
  refine z_sld hE d_Lw_law_493 hX (nI_in' (by omega : 6 * k + 3 < L) (by omega)) ?_
  rw [nI_cl (by omega)]
  refine z_callV hE d_Lw_law_494 cl_Lw_52 (c_Mo_common l nx_1 M1 hS (xs (6 * k + 1)) (xs (6 * k + 2)) (xs (6 * k + 3))) (by assumption) cb_Mo rfl (Nat.le_of_ble_eq_true rfl) ⟨by decide, by decide⟩ ⟨by omega, by omega⟩ (fun r_2 g_2 nx_2 hp_2 => ?_) rfl
  try dsimp only [Option.toList, List.nil_append, List.cons_append]
  obtain ⟨e2, rfl, M2, W2⟩ := hp_2
  rw [hz] at e2
  subst e2
  try dsimp only [Option.toList, List.nil_append, List.cons_append]
  refine z_icmp_eq (tgt := 1167) hE d_Lw_law_497 (by decide) (fun _ => ?_) (fun c_ => absurd c_ (fun w => w rfl))
  exact next _ _ _ _ _ (CW_W C1 W2) M2 (by omega) (by omega) _ rfl rfl rfl rfl
theorem lw_case8 (l : Launch) {E : zE} (hE : zOk E l m_Lw_law 600000 7302250) {b L : Nat} {xs : Nat → Int32} (hX : zX E b L xs) (hL : L ≤ 3072) {O k nx c s : Nat} {g : Gh} {S : Sx} (hC : CW g O nx S) (hM : MW g (O + 48) S) (hk : 6 * k + 6 ≤ L) (hc : c ≤ 100000) (hs : s ≤ 1000000) (next : ∀ (g2 : Gh) (n2 c2 s2 : Nat) (S2 : Sx), CW g2 O n2 S2 → MW g2 (O + 48) S2 → c2 ≤ c + 5 → s2 ≤ s + 47 → ∀ lv, lG lv 0 = some (.ref b) → lG lv 1 = some (.ref O) → lG lv 2 = some (.ref (O + 48)) → lG lv 3 = some (.int (nI (6 * k))) → zJ E g2 n2 c2 s2 1167 lv []) : zJ E g nx c s 502 [(0, .ref b), (1, .ref O), (2, .ref (O + 48)), (3, .int (nI (6 * k)))] [] := by
  have hn := CW_n hC
  have hS := CW_S hC
  obtain ⟨sg0, v0, w0, hV0⟩ := id hC
  have m0 := hV0.1
  refine z_aload_n hE d_Lw_law_502 rfl ?_
  refine z_aload_n hE d_Lw_law_503 rfl ?_
  refine z_iload_n hE d_Lw_law_504 rfl ?_
  refine z_iconst (v := nI 1) hE d_Lw_law_505 (by decide) ?_
  refine z_iadd (v := nI (6 * k + 1)) hE d_Lw_law_506 (nI_add _ _) ?_
  refine z_sld hE d_Lw_law_507 hX (nI_in' (by omega : 6 * k + 1 < L) (by omega)) ?_
  rw [nI_cl (by omega)]
  refine z_aload_n hE d_Lw_law_508 rfl ?_
  refine z_iload_n hE d_Lw_law_509 rfl ?_
  refine z_iconst (v := nI 2) hE d_Lw_law_510 (by decide) ?_
  refine z_iadd (v := nI (6 * k + 2)) hE d_Lw_law_511 (nI_add _ _) ?_
  refine z_sld hE d_Lw_law_512 hX (nI_in' (by omega : 6 * k + 2 < L) (by omega)) ?_
  rw [nI_cl (by omega)]
  refine z_callV hE d_Lw_law_513 cl_Lw_53 (c_Od_order l hC (xs (6 * k + 1)) (xs (6 * k + 2))) (by assumption) cb_Od rfl (Nat.le_of_ble_eq_true rfl) ⟨by decide, by decide⟩ ⟨by omega, by omega⟩ (fun r_1 g_1 nx_1 hp_1 => ?_) rfl
  try dsimp only [Option.toList, List.nil_append, List.cons_append]
  obtain ⟨e1, hn1, C1, X1⟩ := hp_1
  obtain ⟨z, hz⟩ : ∃ z, (spOrder S (xs (6 * k + 1)) (xs (6 * k + 2))).1 = .int z := by
    unfold spOrder
    repeat' (first | exact ⟨_, rfl⟩ | exact mkS_int _ _ _ | split)
  rw [hz] at e1
  subst e1
  try dsimp only [Option.toList, List.nil_append, List.cons_append]
  have M1 : MW g_1 (O + 48) S := MW_X hM (fun q a b => X1 q (by omega) (by omega))
  obtain ⟨E1, t1, ts1, V1, -⟩ := id M1
  have m1 := V1.1
  refine z_aload_n hE d_Lw_law_516 rfl ?_
  refine z_aload_n hE d_Lw_law_517 rfl ?_
  refine z_iload_n hE d_Lw_law_518 rfl ?_
  refine z_iconst (v := nI 1) hE d_Lw_law_519 (by decide) ?_
  refine z_iadd (v := nI (6 * k + 1)) hE d_Lw_law_520 (nI_add _ _) ?_
  refine z_sld hE d_Lw_law_521 hX (nI_in' (by omega : 6 * k + 1 < L) (by omega)) ?_
  rw [nI_cl (by omega)]
  refine z_aload_n hE d_Lw_law_522 rfl ?_
  refine z_iload_n hE d_Lw_law_523 rfl ?_
  refine z_iconst (v := nI 2) hE d_Lw_law_524 (by decide) ?_
  refine z_iadd (v := nI (6 * k + 2)) hE d_Lw_law_525 (nI_add _ _) ?_
  refine z_sld hE d_Lw_law_526 hX (nI_in' (by omega : 6 * k + 2 < L) (by omega)) ?_
  rw [nI_cl (by omega)]
  refine z_callV hE d_Lw_law_527 cl_Lw_56 (c_Mo_order l nx_1 M1 hS (xs (6 * k + 1)) (xs (6 * k + 2))) (by assumption) cb_Mo rfl (Nat.le_of_ble_eq_true rfl) ⟨by decide, by decide⟩ ⟨by omega, by omega⟩ (fun r_2 g_2 nx_2 hp_2 => ?_) rfl
  try dsimp only [Option.toList, List.nil_append, List.cons_append]
  obtain ⟨e2, rfl, M2, W2⟩ := hp_2
  rw [hz] at e2
  subst e2
  try dsimp only [Option.toList, List.nil_append, List.cons_append]
  refine z_icmp_eq (tgt := 1167) hE d_Lw_law_530 (by decide) (fun _ => ?_) (fun c_ => absurd c_ (fun w => w rfl))
  exact next _ _ _ _ _ (CW_W C1 W2) M2 (by omega) (by omega) _ rfl rfl rfl rfl

