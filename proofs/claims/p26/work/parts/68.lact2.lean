set_option maxRecDepth 20000 in
set_option maxHeartbeats 4000000 in
theorem ac_0a {G : Gl} {M : Mm} (h : INV M) {nv np W v zn q : Nat} (z : Int32) (h0 : M 0 0 = nI nv) (hn : nv ≤ 3) (h1 : M 0 1 = nI np) (hm : np ≤ 6) (hW : W < 60000) (hv : v < nv) (hz : zn < 3) (hq : (np = 0 ∧ q = 0) ∨ q < np) (hnv : nv = 3) : AW G cL_acts RL 26 6 140 (some .boolean) ANS 176 [some (.inr (6, 0, 0, 0)), some (.inr (9, 50, 6, 0)), some (.inr (9, 51, 57, 0)), some (.inr (9, 52, 60, 0)), some (.inl z), some (.inl (nI W)), some (.inl (nI v)), some (.inl (nI zn)), some (.inl (nI (4 + 19 * v + 5 * zn))), some (.inl (nI q)), none, none, none, none, none, none, none, none, none, none, none, none, none, none, none, none] [] M := by
  have hL := h.1
  obtain ⟨⟨t, ht, hg⟩, hqw⟩ := id h.2.1
  have hv3 : v < 3 := by omega
  have hno : newF (M 0) (nI (W % 401) - nI 300) (nI 0) = M 0 := by unfold newF; rw [if_pos (cold_w0 W), if_neg (by rw [h0, hnv]; decide)]
  have hR : newR (M 0) (nI (W % 401) - nI 300) (nI 0) = (-100003) := by unfold newR; rw [if_pos (cold_w0 W), if_neg (by rw [h0, hnv]; decide)]
  refine a_al_1_26 (pc' := 177) dL_acts_176 rfl ?_
  refine a_iconst (v := nI 0) (pc' := 178) dL_acts_177 (by decide) rfl ?_
  refine a_ialdN (pc' := 179) rfl (by omega) (by decide) dL_acts_178 rfl ?_
  rw [hL.g (show 0 < 6 by decide), h0, hnv]
  refine a_iconst (v := nI 3) (pc' := 180) dL_acts_179 (by decide) rfl ?_
  refine a_icmp_ne (pc' := 183) (tgt := 211) dL_acts_180 (by decide) rfl (fun c_180 => absurd (by decide) c_180) (fun c_180 => ?_)
  refine a_al_0_26 (pc' := 184) dL_acts_183 rfl ?_
  refine a_il_5_26 (pc' := 186) dL_acts_184 rfl ?_
  refine a_sipush (v := nI 401) (pc' := 189) dL_acts_186 (by decide) rfl ?_
  refine a_iremN (pc' := 190) (by omega) (by decide) (by decide) dL_acts_189 rfl ?_
  refine a_sipush (v := nI 300) (pc' := 193) dL_acts_190 (by decide) rfl ?_
  refine a_isub (pc' := 194) dL_acts_193 rfl ?_
  refine a_iconst (v := nI 0) (pc' := 195) dL_acts_194 (by decide) rfl ?_
  refine k_VI (pc' := 198) (cx_addVan rfl h.fr hg.bok hn h0 _ _) cw_L_34 mi_X6_addVan se_X6_addVan rfl rfl rfl rfl (by decide) (by decide) (Nat.le_of_ble_eq_true rfl) rfl dL_acts_195 rfl ?_
  refine a_ldc (pc' := 200) dL_acts_198 cn_L_50 rfl ?_
  refine a_icmp_ne (pc' := 203) (tgt := 207) dL_acts_200 (by decide) rfl (fun c_200 => absurd hR c_200) (fun c_200 => ?_)
  refine a_iconst (v := nI 1) (pc' := 204) dL_acts_203 (by decide) rfl ?_
  refine a_goto (pc' := 236) dL_acts_204 (by decide) ?_
  refine a_iret dL_acts_236 rfl rfl ?_
  exact ⟨rfl, h.no hno⟩
set_option maxRecDepth 20000 in
set_option maxHeartbeats 4000000 in
theorem ac_0b {G : Gl} {M : Mm} (h : INV M) {nv np W v zn q : Nat} (z : Int32) (h0 : M 0 0 = nI nv) (hn : nv ≤ 3) (h1 : M 0 1 = nI np) (hm : np ≤ 6) (hW : W < 60000) (hv : v < nv) (hz : zn < 3) (hq : (np = 0 ∧ q = 0) ∨ q < np) (hnv : nv < 3) : AW G cL_acts RL 26 6 140 (some .boolean) ANS 176 [some (.inr (6, 0, 0, 0)), some (.inr (9, 50, 6, 0)), some (.inr (9, 51, 57, 0)), some (.inr (9, 52, 60, 0)), some (.inl z), some (.inl (nI W)), some (.inl (nI v)), some (.inl (nI zn)), some (.inl (nI (4 + 19 * v + 5 * zn))), some (.inl (nI q)), none, none, none, none, none, none, none, none, none, none, none, none, none, none, none, none] [] M := by
  have hL := h.1
  obtain ⟨⟨t, ht, hg⟩, hqw⟩ := id h.2.1
  have hv3 : v < 3 := by omega
  refine a_al_1_26 (pc' := 177) dL_acts_176 rfl ?_
  refine a_iconst (v := nI 0) (pc' := 178) dL_acts_177 (by decide) rfl ?_
  refine a_ialdN (pc' := 179) rfl (by omega) (by decide) dL_acts_178 rfl ?_
  rw [hL.g (show 0 < 6 by decide), h0]
  refine a_iconst (v := nI 3) (pc' := 180) dL_acts_179 (by decide) rfl ?_
  refine a_icmp_ne (pc' := 183) (tgt := 211) dL_acts_180 (by decide) rfl (fun c_180 => ?_) (fun c_180 => absurd c_180 (by rw [nI_eqm]; omega))
  refine a_al_0_26 (pc' := 212) dL_acts_211 rfl ?_
  refine a_al_1_26 (pc' := 213) dL_acts_212 rfl ?_
  refine a_al_2_26 (pc' := 214) dL_acts_213 rfl ?_
  refine a_il_5_26 (pc' := 216) dL_acts_214 rfl ?_
  refine a_sipush (v := nI 401) (pc' := 219) dL_acts_216 (by decide) rfl ?_
  refine a_iremN (pc' := 220) (by omega) (by decide) (by decide) dL_acts_219 rfl ?_
  refine a_sipush (v := nI 300) (pc' := 223) dL_acts_220 (by decide) rfl ?_
  refine a_isub (pc' := 224) dL_acts_223 rfl ?_
  refine a_il_5_26 (pc' := 226) dL_acts_224 rfl ?_
  refine a_sipush (v := nI 401) (pc' := 229) dL_acts_226 (by decide) rfl ?_
  refine a_idivN (pc' := 230) (by omega) (by decide) (by decide) dL_acts_229 rfl ?_
  refine a_bipush (v := nI 31) (pc' := 232) dL_acts_230 (by decide) rfl ?_
  refine a_iremN (pc' := 233) (by omega) (by decide) (by decide) dL_acts_232 rfl ?_
  refine k_SQ (pc' := 236) (ct_L_adds h hnv h0 _ _ (cold_w W)) cw_L_46 ms_L_adds rfl (by decide) (by decide) (Nat.le_of_ble_eq_true rfl) rfl dL_acts_233 rfl (fun M_233 hq_233 => ?_)
  refine a_iret dL_acts_236 rfl rfl ?_
  exact ⟨rfl, hq_233⟩
set_option maxRecDepth 20000 in
set_option maxHeartbeats 4000000 in
theorem ac_1_0 {G : Gl} {M : Mm} (h : INV M) {nv np W v zn q : Nat} (z : Int32) (h0 : M 0 0 = nI nv) (hn : nv ≤ 3) (h1 : M 0 1 = nI np) (hm : np ≤ 6) (hW : W < 60000) (hv : v < nv) (hz : zn < 3) (hq : (np = 0 ∧ q = 0) ∨ q < np) (hw : W % 3 = 0) : AW G cL_acts RL 26 6 140 (some .boolean) ANS 237 [some (.inr (6, 0, 0, 0)), some (.inr (9, 50, 6, 0)), some (.inr (9, 51, 57, 0)), some (.inr (9, 52, 60, 0)), some (.inl z), some (.inl (nI W)), some (.inl (nI v)), some (.inl (nI zn)), some (.inl (nI (4 + 19 * v + 5 * zn))), some (.inl (nI q)), none, none, none, none, none, none, none, none, none, none, none, none, none, none, none, none] [] M := by
  have hL := h.1
  obtain ⟨⟨t, ht, hg⟩, hqw⟩ := id h.2.1
  have hv3 : v < 3 := by omega
  have hns : numS (nI 0) (nI (W / 3 % 651) - nI 200) = true := by
    unfold numS
    simp only [nI_eqm]
    exact inn_sub (by omega) (by omega) (by rw [m200]; omega) (by rw [k450]; omega)
  have hnum : numF (M 0) (nI 0) (nI (W / 3 % 651) - nI 200) = upd (M 0) (3 + 0) (nI (W / 3 % 651) - nI 200) := by unfold numF; rw [if_pos hns]; rfl
  have hR : numR (M 0) (nI 0) (nI (W / 3 % 651) - nI 200) = M 0 (3 + 0) := by unfold numR; rw [if_pos hns]; rfl
  refine a_il_5_26 (pc' := 239) dL_acts_237 rfl ?_
  refine a_iconst (v := nI 3) (pc' := 240) dL_acts_239 (by decide) rfl ?_
  refine a_iremN (pc' := 241) (by omega) (by decide) (by decide) dL_acts_240 rfl ?_
  rw [hw]
  refine a_is_10_26 (pc' := 243) dL_acts_241 rfl ?_
  refine a_il_10_26 (pc' := 245) dL_acts_243 rfl ?_
  refine a_if_ne (pc' := 248) (tgt := 263) dL_acts_245 (by decide) rfl (fun c_245 => absurd (by decide) c_245) (fun c_245 => ?_)
  refine a_il_5_26 (pc' := 250) dL_acts_248 rfl ?_
  refine a_iconst (v := nI 3) (pc' := 251) dL_acts_250 (by decide) rfl ?_
  refine a_idivN (pc' := 252) (by omega) (by decide) (by decide) dL_acts_251 rfl ?_
  refine a_sipush (v := nI 651) (pc' := 255) dL_acts_252 (by decide) rfl ?_
  refine a_iremN (pc' := 256) (by omega) (by decide) (by decide) dL_acts_255 rfl ?_
  refine a_sipush (v := nI 200) (pc' := 259) dL_acts_256 (by decide) rfl ?_
  refine a_isub (pc' := 260) dL_acts_259 rfl ?_
  refine a_goto (pc' := 290) dL_acts_260 (by decide) ?_
  refine a_is_11_26 (pc' := 292) dL_acts_290 rfl ?_
  refine a_al_1_26 (pc' := 293) dL_acts_292 rfl ?_
  refine a_iconst (v := nI 3) (pc' := 294) dL_acts_293 (by decide) rfl ?_
  refine a_il_10_26 (pc' := 296) dL_acts_294 rfl ?_
  refine a_iaddN (pc' := 297) dL_acts_296 rfl ?_
  refine a_ialdN (pc' := 298) rfl (by omega) (by decide) dL_acts_297 rfl ?_
  rw [show M 50 (3 + 0) = M 0 (3 + 0) from hL.g (by decide)]
  refine a_is_12_26 (pc' := 300) dL_acts_298 rfl ?_
  refine a_al_1_26 (pc' := 301) dL_acts_300 rfl ?_
  refine a_iconst (v := nI 3) (pc' := 302) dL_acts_301 (by decide) rfl ?_
  refine a_il_10_26 (pc' := 304) dL_acts_302 rfl ?_
  refine a_iaddN (pc' := 305) dL_acts_304 rfl ?_
  refine a_il_11_26 (pc' := 307) dL_acts_305 rfl ?_
  refine a_iastN (pc' := 308) rfl (by omega) (by decide) dL_acts_307 rfl ?_
  rw [wr_eq, hL.1, upd_g _ _ (show 3 + 0 < 6 by decide), ← hnum, hL.at50 (fun i hi => by rw [hnum, upd_at, if_neg (by omega)])]
  refine a_al_0_26 (pc' := 309) dL_acts_308 rfl ?_
  refine a_il_10_26 (pc' := 311) dL_acts_309 rfl ?_
  refine a_il_11_26 (pc' := 313) dL_acts_311 rfl ?_
  refine k_VI (pc' := 316) (cx_setNumber (LM_ne M _ (by decide)) (LM_fr h.fr) hg.bok _ _) cw_L_51 mi_X6_setNumber se_X6_setNumber rfl rfl rfl rfl (by decide) (by decide) (Nat.le_of_ble_eq_true rfl) rfl dL_acts_313 rfl ?_
  refine a_il_12_26 (pc' := 318) dL_acts_316 rfl ?_
  refine a_icmp_ne (pc' := 321) (tgt := 325) dL_acts_318 (by decide) rfl (fun c_318 => absurd hR c_318) (fun c_318 => ?_)
  refine a_iconst (v := nI 1) (pc' := 322) dL_acts_321 (by decide) rfl ?_
  refine a_goto (pc' := 326) dL_acts_322 (by decide) ?_
  refine a_iret dL_acts_326 rfl rfl ?_
  exact ⟨rfl, h.ed (h.2.1.num _ _) (by rw [npF_eq (samP.num (M 0) _ _).2.1]; exact h.2.2.1)⟩
set_option maxRecDepth 20000 in
set_option maxHeartbeats 4000000 in
theorem ac_1_1 {G : Gl} {M : Mm} (h : INV M) {nv np W v zn q : Nat} (z : Int32) (h0 : M 0 0 = nI nv) (hn : nv ≤ 3) (h1 : M 0 1 = nI np) (hm : np ≤ 6) (hW : W < 60000) (hv : v < nv) (hz : zn < 3) (hq : (np = 0 ∧ q = 0) ∨ q < np) (hw : W % 3 = 1) : AW G cL_acts RL 26 6 140 (some .boolean) ANS 237 [some (.inr (6, 0, 0, 0)), some (.inr (9, 50, 6, 0)), some (.inr (9, 51, 57, 0)), some (.inr (9, 52, 60, 0)), some (.inl z), some (.inl (nI W)), some (.inl (nI v)), some (.inl (nI zn)), some (.inl (nI (4 + 19 * v + 5 * zn))), some (.inl (nI q)), none, none, none, none, none, none, none, none, none, none, none, none, none, none, none, none] [] M := by
  have hL := h.1
  obtain ⟨⟨t, ht, hg⟩, hqw⟩ := id h.2.1
  have hv3 : v < 3 := by omega
  have hns : numS (nI 1) (nI (5 + W / 3 % 96)) = true := by
    unfold numS
    simp only [nI_eqm]
    exact inn_ge (by omega) (by omega) (by decide)
  have hnum : numF (M 0) (nI 1) (nI (5 + W / 3 % 96)) = upd (M 0) (3 + 1) (nI (5 + W / 3 % 96)) := by unfold numF; rw [if_pos hns]; rfl
  have hR : numR (M 0) (nI 1) (nI (5 + W / 3 % 96)) = M 0 (3 + 1) := by unfold numR; rw [if_pos hns]; rfl
  refine a_il_5_26 (pc' := 239) dL_acts_237 rfl ?_
  refine a_iconst (v := nI 3) (pc' := 240) dL_acts_239 (by decide) rfl ?_
  refine a_iremN (pc' := 241) (by omega) (by decide) (by decide) dL_acts_240 rfl ?_
  rw [hw]
  refine a_is_10_26 (pc' := 243) dL_acts_241 rfl ?_
  refine a_il_10_26 (pc' := 245) dL_acts_243 rfl ?_
  refine a_if_ne (pc' := 248) (tgt := 263) dL_acts_245 (by decide) rfl (fun c_245 => ?_) (fun c_245 => absurd c_245 (by decide))
  refine a_il_10_26 (pc' := 265) dL_acts_263 rfl ?_
  refine a_iconst (v := nI 1) (pc' := 266) dL_acts_265 (by decide) rfl ?_
  refine a_icmp_ne (pc' := 269) (tgt := 281) dL_acts_266 (by decide) rfl (fun c_266 => absurd (by decide) c_266) (fun c_266 => ?_)
  refine a_iconst (v := nI 5) (pc' := 270) dL_acts_269 (by decide) rfl ?_
  refine a_il_5_26 (pc' := 272) dL_acts_270 rfl ?_
  refine a_iconst (v := nI 3) (pc' := 273) dL_acts_272 (by decide) rfl ?_
  refine a_idivN (pc' := 274) (by omega) (by decide) (by decide) dL_acts_273 rfl ?_
  refine a_bipush (v := nI 96) (pc' := 276) dL_acts_274 (by decide) rfl ?_
  refine a_iremN (pc' := 277) (by omega) (by decide) (by decide) dL_acts_276 rfl ?_
  refine a_iaddN (pc' := 278) dL_acts_277 rfl ?_
  refine a_goto (pc' := 290) dL_acts_278 (by decide) ?_
  refine a_is_11_26 (pc' := 292) dL_acts_290 rfl ?_
  refine a_al_1_26 (pc' := 293) dL_acts_292 rfl ?_
  refine a_iconst (v := nI 3) (pc' := 294) dL_acts_293 (by decide) rfl ?_
  refine a_il_10_26 (pc' := 296) dL_acts_294 rfl ?_
  refine a_iaddN (pc' := 297) dL_acts_296 rfl ?_
  refine a_ialdN (pc' := 298) rfl (by omega) (by decide) dL_acts_297 rfl ?_
  rw [show M 50 (3 + 1) = M 0 (3 + 1) from hL.g (by decide)]
  refine a_is_12_26 (pc' := 300) dL_acts_298 rfl ?_
  refine a_al_1_26 (pc' := 301) dL_acts_300 rfl ?_
  refine a_iconst (v := nI 3) (pc' := 302) dL_acts_301 (by decide) rfl ?_
  refine a_il_10_26 (pc' := 304) dL_acts_302 rfl ?_
  refine a_iaddN (pc' := 305) dL_acts_304 rfl ?_
  refine a_il_11_26 (pc' := 307) dL_acts_305 rfl ?_
  refine a_iastN (pc' := 308) rfl (by omega) (by decide) dL_acts_307 rfl ?_
  rw [wr_eq, hL.1, upd_g _ _ (show 3 + 1 < 6 by decide), ← hnum, hL.at50 (fun i hi => by rw [hnum, upd_at, if_neg (by omega)])]
  refine a_al_0_26 (pc' := 309) dL_acts_308 rfl ?_
  refine a_il_10_26 (pc' := 311) dL_acts_309 rfl ?_
  refine a_il_11_26 (pc' := 313) dL_acts_311 rfl ?_
  refine k_VI (pc' := 316) (cx_setNumber (LM_ne M _ (by decide)) (LM_fr h.fr) hg.bok _ _) cw_L_51 mi_X6_setNumber se_X6_setNumber rfl rfl rfl rfl (by decide) (by decide) (Nat.le_of_ble_eq_true rfl) rfl dL_acts_313 rfl ?_
  refine a_il_12_26 (pc' := 318) dL_acts_316 rfl ?_
  refine a_icmp_ne (pc' := 321) (tgt := 325) dL_acts_318 (by decide) rfl (fun c_318 => absurd hR c_318) (fun c_318 => ?_)
  refine a_iconst (v := nI 1) (pc' := 322) dL_acts_321 (by decide) rfl ?_
  refine a_goto (pc' := 326) dL_acts_322 (by decide) ?_
  refine a_iret dL_acts_326 rfl rfl ?_
  exact ⟨rfl, h.ed (h.2.1.num _ _) (by rw [npF_eq (samP.num (M 0) _ _).2.1]; exact h.2.2.1)⟩
set_option maxRecDepth 20000 in
set_option maxHeartbeats 4000000 in
theorem ac_1_2 {G : Gl} {M : Mm} (h : INV M) {nv np W v zn q : Nat} (z : Int32) (h0 : M 0 0 = nI nv) (hn : nv ≤ 3) (h1 : M 0 1 = nI np) (hm : np ≤ 6) (hW : W < 60000) (hv : v < nv) (hz : zn < 3) (hq : (np = 0 ∧ q = 0) ∨ q < np) (hw : W % 3 = 2) : AW G cL_acts RL 26 6 140 (some .boolean) ANS 237 [some (.inr (6, 0, 0, 0)), some (.inr (9, 50, 6, 0)), some (.inr (9, 51, 57, 0)), some (.inr (9, 52, 60, 0)), some (.inl z), some (.inl (nI W)), some (.inl (nI v)), some (.inl (nI zn)), some (.inl (nI (4 + 19 * v + 5 * zn))), some (.inl (nI q)), none, none, none, none, none, none, none, none, none, none, none, none, none, none, none, none] [] M := by
  have hL := h.1
  obtain ⟨⟨t, ht, hg⟩, hqw⟩ := id h.2.1
  have hv3 : v < 3 := by omega
  have hns : numS (nI 2) (nI (1 + W / 3 % 8)) = true := by
    unfold numS
    simp only [nI_eqm]
    exact inn_ge (by omega) (by omega) (by decide)
  have hnum : numF (M 0) (nI 2) (nI (1 + W / 3 % 8)) = upd (M 0) (3 + 2) (nI (1 + W / 3 % 8)) := by unfold numF; rw [if_pos hns]; rfl
  have hR : numR (M 0) (nI 2) (nI (1 + W / 3 % 8)) = M 0 (3 + 2) := by unfold numR; rw [if_pos hns]; rfl
  refine a_il_5_26 (pc' := 239) dL_acts_237 rfl ?_
  refine a_iconst (v := nI 3) (pc' := 240) dL_acts_239 (by decide) rfl ?_
  refine a_iremN (pc' := 241) (by omega) (by decide) (by decide) dL_acts_240 rfl ?_
  rw [hw]
  refine a_is_10_26 (pc' := 243) dL_acts_241 rfl ?_
  refine a_il_10_26 (pc' := 245) dL_acts_243 rfl ?_
  refine a_if_ne (pc' := 248) (tgt := 263) dL_acts_245 (by decide) rfl (fun c_245 => ?_) (fun c_245 => absurd c_245 (by decide))
  refine a_il_10_26 (pc' := 265) dL_acts_263 rfl ?_
  refine a_iconst (v := nI 1) (pc' := 266) dL_acts_265 (by decide) rfl ?_
  refine a_icmp_ne (pc' := 269) (tgt := 281) dL_acts_266 (by decide) rfl (fun c_266 => ?_) (fun c_266 => absurd c_266 (by decide))
  refine a_iconst (v := nI 1) (pc' := 282) dL_acts_281 (by decide) rfl ?_
  refine a_il_5_26 (pc' := 284) dL_acts_282 rfl ?_
  refine a_iconst (v := nI 3) (pc' := 285) dL_acts_284 (by decide) rfl ?_
  refine a_idivN (pc' := 286) (by omega) (by decide) (by decide) dL_acts_285 rfl ?_
  refine a_bipush (v := nI 8) (pc' := 288) dL_acts_286 (by decide) rfl ?_
  refine a_iremN (pc' := 289) (by omega) (by decide) (by decide) dL_acts_288 rfl ?_
  refine a_iaddN (pc' := 290) dL_acts_289 rfl ?_
  refine a_is_11_26 (pc' := 292) dL_acts_290 rfl ?_
  refine a_al_1_26 (pc' := 293) dL_acts_292 rfl ?_
  refine a_iconst (v := nI 3) (pc' := 294) dL_acts_293 (by decide) rfl ?_
  refine a_il_10_26 (pc' := 296) dL_acts_294 rfl ?_
  refine a_iaddN (pc' := 297) dL_acts_296 rfl ?_
  refine a_ialdN (pc' := 298) rfl (by omega) (by decide) dL_acts_297 rfl ?_
  rw [show M 50 (3 + 2) = M 0 (3 + 2) from hL.g (by decide)]
  refine a_is_12_26 (pc' := 300) dL_acts_298 rfl ?_
  refine a_al_1_26 (pc' := 301) dL_acts_300 rfl ?_
  refine a_iconst (v := nI 3) (pc' := 302) dL_acts_301 (by decide) rfl ?_
  refine a_il_10_26 (pc' := 304) dL_acts_302 rfl ?_
  refine a_iaddN (pc' := 305) dL_acts_304 rfl ?_
  refine a_il_11_26 (pc' := 307) dL_acts_305 rfl ?_
  refine a_iastN (pc' := 308) rfl (by omega) (by decide) dL_acts_307 rfl ?_
  rw [wr_eq, hL.1, upd_g _ _ (show 3 + 2 < 6 by decide), ← hnum, hL.at50 (fun i hi => by rw [hnum, upd_at, if_neg (by omega)])]
  refine a_al_0_26 (pc' := 309) dL_acts_308 rfl ?_
  refine a_il_10_26 (pc' := 311) dL_acts_309 rfl ?_
  refine a_il_11_26 (pc' := 313) dL_acts_311 rfl ?_
  refine k_VI (pc' := 316) (cx_setNumber (LM_ne M _ (by decide)) (LM_fr h.fr) hg.bok _ _) cw_L_51 mi_X6_setNumber se_X6_setNumber rfl rfl rfl rfl (by decide) (by decide) (Nat.le_of_ble_eq_true rfl) rfl dL_acts_313 rfl ?_
  refine a_il_12_26 (pc' := 318) dL_acts_316 rfl ?_
  refine a_icmp_ne (pc' := 321) (tgt := 325) dL_acts_318 (by decide) rfl (fun c_318 => absurd hR c_318) (fun c_318 => ?_)
  refine a_iconst (v := nI 1) (pc' := 322) dL_acts_321 (by decide) rfl ?_
  refine a_goto (pc' := 326) dL_acts_322 (by decide) ?_
  refine a_iret dL_acts_326 rfl rfl ?_
  exact ⟨rfl, h.ed (h.2.1.num _ _) (by rw [npF_eq (samP.num (M 0) _ _).2.1]; exact h.2.2.1)⟩
set_option maxRecDepth 20000 in
set_option maxHeartbeats 4000000 in
theorem ac_3 {G : Gl} {M : Mm} (h : INV M) {nv np W v zn q : Nat} (z : Int32) (h0 : M 0 0 = nI nv) (hn : nv ≤ 3) (h1 : M 0 1 = nI np) (hm : np ≤ 6) (hW : W < 60000) (hv : v < nv) (hz : zn < 3) (hq : (np = 0 ∧ q = 0) ∨ q < np)  : AW G cL_acts RL 26 6 140 (some .boolean) ANS 327 [some (.inr (6, 0, 0, 0)), some (.inr (9, 50, 6, 0)), some (.inr (9, 51, 57, 0)), some (.inr (9, 52, 60, 0)), some (.inl z), some (.inl (nI W)), some (.inl (nI v)), some (.inl (nI zn)), some (.inl (nI (4 + 19 * v + 5 * zn))), some (.inl (nI q)), none, none, none, none, none, none, none, none, none, none, none, none, none, none, none, none] [] M := by
  have hL := h.1
  obtain ⟨⟨t, ht, hg⟩, hqw⟩ := id h.2.1
  have hv3 : v < 3 := by omega
  have hB : (hvS (M 0) (nI v) && coldS (nI (W / 3 % 401) - nI 300) (nI (W / 7 % 31))) = true := by rw [hv_t h0 hn hv, cold_v W]; rfl
  have hcl : vN (nI v) = v := vN_nI (by omega)
  have hF : vanF (M 0) (nI v) (nI (W / 3 % 401) - nI 300) (nI (W / 7 % 31)) = upd (upd (M 0) (6 + 19 * v) (nI (W / 3 % 401) - nI 300)) (6 + 19 * v + 1) (nI (W / 7 % 31)) := by unfold vanF; rw [if_pos hB, hcl]
  have hR : vanR (M 0) (nI v) (nI (W / 3 % 401) - nI 300) (nI (W / 7 % 31)) = M 0 (6 + 19 * v) := by unfold vanR; rw [if_pos hB, hcl]
  have hch : wr (wr M 51 (19 * v) (nI (W / 3 % 401) - nI 300)) 51 (19 * v + 1) (nI (W / 7 % 31)) = LM M (vanF (M 0) (nI v) (nI (W / 3 % 401) - nI 300) (nI (W / 7 % 31))) := by
    rw [wr_eq, wr_eq, setR_same, setR_setR, hL.2.1, upd_s _ _ (by omega) (show 6 + 19 * v = 6 + 19 * v from rfl), upd_s _ _ (by omega) (show 6 + 19 * v + 1 = 6 + (19 * v + 1) from rfl), ← hF]
    exact hL.at51 (fun i hi => by rw [hF, upd_at, if_neg (by omega), upd_at, if_neg (by omega)]) (fun i hi => by rw [hF, upd_at, if_neg (by omega), upd_at, if_neg (by omega)])
  have hx0 : LM M (vanF (M 0) (nI v) (nI (W / 3 % 401) - nI 300) (nI (W / 7 % 31))) 51 (19 * v) = (nI (W / 3 % 401) - nI 300) := by rw [LM_LA.v0 hv3, hF, upd_at, if_neg (by omega), upd_at, if_pos rfl]
  have hx1 : LM M (vanF (M 0) (nI v) (nI (W / 3 % 401) - nI 300) (nI (W / 7 % 31))) 51 (19 * v + 1) = (nI (W / 7 % 31)) := by rw [LM_LA.v hv3 1 (by decide), hF, upd_at, if_pos rfl]
  refine a_al_2_26 (pc' := 328) dL_acts_327 rfl ?_
  refine a_bipush (v := nI 19) (pc' := 330) dL_acts_328 (by decide) rfl ?_
  refine a_il_6_26 (pc' := 332) dL_acts_330 rfl ?_
  refine a_imulN (pc' := 333) dL_acts_332 rfl ?_
  refine a_ialdN (pc' := 334) rfl (by omega) (by decide) dL_acts_333 rfl ?_
  rw [hL.v0 hv3]
  refine a_is_13_26 (pc' := 336) dL_acts_334 rfl ?_
  refine a_al_2_26 (pc' := 337) dL_acts_336 rfl ?_
  refine a_bipush (v := nI 19) (pc' := 339) dL_acts_337 (by decide) rfl ?_
  refine a_il_6_26 (pc' := 341) dL_acts_339 rfl ?_
  refine a_imulN (pc' := 342) dL_acts_341 rfl ?_
  refine a_il_5_26 (pc' := 344) dL_acts_342 rfl ?_
  refine a_iconst (v := nI 3) (pc' := 345) dL_acts_344 (by decide) rfl ?_
  refine a_idivN (pc' := 346) (by omega) (by decide) (by decide) dL_acts_345 rfl ?_
  refine a_sipush (v := nI 401) (pc' := 349) dL_acts_346 (by decide) rfl ?_
  refine a_iremN (pc' := 350) (by omega) (by decide) (by decide) dL_acts_349 rfl ?_
  refine a_sipush (v := nI 300) (pc' := 353) dL_acts_350 (by decide) rfl ?_
  refine a_isub (pc' := 354) dL_acts_353 rfl ?_
  refine a_iastN (pc' := 355) rfl (by omega) (by decide) dL_acts_354 rfl ?_
  refine a_al_2_26 (pc' := 356) dL_acts_355 rfl ?_
  refine a_bipush (v := nI 19) (pc' := 358) dL_acts_356 (by decide) rfl ?_
  refine a_il_6_26 (pc' := 360) dL_acts_358 rfl ?_
  refine a_imulN (pc' := 361) dL_acts_360 rfl ?_
  refine a_iconst (v := nI 1) (pc' := 362) dL_acts_361 (by decide) rfl ?_
  refine a_iaddN (pc' := 363) dL_acts_362 rfl ?_
  refine a_il_5_26 (pc' := 365) dL_acts_363 rfl ?_
  refine a_bipush (v := nI 7) (pc' := 367) dL_acts_365 (by decide) rfl ?_
  refine a_idivN (pc' := 368) (by omega) (by decide) (by decide) dL_acts_367 rfl ?_
  refine a_bipush (v := nI 31) (pc' := 370) dL_acts_368 (by decide) rfl ?_
  refine a_iremN (pc' := 371) (by omega) (by decide) (by decide) dL_acts_370 rfl ?_
  refine a_iastN (pc' := 372) rfl (by omega) (by decide) dL_acts_371 rfl ?_
  rw [hch]
  refine a_al_0_26 (pc' := 373) dL_acts_372 rfl ?_
  refine a_il_6_26 (pc' := 375) dL_acts_373 rfl ?_
  refine a_al_2_26 (pc' := 376) dL_acts_375 rfl ?_
  refine a_bipush (v := nI 19) (pc' := 378) dL_acts_376 (by decide) rfl ?_
  refine a_il_6_26 (pc' := 380) dL_acts_378 rfl ?_
  refine a_imulN (pc' := 381) dL_acts_380 rfl ?_
  refine a_ialdN (pc' := 382) rfl (by omega) (by decide) dL_acts_381 rfl ?_
  rw [hx0]
  refine a_al_2_26 (pc' := 383) dL_acts_382 rfl ?_
  refine a_bipush (v := nI 19) (pc' := 385) dL_acts_383 (by decide) rfl ?_
  refine a_il_6_26 (pc' := 387) dL_acts_385 rfl ?_
  refine a_imulN (pc' := 388) dL_acts_387 rfl ?_
  refine a_iconst (v := nI 1) (pc' := 389) dL_acts_388 (by decide) rfl ?_
  refine a_iaddN (pc' := 390) dL_acts_389 rfl ?_
  refine a_ialdN (pc' := 391) rfl (by omega) (by decide) dL_acts_390 rfl ?_
  rw [hx1]
  refine k_VI (pc' := 394) (cx_setVan (LM_ne M _ (by decide)) (LM_fr h.fr) hg.bok hn h0 _ _ _) cw_L_54 mi_X6_setVan se_X6_setVan rfl rfl rfl rfl (by decide) (by decide) (Nat.le_of_ble_eq_true rfl) rfl dL_acts_391 rfl ?_
  refine a_il_13_26 (pc' := 396) dL_acts_394 rfl ?_
  refine a_icmp_ne (pc' := 399) (tgt := 403) dL_acts_396 (by decide) rfl (fun c_396 => absurd hR c_396) (fun c_396 => ?_)
  refine a_iconst (v := nI 1) (pc' := 400) dL_acts_399 (by decide) rfl ?_
  refine a_goto (pc' := 404) dL_acts_400 (by decide) ?_
  refine a_iret dL_acts_404 rfl rfl ?_
  exact ⟨rfl, h.ed (h.2.1.setv _ _ _) (by rw [npF_eq (samP.setv hg _ _ _).2.1]; exact h.2.2.1)⟩
set_option maxRecDepth 20000 in
set_option maxHeartbeats 4000000 in
theorem ac_4_0 {G : Gl} {M : Mm} (h : INV M) {nv np W v zn q : Nat} (z : Int32) (h0 : M 0 0 = nI nv) (hn : nv ≤ 3) (h1 : M 0 1 = nI np) (hm : np ≤ 6) (hW : W < 60000) (hv : v < nv) (hz : zn < 3) (hq : (np = 0 ∧ q = 0) ∨ q < np) (hw : W / 9 % 3 = 0) : AW G cL_acts RL 26 6 140 (some .boolean) ANS 405 [some (.inr (6, 0, 0, 0)), some (.inr (9, 50, 6, 0)), some (.inr (9, 51, 57, 0)), some (.inr (9, 52, 60, 0)), some (.inl z), some (.inl (nI W)), some (.inl (nI v)), some (.inl (nI zn)), some (.inl (nI (4 + 19 * v + 5 * zn))), some (.inl (nI q)), none, none, none, none, none, none, none, none, none, none, none, none, none, none, none, none] [] M := by
  have hL := h.1
  obtain ⟨⟨t, ht, hg⟩, hqw⟩ := id h.2.1
  have hv3 : v < 3 := by omega
  have hB : (hzS (M 0) (nI v) (nI zn) && modeS (nI 0) (nI 0)) = true := by
    rw [hz_t h0 hn hv hz, Bool.true_and]
    unfold modeS
    simp only [nI_eqm]
    exact (by decide)
  have hcl : vN (nI v) = v := vN_nI (by omega)
  have hcz : vN (nI zn) = zn := vN_nI (by omega)
  have hF : prbF (M 0) (nI v) (nI zn) (nI 0) (nI 0) = upd (upd (M 0) (10 + 19 * v + 5 * zn + 1) (nI 0)) (10 + 19 * v + 5 * zn + 2) (nI 0) := by unfold prbF; rw [if_pos hB, hcl, hcz]
  have hR : prbR (M 0) (nI v) (nI zn) (nI 0) (nI 0) = M 0 (10 + 19 * v + 5 * zn + 1) := by unfold prbR; rw [if_pos hB, hcl, hcz]
  have hch : wr (wr M 51 (4 + 19 * v + 5 * zn + 1) (nI 0)) 51 (4 + 19 * v + 5 * zn + 2) (nI 0) = LM M (prbF (M 0) (nI v) (nI zn) (nI 0) (nI 0)) := by
    rw [wr_eq, wr_eq, setR_same, setR_setR, hL.2.1, upd_s _ _ (by omega) (show 10 + 19 * v + 5 * zn + 1 = 6 + (4 + 19 * v + 5 * zn + 1) by omega), upd_s _ _ (by omega) (show 10 + 19 * v + 5 * zn + 2 = 6 + (4 + 19 * v + 5 * zn + 2) by omega), ← hF]
    exact hL.at51 (fun i hi => by rw [hF, upd_at, if_neg (by omega), upd_at, if_neg (by omega)]) (fun i hi => by rw [hF, upd_at, if_neg (by omega), upd_at, if_neg (by omega)])
  refine a_il_5_26 (pc' := 407) dL_acts_405 rfl ?_
  refine a_bipush (v := nI 9) (pc' := 409) dL_acts_407 (by decide) rfl ?_
  refine a_idivN (pc' := 410) (by omega) (by decide) (by decide) dL_acts_409 rfl ?_
  refine a_iconst (v := nI 3) (pc' := 411) dL_acts_410 (by decide) rfl ?_
  refine a_iremN (pc' := 412) (by omega) (by decide) (by decide) dL_acts_411 rfl ?_
  rw [hw]
  refine a_is_14_26 (pc' := 414) dL_acts_412 rfl ?_
  refine a_il_14_26 (pc' := 416) dL_acts_414 rfl ?_
  refine a_if_ne (pc' := 419) (tgt := 423) dL_acts_416 (by decide) rfl (fun c_416 => absurd (by decide) c_416) (fun c_416 => ?_)
  refine a_iconst (v := nI 0) (pc' := 420) dL_acts_419 (by decide) rfl ?_
  refine a_goto (pc' := 458) dL_acts_420 (by decide) ?_
  refine a_is_15_26 (pc' := 460) dL_acts_458 rfl ?_
  refine a_al_2_26 (pc' := 461) dL_acts_460 rfl ?_
  refine a_il_8_26 (pc' := 463) dL_acts_461 rfl ?_
  refine a_iconst (v := nI 1) (pc' := 464) dL_acts_463 (by decide) rfl ?_
  refine a_iaddN (pc' := 465) dL_acts_464 rfl ?_
  refine a_ialdN (pc' := 466) rfl (by omega) (by decide) dL_acts_465 rfl ?_
  rw [hL.z hv3 hz 1 (by decide)]
  refine a_is_16_26 (pc' := 468) dL_acts_466 rfl ?_
  refine a_al_2_26 (pc' := 469) dL_acts_468 rfl ?_
  refine a_il_8_26 (pc' := 471) dL_acts_469 rfl ?_
  refine a_iconst (v := nI 1) (pc' := 472) dL_acts_471 (by decide) rfl ?_
  refine a_iaddN (pc' := 473) dL_acts_472 rfl ?_
  refine a_il_14_26 (pc' := 475) dL_acts_473 rfl ?_
  refine a_iastN (pc' := 476) rfl (by omega) (by decide) dL_acts_475 rfl ?_
  refine a_al_2_26 (pc' := 477) dL_acts_476 rfl ?_
  refine a_il_8_26 (pc' := 479) dL_acts_477 rfl ?_
  refine a_iconst (v := nI 2) (pc' := 480) dL_acts_479 (by decide) rfl ?_
  refine a_iaddN (pc' := 481) dL_acts_480 rfl ?_
  refine a_il_15_26 (pc' := 483) dL_acts_481 rfl ?_
  refine a_iastN (pc' := 484) rfl (by omega) (by decide) dL_acts_483 rfl ?_
  rw [hch]
  refine a_al_0_26 (pc' := 485) dL_acts_484 rfl ?_
  refine a_il_6_26 (pc' := 487) dL_acts_485 rfl ?_
  refine a_il_7_26 (pc' := 489) dL_acts_487 rfl ?_
  refine a_il_14_26 (pc' := 491) dL_acts_489 rfl ?_
  refine a_il_15_26 (pc' := 493) dL_acts_491 rfl ?_
  refine k_VI (pc' := 496) (cx_setProbe (LM_ne M _ (by decide)) (LM_fr h.fr) hg.bok hn h0 _ _ _ _) cw_L_58 mi_X6_setProbe se_X6_setProbe rfl rfl rfl rfl (by decide) (by decide) (Nat.le_of_ble_eq_true rfl) rfl dL_acts_493 rfl ?_
  refine a_il_16_26 (pc' := 498) dL_acts_496 rfl ?_
  refine a_icmp_ne (pc' := 501) (tgt := 505) dL_acts_498 (by decide) rfl (fun c_498 => absurd hR c_498) (fun c_498 => ?_)
  refine a_iconst (v := nI 1) (pc' := 502) dL_acts_501 (by decide) rfl ?_
  refine a_goto (pc' := 506) dL_acts_502 (by decide) ?_
  refine a_iret dL_acts_506 rfl rfl ?_
  exact ⟨rfl, h.ed (h.2.1.prb _ _ _ _) (by rw [npF_eq (samP.prb hg _ _ _ _).2.1]; exact h.2.2.1)⟩
set_option maxRecDepth 20000 in
set_option maxHeartbeats 4000000 in
theorem ac_4_1 {G : Gl} {M : Mm} (h : INV M) {nv np W v zn q : Nat} (z : Int32) (h0 : M 0 0 = nI nv) (hn : nv ≤ 3) (h1 : M 0 1 = nI np) (hm : np ≤ 6) (hW : W < 60000) (hv : v < nv) (hz : zn < 3) (hq : (np = 0 ∧ q = 0) ∨ q < np) (hw : W / 9 % 3 = 1) : AW G cL_acts RL 26 6 140 (some .boolean) ANS 405 [some (.inr (6, 0, 0, 0)), some (.inr (9, 50, 6, 0)), some (.inr (9, 51, 57, 0)), some (.inr (9, 52, 60, 0)), some (.inl z), some (.inl (nI W)), some (.inl (nI v)), some (.inl (nI zn)), some (.inl (nI (4 + 19 * v + 5 * zn))), some (.inl (nI q)), none, none, none, none, none, none, none, none, none, none, none, none, none, none, none, none] [] M := by
  have hL := h.1
  obtain ⟨⟨t, ht, hg⟩, hqw⟩ := id h.2.1
  have hv3 : v < 3 := by omega
  have hB : (hzS (M 0) (nI v) (nI zn) && modeS (nI 1) (nI (W / 27 % 401) - nI 200)) = true := by
    rw [hz_t h0 hn hv hz, Bool.true_and]
    unfold modeS
    simp only [nI_eqm]
    exact inn_sub (by omega) (by omega) (by rw [m200]; omega) (by rw [k200]; omega)
  have hcl : vN (nI v) = v := vN_nI (by omega)
  have hcz : vN (nI zn) = zn := vN_nI (by omega)
  have hF : prbF (M 0) (nI v) (nI zn) (nI 1) (nI (W / 27 % 401) - nI 200) = upd (upd (M 0) (10 + 19 * v + 5 * zn + 1) (nI 1)) (10 + 19 * v + 5 * zn + 2) (nI (W / 27 % 401) - nI 200) := by unfold prbF; rw [if_pos hB, hcl, hcz]
  have hR : prbR (M 0) (nI v) (nI zn) (nI 1) (nI (W / 27 % 401) - nI 200) = M 0 (10 + 19 * v + 5 * zn + 1) := by unfold prbR; rw [if_pos hB, hcl, hcz]
  have hch : wr (wr M 51 (4 + 19 * v + 5 * zn + 1) (nI 1)) 51 (4 + 19 * v + 5 * zn + 2) (nI (W / 27 % 401) - nI 200) = LM M (prbF (M 0) (nI v) (nI zn) (nI 1) (nI (W / 27 % 401) - nI 200)) := by
    rw [wr_eq, wr_eq, setR_same, setR_setR, hL.2.1, upd_s _ _ (by omega) (show 10 + 19 * v + 5 * zn + 1 = 6 + (4 + 19 * v + 5 * zn + 1) by omega), upd_s _ _ (by omega) (show 10 + 19 * v + 5 * zn + 2 = 6 + (4 + 19 * v + 5 * zn + 2) by omega), ← hF]
    exact hL.at51 (fun i hi => by rw [hF, upd_at, if_neg (by omega), upd_at, if_neg (by omega)]) (fun i hi => by rw [hF, upd_at, if_neg (by omega), upd_at, if_neg (by omega)])
  refine a_il_5_26 (pc' := 407) dL_acts_405 rfl ?_
  refine a_bipush (v := nI 9) (pc' := 409) dL_acts_407 (by decide) rfl ?_
  refine a_idivN (pc' := 410) (by omega) (by decide) (by decide) dL_acts_409 rfl ?_
  refine a_iconst (v := nI 3) (pc' := 411) dL_acts_410 (by decide) rfl ?_
  refine a_iremN (pc' := 412) (by omega) (by decide) (by decide) dL_acts_411 rfl ?_
  rw [hw]
  refine a_is_14_26 (pc' := 414) dL_acts_412 rfl ?_
  refine a_il_14_26 (pc' := 416) dL_acts_414 rfl ?_
  refine a_if_ne (pc' := 419) (tgt := 423) dL_acts_416 (by decide) rfl (fun c_416 => ?_) (fun c_416 => absurd c_416 (by decide))
  refine a_il_14_26 (pc' := 425) dL_acts_423 rfl ?_
  refine a_iconst (v := nI 1) (pc' := 426) dL_acts_425 (by decide) rfl ?_
  refine a_icmp_ne (pc' := 429) (tgt := 445) dL_acts_426 (by decide) rfl (fun c_426 => absurd (by decide) c_426) (fun c_426 => ?_)
  refine a_il_5_26 (pc' := 431) dL_acts_429 rfl ?_
  refine a_bipush (v := nI 27) (pc' := 433) dL_acts_431 (by decide) rfl ?_
  refine a_idivN (pc' := 434) (by omega) (by decide) (by decide) dL_acts_433 rfl ?_
  refine a_sipush (v := nI 401) (pc' := 437) dL_acts_434 (by decide) rfl ?_
  refine a_iremN (pc' := 438) (by omega) (by decide) (by decide) dL_acts_437 rfl ?_
  refine a_sipush (v := nI 200) (pc' := 441) dL_acts_438 (by decide) rfl ?_
  refine a_isub (pc' := 442) dL_acts_441 rfl ?_
  refine a_goto (pc' := 458) dL_acts_442 (by decide) ?_
  refine a_is_15_26 (pc' := 460) dL_acts_458 rfl ?_
  refine a_al_2_26 (pc' := 461) dL_acts_460 rfl ?_
  refine a_il_8_26 (pc' := 463) dL_acts_461 rfl ?_
  refine a_iconst (v := nI 1) (pc' := 464) dL_acts_463 (by decide) rfl ?_
  refine a_iaddN (pc' := 465) dL_acts_464 rfl ?_
  refine a_ialdN (pc' := 466) rfl (by omega) (by decide) dL_acts_465 rfl ?_
  rw [hL.z hv3 hz 1 (by decide)]
  refine a_is_16_26 (pc' := 468) dL_acts_466 rfl ?_
  refine a_al_2_26 (pc' := 469) dL_acts_468 rfl ?_
  refine a_il_8_26 (pc' := 471) dL_acts_469 rfl ?_
  refine a_iconst (v := nI 1) (pc' := 472) dL_acts_471 (by decide) rfl ?_
  refine a_iaddN (pc' := 473) dL_acts_472 rfl ?_
  refine a_il_14_26 (pc' := 475) dL_acts_473 rfl ?_
  refine a_iastN (pc' := 476) rfl (by omega) (by decide) dL_acts_475 rfl ?_
  refine a_al_2_26 (pc' := 477) dL_acts_476 rfl ?_
  refine a_il_8_26 (pc' := 479) dL_acts_477 rfl ?_
  refine a_iconst (v := nI 2) (pc' := 480) dL_acts_479 (by decide) rfl ?_
  refine a_iaddN (pc' := 481) dL_acts_480 rfl ?_
  refine a_il_15_26 (pc' := 483) dL_acts_481 rfl ?_
  refine a_iastN (pc' := 484) rfl (by omega) (by decide) dL_acts_483 rfl ?_
  rw [hch]
  refine a_al_0_26 (pc' := 485) dL_acts_484 rfl ?_
  refine a_il_6_26 (pc' := 487) dL_acts_485 rfl ?_
  refine a_il_7_26 (pc' := 489) dL_acts_487 rfl ?_
  refine a_il_14_26 (pc' := 491) dL_acts_489 rfl ?_
  refine a_il_15_26 (pc' := 493) dL_acts_491 rfl ?_
  refine k_VI (pc' := 496) (cx_setProbe (LM_ne M _ (by decide)) (LM_fr h.fr) hg.bok hn h0 _ _ _ _) cw_L_58 mi_X6_setProbe se_X6_setProbe rfl rfl rfl rfl (by decide) (by decide) (Nat.le_of_ble_eq_true rfl) rfl dL_acts_493 rfl ?_
  refine a_il_16_26 (pc' := 498) dL_acts_496 rfl ?_
  refine a_icmp_ne (pc' := 501) (tgt := 505) dL_acts_498 (by decide) rfl (fun c_498 => absurd hR c_498) (fun c_498 => ?_)
  refine a_iconst (v := nI 1) (pc' := 502) dL_acts_501 (by decide) rfl ?_
  refine a_goto (pc' := 506) dL_acts_502 (by decide) ?_
  refine a_iret dL_acts_506 rfl rfl ?_
  exact ⟨rfl, h.ed (h.2.1.prb _ _ _ _) (by rw [npF_eq (samP.prb hg _ _ _ _).2.1]; exact h.2.2.1)⟩
set_option maxRecDepth 20000 in
set_option maxHeartbeats 4000000 in
theorem ac_4_2 {G : Gl} {M : Mm} (h : INV M) {nv np W v zn q : Nat} (z : Int32) (h0 : M 0 0 = nI nv) (hn : nv ≤ 3) (h1 : M 0 1 = nI np) (hm : np ≤ 6) (hW : W < 60000) (hv : v < nv) (hz : zn < 3) (hq : (np = 0 ∧ q = 0) ∨ q < np) (hw : W / 9 % 3 = 2) : AW G cL_acts RL 26 6 140 (some .boolean) ANS 405 [some (.inr (6, 0, 0, 0)), some (.inr (9, 50, 6, 0)), some (.inr (9, 51, 57, 0)), some (.inr (9, 52, 60, 0)), some (.inl z), some (.inl (nI W)), some (.inl (nI v)), some (.inl (nI zn)), some (.inl (nI (4 + 19 * v + 5 * zn))), some (.inl (nI q)), none, none, none, none, none, none, none, none, none, none, none, none, none, none, none, none] [] M := by
  have hL := h.1
  obtain ⟨⟨t, ht, hg⟩, hqw⟩ := id h.2.1
  have hv3 : v < 3 := by omega
  have hB : (hzS (M 0) (nI v) (nI zn) && modeS (nI 2) (nI (W / 27 % 751) - nI 300)) = true := by
    rw [hz_t h0 hn hv hz, Bool.true_and]
    unfold modeS
    simp only [nI_eqm]
    exact inn_sub (by omega) (by omega) (by rw [m300]; omega) (by rw [k450]; omega)
  have hcl : vN (nI v) = v := vN_nI (by omega)
  have hcz : vN (nI zn) = zn := vN_nI (by omega)
  have hF : prbF (M 0) (nI v) (nI zn) (nI 2) (nI (W / 27 % 751) - nI 300) = upd (upd (M 0) (10 + 19 * v + 5 * zn + 1) (nI 2)) (10 + 19 * v + 5 * zn + 2) (nI (W / 27 % 751) - nI 300) := by unfold prbF; rw [if_pos hB, hcl, hcz]
  have hR : prbR (M 0) (nI v) (nI zn) (nI 2) (nI (W / 27 % 751) - nI 300) = M 0 (10 + 19 * v + 5 * zn + 1) := by unfold prbR; rw [if_pos hB, hcl, hcz]
  have hch : wr (wr M 51 (4 + 19 * v + 5 * zn + 1) (nI 2)) 51 (4 + 19 * v + 5 * zn + 2) (nI (W / 27 % 751) - nI 300) = LM M (prbF (M 0) (nI v) (nI zn) (nI 2) (nI (W / 27 % 751) - nI 300)) := by
    rw [wr_eq, wr_eq, setR_same, setR_setR, hL.2.1, upd_s _ _ (by omega) (show 10 + 19 * v + 5 * zn + 1 = 6 + (4 + 19 * v + 5 * zn + 1) by omega), upd_s _ _ (by omega) (show 10 + 19 * v + 5 * zn + 2 = 6 + (4 + 19 * v + 5 * zn + 2) by omega), ← hF]
    exact hL.at51 (fun i hi => by rw [hF, upd_at, if_neg (by omega), upd_at, if_neg (by omega)]) (fun i hi => by rw [hF, upd_at, if_neg (by omega), upd_at, if_neg (by omega)])
  refine a_il_5_26 (pc' := 407) dL_acts_405 rfl ?_
  refine a_bipush (v := nI 9) (pc' := 409) dL_acts_407 (by decide) rfl ?_
  refine a_idivN (pc' := 410) (by omega) (by decide) (by decide) dL_acts_409 rfl ?_
  refine a_iconst (v := nI 3) (pc' := 411) dL_acts_410 (by decide) rfl ?_
  refine a_iremN (pc' := 412) (by omega) (by decide) (by decide) dL_acts_411 rfl ?_
  rw [hw]
  refine a_is_14_26 (pc' := 414) dL_acts_412 rfl ?_
  refine a_il_14_26 (pc' := 416) dL_acts_414 rfl ?_
  refine a_if_ne (pc' := 419) (tgt := 423) dL_acts_416 (by decide) rfl (fun c_416 => ?_) (fun c_416 => absurd c_416 (by decide))
  refine a_il_14_26 (pc' := 425) dL_acts_423 rfl ?_
  refine a_iconst (v := nI 1) (pc' := 426) dL_acts_425 (by decide) rfl ?_
  refine a_icmp_ne (pc' := 429) (tgt := 445) dL_acts_426 (by decide) rfl (fun c_426 => ?_) (fun c_426 => absurd c_426 (by decide))
  refine a_il_5_26 (pc' := 447) dL_acts_445 rfl ?_
  refine a_bipush (v := nI 27) (pc' := 449) dL_acts_447 (by decide) rfl ?_
  refine a_idivN (pc' := 450) (by omega) (by decide) (by decide) dL_acts_449 rfl ?_
  refine a_sipush (v := nI 751) (pc' := 453) dL_acts_450 (by decide) rfl ?_
  refine a_iremN (pc' := 454) (by omega) (by decide) (by decide) dL_acts_453 rfl ?_
  refine a_sipush (v := nI 300) (pc' := 457) dL_acts_454 (by decide) rfl ?_
  refine a_isub (pc' := 458) dL_acts_457 rfl ?_
  refine a_is_15_26 (pc' := 460) dL_acts_458 rfl ?_
  refine a_al_2_26 (pc' := 461) dL_acts_460 rfl ?_
  refine a_il_8_26 (pc' := 463) dL_acts_461 rfl ?_
  refine a_iconst (v := nI 1) (pc' := 464) dL_acts_463 (by decide) rfl ?_
  refine a_iaddN (pc' := 465) dL_acts_464 rfl ?_
  refine a_ialdN (pc' := 466) rfl (by omega) (by decide) dL_acts_465 rfl ?_
  rw [hL.z hv3 hz 1 (by decide)]
  refine a_is_16_26 (pc' := 468) dL_acts_466 rfl ?_
  refine a_al_2_26 (pc' := 469) dL_acts_468 rfl ?_
  refine a_il_8_26 (pc' := 471) dL_acts_469 rfl ?_
  refine a_iconst (v := nI 1) (pc' := 472) dL_acts_471 (by decide) rfl ?_
  refine a_iaddN (pc' := 473) dL_acts_472 rfl ?_
  refine a_il_14_26 (pc' := 475) dL_acts_473 rfl ?_
  refine a_iastN (pc' := 476) rfl (by omega) (by decide) dL_acts_475 rfl ?_
  refine a_al_2_26 (pc' := 477) dL_acts_476 rfl ?_
  refine a_il_8_26 (pc' := 479) dL_acts_477 rfl ?_
  refine a_iconst (v := nI 2) (pc' := 480) dL_acts_479 (by decide) rfl ?_
  refine a_iaddN (pc' := 481) dL_acts_480 rfl ?_
  refine a_il_15_26 (pc' := 483) dL_acts_481 rfl ?_
  refine a_iastN (pc' := 484) rfl (by omega) (by decide) dL_acts_483 rfl ?_
  rw [hch]
  refine a_al_0_26 (pc' := 485) dL_acts_484 rfl ?_
  refine a_il_6_26 (pc' := 487) dL_acts_485 rfl ?_
  refine a_il_7_26 (pc' := 489) dL_acts_487 rfl ?_
  refine a_il_14_26 (pc' := 491) dL_acts_489 rfl ?_
  refine a_il_15_26 (pc' := 493) dL_acts_491 rfl ?_
  refine k_VI (pc' := 496) (cx_setProbe (LM_ne M _ (by decide)) (LM_fr h.fr) hg.bok hn h0 _ _ _ _) cw_L_58 mi_X6_setProbe se_X6_setProbe rfl rfl rfl rfl (by decide) (by decide) (Nat.le_of_ble_eq_true rfl) rfl dL_acts_493 rfl ?_
  refine a_il_16_26 (pc' := 498) dL_acts_496 rfl ?_
  refine a_icmp_ne (pc' := 501) (tgt := 505) dL_acts_498 (by decide) rfl (fun c_498 => absurd hR c_498) (fun c_498 => ?_)
  refine a_iconst (v := nI 1) (pc' := 502) dL_acts_501 (by decide) rfl ?_
  refine a_goto (pc' := 506) dL_acts_502 (by decide) ?_
  refine a_iret dL_acts_506 rfl rfl ?_
  exact ⟨rfl, h.ed (h.2.1.prb _ _ _ _) (by rw [npF_eq (samP.prb hg _ _ _ _).2.1]; exact h.2.2.1)⟩
set_option maxRecDepth 20000 in
set_option maxHeartbeats 4000000 in
theorem ac_7 {G : Gl} {M : Mm} (h : INV M) {nv np W v zn q : Nat} (z : Int32) (h0 : M 0 0 = nI nv) (hn : nv ≤ 3) (h1 : M 0 1 = nI np) (hm : np ≤ 6) (hW : W < 60000) (hv : v < nv) (hz : zn < 3) (hq : (np = 0 ∧ q = 0) ∨ q < np)  : AW G cL_acts RL 26 6 140 (some .boolean) ANS 507 [some (.inr (6, 0, 0, 0)), some (.inr (9, 50, 6, 0)), some (.inr (9, 51, 57, 0)), some (.inr (9, 52, 60, 0)), some (.inl z), some (.inl (nI W)), some (.inl (nI v)), some (.inl (nI zn)), some (.inl (nI (4 + 19 * v + 5 * zn))), some (.inl (nI q)), none, none, none, none, none, none, none, none, none, none, none, none, none, none, none, none] [] M := by
  have hL := h.1
  obtain ⟨⟨t, ht, hg⟩, hqw⟩ := id h.2.1
  have hv3 : v < 3 := by omega
  have hB : hzS (M 0) (nI v) (nI zn) = true := hz_t h0 hn hv hz
  have hcl : vN (nI v) = v := vN_nI (by omega)
  have hcz : vN (nI zn) = zn := vN_nI (by omega)
  have hF : repF (M 0) (nI v) (nI zn) = mendF (M 0) (10 + 19 * v + 5 * zn) := by unfold repF; rw [if_pos hB, hcl, hcz]
  have hR : repR (M 0) (nI v) (nI zn) = M 0 (10 + 19 * v + 5 * zn + 3) := by
    unfold repR
    rw [if_pos hB, hcl, hcz]
    rcases hg.found hv3 hz with e | e <;> rw [e] <;> decide
  have hmo : ∀ i, i < 10 + 19 * v + 5 * zn ∨ 10 + 19 * v + 5 * zn + 5 ≤ i → M 0 i = mendF (M 0) (10 + 19 * v + 5 * zn) i := fun i hi => by
    unfold mendF
    rw [upd_at, if_neg (by omega), upd_at, if_neg (by omega), upd_at, if_neg (by omega), upd_at, if_neg (by omega)]
  have hch : wr (wr (wr (wr M 51 (4 + 19 * v + 5 * zn + 1) (nI 0)) 51 (4 + 19 * v + 5 * zn + 2) (nI 0)) 51 (4 + 19 * v + 5 * zn + 3) (nI 0)) 51 (4 + 19 * v + 5 * zn + 4) (nI 0) = LM M (repF (M 0) (nI v) (nI zn)) := by
    rw [wr_eq, wr_eq, wr_eq, wr_eq]
    simp only [setR_same, setR_setR]
    rw [hL.2.1, upd_s _ _ (by omega) (show 10 + 19 * v + 5 * zn + 1 = 6 + (4 + 19 * v + 5 * zn + 1) by omega), upd_s _ _ (by omega) (show 10 + 19 * v + 5 * zn + 2 = 6 + (4 + 19 * v + 5 * zn + 2) by omega), upd_s _ _ (by omega) (show 10 + 19 * v + 5 * zn + 3 = 6 + (4 + 19 * v + 5 * zn + 3) by omega), upd_s _ _ (by omega) (show 10 + 19 * v + 5 * zn + 4 = 6 + (4 + 19 * v + 5 * zn + 4) by omega), hF]
    exact hL.at51 (F' := mendF (M 0) (10 + 19 * v + 5 * zn)) (fun i hi => hmo i (by omega)) (fun i hi => hmo i (by omega))
  refine a_al_2_26 (pc' := 508) dL_acts_507 rfl ?_
  refine a_il_8_26 (pc' := 510) dL_acts_508 rfl ?_
  refine a_iconst (v := nI 3) (pc' := 511) dL_acts_510 (by decide) rfl ?_
  refine a_iaddN (pc' := 512) dL_acts_511 rfl ?_
  refine a_ialdN (pc' := 513) rfl (by omega) (by decide) dL_acts_512 rfl ?_
  rw [hL.z hv3 hz 3 (by decide)]
  refine a_is_17_26 (pc' := 515) dL_acts_513 rfl ?_
  refine a_iconst (v := nI 1) (pc' := 516) dL_acts_515 (by decide) rfl ?_
  refine a_is_18_26 (pc' := 518) dL_acts_516 rfl ?_
  refine a_il_18_26 (pc' := 520) dL_acts_518 rfl ?_
  refine a_iconst (v := nI 5) (pc' := 521) dL_acts_520 (by decide) rfl ?_
  refine a_icmp_ge (pc' := 524) (tgt := 538) dL_acts_521 (by decide) rfl (fun c_521 => absurd c_521 (by decide)) (fun c_521 => ?_)
  refine a_al_2_26 (pc' := 525) dL_acts_524 rfl ?_
  refine a_il_8_26 (pc' := 527) dL_acts_525 rfl ?_
  refine a_il_18_26 (pc' := 529) dL_acts_527 rfl ?_
  refine a_iaddN (pc' := 530) dL_acts_529 rfl ?_
  refine a_iconst (v := nI 0) (pc' := 531) dL_acts_530 (by decide) rfl ?_
  refine a_iastN (pc' := 532) rfl (by omega) (by decide) dL_acts_531 rfl ?_
  refine a_iN_18_26 (m := 2) (pc' := 535) dL_acts_532 (nI_add _ _) rfl ?_
  refine a_goto (pc' := 518) dL_acts_535 (by decide) ?_
  refine a_il_18_26 (pc' := 520) dL_acts_518 rfl ?_
  refine a_iconst (v := nI 5) (pc' := 521) dL_acts_520 (by decide) rfl ?_
  refine a_icmp_ge (pc' := 524) (tgt := 538) dL_acts_521 (by decide) rfl (fun c_521_2 => absurd c_521_2 (by decide)) (fun c_521_2 => ?_)
  refine a_al_2_26 (pc' := 525) dL_acts_524 rfl ?_
  refine a_il_8_26 (pc' := 527) dL_acts_525 rfl ?_
  refine a_il_18_26 (pc' := 529) dL_acts_527 rfl ?_
  refine a_iaddN (pc' := 530) dL_acts_529 rfl ?_
  refine a_iconst (v := nI 0) (pc' := 531) dL_acts_530 (by decide) rfl ?_
  refine a_iastN (pc' := 532) rfl (by omega) (by decide) dL_acts_531 rfl ?_
  refine a_iN_18_26 (m := 3) (pc' := 535) dL_acts_532 (nI_add _ _) rfl ?_
  refine a_goto (pc' := 518) dL_acts_535 (by decide) ?_
  refine a_il_18_26 (pc' := 520) dL_acts_518 rfl ?_
  refine a_iconst (v := nI 5) (pc' := 521) dL_acts_520 (by decide) rfl ?_
  refine a_icmp_ge (pc' := 524) (tgt := 538) dL_acts_521 (by decide) rfl (fun c_521_3 => absurd c_521_3 (by decide)) (fun c_521_3 => ?_)
  refine a_al_2_26 (pc' := 525) dL_acts_524 rfl ?_
  refine a_il_8_26 (pc' := 527) dL_acts_525 rfl ?_
  refine a_il_18_26 (pc' := 529) dL_acts_527 rfl ?_
  refine a_iaddN (pc' := 530) dL_acts_529 rfl ?_
  refine a_iconst (v := nI 0) (pc' := 531) dL_acts_530 (by decide) rfl ?_
  refine a_iastN (pc' := 532) rfl (by omega) (by decide) dL_acts_531 rfl ?_
  refine a_iN_18_26 (m := 4) (pc' := 535) dL_acts_532 (nI_add _ _) rfl ?_
  refine a_goto (pc' := 518) dL_acts_535 (by decide) ?_
  refine a_il_18_26 (pc' := 520) dL_acts_518 rfl ?_
  refine a_iconst (v := nI 5) (pc' := 521) dL_acts_520 (by decide) rfl ?_
  refine a_icmp_ge (pc' := 524) (tgt := 538) dL_acts_521 (by decide) rfl (fun c_521_4 => absurd c_521_4 (by decide)) (fun c_521_4 => ?_)
  refine a_al_2_26 (pc' := 525) dL_acts_524 rfl ?_
  refine a_il_8_26 (pc' := 527) dL_acts_525 rfl ?_
  refine a_il_18_26 (pc' := 529) dL_acts_527 rfl ?_
  refine a_iaddN (pc' := 530) dL_acts_529 rfl ?_
  refine a_iconst (v := nI 0) (pc' := 531) dL_acts_530 (by decide) rfl ?_
  refine a_iastN (pc' := 532) rfl (by omega) (by decide) dL_acts_531 rfl ?_
  refine a_iN_18_26 (m := 5) (pc' := 535) dL_acts_532 (nI_add _ _) rfl ?_
  refine a_goto (pc' := 518) dL_acts_535 (by decide) ?_
  refine a_il_18_26 (pc' := 520) dL_acts_518 rfl ?_
  refine a_iconst (v := nI 5) (pc' := 521) dL_acts_520 (by decide) rfl ?_
  refine a_icmp_ge (pc' := 524) (tgt := 538) dL_acts_521 (by decide) rfl (fun c_521_5 => ?_) (fun c_521_5 => absurd (by decide) c_521_5)
  rw [hch]
  refine a_al_0_26 (pc' := 539) dL_acts_538 rfl ?_
  refine a_il_6_26 (pc' := 541) dL_acts_539 rfl ?_
  refine a_il_7_26 (pc' := 543) dL_acts_541 rfl ?_
  refine k_VI (pc' := 546) (cx_repair (LM_ne M _ (by decide)) (LM_fr h.fr) hg.bok hn h0 _ _) cw_L_62 mi_X6_repair se_X6_repair rfl rfl rfl rfl (by decide) (by decide) (Nat.le_of_ble_eq_true rfl) rfl dL_acts_543 rfl ?_
  refine a_il_17_26 (pc' := 548) dL_acts_546 rfl ?_
  refine a_icmp_ne (pc' := 551) (tgt := 555) dL_acts_548 (by decide) rfl (fun c_548 => absurd hR c_548) (fun c_548 => ?_)
  refine a_iconst (v := nI 1) (pc' := 552) dL_acts_551 (by decide) rfl ?_
  refine a_goto (pc' := 556) dL_acts_552 (by decide) ?_
  refine a_iret dL_acts_556 rfl rfl ?_
  exact ⟨rfl, h.ed (h.2.1.rep _ _) (by rw [npF_eq (samP.rep hg _ _).2.1]; exact h.2.2.1)⟩
