theorem cnt_k (M : Mm) {k : Nat} (hk : k < 6) : cntS M (nI k) = M 0 k := by
  rcases (by omega : k = 0 ∨ k = 1 ∨ k = 2 ∨ k = 3 ∨ k = 4 ∨ k = 5) with rfl | rfl | rfl | rfl | rfl | rfl <;> rfl
set_option maxRecDepth 20000 in
set_option maxHeartbeats 4000000 in
theorem lp_L_isSo_van {G : Gl} {Φ : Option OV → Mm → Prop} {M : Mm} (h : INV M) {nv np : Nat} (h0 : M 0 0 = nI nv) (hn : nv ≤ 3) (h1 : M 0 1 = nI np) (hm : np ≤ 6) : ∀ (n p : Nat) (acc : Int32) (x7 x8 : Option OV), p + n = nv → (∀ y7 y8 : Option OV, AW G cL_isSo RL 13 4 88 (some .boolean) Φ 314 [some (.inr (6, 0, 0, 0)), some (.inr (9, 50, 6, 0)), some (.inr (9, 51, 57, 0)), some (.inr (9, 52, 60, 0)), some (.inl (nI 1)), some (.inl (fndL (M 0) n p acc)), some (.inl (nI nv)), y7, y8, none, none, none, none] [] M) → AW G cL_isSo RL 13 4 88 (some .boolean) Φ 50 [some (.inr (6, 0, 0, 0)), some (.inr (9, 50, 6, 0)), some (.inr (9, 51, 57, 0)), some (.inr (9, 52, 60, 0)), some (.inl (nI 1)), some (.inl acc), some (.inl (nI p)), x7, x8, none, none, none, none] [] M := by
  intro n
  induction n with
  | zero =>
    intro p acc x7 x8 he  hΦ
    refine a_il_6_13 (pc' := 52) dL_isSo_50 rfl ?_
    refine a_al_1_13 (pc' := 53) dL_isSo_52 rfl ?_
    refine a_iconst (v := nI 0) (pc' := 54) dL_isSo_53 (by decide) rfl ?_
    refine a_ialdN (pc' := 55) rfl (by omega) (by decide) dL_isSo_54 rfl ?_
    rw [h.1.g (show 0 < 6 by decide), h0]
    refine a_icmp_ge (pc' := 58) (tgt := 314) dL_isSo_55 (by decide) rfl (fun c_55 => ?_) (fun c_55 => absurd (nI_le (by omega) (by omega)) c_55)
    obtain rfl : p = nv := by omega
    exact hΦ _ _
  | succ n ih =>
    intro p acc x7 x8 he  hΦ
    have hL := h.1
    obtain ⟨⟨t, ht, hg⟩, hqw⟩ := id h.2.1
    have hp3 : p < 3 := by omega
    have hcp : vN (nI p) = p := vN_nI (by omega)
    have hvt := hv_t h0 hn (show p < nv by omega)
    have hnp : npF (M 0) = np := by unfold npF; rw [h1]; exact nI_clamp (by omega)
    have q0 : vqS (M 0) (nI p) (nI 0) = M 51 (19 * p) := by unfold vqS; rw [if_pos hvt, hcp, hL.v0 hp3]; rfl
    have q1 : vqS (M 0) (nI p) (nI 1) = M 51 (19 * p + 1) := by unfold vqS; rw [if_pos hvt, hcp, hL.v hp3 1 (by decide)]; rfl
    have q2 : vqS (M 0) (nI p) (nI 2) = M 51 (19 * p + 2) := by
      unfold vqS
      rw [if_pos hvt, hcp, hL.v hp3 2 (by decide)]
      show (if M 0 (6 + 19 * p + 2) = 0 then nI 0 else nI 1) = _
      rcases hg.door hp3 with e | e <;> rw [e] <;> rfl
    have q3 : vqS (M 0) (nI p) (nI 3) = pinL (M 0) (nI p) np 0 (nI 0) := by unfold vqS; rw [if_pos hvt, hcp, hnp]; rfl
    have zz : ∀ c k, c < 3 → zqS (M 0) (nI p) (nI c) k = if k = nI 0 then M 0 (10 + 19 * p + 5 * c) else if k = nI 1 then rdg (M 0) (10 + 19 * p + 5 * c) else if k = nI 2 then toldF (M 0) p c else if k = nI 3 then M 0 (10 + 19 * p + 5 * c + 1) else if k = nI 4 then (if M 0 (10 + 19 * p + 5 * c + 3) = 0 then nI 0 else nI 1) else if k = nI 5 then M 0 (10 + 19 * p + 5 * c + 4) else (-100001) := fun c k hc => by
      unfold zqS
      rw [if_pos (hz_t h0 hn (show p < nv by omega) hc), hcp, vN_nI (show c < 2147483648 by omega)]
    have z0 : ∀ c, c < 3 → zqS (M 0) (nI p) (nI c) (nI 0) = M 51 (4 + 19 * p + 5 * c) := fun c hc => by rw [zz c _ hc, hL.z0 hp3 hc]; rfl
    have z1 : ∀ c, c < 3 → zqS (M 0) (nI p) (nI c) (nI 1) = rdg (M 0) (10 + 19 * p + 5 * c) := fun c hc => by rw [zz c _ hc]; rfl
    have z2 : ∀ c, c < 3 → zqS (M 0) (nI p) (nI c) (nI 2) = toldF (M 0) p c := fun c hc => by rw [zz c _ hc]; rfl
    have z3 : ∀ c, c < 3 → zqS (M 0) (nI p) (nI c) (nI 3) = M 51 (4 + 19 * p + 5 * c + 1) := fun c hc => by rw [zz c _ hc, hL.z hp3 hc 1 (by decide)]; rfl
    have z4 : ∀ c, c < 3 → zqS (M 0) (nI p) (nI c) (nI 4) = M 51 (4 + 19 * p + 5 * c + 3) := fun c hc => by
      rw [zz c _ hc, hL.z hp3 hc 3 (by decide)]
      show (if M 0 (10 + 19 * p + 5 * c + 3) = 0 then nI 0 else nI 1) = _
      rcases hg.found hp3 hc with e | e <;> rw [e] <;> rfl
    have z5 : ∀ c, c < 3 → zqS (M 0) (nI p) (nI c) (nI 5) = M 51 (4 + 19 * p + 5 * c + 4) := fun c hc => by rw [zz c _ hc, hL.z hp3 hc 4 (by decide)]; rfl
    have fn : ∀ c, c < 3 → ∀ a : Int32, a + M 51 (4 + 19 * p + 5 * c + 3) = fnd1 (M 0) p c a := fun c hc a => by
      rw [hL.z hp3 hc 3 (by decide)]
      unfold fnd1
      rcases hg.found hp3 hc with e | e
      · rw [e, if_pos rfl, Int32.add_zero]
      · rw [e, if_neg (by decide)]; rfl
    refine a_il_6_13 (pc' := 52) dL_isSo_50 rfl ?_
    refine a_al_1_13 (pc' := 53) dL_isSo_52 rfl ?_
    refine a_iconst (v := nI 0) (pc' := 54) dL_isSo_53 (by decide) rfl ?_
    refine a_ialdN (pc' := 55) rfl (by omega) (by decide) dL_isSo_54 rfl ?_
    rw [h.1.g (show 0 < 6 by decide), h0]
    refine a_icmp_ge (pc' := 58) (tgt := 314) dL_isSo_55 (by decide) rfl (fun c_55 => absurd c_55 (nI_ge (by omega) (by omega))) (fun c_55 => ?_)
    refine a_il_4_13 (pc' := 60) dL_isSo_58 rfl ?_
    refine a_if_eq (pc' := 63) (tgt := 314) dL_isSo_60 (by decide) rfl (fun c_60 => absurd c_60 (by decide)) (fun c_60 => ?_)
    refine a_al_0_13 (pc' := 64) dL_isSo_63 rfl ?_
    refine a_il_6_13 (pc' := 66) dL_isSo_64 rfl ?_
    refine a_iconst (v := nI 0) (pc' := 67) dL_isSo_66 (by decide) rfl ?_
    refine k_VI (pc' := 70) (ct_X6_van hn (show np ≤ 12 by omega) _ _ M h0 h1) cw_L_97 mi_X6_van se_X6_van rfl rfl rfl rfl (by decide) (by decide) (Nat.le_of_ble_eq_true rfl) rfl dL_isSo_67 rfl ?_
    refine a_al_2_13 (pc' := 71) dL_isSo_70 rfl ?_
    refine a_bipush (v := nI 19) (pc' := 73) dL_isSo_71 (by decide) rfl ?_
    refine a_il_6_13 (pc' := 75) dL_isSo_73 rfl ?_
    refine a_imulN (pc' := 76) dL_isSo_75 rfl ?_
    refine a_ialdN (pc' := 77) rfl (by omega) (by decide) dL_isSo_76 rfl ?_
    refine a_icmp_ne (pc' := 80) (tgt := 139) dL_isSo_77 (by decide) rfl (fun c_77 => absurd q0 c_77) (fun c_77 => ?_)
    refine a_al_0_13 (pc' := 81) dL_isSo_80 rfl ?_
    refine a_il_6_13 (pc' := 83) dL_isSo_81 rfl ?_
    refine a_iconst (v := nI 1) (pc' := 84) dL_isSo_83 (by decide) rfl ?_
    refine k_VI (pc' := 87) (ct_X6_van hn (show np ≤ 12 by omega) _ _ M h0 h1) cw_L_97 mi_X6_van se_X6_van rfl rfl rfl rfl (by decide) (by decide) (Nat.le_of_ble_eq_true rfl) rfl dL_isSo_84 rfl ?_
    refine a_al_2_13 (pc' := 88) dL_isSo_87 rfl ?_
    refine a_bipush (v := nI 19) (pc' := 90) dL_isSo_88 (by decide) rfl ?_
    refine a_il_6_13 (pc' := 92) dL_isSo_90 rfl ?_
    refine a_imulN (pc' := 93) dL_isSo_92 rfl ?_
    refine a_iconst (v := nI 1) (pc' := 94) dL_isSo_93 (by decide) rfl ?_
    refine a_iaddN (pc' := 95) dL_isSo_94 rfl ?_
    refine a_ialdN (pc' := 96) rfl (by omega) (by decide) dL_isSo_95 rfl ?_
    refine a_icmp_ne (pc' := 99) (tgt := 139) dL_isSo_96 (by decide) rfl (fun c_96 => absurd q1 c_96) (fun c_96 => ?_)
    refine a_al_0_13 (pc' := 100) dL_isSo_99 rfl ?_
    refine a_il_6_13 (pc' := 102) dL_isSo_100 rfl ?_
    refine a_iconst (v := nI 2) (pc' := 103) dL_isSo_102 (by decide) rfl ?_
    refine k_VI (pc' := 106) (ct_X6_van hn (show np ≤ 12 by omega) _ _ M h0 h1) cw_L_97 mi_X6_van se_X6_van rfl rfl rfl rfl (by decide) (by decide) (Nat.le_of_ble_eq_true rfl) rfl dL_isSo_103 rfl ?_
    refine a_al_2_13 (pc' := 107) dL_isSo_106 rfl ?_
    refine a_bipush (v := nI 19) (pc' := 109) dL_isSo_107 (by decide) rfl ?_
    refine a_il_6_13 (pc' := 111) dL_isSo_109 rfl ?_
    refine a_imulN (pc' := 112) dL_isSo_111 rfl ?_
    refine a_iconst (v := nI 2) (pc' := 113) dL_isSo_112 (by decide) rfl ?_
    refine a_iaddN (pc' := 114) dL_isSo_113 rfl ?_
    refine a_ialdN (pc' := 115) rfl (by omega) (by decide) dL_isSo_114 rfl ?_
    refine a_icmp_ne (pc' := 118) (tgt := 139) dL_isSo_115 (by decide) rfl (fun c_115 => absurd q2 c_115) (fun c_115 => ?_)
    refine a_al_0_13 (pc' := 119) dL_isSo_118 rfl ?_
    refine a_il_6_13 (pc' := 121) dL_isSo_119 rfl ?_
    refine a_iconst (v := nI 3) (pc' := 122) dL_isSo_121 (by decide) rfl ?_
    refine k_VI (pc' := 125) (ct_X6_van hn (show np ≤ 12 by omega) _ _ M h0 h1) cw_L_97 mi_X6_van se_X6_van rfl rfl rfl rfl (by decide) (by decide) (Nat.le_of_ble_eq_true rfl) rfl dL_isSo_122 rfl ?_
    refine a_al_1_13 (pc' := 126) dL_isSo_125 rfl ?_
    refine a_al_3_13 (pc' := 127) dL_isSo_126 rfl ?_
    refine a_il_6_13 (pc' := 129) dL_isSo_127 rfl ?_
    refine k_SI (pc' := 132) (ct_L_inside hm _ _ hL hg.vok hg.zok h1) cw_L_74 ms_L_inside rfl (by decide) (by decide) (Nat.le_of_ble_eq_true rfl) rfl dL_isSo_129 rfl ?_
    refine a_icmp_ne (pc' := 135) (tgt := 139) dL_isSo_132 (by decide) rfl (fun c_132 => absurd q3 c_132) (fun c_132 => ?_)
    refine a_iconst (v := nI 1) (pc' := 136) dL_isSo_135 (by decide) rfl ?_
    refine a_goto (pc' := 140) dL_isSo_136 (by decide) ?_
    refine a_is_4_13 (pc' := 142) dL_isSo_140 rfl ?_
    refine a_iconst (v := nI 0) (pc' := 143) dL_isSo_142 (by decide) rfl ?_
    refine a_is_7_13 (pc' := 145) dL_isSo_143 rfl ?_
    refine a_il_7_13 (pc' := 147) dL_isSo_145 rfl ?_
    refine a_iconst (v := nI 3) (pc' := 148) dL_isSo_147 (by decide) rfl ?_
    refine a_icmp_ge (pc' := 151) (tgt := 308) dL_isSo_148 (by decide) rfl (fun c_148 => absurd c_148 (by decide)) (fun c_148 => ?_)
    refine a_il_4_13 (pc' := 153) dL_isSo_151 rfl ?_
    refine a_if_eq (pc' := 156) (tgt := 308) dL_isSo_153 (by decide) rfl (fun c_153 => absurd c_153 (by decide)) (fun c_153 => ?_)
    refine a_iconst (v := nI 3) (pc' := 157) dL_isSo_156 (by decide) rfl ?_
    refine a_il_6_13 (pc' := 159) dL_isSo_157 rfl ?_
    refine a_imulN (pc' := 160) dL_isSo_159 rfl ?_
    refine a_il_7_13 (pc' := 162) dL_isSo_160 rfl ?_
    refine a_iaddN (pc' := 163) dL_isSo_162 rfl ?_
    refine k_SI (pc' := 166) (ct_L_spot (v := p) (z := 0) (by omega) (by omega) (by omega) _) cw_L_9 ms_L_spot rfl (by decide) (by decide) (Nat.le_of_ble_eq_true rfl) rfl dL_isSo_163 rfl ?_
    refine a_is_8_13 (pc' := 168) dL_isSo_166 rfl ?_
    refine a_il_5_13 (pc' := 170) dL_isSo_168 rfl ?_
    refine a_al_2_13 (pc' := 171) dL_isSo_170 rfl ?_
    refine a_il_8_13 (pc' := 173) dL_isSo_171 rfl ?_
    refine a_iconst (v := nI 3) (pc' := 174) dL_isSo_173 (by decide) rfl ?_
    refine a_iaddN (pc' := 175) dL_isSo_174 rfl ?_
    refine a_ialdN (pc' := 176) rfl (by omega) (by decide) dL_isSo_175 rfl ?_
    refine a_iadd (pc' := 177) dL_isSo_176 rfl ?_
    rw [fn 0 (by decide)]
    refine a_is_5_13 (pc' := 179) dL_isSo_177 rfl ?_
    refine a_al_0_13 (pc' := 180) dL_isSo_179 rfl ?_
    refine a_il_6_13 (pc' := 182) dL_isSo_180 rfl ?_
    refine a_il_7_13 (pc' := 184) dL_isSo_182 rfl ?_
    refine a_iconst (v := nI 0) (pc' := 185) dL_isSo_184 (by decide) rfl ?_
    refine k_VI (pc' := 188) (ct_X6_zone hn _ _ _ M h0) cw_L_100 mi_X6_zone se_X6_zone rfl rfl rfl rfl (by decide) (by decide) (Nat.le_of_ble_eq_true rfl) rfl dL_isSo_185 rfl ?_
    refine a_al_2_13 (pc' := 189) dL_isSo_188 rfl ?_
    refine a_il_8_13 (pc' := 191) dL_isSo_189 rfl ?_
    refine a_ialdN (pc' := 192) rfl (by omega) (by decide) dL_isSo_191 rfl ?_
    refine a_icmp_ne (pc' := 195) (tgt := 299) dL_isSo_192 (by decide) rfl (fun c_192 => absurd (z0 0 (by decide)) c_192) (fun c_192 => ?_)
    refine a_al_0_13 (pc' := 196) dL_isSo_195 rfl ?_
    refine a_il_6_13 (pc' := 198) dL_isSo_196 rfl ?_
    refine a_il_7_13 (pc' := 200) dL_isSo_198 rfl ?_
    refine a_iconst (v := nI 1) (pc' := 201) dL_isSo_200 (by decide) rfl ?_
    refine k_VI (pc' := 204) (ct_X6_zone hn _ _ _ M h0) cw_L_100 mi_X6_zone se_X6_zone rfl rfl rfl rfl (by decide) (by decide) (Nat.le_of_ble_eq_true rfl) rfl dL_isSo_201 rfl ?_
    refine a_al_2_13 (pc' := 205) dL_isSo_204 rfl ?_
    refine a_iconst (v := nI 3) (pc' := 206) dL_isSo_205 (by decide) rfl ?_
    refine a_il_6_13 (pc' := 208) dL_isSo_206 rfl ?_
    refine a_imulN (pc' := 209) dL_isSo_208 rfl ?_
    refine a_il_7_13 (pc' := 211) dL_isSo_209 rfl ?_
    refine a_iaddN (pc' := 212) dL_isSo_211 rfl ?_
    refine k_SI (pc' := 215) (ct_L_read (v := p) (z := 0) (by omega) (by omega) (by omega) _ hL) cw_L_15 ms_L_read rfl (by decide) (by decide) (Nat.le_of_ble_eq_true rfl) rfl dL_isSo_212 rfl ?_
    refine a_icmp_ne (pc' := 218) (tgt := 299) dL_isSo_215 (by decide) rfl (fun c_215 => absurd (z1 0 (by decide)) c_215) (fun c_215 => ?_)
    refine a_al_0_13 (pc' := 219) dL_isSo_218 rfl ?_
    refine a_il_6_13 (pc' := 221) dL_isSo_219 rfl ?_
    refine a_il_7_13 (pc' := 223) dL_isSo_221 rfl ?_
    refine a_iconst (v := nI 2) (pc' := 224) dL_isSo_223 (by decide) rfl ?_
    refine k_VI (pc' := 227) (ct_X6_zone hn _ _ _ M h0) cw_L_100 mi_X6_zone se_X6_zone rfl rfl rfl rfl (by decide) (by decide) (Nat.le_of_ble_eq_true rfl) rfl dL_isSo_224 rfl ?_
    refine a_al_2_13 (pc' := 228) dL_isSo_227 rfl ?_
    refine a_iconst (v := nI 3) (pc' := 229) dL_isSo_228 (by decide) rfl ?_
    refine a_il_6_13 (pc' := 231) dL_isSo_229 rfl ?_
    refine a_imulN (pc' := 232) dL_isSo_231 rfl ?_
    refine a_il_7_13 (pc' := 234) dL_isSo_232 rfl ?_
    refine a_iaddN (pc' := 235) dL_isSo_234 rfl ?_
    refine k_SI (pc' := 238) (ct_L_told (v := p) (z := 0) (by omega) (by omega) (by omega) _ hL (hg.found (z := 0) hp3 (by decide))) cw_L_31 ms_L_told rfl (by decide) (by decide) (Nat.le_of_ble_eq_true rfl) rfl dL_isSo_235 rfl ?_
    refine a_icmp_ne (pc' := 241) (tgt := 299) dL_isSo_238 (by decide) rfl (fun c_238 => absurd (z2 0 (by decide)) c_238) (fun c_238 => ?_)
    refine a_al_0_13 (pc' := 242) dL_isSo_241 rfl ?_
    refine a_il_6_13 (pc' := 244) dL_isSo_242 rfl ?_
    refine a_il_7_13 (pc' := 246) dL_isSo_244 rfl ?_
    refine a_iconst (v := nI 3) (pc' := 247) dL_isSo_246 (by decide) rfl ?_
    refine k_VI (pc' := 250) (ct_X6_zone hn _ _ _ M h0) cw_L_100 mi_X6_zone se_X6_zone rfl rfl rfl rfl (by decide) (by decide) (Nat.le_of_ble_eq_true rfl) rfl dL_isSo_247 rfl ?_
    refine a_al_2_13 (pc' := 251) dL_isSo_250 rfl ?_
    refine a_il_8_13 (pc' := 253) dL_isSo_251 rfl ?_
    refine a_iconst (v := nI 1) (pc' := 254) dL_isSo_253 (by decide) rfl ?_
    refine a_iaddN (pc' := 255) dL_isSo_254 rfl ?_
    refine a_ialdN (pc' := 256) rfl (by omega) (by decide) dL_isSo_255 rfl ?_
    refine a_icmp_ne (pc' := 259) (tgt := 299) dL_isSo_256 (by decide) rfl (fun c_256 => absurd (z3 0 (by decide)) c_256) (fun c_256 => ?_)
    refine a_al_0_13 (pc' := 260) dL_isSo_259 rfl ?_
    refine a_il_6_13 (pc' := 262) dL_isSo_260 rfl ?_
    refine a_il_7_13 (pc' := 264) dL_isSo_262 rfl ?_
    refine a_iconst (v := nI 4) (pc' := 265) dL_isSo_264 (by decide) rfl ?_
    refine k_VI (pc' := 268) (ct_X6_zone hn _ _ _ M h0) cw_L_100 mi_X6_zone se_X6_zone rfl rfl rfl rfl (by decide) (by decide) (Nat.le_of_ble_eq_true rfl) rfl dL_isSo_265 rfl ?_
    refine a_al_2_13 (pc' := 269) dL_isSo_268 rfl ?_
    refine a_il_8_13 (pc' := 271) dL_isSo_269 rfl ?_
    refine a_iconst (v := nI 3) (pc' := 272) dL_isSo_271 (by decide) rfl ?_
    refine a_iaddN (pc' := 273) dL_isSo_272 rfl ?_
    refine a_ialdN (pc' := 274) rfl (by omega) (by decide) dL_isSo_273 rfl ?_
    refine a_icmp_ne (pc' := 277) (tgt := 299) dL_isSo_274 (by decide) rfl (fun c_274 => absurd (z4 0 (by decide)) c_274) (fun c_274 => ?_)
    refine a_al_0_13 (pc' := 278) dL_isSo_277 rfl ?_
    refine a_il_6_13 (pc' := 280) dL_isSo_278 rfl ?_
    refine a_il_7_13 (pc' := 282) dL_isSo_280 rfl ?_
    refine a_iconst (v := nI 5) (pc' := 283) dL_isSo_282 (by decide) rfl ?_
    refine k_VI (pc' := 286) (ct_X6_zone hn _ _ _ M h0) cw_L_100 mi_X6_zone se_X6_zone rfl rfl rfl rfl (by decide) (by decide) (Nat.le_of_ble_eq_true rfl) rfl dL_isSo_283 rfl ?_
    refine a_al_2_13 (pc' := 287) dL_isSo_286 rfl ?_
    refine a_il_8_13 (pc' := 289) dL_isSo_287 rfl ?_
    refine a_iconst (v := nI 4) (pc' := 290) dL_isSo_289 (by decide) rfl ?_
    refine a_iaddN (pc' := 291) dL_isSo_290 rfl ?_
    refine a_ialdN (pc' := 292) rfl (by omega) (by decide) dL_isSo_291 rfl ?_
    refine a_icmp_ne (pc' := 295) (tgt := 299) dL_isSo_292 (by decide) rfl (fun c_292 => absurd (z5 0 (by decide)) c_292) (fun c_292 => ?_)
    refine a_iconst (v := nI 1) (pc' := 296) dL_isSo_295 (by decide) rfl ?_
    refine a_goto (pc' := 300) dL_isSo_296 (by decide) ?_
    refine a_is_4_13 (pc' := 302) dL_isSo_300 rfl ?_
    refine a_iN_7_13 (m := 1) (pc' := 305) dL_isSo_302 (nI_add _ _) rfl ?_
    refine a_goto (pc' := 145) dL_isSo_305 (by decide) ?_
    refine a_il_7_13 (pc' := 147) dL_isSo_145 rfl ?_
    refine a_iconst (v := nI 3) (pc' := 148) dL_isSo_147 (by decide) rfl ?_
    refine a_icmp_ge (pc' := 151) (tgt := 308) dL_isSo_148 (by decide) rfl (fun c_148_2 => absurd c_148_2 (by decide)) (fun c_148_2 => ?_)
    refine a_il_4_13 (pc' := 153) dL_isSo_151 rfl ?_
    refine a_if_eq (pc' := 156) (tgt := 308) dL_isSo_153 (by decide) rfl (fun c_153_2 => absurd c_153_2 (by decide)) (fun c_153_2 => ?_)
    refine a_iconst (v := nI 3) (pc' := 157) dL_isSo_156 (by decide) rfl ?_
    refine a_il_6_13 (pc' := 159) dL_isSo_157 rfl ?_
    refine a_imulN (pc' := 160) dL_isSo_159 rfl ?_
    refine a_il_7_13 (pc' := 162) dL_isSo_160 rfl ?_
    refine a_iaddN (pc' := 163) dL_isSo_162 rfl ?_
    refine k_SI (pc' := 166) (ct_L_spot (v := p) (z := 1) (by omega) (by omega) (by omega) _) cw_L_9 ms_L_spot rfl (by decide) (by decide) (Nat.le_of_ble_eq_true rfl) rfl dL_isSo_163 rfl ?_
    refine a_is_8_13 (pc' := 168) dL_isSo_166 rfl ?_
    refine a_il_5_13 (pc' := 170) dL_isSo_168 rfl ?_
    refine a_al_2_13 (pc' := 171) dL_isSo_170 rfl ?_
    refine a_il_8_13 (pc' := 173) dL_isSo_171 rfl ?_
    refine a_iconst (v := nI 3) (pc' := 174) dL_isSo_173 (by decide) rfl ?_
    refine a_iaddN (pc' := 175) dL_isSo_174 rfl ?_
    refine a_ialdN (pc' := 176) rfl (by omega) (by decide) dL_isSo_175 rfl ?_
    refine a_iadd (pc' := 177) dL_isSo_176 rfl ?_
    rw [fn 1 (by decide)]
    refine a_is_5_13 (pc' := 179) dL_isSo_177 rfl ?_
    refine a_al_0_13 (pc' := 180) dL_isSo_179 rfl ?_
    refine a_il_6_13 (pc' := 182) dL_isSo_180 rfl ?_
    refine a_il_7_13 (pc' := 184) dL_isSo_182 rfl ?_
    refine a_iconst (v := nI 0) (pc' := 185) dL_isSo_184 (by decide) rfl ?_
    refine k_VI (pc' := 188) (ct_X6_zone hn _ _ _ M h0) cw_L_100 mi_X6_zone se_X6_zone rfl rfl rfl rfl (by decide) (by decide) (Nat.le_of_ble_eq_true rfl) rfl dL_isSo_185 rfl ?_
    refine a_al_2_13 (pc' := 189) dL_isSo_188 rfl ?_
    refine a_il_8_13 (pc' := 191) dL_isSo_189 rfl ?_
    refine a_ialdN (pc' := 192) rfl (by omega) (by decide) dL_isSo_191 rfl ?_
    refine a_icmp_ne (pc' := 195) (tgt := 299) dL_isSo_192 (by decide) rfl (fun c_192_2 => absurd (z0 1 (by decide)) c_192_2) (fun c_192_2 => ?_)
    refine a_al_0_13 (pc' := 196) dL_isSo_195 rfl ?_
    refine a_il_6_13 (pc' := 198) dL_isSo_196 rfl ?_
    refine a_il_7_13 (pc' := 200) dL_isSo_198 rfl ?_
    refine a_iconst (v := nI 1) (pc' := 201) dL_isSo_200 (by decide) rfl ?_
    refine k_VI (pc' := 204) (ct_X6_zone hn _ _ _ M h0) cw_L_100 mi_X6_zone se_X6_zone rfl rfl rfl rfl (by decide) (by decide) (Nat.le_of_ble_eq_true rfl) rfl dL_isSo_201 rfl ?_
    refine a_al_2_13 (pc' := 205) dL_isSo_204 rfl ?_
    refine a_iconst (v := nI 3) (pc' := 206) dL_isSo_205 (by decide) rfl ?_
    refine a_il_6_13 (pc' := 208) dL_isSo_206 rfl ?_
    refine a_imulN (pc' := 209) dL_isSo_208 rfl ?_
    refine a_il_7_13 (pc' := 211) dL_isSo_209 rfl ?_
    refine a_iaddN (pc' := 212) dL_isSo_211 rfl ?_
    refine k_SI (pc' := 215) (ct_L_read (v := p) (z := 1) (by omega) (by omega) (by omega) _ hL) cw_L_15 ms_L_read rfl (by decide) (by decide) (Nat.le_of_ble_eq_true rfl) rfl dL_isSo_212 rfl ?_
    refine a_icmp_ne (pc' := 218) (tgt := 299) dL_isSo_215 (by decide) rfl (fun c_215_2 => absurd (z1 1 (by decide)) c_215_2) (fun c_215_2 => ?_)
    refine a_al_0_13 (pc' := 219) dL_isSo_218 rfl ?_
    refine a_il_6_13 (pc' := 221) dL_isSo_219 rfl ?_
    refine a_il_7_13 (pc' := 223) dL_isSo_221 rfl ?_
    refine a_iconst (v := nI 2) (pc' := 224) dL_isSo_223 (by decide) rfl ?_
    refine k_VI (pc' := 227) (ct_X6_zone hn _ _ _ M h0) cw_L_100 mi_X6_zone se_X6_zone rfl rfl rfl rfl (by decide) (by decide) (Nat.le_of_ble_eq_true rfl) rfl dL_isSo_224 rfl ?_
    refine a_al_2_13 (pc' := 228) dL_isSo_227 rfl ?_
    refine a_iconst (v := nI 3) (pc' := 229) dL_isSo_228 (by decide) rfl ?_
    refine a_il_6_13 (pc' := 231) dL_isSo_229 rfl ?_
    refine a_imulN (pc' := 232) dL_isSo_231 rfl ?_
    refine a_il_7_13 (pc' := 234) dL_isSo_232 rfl ?_
    refine a_iaddN (pc' := 235) dL_isSo_234 rfl ?_
    refine k_SI (pc' := 238) (ct_L_told (v := p) (z := 1) (by omega) (by omega) (by omega) _ hL (hg.found (z := 1) hp3 (by decide))) cw_L_31 ms_L_told rfl (by decide) (by decide) (Nat.le_of_ble_eq_true rfl) rfl dL_isSo_235 rfl ?_
    refine a_icmp_ne (pc' := 241) (tgt := 299) dL_isSo_238 (by decide) rfl (fun c_238_2 => absurd (z2 1 (by decide)) c_238_2) (fun c_238_2 => ?_)
    refine a_al_0_13 (pc' := 242) dL_isSo_241 rfl ?_
    refine a_il_6_13 (pc' := 244) dL_isSo_242 rfl ?_
    refine a_il_7_13 (pc' := 246) dL_isSo_244 rfl ?_
    refine a_iconst (v := nI 3) (pc' := 247) dL_isSo_246 (by decide) rfl ?_
    refine k_VI (pc' := 250) (ct_X6_zone hn _ _ _ M h0) cw_L_100 mi_X6_zone se_X6_zone rfl rfl rfl rfl (by decide) (by decide) (Nat.le_of_ble_eq_true rfl) rfl dL_isSo_247 rfl ?_
    refine a_al_2_13 (pc' := 251) dL_isSo_250 rfl ?_
    refine a_il_8_13 (pc' := 253) dL_isSo_251 rfl ?_
    refine a_iconst (v := nI 1) (pc' := 254) dL_isSo_253 (by decide) rfl ?_
    refine a_iaddN (pc' := 255) dL_isSo_254 rfl ?_
    refine a_ialdN (pc' := 256) rfl (by omega) (by decide) dL_isSo_255 rfl ?_
    refine a_icmp_ne (pc' := 259) (tgt := 299) dL_isSo_256 (by decide) rfl (fun c_256_2 => absurd (z3 1 (by decide)) c_256_2) (fun c_256_2 => ?_)
    refine a_al_0_13 (pc' := 260) dL_isSo_259 rfl ?_
    refine a_il_6_13 (pc' := 262) dL_isSo_260 rfl ?_
    refine a_il_7_13 (pc' := 264) dL_isSo_262 rfl ?_
    refine a_iconst (v := nI 4) (pc' := 265) dL_isSo_264 (by decide) rfl ?_
    refine k_VI (pc' := 268) (ct_X6_zone hn _ _ _ M h0) cw_L_100 mi_X6_zone se_X6_zone rfl rfl rfl rfl (by decide) (by decide) (Nat.le_of_ble_eq_true rfl) rfl dL_isSo_265 rfl ?_
    refine a_al_2_13 (pc' := 269) dL_isSo_268 rfl ?_
    refine a_il_8_13 (pc' := 271) dL_isSo_269 rfl ?_
    refine a_iconst (v := nI 3) (pc' := 272) dL_isSo_271 (by decide) rfl ?_
    refine a_iaddN (pc' := 273) dL_isSo_272 rfl ?_
    refine a_ialdN (pc' := 274) rfl (by omega) (by decide) dL_isSo_273 rfl ?_
    refine a_icmp_ne (pc' := 277) (tgt := 299) dL_isSo_274 (by decide) rfl (fun c_274_2 => absurd (z4 1 (by decide)) c_274_2) (fun c_274_2 => ?_)
    refine a_al_0_13 (pc' := 278) dL_isSo_277 rfl ?_
    refine a_il_6_13 (pc' := 280) dL_isSo_278 rfl ?_
    refine a_il_7_13 (pc' := 282) dL_isSo_280 rfl ?_
    refine a_iconst (v := nI 5) (pc' := 283) dL_isSo_282 (by decide) rfl ?_
    refine k_VI (pc' := 286) (ct_X6_zone hn _ _ _ M h0) cw_L_100 mi_X6_zone se_X6_zone rfl rfl rfl rfl (by decide) (by decide) (Nat.le_of_ble_eq_true rfl) rfl dL_isSo_283 rfl ?_
    refine a_al_2_13 (pc' := 287) dL_isSo_286 rfl ?_
    refine a_il_8_13 (pc' := 289) dL_isSo_287 rfl ?_
    refine a_iconst (v := nI 4) (pc' := 290) dL_isSo_289 (by decide) rfl ?_
    refine a_iaddN (pc' := 291) dL_isSo_290 rfl ?_
    refine a_ialdN (pc' := 292) rfl (by omega) (by decide) dL_isSo_291 rfl ?_
    refine a_icmp_ne (pc' := 295) (tgt := 299) dL_isSo_292 (by decide) rfl (fun c_292_2 => absurd (z5 1 (by decide)) c_292_2) (fun c_292_2 => ?_)
    refine a_iconst (v := nI 1) (pc' := 296) dL_isSo_295 (by decide) rfl ?_
    refine a_goto (pc' := 300) dL_isSo_296 (by decide) ?_
    refine a_is_4_13 (pc' := 302) dL_isSo_300 rfl ?_
    refine a_iN_7_13 (m := 2) (pc' := 305) dL_isSo_302 (nI_add _ _) rfl ?_
    refine a_goto (pc' := 145) dL_isSo_305 (by decide) ?_
    refine a_il_7_13 (pc' := 147) dL_isSo_145 rfl ?_
    refine a_iconst (v := nI 3) (pc' := 148) dL_isSo_147 (by decide) rfl ?_
    refine a_icmp_ge (pc' := 151) (tgt := 308) dL_isSo_148 (by decide) rfl (fun c_148_3 => absurd c_148_3 (by decide)) (fun c_148_3 => ?_)
    refine a_il_4_13 (pc' := 153) dL_isSo_151 rfl ?_
    refine a_if_eq (pc' := 156) (tgt := 308) dL_isSo_153 (by decide) rfl (fun c_153_3 => absurd c_153_3 (by decide)) (fun c_153_3 => ?_)
    refine a_iconst (v := nI 3) (pc' := 157) dL_isSo_156 (by decide) rfl ?_
    refine a_il_6_13 (pc' := 159) dL_isSo_157 rfl ?_
    refine a_imulN (pc' := 160) dL_isSo_159 rfl ?_
    refine a_il_7_13 (pc' := 162) dL_isSo_160 rfl ?_
    refine a_iaddN (pc' := 163) dL_isSo_162 rfl ?_
    refine k_SI (pc' := 166) (ct_L_spot (v := p) (z := 2) (by omega) (by omega) (by omega) _) cw_L_9 ms_L_spot rfl (by decide) (by decide) (Nat.le_of_ble_eq_true rfl) rfl dL_isSo_163 rfl ?_
    refine a_is_8_13 (pc' := 168) dL_isSo_166 rfl ?_
    refine a_il_5_13 (pc' := 170) dL_isSo_168 rfl ?_
    refine a_al_2_13 (pc' := 171) dL_isSo_170 rfl ?_
    refine a_il_8_13 (pc' := 173) dL_isSo_171 rfl ?_
    refine a_iconst (v := nI 3) (pc' := 174) dL_isSo_173 (by decide) rfl ?_
    refine a_iaddN (pc' := 175) dL_isSo_174 rfl ?_
    refine a_ialdN (pc' := 176) rfl (by omega) (by decide) dL_isSo_175 rfl ?_
    refine a_iadd (pc' := 177) dL_isSo_176 rfl ?_
    rw [fn 2 (by decide)]
    refine a_is_5_13 (pc' := 179) dL_isSo_177 rfl ?_
    refine a_al_0_13 (pc' := 180) dL_isSo_179 rfl ?_
    refine a_il_6_13 (pc' := 182) dL_isSo_180 rfl ?_
    refine a_il_7_13 (pc' := 184) dL_isSo_182 rfl ?_
    refine a_iconst (v := nI 0) (pc' := 185) dL_isSo_184 (by decide) rfl ?_
    refine k_VI (pc' := 188) (ct_X6_zone hn _ _ _ M h0) cw_L_100 mi_X6_zone se_X6_zone rfl rfl rfl rfl (by decide) (by decide) (Nat.le_of_ble_eq_true rfl) rfl dL_isSo_185 rfl ?_
    refine a_al_2_13 (pc' := 189) dL_isSo_188 rfl ?_
    refine a_il_8_13 (pc' := 191) dL_isSo_189 rfl ?_
    refine a_ialdN (pc' := 192) rfl (by omega) (by decide) dL_isSo_191 rfl ?_
    refine a_icmp_ne (pc' := 195) (tgt := 299) dL_isSo_192 (by decide) rfl (fun c_192_3 => absurd (z0 2 (by decide)) c_192_3) (fun c_192_3 => ?_)
    refine a_al_0_13 (pc' := 196) dL_isSo_195 rfl ?_
    refine a_il_6_13 (pc' := 198) dL_isSo_196 rfl ?_
    refine a_il_7_13 (pc' := 200) dL_isSo_198 rfl ?_
    refine a_iconst (v := nI 1) (pc' := 201) dL_isSo_200 (by decide) rfl ?_
    refine k_VI (pc' := 204) (ct_X6_zone hn _ _ _ M h0) cw_L_100 mi_X6_zone se_X6_zone rfl rfl rfl rfl (by decide) (by decide) (Nat.le_of_ble_eq_true rfl) rfl dL_isSo_201 rfl ?_
    refine a_al_2_13 (pc' := 205) dL_isSo_204 rfl ?_
    refine a_iconst (v := nI 3) (pc' := 206) dL_isSo_205 (by decide) rfl ?_
    refine a_il_6_13 (pc' := 208) dL_isSo_206 rfl ?_
    refine a_imulN (pc' := 209) dL_isSo_208 rfl ?_
    refine a_il_7_13 (pc' := 211) dL_isSo_209 rfl ?_
    refine a_iaddN (pc' := 212) dL_isSo_211 rfl ?_
    refine k_SI (pc' := 215) (ct_L_read (v := p) (z := 2) (by omega) (by omega) (by omega) _ hL) cw_L_15 ms_L_read rfl (by decide) (by decide) (Nat.le_of_ble_eq_true rfl) rfl dL_isSo_212 rfl ?_
    refine a_icmp_ne (pc' := 218) (tgt := 299) dL_isSo_215 (by decide) rfl (fun c_215_3 => absurd (z1 2 (by decide)) c_215_3) (fun c_215_3 => ?_)
    refine a_al_0_13 (pc' := 219) dL_isSo_218 rfl ?_
    refine a_il_6_13 (pc' := 221) dL_isSo_219 rfl ?_
    refine a_il_7_13 (pc' := 223) dL_isSo_221 rfl ?_
    refine a_iconst (v := nI 2) (pc' := 224) dL_isSo_223 (by decide) rfl ?_
    refine k_VI (pc' := 227) (ct_X6_zone hn _ _ _ M h0) cw_L_100 mi_X6_zone se_X6_zone rfl rfl rfl rfl (by decide) (by decide) (Nat.le_of_ble_eq_true rfl) rfl dL_isSo_224 rfl ?_
    refine a_al_2_13 (pc' := 228) dL_isSo_227 rfl ?_
    refine a_iconst (v := nI 3) (pc' := 229) dL_isSo_228 (by decide) rfl ?_
    refine a_il_6_13 (pc' := 231) dL_isSo_229 rfl ?_
    refine a_imulN (pc' := 232) dL_isSo_231 rfl ?_
    refine a_il_7_13 (pc' := 234) dL_isSo_232 rfl ?_
    refine a_iaddN (pc' := 235) dL_isSo_234 rfl ?_
    refine k_SI (pc' := 238) (ct_L_told (v := p) (z := 2) (by omega) (by omega) (by omega) _ hL (hg.found (z := 2) hp3 (by decide))) cw_L_31 ms_L_told rfl (by decide) (by decide) (Nat.le_of_ble_eq_true rfl) rfl dL_isSo_235 rfl ?_
    refine a_icmp_ne (pc' := 241) (tgt := 299) dL_isSo_238 (by decide) rfl (fun c_238_3 => absurd (z2 2 (by decide)) c_238_3) (fun c_238_3 => ?_)
    refine a_al_0_13 (pc' := 242) dL_isSo_241 rfl ?_
    refine a_il_6_13 (pc' := 244) dL_isSo_242 rfl ?_
    refine a_il_7_13 (pc' := 246) dL_isSo_244 rfl ?_
    refine a_iconst (v := nI 3) (pc' := 247) dL_isSo_246 (by decide) rfl ?_
    refine k_VI (pc' := 250) (ct_X6_zone hn _ _ _ M h0) cw_L_100 mi_X6_zone se_X6_zone rfl rfl rfl rfl (by decide) (by decide) (Nat.le_of_ble_eq_true rfl) rfl dL_isSo_247 rfl ?_
    refine a_al_2_13 (pc' := 251) dL_isSo_250 rfl ?_
    refine a_il_8_13 (pc' := 253) dL_isSo_251 rfl ?_
    refine a_iconst (v := nI 1) (pc' := 254) dL_isSo_253 (by decide) rfl ?_
    refine a_iaddN (pc' := 255) dL_isSo_254 rfl ?_
    refine a_ialdN (pc' := 256) rfl (by omega) (by decide) dL_isSo_255 rfl ?_
    refine a_icmp_ne (pc' := 259) (tgt := 299) dL_isSo_256 (by decide) rfl (fun c_256_3 => absurd (z3 2 (by decide)) c_256_3) (fun c_256_3 => ?_)
    refine a_al_0_13 (pc' := 260) dL_isSo_259 rfl ?_
    refine a_il_6_13 (pc' := 262) dL_isSo_260 rfl ?_
    refine a_il_7_13 (pc' := 264) dL_isSo_262 rfl ?_
    refine a_iconst (v := nI 4) (pc' := 265) dL_isSo_264 (by decide) rfl ?_
    refine k_VI (pc' := 268) (ct_X6_zone hn _ _ _ M h0) cw_L_100 mi_X6_zone se_X6_zone rfl rfl rfl rfl (by decide) (by decide) (Nat.le_of_ble_eq_true rfl) rfl dL_isSo_265 rfl ?_
    refine a_al_2_13 (pc' := 269) dL_isSo_268 rfl ?_
    refine a_il_8_13 (pc' := 271) dL_isSo_269 rfl ?_
    refine a_iconst (v := nI 3) (pc' := 272) dL_isSo_271 (by decide) rfl ?_
    refine a_iaddN (pc' := 273) dL_isSo_272 rfl ?_
    refine a_ialdN (pc' := 274) rfl (by omega) (by decide) dL_isSo_273 rfl ?_
    refine a_icmp_ne (pc' := 277) (tgt := 299) dL_isSo_274 (by decide) rfl (fun c_274_3 => absurd (z4 2 (by decide)) c_274_3) (fun c_274_3 => ?_)
    refine a_al_0_13 (pc' := 278) dL_isSo_277 rfl ?_
    refine a_il_6_13 (pc' := 280) dL_isSo_278 rfl ?_
    refine a_il_7_13 (pc' := 282) dL_isSo_280 rfl ?_
    refine a_iconst (v := nI 5) (pc' := 283) dL_isSo_282 (by decide) rfl ?_
    refine k_VI (pc' := 286) (ct_X6_zone hn _ _ _ M h0) cw_L_100 mi_X6_zone se_X6_zone rfl rfl rfl rfl (by decide) (by decide) (Nat.le_of_ble_eq_true rfl) rfl dL_isSo_283 rfl ?_
    refine a_al_2_13 (pc' := 287) dL_isSo_286 rfl ?_
    refine a_il_8_13 (pc' := 289) dL_isSo_287 rfl ?_
    refine a_iconst (v := nI 4) (pc' := 290) dL_isSo_289 (by decide) rfl ?_
    refine a_iaddN (pc' := 291) dL_isSo_290 rfl ?_
    refine a_ialdN (pc' := 292) rfl (by omega) (by decide) dL_isSo_291 rfl ?_
    refine a_icmp_ne (pc' := 295) (tgt := 299) dL_isSo_292 (by decide) rfl (fun c_292_3 => absurd (z5 2 (by decide)) c_292_3) (fun c_292_3 => ?_)
    refine a_iconst (v := nI 1) (pc' := 296) dL_isSo_295 (by decide) rfl ?_
    refine a_goto (pc' := 300) dL_isSo_296 (by decide) ?_
    refine a_is_4_13 (pc' := 302) dL_isSo_300 rfl ?_
    refine a_iN_7_13 (m := 3) (pc' := 305) dL_isSo_302 (nI_add _ _) rfl ?_
    refine a_goto (pc' := 145) dL_isSo_305 (by decide) ?_
    refine a_il_7_13 (pc' := 147) dL_isSo_145 rfl ?_
    refine a_iconst (v := nI 3) (pc' := 148) dL_isSo_147 (by decide) rfl ?_
    refine a_icmp_ge (pc' := 151) (tgt := 308) dL_isSo_148 (by decide) rfl (fun c_148_4 => ?_) (fun c_148_4 => absurd (by decide) c_148_4)
    refine a_iN_6_13 (m := p + 1) (pc' := 311) dL_isSo_308 (nI_add _ _) rfl ?_
    refine a_goto (pc' := 50) dL_isSo_311 (by decide) ?_
    exact ih (p + 1) _ _ _ (by omega) hΦ
set_option maxRecDepth 20000 in
set_option maxHeartbeats 4000000 in
theorem is_ab {G : Gl} {Φ : Option OV → Mm → Prop} {M : Mm} (h : INV M) {nv np : Nat} (h0 : M 0 0 = nI nv) (hn : nv ≤ 3) (h1 : M 0 1 = nI np) (hm : np ≤ 6) (kk : ∀ y7 y8 : Option OV, AW G cL_isSo RL 13 4 88 (some .boolean) Φ 314 [some (.inr (6, 0, 0, 0)), some (.inr (9, 50, 6, 0)), some (.inr (9, 51, 57, 0)), some (.inr (9, 52, 60, 0)), some (.inl (nI 1)), some (.inl (fndL (M 0) nv 0 (nI 0))), some (.inl (nI nv)), y7, y8, none, none, none, none] [] M) : AW G cL_isSo RL 13 4 88 (some .boolean) Φ 0 [some (.inr (6, 0, 0, 0)), some (.inr (9, 50, 6, 0)), some (.inr (9, 51, 57, 0)), some (.inr (9, 52, 60, 0)), none, none, none, none, none, none, none, none, none] [] M := by
  refine a_iconst (v := nI 1) (pc' := 1) dL_isSo_0 (by decide) rfl ?_
  refine a_is_4_13 (pc' := 3) dL_isSo_1 rfl ?_
  refine a_iconst (v := nI 0) (pc' := 4) dL_isSo_3 (by decide) rfl ?_
  refine a_is_5_13 (pc' := 6) dL_isSo_4 rfl ?_
  refine a_iconst (v := nI 0) (pc' := 7) dL_isSo_6 (by decide) rfl ?_
  refine a_is_6_13 (pc' := 9) dL_isSo_7 rfl ?_
  refine a_il_6_13 (pc' := 11) dL_isSo_9 rfl ?_
  refine a_bipush (v := nI 6) (pc' := 13) dL_isSo_11 (by decide) rfl ?_
  refine a_icmp_ge (pc' := 16) (tgt := 47) dL_isSo_13 (by decide) rfl (fun c_13 => absurd c_13 (by decide)) (fun c_13 => ?_)
  refine a_il_4_13 (pc' := 18) dL_isSo_16 rfl ?_
  refine a_if_eq (pc' := 21) (tgt := 38) dL_isSo_18 (by decide) rfl (fun c_18 => absurd c_18 (by decide)) (fun c_18 => ?_)
  refine a_al_0_13 (pc' := 22) dL_isSo_21 rfl ?_
  refine a_il_6_13 (pc' := 24) dL_isSo_22 rfl ?_
  refine k_VI (pc' := 27) (ct_X6_count hn _ M h0) cw_L_94 mi_X6_count se_X6_count rfl rfl rfl rfl (by decide) (by decide) (Nat.le_of_ble_eq_true rfl) rfl dL_isSo_24 rfl ?_
  refine a_al_1_13 (pc' := 28) dL_isSo_27 rfl ?_
  refine a_il_6_13 (pc' := 30) dL_isSo_28 rfl ?_
  refine a_ialdN (pc' := 31) rfl (by omega) (by decide) dL_isSo_30 rfl ?_
  refine a_icmp_ne (pc' := 34) (tgt := 38) dL_isSo_31 (by decide) rfl (fun c_31 => absurd ((cnt_k M (show 0 < 6 by decide)).trans (h.1.g (by decide)).symm) c_31) (fun c_31 => ?_)
  refine a_iconst (v := nI 1) (pc' := 35) dL_isSo_34 (by decide) rfl ?_
  refine a_goto (pc' := 39) dL_isSo_35 (by decide) ?_
  refine a_is_4_13 (pc' := 41) dL_isSo_39 rfl ?_
  refine a_iN_6_13 (m := 1) (pc' := 44) dL_isSo_41 (nI_add _ _) rfl ?_
  refine a_goto (pc' := 9) dL_isSo_44 (by decide) ?_
  refine a_il_6_13 (pc' := 11) dL_isSo_9 rfl ?_
  refine a_bipush (v := nI 6) (pc' := 13) dL_isSo_11 (by decide) rfl ?_
  refine a_icmp_ge (pc' := 16) (tgt := 47) dL_isSo_13 (by decide) rfl (fun c_13_2 => absurd c_13_2 (by decide)) (fun c_13_2 => ?_)
  refine a_il_4_13 (pc' := 18) dL_isSo_16 rfl ?_
  refine a_if_eq (pc' := 21) (tgt := 38) dL_isSo_18 (by decide) rfl (fun c_18_2 => absurd c_18_2 (by decide)) (fun c_18_2 => ?_)
  refine a_al_0_13 (pc' := 22) dL_isSo_21 rfl ?_
  refine a_il_6_13 (pc' := 24) dL_isSo_22 rfl ?_
  refine k_VI (pc' := 27) (ct_X6_count hn _ M h0) cw_L_94 mi_X6_count se_X6_count rfl rfl rfl rfl (by decide) (by decide) (Nat.le_of_ble_eq_true rfl) rfl dL_isSo_24 rfl ?_
  refine a_al_1_13 (pc' := 28) dL_isSo_27 rfl ?_
  refine a_il_6_13 (pc' := 30) dL_isSo_28 rfl ?_
  refine a_ialdN (pc' := 31) rfl (by omega) (by decide) dL_isSo_30 rfl ?_
  refine a_icmp_ne (pc' := 34) (tgt := 38) dL_isSo_31 (by decide) rfl (fun c_31_2 => absurd ((cnt_k M (show 1 < 6 by decide)).trans (h.1.g (by decide)).symm) c_31_2) (fun c_31_2 => ?_)
  refine a_iconst (v := nI 1) (pc' := 35) dL_isSo_34 (by decide) rfl ?_
  refine a_goto (pc' := 39) dL_isSo_35 (by decide) ?_
  refine a_is_4_13 (pc' := 41) dL_isSo_39 rfl ?_
  refine a_iN_6_13 (m := 2) (pc' := 44) dL_isSo_41 (nI_add _ _) rfl ?_
  refine a_goto (pc' := 9) dL_isSo_44 (by decide) ?_
  refine a_il_6_13 (pc' := 11) dL_isSo_9 rfl ?_
  refine a_bipush (v := nI 6) (pc' := 13) dL_isSo_11 (by decide) rfl ?_
  refine a_icmp_ge (pc' := 16) (tgt := 47) dL_isSo_13 (by decide) rfl (fun c_13_3 => absurd c_13_3 (by decide)) (fun c_13_3 => ?_)
  refine a_il_4_13 (pc' := 18) dL_isSo_16 rfl ?_
  refine a_if_eq (pc' := 21) (tgt := 38) dL_isSo_18 (by decide) rfl (fun c_18_3 => absurd c_18_3 (by decide)) (fun c_18_3 => ?_)
  refine a_al_0_13 (pc' := 22) dL_isSo_21 rfl ?_
  refine a_il_6_13 (pc' := 24) dL_isSo_22 rfl ?_
  refine k_VI (pc' := 27) (ct_X6_count hn _ M h0) cw_L_94 mi_X6_count se_X6_count rfl rfl rfl rfl (by decide) (by decide) (Nat.le_of_ble_eq_true rfl) rfl dL_isSo_24 rfl ?_
  refine a_al_1_13 (pc' := 28) dL_isSo_27 rfl ?_
  refine a_il_6_13 (pc' := 30) dL_isSo_28 rfl ?_
  refine a_ialdN (pc' := 31) rfl (by omega) (by decide) dL_isSo_30 rfl ?_
  refine a_icmp_ne (pc' := 34) (tgt := 38) dL_isSo_31 (by decide) rfl (fun c_31_3 => absurd ((cnt_k M (show 2 < 6 by decide)).trans (h.1.g (by decide)).symm) c_31_3) (fun c_31_3 => ?_)
  refine a_iconst (v := nI 1) (pc' := 35) dL_isSo_34 (by decide) rfl ?_
  refine a_goto (pc' := 39) dL_isSo_35 (by decide) ?_
  refine a_is_4_13 (pc' := 41) dL_isSo_39 rfl ?_
  refine a_iN_6_13 (m := 3) (pc' := 44) dL_isSo_41 (nI_add _ _) rfl ?_
  refine a_goto (pc' := 9) dL_isSo_44 (by decide) ?_
  refine a_il_6_13 (pc' := 11) dL_isSo_9 rfl ?_
  refine a_bipush (v := nI 6) (pc' := 13) dL_isSo_11 (by decide) rfl ?_
  refine a_icmp_ge (pc' := 16) (tgt := 47) dL_isSo_13 (by decide) rfl (fun c_13_4 => absurd c_13_4 (by decide)) (fun c_13_4 => ?_)
  refine a_il_4_13 (pc' := 18) dL_isSo_16 rfl ?_
  refine a_if_eq (pc' := 21) (tgt := 38) dL_isSo_18 (by decide) rfl (fun c_18_4 => absurd c_18_4 (by decide)) (fun c_18_4 => ?_)
  refine a_al_0_13 (pc' := 22) dL_isSo_21 rfl ?_
  refine a_il_6_13 (pc' := 24) dL_isSo_22 rfl ?_
  refine k_VI (pc' := 27) (ct_X6_count hn _ M h0) cw_L_94 mi_X6_count se_X6_count rfl rfl rfl rfl (by decide) (by decide) (Nat.le_of_ble_eq_true rfl) rfl dL_isSo_24 rfl ?_
  refine a_al_1_13 (pc' := 28) dL_isSo_27 rfl ?_
  refine a_il_6_13 (pc' := 30) dL_isSo_28 rfl ?_
  refine a_ialdN (pc' := 31) rfl (by omega) (by decide) dL_isSo_30 rfl ?_
  refine a_icmp_ne (pc' := 34) (tgt := 38) dL_isSo_31 (by decide) rfl (fun c_31_4 => absurd ((cnt_k M (show 3 < 6 by decide)).trans (h.1.g (by decide)).symm) c_31_4) (fun c_31_4 => ?_)
  refine a_iconst (v := nI 1) (pc' := 35) dL_isSo_34 (by decide) rfl ?_
  refine a_goto (pc' := 39) dL_isSo_35 (by decide) ?_
  refine a_is_4_13 (pc' := 41) dL_isSo_39 rfl ?_
  refine a_iN_6_13 (m := 4) (pc' := 44) dL_isSo_41 (nI_add _ _) rfl ?_
  refine a_goto (pc' := 9) dL_isSo_44 (by decide) ?_
  refine a_il_6_13 (pc' := 11) dL_isSo_9 rfl ?_
  refine a_bipush (v := nI 6) (pc' := 13) dL_isSo_11 (by decide) rfl ?_
  refine a_icmp_ge (pc' := 16) (tgt := 47) dL_isSo_13 (by decide) rfl (fun c_13_5 => absurd c_13_5 (by decide)) (fun c_13_5 => ?_)
  refine a_il_4_13 (pc' := 18) dL_isSo_16 rfl ?_
  refine a_if_eq (pc' := 21) (tgt := 38) dL_isSo_18 (by decide) rfl (fun c_18_5 => absurd c_18_5 (by decide)) (fun c_18_5 => ?_)
  refine a_al_0_13 (pc' := 22) dL_isSo_21 rfl ?_
  refine a_il_6_13 (pc' := 24) dL_isSo_22 rfl ?_
  refine k_VI (pc' := 27) (ct_X6_count hn _ M h0) cw_L_94 mi_X6_count se_X6_count rfl rfl rfl rfl (by decide) (by decide) (Nat.le_of_ble_eq_true rfl) rfl dL_isSo_24 rfl ?_
  refine a_al_1_13 (pc' := 28) dL_isSo_27 rfl ?_
  refine a_il_6_13 (pc' := 30) dL_isSo_28 rfl ?_
  refine a_ialdN (pc' := 31) rfl (by omega) (by decide) dL_isSo_30 rfl ?_
  refine a_icmp_ne (pc' := 34) (tgt := 38) dL_isSo_31 (by decide) rfl (fun c_31_5 => absurd ((cnt_k M (show 4 < 6 by decide)).trans (h.1.g (by decide)).symm) c_31_5) (fun c_31_5 => ?_)
  refine a_iconst (v := nI 1) (pc' := 35) dL_isSo_34 (by decide) rfl ?_
  refine a_goto (pc' := 39) dL_isSo_35 (by decide) ?_
  refine a_is_4_13 (pc' := 41) dL_isSo_39 rfl ?_
  refine a_iN_6_13 (m := 5) (pc' := 44) dL_isSo_41 (nI_add _ _) rfl ?_
  refine a_goto (pc' := 9) dL_isSo_44 (by decide) ?_
  refine a_il_6_13 (pc' := 11) dL_isSo_9 rfl ?_
  refine a_bipush (v := nI 6) (pc' := 13) dL_isSo_11 (by decide) rfl ?_
  refine a_icmp_ge (pc' := 16) (tgt := 47) dL_isSo_13 (by decide) rfl (fun c_13_6 => absurd c_13_6 (by decide)) (fun c_13_6 => ?_)
  refine a_il_4_13 (pc' := 18) dL_isSo_16 rfl ?_
  refine a_if_eq (pc' := 21) (tgt := 38) dL_isSo_18 (by decide) rfl (fun c_18_6 => absurd c_18_6 (by decide)) (fun c_18_6 => ?_)
  refine a_al_0_13 (pc' := 22) dL_isSo_21 rfl ?_
  refine a_il_6_13 (pc' := 24) dL_isSo_22 rfl ?_
  refine k_VI (pc' := 27) (ct_X6_count hn _ M h0) cw_L_94 mi_X6_count se_X6_count rfl rfl rfl rfl (by decide) (by decide) (Nat.le_of_ble_eq_true rfl) rfl dL_isSo_24 rfl ?_
  refine a_al_1_13 (pc' := 28) dL_isSo_27 rfl ?_
  refine a_il_6_13 (pc' := 30) dL_isSo_28 rfl ?_
  refine a_ialdN (pc' := 31) rfl (by omega) (by decide) dL_isSo_30 rfl ?_
  refine a_icmp_ne (pc' := 34) (tgt := 38) dL_isSo_31 (by decide) rfl (fun c_31_6 => absurd ((cnt_k M (show 5 < 6 by decide)).trans (h.1.g (by decide)).symm) c_31_6) (fun c_31_6 => ?_)
  refine a_iconst (v := nI 1) (pc' := 35) dL_isSo_34 (by decide) rfl ?_
  refine a_goto (pc' := 39) dL_isSo_35 (by decide) ?_
  refine a_is_4_13 (pc' := 41) dL_isSo_39 rfl ?_
  refine a_iN_6_13 (m := 6) (pc' := 44) dL_isSo_41 (nI_add _ _) rfl ?_
  refine a_goto (pc' := 9) dL_isSo_44 (by decide) ?_
  refine a_il_6_13 (pc' := 11) dL_isSo_9 rfl ?_
  refine a_bipush (v := nI 6) (pc' := 13) dL_isSo_11 (by decide) rfl ?_
  refine a_icmp_ge (pc' := 16) (tgt := 47) dL_isSo_13 (by decide) rfl (fun c_13_7 => ?_) (fun c_13_7 => absurd (by decide) c_13_7)
  refine a_iconst (v := nI 0) (pc' := 48) dL_isSo_47 (by decide) rfl ?_
  refine a_is_6_13 (pc' := 50) dL_isSo_48 rfl ?_
  exact lp_L_isSo_van h h0 hn h1 hm nv 0 _ _ _ (by omega) (fun y7 y8 => kk _ _)
theorem cause_4 (F : Nat → Int32) (p : Nat) : causeP F p = nI 0 ∨ causeP F p = nI 1 ∨ causeP F p = nI 2 ∨ causeP F p = nI 3 := by
  unfold causeP
  split
  · split
    · split
      · exact Or.inr (Or.inr (Or.inl rfl))
      · exact Or.inr (Or.inl rfl)
    · exact Or.inr (Or.inr (Or.inr rfl))
  · exact Or.inl rfl
theorem c_rej {F : Nat → Int32} {p : Nat} (h : ¬ causeP F p = nI 0) : rejP F p = true := by
  cases e : rejP F p with
  | true => rfl
  | false => exact absurd (by unfold causeP; rw [e]; rfl) h
theorem c_rej0 {F : Nat → Int32} {p : Nat} (h : causeP F p = nI 0) : rejP F p = false := by
  cases e : rejP F p with
  | false => rfl
  | true =>
    unfold causeP at h
    rw [e, if_pos rfl] at h
    split at h
    · split at h
      · exact absurd h (by decide)
      · exact absurd h (by decide)
    · exact absurd h (by decide)
theorem c_warm {F : Nat → Int32} {p : Nat} (h : ¬ causeP F p = nI 0) (h3 : ¬ causeP F p = nI 3) : F (63 + 10 * p + 3) < F (63 + 10 * p + 6) + F (63 + 10 * p + 7) := by
  refine Decidable.byContradiction fun q => h3 ?_
  unfold causeP
  rw [c_rej h, if_pos rfl, if_neg q]
theorem cl_rej {F : Nat → Int32} {p : Nat} (h : ¬ causeP F p = nI 0) : claimP F p = F (63 + 10 * p + 4) + F (63 + 10 * p + 9) := by unfold claimP; rw [c_rej h]; rfl
theorem cl_0 {F : Nat → Int32} {p : Nat} (h : causeP F p = nI 0) : claimP F p = nI 0 := by unfold claimP; rw [c_rej0 h]; rfl
theorem door_0 {F : Nat → Int32} {p : Nat} (h : causeP F p = nI 0) : doorP F p = nI 0 := by
  unfold doorP
  split
  · rfl
  · rw [cl_0 h, nI_0, Int32.zero_mul, Int32.zero_div]
theorem by_12 {F : Nat → Int32} {p : Nat} (h3 : ¬ causeP F p = nI 3) : claimByP F p (nI 1) = doorP F p ∧ claimByP F p (nI 2) = claimP F p - doorP F p ∧ claimByP F p (nI 3) = nI 0 := by
  refine ⟨?_, ?_, ?_⟩
  · unfold claimByP; rw [if_neg (fun q => q.elim h3 (by decide)), if_pos rfl]
  · unfold claimByP; rw [if_neg (fun q => q.elim h3 (by decide)), if_neg (by decide)]
  · unfold claimByP; rw [if_pos (Or.inr rfl), if_neg h3]
theorem by_3 {F : Nat → Int32} {p : Nat} (h3 : causeP F p = nI 3) : claimByP F p (nI 1) = nI 0 ∧ claimByP F p (nI 2) = nI 0 ∧ claimByP F p (nI 3) = claimP F p := by
  refine ⟨?_, ?_, ?_⟩
  · unfold claimByP; rw [if_pos (Or.inl h3), h3, if_neg (by decide)]
  · unfold claimByP; rw [if_pos (Or.inl h3), h3, if_neg (by decide)]
  · unfold claimByP; rw [if_pos (Or.inl h3), h3, if_pos rfl]
set_option maxRecDepth 20000 in
set_option maxHeartbeats 4000000 in
theorem lb_pal0 {G : Gl} {Φ : Option OV → Mm → Prop} {M : Mm} (h : INV M) {np p : Nat} (h1 : M 0 1 = nI np) (hm : np ≤ 6) (hp : p < np) (hf : FL G) (hc : causeP (M 0) p = nI 0) (fd al : Int32) (f : Nat → Int32) (x9 x10 x11 x12 : Option OV) (kx : ∀ y9 y10 y11 y12 : Option OV, AW G cL_isSo RL 13 4 88 (some .boolean) Φ 325 [some (.inr (6, 0, 0, 0)), some (.inr (9, 50, 6, 0)), some (.inr (9, 51, 57, 0)), some (.inr (9, 52, 60, 0)), some (.inl (nI 1)), some (.inl fd), some (.inl (al + claimP (M 0) p)), some (.inr (9, 53, 4, 0)), some (.inl (nI (p + 1))), y9, y10, y11, y12] [] (setR M 53 (upd (upd (upd f 1 (f 1 + claimByP (M 0) p (nI 1))) 2 (f 2 + claimByP (M 0) p (nI 2))) 3 (f 3 + claimByP (M 0) p (nI 3))))) : AW G cL_isSo RL 13 4 88 (some .boolean) Φ 325 [some (.inr (6, 0, 0, 0)), some (.inr (9, 50, 6, 0)), some (.inr (9, 51, 57, 0)), some (.inr (9, 52, 60, 0)), some (.inl (nI 1)), some (.inl fd), some (.inl al), some (.inr (9, 53, 4, 0)), some (.inl (nI p)), x9, x10, x11, x12] [] (setR M 53 f) := by
  have hLf : ∀ f, LA (setR M 53 f) (M 0) := fun f => h.1.moved (setR_ne _ _ (by decide)) (setR_ne _ _ (by decide)) (setR_ne _ _ (by decide))
  have m0f : ∀ f, setR M 53 f 0 = M 0 := fun f => setR_ne _ _ (by decide)
  have h1f : ∀ f, setR M 53 f 0 1 = nI np := fun f => by rw [m0f]; exact h1
  obtain ⟨⟨t, ht, hg⟩, hqw⟩ := id h.2.1
  have hp6 : p < 6 := by omega
  have hst := hg.state (p := p) (by omega)
  have hcp : vN (nI p) = p := vN_nI (by omega)
  have hpt := hp_t h1 (by omega) hp
  obtain ⟨w, hw, ev⟩ := hg.pv (p := p) (by omega)
  obtain ⟨y, hy, ez⟩ := hg.pz (p := p) (by omega)
  have hp0 : ∀ f, setR M 53 f 52 (10 * p) = nI (3 * w + y) := fun f => by rw [(hLf f).p0 hp6, ev, ez, pk_mul, nI_add]
  have h3w : (3 * w + y) / 3 = w := by omega
  have h3y : (3 * w + y) % 3 = y := by omega
  have pq : ∀ k, pqS (M 0) (nI p) k = propP (M 0) p k := fun k => by unfold pqS; rw [if_pos hpt, hcp]
  have p0 : pqS (M 0) (nI p) (nI 0) = nI w := by rw [pq]; exact ev
  have p1 : pqS (M 0) (nI p) (nI 1) = nI y := by rw [pq]; exact ez
  have p2 : pqS (M 0) (nI p) (nI 2) = M 0 (63 + 10 * p + 2) := by rw [pq]; rfl
  have p3 : pqS (M 0) (nI p) (nI 3) = M 0 (63 + 10 * p + 3) := by rw [pq]; rfl
  have p4 : pqS (M 0) (nI p) (nI 4) = M 0 (63 + 10 * p + 4) := by rw [pq]; rfl
  have p5 : pqS (M 0) (nI p) (nI 5) = M 0 (63 + 10 * p + 5) := by rw [pq]; rfl
  have p6 : pqS (M 0) (nI p) (nI 6) = M 0 (63 + 10 * p + 6) := by rw [pq]; rfl
  have p7 : pqS (M 0) (nI p) (nI 7) = M 0 (63 + 10 * p + 7) := by rw [pq]; rfl
  have p8 : pqS (M 0) (nI p) (nI 8) = M 0 (63 + 10 * p + 8) := by rw [pq]; rfl
  have p10 : pqS (M 0) (nI p) (nI 10) = M 0 (63 + 10 * p + 9) := by rw [pq]; rfl
  have p9 : pqS (M 0) (nI p) (nI 9) = nI 0 := by rw [pq]; exact hc
  have hk0 : claimP (M 0) p = nI 0 := cl_0 hc
  have hb := by_12 (F := M 0) (p := p) (by rw [hc]; decide)
  have hk1 : claimByP (M 0) p (nI 1) = nI 0 := by rw [hb.1, door_0 hc]
  have hk2 : claimByP (M 0) p (nI 2) = nI 0 := by rw [hb.2.1, door_0 hc, hk0]; rfl
  have hk3 : claimByP (M 0) p (nI 3) = nI 0 := hb.2.2
  refine a_il_8_13 (pc' := 327) dL_isSo_325 rfl ?_
  refine a_al_1_13 (pc' := 328) dL_isSo_327 rfl ?_
  refine a_iconst (v := nI 1) (pc' := 329) dL_isSo_328 (by decide) rfl ?_
  refine a_ialdN (pc' := 330) rfl (by omega) (by decide) dL_isSo_329 rfl ?_
  rw [(hLf _).g (show 1 < 6 by decide), h1]
  refine a_icmp_ge (pc' := 333) (tgt := 675) dL_isSo_330 (by decide) rfl (fun c_330 => absurd c_330 (nI_ge (by omega) (by omega))) (fun c_330 => ?_)
  refine a_il_4_13 (pc' := 335) dL_isSo_333 rfl ?_
  refine a_if_eq (pc' := 338) (tgt := 675) dL_isSo_335 (by decide) rfl (fun c_335 => absurd c_335 (by decide)) (fun c_335 => ?_)
  refine a_bipush (v := nI 10) (pc' := 340) dL_isSo_338 (by decide) rfl ?_
  refine a_il_8_13 (pc' := 342) dL_isSo_340 rfl ?_
  refine a_imulN (pc' := 343) dL_isSo_342 rfl ?_
  refine a_is_9_13 (pc' := 345) dL_isSo_343 rfl ?_
  refine a_al_3_13 (pc' := 346) dL_isSo_345 rfl ?_
  refine a_il_8_13 (pc' := 348) dL_isSo_346 rfl ?_
  refine k_SI (pc' := 351) (ct_L_cause hp6 _ (hLf _) hst) cw_L_103 ms_L_cause rfl (by decide) (by decide) (Nat.le_of_ble_eq_true rfl) rfl dL_isSo_348 rfl ?_
  rw [hc]
  refine a_is_10_13 (pc' := 353) dL_isSo_351 rfl ?_
  refine a_al_3_13 (pc' := 354) dL_isSo_353 rfl ?_
  refine a_il_9_13 (pc' := 356) dL_isSo_354 rfl ?_
  refine a_iconst (v := nI 3) (pc' := 357) dL_isSo_356 (by decide) rfl ?_
  refine a_iaddN (pc' := 358) dL_isSo_357 rfl ?_
  refine a_ialdN (pc' := 359) rfl (by omega) (by decide) dL_isSo_358 rfl ?_
  rw [(hLf _).p hp6 3 4 (by decide) (by decide) rfl]
  refine a_al_3_13 (pc' := 360) dL_isSo_359 rfl ?_
  refine a_il_9_13 (pc' := 362) dL_isSo_360 rfl ?_
  refine a_bipush (v := nI 8) (pc' := 364) dL_isSo_362 (by decide) rfl ?_
  refine a_iaddN (pc' := 365) dL_isSo_364 rfl ?_
  refine a_ialdN (pc' := 366) rfl (by omega) (by decide) dL_isSo_365 rfl ?_
  rw [(hLf _).p hp6 8 9 (by decide) (by decide) rfl]
  refine a_iadd (pc' := 367) dL_isSo_366 rfl ?_
  refine a_is_11_13 (pc' := 369) dL_isSo_367 rfl ?_
  refine a_il_10_13 (pc' := 371) dL_isSo_369 rfl ?_
  refine a_if_eq (pc' := 374) (tgt := 380) dL_isSo_371 (by decide) rfl (fun c_371 => ?_) (fun c_371 => absurd (by decide) c_371)
  refine a_iconst (v := nI 0) (pc' := 381) dL_isSo_380 (by decide) rfl ?_
  refine a_goto (pc' := 408) dL_isSo_381 (by decide) ?_
  refine a_is_12_13 (pc' := 410) dL_isSo_408 rfl ?_
  refine a_il_6_13 (pc' := 412) dL_isSo_410 rfl ?_
  refine a_il_10_13 (pc' := 414) dL_isSo_412 rfl ?_
  refine a_if_le (pc' := 417) (tgt := 422) dL_isSo_414 (by decide) rfl (fun c_414 => ?_) (fun c_414 => absurd (by decide) c_414)
  refine a_iconst (v := nI 0) (pc' := 423) dL_isSo_422 (by decide) rfl ?_
  refine a_iadd (pc' := 424) dL_isSo_423 rfl ?_
  refine a_is_6_13 (pc' := 426) dL_isSo_424 rfl ?_
  refine a_al_7_13 (pc' := 428) dL_isSo_426 rfl ?_
  refine a_iconst (v := nI 1) (pc' := 429) dL_isSo_428 (by decide) rfl ?_
  refine a_dup2 (pc' := 430) dL_isSo_429 rfl ?_
  refine a_iald53N (pc' := 431) hf (by decide) dL_isSo_430 rfl ?_
  rw [setR_same]
  refine a_il_12_13 (pc' := 433) dL_isSo_431 rfl ?_
  refine a_iadd (pc' := 434) dL_isSo_433 rfl ?_
  refine a_iast53N (pc' := 435) hf (by decide) dL_isSo_434 rfl ?_
  rw [wr_eq, setR_same, setR_setR]
  refine a_al_7_13 (pc' := 437) dL_isSo_435 rfl ?_
  refine a_iconst (v := nI 2) (pc' := 438) dL_isSo_437 (by decide) rfl ?_
  refine a_dup2 (pc' := 439) dL_isSo_438 rfl ?_
  refine a_iald53N (pc' := 440) hf (by decide) dL_isSo_439 rfl ?_
  rw [setR_same, upd_at, if_neg (by decide)]
  refine a_il_10_13 (pc' := 442) dL_isSo_440 rfl ?_
  refine a_iconst (v := nI 1) (pc' := 443) dL_isSo_442 (by decide) rfl ?_
  refine a_icmp_eq (pc' := 446) (tgt := 452) dL_isSo_443 (by decide) rfl (fun c_443 => absurd c_443 (by decide)) (fun c_443 => ?_)
  refine a_il_10_13 (pc' := 448) dL_isSo_446 rfl ?_
  refine a_iconst (v := nI 2) (pc' := 449) dL_isSo_448 (by decide) rfl ?_
  refine a_icmp_ne (pc' := 452) (tgt := 460) dL_isSo_449 (by decide) rfl (fun c_449 => ?_) (fun c_449 => absurd c_449 (by decide))
  refine a_iconst (v := nI 0) (pc' := 461) dL_isSo_460 (by decide) rfl ?_
  refine a_iadd (pc' := 462) dL_isSo_461 rfl ?_
  refine a_iast53N (pc' := 463) hf (by decide) dL_isSo_462 rfl ?_
  rw [wr_eq, setR_same, setR_setR]
  refine a_al_7_13 (pc' := 465) dL_isSo_463 rfl ?_
  refine a_iconst (v := nI 3) (pc' := 466) dL_isSo_465 (by decide) rfl ?_
  refine a_dup2 (pc' := 467) dL_isSo_466 rfl ?_
  refine a_iald53N (pc' := 468) hf (by decide) dL_isSo_467 rfl ?_
  rw [setR_same, upd_at, if_neg (by decide), upd_at, if_neg (by decide)]
  refine a_il_10_13 (pc' := 470) dL_isSo_468 rfl ?_
  refine a_iconst (v := nI 3) (pc' := 471) dL_isSo_470 (by decide) rfl ?_
  refine a_icmp_ne (pc' := 474) (tgt := 479) dL_isSo_471 (by decide) rfl (fun c_471 => ?_) (fun c_471 => absurd c_471 (by decide))
  refine a_iconst (v := nI 0) (pc' := 480) dL_isSo_479 (by decide) rfl ?_
  refine a_iadd (pc' := 481) dL_isSo_480 rfl ?_
  refine a_iast53N (pc' := 482) hf (by decide) dL_isSo_481 rfl ?_
  rw [wr_eq, setR_same, setR_setR]
  refine a_al_0_13 (pc' := 483) dL_isSo_482 rfl ?_
  refine a_il_8_13 (pc' := 485) dL_isSo_483 rfl ?_
  refine a_iconst (v := nI 0) (pc' := 486) dL_isSo_485 (by decide) rfl ?_
  refine k_VI (pc' := 489) (ct_X6_pallet (show np ≤ 12 by omega) _ _ _ (h1f _)) cw_L_106 mi_X6_pallet se_X6_pallet rfl rfl rfl rfl (by decide) (by decide) (Nat.le_of_ble_eq_true rfl) rfl dL_isSo_486 rfl ?_
  rw [m0f]
  refine a_al_3_13 (pc' := 490) dL_isSo_489 rfl ?_
  refine a_il_9_13 (pc' := 492) dL_isSo_490 rfl ?_
  refine a_ialdN (pc' := 493) rfl (by omega) (by decide) dL_isSo_492 rfl ?_
  rw [hp0]
  refine a_iconst (v := nI 3) (pc' := 494) dL_isSo_493 (by decide) rfl ?_
  refine a_idivN (pc' := 495) (by omega) (by decide) (by decide) dL_isSo_494 rfl ?_
  rw [h3w]
  refine a_icmp_ne (pc' := 498) (tgt := 666) dL_isSo_495 (by decide) rfl (fun c_495 => absurd p0 c_495) (fun c_495 => ?_)
  refine a_al_0_13 (pc' := 499) dL_isSo_498 rfl ?_
  refine a_il_8_13 (pc' := 501) dL_isSo_499 rfl ?_
  refine a_iconst (v := nI 1) (pc' := 502) dL_isSo_501 (by decide) rfl ?_
  refine k_VI (pc' := 505) (ct_X6_pallet (show np ≤ 12 by omega) _ _ _ (h1f _)) cw_L_106 mi_X6_pallet se_X6_pallet rfl rfl rfl rfl (by decide) (by decide) (Nat.le_of_ble_eq_true rfl) rfl dL_isSo_502 rfl ?_
  rw [m0f]
  refine a_al_3_13 (pc' := 506) dL_isSo_505 rfl ?_
  refine a_il_9_13 (pc' := 508) dL_isSo_506 rfl ?_
  refine a_ialdN (pc' := 509) rfl (by omega) (by decide) dL_isSo_508 rfl ?_
  rw [hp0]
  refine a_iconst (v := nI 3) (pc' := 510) dL_isSo_509 (by decide) rfl ?_
  refine a_iremN (pc' := 511) (by omega) (by decide) (by decide) dL_isSo_510 rfl ?_
  rw [h3y]
  refine a_icmp_ne (pc' := 514) (tgt := 666) dL_isSo_511 (by decide) rfl (fun c_511 => absurd p1 c_511) (fun c_511 => ?_)
  refine a_al_0_13 (pc' := 515) dL_isSo_514 rfl ?_
  refine a_il_8_13 (pc' := 517) dL_isSo_515 rfl ?_
  refine a_iconst (v := nI 2) (pc' := 518) dL_isSo_517 (by decide) rfl ?_
  refine k_VI (pc' := 521) (ct_X6_pallet (show np ≤ 12 by omega) _ _ _ (h1f _)) cw_L_106 mi_X6_pallet se_X6_pallet rfl rfl rfl rfl (by decide) (by decide) (Nat.le_of_ble_eq_true rfl) rfl dL_isSo_518 rfl ?_
  rw [m0f]
  refine a_al_3_13 (pc' := 522) dL_isSo_521 rfl ?_
  refine a_il_9_13 (pc' := 524) dL_isSo_522 rfl ?_
  refine a_iconst (v := nI 1) (pc' := 525) dL_isSo_524 (by decide) rfl ?_
  refine a_iaddN (pc' := 526) dL_isSo_525 rfl ?_
  refine a_ialdN (pc' := 527) rfl (by omega) (by decide) dL_isSo_526 rfl ?_
  rw [(hLf _).p hp6 1 2 (by decide) (by decide) rfl]
  refine a_icmp_ne (pc' := 530) (tgt := 666) dL_isSo_527 (by decide) rfl (fun c_527 => absurd p2 c_527) (fun c_527 => ?_)
  refine a_al_0_13 (pc' := 531) dL_isSo_530 rfl ?_
  refine a_il_8_13 (pc' := 533) dL_isSo_531 rfl ?_
  refine a_iconst (v := nI 3) (pc' := 534) dL_isSo_533 (by decide) rfl ?_
  refine k_VI (pc' := 537) (ct_X6_pallet (show np ≤ 12 by omega) _ _ _ (h1f _)) cw_L_106 mi_X6_pallet se_X6_pallet rfl rfl rfl rfl (by decide) (by decide) (Nat.le_of_ble_eq_true rfl) rfl dL_isSo_534 rfl ?_
  rw [m0f]
  refine a_al_3_13 (pc' := 538) dL_isSo_537 rfl ?_
  refine a_il_9_13 (pc' := 540) dL_isSo_538 rfl ?_
  refine a_iconst (v := nI 2) (pc' := 541) dL_isSo_540 (by decide) rfl ?_
  refine a_iaddN (pc' := 542) dL_isSo_541 rfl ?_
  refine a_ialdN (pc' := 543) rfl (by omega) (by decide) dL_isSo_542 rfl ?_
  rw [(hLf _).p hp6 2 3 (by decide) (by decide) rfl]
  refine a_icmp_ne (pc' := 546) (tgt := 666) dL_isSo_543 (by decide) rfl (fun c_543 => absurd p3 c_543) (fun c_543 => ?_)
  refine a_al_0_13 (pc' := 547) dL_isSo_546 rfl ?_
  refine a_il_8_13 (pc' := 549) dL_isSo_547 rfl ?_
  refine a_iconst (v := nI 4) (pc' := 550) dL_isSo_549 (by decide) rfl ?_
  refine k_VI (pc' := 553) (ct_X6_pallet (show np ≤ 12 by omega) _ _ _ (h1f _)) cw_L_106 mi_X6_pallet se_X6_pallet rfl rfl rfl rfl (by decide) (by decide) (Nat.le_of_ble_eq_true rfl) rfl dL_isSo_550 rfl ?_
  rw [m0f]
  refine a_al_3_13 (pc' := 554) dL_isSo_553 rfl ?_
  refine a_il_9_13 (pc' := 556) dL_isSo_554 rfl ?_
  refine a_iconst (v := nI 3) (pc' := 557) dL_isSo_556 (by decide) rfl ?_
  refine a_iaddN (pc' := 558) dL_isSo_557 rfl ?_
  refine a_ialdN (pc' := 559) rfl (by omega) (by decide) dL_isSo_558 rfl ?_
  rw [(hLf _).p hp6 3 4 (by decide) (by decide) rfl]
  refine a_icmp_ne (pc' := 562) (tgt := 666) dL_isSo_559 (by decide) rfl (fun c_559 => absurd p4 c_559) (fun c_559 => ?_)
  refine a_al_0_13 (pc' := 563) dL_isSo_562 rfl ?_
  refine a_il_8_13 (pc' := 565) dL_isSo_563 rfl ?_
  refine a_iconst (v := nI 5) (pc' := 566) dL_isSo_565 (by decide) rfl ?_
  refine k_VI (pc' := 569) (ct_X6_pallet (show np ≤ 12 by omega) _ _ _ (h1f _)) cw_L_106 mi_X6_pallet se_X6_pallet rfl rfl rfl rfl (by decide) (by decide) (Nat.le_of_ble_eq_true rfl) rfl dL_isSo_566 rfl ?_
  rw [m0f]
  refine a_al_3_13 (pc' := 570) dL_isSo_569 rfl ?_
  refine a_il_9_13 (pc' := 572) dL_isSo_570 rfl ?_
  refine a_iconst (v := nI 4) (pc' := 573) dL_isSo_572 (by decide) rfl ?_
  refine a_iaddN (pc' := 574) dL_isSo_573 rfl ?_
  refine a_ialdN (pc' := 575) rfl (by omega) (by decide) dL_isSo_574 rfl ?_
  rw [(hLf _).p hp6 4 5 (by decide) (by decide) rfl]
  refine a_icmp_ne (pc' := 578) (tgt := 666) dL_isSo_575 (by decide) rfl (fun c_575 => absurd p5 c_575) (fun c_575 => ?_)
  refine a_al_0_13 (pc' := 579) dL_isSo_578 rfl ?_
  refine a_il_8_13 (pc' := 581) dL_isSo_579 rfl ?_
  refine a_bipush (v := nI 6) (pc' := 583) dL_isSo_581 (by decide) rfl ?_
  refine k_VI (pc' := 586) (ct_X6_pallet (show np ≤ 12 by omega) _ _ _ (h1f _)) cw_L_106 mi_X6_pallet se_X6_pallet rfl rfl rfl rfl (by decide) (by decide) (Nat.le_of_ble_eq_true rfl) rfl dL_isSo_583 rfl ?_
  rw [m0f]
  refine a_al_3_13 (pc' := 587) dL_isSo_586 rfl ?_
  refine a_il_9_13 (pc' := 589) dL_isSo_587 rfl ?_
  refine a_iconst (v := nI 5) (pc' := 590) dL_isSo_589 (by decide) rfl ?_
  refine a_iaddN (pc' := 591) dL_isSo_590 rfl ?_
  refine a_ialdN (pc' := 592) rfl (by omega) (by decide) dL_isSo_591 rfl ?_
  rw [(hLf _).p hp6 5 6 (by decide) (by decide) rfl]
  refine a_icmp_ne (pc' := 595) (tgt := 666) dL_isSo_592 (by decide) rfl (fun c_592 => absurd p6 c_592) (fun c_592 => ?_)
  refine a_al_0_13 (pc' := 596) dL_isSo_595 rfl ?_
  refine a_il_8_13 (pc' := 598) dL_isSo_596 rfl ?_
  refine a_bipush (v := nI 7) (pc' := 600) dL_isSo_598 (by decide) rfl ?_
  refine k_VI (pc' := 603) (ct_X6_pallet (show np ≤ 12 by omega) _ _ _ (h1f _)) cw_L_106 mi_X6_pallet se_X6_pallet rfl rfl rfl rfl (by decide) (by decide) (Nat.le_of_ble_eq_true rfl) rfl dL_isSo_600 rfl ?_
  rw [m0f]
  refine a_al_3_13 (pc' := 604) dL_isSo_603 rfl ?_
  refine a_il_9_13 (pc' := 606) dL_isSo_604 rfl ?_
  refine a_bipush (v := nI 6) (pc' := 608) dL_isSo_606 (by decide) rfl ?_
  refine a_iaddN (pc' := 609) dL_isSo_608 rfl ?_
  refine a_ialdN (pc' := 610) rfl (by omega) (by decide) dL_isSo_609 rfl ?_
  rw [(hLf _).p hp6 6 7 (by decide) (by decide) rfl]
  refine a_icmp_ne (pc' := 613) (tgt := 666) dL_isSo_610 (by decide) rfl (fun c_610 => absurd p7 c_610) (fun c_610 => ?_)
  refine a_al_0_13 (pc' := 614) dL_isSo_613 rfl ?_
  refine a_il_8_13 (pc' := 616) dL_isSo_614 rfl ?_
  refine a_bipush (v := nI 8) (pc' := 618) dL_isSo_616 (by decide) rfl ?_
  refine k_VI (pc' := 621) (ct_X6_pallet (show np ≤ 12 by omega) _ _ _ (h1f _)) cw_L_106 mi_X6_pallet se_X6_pallet rfl rfl rfl rfl (by decide) (by decide) (Nat.le_of_ble_eq_true rfl) rfl dL_isSo_618 rfl ?_
  rw [m0f]
  refine a_al_3_13 (pc' := 622) dL_isSo_621 rfl ?_
  refine a_il_9_13 (pc' := 624) dL_isSo_622 rfl ?_
  refine a_bipush (v := nI 7) (pc' := 626) dL_isSo_624 (by decide) rfl ?_
  refine a_iaddN (pc' := 627) dL_isSo_626 rfl ?_
  refine a_ialdN (pc' := 628) rfl (by omega) (by decide) dL_isSo_627 rfl ?_
  rw [(hLf _).p hp6 7 8 (by decide) (by decide) rfl]
  refine a_icmp_ne (pc' := 631) (tgt := 666) dL_isSo_628 (by decide) rfl (fun c_628 => absurd p8 c_628) (fun c_628 => ?_)
  refine a_al_0_13 (pc' := 632) dL_isSo_631 rfl ?_
  refine a_il_8_13 (pc' := 634) dL_isSo_632 rfl ?_
  refine a_bipush (v := nI 9) (pc' := 636) dL_isSo_634 (by decide) rfl ?_
  refine k_VI (pc' := 639) (ct_X6_pallet (show np ≤ 12 by omega) _ _ _ (h1f _)) cw_L_106 mi_X6_pallet se_X6_pallet rfl rfl rfl rfl (by decide) (by decide) (Nat.le_of_ble_eq_true rfl) rfl dL_isSo_636 rfl ?_
  rw [m0f]
  refine a_il_10_13 (pc' := 641) dL_isSo_639 rfl ?_
  refine a_icmp_ne (pc' := 644) (tgt := 666) dL_isSo_641 (by decide) rfl (fun c_641 => absurd p9 c_641) (fun c_641 => ?_)
  refine a_al_0_13 (pc' := 645) dL_isSo_644 rfl ?_
  refine a_il_8_13 (pc' := 647) dL_isSo_645 rfl ?_
  refine a_bipush (v := nI 10) (pc' := 649) dL_isSo_647 (by decide) rfl ?_
  refine k_VI (pc' := 652) (ct_X6_pallet (show np ≤ 12 by omega) _ _ _ (h1f _)) cw_L_106 mi_X6_pallet se_X6_pallet rfl rfl rfl rfl (by decide) (by decide) (Nat.le_of_ble_eq_true rfl) rfl dL_isSo_649 rfl ?_
  rw [m0f]
  refine a_al_3_13 (pc' := 653) dL_isSo_652 rfl ?_
  refine a_il_9_13 (pc' := 655) dL_isSo_653 rfl ?_
  refine a_bipush (v := nI 8) (pc' := 657) dL_isSo_655 (by decide) rfl ?_
  refine a_iaddN (pc' := 658) dL_isSo_657 rfl ?_
  refine a_ialdN (pc' := 659) rfl (by omega) (by decide) dL_isSo_658 rfl ?_
  rw [(hLf _).p hp6 8 9 (by decide) (by decide) rfl]
  refine a_icmp_ne (pc' := 662) (tgt := 666) dL_isSo_659 (by decide) rfl (fun c_659 => absurd p10 c_659) (fun c_659 => ?_)
  refine a_iconst (v := nI 1) (pc' := 663) dL_isSo_662 (by decide) rfl ?_
  refine a_goto (pc' := 667) dL_isSo_663 (by decide) ?_
  refine a_is_4_13 (pc' := 669) dL_isSo_667 rfl ?_
  refine a_iN_8_13 (m := p + 1) (pc' := 672) dL_isSo_669 (nI_add _ _) rfl ?_
  refine a_goto (pc' := 325) dL_isSo_672 (by decide) ?_
  exact a_castS (by rw [hk0]) (by rw [hk1, hk2, hk3]) (kx (some (.inl (nI (10 * p)))) _ _ _)
set_option maxRecDepth 20000 in
set_option maxHeartbeats 4000000 in
theorem lb_pal1 {G : Gl} {Φ : Option OV → Mm → Prop} {M : Mm} (h : INV M) {np p : Nat} (h1 : M 0 1 = nI np) (hm : np ≤ 6) (hp : p < np) (hf : FL G) (hc : causeP (M 0) p = nI 1) (fd al : Int32) (f : Nat → Int32) (x9 x10 x11 x12 : Option OV) (kx : ∀ y9 y10 y11 y12 : Option OV, AW G cL_isSo RL 13 4 88 (some .boolean) Φ 325 [some (.inr (6, 0, 0, 0)), some (.inr (9, 50, 6, 0)), some (.inr (9, 51, 57, 0)), some (.inr (9, 52, 60, 0)), some (.inl (nI 1)), some (.inl fd), some (.inl (al + claimP (M 0) p)), some (.inr (9, 53, 4, 0)), some (.inl (nI (p + 1))), y9, y10, y11, y12] [] (setR M 53 (upd (upd (upd f 1 (f 1 + claimByP (M 0) p (nI 1))) 2 (f 2 + claimByP (M 0) p (nI 2))) 3 (f 3 + claimByP (M 0) p (nI 3))))) : AW G cL_isSo RL 13 4 88 (some .boolean) Φ 325 [some (.inr (6, 0, 0, 0)), some (.inr (9, 50, 6, 0)), some (.inr (9, 51, 57, 0)), some (.inr (9, 52, 60, 0)), some (.inl (nI 1)), some (.inl fd), some (.inl al), some (.inr (9, 53, 4, 0)), some (.inl (nI p)), x9, x10, x11, x12] [] (setR M 53 f) := by
  have hLf : ∀ f, LA (setR M 53 f) (M 0) := fun f => h.1.moved (setR_ne _ _ (by decide)) (setR_ne _ _ (by decide)) (setR_ne _ _ (by decide))
  have m0f : ∀ f, setR M 53 f 0 = M 0 := fun f => setR_ne _ _ (by decide)
  have h1f : ∀ f, setR M 53 f 0 1 = nI np := fun f => by rw [m0f]; exact h1
  obtain ⟨⟨t, ht, hg⟩, hqw⟩ := id h.2.1
  have hp6 : p < 6 := by omega
  have hst := hg.state (p := p) (by omega)
  have hcp : vN (nI p) = p := vN_nI (by omega)
  have hpt := hp_t h1 (by omega) hp
  obtain ⟨w, hw, ev⟩ := hg.pv (p := p) (by omega)
  obtain ⟨y, hy, ez⟩ := hg.pz (p := p) (by omega)
  have hp0 : ∀ f, setR M 53 f 52 (10 * p) = nI (3 * w + y) := fun f => by rw [(hLf f).p0 hp6, ev, ez, pk_mul, nI_add]
  have h3w : (3 * w + y) / 3 = w := by omega
  have h3y : (3 * w + y) % 3 = y := by omega
  have pq : ∀ k, pqS (M 0) (nI p) k = propP (M 0) p k := fun k => by unfold pqS; rw [if_pos hpt, hcp]
  have p0 : pqS (M 0) (nI p) (nI 0) = nI w := by rw [pq]; exact ev
  have p1 : pqS (M 0) (nI p) (nI 1) = nI y := by rw [pq]; exact ez
  have p2 : pqS (M 0) (nI p) (nI 2) = M 0 (63 + 10 * p + 2) := by rw [pq]; rfl
  have p3 : pqS (M 0) (nI p) (nI 3) = M 0 (63 + 10 * p + 3) := by rw [pq]; rfl
  have p4 : pqS (M 0) (nI p) (nI 4) = M 0 (63 + 10 * p + 4) := by rw [pq]; rfl
  have p5 : pqS (M 0) (nI p) (nI 5) = M 0 (63 + 10 * p + 5) := by rw [pq]; rfl
  have p6 : pqS (M 0) (nI p) (nI 6) = M 0 (63 + 10 * p + 6) := by rw [pq]; rfl
  have p7 : pqS (M 0) (nI p) (nI 7) = M 0 (63 + 10 * p + 7) := by rw [pq]; rfl
  have p8 : pqS (M 0) (nI p) (nI 8) = M 0 (63 + 10 * p + 8) := by rw [pq]; rfl
  have p10 : pqS (M 0) (nI p) (nI 10) = M 0 (63 + 10 * p + 9) := by rw [pq]; rfl
  have p9 : pqS (M 0) (nI p) (nI 9) = nI 1 := by rw [pq]; exact hc
  have hk0 : claimP (M 0) p = M 0 (63 + 10 * p + 4) + M 0 (63 + 10 * p + 9) := cl_rej (by rw [hc]; decide)
  have hb := by_12 (F := M 0) (p := p) (by rw [hc]; decide)
  have hk1 : claimByP (M 0) p (nI 1) = doorP (M 0) p := hb.1
  have hk2 : claimByP (M 0) p (nI 2) = M 0 (63 + 10 * p + 4) + M 0 (63 + 10 * p + 9) - doorP (M 0) p := by rw [hb.2.1, hk0]
  have hk3 : claimByP (M 0) p (nI 3) = nI 0 := hb.2.2
  have hwm := c_warm (F := M 0) (p := p) (by rw [hc]; decide) (by rw [hc]; decide)
  have hal := hg.allow (p := p) (by omega)
  have hwp : 0 < (M 0 (63 + 10 * p + 6) + M 0 (63 + 10 * p + 7)).toInt := by
    unfold bt at hal
    rw [Int32.lt_iff_toInt_lt] at hwm
    omega
  have hdv : ¬ M 0 (63 + 10 * p + 6) + M 0 (63 + 10 * p + 7) = 0 := fun e => by rw [e] at hwp; exact absurd hwp (by decide)
  have hdoor : (M 0 (63 + 10 * p + 4) + M 0 (63 + 10 * p + 9)) * M 0 (63 + 10 * p + 6) / (M 0 (63 + 10 * p + 6) + M 0 (63 + 10 * p + 7)) = doorP (M 0) p := by
    unfold doorP
    rw [if_neg (fun q => by rw [Int32.le_iff_toInt_le, show (0 : Int32).toInt = 0 from rfl] at q; omega), hk0]
  refine a_il_8_13 (pc' := 327) dL_isSo_325 rfl ?_
  refine a_al_1_13 (pc' := 328) dL_isSo_327 rfl ?_
  refine a_iconst (v := nI 1) (pc' := 329) dL_isSo_328 (by decide) rfl ?_
  refine a_ialdN (pc' := 330) rfl (by omega) (by decide) dL_isSo_329 rfl ?_
  rw [(hLf _).g (show 1 < 6 by decide), h1]
  refine a_icmp_ge (pc' := 333) (tgt := 675) dL_isSo_330 (by decide) rfl (fun c_330 => absurd c_330 (nI_ge (by omega) (by omega))) (fun c_330 => ?_)
  refine a_il_4_13 (pc' := 335) dL_isSo_333 rfl ?_
  refine a_if_eq (pc' := 338) (tgt := 675) dL_isSo_335 (by decide) rfl (fun c_335 => absurd c_335 (by decide)) (fun c_335 => ?_)
  refine a_bipush (v := nI 10) (pc' := 340) dL_isSo_338 (by decide) rfl ?_
  refine a_il_8_13 (pc' := 342) dL_isSo_340 rfl ?_
  refine a_imulN (pc' := 343) dL_isSo_342 rfl ?_
  refine a_is_9_13 (pc' := 345) dL_isSo_343 rfl ?_
  refine a_al_3_13 (pc' := 346) dL_isSo_345 rfl ?_
  refine a_il_8_13 (pc' := 348) dL_isSo_346 rfl ?_
  refine k_SI (pc' := 351) (ct_L_cause hp6 _ (hLf _) hst) cw_L_103 ms_L_cause rfl (by decide) (by decide) (Nat.le_of_ble_eq_true rfl) rfl dL_isSo_348 rfl ?_
  rw [hc]
  refine a_is_10_13 (pc' := 353) dL_isSo_351 rfl ?_
  refine a_al_3_13 (pc' := 354) dL_isSo_353 rfl ?_
  refine a_il_9_13 (pc' := 356) dL_isSo_354 rfl ?_
  refine a_iconst (v := nI 3) (pc' := 357) dL_isSo_356 (by decide) rfl ?_
  refine a_iaddN (pc' := 358) dL_isSo_357 rfl ?_
  refine a_ialdN (pc' := 359) rfl (by omega) (by decide) dL_isSo_358 rfl ?_
  rw [(hLf _).p hp6 3 4 (by decide) (by decide) rfl]
  refine a_al_3_13 (pc' := 360) dL_isSo_359 rfl ?_
  refine a_il_9_13 (pc' := 362) dL_isSo_360 rfl ?_
  refine a_bipush (v := nI 8) (pc' := 364) dL_isSo_362 (by decide) rfl ?_
  refine a_iaddN (pc' := 365) dL_isSo_364 rfl ?_
  refine a_ialdN (pc' := 366) rfl (by omega) (by decide) dL_isSo_365 rfl ?_
  rw [(hLf _).p hp6 8 9 (by decide) (by decide) rfl]
  refine a_iadd (pc' := 367) dL_isSo_366 rfl ?_
  refine a_is_11_13 (pc' := 369) dL_isSo_367 rfl ?_
  refine a_il_10_13 (pc' := 371) dL_isSo_369 rfl ?_
  refine a_if_eq (pc' := 374) (tgt := 380) dL_isSo_371 (by decide) rfl (fun c_371 => absurd c_371 (by decide)) (fun c_371 => ?_)
  refine a_il_10_13 (pc' := 376) dL_isSo_374 rfl ?_
  refine a_iconst (v := nI 3) (pc' := 377) dL_isSo_376 (by decide) rfl ?_
  refine a_icmp_ne (pc' := 380) (tgt := 384) dL_isSo_377 (by decide) rfl (fun c_377 => ?_) (fun c_377 => absurd c_377 (by decide))
  refine a_il_11_13 (pc' := 386) dL_isSo_384 rfl ?_
  refine a_al_3_13 (pc' := 387) dL_isSo_386 rfl ?_
  refine a_il_9_13 (pc' := 389) dL_isSo_387 rfl ?_
  refine a_iconst (v := nI 5) (pc' := 390) dL_isSo_389 (by decide) rfl ?_
  refine a_iaddN (pc' := 391) dL_isSo_390 rfl ?_
  refine a_ialdN (pc' := 392) rfl (by omega) (by decide) dL_isSo_391 rfl ?_
  rw [(hLf _).p hp6 5 6 (by decide) (by decide) rfl]
  refine a_imul (pc' := 393) dL_isSo_392 rfl ?_
  refine a_al_3_13 (pc' := 394) dL_isSo_393 rfl ?_
  refine a_il_9_13 (pc' := 396) dL_isSo_394 rfl ?_
  refine a_iconst (v := nI 5) (pc' := 397) dL_isSo_396 (by decide) rfl ?_
  refine a_iaddN (pc' := 398) dL_isSo_397 rfl ?_
  refine a_ialdN (pc' := 399) rfl (by omega) (by decide) dL_isSo_398 rfl ?_
  rw [(hLf _).p hp6 5 6 (by decide) (by decide) rfl]
  refine a_al_3_13 (pc' := 400) dL_isSo_399 rfl ?_
  refine a_il_9_13 (pc' := 402) dL_isSo_400 rfl ?_
  refine a_bipush (v := nI 6) (pc' := 404) dL_isSo_402 (by decide) rfl ?_
  refine a_iaddN (pc' := 405) dL_isSo_404 rfl ?_
  refine a_ialdN (pc' := 406) rfl (by omega) (by decide) dL_isSo_405 rfl ?_
  rw [(hLf _).p hp6 6 7 (by decide) (by decide) rfl]
  refine a_iadd (pc' := 407) dL_isSo_406 rfl ?_
  refine a_idiv (pc' := 408) dL_isSo_407 hdv rfl ?_
  rw [hdoor]
  refine a_is_12_13 (pc' := 410) dL_isSo_408 rfl ?_
  refine a_il_6_13 (pc' := 412) dL_isSo_410 rfl ?_
  refine a_il_10_13 (pc' := 414) dL_isSo_412 rfl ?_
  refine a_if_le (pc' := 417) (tgt := 422) dL_isSo_414 (by decide) rfl (fun c_414 => absurd c_414 (by decide)) (fun c_414 => ?_)
  refine a_il_11_13 (pc' := 419) dL_isSo_417 rfl ?_
  refine a_goto (pc' := 423) dL_isSo_419 (by decide) ?_
  refine a_iadd (pc' := 424) dL_isSo_423 rfl ?_
  refine a_is_6_13 (pc' := 426) dL_isSo_424 rfl ?_
  refine a_al_7_13 (pc' := 428) dL_isSo_426 rfl ?_
  refine a_iconst (v := nI 1) (pc' := 429) dL_isSo_428 (by decide) rfl ?_
  refine a_dup2 (pc' := 430) dL_isSo_429 rfl ?_
  refine a_iald53N (pc' := 431) hf (by decide) dL_isSo_430 rfl ?_
  rw [setR_same]
  refine a_il_12_13 (pc' := 433) dL_isSo_431 rfl ?_
  refine a_iadd (pc' := 434) dL_isSo_433 rfl ?_
  refine a_iast53N (pc' := 435) hf (by decide) dL_isSo_434 rfl ?_
  rw [wr_eq, setR_same, setR_setR]
  refine a_al_7_13 (pc' := 437) dL_isSo_435 rfl ?_
  refine a_iconst (v := nI 2) (pc' := 438) dL_isSo_437 (by decide) rfl ?_
  refine a_dup2 (pc' := 439) dL_isSo_438 rfl ?_
  refine a_iald53N (pc' := 440) hf (by decide) dL_isSo_439 rfl ?_
  rw [setR_same, upd_at, if_neg (by decide)]
  refine a_il_10_13 (pc' := 442) dL_isSo_440 rfl ?_
  refine a_iconst (v := nI 1) (pc' := 443) dL_isSo_442 (by decide) rfl ?_
  refine a_icmp_eq (pc' := 446) (tgt := 452) dL_isSo_443 (by decide) rfl (fun c_443 => ?_) (fun c_443 => absurd (by decide) c_443)
  refine a_il_11_13 (pc' := 454) dL_isSo_452 rfl ?_
  refine a_il_12_13 (pc' := 456) dL_isSo_454 rfl ?_
  refine a_isub (pc' := 457) dL_isSo_456 rfl ?_
  refine a_goto (pc' := 461) dL_isSo_457 (by decide) ?_
  refine a_iadd (pc' := 462) dL_isSo_461 rfl ?_
  refine a_iast53N (pc' := 463) hf (by decide) dL_isSo_462 rfl ?_
  rw [wr_eq, setR_same, setR_setR]
  refine a_al_7_13 (pc' := 465) dL_isSo_463 rfl ?_
  refine a_iconst (v := nI 3) (pc' := 466) dL_isSo_465 (by decide) rfl ?_
  refine a_dup2 (pc' := 467) dL_isSo_466 rfl ?_
  refine a_iald53N (pc' := 468) hf (by decide) dL_isSo_467 rfl ?_
  rw [setR_same, upd_at, if_neg (by decide), upd_at, if_neg (by decide)]
  refine a_il_10_13 (pc' := 470) dL_isSo_468 rfl ?_
  refine a_iconst (v := nI 3) (pc' := 471) dL_isSo_470 (by decide) rfl ?_
  refine a_icmp_ne (pc' := 474) (tgt := 479) dL_isSo_471 (by decide) rfl (fun c_471 => ?_) (fun c_471 => absurd c_471 (by decide))
  refine a_iconst (v := nI 0) (pc' := 480) dL_isSo_479 (by decide) rfl ?_
  refine a_iadd (pc' := 481) dL_isSo_480 rfl ?_
  refine a_iast53N (pc' := 482) hf (by decide) dL_isSo_481 rfl ?_
  rw [wr_eq, setR_same, setR_setR]
  refine a_al_0_13 (pc' := 483) dL_isSo_482 rfl ?_
  refine a_il_8_13 (pc' := 485) dL_isSo_483 rfl ?_
  refine a_iconst (v := nI 0) (pc' := 486) dL_isSo_485 (by decide) rfl ?_
  refine k_VI (pc' := 489) (ct_X6_pallet (show np ≤ 12 by omega) _ _ _ (h1f _)) cw_L_106 mi_X6_pallet se_X6_pallet rfl rfl rfl rfl (by decide) (by decide) (Nat.le_of_ble_eq_true rfl) rfl dL_isSo_486 rfl ?_
  rw [m0f]
  refine a_al_3_13 (pc' := 490) dL_isSo_489 rfl ?_
  refine a_il_9_13 (pc' := 492) dL_isSo_490 rfl ?_
  refine a_ialdN (pc' := 493) rfl (by omega) (by decide) dL_isSo_492 rfl ?_
  rw [hp0]
  refine a_iconst (v := nI 3) (pc' := 494) dL_isSo_493 (by decide) rfl ?_
  refine a_idivN (pc' := 495) (by omega) (by decide) (by decide) dL_isSo_494 rfl ?_
  rw [h3w]
  refine a_icmp_ne (pc' := 498) (tgt := 666) dL_isSo_495 (by decide) rfl (fun c_495 => absurd p0 c_495) (fun c_495 => ?_)
  refine a_al_0_13 (pc' := 499) dL_isSo_498 rfl ?_
  refine a_il_8_13 (pc' := 501) dL_isSo_499 rfl ?_
  refine a_iconst (v := nI 1) (pc' := 502) dL_isSo_501 (by decide) rfl ?_
  refine k_VI (pc' := 505) (ct_X6_pallet (show np ≤ 12 by omega) _ _ _ (h1f _)) cw_L_106 mi_X6_pallet se_X6_pallet rfl rfl rfl rfl (by decide) (by decide) (Nat.le_of_ble_eq_true rfl) rfl dL_isSo_502 rfl ?_
  rw [m0f]
  refine a_al_3_13 (pc' := 506) dL_isSo_505 rfl ?_
  refine a_il_9_13 (pc' := 508) dL_isSo_506 rfl ?_
  refine a_ialdN (pc' := 509) rfl (by omega) (by decide) dL_isSo_508 rfl ?_
  rw [hp0]
  refine a_iconst (v := nI 3) (pc' := 510) dL_isSo_509 (by decide) rfl ?_
  refine a_iremN (pc' := 511) (by omega) (by decide) (by decide) dL_isSo_510 rfl ?_
  rw [h3y]
  refine a_icmp_ne (pc' := 514) (tgt := 666) dL_isSo_511 (by decide) rfl (fun c_511 => absurd p1 c_511) (fun c_511 => ?_)
  refine a_al_0_13 (pc' := 515) dL_isSo_514 rfl ?_
  refine a_il_8_13 (pc' := 517) dL_isSo_515 rfl ?_
  refine a_iconst (v := nI 2) (pc' := 518) dL_isSo_517 (by decide) rfl ?_
  refine k_VI (pc' := 521) (ct_X6_pallet (show np ≤ 12 by omega) _ _ _ (h1f _)) cw_L_106 mi_X6_pallet se_X6_pallet rfl rfl rfl rfl (by decide) (by decide) (Nat.le_of_ble_eq_true rfl) rfl dL_isSo_518 rfl ?_
  rw [m0f]
  refine a_al_3_13 (pc' := 522) dL_isSo_521 rfl ?_
  refine a_il_9_13 (pc' := 524) dL_isSo_522 rfl ?_
  refine a_iconst (v := nI 1) (pc' := 525) dL_isSo_524 (by decide) rfl ?_
  refine a_iaddN (pc' := 526) dL_isSo_525 rfl ?_
  refine a_ialdN (pc' := 527) rfl (by omega) (by decide) dL_isSo_526 rfl ?_
  rw [(hLf _).p hp6 1 2 (by decide) (by decide) rfl]
  refine a_icmp_ne (pc' := 530) (tgt := 666) dL_isSo_527 (by decide) rfl (fun c_527 => absurd p2 c_527) (fun c_527 => ?_)
  refine a_al_0_13 (pc' := 531) dL_isSo_530 rfl ?_
  refine a_il_8_13 (pc' := 533) dL_isSo_531 rfl ?_
  refine a_iconst (v := nI 3) (pc' := 534) dL_isSo_533 (by decide) rfl ?_
  refine k_VI (pc' := 537) (ct_X6_pallet (show np ≤ 12 by omega) _ _ _ (h1f _)) cw_L_106 mi_X6_pallet se_X6_pallet rfl rfl rfl rfl (by decide) (by decide) (Nat.le_of_ble_eq_true rfl) rfl dL_isSo_534 rfl ?_
  rw [m0f]
  refine a_al_3_13 (pc' := 538) dL_isSo_537 rfl ?_
  refine a_il_9_13 (pc' := 540) dL_isSo_538 rfl ?_
  refine a_iconst (v := nI 2) (pc' := 541) dL_isSo_540 (by decide) rfl ?_
  refine a_iaddN (pc' := 542) dL_isSo_541 rfl ?_
  refine a_ialdN (pc' := 543) rfl (by omega) (by decide) dL_isSo_542 rfl ?_
  rw [(hLf _).p hp6 2 3 (by decide) (by decide) rfl]
  refine a_icmp_ne (pc' := 546) (tgt := 666) dL_isSo_543 (by decide) rfl (fun c_543 => absurd p3 c_543) (fun c_543 => ?_)
  refine a_al_0_13 (pc' := 547) dL_isSo_546 rfl ?_
  refine a_il_8_13 (pc' := 549) dL_isSo_547 rfl ?_
  refine a_iconst (v := nI 4) (pc' := 550) dL_isSo_549 (by decide) rfl ?_
  refine k_VI (pc' := 553) (ct_X6_pallet (show np ≤ 12 by omega) _ _ _ (h1f _)) cw_L_106 mi_X6_pallet se_X6_pallet rfl rfl rfl rfl (by decide) (by decide) (Nat.le_of_ble_eq_true rfl) rfl dL_isSo_550 rfl ?_
  rw [m0f]
  refine a_al_3_13 (pc' := 554) dL_isSo_553 rfl ?_
  refine a_il_9_13 (pc' := 556) dL_isSo_554 rfl ?_
  refine a_iconst (v := nI 3) (pc' := 557) dL_isSo_556 (by decide) rfl ?_
  refine a_iaddN (pc' := 558) dL_isSo_557 rfl ?_
  refine a_ialdN (pc' := 559) rfl (by omega) (by decide) dL_isSo_558 rfl ?_
  rw [(hLf _).p hp6 3 4 (by decide) (by decide) rfl]
  refine a_icmp_ne (pc' := 562) (tgt := 666) dL_isSo_559 (by decide) rfl (fun c_559 => absurd p4 c_559) (fun c_559 => ?_)
  refine a_al_0_13 (pc' := 563) dL_isSo_562 rfl ?_
  refine a_il_8_13 (pc' := 565) dL_isSo_563 rfl ?_
  refine a_iconst (v := nI 5) (pc' := 566) dL_isSo_565 (by decide) rfl ?_
  refine k_VI (pc' := 569) (ct_X6_pallet (show np ≤ 12 by omega) _ _ _ (h1f _)) cw_L_106 mi_X6_pallet se_X6_pallet rfl rfl rfl rfl (by decide) (by decide) (Nat.le_of_ble_eq_true rfl) rfl dL_isSo_566 rfl ?_
  rw [m0f]
  refine a_al_3_13 (pc' := 570) dL_isSo_569 rfl ?_
  refine a_il_9_13 (pc' := 572) dL_isSo_570 rfl ?_
  refine a_iconst (v := nI 4) (pc' := 573) dL_isSo_572 (by decide) rfl ?_
  refine a_iaddN (pc' := 574) dL_isSo_573 rfl ?_
  refine a_ialdN (pc' := 575) rfl (by omega) (by decide) dL_isSo_574 rfl ?_
  rw [(hLf _).p hp6 4 5 (by decide) (by decide) rfl]
  refine a_icmp_ne (pc' := 578) (tgt := 666) dL_isSo_575 (by decide) rfl (fun c_575 => absurd p5 c_575) (fun c_575 => ?_)
  refine a_al_0_13 (pc' := 579) dL_isSo_578 rfl ?_
  refine a_il_8_13 (pc' := 581) dL_isSo_579 rfl ?_
  refine a_bipush (v := nI 6) (pc' := 583) dL_isSo_581 (by decide) rfl ?_
  refine k_VI (pc' := 586) (ct_X6_pallet (show np ≤ 12 by omega) _ _ _ (h1f _)) cw_L_106 mi_X6_pallet se_X6_pallet rfl rfl rfl rfl (by decide) (by decide) (Nat.le_of_ble_eq_true rfl) rfl dL_isSo_583 rfl ?_
  rw [m0f]
  refine a_al_3_13 (pc' := 587) dL_isSo_586 rfl ?_
  refine a_il_9_13 (pc' := 589) dL_isSo_587 rfl ?_
  refine a_iconst (v := nI 5) (pc' := 590) dL_isSo_589 (by decide) rfl ?_
  refine a_iaddN (pc' := 591) dL_isSo_590 rfl ?_
  refine a_ialdN (pc' := 592) rfl (by omega) (by decide) dL_isSo_591 rfl ?_
  rw [(hLf _).p hp6 5 6 (by decide) (by decide) rfl]
  refine a_icmp_ne (pc' := 595) (tgt := 666) dL_isSo_592 (by decide) rfl (fun c_592 => absurd p6 c_592) (fun c_592 => ?_)
  refine a_al_0_13 (pc' := 596) dL_isSo_595 rfl ?_
  refine a_il_8_13 (pc' := 598) dL_isSo_596 rfl ?_
  refine a_bipush (v := nI 7) (pc' := 600) dL_isSo_598 (by decide) rfl ?_
  refine k_VI (pc' := 603) (ct_X6_pallet (show np ≤ 12 by omega) _ _ _ (h1f _)) cw_L_106 mi_X6_pallet se_X6_pallet rfl rfl rfl rfl (by decide) (by decide) (Nat.le_of_ble_eq_true rfl) rfl dL_isSo_600 rfl ?_
  rw [m0f]
  refine a_al_3_13 (pc' := 604) dL_isSo_603 rfl ?_
  refine a_il_9_13 (pc' := 606) dL_isSo_604 rfl ?_
  refine a_bipush (v := nI 6) (pc' := 608) dL_isSo_606 (by decide) rfl ?_
  refine a_iaddN (pc' := 609) dL_isSo_608 rfl ?_
  refine a_ialdN (pc' := 610) rfl (by omega) (by decide) dL_isSo_609 rfl ?_
  rw [(hLf _).p hp6 6 7 (by decide) (by decide) rfl]
  refine a_icmp_ne (pc' := 613) (tgt := 666) dL_isSo_610 (by decide) rfl (fun c_610 => absurd p7 c_610) (fun c_610 => ?_)
  refine a_al_0_13 (pc' := 614) dL_isSo_613 rfl ?_
  refine a_il_8_13 (pc' := 616) dL_isSo_614 rfl ?_
  refine a_bipush (v := nI 8) (pc' := 618) dL_isSo_616 (by decide) rfl ?_
  refine k_VI (pc' := 621) (ct_X6_pallet (show np ≤ 12 by omega) _ _ _ (h1f _)) cw_L_106 mi_X6_pallet se_X6_pallet rfl rfl rfl rfl (by decide) (by decide) (Nat.le_of_ble_eq_true rfl) rfl dL_isSo_618 rfl ?_
  rw [m0f]
  refine a_al_3_13 (pc' := 622) dL_isSo_621 rfl ?_
  refine a_il_9_13 (pc' := 624) dL_isSo_622 rfl ?_
  refine a_bipush (v := nI 7) (pc' := 626) dL_isSo_624 (by decide) rfl ?_
  refine a_iaddN (pc' := 627) dL_isSo_626 rfl ?_
  refine a_ialdN (pc' := 628) rfl (by omega) (by decide) dL_isSo_627 rfl ?_
  rw [(hLf _).p hp6 7 8 (by decide) (by decide) rfl]
  refine a_icmp_ne (pc' := 631) (tgt := 666) dL_isSo_628 (by decide) rfl (fun c_628 => absurd p8 c_628) (fun c_628 => ?_)
  refine a_al_0_13 (pc' := 632) dL_isSo_631 rfl ?_
  refine a_il_8_13 (pc' := 634) dL_isSo_632 rfl ?_
  refine a_bipush (v := nI 9) (pc' := 636) dL_isSo_634 (by decide) rfl ?_
  refine k_VI (pc' := 639) (ct_X6_pallet (show np ≤ 12 by omega) _ _ _ (h1f _)) cw_L_106 mi_X6_pallet se_X6_pallet rfl rfl rfl rfl (by decide) (by decide) (Nat.le_of_ble_eq_true rfl) rfl dL_isSo_636 rfl ?_
  rw [m0f]
  refine a_il_10_13 (pc' := 641) dL_isSo_639 rfl ?_
  refine a_icmp_ne (pc' := 644) (tgt := 666) dL_isSo_641 (by decide) rfl (fun c_641 => absurd p9 c_641) (fun c_641 => ?_)
  refine a_al_0_13 (pc' := 645) dL_isSo_644 rfl ?_
  refine a_il_8_13 (pc' := 647) dL_isSo_645 rfl ?_
  refine a_bipush (v := nI 10) (pc' := 649) dL_isSo_647 (by decide) rfl ?_
  refine k_VI (pc' := 652) (ct_X6_pallet (show np ≤ 12 by omega) _ _ _ (h1f _)) cw_L_106 mi_X6_pallet se_X6_pallet rfl rfl rfl rfl (by decide) (by decide) (Nat.le_of_ble_eq_true rfl) rfl dL_isSo_649 rfl ?_
  rw [m0f]
  refine a_al_3_13 (pc' := 653) dL_isSo_652 rfl ?_
  refine a_il_9_13 (pc' := 655) dL_isSo_653 rfl ?_
  refine a_bipush (v := nI 8) (pc' := 657) dL_isSo_655 (by decide) rfl ?_
  refine a_iaddN (pc' := 658) dL_isSo_657 rfl ?_
  refine a_ialdN (pc' := 659) rfl (by omega) (by decide) dL_isSo_658 rfl ?_
  rw [(hLf _).p hp6 8 9 (by decide) (by decide) rfl]
  refine a_icmp_ne (pc' := 662) (tgt := 666) dL_isSo_659 (by decide) rfl (fun c_659 => absurd p10 c_659) (fun c_659 => ?_)
  refine a_iconst (v := nI 1) (pc' := 663) dL_isSo_662 (by decide) rfl ?_
  refine a_goto (pc' := 667) dL_isSo_663 (by decide) ?_
  refine a_is_4_13 (pc' := 669) dL_isSo_667 rfl ?_
  refine a_iN_8_13 (m := p + 1) (pc' := 672) dL_isSo_669 (nI_add _ _) rfl ?_
  refine a_goto (pc' := 325) dL_isSo_672 (by decide) ?_
  exact a_castS (by rw [hk0]) (by rw [hk1, hk2, hk3]) (kx (some (.inl (nI (10 * p)))) _ _ _)
set_option maxRecDepth 20000 in
set_option maxHeartbeats 4000000 in
theorem lb_pal2 {G : Gl} {Φ : Option OV → Mm → Prop} {M : Mm} (h : INV M) {np p : Nat} (h1 : M 0 1 = nI np) (hm : np ≤ 6) (hp : p < np) (hf : FL G) (hc : causeP (M 0) p = nI 2) (fd al : Int32) (f : Nat → Int32) (x9 x10 x11 x12 : Option OV) (kx : ∀ y9 y10 y11 y12 : Option OV, AW G cL_isSo RL 13 4 88 (some .boolean) Φ 325 [some (.inr (6, 0, 0, 0)), some (.inr (9, 50, 6, 0)), some (.inr (9, 51, 57, 0)), some (.inr (9, 52, 60, 0)), some (.inl (nI 1)), some (.inl fd), some (.inl (al + claimP (M 0) p)), some (.inr (9, 53, 4, 0)), some (.inl (nI (p + 1))), y9, y10, y11, y12] [] (setR M 53 (upd (upd (upd f 1 (f 1 + claimByP (M 0) p (nI 1))) 2 (f 2 + claimByP (M 0) p (nI 2))) 3 (f 3 + claimByP (M 0) p (nI 3))))) : AW G cL_isSo RL 13 4 88 (some .boolean) Φ 325 [some (.inr (6, 0, 0, 0)), some (.inr (9, 50, 6, 0)), some (.inr (9, 51, 57, 0)), some (.inr (9, 52, 60, 0)), some (.inl (nI 1)), some (.inl fd), some (.inl al), some (.inr (9, 53, 4, 0)), some (.inl (nI p)), x9, x10, x11, x12] [] (setR M 53 f) := by
  have hLf : ∀ f, LA (setR M 53 f) (M 0) := fun f => h.1.moved (setR_ne _ _ (by decide)) (setR_ne _ _ (by decide)) (setR_ne _ _ (by decide))
  have m0f : ∀ f, setR M 53 f 0 = M 0 := fun f => setR_ne _ _ (by decide)
  have h1f : ∀ f, setR M 53 f 0 1 = nI np := fun f => by rw [m0f]; exact h1
  obtain ⟨⟨t, ht, hg⟩, hqw⟩ := id h.2.1
  have hp6 : p < 6 := by omega
  have hst := hg.state (p := p) (by omega)
  have hcp : vN (nI p) = p := vN_nI (by omega)
  have hpt := hp_t h1 (by omega) hp
  obtain ⟨w, hw, ev⟩ := hg.pv (p := p) (by omega)
  obtain ⟨y, hy, ez⟩ := hg.pz (p := p) (by omega)
  have hp0 : ∀ f, setR M 53 f 52 (10 * p) = nI (3 * w + y) := fun f => by rw [(hLf f).p0 hp6, ev, ez, pk_mul, nI_add]
  have h3w : (3 * w + y) / 3 = w := by omega
  have h3y : (3 * w + y) % 3 = y := by omega
  have pq : ∀ k, pqS (M 0) (nI p) k = propP (M 0) p k := fun k => by unfold pqS; rw [if_pos hpt, hcp]
  have p0 : pqS (M 0) (nI p) (nI 0) = nI w := by rw [pq]; exact ev
  have p1 : pqS (M 0) (nI p) (nI 1) = nI y := by rw [pq]; exact ez
  have p2 : pqS (M 0) (nI p) (nI 2) = M 0 (63 + 10 * p + 2) := by rw [pq]; rfl
  have p3 : pqS (M 0) (nI p) (nI 3) = M 0 (63 + 10 * p + 3) := by rw [pq]; rfl
  have p4 : pqS (M 0) (nI p) (nI 4) = M 0 (63 + 10 * p + 4) := by rw [pq]; rfl
  have p5 : pqS (M 0) (nI p) (nI 5) = M 0 (63 + 10 * p + 5) := by rw [pq]; rfl
  have p6 : pqS (M 0) (nI p) (nI 6) = M 0 (63 + 10 * p + 6) := by rw [pq]; rfl
  have p7 : pqS (M 0) (nI p) (nI 7) = M 0 (63 + 10 * p + 7) := by rw [pq]; rfl
  have p8 : pqS (M 0) (nI p) (nI 8) = M 0 (63 + 10 * p + 8) := by rw [pq]; rfl
  have p10 : pqS (M 0) (nI p) (nI 10) = M 0 (63 + 10 * p + 9) := by rw [pq]; rfl
  have p9 : pqS (M 0) (nI p) (nI 9) = nI 2 := by rw [pq]; exact hc
  have hk0 : claimP (M 0) p = M 0 (63 + 10 * p + 4) + M 0 (63 + 10 * p + 9) := cl_rej (by rw [hc]; decide)
  have hb := by_12 (F := M 0) (p := p) (by rw [hc]; decide)
  have hk1 : claimByP (M 0) p (nI 1) = doorP (M 0) p := hb.1
  have hk2 : claimByP (M 0) p (nI 2) = M 0 (63 + 10 * p + 4) + M 0 (63 + 10 * p + 9) - doorP (M 0) p := by rw [hb.2.1, hk0]
  have hk3 : claimByP (M 0) p (nI 3) = nI 0 := hb.2.2
  have hwm := c_warm (F := M 0) (p := p) (by rw [hc]; decide) (by rw [hc]; decide)
  have hal := hg.allow (p := p) (by omega)
  have hwp : 0 < (M 0 (63 + 10 * p + 6) + M 0 (63 + 10 * p + 7)).toInt := by
    unfold bt at hal
    rw [Int32.lt_iff_toInt_lt] at hwm
    omega
  have hdv : ¬ M 0 (63 + 10 * p + 6) + M 0 (63 + 10 * p + 7) = 0 := fun e => by rw [e] at hwp; exact absurd hwp (by decide)
  have hdoor : (M 0 (63 + 10 * p + 4) + M 0 (63 + 10 * p + 9)) * M 0 (63 + 10 * p + 6) / (M 0 (63 + 10 * p + 6) + M 0 (63 + 10 * p + 7)) = doorP (M 0) p := by
    unfold doorP
    rw [if_neg (fun q => by rw [Int32.le_iff_toInt_le, show (0 : Int32).toInt = 0 from rfl] at q; omega), hk0]
  refine a_il_8_13 (pc' := 327) dL_isSo_325 rfl ?_
  refine a_al_1_13 (pc' := 328) dL_isSo_327 rfl ?_
  refine a_iconst (v := nI 1) (pc' := 329) dL_isSo_328 (by decide) rfl ?_
  refine a_ialdN (pc' := 330) rfl (by omega) (by decide) dL_isSo_329 rfl ?_
  rw [(hLf _).g (show 1 < 6 by decide), h1]
  refine a_icmp_ge (pc' := 333) (tgt := 675) dL_isSo_330 (by decide) rfl (fun c_330 => absurd c_330 (nI_ge (by omega) (by omega))) (fun c_330 => ?_)
  refine a_il_4_13 (pc' := 335) dL_isSo_333 rfl ?_
  refine a_if_eq (pc' := 338) (tgt := 675) dL_isSo_335 (by decide) rfl (fun c_335 => absurd c_335 (by decide)) (fun c_335 => ?_)
  refine a_bipush (v := nI 10) (pc' := 340) dL_isSo_338 (by decide) rfl ?_
  refine a_il_8_13 (pc' := 342) dL_isSo_340 rfl ?_
  refine a_imulN (pc' := 343) dL_isSo_342 rfl ?_
  refine a_is_9_13 (pc' := 345) dL_isSo_343 rfl ?_
  refine a_al_3_13 (pc' := 346) dL_isSo_345 rfl ?_
  refine a_il_8_13 (pc' := 348) dL_isSo_346 rfl ?_
  refine k_SI (pc' := 351) (ct_L_cause hp6 _ (hLf _) hst) cw_L_103 ms_L_cause rfl (by decide) (by decide) (Nat.le_of_ble_eq_true rfl) rfl dL_isSo_348 rfl ?_
  rw [hc]
  refine a_is_10_13 (pc' := 353) dL_isSo_351 rfl ?_
  refine a_al_3_13 (pc' := 354) dL_isSo_353 rfl ?_
  refine a_il_9_13 (pc' := 356) dL_isSo_354 rfl ?_
  refine a_iconst (v := nI 3) (pc' := 357) dL_isSo_356 (by decide) rfl ?_
  refine a_iaddN (pc' := 358) dL_isSo_357 rfl ?_
  refine a_ialdN (pc' := 359) rfl (by omega) (by decide) dL_isSo_358 rfl ?_
  rw [(hLf _).p hp6 3 4 (by decide) (by decide) rfl]
  refine a_al_3_13 (pc' := 360) dL_isSo_359 rfl ?_
  refine a_il_9_13 (pc' := 362) dL_isSo_360 rfl ?_
  refine a_bipush (v := nI 8) (pc' := 364) dL_isSo_362 (by decide) rfl ?_
  refine a_iaddN (pc' := 365) dL_isSo_364 rfl ?_
  refine a_ialdN (pc' := 366) rfl (by omega) (by decide) dL_isSo_365 rfl ?_
  rw [(hLf _).p hp6 8 9 (by decide) (by decide) rfl]
  refine a_iadd (pc' := 367) dL_isSo_366 rfl ?_
  refine a_is_11_13 (pc' := 369) dL_isSo_367 rfl ?_
  refine a_il_10_13 (pc' := 371) dL_isSo_369 rfl ?_
  refine a_if_eq (pc' := 374) (tgt := 380) dL_isSo_371 (by decide) rfl (fun c_371 => absurd c_371 (by decide)) (fun c_371 => ?_)
  refine a_il_10_13 (pc' := 376) dL_isSo_374 rfl ?_
  refine a_iconst (v := nI 3) (pc' := 377) dL_isSo_376 (by decide) rfl ?_
  refine a_icmp_ne (pc' := 380) (tgt := 384) dL_isSo_377 (by decide) rfl (fun c_377 => ?_) (fun c_377 => absurd c_377 (by decide))
  refine a_il_11_13 (pc' := 386) dL_isSo_384 rfl ?_
  refine a_al_3_13 (pc' := 387) dL_isSo_386 rfl ?_
  refine a_il_9_13 (pc' := 389) dL_isSo_387 rfl ?_
  refine a_iconst (v := nI 5) (pc' := 390) dL_isSo_389 (by decide) rfl ?_
  refine a_iaddN (pc' := 391) dL_isSo_390 rfl ?_
  refine a_ialdN (pc' := 392) rfl (by omega) (by decide) dL_isSo_391 rfl ?_
  rw [(hLf _).p hp6 5 6 (by decide) (by decide) rfl]
  refine a_imul (pc' := 393) dL_isSo_392 rfl ?_
  refine a_al_3_13 (pc' := 394) dL_isSo_393 rfl ?_
  refine a_il_9_13 (pc' := 396) dL_isSo_394 rfl ?_
  refine a_iconst (v := nI 5) (pc' := 397) dL_isSo_396 (by decide) rfl ?_
  refine a_iaddN (pc' := 398) dL_isSo_397 rfl ?_
  refine a_ialdN (pc' := 399) rfl (by omega) (by decide) dL_isSo_398 rfl ?_
  rw [(hLf _).p hp6 5 6 (by decide) (by decide) rfl]
  refine a_al_3_13 (pc' := 400) dL_isSo_399 rfl ?_
  refine a_il_9_13 (pc' := 402) dL_isSo_400 rfl ?_
  refine a_bipush (v := nI 6) (pc' := 404) dL_isSo_402 (by decide) rfl ?_
  refine a_iaddN (pc' := 405) dL_isSo_404 rfl ?_
  refine a_ialdN (pc' := 406) rfl (by omega) (by decide) dL_isSo_405 rfl ?_
  rw [(hLf _).p hp6 6 7 (by decide) (by decide) rfl]
  refine a_iadd (pc' := 407) dL_isSo_406 rfl ?_
  refine a_idiv (pc' := 408) dL_isSo_407 hdv rfl ?_
  rw [hdoor]
  refine a_is_12_13 (pc' := 410) dL_isSo_408 rfl ?_
  refine a_il_6_13 (pc' := 412) dL_isSo_410 rfl ?_
  refine a_il_10_13 (pc' := 414) dL_isSo_412 rfl ?_
  refine a_if_le (pc' := 417) (tgt := 422) dL_isSo_414 (by decide) rfl (fun c_414 => absurd c_414 (by decide)) (fun c_414 => ?_)
  refine a_il_11_13 (pc' := 419) dL_isSo_417 rfl ?_
  refine a_goto (pc' := 423) dL_isSo_419 (by decide) ?_
  refine a_iadd (pc' := 424) dL_isSo_423 rfl ?_
  refine a_is_6_13 (pc' := 426) dL_isSo_424 rfl ?_
  refine a_al_7_13 (pc' := 428) dL_isSo_426 rfl ?_
  refine a_iconst (v := nI 1) (pc' := 429) dL_isSo_428 (by decide) rfl ?_
  refine a_dup2 (pc' := 430) dL_isSo_429 rfl ?_
  refine a_iald53N (pc' := 431) hf (by decide) dL_isSo_430 rfl ?_
  rw [setR_same]
  refine a_il_12_13 (pc' := 433) dL_isSo_431 rfl ?_
  refine a_iadd (pc' := 434) dL_isSo_433 rfl ?_
  refine a_iast53N (pc' := 435) hf (by decide) dL_isSo_434 rfl ?_
  rw [wr_eq, setR_same, setR_setR]
  refine a_al_7_13 (pc' := 437) dL_isSo_435 rfl ?_
  refine a_iconst (v := nI 2) (pc' := 438) dL_isSo_437 (by decide) rfl ?_
  refine a_dup2 (pc' := 439) dL_isSo_438 rfl ?_
  refine a_iald53N (pc' := 440) hf (by decide) dL_isSo_439 rfl ?_
  rw [setR_same, upd_at, if_neg (by decide)]
  refine a_il_10_13 (pc' := 442) dL_isSo_440 rfl ?_
  refine a_iconst (v := nI 1) (pc' := 443) dL_isSo_442 (by decide) rfl ?_
  refine a_icmp_eq (pc' := 446) (tgt := 452) dL_isSo_443 (by decide) rfl (fun c_443 => absurd c_443 (by decide)) (fun c_443 => ?_)
  refine a_il_10_13 (pc' := 448) dL_isSo_446 rfl ?_
  refine a_iconst (v := nI 2) (pc' := 449) dL_isSo_448 (by decide) rfl ?_
  refine a_icmp_ne (pc' := 452) (tgt := 460) dL_isSo_449 (by decide) rfl (fun c_449 => absurd (by decide) c_449) (fun c_449 => ?_)
  refine a_il_11_13 (pc' := 454) dL_isSo_452 rfl ?_
  refine a_il_12_13 (pc' := 456) dL_isSo_454 rfl ?_
  refine a_isub (pc' := 457) dL_isSo_456 rfl ?_
  refine a_goto (pc' := 461) dL_isSo_457 (by decide) ?_
  refine a_iadd (pc' := 462) dL_isSo_461 rfl ?_
  refine a_iast53N (pc' := 463) hf (by decide) dL_isSo_462 rfl ?_
  rw [wr_eq, setR_same, setR_setR]
  refine a_al_7_13 (pc' := 465) dL_isSo_463 rfl ?_
  refine a_iconst (v := nI 3) (pc' := 466) dL_isSo_465 (by decide) rfl ?_
  refine a_dup2 (pc' := 467) dL_isSo_466 rfl ?_
  refine a_iald53N (pc' := 468) hf (by decide) dL_isSo_467 rfl ?_
  rw [setR_same, upd_at, if_neg (by decide), upd_at, if_neg (by decide)]
  refine a_il_10_13 (pc' := 470) dL_isSo_468 rfl ?_
  refine a_iconst (v := nI 3) (pc' := 471) dL_isSo_470 (by decide) rfl ?_
  refine a_icmp_ne (pc' := 474) (tgt := 479) dL_isSo_471 (by decide) rfl (fun c_471 => ?_) (fun c_471 => absurd c_471 (by decide))
  refine a_iconst (v := nI 0) (pc' := 480) dL_isSo_479 (by decide) rfl ?_
  refine a_iadd (pc' := 481) dL_isSo_480 rfl ?_
  refine a_iast53N (pc' := 482) hf (by decide) dL_isSo_481 rfl ?_
  rw [wr_eq, setR_same, setR_setR]
  refine a_al_0_13 (pc' := 483) dL_isSo_482 rfl ?_
  refine a_il_8_13 (pc' := 485) dL_isSo_483 rfl ?_
  refine a_iconst (v := nI 0) (pc' := 486) dL_isSo_485 (by decide) rfl ?_
  refine k_VI (pc' := 489) (ct_X6_pallet (show np ≤ 12 by omega) _ _ _ (h1f _)) cw_L_106 mi_X6_pallet se_X6_pallet rfl rfl rfl rfl (by decide) (by decide) (Nat.le_of_ble_eq_true rfl) rfl dL_isSo_486 rfl ?_
  rw [m0f]
  refine a_al_3_13 (pc' := 490) dL_isSo_489 rfl ?_
  refine a_il_9_13 (pc' := 492) dL_isSo_490 rfl ?_
  refine a_ialdN (pc' := 493) rfl (by omega) (by decide) dL_isSo_492 rfl ?_
  rw [hp0]
  refine a_iconst (v := nI 3) (pc' := 494) dL_isSo_493 (by decide) rfl ?_
  refine a_idivN (pc' := 495) (by omega) (by decide) (by decide) dL_isSo_494 rfl ?_
  rw [h3w]
  refine a_icmp_ne (pc' := 498) (tgt := 666) dL_isSo_495 (by decide) rfl (fun c_495 => absurd p0 c_495) (fun c_495 => ?_)
  refine a_al_0_13 (pc' := 499) dL_isSo_498 rfl ?_
  refine a_il_8_13 (pc' := 501) dL_isSo_499 rfl ?_
  refine a_iconst (v := nI 1) (pc' := 502) dL_isSo_501 (by decide) rfl ?_
  refine k_VI (pc' := 505) (ct_X6_pallet (show np ≤ 12 by omega) _ _ _ (h1f _)) cw_L_106 mi_X6_pallet se_X6_pallet rfl rfl rfl rfl (by decide) (by decide) (Nat.le_of_ble_eq_true rfl) rfl dL_isSo_502 rfl ?_
  rw [m0f]
  refine a_al_3_13 (pc' := 506) dL_isSo_505 rfl ?_
  refine a_il_9_13 (pc' := 508) dL_isSo_506 rfl ?_
  refine a_ialdN (pc' := 509) rfl (by omega) (by decide) dL_isSo_508 rfl ?_
  rw [hp0]
  refine a_iconst (v := nI 3) (pc' := 510) dL_isSo_509 (by decide) rfl ?_
  refine a_iremN (pc' := 511) (by omega) (by decide) (by decide) dL_isSo_510 rfl ?_
  rw [h3y]
  refine a_icmp_ne (pc' := 514) (tgt := 666) dL_isSo_511 (by decide) rfl (fun c_511 => absurd p1 c_511) (fun c_511 => ?_)
  refine a_al_0_13 (pc' := 515) dL_isSo_514 rfl ?_
  refine a_il_8_13 (pc' := 517) dL_isSo_515 rfl ?_
  refine a_iconst (v := nI 2) (pc' := 518) dL_isSo_517 (by decide) rfl ?_
  refine k_VI (pc' := 521) (ct_X6_pallet (show np ≤ 12 by omega) _ _ _ (h1f _)) cw_L_106 mi_X6_pallet se_X6_pallet rfl rfl rfl rfl (by decide) (by decide) (Nat.le_of_ble_eq_true rfl) rfl dL_isSo_518 rfl ?_
  rw [m0f]
  refine a_al_3_13 (pc' := 522) dL_isSo_521 rfl ?_
  refine a_il_9_13 (pc' := 524) dL_isSo_522 rfl ?_
  refine a_iconst (v := nI 1) (pc' := 525) dL_isSo_524 (by decide) rfl ?_
  refine a_iaddN (pc' := 526) dL_isSo_525 rfl ?_
  refine a_ialdN (pc' := 527) rfl (by omega) (by decide) dL_isSo_526 rfl ?_
  rw [(hLf _).p hp6 1 2 (by decide) (by decide) rfl]
  refine a_icmp_ne (pc' := 530) (tgt := 666) dL_isSo_527 (by decide) rfl (fun c_527 => absurd p2 c_527) (fun c_527 => ?_)
  refine a_al_0_13 (pc' := 531) dL_isSo_530 rfl ?_
  refine a_il_8_13 (pc' := 533) dL_isSo_531 rfl ?_
  refine a_iconst (v := nI 3) (pc' := 534) dL_isSo_533 (by decide) rfl ?_
  refine k_VI (pc' := 537) (ct_X6_pallet (show np ≤ 12 by omega) _ _ _ (h1f _)) cw_L_106 mi_X6_pallet se_X6_pallet rfl rfl rfl rfl (by decide) (by decide) (Nat.le_of_ble_eq_true rfl) rfl dL_isSo_534 rfl ?_
  rw [m0f]
  refine a_al_3_13 (pc' := 538) dL_isSo_537 rfl ?_
  refine a_il_9_13 (pc' := 540) dL_isSo_538 rfl ?_
  refine a_iconst (v := nI 2) (pc' := 541) dL_isSo_540 (by decide) rfl ?_
  refine a_iaddN (pc' := 542) dL_isSo_541 rfl ?_
  refine a_ialdN (pc' := 543) rfl (by omega) (by decide) dL_isSo_542 rfl ?_
  rw [(hLf _).p hp6 2 3 (by decide) (by decide) rfl]
  refine a_icmp_ne (pc' := 546) (tgt := 666) dL_isSo_543 (by decide) rfl (fun c_543 => absurd p3 c_543) (fun c_543 => ?_)
  refine a_al_0_13 (pc' := 547) dL_isSo_546 rfl ?_
  refine a_il_8_13 (pc' := 549) dL_isSo_547 rfl ?_
  refine a_iconst (v := nI 4) (pc' := 550) dL_isSo_549 (by decide) rfl ?_
  refine k_VI (pc' := 553) (ct_X6_pallet (show np ≤ 12 by omega) _ _ _ (h1f _)) cw_L_106 mi_X6_pallet se_X6_pallet rfl rfl rfl rfl (by decide) (by decide) (Nat.le_of_ble_eq_true rfl) rfl dL_isSo_550 rfl ?_
  rw [m0f]
  refine a_al_3_13 (pc' := 554) dL_isSo_553 rfl ?_
  refine a_il_9_13 (pc' := 556) dL_isSo_554 rfl ?_
  refine a_iconst (v := nI 3) (pc' := 557) dL_isSo_556 (by decide) rfl ?_
  refine a_iaddN (pc' := 558) dL_isSo_557 rfl ?_
  refine a_ialdN (pc' := 559) rfl (by omega) (by decide) dL_isSo_558 rfl ?_
  rw [(hLf _).p hp6 3 4 (by decide) (by decide) rfl]
  refine a_icmp_ne (pc' := 562) (tgt := 666) dL_isSo_559 (by decide) rfl (fun c_559 => absurd p4 c_559) (fun c_559 => ?_)
  refine a_al_0_13 (pc' := 563) dL_isSo_562 rfl ?_
  refine a_il_8_13 (pc' := 565) dL_isSo_563 rfl ?_
  refine a_iconst (v := nI 5) (pc' := 566) dL_isSo_565 (by decide) rfl ?_
  refine k_VI (pc' := 569) (ct_X6_pallet (show np ≤ 12 by omega) _ _ _ (h1f _)) cw_L_106 mi_X6_pallet se_X6_pallet rfl rfl rfl rfl (by decide) (by decide) (Nat.le_of_ble_eq_true rfl) rfl dL_isSo_566 rfl ?_
  rw [m0f]
  refine a_al_3_13 (pc' := 570) dL_isSo_569 rfl ?_
  refine a_il_9_13 (pc' := 572) dL_isSo_570 rfl ?_
  refine a_iconst (v := nI 4) (pc' := 573) dL_isSo_572 (by decide) rfl ?_
  refine a_iaddN (pc' := 574) dL_isSo_573 rfl ?_
  refine a_ialdN (pc' := 575) rfl (by omega) (by decide) dL_isSo_574 rfl ?_
  rw [(hLf _).p hp6 4 5 (by decide) (by decide) rfl]
  refine a_icmp_ne (pc' := 578) (tgt := 666) dL_isSo_575 (by decide) rfl (fun c_575 => absurd p5 c_575) (fun c_575 => ?_)
  refine a_al_0_13 (pc' := 579) dL_isSo_578 rfl ?_
  refine a_il_8_13 (pc' := 581) dL_isSo_579 rfl ?_
  refine a_bipush (v := nI 6) (pc' := 583) dL_isSo_581 (by decide) rfl ?_
  refine k_VI (pc' := 586) (ct_X6_pallet (show np ≤ 12 by omega) _ _ _ (h1f _)) cw_L_106 mi_X6_pallet se_X6_pallet rfl rfl rfl rfl (by decide) (by decide) (Nat.le_of_ble_eq_true rfl) rfl dL_isSo_583 rfl ?_
  rw [m0f]
  refine a_al_3_13 (pc' := 587) dL_isSo_586 rfl ?_
  refine a_il_9_13 (pc' := 589) dL_isSo_587 rfl ?_
  refine a_iconst (v := nI 5) (pc' := 590) dL_isSo_589 (by decide) rfl ?_
  refine a_iaddN (pc' := 591) dL_isSo_590 rfl ?_
  refine a_ialdN (pc' := 592) rfl (by omega) (by decide) dL_isSo_591 rfl ?_
  rw [(hLf _).p hp6 5 6 (by decide) (by decide) rfl]
  refine a_icmp_ne (pc' := 595) (tgt := 666) dL_isSo_592 (by decide) rfl (fun c_592 => absurd p6 c_592) (fun c_592 => ?_)
  refine a_al_0_13 (pc' := 596) dL_isSo_595 rfl ?_
  refine a_il_8_13 (pc' := 598) dL_isSo_596 rfl ?_
  refine a_bipush (v := nI 7) (pc' := 600) dL_isSo_598 (by decide) rfl ?_
  refine k_VI (pc' := 603) (ct_X6_pallet (show np ≤ 12 by omega) _ _ _ (h1f _)) cw_L_106 mi_X6_pallet se_X6_pallet rfl rfl rfl rfl (by decide) (by decide) (Nat.le_of_ble_eq_true rfl) rfl dL_isSo_600 rfl ?_
  rw [m0f]
  refine a_al_3_13 (pc' := 604) dL_isSo_603 rfl ?_
  refine a_il_9_13 (pc' := 606) dL_isSo_604 rfl ?_
  refine a_bipush (v := nI 6) (pc' := 608) dL_isSo_606 (by decide) rfl ?_
  refine a_iaddN (pc' := 609) dL_isSo_608 rfl ?_
  refine a_ialdN (pc' := 610) rfl (by omega) (by decide) dL_isSo_609 rfl ?_
  rw [(hLf _).p hp6 6 7 (by decide) (by decide) rfl]
  refine a_icmp_ne (pc' := 613) (tgt := 666) dL_isSo_610 (by decide) rfl (fun c_610 => absurd p7 c_610) (fun c_610 => ?_)
  refine a_al_0_13 (pc' := 614) dL_isSo_613 rfl ?_
  refine a_il_8_13 (pc' := 616) dL_isSo_614 rfl ?_
  refine a_bipush (v := nI 8) (pc' := 618) dL_isSo_616 (by decide) rfl ?_
  refine k_VI (pc' := 621) (ct_X6_pallet (show np ≤ 12 by omega) _ _ _ (h1f _)) cw_L_106 mi_X6_pallet se_X6_pallet rfl rfl rfl rfl (by decide) (by decide) (Nat.le_of_ble_eq_true rfl) rfl dL_isSo_618 rfl ?_
  rw [m0f]
  refine a_al_3_13 (pc' := 622) dL_isSo_621 rfl ?_
  refine a_il_9_13 (pc' := 624) dL_isSo_622 rfl ?_
  refine a_bipush (v := nI 7) (pc' := 626) dL_isSo_624 (by decide) rfl ?_
  refine a_iaddN (pc' := 627) dL_isSo_626 rfl ?_
  refine a_ialdN (pc' := 628) rfl (by omega) (by decide) dL_isSo_627 rfl ?_
  rw [(hLf _).p hp6 7 8 (by decide) (by decide) rfl]
  refine a_icmp_ne (pc' := 631) (tgt := 666) dL_isSo_628 (by decide) rfl (fun c_628 => absurd p8 c_628) (fun c_628 => ?_)
  refine a_al_0_13 (pc' := 632) dL_isSo_631 rfl ?_
  refine a_il_8_13 (pc' := 634) dL_isSo_632 rfl ?_
  refine a_bipush (v := nI 9) (pc' := 636) dL_isSo_634 (by decide) rfl ?_
  refine k_VI (pc' := 639) (ct_X6_pallet (show np ≤ 12 by omega) _ _ _ (h1f _)) cw_L_106 mi_X6_pallet se_X6_pallet rfl rfl rfl rfl (by decide) (by decide) (Nat.le_of_ble_eq_true rfl) rfl dL_isSo_636 rfl ?_
  rw [m0f]
  refine a_il_10_13 (pc' := 641) dL_isSo_639 rfl ?_
  refine a_icmp_ne (pc' := 644) (tgt := 666) dL_isSo_641 (by decide) rfl (fun c_641 => absurd p9 c_641) (fun c_641 => ?_)
  refine a_al_0_13 (pc' := 645) dL_isSo_644 rfl ?_
  refine a_il_8_13 (pc' := 647) dL_isSo_645 rfl ?_
  refine a_bipush (v := nI 10) (pc' := 649) dL_isSo_647 (by decide) rfl ?_
  refine k_VI (pc' := 652) (ct_X6_pallet (show np ≤ 12 by omega) _ _ _ (h1f _)) cw_L_106 mi_X6_pallet se_X6_pallet rfl rfl rfl rfl (by decide) (by decide) (Nat.le_of_ble_eq_true rfl) rfl dL_isSo_649 rfl ?_
  rw [m0f]
  refine a_al_3_13 (pc' := 653) dL_isSo_652 rfl ?_
  refine a_il_9_13 (pc' := 655) dL_isSo_653 rfl ?_
  refine a_bipush (v := nI 8) (pc' := 657) dL_isSo_655 (by decide) rfl ?_
  refine a_iaddN (pc' := 658) dL_isSo_657 rfl ?_
  refine a_ialdN (pc' := 659) rfl (by omega) (by decide) dL_isSo_658 rfl ?_
  rw [(hLf _).p hp6 8 9 (by decide) (by decide) rfl]
  refine a_icmp_ne (pc' := 662) (tgt := 666) dL_isSo_659 (by decide) rfl (fun c_659 => absurd p10 c_659) (fun c_659 => ?_)
  refine a_iconst (v := nI 1) (pc' := 663) dL_isSo_662 (by decide) rfl ?_
  refine a_goto (pc' := 667) dL_isSo_663 (by decide) ?_
  refine a_is_4_13 (pc' := 669) dL_isSo_667 rfl ?_
  refine a_iN_8_13 (m := p + 1) (pc' := 672) dL_isSo_669 (nI_add _ _) rfl ?_
  refine a_goto (pc' := 325) dL_isSo_672 (by decide) ?_
  exact a_castS (by rw [hk0]) (by rw [hk1, hk2, hk3]) (kx (some (.inl (nI (10 * p)))) _ _ _)
set_option maxRecDepth 20000 in
set_option maxHeartbeats 4000000 in
theorem lb_pal3 {G : Gl} {Φ : Option OV → Mm → Prop} {M : Mm} (h : INV M) {np p : Nat} (h1 : M 0 1 = nI np) (hm : np ≤ 6) (hp : p < np) (hf : FL G) (hc : causeP (M 0) p = nI 3) (fd al : Int32) (f : Nat → Int32) (x9 x10 x11 x12 : Option OV) (kx : ∀ y9 y10 y11 y12 : Option OV, AW G cL_isSo RL 13 4 88 (some .boolean) Φ 325 [some (.inr (6, 0, 0, 0)), some (.inr (9, 50, 6, 0)), some (.inr (9, 51, 57, 0)), some (.inr (9, 52, 60, 0)), some (.inl (nI 1)), some (.inl fd), some (.inl (al + claimP (M 0) p)), some (.inr (9, 53, 4, 0)), some (.inl (nI (p + 1))), y9, y10, y11, y12] [] (setR M 53 (upd (upd (upd f 1 (f 1 + claimByP (M 0) p (nI 1))) 2 (f 2 + claimByP (M 0) p (nI 2))) 3 (f 3 + claimByP (M 0) p (nI 3))))) : AW G cL_isSo RL 13 4 88 (some .boolean) Φ 325 [some (.inr (6, 0, 0, 0)), some (.inr (9, 50, 6, 0)), some (.inr (9, 51, 57, 0)), some (.inr (9, 52, 60, 0)), some (.inl (nI 1)), some (.inl fd), some (.inl al), some (.inr (9, 53, 4, 0)), some (.inl (nI p)), x9, x10, x11, x12] [] (setR M 53 f) := by
  have hLf : ∀ f, LA (setR M 53 f) (M 0) := fun f => h.1.moved (setR_ne _ _ (by decide)) (setR_ne _ _ (by decide)) (setR_ne _ _ (by decide))
  have m0f : ∀ f, setR M 53 f 0 = M 0 := fun f => setR_ne _ _ (by decide)
  have h1f : ∀ f, setR M 53 f 0 1 = nI np := fun f => by rw [m0f]; exact h1
  obtain ⟨⟨t, ht, hg⟩, hqw⟩ := id h.2.1
  have hp6 : p < 6 := by omega
  have hst := hg.state (p := p) (by omega)
  have hcp : vN (nI p) = p := vN_nI (by omega)
  have hpt := hp_t h1 (by omega) hp
  obtain ⟨w, hw, ev⟩ := hg.pv (p := p) (by omega)
  obtain ⟨y, hy, ez⟩ := hg.pz (p := p) (by omega)
  have hp0 : ∀ f, setR M 53 f 52 (10 * p) = nI (3 * w + y) := fun f => by rw [(hLf f).p0 hp6, ev, ez, pk_mul, nI_add]
  have h3w : (3 * w + y) / 3 = w := by omega
  have h3y : (3 * w + y) % 3 = y := by omega
  have pq : ∀ k, pqS (M 0) (nI p) k = propP (M 0) p k := fun k => by unfold pqS; rw [if_pos hpt, hcp]
  have p0 : pqS (M 0) (nI p) (nI 0) = nI w := by rw [pq]; exact ev
  have p1 : pqS (M 0) (nI p) (nI 1) = nI y := by rw [pq]; exact ez
  have p2 : pqS (M 0) (nI p) (nI 2) = M 0 (63 + 10 * p + 2) := by rw [pq]; rfl
  have p3 : pqS (M 0) (nI p) (nI 3) = M 0 (63 + 10 * p + 3) := by rw [pq]; rfl
  have p4 : pqS (M 0) (nI p) (nI 4) = M 0 (63 + 10 * p + 4) := by rw [pq]; rfl
  have p5 : pqS (M 0) (nI p) (nI 5) = M 0 (63 + 10 * p + 5) := by rw [pq]; rfl
  have p6 : pqS (M 0) (nI p) (nI 6) = M 0 (63 + 10 * p + 6) := by rw [pq]; rfl
  have p7 : pqS (M 0) (nI p) (nI 7) = M 0 (63 + 10 * p + 7) := by rw [pq]; rfl
  have p8 : pqS (M 0) (nI p) (nI 8) = M 0 (63 + 10 * p + 8) := by rw [pq]; rfl
  have p10 : pqS (M 0) (nI p) (nI 10) = M 0 (63 + 10 * p + 9) := by rw [pq]; rfl
  have p9 : pqS (M 0) (nI p) (nI 9) = nI 3 := by rw [pq]; exact hc
  have hk0 : claimP (M 0) p = M 0 (63 + 10 * p + 4) + M 0 (63 + 10 * p + 9) := cl_rej (by rw [hc]; decide)
  have hk1 : claimByP (M 0) p (nI 1) = nI 0 := (by_3 hc).1
  have hk2 : claimByP (M 0) p (nI 2) = nI 0 := (by_3 hc).2.1
  have hk3 : claimByP (M 0) p (nI 3) = M 0 (63 + 10 * p + 4) + M 0 (63 + 10 * p + 9) := (by_3 hc).2.2.trans hk0
  refine a_il_8_13 (pc' := 327) dL_isSo_325 rfl ?_
  refine a_al_1_13 (pc' := 328) dL_isSo_327 rfl ?_
  refine a_iconst (v := nI 1) (pc' := 329) dL_isSo_328 (by decide) rfl ?_
  refine a_ialdN (pc' := 330) rfl (by omega) (by decide) dL_isSo_329 rfl ?_
  rw [(hLf _).g (show 1 < 6 by decide), h1]
  refine a_icmp_ge (pc' := 333) (tgt := 675) dL_isSo_330 (by decide) rfl (fun c_330 => absurd c_330 (nI_ge (by omega) (by omega))) (fun c_330 => ?_)
  refine a_il_4_13 (pc' := 335) dL_isSo_333 rfl ?_
  refine a_if_eq (pc' := 338) (tgt := 675) dL_isSo_335 (by decide) rfl (fun c_335 => absurd c_335 (by decide)) (fun c_335 => ?_)
  refine a_bipush (v := nI 10) (pc' := 340) dL_isSo_338 (by decide) rfl ?_
  refine a_il_8_13 (pc' := 342) dL_isSo_340 rfl ?_
  refine a_imulN (pc' := 343) dL_isSo_342 rfl ?_
  refine a_is_9_13 (pc' := 345) dL_isSo_343 rfl ?_
  refine a_al_3_13 (pc' := 346) dL_isSo_345 rfl ?_
  refine a_il_8_13 (pc' := 348) dL_isSo_346 rfl ?_
  refine k_SI (pc' := 351) (ct_L_cause hp6 _ (hLf _) hst) cw_L_103 ms_L_cause rfl (by decide) (by decide) (Nat.le_of_ble_eq_true rfl) rfl dL_isSo_348 rfl ?_
  rw [hc]
  refine a_is_10_13 (pc' := 353) dL_isSo_351 rfl ?_
  refine a_al_3_13 (pc' := 354) dL_isSo_353 rfl ?_
  refine a_il_9_13 (pc' := 356) dL_isSo_354 rfl ?_
  refine a_iconst (v := nI 3) (pc' := 357) dL_isSo_356 (by decide) rfl ?_
  refine a_iaddN (pc' := 358) dL_isSo_357 rfl ?_
  refine a_ialdN (pc' := 359) rfl (by omega) (by decide) dL_isSo_358 rfl ?_
  rw [(hLf _).p hp6 3 4 (by decide) (by decide) rfl]
  refine a_al_3_13 (pc' := 360) dL_isSo_359 rfl ?_
  refine a_il_9_13 (pc' := 362) dL_isSo_360 rfl ?_
  refine a_bipush (v := nI 8) (pc' := 364) dL_isSo_362 (by decide) rfl ?_
  refine a_iaddN (pc' := 365) dL_isSo_364 rfl ?_
  refine a_ialdN (pc' := 366) rfl (by omega) (by decide) dL_isSo_365 rfl ?_
  rw [(hLf _).p hp6 8 9 (by decide) (by decide) rfl]
  refine a_iadd (pc' := 367) dL_isSo_366 rfl ?_
  refine a_is_11_13 (pc' := 369) dL_isSo_367 rfl ?_
  refine a_il_10_13 (pc' := 371) dL_isSo_369 rfl ?_
  refine a_if_eq (pc' := 374) (tgt := 380) dL_isSo_371 (by decide) rfl (fun c_371 => absurd c_371 (by decide)) (fun c_371 => ?_)
  refine a_il_10_13 (pc' := 376) dL_isSo_374 rfl ?_
  refine a_iconst (v := nI 3) (pc' := 377) dL_isSo_376 (by decide) rfl ?_
  refine a_icmp_ne (pc' := 380) (tgt := 384) dL_isSo_377 (by decide) rfl (fun c_377 => absurd (by decide) c_377) (fun c_377 => ?_)
  refine a_iconst (v := nI 0) (pc' := 381) dL_isSo_380 (by decide) rfl ?_
  refine a_goto (pc' := 408) dL_isSo_381 (by decide) ?_
  refine a_is_12_13 (pc' := 410) dL_isSo_408 rfl ?_
  refine a_il_6_13 (pc' := 412) dL_isSo_410 rfl ?_
  refine a_il_10_13 (pc' := 414) dL_isSo_412 rfl ?_
  refine a_if_le (pc' := 417) (tgt := 422) dL_isSo_414 (by decide) rfl (fun c_414 => absurd c_414 (by decide)) (fun c_414 => ?_)
  refine a_il_11_13 (pc' := 419) dL_isSo_417 rfl ?_
  refine a_goto (pc' := 423) dL_isSo_419 (by decide) ?_
  refine a_iadd (pc' := 424) dL_isSo_423 rfl ?_
  refine a_is_6_13 (pc' := 426) dL_isSo_424 rfl ?_
  refine a_al_7_13 (pc' := 428) dL_isSo_426 rfl ?_
  refine a_iconst (v := nI 1) (pc' := 429) dL_isSo_428 (by decide) rfl ?_
  refine a_dup2 (pc' := 430) dL_isSo_429 rfl ?_
  refine a_iald53N (pc' := 431) hf (by decide) dL_isSo_430 rfl ?_
  rw [setR_same]
  refine a_il_12_13 (pc' := 433) dL_isSo_431 rfl ?_
  refine a_iadd (pc' := 434) dL_isSo_433 rfl ?_
  refine a_iast53N (pc' := 435) hf (by decide) dL_isSo_434 rfl ?_
  rw [wr_eq, setR_same, setR_setR]
  refine a_al_7_13 (pc' := 437) dL_isSo_435 rfl ?_
  refine a_iconst (v := nI 2) (pc' := 438) dL_isSo_437 (by decide) rfl ?_
  refine a_dup2 (pc' := 439) dL_isSo_438 rfl ?_
  refine a_iald53N (pc' := 440) hf (by decide) dL_isSo_439 rfl ?_
  rw [setR_same, upd_at, if_neg (by decide)]
  refine a_il_10_13 (pc' := 442) dL_isSo_440 rfl ?_
  refine a_iconst (v := nI 1) (pc' := 443) dL_isSo_442 (by decide) rfl ?_
  refine a_icmp_eq (pc' := 446) (tgt := 452) dL_isSo_443 (by decide) rfl (fun c_443 => absurd c_443 (by decide)) (fun c_443 => ?_)
  refine a_il_10_13 (pc' := 448) dL_isSo_446 rfl ?_
  refine a_iconst (v := nI 2) (pc' := 449) dL_isSo_448 (by decide) rfl ?_
  refine a_icmp_ne (pc' := 452) (tgt := 460) dL_isSo_449 (by decide) rfl (fun c_449 => ?_) (fun c_449 => absurd c_449 (by decide))
  refine a_iconst (v := nI 0) (pc' := 461) dL_isSo_460 (by decide) rfl ?_
  refine a_iadd (pc' := 462) dL_isSo_461 rfl ?_
  refine a_iast53N (pc' := 463) hf (by decide) dL_isSo_462 rfl ?_
  rw [wr_eq, setR_same, setR_setR]
  refine a_al_7_13 (pc' := 465) dL_isSo_463 rfl ?_
  refine a_iconst (v := nI 3) (pc' := 466) dL_isSo_465 (by decide) rfl ?_
  refine a_dup2 (pc' := 467) dL_isSo_466 rfl ?_
  refine a_iald53N (pc' := 468) hf (by decide) dL_isSo_467 rfl ?_
  rw [setR_same, upd_at, if_neg (by decide), upd_at, if_neg (by decide)]
  refine a_il_10_13 (pc' := 470) dL_isSo_468 rfl ?_
  refine a_iconst (v := nI 3) (pc' := 471) dL_isSo_470 (by decide) rfl ?_
  refine a_icmp_ne (pc' := 474) (tgt := 479) dL_isSo_471 (by decide) rfl (fun c_471 => absurd (by decide) c_471) (fun c_471 => ?_)
  refine a_il_11_13 (pc' := 476) dL_isSo_474 rfl ?_
  refine a_goto (pc' := 480) dL_isSo_476 (by decide) ?_
  refine a_iadd (pc' := 481) dL_isSo_480 rfl ?_
  refine a_iast53N (pc' := 482) hf (by decide) dL_isSo_481 rfl ?_
  rw [wr_eq, setR_same, setR_setR]
  refine a_al_0_13 (pc' := 483) dL_isSo_482 rfl ?_
  refine a_il_8_13 (pc' := 485) dL_isSo_483 rfl ?_
  refine a_iconst (v := nI 0) (pc' := 486) dL_isSo_485 (by decide) rfl ?_
  refine k_VI (pc' := 489) (ct_X6_pallet (show np ≤ 12 by omega) _ _ _ (h1f _)) cw_L_106 mi_X6_pallet se_X6_pallet rfl rfl rfl rfl (by decide) (by decide) (Nat.le_of_ble_eq_true rfl) rfl dL_isSo_486 rfl ?_
  rw [m0f]
  refine a_al_3_13 (pc' := 490) dL_isSo_489 rfl ?_
  refine a_il_9_13 (pc' := 492) dL_isSo_490 rfl ?_
  refine a_ialdN (pc' := 493) rfl (by omega) (by decide) dL_isSo_492 rfl ?_
  rw [hp0]
  refine a_iconst (v := nI 3) (pc' := 494) dL_isSo_493 (by decide) rfl ?_
  refine a_idivN (pc' := 495) (by omega) (by decide) (by decide) dL_isSo_494 rfl ?_
  rw [h3w]
  refine a_icmp_ne (pc' := 498) (tgt := 666) dL_isSo_495 (by decide) rfl (fun c_495 => absurd p0 c_495) (fun c_495 => ?_)
  refine a_al_0_13 (pc' := 499) dL_isSo_498 rfl ?_
  refine a_il_8_13 (pc' := 501) dL_isSo_499 rfl ?_
  refine a_iconst (v := nI 1) (pc' := 502) dL_isSo_501 (by decide) rfl ?_
  refine k_VI (pc' := 505) (ct_X6_pallet (show np ≤ 12 by omega) _ _ _ (h1f _)) cw_L_106 mi_X6_pallet se_X6_pallet rfl rfl rfl rfl (by decide) (by decide) (Nat.le_of_ble_eq_true rfl) rfl dL_isSo_502 rfl ?_
  rw [m0f]
  refine a_al_3_13 (pc' := 506) dL_isSo_505 rfl ?_
  refine a_il_9_13 (pc' := 508) dL_isSo_506 rfl ?_
  refine a_ialdN (pc' := 509) rfl (by omega) (by decide) dL_isSo_508 rfl ?_
  rw [hp0]
  refine a_iconst (v := nI 3) (pc' := 510) dL_isSo_509 (by decide) rfl ?_
  refine a_iremN (pc' := 511) (by omega) (by decide) (by decide) dL_isSo_510 rfl ?_
  rw [h3y]
  refine a_icmp_ne (pc' := 514) (tgt := 666) dL_isSo_511 (by decide) rfl (fun c_511 => absurd p1 c_511) (fun c_511 => ?_)
  refine a_al_0_13 (pc' := 515) dL_isSo_514 rfl ?_
  refine a_il_8_13 (pc' := 517) dL_isSo_515 rfl ?_
  refine a_iconst (v := nI 2) (pc' := 518) dL_isSo_517 (by decide) rfl ?_
  refine k_VI (pc' := 521) (ct_X6_pallet (show np ≤ 12 by omega) _ _ _ (h1f _)) cw_L_106 mi_X6_pallet se_X6_pallet rfl rfl rfl rfl (by decide) (by decide) (Nat.le_of_ble_eq_true rfl) rfl dL_isSo_518 rfl ?_
  rw [m0f]
  refine a_al_3_13 (pc' := 522) dL_isSo_521 rfl ?_
  refine a_il_9_13 (pc' := 524) dL_isSo_522 rfl ?_
  refine a_iconst (v := nI 1) (pc' := 525) dL_isSo_524 (by decide) rfl ?_
  refine a_iaddN (pc' := 526) dL_isSo_525 rfl ?_
  refine a_ialdN (pc' := 527) rfl (by omega) (by decide) dL_isSo_526 rfl ?_
  rw [(hLf _).p hp6 1 2 (by decide) (by decide) rfl]
  refine a_icmp_ne (pc' := 530) (tgt := 666) dL_isSo_527 (by decide) rfl (fun c_527 => absurd p2 c_527) (fun c_527 => ?_)
  refine a_al_0_13 (pc' := 531) dL_isSo_530 rfl ?_
  refine a_il_8_13 (pc' := 533) dL_isSo_531 rfl ?_
  refine a_iconst (v := nI 3) (pc' := 534) dL_isSo_533 (by decide) rfl ?_
  refine k_VI (pc' := 537) (ct_X6_pallet (show np ≤ 12 by omega) _ _ _ (h1f _)) cw_L_106 mi_X6_pallet se_X6_pallet rfl rfl rfl rfl (by decide) (by decide) (Nat.le_of_ble_eq_true rfl) rfl dL_isSo_534 rfl ?_
  rw [m0f]
  refine a_al_3_13 (pc' := 538) dL_isSo_537 rfl ?_
  refine a_il_9_13 (pc' := 540) dL_isSo_538 rfl ?_
  refine a_iconst (v := nI 2) (pc' := 541) dL_isSo_540 (by decide) rfl ?_
  refine a_iaddN (pc' := 542) dL_isSo_541 rfl ?_
  refine a_ialdN (pc' := 543) rfl (by omega) (by decide) dL_isSo_542 rfl ?_
  rw [(hLf _).p hp6 2 3 (by decide) (by decide) rfl]
  refine a_icmp_ne (pc' := 546) (tgt := 666) dL_isSo_543 (by decide) rfl (fun c_543 => absurd p3 c_543) (fun c_543 => ?_)
  refine a_al_0_13 (pc' := 547) dL_isSo_546 rfl ?_
  refine a_il_8_13 (pc' := 549) dL_isSo_547 rfl ?_
  refine a_iconst (v := nI 4) (pc' := 550) dL_isSo_549 (by decide) rfl ?_
  refine k_VI (pc' := 553) (ct_X6_pallet (show np ≤ 12 by omega) _ _ _ (h1f _)) cw_L_106 mi_X6_pallet se_X6_pallet rfl rfl rfl rfl (by decide) (by decide) (Nat.le_of_ble_eq_true rfl) rfl dL_isSo_550 rfl ?_
  rw [m0f]
  refine a_al_3_13 (pc' := 554) dL_isSo_553 rfl ?_
  refine a_il_9_13 (pc' := 556) dL_isSo_554 rfl ?_
  refine a_iconst (v := nI 3) (pc' := 557) dL_isSo_556 (by decide) rfl ?_
  refine a_iaddN (pc' := 558) dL_isSo_557 rfl ?_
  refine a_ialdN (pc' := 559) rfl (by omega) (by decide) dL_isSo_558 rfl ?_
  rw [(hLf _).p hp6 3 4 (by decide) (by decide) rfl]
  refine a_icmp_ne (pc' := 562) (tgt := 666) dL_isSo_559 (by decide) rfl (fun c_559 => absurd p4 c_559) (fun c_559 => ?_)
  refine a_al_0_13 (pc' := 563) dL_isSo_562 rfl ?_
  refine a_il_8_13 (pc' := 565) dL_isSo_563 rfl ?_
  refine a_iconst (v := nI 5) (pc' := 566) dL_isSo_565 (by decide) rfl ?_
  refine k_VI (pc' := 569) (ct_X6_pallet (show np ≤ 12 by omega) _ _ _ (h1f _)) cw_L_106 mi_X6_pallet se_X6_pallet rfl rfl rfl rfl (by decide) (by decide) (Nat.le_of_ble_eq_true rfl) rfl dL_isSo_566 rfl ?_
  rw [m0f]
  refine a_al_3_13 (pc' := 570) dL_isSo_569 rfl ?_
  refine a_il_9_13 (pc' := 572) dL_isSo_570 rfl ?_
  refine a_iconst (v := nI 4) (pc' := 573) dL_isSo_572 (by decide) rfl ?_
  refine a_iaddN (pc' := 574) dL_isSo_573 rfl ?_
  refine a_ialdN (pc' := 575) rfl (by omega) (by decide) dL_isSo_574 rfl ?_
  rw [(hLf _).p hp6 4 5 (by decide) (by decide) rfl]
  refine a_icmp_ne (pc' := 578) (tgt := 666) dL_isSo_575 (by decide) rfl (fun c_575 => absurd p5 c_575) (fun c_575 => ?_)
  refine a_al_0_13 (pc' := 579) dL_isSo_578 rfl ?_
  refine a_il_8_13 (pc' := 581) dL_isSo_579 rfl ?_
  refine a_bipush (v := nI 6) (pc' := 583) dL_isSo_581 (by decide) rfl ?_
  refine k_VI (pc' := 586) (ct_X6_pallet (show np ≤ 12 by omega) _ _ _ (h1f _)) cw_L_106 mi_X6_pallet se_X6_pallet rfl rfl rfl rfl (by decide) (by decide) (Nat.le_of_ble_eq_true rfl) rfl dL_isSo_583 rfl ?_
  rw [m0f]
  refine a_al_3_13 (pc' := 587) dL_isSo_586 rfl ?_
  refine a_il_9_13 (pc' := 589) dL_isSo_587 rfl ?_
  refine a_iconst (v := nI 5) (pc' := 590) dL_isSo_589 (by decide) rfl ?_
  refine a_iaddN (pc' := 591) dL_isSo_590 rfl ?_
  refine a_ialdN (pc' := 592) rfl (by omega) (by decide) dL_isSo_591 rfl ?_
  rw [(hLf _).p hp6 5 6 (by decide) (by decide) rfl]
  refine a_icmp_ne (pc' := 595) (tgt := 666) dL_isSo_592 (by decide) rfl (fun c_592 => absurd p6 c_592) (fun c_592 => ?_)
  refine a_al_0_13 (pc' := 596) dL_isSo_595 rfl ?_
  refine a_il_8_13 (pc' := 598) dL_isSo_596 rfl ?_
  refine a_bipush (v := nI 7) (pc' := 600) dL_isSo_598 (by decide) rfl ?_
  refine k_VI (pc' := 603) (ct_X6_pallet (show np ≤ 12 by omega) _ _ _ (h1f _)) cw_L_106 mi_X6_pallet se_X6_pallet rfl rfl rfl rfl (by decide) (by decide) (Nat.le_of_ble_eq_true rfl) rfl dL_isSo_600 rfl ?_
  rw [m0f]
  refine a_al_3_13 (pc' := 604) dL_isSo_603 rfl ?_
  refine a_il_9_13 (pc' := 606) dL_isSo_604 rfl ?_
  refine a_bipush (v := nI 6) (pc' := 608) dL_isSo_606 (by decide) rfl ?_
  refine a_iaddN (pc' := 609) dL_isSo_608 rfl ?_
  refine a_ialdN (pc' := 610) rfl (by omega) (by decide) dL_isSo_609 rfl ?_
  rw [(hLf _).p hp6 6 7 (by decide) (by decide) rfl]
  refine a_icmp_ne (pc' := 613) (tgt := 666) dL_isSo_610 (by decide) rfl (fun c_610 => absurd p7 c_610) (fun c_610 => ?_)
  refine a_al_0_13 (pc' := 614) dL_isSo_613 rfl ?_
  refine a_il_8_13 (pc' := 616) dL_isSo_614 rfl ?_
  refine a_bipush (v := nI 8) (pc' := 618) dL_isSo_616 (by decide) rfl ?_
  refine k_VI (pc' := 621) (ct_X6_pallet (show np ≤ 12 by omega) _ _ _ (h1f _)) cw_L_106 mi_X6_pallet se_X6_pallet rfl rfl rfl rfl (by decide) (by decide) (Nat.le_of_ble_eq_true rfl) rfl dL_isSo_618 rfl ?_
  rw [m0f]
  refine a_al_3_13 (pc' := 622) dL_isSo_621 rfl ?_
  refine a_il_9_13 (pc' := 624) dL_isSo_622 rfl ?_
  refine a_bipush (v := nI 7) (pc' := 626) dL_isSo_624 (by decide) rfl ?_
  refine a_iaddN (pc' := 627) dL_isSo_626 rfl ?_
  refine a_ialdN (pc' := 628) rfl (by omega) (by decide) dL_isSo_627 rfl ?_
  rw [(hLf _).p hp6 7 8 (by decide) (by decide) rfl]
  refine a_icmp_ne (pc' := 631) (tgt := 666) dL_isSo_628 (by decide) rfl (fun c_628 => absurd p8 c_628) (fun c_628 => ?_)
  refine a_al_0_13 (pc' := 632) dL_isSo_631 rfl ?_
  refine a_il_8_13 (pc' := 634) dL_isSo_632 rfl ?_
  refine a_bipush (v := nI 9) (pc' := 636) dL_isSo_634 (by decide) rfl ?_
  refine k_VI (pc' := 639) (ct_X6_pallet (show np ≤ 12 by omega) _ _ _ (h1f _)) cw_L_106 mi_X6_pallet se_X6_pallet rfl rfl rfl rfl (by decide) (by decide) (Nat.le_of_ble_eq_true rfl) rfl dL_isSo_636 rfl ?_
  rw [m0f]
  refine a_il_10_13 (pc' := 641) dL_isSo_639 rfl ?_
  refine a_icmp_ne (pc' := 644) (tgt := 666) dL_isSo_641 (by decide) rfl (fun c_641 => absurd p9 c_641) (fun c_641 => ?_)
  refine a_al_0_13 (pc' := 645) dL_isSo_644 rfl ?_
  refine a_il_8_13 (pc' := 647) dL_isSo_645 rfl ?_
  refine a_bipush (v := nI 10) (pc' := 649) dL_isSo_647 (by decide) rfl ?_
  refine k_VI (pc' := 652) (ct_X6_pallet (show np ≤ 12 by omega) _ _ _ (h1f _)) cw_L_106 mi_X6_pallet se_X6_pallet rfl rfl rfl rfl (by decide) (by decide) (Nat.le_of_ble_eq_true rfl) rfl dL_isSo_649 rfl ?_
  rw [m0f]
  refine a_al_3_13 (pc' := 653) dL_isSo_652 rfl ?_
  refine a_il_9_13 (pc' := 655) dL_isSo_653 rfl ?_
  refine a_bipush (v := nI 8) (pc' := 657) dL_isSo_655 (by decide) rfl ?_
  refine a_iaddN (pc' := 658) dL_isSo_657 rfl ?_
  refine a_ialdN (pc' := 659) rfl (by omega) (by decide) dL_isSo_658 rfl ?_
  rw [(hLf _).p hp6 8 9 (by decide) (by decide) rfl]
  refine a_icmp_ne (pc' := 662) (tgt := 666) dL_isSo_659 (by decide) rfl (fun c_659 => absurd p10 c_659) (fun c_659 => ?_)
  refine a_iconst (v := nI 1) (pc' := 663) dL_isSo_662 (by decide) rfl ?_
  refine a_goto (pc' := 667) dL_isSo_663 (by decide) ?_
  refine a_is_4_13 (pc' := 669) dL_isSo_667 rfl ?_
  refine a_iN_8_13 (m := p + 1) (pc' := 672) dL_isSo_669 (nI_add _ _) rfl ?_
  refine a_goto (pc' := 325) dL_isSo_672 (by decide) ?_
  exact a_castS (by rw [hk0]) (by rw [hk1, hk2, hk3]) (kx (some (.inl (nI (10 * p)))) _ _ (some (.inl (nI (0)))))
set_option maxRecDepth 20000 in
set_option maxHeartbeats 4000000 in
theorem lp_pal {G : Gl} {Φ : Option OV → Mm → Prop} {M : Mm} (h : INV M) {np : Nat} (h1 : M 0 1 = nI np) (hm : np ≤ 6) (hf : FL G) (fd : Int32) : ∀ (n p : Nat) (al : Int32) (f : Nat → Int32) (x9 x10 x11 x12 : Option OV), p + n = np → (∀ (f' : Nat → Int32) (y9 y10 y11 y12 : Option OV), f' 1 = clmL (M 0) (nI 1) n p (f 1) → f' 2 = clmL (M 0) (nI 2) n p (f 2) → f' 3 = clmL (M 0) (nI 3) n p (f 3) → AW G cL_isSo RL 13 4 88 (some .boolean) Φ 675 [some (.inr (6, 0, 0, 0)), some (.inr (9, 50, 6, 0)), some (.inr (9, 51, 57, 0)), some (.inr (9, 52, 60, 0)), some (.inl (nI 1)), some (.inl fd), some (.inl (clmL (M 0) (nI 0) n p al)), some (.inr (9, 53, 4, 0)), some (.inl (nI np)), y9, y10, y11, y12] [] (setR M 53 f')) → AW G cL_isSo RL 13 4 88 (some .boolean) Φ 325 [some (.inr (6, 0, 0, 0)), some (.inr (9, 50, 6, 0)), some (.inr (9, 51, 57, 0)), some (.inr (9, 52, 60, 0)), some (.inl (nI 1)), some (.inl fd), some (.inl al), some (.inr (9, 53, 4, 0)), some (.inl (nI p)), x9, x10, x11, x12] [] (setR M 53 f) := by
  intro n
  induction n with
  | zero =>
    intro p al f x9 x10 x11 x12 he hΦ
    have hLf : LA (setR M 53 f) (M 0) := h.1.moved (setR_ne _ _ (by decide)) (setR_ne _ _ (by decide)) (setR_ne _ _ (by decide))
    refine a_il_8_13 (pc' := 327) dL_isSo_325 rfl ?_
    refine a_al_1_13 (pc' := 328) dL_isSo_327 rfl ?_
    refine a_iconst (v := nI 1) (pc' := 329) dL_isSo_328 (by decide) rfl ?_
    refine a_ialdN (pc' := 330) rfl (by omega) (by decide) dL_isSo_329 rfl ?_
    rw [hLf.g (show 1 < 6 by decide), h1]
    refine a_icmp_ge (pc' := 333) (tgt := 675) dL_isSo_330 (by decide) rfl (fun c_330 => ?_) (fun c_330 => absurd (nI_le (by omega) (by omega)) c_330)
    obtain rfl : p = np := by omega
    exact hΦ f _ _ _ _ rfl rfl rfl
  | succ n ih =>
    intro p al f x9 x10 x11 x12 he hΦ
    have go : ∀ y9 y10 y11 y12 : Option OV, AW G cL_isSo RL 13 4 88 (some .boolean) Φ 325 [some (.inr (6, 0, 0, 0)), some (.inr (9, 50, 6, 0)), some (.inr (9, 51, 57, 0)), some (.inr (9, 52, 60, 0)), some (.inl (nI 1)), some (.inl fd), some (.inl (al + claimP (M 0) p)), some (.inr (9, 53, 4, 0)), some (.inl (nI (p + 1))), y9, y10, y11, y12] [] (setR M 53 (upd (upd (upd f 1 (f 1 + claimByP (M 0) p (nI 1))) 2 (f 2 + claimByP (M 0) p (nI 2))) 3 (f 3 + claimByP (M 0) p (nI 3)))) := fun y9 y10 y11 y12 => by
      refine ih (p + 1) _ _ _ _ _ _ (by omega) (fun f' z9 z10 z11 z12 e1 e2 e3 => hΦ f' z9 z10 z11 z12 ?_ ?_ ?_)
      · rw [e1]; rfl
      · rw [e2]; rfl
      · rw [e3]; rfl
    rcases cause_4 (M 0) p with hc | hc | hc | hc
    · exact lb_pal0 h h1 hm (by omega) hf hc _ _ _ _ _ _ _ go
    · exact lb_pal1 h h1 hm (by omega) hf hc _ _ _ _ _ _ _ go
    · exact lb_pal2 h h1 hm (by omega) hf hc _ _ _ _ _ _ _ go
    · exact lb_pal3 h h1 hm (by omega) hf hc _ _ _ _ _ _ _ go
set_option maxRecDepth 20000 in
set_option maxHeartbeats 4000000 in
theorem is_e {G : Gl} {Φ : Option OV → Mm → Prop} {M : Mm} (h : INV M) {nv np : Nat} (h0 : M 0 0 = nI nv) (hn : nv ≤ 3) (h1 : M 0 1 = nI np) (hm : np ≤ 6) (hf : FL G) (f : Nat → Int32) (e1 : f 1 = clmL (M 0) (nI 1) np 0 (nI 0)) (e2 : f 2 = clmL (M 0) (nI 2) np 0 (nI 0)) (e3 : f 3 = clmL (M 0) (nI 3) np 0 (nI 0)) (y9 y10 y11 y12 : Option OV) (hΦ : Φ (some (.inl (nI 1))) (setR M 53 f)) : AW G cL_isSo RL 13 4 88 (some .boolean) Φ 675 [some (.inr (6, 0, 0, 0)), some (.inr (9, 50, 6, 0)), some (.inr (9, 51, 57, 0)), some (.inr (9, 52, 60, 0)), some (.inl (nI 1)), some (.inl (fndL (M 0) nv 0 (nI 0))), some (.inl (clmL (M 0) (nI 0) np 0 (nI 0))), some (.inr (9, 53, 4, 0)), some (.inl (nI np)), y9, y10, y11, y12] [] (setR M 53 f) := by
  have m0f : ∀ f, setR M 53 f 0 = M 0 := fun f => setR_ne _ _ (by decide)
  have h1f : ∀ f, setR M 53 f 0 1 = nI np := fun f => by rw [m0f]; exact h1
  have h0f : ∀ f, setR M 53 f 0 0 = nI nv := fun f => by rw [m0f]; exact h0
  have hnv : nvF (M 0) = nv := by unfold nvF; rw [h0]; exact nI_clamp (by omega)
  have hnp : npF (M 0) = np := by unfold npF; rw [h1]; exact nI_clamp (by omega)
  have hcnt : ∀ f, cntS (setR M 53 f) (nI 8) = fndL (M 0) nv 0 (nI 0) := fun f => by
    show fndL (setR M 53 f 0) (nvF (setR M 53 f 0)) 0 (nI 0) = _
    rw [m0f, hnv]
  have hcs : ∀ k, inn k (nI 0) (nI 3) = true → clmS (M 0) k = clmL (M 0) k np 0 (nI 0) := fun k hk => by unfold clmS; rw [if_pos hk, hnp]
  have hc0 := hcs (nI 0) (by decide)
  have hc1 := (hcs (nI 1) (by decide)).trans e1.symm
  have hc2 := (hcs (nI 2) (by decide)).trans e2.symm
  have hc3 := (hcs (nI 3) (by decide)).trans e3.symm
  refine a_il_4_13 (pc' := 677) dL_isSo_675 rfl ?_
  refine a_if_eq (pc' := 680) (tgt := 741) dL_isSo_677 (by decide) rfl (fun c_677 => absurd c_677 (by decide)) (fun c_677 => ?_)
  refine a_al_0_13 (pc' := 681) dL_isSo_680 rfl ?_
  refine a_bipush (v := nI 8) (pc' := 683) dL_isSo_681 (by decide) rfl ?_
  refine k_VI (pc' := 686) (ct_X6_count hn _ _ (h0f _)) cw_L_94 mi_X6_count se_X6_count rfl rfl rfl rfl (by decide) (by decide) (Nat.le_of_ble_eq_true rfl) rfl dL_isSo_683 rfl ?_
  refine a_il_5_13 (pc' := 688) dL_isSo_686 rfl ?_
  refine a_icmp_ne (pc' := 691) (tgt := 741) dL_isSo_688 (by decide) rfl (fun c_688 => absurd (hcnt _) c_688) (fun c_688 => ?_)
  refine a_al_0_13 (pc' := 692) dL_isSo_691 rfl ?_
  refine a_iconst (v := nI 0) (pc' := 693) dL_isSo_692 (by decide) rfl ?_
  refine k_VI (pc' := 696) (ct_X6_claims (show np ≤ 12 by omega) _ _ (h1f _)) cw_L_109 mi_X6_claims se_X6_claims rfl rfl rfl rfl (by decide) (by decide) (Nat.le_of_ble_eq_true rfl) rfl dL_isSo_693 rfl ?_
  rw [m0f]
  refine a_il_6_13 (pc' := 698) dL_isSo_696 rfl ?_
  refine a_icmp_ne (pc' := 701) (tgt := 741) dL_isSo_698 (by decide) rfl (fun c_698 => absurd hc0 c_698) (fun c_698 => ?_)
  refine a_al_0_13 (pc' := 702) dL_isSo_701 rfl ?_
  refine a_iconst (v := nI 1) (pc' := 703) dL_isSo_702 (by decide) rfl ?_
  refine k_VI (pc' := 706) (ct_X6_claims (show np ≤ 12 by omega) _ _ (h1f _)) cw_L_109 mi_X6_claims se_X6_claims rfl rfl rfl rfl (by decide) (by decide) (Nat.le_of_ble_eq_true rfl) rfl dL_isSo_703 rfl ?_
  rw [m0f]
  refine a_al_7_13 (pc' := 708) dL_isSo_706 rfl ?_
  refine a_iconst (v := nI 1) (pc' := 709) dL_isSo_708 (by decide) rfl ?_
  refine a_iald53N (pc' := 710) hf (by decide) dL_isSo_709 rfl ?_
  rw [setR_same]
  refine a_icmp_ne (pc' := 713) (tgt := 741) dL_isSo_710 (by decide) rfl (fun c_710 => absurd hc1 c_710) (fun c_710 => ?_)
  refine a_al_0_13 (pc' := 714) dL_isSo_713 rfl ?_
  refine a_iconst (v := nI 2) (pc' := 715) dL_isSo_714 (by decide) rfl ?_
  refine k_VI (pc' := 718) (ct_X6_claims (show np ≤ 12 by omega) _ _ (h1f _)) cw_L_109 mi_X6_claims se_X6_claims rfl rfl rfl rfl (by decide) (by decide) (Nat.le_of_ble_eq_true rfl) rfl dL_isSo_715 rfl ?_
  rw [m0f]
  refine a_al_7_13 (pc' := 720) dL_isSo_718 rfl ?_
  refine a_iconst (v := nI 2) (pc' := 721) dL_isSo_720 (by decide) rfl ?_
  refine a_iald53N (pc' := 722) hf (by decide) dL_isSo_721 rfl ?_
  rw [setR_same]
  refine a_icmp_ne (pc' := 725) (tgt := 741) dL_isSo_722 (by decide) rfl (fun c_722 => absurd hc2 c_722) (fun c_722 => ?_)
  refine a_al_0_13 (pc' := 726) dL_isSo_725 rfl ?_
  refine a_iconst (v := nI 3) (pc' := 727) dL_isSo_726 (by decide) rfl ?_
  refine k_VI (pc' := 730) (ct_X6_claims (show np ≤ 12 by omega) _ _ (h1f _)) cw_L_109 mi_X6_claims se_X6_claims rfl rfl rfl rfl (by decide) (by decide) (Nat.le_of_ble_eq_true rfl) rfl dL_isSo_727 rfl ?_
  rw [m0f]
  refine a_al_7_13 (pc' := 732) dL_isSo_730 rfl ?_
  refine a_iconst (v := nI 3) (pc' := 733) dL_isSo_732 (by decide) rfl ?_
  refine a_iald53N (pc' := 734) hf (by decide) dL_isSo_733 rfl ?_
  rw [setR_same]
  refine a_icmp_ne (pc' := 737) (tgt := 741) dL_isSo_734 (by decide) rfl (fun c_734 => absurd hc3 c_734) (fun c_734 => ?_)
  refine a_iconst (v := nI 1) (pc' := 738) dL_isSo_737 (by decide) rfl ?_
  refine a_goto (pc' := 742) dL_isSo_738 (by decide) ?_
  refine a_iret dL_isSo_742 rfl rfl ?_
  exact hΦ
set_option maxRecDepth 20000 in
set_option maxHeartbeats 4000000 in
theorem is_de {G : Gl} {Φ : Option OV → Mm → Prop} {M : Mm} (h : INV M) {nv np : Nat} (h0 : M 0 0 = nI nv) (hn : nv ≤ 3) (h1 : M 0 1 = nI np) (hm : np ≤ 6) (hf : FL G) (y7 y8 : Option OV) (hΦ : ∀ f, Φ (some (.inl (nI 1))) (setR M 53 f)) : AW G cL_isSo RL 13 4 88 (some .boolean) Φ 320 [some (.inr (6, 0, 0, 0)), some (.inr (9, 50, 6, 0)), some (.inr (9, 51, 57, 0)), some (.inr (9, 52, 60, 0)), some (.inl (nI 1)), some (.inl (fndL (M 0) nv 0 (nI 0))), some (.inl (nI 0)), y7, y8, none, none, none, none] [.inr (9, 53, 4, 0)] (setR M 53 (fun _ => 0)) := by
  refine a_as_7_13 (pc' := 322) dL_isSo_320 rfl ?_
  refine a_iconst (v := nI 0) (pc' := 323) dL_isSo_322 (by decide) rfl ?_
  refine a_is_8_13 (pc' := 325) dL_isSo_323 rfl ?_
  exact lp_pal h h1 hm hf _ np 0 _ _ _ _ _ _ (by omega) (fun f y9 y10 y11 y12 e1 e2 e3 => is_e h h0 hn h1 hm hf f e1 e2 e3 y9 y10 y11 y12 (hΦ f))
set_option maxRecDepth 20000 in
set_option maxHeartbeats 4000000 in
theorem is_c {G : Gl} {Φ : Option OV → Mm → Prop} {M : Mm} (x5 x6 x7 x8 : Option OV) (kk : AW G cL_isSo RL 13 4 88 (some .boolean) Φ 318 [some (.inr (6, 0, 0, 0)), some (.inr (9, 50, 6, 0)), some (.inr (9, 51, 57, 0)), some (.inr (9, 52, 60, 0)), some (.inl (nI 1)), x5, some (.inl (nI 0)), x7, x8, none, none, none, none] [.inl (nI 4)] M) : AW G cL_isSo RL 13 4 88 (some .boolean) Φ 314 [some (.inr (6, 0, 0, 0)), some (.inr (9, 50, 6, 0)), some (.inr (9, 51, 57, 0)), some (.inr (9, 52, 60, 0)), some (.inl (nI 1)), x5, x6, x7, x8, none, none, none, none] [] M := by
  refine a_iconst (v := nI 0) (pc' := 315) dL_isSo_314 (by decide) rfl ?_
  refine a_is_6_13 (pc' := 317) dL_isSo_315 rfl ?_
  refine a_iconst (v := nI 4) (pc' := 318) dL_isSo_317 (by decide) rfl ?_
  exact kk
