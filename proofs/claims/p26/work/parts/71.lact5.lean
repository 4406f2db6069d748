/-- the law's choice of rejected pallets -/
def stC (F : Nat → Int32) (W p : Nat) : Bool := decide (F (63 + 10 * p + 5) = nI 2) && decide ((nI W >>> (nI p &&& 31)) &&& nI 1 = 0)
def stL (F : Nat → Int32) (W : Nat) : Nat → Nat → Int32 → Int32
  | 0, _, a => a
  | n + 1, p, a => stL F W n (p + 1) (if stC F W p then a ||| (nI 1 <<< (nI p &&& 31)) else a)
theorem st_b (F : Nat → Int32) (W : Nat) : ∀ (n p a : Nat), p + n ≤ 6 → a < 2 ^ p → (∀ r, a.testBit r = true → F (63 + 10 * r + 5) = nI 2) → ∃ b, b < 2 ^ (p + n) ∧ stL F W n p (nI a) = nI b ∧ ∀ r, b.testBit r = true → F (63 + 10 * r + 5) = nI 2 := by
  intro n
  induction n with
  | zero => intro p a _ h h2; exact ⟨a, h, rfl, h2⟩
  | succ n ih =>
    intro p a hp ha h2
    unfold stL
    have hp2 : 2 ^ p < 2 ^ (p + 1) := Nat.pow_lt_pow_right (by decide) (by omega)
    rw [show p + (n + 1) = p + 1 + n by omega]
    split
    · rename_i hc
      rw [shl1 p (by omega), or_nI]
      refine ih (p + 1) _ (by omega) (Nat.or_lt_two_pow (by omega) hp2) (fun r hr => ?_)
      rw [Nat.testBit_or, Bool.or_eq_true] at hr
      rcases hr with hr | hr
      · exact h2 r hr
      · rw [Nat.testBit_two_pow, decide_eq_true_eq] at hr
        subst hr
        unfold stC at hc
        rw [Bool.and_eq_true, decide_eq_true_eq] at hc
        exact hc.1
    · exact ih (p + 1) _ (by omega) (by omega) h2
theorem st_64 (F : Nat → Int32) (W : Nat) {np : Nat} (hm : np ≤ 6) : ∃ s, s < 2 ^ np ∧ stL F W np 0 (nI 0) = nI s ∧ ∀ r, s.testBit r = true → F (63 + 10 * r + 5) = nI 2 := by
  obtain ⟨b, hb, e, h⟩ := st_b F W np 0 0 (by omega) (by decide) (fun r hr => by rw [Nat.zero_testBit] at hr; cases hr)
  exact ⟨b, by rwa [Nat.zero_add] at hb, e, h⟩
theorem bit_tb : ∀ s : Nat, s < 64 → ∀ p : Nat, p < 6 → bitB (nI s) (nI p) = s.testBit p := by decide +kernel
theorem bad_f (F : Nat → Int32) {s : Nat} (hs : s < 64) (h : ∀ r, s.testBit r = true → F (63 + 10 * r + 5) = nI 2) : ∀ (n p : Nat), p + n ≤ 6 → badL F (nI s) n p = false := by
  intro n
  induction n with
  | zero => intro p _; rfl
  | succ n ih =>
    intro p hp
    unfold badL
    rw [bit_tb s hs p (by omega)]
    split
    · rename_i hb
      rw [if_pos (h p hb)]; exact ih (p + 1) (by omega)
    · exact ih (p + 1) (by omega)
theorem bad_t (F : Nat → Int32) {s q : Nat} (hs : s < 64) (hb : s.testBit q = true) (hq : ¬ F (63 + 10 * q + 5) = nI 2) : ∀ (n p : Nat), p + n ≤ 6 → p ≤ q → q < p + n → badL F (nI s) n p = true := by
  intro n
  induction n with
  | zero => intro p _ h1 h2; omega
  | succ n ih =>
    intro p hp h1 h2
    unfold badL
    rw [bit_tb s hs p (by omega)]
    by_cases e : p = q
    · subst e
      rw [if_pos hb, if_neg hq]
    · split
      · split
        · exact ih (p + 1) (by omega) (by omega) (by omega)
        · rfl
      · exact ih (p + 1) (by omega) (by omega) (by omega)
theorem dtB_t {F : Nat → Int32} {np s c : Nat} (h1 : F 1 = nI np) (hm : np ≤ 6) (hs1 : 1 ≤ s) (hs : s < 2 ^ np) (hc : c ≤ 9999) : dtB F (nI s) (nI c) = true := by
  have h6 : 2 ^ np ≤ 2 ^ 6 := Nat.pow_le_pow_right (by decide) hm
  unfold dtB
  rw [h1, shl1 np (by omega), inn_ge (Nat.zero_le _) hc (by decide), decide_eq_false (nI_nlt hs1 (by omega)), decide_eq_false (nI_ge hs (by omega))]
  rfl
set_option maxRecDepth 20000 in
set_option maxHeartbeats 4000000 in
theorem lp_L_acts_set {G : Gl} {Φ : Option OV → Mm → Prop} {np W v zn q : Nat} (hm : np ≤ 6) (z : Int32) (M : Mm) {F : Nat → Int32} (hL : LA M F) (h1 : F 1 = nI np) : ∀ (n p : Nat) (acc : Int32), p + n = np → (AW G cL_acts RL 26 6 140 (some .boolean) Φ 1202 [some (.inr (6, 0, 0, 0)), some (.inr (9, 50, 6, 0)), some (.inr (9, 51, 57, 0)), some (.inr (9, 52, 60, 0)), some (.inl z), some (.inl (nI W)), some (.inl (nI v)), some (.inl (nI zn)), some (.inl (nI (4 + 19 * v + 5 * zn))), some (.inl (nI q)), none, none, none, none, none, none, none, none, none, none, none, none, none, some (.inl (stL F W n p acc)), some (.inl (nI np)), none] [] M) → AW G cL_acts RL 26 6 140 (some .boolean) Φ 1152 [some (.inr (6, 0, 0, 0)), some (.inr (9, 50, 6, 0)), some (.inr (9, 51, 57, 0)), some (.inr (9, 52, 60, 0)), some (.inl z), some (.inl (nI W)), some (.inl (nI v)), some (.inl (nI zn)), some (.inl (nI (4 + 19 * v + 5 * zn))), some (.inl (nI q)), none, none, none, none, none, none, none, none, none, none, none, none, none, some (.inl acc), some (.inl (nI p)), none] [] M := by
  intro n
  induction n with
  | zero =>
    intro p acc he  hΦ
    refine a_il_24_26 (pc' := 1154) dL_acts_1152 rfl ?_
    refine a_al_1_26 (pc' := 1155) dL_acts_1154 rfl ?_
    refine a_iconst (v := nI 1) (pc' := 1156) dL_acts_1155 (by decide) rfl ?_
    refine a_ialdN (pc' := 1157) rfl (by omega) (by decide) dL_acts_1156 rfl ?_
    rw [hL.g (show 1 < 6 by decide), h1]
    refine a_icmp_ge (pc' := 1160) (tgt := 1202) dL_acts_1157 (by decide) rfl (fun c_1157 => ?_) (fun c_1157 => absurd (nI_le (by omega) (by omega)) c_1157)
    obtain rfl : p = np := by omega
    exact hΦ
  | succ n ih =>
    intro p acc he  hΦ
    have hp6 : p < 6 := by omega
    have hp4 : M 52 (10 * p + 4) = F (63 + 10 * p + 5) := hL.p hp6 4 5 (by decide) (by decide) rfl
    refine a_il_24_26 (pc' := 1154) dL_acts_1152 rfl ?_
    refine a_al_1_26 (pc' := 1155) dL_acts_1154 rfl ?_
    refine a_iconst (v := nI 1) (pc' := 1156) dL_acts_1155 (by decide) rfl ?_
    refine a_ialdN (pc' := 1157) rfl (by omega) (by decide) dL_acts_1156 rfl ?_
    rw [hL.g (show 1 < 6 by decide), h1]
    refine a_icmp_ge (pc' := 1160) (tgt := 1202) dL_acts_1157 (by decide) rfl (fun c_1157 => absurd c_1157 (nI_ge (by omega) (by omega))) (fun c_1157 => ?_)
    refine a_il_23_26 (pc' := 1162) dL_acts_1160 rfl ?_
    refine a_al_3_26 (pc' := 1163) dL_acts_1162 rfl ?_
    refine a_bipush (v := nI 10) (pc' := 1165) dL_acts_1163 (by decide) rfl ?_
    refine a_il_24_26 (pc' := 1167) dL_acts_1165 rfl ?_
    refine a_imulN (pc' := 1168) dL_acts_1167 rfl ?_
    refine a_iconst (v := nI 4) (pc' := 1169) dL_acts_1168 (by decide) rfl ?_
    refine a_iaddN (pc' := 1170) dL_acts_1169 rfl ?_
    refine a_ialdN (pc' := 1171) rfl (by omega) (by decide) dL_acts_1170 rfl ?_
    rw [hp4]
    refine a_iconst (v := nI 2) (pc' := 1172) dL_acts_1171 (by decide) rfl ?_
    refine a_icmp_ne (pc' := 1175) (tgt := 1192) dL_acts_1172 (by decide) rfl (fun c_1172 => ?_) (fun c_1172 => ?_)
    · refine a_iconst (v := nI 0) (pc' := 1193) dL_acts_1192 (by decide) rfl ?_
      refine a_ior (pc' := 1194) dL_acts_1193 rfl ?_
      refine a_is_23_26 (pc' := 1196) dL_acts_1194 rfl ?_
      refine a_iN_24_26 (m := p + 1) (pc' := 1199) dL_acts_1196 (nI_add _ _) rfl ?_
      refine a_goto (pc' := 1152) dL_acts_1199 (by decide) ?_
      refine ih (p + 1) _ (by omega) ?_
      unfold stL at hΦ
      rw [show stC F W p = false from by unfold stC; rw [decide_eq_false c_1172]; rfl] at hΦ
      rw [or_nI0]
      exact hΦ
    · refine a_il_5_26 (pc' := 1177) dL_acts_1175 rfl ?_
      refine a_il_24_26 (pc' := 1179) dL_acts_1177 rfl ?_
      refine a_ishr (pc' := 1180) dL_acts_1179 rfl ?_
      refine a_iconst (v := nI 1) (pc' := 1181) dL_acts_1180 (by decide) rfl ?_
      refine a_iand (pc' := 1182) dL_acts_1181 rfl ?_
      refine a_if_ne (pc' := 1185) (tgt := 1192) dL_acts_1182 (by decide) rfl (fun c_1182 => ?_) (fun c_1182 => ?_)
      · refine a_iconst (v := nI 0) (pc' := 1193) dL_acts_1192 (by decide) rfl ?_
        refine a_ior (pc' := 1194) dL_acts_1193 rfl ?_
        refine a_is_23_26 (pc' := 1196) dL_acts_1194 rfl ?_
        refine a_iN_24_26 (m := p + 1) (pc' := 1199) dL_acts_1196 (nI_add _ _) rfl ?_
        refine a_goto (pc' := 1152) dL_acts_1199 (by decide) ?_
        refine ih (p + 1) _ (by omega) ?_
        unfold stL at hΦ
        rw [show stC F W p = false from by unfold stC; rw [decide_eq_false c_1182, Bool.and_false]] at hΦ
        rw [or_nI0]
        exact hΦ
      · refine a_iconst (v := nI 1) (pc' := 1186) dL_acts_1185 (by decide) rfl ?_
        refine a_il_24_26 (pc' := 1188) dL_acts_1186 rfl ?_
        refine a_ishl (pc' := 1189) dL_acts_1188 rfl ?_
        refine a_goto (pc' := 1193) dL_acts_1189 (by decide) ?_
        refine a_ior (pc' := 1194) dL_acts_1193 rfl ?_
        refine a_is_23_26 (pc' := 1196) dL_acts_1194 rfl ?_
        refine a_iN_24_26 (m := p + 1) (pc' := 1199) dL_acts_1196 (nI_add _ _) rfl ?_
        refine a_goto (pc' := 1152) dL_acts_1199 (by decide) ?_
        refine ih (p + 1) _ (by omega) ?_
        unfold stL at hΦ
        rw [show stC F W p = true from by unfold stC; rw [decide_eq_true c_1172, decide_eq_true c_1182]; rfl] at hΦ
        exact hΦ
set_option maxRecDepth 20000 in
set_option maxHeartbeats 4000000 in
theorem ac_15a {G : Gl} {M : Mm} (h : INV M) {nv np W v zn q : Nat} (z : Int32) (h0 : M 0 0 = nI nv) (hn : nv ≤ 3) (h1 : M 0 1 = nI np) (hm : np ≤ 6) (hW : W < 60000) (hv : v < nv) (hz : zn < 3) (hq : (np = 0 ∧ q = 0) ∨ q < np) (hn0 : np = 0) (x24 : Option OV) : AW G cL_acts RL 26 6 140 (some .boolean) ANS 1202 [some (.inr (6, 0, 0, 0)), some (.inr (9, 50, 6, 0)), some (.inr (9, 51, 57, 0)), some (.inr (9, 52, 60, 0)), some (.inl z), some (.inl (nI W)), some (.inl (nI v)), some (.inl (nI zn)), some (.inl (nI (4 + 19 * v + 5 * zn))), some (.inl (nI q)), none, none, none, none, none, none, none, none, none, none, none, none, none, some (.inl (nI 0)), x24, none] [] M := by
  have hL := h.1
  obtain ⟨⟨t, ht, hg⟩, hqw⟩ := id h.2.1
  have hv3 : v < 3 := by omega
  have hb0 : dtB (M 0) (nI 0) (nI (W % 10000)) = false := by
    unfold dtB
    rw [decide_eq_true (show nI 0 < nI 1 from by decide)]
    rfl
  have hR : dtR (M 0) (nI 0) (nI (W % 10000)) = (-100001) := by unfold dtR; rw [hb0]; rfl
  have hno : dtF (M 0) (nI 0) (nI (W % 10000)) = M 0 := by unfold dtF; rw [hb0]; rfl
  have hI1 : INV (edM M (dtR (M 0) (nI 0) (nI (W % 10000))) (dtF (M 0) (nI 0) (nI (W % 10000)))) := h.no hno
  have e10 : edM M (dtR (M 0) (nI 0) (nI (W % 10000))) (dtF (M 0) (nI 0) (nI (W % 10000))) 0 = M 0 := edM_0.trans hno
  refine a_il_23_26 (pc' := 1204) dL_acts_1202 rfl ?_
  refine a_if_ne (pc' := 1207) (tgt := 1262) dL_acts_1204 (by decide) rfl (fun c_1204 => absurd (by decide) c_1204) (fun c_1204 => ?_)
  refine a_al_0_26 (pc' := 1208) dL_acts_1207 rfl ?_
  refine a_iconst (v := nI 0) (pc' := 1209) dL_acts_1208 (by decide) rfl ?_
  refine a_il_5_26 (pc' := 1211) dL_acts_1209 rfl ?_
  refine a_sipush (v := nI 10000) (pc' := 1214) dL_acts_1211 (by decide) rfl ?_
  refine a_iremN (pc' := 1215) (by omega) (by decide) (by decide) dL_acts_1214 rfl ?_
  refine k_VI (pc' := 1218) (cx_detour rfl h.fr hg.bok (show np ≤ 12 by omega) h1 _ _) cw_L_80 mi_X6_detour se_X6_detour rfl rfl rfl rfl (by decide) (by decide) (Nat.le_of_ble_eq_true rfl) rfl dL_acts_1215 rfl ?_
  refine a_ldc (pc' := 1220) dL_acts_1218 cn_L_69 rfl ?_
  refine a_icmp_ne (pc' := 1223) (tgt := 1260) dL_acts_1220 (by decide) rfl (fun c_1220 => absurd hR c_1220) (fun c_1220 => ?_)
  refine a_al_1_26 (pc' := 1224) dL_acts_1223 rfl ?_
  refine a_iconst (v := nI 1) (pc' := 1225) dL_acts_1224 (by decide) rfl ?_
  refine a_ialdN (pc' := 1226) rfl (by omega) (by decide) dL_acts_1225 rfl ?_
  rw [hI1.1.g (show 1 < 6 by decide), e10, h1, hn0]
  refine a_if_eq (pc' := 1229) (tgt := 1256) dL_acts_1226 (by decide) rfl (fun c_1226 => ?_) (fun c_1226 => absurd (by decide) c_1226)
  refine a_iconst (v := nI 1) (pc' := 1257) dL_acts_1256 (by decide) rfl ?_
  refine a_goto (pc' := 1261) dL_acts_1257 (by decide) ?_
  refine a_iret dL_acts_1261 rfl rfl ?_
  exact ⟨rfl, hI1⟩
set_option maxRecDepth 20000 in
set_option maxHeartbeats 4000000 in
theorem ac_15b {G : Gl} {M : Mm} (h : INV M) {nv np W v zn q : Nat} (z : Int32) (h0 : M 0 0 = nI nv) (hn : nv ≤ 3) (h1 : M 0 1 = nI np) (hm : np ≤ 6) (hW : W < 60000) (hv : v < nv) (hz : zn < 3) (hq : (np = 0 ∧ q = 0) ∨ q < np) (hq9 : q < np) (x24 : Option OV) : AW G cL_acts RL 26 6 140 (some .boolean) ANS 1202 [some (.inr (6, 0, 0, 0)), some (.inr (9, 50, 6, 0)), some (.inr (9, 51, 57, 0)), some (.inr (9, 52, 60, 0)), some (.inl z), some (.inl (nI W)), some (.inl (nI v)), some (.inl (nI zn)), some (.inl (nI (4 + 19 * v + 5 * zn))), some (.inl (nI q)), none, none, none, none, none, none, none, none, none, none, none, none, none, some (.inl (nI 0)), x24, none] [] M := by
  have hL := h.1
  obtain ⟨⟨t, ht, hg⟩, hqw⟩ := id h.2.1
  have hv3 : v < 3 := by omega
  have hb0 : dtB (M 0) (nI 0) (nI (W % 10000)) = false := by
    unfold dtB
    rw [decide_eq_true (show nI 0 < nI 1 from by decide)]
    rfl
  have hR : dtR (M 0) (nI 0) (nI (W % 10000)) = (-100001) := by unfold dtR; rw [hb0]; rfl
  have hno : dtF (M 0) (nI 0) (nI (W % 10000)) = M 0 := by unfold dtF; rw [hb0]; rfl
  have hI1 : INV (edM M (dtR (M 0) (nI 0) (nI (W % 10000))) (dtF (M 0) (nI 0) (nI (W % 10000)))) := h.no hno
  have e10 : edM M (dtR (M 0) (nI 0) (nI (W % 10000))) (dtF (M 0) (nI 0) (nI (W % 10000))) 0 = M 0 := edM_0.trans hno
  have hq6 : q < 6 := by omega
  have hnp : npF (M 0) = np := by unfold npF; rw [h1]; exact nI_clamp (by omega)
  have h26 : 2 ^ q < 2 ^ np := Nat.pow_lt_pow_right (by decide) hq9
  have h66 : 2 ^ np ≤ 2 ^ 6 := Nat.pow_le_pow_right (by decide) hm
  have hd : dtB (M 0) (nI (2 ^ q)) (nI 5) = true := dtB_t h1 hm (Nat.one_le_two_pow) h26 (by decide)
  have hR2 : ¬ M 0 (63 + 10 * q + 5) = nI 2 → dtR (M 0) (nI 1 <<< (nI q &&& 31)) (nI 5) = (-100002) := fun a => by
    rw [shl1 q (by omega)]
    unfold dtR
    rw [if_pos hd, hnp, bad_t (M 0) (s := 2 ^ q) (by omega) (Nat.testBit_two_pow_self) a np 0 (by omega) (by omega) (by omega)]
    rfl
  have hF2 : ¬ M 0 (63 + 10 * q + 5) = nI 2 → dtF (M 0) (nI 1 <<< (nI q &&& 31)) (nI 5) = M 0 := fun a => by
    rw [shl1 q (by omega)]
    unfold dtF
    rw [if_pos hd, hnp, bad_t (M 0) (s := 2 ^ q) (by omega) (Nat.testBit_two_pow_self) a np 0 (by omega) (by omega) (by omega)]
    rfl
  refine a_il_23_26 (pc' := 1204) dL_acts_1202 rfl ?_
  refine a_if_ne (pc' := 1207) (tgt := 1262) dL_acts_1204 (by decide) rfl (fun c_1204 => absurd (by decide) c_1204) (fun c_1204 => ?_)
  refine a_al_0_26 (pc' := 1208) dL_acts_1207 rfl ?_
  refine a_iconst (v := nI 0) (pc' := 1209) dL_acts_1208 (by decide) rfl ?_
  refine a_il_5_26 (pc' := 1211) dL_acts_1209 rfl ?_
  refine a_sipush (v := nI 10000) (pc' := 1214) dL_acts_1211 (by decide) rfl ?_
  refine a_iremN (pc' := 1215) (by omega) (by decide) (by decide) dL_acts_1214 rfl ?_
  refine k_VI (pc' := 1218) (cx_detour rfl h.fr hg.bok (show np ≤ 12 by omega) h1 _ _) cw_L_80 mi_X6_detour se_X6_detour rfl rfl rfl rfl (by decide) (by decide) (Nat.le_of_ble_eq_true rfl) rfl dL_acts_1215 rfl ?_
  refine a_ldc (pc' := 1220) dL_acts_1218 cn_L_69 rfl ?_
  refine a_icmp_ne (pc' := 1223) (tgt := 1260) dL_acts_1220 (by decide) rfl (fun c_1220 => absurd hR c_1220) (fun c_1220 => ?_)
  refine a_al_1_26 (pc' := 1224) dL_acts_1223 rfl ?_
  refine a_iconst (v := nI 1) (pc' := 1225) dL_acts_1224 (by decide) rfl ?_
  refine a_ialdN (pc' := 1226) rfl (by omega) (by decide) dL_acts_1225 rfl ?_
  rw [hI1.1.g (show 1 < 6 by decide), e10, h1]
  refine a_if_eq (pc' := 1229) (tgt := 1256) dL_acts_1226 (by decide) rfl (fun c_1226 => absurd c_1226 (nI_ne0 (by omega) (by omega))) (fun c_1226 => ?_)
  refine a_al_3_26 (pc' := 1230) dL_acts_1229 rfl ?_
  refine a_bipush (v := nI 10) (pc' := 1232) dL_acts_1230 (by decide) rfl ?_
  refine a_il_9_26 (pc' := 1234) dL_acts_1232 rfl ?_
  refine a_imulN (pc' := 1235) dL_acts_1234 rfl ?_
  refine a_iconst (v := nI 4) (pc' := 1236) dL_acts_1235 (by decide) rfl ?_
  refine a_iaddN (pc' := 1237) dL_acts_1236 rfl ?_
  refine a_ialdN (pc' := 1238) rfl (by omega) (by decide) dL_acts_1237 rfl ?_
  rw [hI1.1.p hq6 4 5 (by decide) (by decide) rfl, e10]
  refine a_iconst (v := nI 2) (pc' := 1239) dL_acts_1238 (by decide) rfl ?_
  refine a_icmp_eq (pc' := 1242) (tgt := 1256) dL_acts_1239 (by decide) rfl (fun c_1239 => ?_) (fun c_1239 => ?_)
  · refine a_iconst (v := nI 1) (pc' := 1257) dL_acts_1256 (by decide) rfl ?_
    refine a_goto (pc' := 1261) dL_acts_1257 (by decide) ?_
    refine a_iret dL_acts_1261 rfl rfl ?_
    exact ⟨rfl, hI1⟩
  · refine a_al_0_26 (pc' := 1243) dL_acts_1242 rfl ?_
    refine a_iconst (v := nI 1) (pc' := 1244) dL_acts_1243 (by decide) rfl ?_
    refine a_il_9_26 (pc' := 1246) dL_acts_1244 rfl ?_
    refine a_ishl (pc' := 1247) dL_acts_1246 rfl ?_
    refine a_iconst (v := nI 5) (pc' := 1248) dL_acts_1247 (by decide) rfl ?_
    refine k_VI (pc' := 1251) (cx_detour e10 hI1.fr hg.bok (show np ≤ 12 by omega) h1 _ _) cw_L_80 mi_X6_detour se_X6_detour rfl rfl rfl rfl (by decide) (by decide) (Nat.le_of_ble_eq_true rfl) rfl dL_acts_1248 rfl ?_
    refine a_ldc (pc' := 1253) dL_acts_1251 cn_L_70 rfl ?_
    refine a_icmp_ne (pc' := 1256) (tgt := 1260) dL_acts_1253 (by decide) rfl (fun c_1253 => absurd (hR2 c_1239) c_1253) (fun c_1253 => ?_)
    refine a_iconst (v := nI 1) (pc' := 1257) dL_acts_1256 (by decide) rfl ?_
    refine a_goto (pc' := 1261) dL_acts_1257 (by decide) ?_
    refine a_iret dL_acts_1261 rfl rfl ?_
    exact ⟨rfl, hI1.no ((hF2 c_1239).trans e10.symm)⟩
set_option maxRecDepth 20000 in
set_option maxHeartbeats 4000000 in
theorem ac_15c {G : Gl} {M : Mm} (h : INV M) {nv np W v zn q : Nat} (z : Int32) (h0 : M 0 0 = nI nv) (hn : nv ≤ 3) (h1 : M 0 1 = nI np) (hm : np ≤ 6) (hW : W < 60000) (hv : v < nv) (hz : zn < 3) (hq : (np = 0 ∧ q = 0) ∨ q < np) {s : Nat} (hs1 : 1 ≤ s) (hs : s < 2 ^ np) (hst : ∀ r, s.testBit r = true → M 0 (63 + 10 * r + 5) = nI 2) (x24 : Option OV) : AW G cL_acts RL 26 6 140 (some .boolean) ANS 1202 [some (.inr (6, 0, 0, 0)), some (.inr (9, 50, 6, 0)), some (.inr (9, 51, 57, 0)), some (.inr (9, 52, 60, 0)), some (.inl z), some (.inl (nI W)), some (.inl (nI v)), some (.inl (nI zn)), some (.inl (nI (4 + 19 * v + 5 * zn))), some (.inl (nI q)), none, none, none, none, none, none, none, none, none, none, none, none, none, some (.inl (nI s)), x24, none] [] M := by
  have hL := h.1
  obtain ⟨⟨t, ht, hg⟩, hqw⟩ := id h.2.1
  have hv3 : v < 3 := by omega
  have h66 : 2 ^ np ≤ 2 ^ 6 := Nat.pow_le_pow_right (by decide) hm
  have hs64 : s < 64 := by omega
  have hnp : npF (M 0) = np := by unfold npF; rw [h1]; exact nI_clamp (by omega)
  have hd : dtB (M 0) (nI s) (nI (W % 10000)) = true := dtB_t h1 hm hs1 hs (by omega)
  have hbf := bad_f (M 0) hs64 hst np 0 (by omega)
  obtain ⟨d1, d2⟩ := det_in hg hd
  rw [hnp] at d1 d2
  have hF : dtF (M 0) (nI s) (nI (W % 10000)) = mdF (M 0) (nI s) (nI (W % 10000)) np := by
    rw [d1]
    unfold dtF
    rw [if_pos hd, hnp, hbf]
    rfl
  have hR : dtR (M 0) (nI s) (nI (W % 10000)) = mdG (M 0) (nI s) (nI (W % 10000)) np := by
    rw [d2]
    unfold dtR
    rw [if_pos hd, hnp, hbf]
    rfl
  have hF1 : npF (dtF (M 0) (nI s) (nI (W % 10000))) = npF (M 0) := by
    have : samD (M 0) (dtF (M 0) (nI s) (nI (W % 10000))) := by
      unfold dtF
      rw [if_pos hd, hnp, hbf]
      exact (samD.shrL _ _ _ _ _ _ _).trans (samD.givL _ _ _ _ _)
    exact npF_eq this.2.1
  refine a_il_23_26 (pc' := 1204) dL_acts_1202 rfl ?_
  refine a_if_ne (pc' := 1207) (tgt := 1262) dL_acts_1204 (by decide) rfl (fun c_1204 => ?_) (fun c_1204 => absurd c_1204 (nI_ne0 (by omega) (by omega)))
  refine a_al_0_26 (pc' := 1263) dL_acts_1262 rfl ?_
  refine a_il_23_26 (pc' := 1265) dL_acts_1263 rfl ?_
  refine a_il_5_26 (pc' := 1267) dL_acts_1265 rfl ?_
  refine a_sipush (v := nI 10000) (pc' := 1270) dL_acts_1267 (by decide) rfl ?_
  refine a_iremN (pc' := 1271) (by omega) (by decide) (by decide) dL_acts_1270 rfl ?_
  refine k_VI (pc' := 1274) (cx_detour rfl h.fr hg.bok (show np ≤ 12 by omega) h1 _ _) cw_L_80 mi_X6_detour se_X6_detour rfl rfl rfl rfl (by decide) (by decide) (Nat.le_of_ble_eq_true rfl) rfl dL_acts_1271 rfl ?_
  refine a_al_1_26 (pc' := 1275) dL_acts_1274 rfl ?_
  refine a_al_3_26 (pc' := 1276) dL_acts_1275 rfl ?_
  refine a_il_23_26 (pc' := 1278) dL_acts_1276 rfl ?_
  refine a_il_5_26 (pc' := 1280) dL_acts_1278 rfl ?_
  refine a_sipush (v := nI 10000) (pc' := 1283) dL_acts_1280 (by decide) rfl ?_
  refine a_iremN (pc' := 1284) (by omega) (by decide) (by decide) dL_acts_1283 rfl ?_
  refine k_SI (pc' := 1287) (ct_L_shares hm hs1 hs64 _ _ (LA.ed h.fr hL) h1) cw_L_83 ms_L_shares rfl (by decide) (by decide) (Nat.le_of_ble_eq_true rfl) rfl dL_acts_1284 rfl ?_
  refine a_icmp_ne (pc' := 1290) (tgt := 1294) dL_acts_1287 (by decide) rfl (fun c_1287 => absurd hR c_1287) (fun c_1287 => ?_)
  refine a_iconst (v := nI 1) (pc' := 1291) dL_acts_1290 (by decide) rfl ?_
  refine a_goto (pc' := 1295) dL_acts_1291 (by decide) ?_
  refine a_iret dL_acts_1295 rfl rfl ?_
  rw [← hF]
  exact ⟨rfl, h.ed2 (h.2.1.dt _ _) (by rw [hF1]; exact h.2.2.1)⟩
set_option maxRecDepth 20000 in
set_option maxHeartbeats 4000000 in
theorem ac_15 {G : Gl} {M : Mm} (h : INV M) {nv np W v zn q : Nat} (z : Int32) (h0 : M 0 0 = nI nv) (hn : nv ≤ 3) (h1 : M 0 1 = nI np) (hm : np ≤ 6) (hW : W < 60000) (hv : v < nv) (hz : zn < 3) (hq : (np = 0 ∧ q = 0) ∨ q < np)  : AW G cL_acts RL 26 6 140 (some .boolean) ANS 1146 [some (.inr (6, 0, 0, 0)), some (.inr (9, 50, 6, 0)), some (.inr (9, 51, 57, 0)), some (.inr (9, 52, 60, 0)), some (.inl z), some (.inl (nI W)), some (.inl (nI v)), some (.inl (nI zn)), some (.inl (nI (4 + 19 * v + 5 * zn))), some (.inl (nI q)), none, none, none, none, none, none, none, none, none, none, none, none, none, none, none, none] [] M := by
  have hL := h.1
  obtain ⟨⟨t, ht, hg⟩, hqw⟩ := id h.2.1
  have hv3 : v < 3 := by omega
  have hnp : npF (M 0) = np := by unfold npF; rw [h1]; exact nI_clamp (by omega)
  refine a_iconst (v := nI 0) (pc' := 1147) dL_acts_1146 (by decide) rfl ?_
  refine a_is_23_26 (pc' := 1149) dL_acts_1147 rfl ?_
  refine a_iconst (v := nI 0) (pc' := 1150) dL_acts_1149 (by decide) rfl ?_
  refine a_is_24_26 (pc' := 1152) dL_acts_1150 rfl ?_
  refine lp_L_acts_set hm z M hL h1 np 0 _ (by omega) ?_
  obtain ⟨s, hs, e, hst⟩ := st_64 (M 0) W hm
  rw [e]
  by_cases hs1 : 1 ≤ s
  · exact ac_15c h z h0 hn h1 hm hW hv hz hq hs1 hs hst _
  · obtain rfl : s = 0 := by omega
    rcases hq with ⟨q1, q2⟩ | q1
    · exact ac_15a h z h0 hn h1 hm hW hv hz (Or.inl ⟨q1, q2⟩) q1 _
    · exact ac_15b h z h0 hn h1 hm hW hv hz (Or.inr q1) q1 _
set_option maxRecDepth 20000 in
set_option maxHeartbeats 4000000 in
theorem ac_89 {G : Gl} {M : Mm} (h : INV M) {nv np W v zn q : Nat} (z : Int32) (h0 : M 0 0 = nI nv) (hn : nv ≤ 3) (h1 : M 0 1 = nI np) (hm : np ≤ 6) (hW : W < 60000) (hv : v < nv) (hz : zn < 3) (hq : (np = 0 ∧ q = 0) ∨ q < np) : AW G cL_acts RL 26 6 140 (some .boolean) ANS 89 [some (.inr (6, 0, 0, 0)), some (.inr (9, 50, 6, 0)), some (.inr (9, 51, 57, 0)), some (.inr (9, 52, 60, 0)), some (.inl z), some (.inl (nI W)), some (.inl (nI v)), some (.inl (nI zn)), some (.inl (nI (4 + 19 * v + 5 * zn))), some (.inl (nI q)), none, none, none, none, none, none, none, none, none, none, none, none, none, none, none, none] [] M := by
  have hL := h.1
  obtain ⟨⟨t, ht, hg⟩, hqw⟩ := id h.2.1
  have hv3 : v < 3 := by omega
  refine a_il_4_26 (pc' := 91) dL_acts_89 rfl ?_
  refine a_bipush (v := nI 20) (pc' := 93) dL_acts_91 (by decide) rfl ?_
  refine k_SI (pc' := 96) (ct_L_low z (by decide) (by decide) _) cw_L_43 ms_L_low rfl (by decide) (by decide) (Nat.le_of_ble_eq_true rfl) rfl dL_acts_93 rfl ?_
  generalize hS : lowN z 20 = S
  have hS20 : S < 20 := by rw [← hS]; exact lowN_lt _ (by decide)
  rcases (by omega : S = 0 ∨ S = 1 ∨ S = 2 ∨ S = 3 ∨ S = 4 ∨ S = 5 ∨ S = 6 ∨ S = 7 ∨ S = 8 ∨ S = 9 ∨ S = 10 ∨ S = 11 ∨ S = 12 ∨ S = 13 ∨ S = 14 ∨ S = 15 ∨ 16 ≤ S) with rfl | rfl | rfl | rfl | rfl | rfl | rfl | rfl | rfl | rfl | rfl | rfl | rfl | rfl | rfl | rfl | h16
  · refine a_tswI (off := 80) (tgt := 176) dL_acts_96 (by decide) (by decide) (by decide) (by decide) ?_
    by_cases hnv : nv = 3
    · exact ac_0a h z h0 hn h1 hm hW hv hz hq hnv
    · exact ac_0b h z h0 hn h1 hm hW hv hz hq (by omega)
  · refine a_tswI (off := 141) (tgt := 237) dL_acts_96 (by decide) (by decide) (by decide) (by decide) ?_
    rcases (by omega : W % 3 = 0 ∨ W % 3 = 1 ∨ W % 3 = 2) with e | e | e
    · exact ac_1_0 h z h0 hn h1 hm hW hv hz hq e
    · exact ac_1_1 h z h0 hn h1 hm hW hv hz hq e
    · exact ac_1_2 h z h0 hn h1 hm hW hv hz hq e
  · refine a_tswI (off := 141) (tgt := 237) dL_acts_96 (by decide) (by decide) (by decide) (by decide) ?_
    rcases (by omega : W % 3 = 0 ∨ W % 3 = 1 ∨ W % 3 = 2) with e | e | e
    · exact ac_1_0 h z h0 hn h1 hm hW hv hz hq e
    · exact ac_1_1 h z h0 hn h1 hm hW hv hz hq e
    · exact ac_1_2 h z h0 hn h1 hm hW hv hz hq e
  · refine a_tswI (off := 231) (tgt := 327) dL_acts_96 (by decide) (by decide) (by decide) (by decide) ?_
    exact ac_3 h z h0 hn h1 hm hW hv hz hq
  · refine a_tswI (off := 309) (tgt := 405) dL_acts_96 (by decide) (by decide) (by decide) (by decide) ?_
    rcases (by omega : W / 9 % 3 = 0 ∨ W / 9 % 3 = 1 ∨ W / 9 % 3 = 2) with e | e | e
    · exact ac_4_0 h z h0 hn h1 hm hW hv hz hq e
    · exact ac_4_1 h z h0 hn h1 hm hW hv hz hq e
    · exact ac_4_2 h z h0 hn h1 hm hW hv hz hq e
  · refine a_tswI (off := 309) (tgt := 405) dL_acts_96 (by decide) (by decide) (by decide) (by decide) ?_
    rcases (by omega : W / 9 % 3 = 0 ∨ W / 9 % 3 = 1 ∨ W / 9 % 3 = 2) with e | e | e
    · exact ac_4_0 h z h0 hn h1 hm hW hv hz hq e
    · exact ac_4_1 h z h0 hn h1 hm hW hv hz hq e
    · exact ac_4_2 h z h0 hn h1 hm hW hv hz hq e
  · refine a_tswI (off := 309) (tgt := 405) dL_acts_96 (by decide) (by decide) (by decide) (by decide) ?_
    rcases (by omega : W / 9 % 3 = 0 ∨ W / 9 % 3 = 1 ∨ W / 9 % 3 = 2) with e | e | e
    · exact ac_4_0 h z h0 hn h1 hm hW hv hz hq e
    · exact ac_4_1 h z h0 hn h1 hm hW hv hz hq e
    · exact ac_4_2 h z h0 hn h1 hm hW hv hz hq e
  · refine a_tswI (off := 411) (tgt := 507) dL_acts_96 (by decide) (by decide) (by decide) (by decide) ?_
    exact ac_7 h z h0 hn h1 hm hW hv hz hq
  · refine a_tswI (off := 461) (tgt := 557) dL_acts_96 (by decide) (by decide) (by decide) (by decide) ?_
    exact ac_8 h z h0 hn h1 hm hW hv hz hq
  · refine a_tswI (off := 461) (tgt := 557) dL_acts_96 (by decide) (by decide) (by decide) (by decide) ?_
    exact ac_8 h z h0 hn h1 hm hW hv hz hq
  · refine a_tswI (off := 461) (tgt := 557) dL_acts_96 (by decide) (by decide) (by decide) (by decide) ?_
    exact ac_8 h z h0 hn h1 hm hW hv hz hq
  · refine a_tswI (off := 461) (tgt := 557) dL_acts_96 (by decide) (by decide) (by decide) (by decide) ?_
    exact ac_8 h z h0 hn h1 hm hW hv hz hq
  · refine a_tswI (off := 843) (tgt := 939) dL_acts_96 (by decide) (by decide) (by decide) (by decide) ?_
    rcases (by omega : W / 3 % 2 = 0 ∨ W / 3 % 2 = 1) with e | e <;> rcases hg.door hv3 with d | d
    · exact ac_12_00 h z h0 hn h1 hm hW hv hz hq e d
    · exact ac_12_01 h z h0 hn h1 hm hW hv hz hq e d
    · exact ac_12_10 h z h0 hn h1 hm hW hv hz hq e d
    · exact ac_12_11 h z h0 hn h1 hm hW hv hz hq e d
  · refine a_tswI (off := 843) (tgt := 939) dL_acts_96 (by decide) (by decide) (by decide) (by decide) ?_
    rcases (by omega : W / 3 % 2 = 0 ∨ W / 3 % 2 = 1) with e | e <;> rcases hg.door hv3 with d | d
    · exact ac_12_00 h z h0 hn h1 hm hW hv hz hq e d
    · exact ac_12_01 h z h0 hn h1 hm hW hv hz hq e d
    · exact ac_12_10 h z h0 hn h1 hm hW hv hz hq e d
    · exact ac_12_11 h z h0 hn h1 hm hW hv hz hq e d
  · refine a_tswI (off := 920) (tgt := 1016) dL_acts_96 (by decide) (by decide) (by decide) (by decide) ?_
    rcases hq with ⟨q1, q2⟩ | q1
    · exact ac_14a h z h0 hn h1 hm hW hv hz (Or.inl ⟨q1, q2⟩) q1
    · exact ac_14b h z h0 hn h1 hm hW hv hz (Or.inr q1) q1
  · refine a_tswI (off := 1050) (tgt := 1146) dL_acts_96 (by decide) (by decide) (by decide) (by decide) ?_
    exact ac_15 h z h0 hn h1 hm hW hv hz hq
  · exact a_tswO (tgt := 1296) dL_acts_96 (Or.inr (by rw [nI_toInt (by omega)]; omega)) (by decide) (ac_16 h z h0 hn h1 hm hW hv hz hq)
theorem nv0' {n : Nat} (h : nI n = 0) (hn : n < 2147483648) : n = 0 := by
  rcases Nat.eq_zero_or_pos n with e | e
  · exact e
  · exact absurd h (nI_ne0 e hn)
set_option maxRecDepth 20000 in
set_option maxHeartbeats 4000000 in
theorem ct_L_acts {M : Mm} (h : INV M) (z : Int32) : Ct yL_acts cL_acts 26 (some .boolean) 6 140 [.inr (6, 0, 0, 0), .inr (9, 50, 6, 0), .inr (9, 51, 57, 0), .inr (9, 52, 60, 0), .inl z] M (ANS) := by
  have hL := h.1
  obtain ⟨⟨t, ht, hg⟩, hqw⟩ := id h.2.1
  obtain ⟨hn, h0⟩ := hg.nv
  have h1 := hg.np.2
  have hm := h.2.2.1
  generalize nvF (M 0) = nv at hn h0
  generalize npF (M 0) = np at hm h1
  
  refine Ct.at RL rfl (by decide +kernel) (Nat.le_of_ble_eq_true rfl) [some (.inr (6, 0, 0, 0)), some (.inr (9, 50, 6, 0)), some (.inr (9, 51, 57, 0)), some (.inr (9, 52, 60, 0)), some (.inl z), none, none, none, none, none, none, none, none, none, none, none, none, none, none, none, none, none, none, none, none, none] rfl (fun G => ?_)
  refine a_il_4_26 (pc' := 2) dL_acts_0 rfl ?_
  refine a_iconst (v := nI 5) (pc' := 3) dL_acts_2 (by decide) rfl ?_
  refine a_ishr (pc' := 4) dL_acts_3 rfl ?_
  refine a_ldc (pc' := 6) dL_acts_4 cn_L_42 rfl ?_
  rw [show (60000 : Int32) = nI 60000 from by decide]
  refine k_SI (pc' := 9) (ct_L_low _ (by decide) (by decide) _) cw_L_43 ms_L_low rfl (by decide) (by decide) (Nat.le_of_ble_eq_true rfl) rfl dL_acts_6 rfl ?_
  generalize hWW : lowN (z >>> (nI 5 &&& 31)) 60000 = W
  have hW : W < 60000 := by rw [← hWW]; exact lowN_lt _ (by decide)
  refine a_is_5_26 (pc' := 11) dL_acts_9 rfl ?_
  refine a_al_1_26 (pc' := 12) dL_acts_11 rfl ?_
  refine a_iconst (v := nI 0) (pc' := 13) dL_acts_12 (by decide) rfl ?_
  refine a_ialdN (pc' := 14) rfl (by omega) (by decide) dL_acts_13 rfl ?_
  rw [hL.g (show 0 < 6 by decide), h0]
  refine a_if_ne (pc' := 17) (tgt := 43) dL_acts_14 (by decide) rfl (fun c_14 => ?_) (fun c_14 => ?_)
  · have hnv1 : 0 < nv := Nat.pos_of_ne_zero (fun e => c_14 (by rw [e]; rfl))
    refine a_il_5_26 (pc' := 45) dL_acts_43 rfl ?_
    refine a_al_1_26 (pc' := 46) dL_acts_45 rfl ?_
    refine a_iconst (v := nI 0) (pc' := 47) dL_acts_46 (by decide) rfl ?_
    refine a_ialdN (pc' := 48) rfl (by omega) (by decide) dL_acts_47 rfl ?_
    rw [hL.g (show 0 < 6 by decide), h0]
    refine a_iremN (pc' := 49) (by omega) (by omega) (by omega) dL_acts_48 rfl ?_
    obtain ⟨v, hv, ev⟩ : ∃ v, v < nv ∧ W % nv = v := ⟨_, Nat.mod_lt _ hnv1, rfl⟩
    rw [ev]
    refine a_is_6_26 (pc' := 51) dL_acts_49 rfl ?_
    refine a_il_5_26 (pc' := 53) dL_acts_51 rfl ?_
    refine a_iconst (v := nI 3) (pc' := 54) dL_acts_53 (by decide) rfl ?_
    refine a_idivN (pc' := 55) (by omega) (by decide) (by decide) dL_acts_54 rfl ?_
    refine a_iconst (v := nI 3) (pc' := 56) dL_acts_55 (by decide) rfl ?_
    refine a_iremN (pc' := 57) (by omega) (by decide) (by decide) dL_acts_56 rfl ?_
    obtain ⟨zn, hzn, ez⟩ : ∃ zn, zn < 3 ∧ W / 3 % 3 = zn := ⟨_, Nat.mod_lt _ (by decide), rfl⟩
    rw [ez]
    refine a_is_7_26 (pc' := 59) dL_acts_57 rfl ?_
    refine a_iconst (v := nI 3) (pc' := 60) dL_acts_59 (by decide) rfl ?_
    refine a_il_6_26 (pc' := 62) dL_acts_60 rfl ?_
    refine a_imulN (pc' := 63) dL_acts_62 rfl ?_
    refine a_il_7_26 (pc' := 65) dL_acts_63 rfl ?_
    refine a_iaddN (pc' := 66) dL_acts_65 rfl ?_
    refine k_SI (pc' := 69) (ct_L_spot (v := v) (z := zn) (by omega) (by omega) (by omega) _) cw_L_9 ms_L_spot rfl (by decide) (by decide) (Nat.le_of_ble_eq_true rfl) rfl dL_acts_66 rfl ?_
    refine a_is_8_26 (pc' := 71) dL_acts_69 rfl ?_
    refine a_al_1_26 (pc' := 72) dL_acts_71 rfl ?_
    refine a_iconst (v := nI 1) (pc' := 73) dL_acts_72 (by decide) rfl ?_
    refine a_ialdN (pc' := 74) rfl (by omega) (by decide) dL_acts_73 rfl ?_
    rw [hL.g (show 1 < 6 by decide), h1]
    refine a_if_ne (pc' := 77) (tgt := 81) dL_acts_74 (by decide) rfl (fun c_74 => ?_) (fun c_74 => ?_)
    · refine a_il_5_26 (pc' := 83) dL_acts_81 rfl ?_
      refine a_al_1_26 (pc' := 84) dL_acts_83 rfl ?_
      refine a_iconst (v := nI 1) (pc' := 85) dL_acts_84 (by decide) rfl ?_
      refine a_ialdN (pc' := 86) rfl (by omega) (by decide) dL_acts_85 rfl ?_
      have hnp1 : 0 < np := Nat.pos_of_ne_zero (fun e => c_74 (by rw [e]; rfl))
      rw [hL.g (show 1 < 6 by decide), h1]
      refine a_iremN (pc' := 87) (by omega) (by omega) (by omega) dL_acts_86 rfl ?_
      refine a_is_9_26 (pc' := 89) dL_acts_87 rfl ?_
      exact ac_89 h z h0 hn h1 hm hW hv hzn (Or.inr (Nat.mod_lt _ hnp1))
    · refine a_iconst (v := nI 0) (pc' := 78) dL_acts_77 (by decide) rfl ?_
      refine a_goto (pc' := 87) dL_acts_78 (by decide) ?_
      refine a_is_9_26 (pc' := 89) dL_acts_87 rfl ?_
      exact ac_89 h z h0 hn h1 hm hW hv hzn (Or.inl ⟨nv0' c_74 (by omega), rfl⟩)
  · refine a_al_0_26 (pc' := 18) dL_acts_17 rfl ?_
    refine a_al_1_26 (pc' := 19) dL_acts_18 rfl ?_
    refine a_al_2_26 (pc' := 20) dL_acts_19 rfl ?_
    refine a_il_5_26 (pc' := 22) dL_acts_20 rfl ?_
    refine a_sipush (v := nI 401) (pc' := 25) dL_acts_22 (by decide) rfl ?_
    refine a_iremN (pc' := 26) (by omega) (by decide) (by decide) dL_acts_25 rfl ?_
    refine a_sipush (v := nI 300) (pc' := 29) dL_acts_26 (by decide) rfl ?_
    refine a_isub (pc' := 30) dL_acts_29 rfl ?_
    refine a_il_5_26 (pc' := 32) dL_acts_30 rfl ?_
    refine a_sipush (v := nI 401) (pc' := 35) dL_acts_32 (by decide) rfl ?_
    refine a_idivN (pc' := 36) (by omega) (by decide) (by decide) dL_acts_35 rfl ?_
    refine a_bipush (v := nI 31) (pc' := 38) dL_acts_36 (by decide) rfl ?_
    refine a_iremN (pc' := 39) (by omega) (by decide) (by decide) dL_acts_38 rfl ?_
    refine k_SQ (pc' := 42) (ct_L_adds h (Nat.lt_of_le_of_lt (Nat.le_of_eq (nv0' c_14 (by omega))) (by decide)) h0 _ _ (cold_w W)) cw_L_46 ms_L_adds rfl (by decide) (by decide) (Nat.le_of_ble_eq_true rfl) rfl dL_acts_39 rfl (fun M_39 hq_39 => ?_)
    refine a_iret dL_acts_42 rfl rfl ?_
    exact ⟨rfl, hq_39⟩
