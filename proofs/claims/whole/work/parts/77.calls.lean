/-! CALLS: a case of the law's switch each. -/
theorem pfr_lt {fr : Nat} (h : fr < 7) : pfr fr < 7 := by unfold pfr; split <;> omega
abbrev lsL (i : Nat) : List (Option OV) := [some (.inr (15, 1, 0, 0)), some (.inr (6, 0, 0, 0)), some (.inr (7, 0, 0, 0)), some (.inl (nI i))]
section Calls
variable {G : Gl} {b L : Nat} {xs : Nat → Int32} {pc pc' i : Nat} {st : List OV} {M : Mm}
abbrev LL (G : Gl) (b L : Nat) (xs : Nat → Int32) (i pc : Nat) (st : List OV) (M : Mm) : Prop := LW G b L xs cL_law RL 4 9 204 pc (lsL i) st M
theorem l_al1 (hd : decode cL_law pc = .ok (.aload_n 1, 1)) (hp : pc + 1 = pc') (kk : LL G b L xs i pc' (.inr (6, 0, 0, 0) :: st) M) : LL G b L xs i pc st M := l_ald (i := 1) (Or.inl ⟨1, rfl, hd, hp⟩) rfl kk
theorem l_al2 (hd : decode cL_law pc = .ok (.aload_n 2, 1)) (hp : pc + 1 = pc') (kk : LL G b L xs i pc' (.inr (7, 0, 0, 0) :: st) M) : LL G b L xs i pc st M := l_ald (i := 2) (Or.inl ⟨2, rfl, hd, hp⟩) rfl kk
theorem l_arg {k : Nat} {n : Int} {p1 p2 p3 p4 : Nat} (hi : i + 6 < L) (hL : L ≤ 3584) (hk : k ≤ 6) (d0 : decode cL_law pc = .ok (.aload_n 0, 1)) (d1 : decode cL_law p1 = .ok (.iload_n 3, 1)) (d2 : decode cL_law p2 = .ok (.iconst n, 1)) (d3 : decode cL_law p3 = .ok (.iadd, 1)) (d4 : decode cL_law p4 = .ok (.iaload, 1)) (hp : (p1, p2, p3, p4) = (pc + 1, pc + 1 + 1, pc + 1 + 1 + 1, pc + 1 + 1 + 1 + 1)) (hn : Int32.ofInt n = nI k) (hp5 : pc + 5 = pc') (kk : LL G b L xs i pc' (.inl (xs (i + k)) :: st) M) : LL G b L xs i pc st M := by
  cases hp
  refine l_ald (i := 0) (Or.inl ⟨0, rfl, d0, rfl⟩) rfl ?_
  refine l_ild (i := 3) (Or.inl ⟨3, rfl, d1, rfl⟩) rfl ?_
  refine l_iconst d2 hn rfl ?_
  refine l_iadd d3 rfl ?_
  rw [nI_add]
  refine l_sld (vp_in_nI (by omega) (by omega)) d4 hp5 ?_
  rw [nI_clamp (by omega)]
  exact kk
theorem l_arg6 {k : Nat} {n : Int} {p1 p2 p3 p4 : Nat} (hi : i + 6 < L) (hL : L ≤ 3584) (hk : k ≤ 6) (d0 : decode cL_law pc = .ok (.aload_n 0, 1)) (d1 : decode cL_law p1 = .ok (.iload_n 3, 1)) (d2 : decode cL_law p2 = .ok (.bipush n, 2)) (d3 : decode cL_law p3 = .ok (.iadd, 1)) (d4 : decode cL_law p4 = .ok (.iaload, 1)) (hp : (p1, p2, p3, p4) = (pc + 1, pc + 1 + 1, pc + 1 + 1 + 2, pc + 1 + 1 + 2 + 1)) (hn : (Int8.ofInt n).toInt32 = nI k) (hp5 : pc + 6 = pc') (kk : LL G b L xs i pc' (.inl (xs (i + k)) :: st) M) : LL G b L xs i pc st M := by
  cases hp
  refine l_ald (i := 0) (Or.inl ⟨0, rfl, d0, rfl⟩) rfl ?_
  refine l_ild (i := 3) (Or.inl ⟨3, rfl, d1, rfl⟩) rfl ?_
  refine l_bipush d2 hn rfl ?_
  refine l_iadd d3 rfl ?_
  rw [nI_add]
  refine l_sld (vp_in_nI (by omega) (by omega)) d4 hp5 ?_
  rw [nI_clamp (by omega)]
  exact kk
/-- equal answers: on to the next call -/
theorem l_eq {r r' : Int32} {off : Int} (hd : decode cL_law pc = .ok (.if_icmp .eq off, 3)) (ht : (pc : Int) + off = ((901 : Nat) : Int)) (he : r = r') (kk : LL G b L xs i 901 [] M) : LL G b L xs i pc [.inl r', .inl r] M := l_icmp_eq (pc' := pc + 3) hd ht rfl (fun _ => kk) (fun q => absurd he q)
theorem l_ext50 {M9 : Mm} (h : ∀ r, r ≠ 50 → M r = M9 r) (h2 : ∀ i, i < 183 → M 50 i = M9 50 i) (kk : LL G b L xs i pc st M9) : LL G b L xs i pc st M := by
  intro A p l e R s m args below meth c cells slots Z H locs lsA hF hR hM hS hL
  exact kk A p l e R s m args below meth c cells slots Z H locs lsA hF hR (hM.ext50 h h2) hS hL
/-- what is to be kept -/
def KEEP (G : Gl) (b L : Nat) (xs : Nat → Int32) (i : Nat) : Prop := ∀ (M : Mm) (fr n len : Nat), REL M fr n len → LR M → LL G b L xs i 901 [] M
/-- a look ahead keeps what counts -/
theorem REL.look {M M1 M2 : Mm} {fr n len : Nat} (h : REL M fr n len) (hl : LR M) (h1 : trQ M M1) (h2 : keepQ M1 M2) : (∀ r, r ≠ 50 → M2 r = setR M2 50 (M 0) r) ∧ (∀ i, i < 183 → M2 50 i = setR M2 50 (M 0) 50 i) ∧ REL (setR M2 50 (M 0)) fr n len ∧ LR (setR M2 50 (M 0)) := by
  have e : ∀ r, r ≠ 1 → r ≠ 53 → setR M2 50 (M 0) r = M r := fun r a b => by
    by_cases q : r = 50
    · subst q; rw [setR_same]; exact h.same.symm
    · rw [setR_ne _ _ q, h2.1 r q b, h1.at a]
  refine ⟨fun r hr => (setR_ne _ _ hr).symm, fun i hi => ?_, ?_, hl.congr (fun r a b => e r (by omega) (by omega))⟩
  · rw [setR_same, h2.2 i hi, h1.at (by decide), h.same]
  · have z : ∀ r, r < 7 → setR M2 50 (M 0) (2 + r) = M (2 + r) := fun r hr => e _ (by omega) (by omega)
    have e0 := e 0 (by decide) (by decide)
    refine ⟨by rw [setR_same, e0], by rw [e0]; exact h.good, h.logs.congr (fun r a b => e r (by omega) (by omega)) (e 54 (by decide) (by decide)), by rw [e 55 (by decide) (by decide), e 22 (by decide) (by decide)]; exact h.text, by rw [e 21 (by decide) (by decide)]; exact h.len1, by rw [e 60 (by decide) (by decide)]; exact h.len2, h.len3, by rw [e 20 (by decide) (by decide)]; exact h.free, h.frlt, by rw [e 20 (by decide) (by decide)]; exact h.num1, by rw [e 60 (by decide) (by decide)]; exact h.num2, h.num3, by rw [e 60 (by decide) (by decide)]; exact h.real, ?_, fun r hr => by rw [z r hr]; exact h.olds r hr⟩
    rw [e 51 (by decide) (by decide)]
    intro j hj k hk
    show M 51 (183 * j + k) = setR M2 50 (M 0) (2 + (fr + 7 - n + j) % 7) k
    rw [z _ (Nat.mod_lt _ (by decide))]
    exact h.ring j hj k hk
theorem cnt_same {M : Mm} {fr n len : Nat} (h : REL M fr n len) (w : Int32) : cntS M w = mcS M w := by
  unfold cntS mcS
  rw [h.same, h.len1, h.len2, h.num1, h.num2]
theorem exL_hi : ∀ (m k : Nat) (N : Mm), GG (N 0) → ∀ r, 48 ≤ r → (exL m k N).2 r = N r := by
  intro m
  induction m with
  | zero => intro k N _ r _; rfl
  | succ m ih =>
    intro k N hg r hr
    have hn : nvF (N 0) ≤ 3 := by obtain ⟨t, ht, q⟩ := hg; exact q.nv.1
    unfold exL
    split
    · exact exM_ne _ _ _ hn (Or.inr hr) (by omega)
    · have hg2 : GG (exM N (N 23 k) (N 24 k) (N 25 k) 0) := by rw [exM_T]; exact hg.ex _ _ _
      rw [ih (k + 1) _ hg2 r hr]
      exact exM_ne _ _ _ hn (Or.inr hr) (by omega)
theorem rsQ_hi {M M1 : Mm} {fr n len : Nat} {v : Option OV} (h : REL M fr n len) (hc : rsQ M len fr v M1) : (∃ a, v = some (.inl a)) ∧ ∀ r, 48 ≤ r → M1 r = M r := by
  rcases hc with ⟨c, hv, -, -, -, ho, -⟩ | ⟨c, R1, -, -, -, -, ho, -, hv, hM⟩
  · exact ⟨⟨_, hv⟩, fun r hr => ho r (by omega) (by omega) (by omega) (by omega)⟩
  · refine ⟨⟨_, hv⟩, fun r hr => ?_⟩
    have e0 : R1 0 = M 0 := ho 0 (by decide) (by decide) (by decide) (by decide)
    have e20 : R1 20 = M 20 := ho 20 (by decide) (by decide) (by decide) (by decide)
    have hfr := h.frlt
    have nn : ∀ q, 48 ≤ q → ntM R1 q = M q := fun q hq => by rw [ntM_ne _ (by rw [e20, h.free, vN_nI (by omega)]; omega), ho q (by omega) (by omega) (by omega) (by omega)]
    have hG : GG (ntM R1 0) := by rw [ntM_0, e0]; exact h.good.1
    have ck := exL_hi c 0 (ntM R1) hG r hr
    rw [hM, ← nn r hr, ← ck]
    cases hj : (exL c 0 (ntM R1)).1 with
    | some j =>
      have e : exZ (exL c 0 (ntM R1)) c fr = setR (exL c 0 (ntM R1)).2 0 ((exL c 0 (ntM R1)).2 (2 + fr)) := by unfold exZ; rw [hj]
      rw [e]; exact setR_ne _ _ (by omega)
    | none =>
      have e : exZ (exL c 0 (ntM R1)) c fr = ktM (wr (exL c 0 (ntM R1)).2 21 0 (nI 0)) (nI c) := by unfold exZ; rw [hj]
      rw [e, ktM_ne _ _ (by omega)]
      funext j
      exact if_neg (by rintro ⟨q, -⟩; omega)
theorem ap_len {M : Mm} {fr n len : Nat} (h : REL M fr n len) (x : Int32) : apM M len x 60 2 = nI len := by
  rw [← h.len2]
  unfold apM
  split <;> rfl
theorem und_60 {M : Mm} {fr n len : Nat} (h : REL M fr n len) : undCM M fr n 60 0 = nI n := by
  rw [← h.num2]
  unfold undCM
  split
  · rfl
  · unfold undM
    rw [setR_ne _ _ (by decide), setR_ne _ _ (by decide)]
set_option maxHeartbeats 2000000 in
theorem lc_addVan (hi : i + 6 < L) (hL : L ≤ 3584) {fr n len : Nat} (h : REL M fr n len) (hl : LR M) (kk : KEEP G b L xs i) : LL G b L xs i 140 [] M := by
  obtain ⟨t, ht, hg⟩ := h.g
  have e50 := h.same
  refine l_al1 dL_law_140 rfl ?_
  refine l_arg (k := 1) hi hL (by decide) dL_law_141 dL_law_142 dL_law_143 dL_law_144 dL_law_145 rfl rfl rfl ?_
  refine l_arg (k := 2) hi hL (by decide) dL_law_146 dL_law_147 dL_law_148 dL_law_149 dL_law_150 rfl rfl rfl ?_
  refine l_callV (T := TX6) (N := 7) (As := [.inl (xs (i + 1)), .inl (xs (i + 2))]) (rest := []) (ct_X6_addVan h.frlt hg.nv.1 (xs (i + 1)) (xs (i + 2)) M h.free hg.bok hg.nv.2) cw_L_13 mi_X6_addVan se_X6_addVan rfl rfl rfl rfl (by decide) (by decide) (by simp) rfl dL_law_151 rfl (fun v M1 hv => ?_)
  obtain ⟨rfl, rfl⟩ := hv
  have e51 := h.e50 (newR (M 0) (xs (i + 1)) (xs (i + 2))) (newF (M 0) (xs (i + 1)) (xs (i + 2)))
  have h6 := (congrFun (edM_hi h.free h.frlt (newR (M 0) (xs (i + 1)) (xs (i + 2))) (newF (M 0) (xs (i + 1)) (xs (i + 2))) (by decide : 21 ≤ 60)) 0).trans h.num2
  have c2 := ct_X7_addVan h.num3 hg.nv.1 (xs (i + 1)) (xs (i + 2)) _ h6 (by rw [e51]; exact hg.nv.2)
  rw [e51] at c2
  refine l_al2 dL_law_154 rfl ?_
  refine l_arg (k := 1) hi hL (by decide) dL_law_155 dL_law_156 dL_law_157 dL_law_158 dL_law_159 rfl rfl rfl ?_
  refine l_arg (k := 2) hi hL (by decide) dL_law_160 dL_law_161 dL_law_162 dL_law_163 dL_law_164 rfl rfl rfl ?_
  refine l_callV (T := TX7) (N := 12) (As := [.inl (xs (i + 1)), .inl (xs (i + 2))]) (rest := [.inl (newR (M 0) (xs (i + 1)) (xs (i + 2)))]) (c2) cw_L_17 mi_X7_addVan se_X7_addVan rfl rfl rfl rfl (by decide) (by decide) (by simp) rfl dL_law_165 rfl (fun v' M2 hv' => ?_)
  obtain ⟨rfl, rfl⟩ := hv'
  obtain ⟨fr2, n2, h2, hl2⟩ := st_addVan h hl (xs (i + 1)) (xs (i + 2))
  refine l_eq dL_law_168 (by decide) rfl ?_
  exact kk _ _ _ _ h2 hl2
set_option maxHeartbeats 2000000 in
theorem lc_setNumber (hi : i + 6 < L) (hL : L ≤ 3584) {fr n len : Nat} (h : REL M fr n len) (hl : LR M) (kk : KEEP G b L xs i) : LL G b L xs i 173 [] M := by
  obtain ⟨t, ht, hg⟩ := h.g
  have e50 := h.same
  refine l_al1 dL_law_173 rfl ?_
  refine l_arg (k := 1) hi hL (by decide) dL_law_174 dL_law_175 dL_law_176 dL_law_177 dL_law_178 rfl rfl rfl ?_
  refine l_arg (k := 2) hi hL (by decide) dL_law_179 dL_law_180 dL_law_181 dL_law_182 dL_law_183 rfl rfl rfl ?_
  refine l_callV (T := TX6) (N := 7) (As := [.inl (xs (i + 1)), .inl (xs (i + 2))]) (rest := []) (ct_X6_setNumber h.frlt (xs (i + 1)) (xs (i + 2)) M h.free hg.bok) cw_L_18 mi_X6_setNumber se_X6_setNumber rfl rfl rfl rfl (by decide) (by decide) (by simp) rfl dL_law_184 rfl (fun v M1 hv => ?_)
  obtain ⟨rfl, rfl⟩ := hv
  have e51 := h.e50 (numR (M 0) (xs (i + 1)) (xs (i + 2))) (numF (M 0) (xs (i + 1)) (xs (i + 2)))
  have h6 := (congrFun (edM_hi h.free h.frlt (numR (M 0) (xs (i + 1)) (xs (i + 2))) (numF (M 0) (xs (i + 1)) (xs (i + 2))) (by decide : 21 ≤ 60)) 0).trans h.num2
  have c2 := ct_X7_setNumber h.num3 (xs (i + 1)) (xs (i + 2)) _ h6
  rw [e51] at c2
  refine l_al2 dL_law_187 rfl ?_
  refine l_arg (k := 1) hi hL (by decide) dL_law_188 dL_law_189 dL_law_190 dL_law_191 dL_law_192 rfl rfl rfl ?_
  refine l_arg (k := 2) hi hL (by decide) dL_law_193 dL_law_194 dL_law_195 dL_law_196 dL_law_197 rfl rfl rfl ?_
  refine l_callV (T := TX7) (N := 12) (As := [.inl (xs (i + 1)), .inl (xs (i + 2))]) (rest := [.inl (numR (M 0) (xs (i + 1)) (xs (i + 2)))]) (c2) cw_L_21 mi_X7_setNumber se_X7_setNumber rfl rfl rfl rfl (by decide) (by decide) (by simp) rfl dL_law_198 rfl (fun v' M2 hv' => ?_)
  obtain ⟨rfl, rfl⟩ := hv'
  obtain ⟨fr2, n2, h2, hl2⟩ := st_setNumber h hl (xs (i + 1)) (xs (i + 2))
  refine l_eq dL_law_201 (by decide) rfl ?_
  exact kk _ _ _ _ h2 hl2
set_option maxHeartbeats 2000000 in
theorem lc_setVan (hi : i + 6 < L) (hL : L ≤ 3584) {fr n len : Nat} (h : REL M fr n len) (hl : LR M) (kk : KEEP G b L xs i) : LL G b L xs i 206 [] M := by
  obtain ⟨t, ht, hg⟩ := h.g
  have e50 := h.same
  refine l_al1 dL_law_206 rfl ?_
  refine l_arg (k := 1) hi hL (by decide) dL_law_207 dL_law_208 dL_law_209 dL_law_210 dL_law_211 rfl rfl rfl ?_
  refine l_arg (k := 2) hi hL (by decide) dL_law_212 dL_law_213 dL_law_214 dL_law_215 dL_law_216 rfl rfl rfl ?_
  refine l_arg (k := 3) hi hL (by decide) dL_law_217 dL_law_218 dL_law_219 dL_law_220 dL_law_221 rfl rfl rfl ?_
  refine l_callV (T := TX6) (N := 7) (As := [.inl (xs (i + 1)), .inl (xs (i + 2)), .inl (xs (i + 3))]) (rest := []) (ct_X6_setVan h.frlt hg.nv.1 (xs (i + 1)) (xs (i + 2)) (xs (i + 3)) M h.free hg.bok hg.nv.2) cw_L_22 mi_X6_setVan se_X6_setVan rfl rfl rfl rfl (by decide) (by decide) (by simp) rfl dL_law_222 rfl (fun v M1 hv => ?_)
  obtain ⟨rfl, rfl⟩ := hv
  have e51 := h.e50 (vanR (M 0) (xs (i + 1)) (xs (i + 2)) (xs (i + 3))) (vanF (M 0) (xs (i + 1)) (xs (i + 2)) (xs (i + 3)))
  have h6 := (congrFun (edM_hi h.free h.frlt (vanR (M 0) (xs (i + 1)) (xs (i + 2)) (xs (i + 3))) (vanF (M 0) (xs (i + 1)) (xs (i + 2)) (xs (i + 3))) (by decide : 21 ≤ 60)) 0).trans h.num2
  have c2 := ct_X7_setVan h.num3 hg.nv.1 (xs (i + 1)) (xs (i + 2)) (xs (i + 3)) _ h6 (by rw [e51]; exact hg.nv.2)
  rw [e51] at c2
  refine l_al2 dL_law_225 rfl ?_
  refine l_arg (k := 1) hi hL (by decide) dL_law_226 dL_law_227 dL_law_228 dL_law_229 dL_law_230 rfl rfl rfl ?_
  refine l_arg (k := 2) hi hL (by decide) dL_law_231 dL_law_232 dL_law_233 dL_law_234 dL_law_235 rfl rfl rfl ?_
  refine l_arg (k := 3) hi hL (by decide) dL_law_236 dL_law_237 dL_law_238 dL_law_239 dL_law_240 rfl rfl rfl ?_
  refine l_callV (T := TX7) (N := 12) (As := [.inl (xs (i + 1)), .inl (xs (i + 2)), .inl (xs (i + 3))]) (rest := [.inl (vanR (M 0) (xs (i + 1)) (xs (i + 2)) (xs (i + 3)))]) (c2) cw_L_26 mi_X7_setVan se_X7_setVan rfl rfl rfl rfl (by decide) (by decide) (by simp) rfl dL_law_241 rfl (fun v' M2 hv' => ?_)
  obtain ⟨rfl, rfl⟩ := hv'
  obtain ⟨fr2, n2, h2, hl2⟩ := st_setVan h hl (xs (i + 1)) (xs (i + 2)) (xs (i + 3))
  refine l_eq dL_law_244 (by decide) rfl ?_
  exact kk _ _ _ _ h2 hl2
set_option maxHeartbeats 2000000 in
theorem lc_setProbe (hi : i + 6 < L) (hL : L ≤ 3584) {fr n len : Nat} (h : REL M fr n len) (hl : LR M) (kk : KEEP G b L xs i) : LL G b L xs i 249 [] M := by
  obtain ⟨t, ht, hg⟩ := h.g
  have e50 := h.same
  refine l_al1 dL_law_249 rfl ?_
  refine l_arg (k := 1) hi hL (by decide) dL_law_250 dL_law_251 dL_law_252 dL_law_253 dL_law_254 rfl rfl rfl ?_
  refine l_arg (k := 2) hi hL (by decide) dL_law_255 dL_law_256 dL_law_257 dL_law_258 dL_law_259 rfl rfl rfl ?_
  refine l_arg (k := 3) hi hL (by decide) dL_law_260 dL_law_261 dL_law_262 dL_law_263 dL_law_264 rfl rfl rfl ?_
  refine l_arg (k := 4) hi hL (by decide) dL_law_265 dL_law_266 dL_law_267 dL_law_268 dL_law_269 rfl rfl rfl ?_
  refine l_callV (T := TX6) (N := 7) (As := [.inl (xs (i + 1)), .inl (xs (i + 2)), .inl (xs (i + 3)), .inl (xs (i + 4))]) (rest := []) (ct_X6_setProbe h.frlt hg.nv.1 (xs (i + 1)) (xs (i + 2)) (xs (i + 3)) (xs (i + 4)) M h.free hg.bok hg.nv.2) cw_L_27 mi_X6_setProbe se_X6_setProbe rfl rfl rfl rfl (by decide) (by decide) (by simp) rfl dL_law_270 rfl (fun v M1 hv => ?_)
  obtain ⟨rfl, rfl⟩ := hv
  have e51 := h.e50 (prbR (M 0) (xs (i + 1)) (xs (i + 2)) (xs (i + 3)) (xs (i + 4))) (prbF (M 0) (xs (i + 1)) (xs (i + 2)) (xs (i + 3)) (xs (i + 4)))
  have h6 := (congrFun (edM_hi h.free h.frlt (prbR (M 0) (xs (i + 1)) (xs (i + 2)) (xs (i + 3)) (xs (i + 4))) (prbF (M 0) (xs (i + 1)) (xs (i + 2)) (xs (i + 3)) (xs (i + 4))) (by decide : 21 ≤ 60)) 0).trans h.num2
  have c2 := ct_X7_setProbe h.num3 hg.nv.1 (xs (i + 1)) (xs (i + 2)) (xs (i + 3)) (xs (i + 4)) _ h6 (by rw [e51]; exact hg.nv.2)
  rw [e51] at c2
  refine l_al2 dL_law_273 rfl ?_
  refine l_arg (k := 1) hi hL (by decide) dL_law_274 dL_law_275 dL_law_276 dL_law_277 dL_law_278 rfl rfl rfl ?_
  refine l_arg (k := 2) hi hL (by decide) dL_law_279 dL_law_280 dL_law_281 dL_law_282 dL_law_283 rfl rfl rfl ?_
  refine l_arg (k := 3) hi hL (by decide) dL_law_284 dL_law_285 dL_law_286 dL_law_287 dL_law_288 rfl rfl rfl ?_
  refine l_arg (k := 4) hi hL (by decide) dL_law_289 dL_law_290 dL_law_291 dL_law_292 dL_law_293 rfl rfl rfl ?_
  refine l_callV (T := TX7) (N := 12) (As := [.inl (xs (i + 1)), .inl (xs (i + 2)), .inl (xs (i + 3)), .inl (xs (i + 4))]) (rest := [.inl (prbR (M 0) (xs (i + 1)) (xs (i + 2)) (xs (i + 3)) (xs (i + 4)))]) (c2) cw_L_31 mi_X7_setProbe se_X7_setProbe rfl rfl rfl rfl (by decide) (by decide) (by simp) rfl dL_law_294 rfl (fun v' M2 hv' => ?_)
  obtain ⟨rfl, rfl⟩ := hv'
  obtain ⟨fr2, n2, h2, hl2⟩ := st_setProbe h hl (xs (i + 1)) (xs (i + 2)) (xs (i + 3)) (xs (i + 4))
  refine l_eq dL_law_297 (by decide) rfl ?_
  exact kk _ _ _ _ h2 hl2
set_option maxHeartbeats 2000000 in
theorem lc_repair (hi : i + 6 < L) (hL : L ≤ 3584) {fr n len : Nat} (h : REL M fr n len) (hl : LR M) (kk : KEEP G b L xs i) : LL G b L xs i 302 [] M := by
  obtain ⟨t, ht, hg⟩ := h.g
  have e50 := h.same
  refine l_al1 dL_law_302 rfl ?_
  refine l_arg (k := 1) hi hL (by decide) dL_law_303 dL_law_304 dL_law_305 dL_law_306 dL_law_307 rfl rfl rfl ?_
  refine l_arg (k := 2) hi hL (by decide) dL_law_308 dL_law_309 dL_law_310 dL_law_311 dL_law_312 rfl rfl rfl ?_
  refine l_callV (T := TX6) (N := 7) (As := [.inl (xs (i + 1)), .inl (xs (i + 2))]) (rest := []) (ct_X6_repair h.frlt hg.nv.1 (xs (i + 1)) (xs (i + 2)) M h.free hg.bok hg.nv.2) cw_L_32 mi_X6_repair se_X6_repair rfl rfl rfl rfl (by decide) (by decide) (by simp) rfl dL_law_313 rfl (fun v M1 hv => ?_)
  obtain ⟨rfl, rfl⟩ := hv
  have e51 := h.e50 (repR (M 0) (xs (i + 1)) (xs (i + 2))) (repF (M 0) (xs (i + 1)) (xs (i + 2)))
  have h6 := (congrFun (edM_hi h.free h.frlt (repR (M 0) (xs (i + 1)) (xs (i + 2))) (repF (M 0) (xs (i + 1)) (xs (i + 2))) (by decide : 21 ≤ 60)) 0).trans h.num2
  have c2 := ct_X7_repair h.num3 hg.nv.1 (xs (i + 1)) (xs (i + 2)) _ h6 (by rw [e51]; exact hg.nv.2) (by rw [e51]; exact hg.bok)
  rw [e51] at c2
  refine l_al2 dL_law_316 rfl ?_
  refine l_arg (k := 1) hi hL (by decide) dL_law_317 dL_law_318 dL_law_319 dL_law_320 dL_law_321 rfl rfl rfl ?_
  refine l_arg (k := 2) hi hL (by decide) dL_law_322 dL_law_323 dL_law_324 dL_law_325 dL_law_326 rfl rfl rfl ?_
  refine l_callV (T := TX7) (N := 12) (As := [.inl (xs (i + 1)), .inl (xs (i + 2))]) (rest := [.inl (repR (M 0) (xs (i + 1)) (xs (i + 2)))]) (c2) cw_L_35 mi_X7_repair se_X7_repair rfl rfl rfl rfl (by decide) (by decide) (by simp) rfl dL_law_327 rfl (fun v' M2 hv' => ?_)
  obtain ⟨rfl, rfl⟩ := hv'
  obtain ⟨fr2, n2, h2, hl2⟩ := st_repair h hl (xs (i + 1)) (xs (i + 2))
  refine l_eq dL_law_330 (by decide) rfl ?_
  exact kk _ _ _ _ h2 hl2
set_option maxHeartbeats 2000000 in
theorem lc_loadPallet (hi : i + 6 < L) (hL : L ≤ 3584) {fr n len : Nat} (h : REL M fr n len) (hl : LR M) (kk : KEEP G b L xs i) : LL G b L xs i 335 [] M := by
  obtain ⟨t, ht, hg⟩ := h.g
  have e50 := h.same
  refine l_al1 dL_law_335 rfl ?_
  refine l_arg (k := 1) hi hL (by decide) dL_law_336 dL_law_337 dL_law_338 dL_law_339 dL_law_340 rfl rfl rfl ?_
  refine l_arg (k := 2) hi hL (by decide) dL_law_341 dL_law_342 dL_law_343 dL_law_344 dL_law_345 rfl rfl rfl ?_
  refine l_arg (k := 3) hi hL (by decide) dL_law_346 dL_law_347 dL_law_348 dL_law_349 dL_law_350 rfl rfl rfl ?_
  refine l_arg (k := 4) hi hL (by decide) dL_law_351 dL_law_352 dL_law_353 dL_law_354 dL_law_355 rfl rfl rfl ?_
  refine l_arg (k := 5) hi hL (by decide) dL_law_356 dL_law_357 dL_law_358 dL_law_359 dL_law_360 rfl rfl rfl ?_
  refine l_callV (T := TX6) (N := 7) (As := [.inl (xs (i + 1)), .inl (xs (i + 2)), .inl (xs (i + 3)), .inl (xs (i + 4)), .inl (xs (i + 5))]) (rest := []) (ct_X6_loadPallet h.frlt hg.nv.1 hg.np.1 (xs (i + 1)) (xs (i + 2)) (xs (i + 3)) (xs (i + 4)) (xs (i + 5)) M h.free hg.bok hg.nv.2 hg.np.2) cw_L_36 mi_X6_loadPallet se_X6_loadPallet rfl rfl rfl rfl (by decide) (by decide) (by simp) rfl dL_law_361 rfl (fun v M1 hv => ?_)
  obtain ⟨rfl, rfl⟩ := hv
  have e51 := h.e50 (ldR (M 0) (xs (i + 1)) (xs (i + 2)) (xs (i + 3)) (xs (i + 4)) (xs (i + 5))) (ldF (M 0) (xs (i + 1)) (xs (i + 2)) (xs (i + 3)) (xs (i + 4)) (xs (i + 5)))
  have h6 := (congrFun (edM_hi h.free h.frlt (ldR (M 0) (xs (i + 1)) (xs (i + 2)) (xs (i + 3)) (xs (i + 4)) (xs (i + 5))) (ldF (M 0) (xs (i + 1)) (xs (i + 2)) (xs (i + 3)) (xs (i + 4)) (xs (i + 5))) (by decide : 21 ≤ 60)) 0).trans h.num2
  have c2 := ct_X7_loadPallet h.num3 hg.nv.1 hg.np.1 (xs (i + 1)) (xs (i + 2)) (xs (i + 3)) (xs (i + 4)) (xs (i + 5)) _ h6 (by rw [e51]; exact hg.nv.2) (by rw [e51]; exact hg.np.2) (by rw [e51]; exact h.good.2.1.qz)
  rw [e51] at c2
  refine l_al2 dL_law_364 rfl ?_
  refine l_arg (k := 1) hi hL (by decide) dL_law_365 dL_law_366 dL_law_367 dL_law_368 dL_law_369 rfl rfl rfl ?_
  refine l_arg (k := 2) hi hL (by decide) dL_law_370 dL_law_371 dL_law_372 dL_law_373 dL_law_374 rfl rfl rfl ?_
  refine l_arg (k := 3) hi hL (by decide) dL_law_375 dL_law_376 dL_law_377 dL_law_378 dL_law_379 rfl rfl rfl ?_
  refine l_arg (k := 4) hi hL (by decide) dL_law_380 dL_law_381 dL_law_382 dL_law_383 dL_law_384 rfl rfl rfl ?_
  refine l_arg (k := 5) hi hL (by decide) dL_law_385 dL_law_386 dL_law_387 dL_law_388 dL_law_389 rfl rfl rfl ?_
  refine l_callV (T := TX7) (N := 12) (As := [.inl (xs (i + 1)), .inl (xs (i + 2)), .inl (xs (i + 3)), .inl (xs (i + 4)), .inl (xs (i + 5))]) (rest := [.inl (ldR (M 0) (xs (i + 1)) (xs (i + 2)) (xs (i + 3)) (xs (i + 4)) (xs (i + 5)))]) (c2) cw_L_40 mi_X7_loadPallet se_X7_loadPallet rfl rfl rfl rfl (by decide) (by decide) (by simp) rfl dL_law_390 rfl (fun v' M2 hv' => ?_)
  obtain ⟨rfl, rfl⟩ := hv'
  obtain ⟨fr2, n2, h2, hl2⟩ := st_loadPallet h hl (xs (i + 1)) (xs (i + 2)) (xs (i + 3)) (xs (i + 4)) (xs (i + 5))
  refine l_eq dL_law_393 (by decide) rfl ?_
  exact kk _ _ _ _ h2 hl2
set_option maxHeartbeats 2000000 in
theorem lc_door (hi : i + 6 < L) (hL : L ≤ 3584) {fr n len : Nat} (h : REL M fr n len) (hl : LR M) (kk : KEEP G b L xs i) : LL G b L xs i 398 [] M := by
  obtain ⟨t, ht, hg⟩ := h.g
  have e50 := h.same
  refine l_al1 dL_law_398 rfl ?_
  refine l_arg (k := 1) hi hL (by decide) dL_law_399 dL_law_400 dL_law_401 dL_law_402 dL_law_403 rfl rfl rfl ?_
  refine l_arg (k := 2) hi hL (by decide) dL_law_404 dL_law_405 dL_law_406 dL_law_407 dL_law_408 rfl rfl rfl ?_
  refine l_callV (T := TX6) (N := 7) (As := [.inl (xs (i + 1)), .inl (xs (i + 2))]) (rest := []) (ct_X6_door h.frlt hg.nv.1 hg.np.1 (xs (i + 1)) (xs (i + 2)) M h.free hg.bok hg.nv.2 hg.np.2) cw_L_41 mi_X6_door se_X6_door rfl rfl rfl rfl (by decide) (by decide) (by simp) rfl dL_law_409 rfl (fun v M1 hv => ?_)
  obtain ⟨rfl, rfl⟩ := hv
  have e51 := h.e50 (drR (M 0) (xs (i + 1)) (xs (i + 2))) (drF (M 0) (xs (i + 1)) (xs (i + 2)))
  have h6 := (congrFun (edM_hi h.free h.frlt (drR (M 0) (xs (i + 1)) (xs (i + 2))) (drF (M 0) (xs (i + 1)) (xs (i + 2))) (by decide : 21 ≤ 60)) 0).trans h.num2
  have c2 := ct_X7_door h.num3 hg.nv.1 hg.np.1 (xs (i + 1)) (xs (i + 2)) _ h6 (by rw [e51]; exact hg.nv.2) (by rw [e51]; exact hg.np.2)
  rw [e51] at c2
  refine l_al2 dL_law_412 rfl ?_
  refine l_arg (k := 1) hi hL (by decide) dL_law_413 dL_law_414 dL_law_415 dL_law_416 dL_law_417 rfl rfl rfl ?_
  refine l_arg (k := 2) hi hL (by decide) dL_law_418 dL_law_419 dL_law_420 dL_law_421 dL_law_422 rfl rfl rfl ?_
  refine l_callV (T := TX7) (N := 12) (As := [.inl (xs (i + 1)), .inl (xs (i + 2))]) (rest := [.inl (drR (M 0) (xs (i + 1)) (xs (i + 2)))]) (c2) cw_L_44 mi_X7_door se_X7_door rfl rfl rfl rfl (by decide) (by decide) (by simp) rfl dL_law_423 rfl (fun v' M2 hv' => ?_)
  obtain ⟨rfl, rfl⟩ := hv'
  obtain ⟨fr2, n2, h2, hl2⟩ := st_door h hl (xs (i + 1)) (xs (i + 2))
  refine l_eq dL_law_426 (by decide) rfl ?_
  exact kk _ _ _ _ h2 hl2
set_option maxHeartbeats 2000000 in
theorem lc_pass (hi : i + 6 < L) (hL : L ≤ 3584) {fr n len : Nat} (h : REL M fr n len) (hl : LR M) (kk : KEEP G b L xs i) : LL G b L xs i 431 [] M := by
  obtain ⟨t, ht, hg⟩ := h.g
  have e50 := h.same
  refine l_al1 dL_law_431 rfl ?_
  refine l_arg (k := 1) hi hL (by decide) dL_law_432 dL_law_433 dL_law_434 dL_law_435 dL_law_436 rfl rfl rfl ?_
  refine l_callV (T := TX6) (N := 7) (As := [.inl (xs (i + 1))]) (rest := []) (ct_X6_pass h.frlt hg.nv.1 hg.np.1 ht (xs (i + 1)) M h.free hg.bok hg.sok hg.n2) cw_L_45 mi_X6_pass se_X6_pass rfl rfl rfl rfl (by decide) (by decide) (by simp) rfl dL_law_437 rfl (fun v M1 hv => ?_)
  obtain ⟨rfl, rfl⟩ := hv
  have hfr := h.frlt
  have h20 : vN (M 20 0) = fr := by rw [h.free]; exact vN_nI (by omega)
  have cn : ∀ r, 48 ≤ r → ktM (psM 0 (ntM M) (xs (i + 1))) (psR 0 (ntM M) (xs (i + 1))) r = M r := fun r hr => by rw [ktM_ne _ _ (by omega), psM_ne _ _ (by rw [ntM_0]; exact hg.nv.1) (Or.inr hr) (by omega), ntM_ne _ (by rw [h20]; omega)]
  have e51 := (cn 50 (by decide)).trans h.same
  have h6 := (congrFun (cn 60 (by decide)) 0).trans h.num2
  have h61 := (congrFun (cn 60 (by decide)) 1).trans h.real
  have c2 := ct_X7_pass h.num3 hg.nv.1 hg.np.1 ht (xs (i + 1)) _ h6 (by rw [e51]; exact hg.nv.2) (by rw [e51]; exact hg.np.2) (by rw [e51]; exact ⟨_, hg⟩) h61
  refine l_al2 dL_law_440 rfl ?_
  refine l_arg (k := 1) hi hL (by decide) dL_law_441 dL_law_442 dL_law_443 dL_law_444 dL_law_445 rfl rfl rfl ?_
  refine l_callV (T := TX7) (N := 12) (As := [.inl (xs (i + 1))]) (rest := [.inl (psR 0 (ntM M) (xs (i + 1)))]) (c2) cw_L_49 mi_X7_pass se_X7_pass rfl rfl rfl rfl (by decide) (by decide) (by simp) rfl dL_law_446 rfl (fun v' M2 hv' => ?_)
  obtain ⟨rfl, rfl⟩ := hv'
  obtain ⟨er, fr2, n2, h2, hl2⟩ := st_pass h hl (xs (i + 1))
  refine l_eq dL_law_449 (by decide) er.symm ?_
  exact kk _ _ _ _ h2 hl2
set_option maxHeartbeats 2000000 in
theorem lc_deliver (hi : i + 6 < L) (hL : L ≤ 3584) {fr n len : Nat} (h : REL M fr n len) (hl : LR M) (kk : KEEP G b L xs i) : LL G b L xs i 454 [] M := by
  obtain ⟨t, ht, hg⟩ := h.g
  have e50 := h.same
  refine l_al1 dL_law_454 rfl ?_
  refine l_arg (k := 1) hi hL (by decide) dL_law_455 dL_law_456 dL_law_457 dL_law_458 dL_law_459 rfl rfl rfl ?_
  refine l_callV (T := TX6) (N := 7) (As := [.inl (xs (i + 1))]) (rest := []) (ct_X6_deliver h.frlt hg.np.1 (xs (i + 1)) M h.free hg.bok hg.np.2 hg.vok) cw_L_50 mi_X6_deliver se_X6_deliver rfl rfl rfl rfl (by decide) (by decide) (by simp) rfl dL_law_460 rfl (fun v M1 hv => ?_)
  obtain ⟨rfl, rfl⟩ := hv
  have e51 := h.e50 (dlR (M 0) (xs (i + 1))) (dlF (M 0) (xs (i + 1)))
  have h6 := (congrFun (edM_hi h.free h.frlt (dlR (M 0) (xs (i + 1))) (dlF (M 0) (xs (i + 1))) (by decide : 21 ≤ 60)) 0).trans h.num2
  have c2 := ct_X7_deliver h.num3 hg.np.1 (xs (i + 1)) _ h6 (by rw [e51]; exact hg.np.2) (by rw [e51]; exact hg.vok)
  rw [e51] at c2
  refine l_al2 dL_law_463 rfl ?_
  refine l_arg (k := 1) hi hL (by decide) dL_law_464 dL_law_465 dL_law_466 dL_law_467 dL_law_468 rfl rfl rfl ?_
  refine l_callV (T := TX7) (N := 12) (As := [.inl (xs (i + 1))]) (rest := [.inl (dlR (M 0) (xs (i + 1)))]) (c2) cw_L_53 mi_X7_deliver se_X7_deliver rfl rfl rfl rfl (by decide) (by decide) (by simp) rfl dL_law_469 rfl (fun v' M2 hv' => ?_)
  obtain ⟨rfl, rfl⟩ := hv'
  obtain ⟨fr2, n2, h2, hl2⟩ := st_deliver h hl (xs (i + 1))
  refine l_eq dL_law_472 (by decide) rfl ?_
  exact kk _ _ _ _ h2 hl2
set_option maxHeartbeats 2000000 in
theorem lc_detour (hi : i + 6 < L) (hL : L ≤ 3584) {fr n len : Nat} (h : REL M fr n len) (hl : LR M) (kk : KEEP G b L xs i) : LL G b L xs i 477 [] M := by
  obtain ⟨t, ht, hg⟩ := h.g
  have e50 := h.same
  refine l_al1 dL_law_477 rfl ?_
  refine l_arg (k := 1) hi hL (by decide) dL_law_478 dL_law_479 dL_law_480 dL_law_481 dL_law_482 rfl rfl rfl ?_
  refine l_arg (k := 2) hi hL (by decide) dL_law_483 dL_law_484 dL_law_485 dL_law_486 dL_law_487 rfl rfl rfl ?_
  refine l_callV (T := TX6) (N := 7) (As := [.inl (xs (i + 1)), .inl (xs (i + 2))]) (rest := []) (ct_X6_detour h.frlt hg.np.1 (xs (i + 1)) (xs (i + 2)) M h.free hg.bok hg.np.2) cw_L_54 mi_X6_detour se_X6_detour rfl rfl rfl rfl (by decide) (by decide) (by simp) rfl dL_law_488 rfl (fun v M1 hv => ?_)
  obtain ⟨rfl, rfl⟩ := hv
  have e51 := h.e50 (dtR (M 0) (xs (i + 1)) (xs (i + 2))) (dtF (M 0) (xs (i + 1)) (xs (i + 2)))
  have h6 := (congrFun (edM_hi h.free h.frlt (dtR (M 0) (xs (i + 1)) (xs (i + 2))) (dtF (M 0) (xs (i + 1)) (xs (i + 2))) (by decide : 21 ≤ 60)) 0).trans h.num2
  have c2 := ct_X7_detour hg.np.1 h.num3 (xs (i + 1)) (xs (i + 2)) _ (by rw [e51]; exact hg.np.2) h6
  rw [e51] at c2
  refine l_al2 dL_law_491 rfl ?_
  refine l_arg (k := 1) hi hL (by decide) dL_law_492 dL_law_493 dL_law_494 dL_law_495 dL_law_496 rfl rfl rfl ?_
  refine l_arg (k := 2) hi hL (by decide) dL_law_497 dL_law_498 dL_law_499 dL_law_500 dL_law_501 rfl rfl rfl ?_
  refine l_callV (T := TX7) (N := 12) (As := [.inl (xs (i + 1)), .inl (xs (i + 2))]) (rest := [.inl (dtR (M 0) (xs (i + 1)) (xs (i + 2)))]) (c2) cw_L_57 mi_X7_detour se_X7_detour rfl rfl rfl rfl (by decide) (by decide) (by simp) rfl dL_law_502 rfl (fun v' M2 hv' => ?_)
  obtain ⟨rfl, rfl⟩ := hv'
  obtain ⟨er, fr2, n2, h2, hl2⟩ := st_detour h hl (xs (i + 1)) (xs (i + 2))
  refine l_eq dL_law_505 (by decide) er.symm ?_
  exact kk _ _ _ _ h2 hl2
set_option maxHeartbeats 2000000 in
theorem lc_appendCharacter (hi : i + 6 < L) (hL : L ≤ 3584) {fr n len : Nat} (h : REL M fr n len) (hl : LR M) (kk : KEEP G b L xs i) : LL G b L xs i 510 [] M := by
  obtain ⟨t, ht, hg⟩ := h.g
  have e50 := h.same
  refine l_al1 dL_law_510 rfl ?_
  refine l_arg (k := 1) hi hL (by decide) dL_law_511 dL_law_512 dL_law_513 dL_law_514 dL_law_515 rfl rfl rfl ?_
  refine l_callV (T := TX6) (N := 7) (As := [.inl (xs (i + 1))]) (rest := []) (ct_X6_appendCharacter h.len3 (xs (i + 1)) M h.len1) cw_L_58 mi_X6_appendCharacter se_X6_appendCharacter rfl rfl rfl rfl (by decide) (by decide) (by simp) rfl dL_law_516 rfl (fun v M1 hv => ?_)
  obtain ⟨rfl, rfl⟩ := hv
  have c2 := ct_X7_appendCharacter h.len3 (xs (i + 1)) (apM M len (xs (i + 1))) (ap_len h (xs (i + 1)))
  refine l_al2 dL_law_519 rfl ?_
  refine l_arg (k := 1) hi hL (by decide) dL_law_520 dL_law_521 dL_law_522 dL_law_523 dL_law_524 rfl rfl rfl ?_
  refine l_callV (T := TX7) (N := 12) (As := [.inl (xs (i + 1))]) (rest := [.inl (apR len (xs (i + 1)))]) (c2) cw_L_61 mi_X7_appendCharacter se_X7_appendCharacter rfl rfl rfl rfl (by decide) (by decide) (by simp) rfl dL_law_525 rfl (fun v' M2 hv' => ?_)
  obtain ⟨rfl, rfl⟩ := hv'
  obtain ⟨len2, h2, hl2⟩ := st_append h hl (xs (i + 1))
  refine l_eq dL_law_528 (by decide) rfl ?_
  exact kk _ _ _ _ h2 hl2
set_option maxHeartbeats 2000000 in
theorem lc_clearText (hi : i + 6 < L) (hL : L ≤ 3584) {fr n len : Nat} (h : REL M fr n len) (hl : LR M) (kk : KEEP G b L xs i) : LL G b L xs i 533 [] M := by
  obtain ⟨t, ht, hg⟩ := h.g
  have e50 := h.same
  refine l_al1 dL_law_533 rfl ?_
  refine l_callV (T := TX6) (N := 7) (As := []) (rest := []) (ct_X6_clearText M) cw_L_62 mi_X6_clearText se_X6_clearText rfl rfl rfl rfl (by decide) (by decide) (by simp) rfl dL_law_534 rfl (fun v M1 hv => ?_)
  obtain ⟨rfl, rfl⟩ := hv
  refine l_al2 dL_law_537 rfl ?_
  refine l_callV (T := TX7) (N := 12) (As := []) (rest := [.inl (M 21 0)]) (ct_X7_clearText _) cw_L_66 mi_X7_clearText se_X7_clearText rfl rfl rfl rfl (by decide) (by decide) (by simp) rfl dL_law_538 rfl (fun v' M2 hv' => ?_)
  obtain ⟨rfl, rfl⟩ := hv'
  obtain ⟨er, h2, hl2⟩ := st_clear h hl
  refine l_eq dL_law_541 (by decide) er.symm ?_
  exact kk _ _ _ _ h2 hl2
set_option maxHeartbeats 2000000 in
theorem lc_runScript (hi : i + 6 < L) (hL : L ≤ 3584) {fr n len : Nat} (h : REL M fr n len) (hl : LR M) (kk : KEEP G b L xs i) : LL G b L xs i 546 [] M := by
  obtain ⟨t, ht, hg⟩ := h.g
  have e50 := h.same
  refine l_al1 dL_law_546 rfl ?_
  refine l_callV (T := TX6) (N := 7) (As := []) (rest := []) (ct_X6_runScript h.frlt h.len3 M h.free h.len1 h.good.1) cw_L_67 mi_X6_runScript se_X6_runScript rfl rfl rfl rfl (by decide) (by decide) (by simp) rfl dL_law_547 rfl (fun v M1 hv => ?_)
  obtain ⟨⟨a, rfl⟩, hh⟩ := rsQ_hi h hv
  have c2 := ct_X7_runScript h.len3 h.num3 M1 ((congrFun (hh 60 (by decide)) 2).trans h.len2) ((congrFun (hh 60 (by decide)) 0).trans h.num2) ((congrFun (hh 60 (by decide)) 1).trans h.real) (by rw [hh 50 (by decide), e50]; exact h.good.1)
  refine l_al2 dL_law_550 rfl ?_
  refine l_callV (T := TX7) (N := 12) (As := []) (rest := [.inl a]) (c2) cw_L_70 mi_X7_runScript se_X7_runScript rfl rfl rfl rfl (by decide) (by decide) (by simp) rfl dL_law_551 rfl (fun v' M2 hv' => ?_)
  rcases read_same h hv (hh 55 (by decide)) hv' with ⟨c, rfl, -, ho, h21, ho2, h62⟩ | ⟨c, R1, hc80, hok, r21, ho, ha, hva, hM1, hz⟩
  · obtain ⟨h2, hl2⟩ := h.wrong hl ho h21 ho2 h62
    refine l_eq dL_law_554 (by decide) rfl ?_
    exact kk _ _ _ _ h2 hl2
  · have hr : some (.inl a) = v' ∧ ∃ F fr' n' len', (∀ i, i < 183 → M2 50 i = F i) ∧ REL (setR M2 50 F) fr' n' len' ∧ LR (setR M2 50 F) := by
      cases hj : (exL c 0 (ntM R1)).1 with
      | none => exact st_run_ok h hl hok hc80 r21 ho ha hva hM1 hz hj
      | some j => exact st_run_fail h hl hok hc80 r21 ho ha hva hM1 hz hj
    obtain ⟨rfl, F, fr2, n2, len2, hF, h2, hl2⟩ := hr
    refine l_eq dL_law_554 (by decide) rfl ?_
    refine l_ext50 (M9 := setR M2 50 F) (fun r hr => (setR_ne _ _ hr).symm) (fun i hi => by rw [setR_same]; exact hF i hi) ?_
    exact kk _ _ _ _ h2 hl2
set_option maxHeartbeats 2000000 in
theorem lc_count (hi : i + 6 < L) (hL : L ≤ 3584) {fr n len : Nat} (h : REL M fr n len) (hl : LR M) (kk : KEEP G b L xs i) : LL G b L xs i 559 [] M := by
  obtain ⟨t, ht, hg⟩ := h.g
  have e50 := h.same
  refine l_al1 dL_law_559 rfl ?_
  refine l_arg (k := 1) hi hL (by decide) dL_law_560 dL_law_561 dL_law_562 dL_law_563 dL_law_564 rfl rfl rfl ?_
  refine l_callV (T := TX6) (N := 7) (As := [.inl (xs (i + 1))]) (rest := []) (ct_X6_count hg.nv.1 (xs (i + 1)) M hg.nv.2) cw_L_71 mi_X6_count se_X6_count rfl rfl rfl rfl (by decide) (by decide) (by simp) rfl dL_law_565 rfl (fun v M1 hv => ?_)
  obtain ⟨rfl, hM1⟩ := hv
  rw [hM1]
  have c2 := ct_X7_count hg.nv.1 (xs (i + 1)) M (by rw [e50]; exact hg.nv.2) (by rw [e50]; exact hg.bok)
  refine l_al2 dL_law_568 rfl ?_
  refine l_arg (k := 1) hi hL (by decide) dL_law_569 dL_law_570 dL_law_571 dL_law_572 dL_law_573 rfl rfl rfl ?_
  refine l_callV (T := TX7) (N := 12) (As := [.inl (xs (i + 1))]) (rest := [.inl (cntS M (xs (i + 1)))]) (c2) cw_L_74 mi_X7_count se_X7_count rfl rfl rfl rfl (by decide) (by decide) (by simp) rfl dL_law_574 rfl (fun v' M2 hv' => ?_)
  obtain ⟨rfl, hM2⟩ := hv'
  rw [hM2]
  refine l_eq dL_law_577 (by decide) (cnt_same h _) ?_
  exact kk _ _ _ _ h hl
set_option maxHeartbeats 2000000 in
theorem lc_van (hi : i + 6 < L) (hL : L ≤ 3584) {fr n len : Nat} (h : REL M fr n len) (hl : LR M) (kk : KEEP G b L xs i) : LL G b L xs i 582 [] M := by
  obtain ⟨t, ht, hg⟩ := h.g
  have e50 := h.same
  refine l_al1 dL_law_582 rfl ?_
  refine l_arg (k := 1) hi hL (by decide) dL_law_583 dL_law_584 dL_law_585 dL_law_586 dL_law_587 rfl rfl rfl ?_
  refine l_arg (k := 2) hi hL (by decide) dL_law_588 dL_law_589 dL_law_590 dL_law_591 dL_law_592 rfl rfl rfl ?_
  refine l_callV (T := TX6) (N := 7) (As := [.inl (xs (i + 1)), .inl (xs (i + 2))]) (rest := []) (ct_X6_van hg.nv.1 hg.np.1 (xs (i + 1)) (xs (i + 2)) M hg.nv.2 hg.np.2) cw_L_75 mi_X6_van se_X6_van rfl rfl rfl rfl (by decide) (by decide) (by simp) rfl dL_law_593 rfl (fun v M1 hv => ?_)
  obtain ⟨rfl, hM1⟩ := hv
  rw [hM1]
  have c2 := ct_X7_van hg.nv.1 hg.np.1 (xs (i + 1)) (xs (i + 2)) M (by rw [e50]; exact hg.nv.2) (by rw [e50]; exact hg.np.2) (by rw [e50]; exact hg.bok)
  rw [e50] at c2
  refine l_al2 dL_law_596 rfl ?_
  refine l_arg (k := 1) hi hL (by decide) dL_law_597 dL_law_598 dL_law_599 dL_law_600 dL_law_601 rfl rfl rfl ?_
  refine l_arg (k := 2) hi hL (by decide) dL_law_602 dL_law_603 dL_law_604 dL_law_605 dL_law_606 rfl rfl rfl ?_
  refine l_callV (T := TX7) (N := 12) (As := [.inl (xs (i + 1)), .inl (xs (i + 2))]) (rest := [.inl (vqS (M 0) (xs (i + 1)) (xs (i + 2)))]) (c2) cw_L_78 mi_X7_van se_X7_van rfl rfl rfl rfl (by decide) (by decide) (by simp) rfl dL_law_607 rfl (fun v' M2 hv' => ?_)
  obtain ⟨rfl, hM2⟩ := hv'
  rw [hM2]
  refine l_eq dL_law_610 (by decide) rfl ?_
  exact kk _ _ _ _ h hl
set_option maxHeartbeats 2000000 in
theorem lc_zone (hi : i + 6 < L) (hL : L ≤ 3584) {fr n len : Nat} (h : REL M fr n len) (hl : LR M) (kk : KEEP G b L xs i) : LL G b L xs i 615 [] M := by
  obtain ⟨t, ht, hg⟩ := h.g
  have e50 := h.same
  refine l_al1 dL_law_615 rfl ?_
  refine l_arg (k := 1) hi hL (by decide) dL_law_616 dL_law_617 dL_law_618 dL_law_619 dL_law_620 rfl rfl rfl ?_
  refine l_arg (k := 2) hi hL (by decide) dL_law_621 dL_law_622 dL_law_623 dL_law_624 dL_law_625 rfl rfl rfl ?_
  refine l_arg (k := 3) hi hL (by decide) dL_law_626 dL_law_627 dL_law_628 dL_law_629 dL_law_630 rfl rfl rfl ?_
  refine l_callV (T := TX6) (N := 7) (As := [.inl (xs (i + 1)), .inl (xs (i + 2)), .inl (xs (i + 3))]) (rest := []) (ct_X6_zone hg.nv.1 (xs (i + 1)) (xs (i + 2)) (xs (i + 3)) M hg.nv.2) cw_L_79 mi_X6_zone se_X6_zone rfl rfl rfl rfl (by decide) (by decide) (by simp) rfl dL_law_631 rfl (fun v M1 hv => ?_)
  obtain ⟨rfl, hM1⟩ := hv
  rw [hM1]
  have c2 := ct_X7_zone hg.nv.1 (xs (i + 1)) (xs (i + 2)) (xs (i + 3)) M (by rw [e50]; exact hg.nv.2) (by rw [e50]; exact hg.bok)
  rw [e50] at c2
  refine l_al2 dL_law_634 rfl ?_
  refine l_arg (k := 1) hi hL (by decide) dL_law_635 dL_law_636 dL_law_637 dL_law_638 dL_law_639 rfl rfl rfl ?_
  refine l_arg (k := 2) hi hL (by decide) dL_law_640 dL_law_641 dL_law_642 dL_law_643 dL_law_644 rfl rfl rfl ?_
  refine l_arg (k := 3) hi hL (by decide) dL_law_645 dL_law_646 dL_law_647 dL_law_648 dL_law_649 rfl rfl rfl ?_
  refine l_callV (T := TX7) (N := 12) (As := [.inl (xs (i + 1)), .inl (xs (i + 2)), .inl (xs (i + 3))]) (rest := [.inl (zqS (M 0) (xs (i + 1)) (xs (i + 2)) (xs (i + 3)))]) (c2) cw_L_82 mi_X7_zone se_X7_zone rfl rfl rfl rfl (by decide) (by decide) (by simp) rfl dL_law_650 rfl (fun v' M2 hv' => ?_)
  obtain ⟨rfl, hM2⟩ := hv'
  rw [hM2]
  refine l_eq dL_law_653 (by decide) rfl ?_
  exact kk _ _ _ _ h hl
set_option maxHeartbeats 2000000 in
theorem lc_pallet (hi : i + 6 < L) (hL : L ≤ 3584) {fr n len : Nat} (h : REL M fr n len) (hl : LR M) (kk : KEEP G b L xs i) : LL G b L xs i 658 [] M := by
  obtain ⟨t, ht, hg⟩ := h.g
  have e50 := h.same
  refine l_al1 dL_law_658 rfl ?_
  refine l_arg (k := 1) hi hL (by decide) dL_law_659 dL_law_660 dL_law_661 dL_law_662 dL_law_663 rfl rfl rfl ?_
  refine l_arg (k := 2) hi hL (by decide) dL_law_664 dL_law_665 dL_law_666 dL_law_667 dL_law_668 rfl rfl rfl ?_
  refine l_callV (T := TX6) (N := 7) (As := [.inl (xs (i + 1)), .inl (xs (i + 2))]) (rest := []) (ct_X6_pallet hg.np.1 (xs (i + 1)) (xs (i + 2)) M hg.np.2) cw_L_83 mi_X6_pallet se_X6_pallet rfl rfl rfl rfl (by decide) (by decide) (by simp) rfl dL_law_669 rfl (fun v M1 hv => ?_)
  obtain ⟨rfl, hM1⟩ := hv
  rw [hM1]
  have c2 := ct_X7_pallet hg.np.1 (xs (i + 1)) (xs (i + 2)) M (by rw [e50]; exact hg.np.2) (by rw [e50]; exact ⟨_, _, hg⟩)
  rw [e50] at c2
  refine l_al2 dL_law_672 rfl ?_
  refine l_arg (k := 1) hi hL (by decide) dL_law_673 dL_law_674 dL_law_675 dL_law_676 dL_law_677 rfl rfl rfl ?_
  refine l_arg (k := 2) hi hL (by decide) dL_law_678 dL_law_679 dL_law_680 dL_law_681 dL_law_682 rfl rfl rfl ?_
  refine l_callV (T := TX7) (N := 12) (As := [.inl (xs (i + 1)), .inl (xs (i + 2))]) (rest := [.inl (pqS (M 0) (xs (i + 1)) (xs (i + 2)))]) (c2) cw_L_86 mi_X7_pallet se_X7_pallet rfl rfl rfl rfl (by decide) (by decide) (by simp) rfl dL_law_683 rfl (fun v' M2 hv' => ?_)
  obtain ⟨rfl, hM2⟩ := hv'
  rw [hM2]
  refine l_eq dL_law_686 (by decide) rfl ?_
  exact kk _ _ _ _ h hl
set_option maxHeartbeats 2000000 in
theorem lc_claims (hi : i + 6 < L) (hL : L ≤ 3584) {fr n len : Nat} (h : REL M fr n len) (hl : LR M) (kk : KEEP G b L xs i) : LL G b L xs i 691 [] M := by
  obtain ⟨t, ht, hg⟩ := h.g
  have e50 := h.same
  refine l_al1 dL_law_691 rfl ?_
  refine l_arg (k := 1) hi hL (by decide) dL_law_692 dL_law_693 dL_law_694 dL_law_695 dL_law_696 rfl rfl rfl ?_
  refine l_callV (T := TX6) (N := 7) (As := [.inl (xs (i + 1))]) (rest := []) (ct_X6_claims hg.np.1 (xs (i + 1)) M hg.np.2) cw_L_87 mi_X6_claims se_X6_claims rfl rfl rfl rfl (by decide) (by decide) (by simp) rfl dL_law_697 rfl (fun v M1 hv => ?_)
  obtain ⟨rfl, hM1⟩ := hv
  rw [hM1]
  have c2 := ct_X7_claims hg.np.1 (xs (i + 1)) M (by rw [e50]; exact hg.np.2) (by rw [e50]; exact ⟨_, _, hg⟩)
  rw [e50] at c2
  refine l_al2 dL_law_700 rfl ?_
  refine l_arg (k := 1) hi hL (by decide) dL_law_701 dL_law_702 dL_law_703 dL_law_704 dL_law_705 rfl rfl rfl ?_
  refine l_callV (T := TX7) (N := 12) (As := [.inl (xs (i + 1))]) (rest := [.inl (clmS (M 0) (xs (i + 1)))]) (c2) cw_L_90 mi_X7_claims se_X7_claims rfl rfl rfl rfl (by decide) (by decide) (by simp) rfl dL_law_706 rfl (fun v' M2 hv' => ?_)
  obtain ⟨rfl, hM2⟩ := hv'
  rw [hM2]
  refine l_eq dL_law_709 (by decide) rfl ?_
  exact kk _ _ _ _ h hl
set_option maxHeartbeats 2000000 in
theorem lc_log (hi : i + 6 < L) (hL : L ≤ 3584) {fr n len : Nat} (h : REL M fr n len) (hl : LR M) (kk : KEEP G b L xs i) : LL G b L xs i 714 [] M := by
  obtain ⟨t, ht, hg⟩ := h.g
  have e50 := h.same
  refine l_al1 dL_law_714 rfl ?_
  refine l_arg (k := 1) hi hL (by decide) dL_law_715 dL_law_716 dL_law_717 dL_law_718 dL_law_719 rfl rfl rfl ?_
  refine l_arg (k := 2) hi hL (by decide) dL_law_720 dL_law_721 dL_law_722 dL_law_723 dL_law_724 rfl rfl rfl ?_
  refine l_arg (k := 3) hi hL (by decide) dL_law_725 dL_law_726 dL_law_727 dL_law_728 dL_law_729 rfl rfl rfl ?_
  refine l_arg (k := 4) hi hL (by decide) dL_law_730 dL_law_731 dL_law_732 dL_law_733 dL_law_734 rfl rfl rfl ?_
  refine l_callV (T := TX6) (N := 7) (As := [.inl (xs (i + 1)), .inl (xs (i + 2)), .inl (xs (i + 3)), .inl (xs (i + 4))]) (rest := []) (ct_X6_log hg.nv.1 ht (xs (i + 1)) (xs (i + 2)) (xs (i + 3)) (xs (i + 4)) M hg.nv.2 hg.n2 (fun v hv => hg.since hv)) cw_L_91 mi_X6_log se_X6_log rfl rfl rfl rfl (by decide) (by decide) (by simp) rfl dL_law_735 rfl (fun v M1 hv => ?_)
  obtain ⟨rfl, hM1⟩ := hv
  rw [hM1]
  have c2 := ct_X7_log hg.nv.1 ht (xs (i + 1)) (xs (i + 2)) (xs (i + 3)) (xs (i + 4)) M (by rw [e50]; exact hg.nv.2) (by rw [e50]; exact hg.n2) h.logs
  refine l_al2 dL_law_738 rfl ?_
  refine l_arg (k := 1) hi hL (by decide) dL_law_739 dL_law_740 dL_law_741 dL_law_742 dL_law_743 rfl rfl rfl ?_
  refine l_arg (k := 2) hi hL (by decide) dL_law_744 dL_law_745 dL_law_746 dL_law_747 dL_law_748 rfl rfl rfl ?_
  refine l_arg (k := 3) hi hL (by decide) dL_law_749 dL_law_750 dL_law_751 dL_law_752 dL_law_753 rfl rfl rfl ?_
  refine l_arg (k := 4) hi hL (by decide) dL_law_754 dL_law_755 dL_law_756 dL_law_757 dL_law_758 rfl rfl rfl ?_
  refine l_callV (T := TX7) (N := 12) (As := [.inl (xs (i + 1)), .inl (xs (i + 2)), .inl (xs (i + 3)), .inl (xs (i + 4))]) (rest := [.inl (logS M (xs (i + 1)) (xs (i + 2)) (xs (i + 3)) (xs (i + 4)))]) (c2) cw_L_94 mi_X7_log se_X7_log rfl rfl rfl rfl (by decide) (by decide) (by simp) rfl dL_law_759 rfl (fun v' M2 hv' => ?_)
  obtain ⟨rfl, hM2⟩ := hv'
  rw [hM2]
  refine l_eq dL_law_762 (by decide) (log_same h.same _ _ _ _).symm ?_
  exact kk _ _ _ _ h hl
set_option maxHeartbeats 2000000 in
theorem lc_warm (hi : i + 6 < L) (hL : L ≤ 3584) {fr n len : Nat} (h : REL M fr n len) (hl : LR M) (kk : KEEP G b L xs i) : LL G b L xs i 767 [] M := by
  obtain ⟨t, ht, hg⟩ := h.g
  have e50 := h.same
  refine l_al1 dL_law_767 rfl ?_
  refine l_arg (k := 1) hi hL (by decide) dL_law_768 dL_law_769 dL_law_770 dL_law_771 dL_law_772 rfl rfl rfl ?_
  refine l_arg (k := 2) hi hL (by decide) dL_law_773 dL_law_774 dL_law_775 dL_law_776 dL_law_777 rfl rfl rfl ?_
  refine l_arg (k := 3) hi hL (by decide) dL_law_778 dL_law_779 dL_law_780 dL_law_781 dL_law_782 rfl rfl rfl ?_
  refine l_arg (k := 4) hi hL (by decide) dL_law_783 dL_law_784 dL_law_785 dL_law_786 dL_law_787 rfl rfl rfl ?_
  refine l_arg (k := 5) hi hL (by decide) dL_law_788 dL_law_789 dL_law_790 dL_law_791 dL_law_792 rfl rfl rfl ?_
  refine l_arg6 (k := 6) hi hL (by decide) dL_law_793 dL_law_794 dL_law_795 dL_law_797 dL_law_798 rfl rfl rfl ?_
  refine l_callV (T := TX6) (N := 7) (As := [.inl (xs (i + 1)), .inl (xs (i + 2)), .inl (xs (i + 3)), .inl (xs (i + 4)), .inl (xs (i + 5)), .inl (xs (i + 6))]) (rest := []) (ct_X6_warm hg.nv.1 ht (xs (i + 1)) (xs (i + 2)) (xs (i + 3)) (xs (i + 4)) (xs (i + 5)) (xs (i + 6)) M hg.nv.2 hg.n2 (fun v hv => hg.since hv)) cw_L_95 mi_X6_warm se_X6_warm rfl rfl rfl rfl (by decide) (by decide) (by simp) rfl dL_law_799 rfl (fun v M1 hv => ?_)
  obtain ⟨rfl, hM1⟩ := hv
  rw [hM1]
  have c2 := ct_X7_warm hg.nv.1 ht (xs (i + 1)) (xs (i + 2)) (xs (i + 3)) (xs (i + 4)) (xs (i + 5)) (xs (i + 6)) M (by rw [e50]; exact hg.nv.2) (by rw [e50]; exact hg.n2) h.logs
  refine l_al2 dL_law_802 rfl ?_
  refine l_arg (k := 1) hi hL (by decide) dL_law_803 dL_law_804 dL_law_805 dL_law_806 dL_law_807 rfl rfl rfl ?_
  refine l_arg (k := 2) hi hL (by decide) dL_law_808 dL_law_809 dL_law_810 dL_law_811 dL_law_812 rfl rfl rfl ?_
  refine l_arg (k := 3) hi hL (by decide) dL_law_813 dL_law_814 dL_law_815 dL_law_816 dL_law_817 rfl rfl rfl ?_
  refine l_arg (k := 4) hi hL (by decide) dL_law_818 dL_law_819 dL_law_820 dL_law_821 dL_law_822 rfl rfl rfl ?_
  refine l_arg (k := 5) hi hL (by decide) dL_law_823 dL_law_824 dL_law_825 dL_law_826 dL_law_827 rfl rfl rfl ?_
  refine l_arg6 (k := 6) hi hL (by decide) dL_law_828 dL_law_829 dL_law_830 dL_law_832 dL_law_833 rfl rfl rfl ?_
  refine l_callV (T := TX7) (N := 12) (As := [.inl (xs (i + 1)), .inl (xs (i + 2)), .inl (xs (i + 3)), .inl (xs (i + 4)), .inl (xs (i + 5)), .inl (xs (i + 6))]) (rest := [.inl (wrmS M (xs (i + 1)) (xs (i + 2)) (xs (i + 3)) (xs (i + 4)) (xs (i + 5)) (xs (i + 6)))]) (c2) cw_L_99 mi_X7_warm se_X7_warm rfl rfl rfl rfl (by decide) (by decide) (by simp) rfl dL_law_834 rfl (fun v' M2 hv' => ?_)
  obtain ⟨rfl, hM2⟩ := hv'
  rw [hM2]
  refine l_eq dL_law_837 (by decide) (warm_same h.same hl.lb ht hg _ _ _ _ _ _).symm ?_
  exact kk _ _ _ _ h hl
set_option maxHeartbeats 2000000 in
theorem lc_minutesLeft (hi : i + 6 < L) (hL : L ≤ 3584) {fr n len : Nat} (h : REL M fr n len) (hl : LR M) (kk : KEEP G b L xs i) : LL G b L xs i 842 [] M := by
  obtain ⟨t, ht, hg⟩ := h.g
  have e50 := h.same
  refine l_al1 dL_law_842 rfl ?_
  refine l_arg (k := 1) hi hL (by decide) dL_law_843 dL_law_844 dL_law_845 dL_law_846 dL_law_847 rfl rfl rfl ?_
  refine l_callV (T := TX6) (N := 7) (As := [.inl (xs (i + 1))]) (rest := []) (ct_X6_minutesLeft hg.np.1 (xs (i + 1)) M hg.np.2 hg.bok hg.zok hg.vok) cw_L_100 mi_X6_minutesLeft se_X6_minutesLeft rfl rfl rfl rfl (by decide) (by decide) (by simp) rfl dL_law_848 rfl (fun v M1 hv => ?_)
  obtain ⟨rfl, hq⟩ := hv
  have e51 : M1 50 = M 0 := (hq.at (by decide)).trans h.same
  have c2 := ct_X7_minutesLeft hg.nv.1 hg.np.1 ht (xs (i + 1)) M1 (by rw [e51]; exact hg.nv.2) (by rw [e51]; exact hg.np.2) (by rw [e51]; exact ⟨_, hg⟩) (by rw [hq.at (by decide)]; exact h.real)
  rw [e51] at c2
  refine l_al2 dL_law_851 rfl ?_
  refine l_arg (k := 1) hi hL (by decide) dL_law_852 dL_law_853 dL_law_854 dL_law_855 dL_law_856 rfl rfl rfl ?_
  refine l_callV (T := TX7) (N := 12) (As := [.inl (xs (i + 1))]) (rest := [.inl (mlR (M 0) (xs (i + 1)))]) (c2) cw_L_103 mi_X7_minutesLeft se_X7_minutesLeft rfl rfl rfl rfl (by decide) (by decide) (by simp) rfl dL_law_857 rfl (fun v' M2 hv' => ?_)
  obtain ⟨rfl, hq2⟩ := hv'
  obtain ⟨g1, g2, h2, hl2⟩ := h.look hl hq hq2
  refine l_eq dL_law_860 (by decide) (left_same hg h.good.2.2 _).symm ?_
  refine l_ext50 g1 g2 ?_
  exact kk _ _ _ _ h2 hl2
set_option maxHeartbeats 2000000 in
theorem lc_longestOpen (hi : i + 6 < L) (hL : L ≤ 3584) {fr n len : Nat} (h : REL M fr n len) (hl : LR M) (kk : KEEP G b L xs i) : LL G b L xs i 865 [] M := by
  obtain ⟨t, ht, hg⟩ := h.g
  have e50 := h.same
  refine l_al1 dL_law_865 rfl ?_
  refine l_arg (k := 1) hi hL (by decide) dL_law_866 dL_law_867 dL_law_868 dL_law_869 dL_law_870 rfl rfl rfl ?_
  refine l_callV (T := TX6) (N := 7) (As := [.inl (xs (i + 1))]) (rest := []) (ct_X6_longestOpen hg.nv.1 hg.np.1 (xs (i + 1)) M hg.nv.2 hg.np.2 hg.bok hg.zok) cw_L_104 mi_X6_longestOpen se_X6_longestOpen rfl rfl rfl rfl (by decide) (by decide) (by simp) rfl dL_law_871 rfl (fun v M1 hv => ?_)
  obtain ⟨rfl, hq⟩ := hv
  have e51 : M1 50 = M 0 := (hq.at (by decide)).trans h.same
  have c2 := ct_X7_longestOpen hg.nv.1 hg.np.1 ht (xs (i + 1)) M1 (by rw [e51]; exact hg.nv.2) (by rw [e51]; exact hg.np.2) (by rw [e51]; exact ⟨_, hg⟩) (by rw [hq.at (by decide)]; exact h.real)
  rw [e51] at c2
  refine l_al2 dL_law_874 rfl ?_
  refine l_arg (k := 1) hi hL (by decide) dL_law_875 dL_law_876 dL_law_877 dL_law_878 dL_law_879 rfl rfl rfl ?_
  refine l_callV (T := TX7) (N := 12) (As := [.inl (xs (i + 1))]) (rest := [.inl (lgR (M 0) (xs (i + 1)))]) (c2) cw_L_107 mi_X7_longestOpen se_X7_longestOpen rfl rfl rfl rfl (by decide) (by decide) (by simp) rfl dL_law_880 rfl (fun v' M2 hv' => ?_)
  obtain ⟨rfl, hq2⟩ := hv'
  obtain ⟨g1, g2, h2, hl2⟩ := h.look hl hq hq2
  refine l_eq dL_law_883 (by decide) (longest_same ht hg (by omega) _).symm ?_
  refine l_ext50 g1 g2 ?_
  exact kk _ _ _ _ h2 hl2
set_option maxHeartbeats 2000000 in
theorem lc_undo (hi : i + 6 < L) (hL : L ≤ 3584) {fr n len : Nat} (h : REL M fr n len) (hl : LR M) (kk : KEEP G b L xs i) : LL G b L xs i 888 [] M := by
  obtain ⟨t, ht, hg⟩ := h.g
  have e50 := h.same
  refine l_al1 dL_law_888 rfl ?_
  refine l_callV (T := TX6) (N := 7) (As := []) (rest := []) (ct_X6_undo h.frlt h.num3 M h.free h.num1 (h.olds _ (pfr_lt h.frlt)).1.bok) cw_L_108 mi_X6_undo se_X6_undo rfl rfl rfl rfl (by decide) (by decide) (by simp) rfl dL_law_889 rfl (fun v M1 hv => ?_)
  obtain ⟨rfl, rfl⟩ := hv
  have hn := h.num3
  have h6 := und_60 h
  refine l_al2 dL_law_892 rfl ?_
  refine l_callV (T := TX7) (N := 12) (As := []) (rest := [.inl (undC n)]) (ct_X7_undo h.num3 _ h6) cw_L_111 mi_X7_undo se_X7_undo rfl rfl rfl rfl (by decide) (by decide) (by simp) rfl dL_law_893 rfl (fun v' M2 hv' => ?_)
  obtain ⟨rfl, rfl⟩ := hv'
  obtain ⟨er, h0, h1⟩ := st_undo h hl
  refine l_eq dL_law_896 (by decide) er.symm ?_
  by_cases q : n = 0
  · rw [h0 q]; exact kk _ _ _ _ h hl
  · obtain ⟨g2, h2, hl2⟩ := h1 (by omega)
    refine l_ext50 (M9 := setR (mUnd (undCM M fr n) n) 50 (M (2 + pfr fr))) (fun r hr => (setR_ne _ _ hr).symm) (fun i hi => by rw [setR_same]; exact g2 i hi) ?_
    exact kk _ _ _ _ h2 hl2
end Calls
