theorem wr_wr (M : Mm) (r i : Nat) (x y : Int32) : wr (wr M r i x) r i y = wr M r i y := by
  rw [wr_eq, wr_eq, setR_same, setR_setR, upd_upd, ← wr_eq]
theorem inn_eq (x y : Int32) : inn x y y = decide (x = y) := by
  unfold inn
  by_cases h : x = y
  · subst h
    have : ¬ x < x := fun q => by rw [Int32.lt_iff_toInt_lt] at q; omega
    simp [this]
  · have : x < y ∨ y < x := by
      rw [Int32.lt_iff_toInt_lt, Int32.lt_iff_toInt_lt]
      have : x.toInt ≠ y.toInt := fun q => h (Int32.toInt_inj.mp q)
      omega
    rcases this with q | q <;> simp [h, q]
theorem skp_step {T : Nat → Int32} {n a : Nat} (h : a < n) (hc : T a = nI 32) : skp T n a = skp T n (a + 1) := by
  unfold skp
  obtain ⟨m, e⟩ : ∃ m, n - a = m + 1 := ⟨n - a - 1, by omega⟩
  rw [e, show n - (a + 1) = m by omega]
  exact if_pos hc
theorem skp_stop {T : Nat → Int32} {n a : Nat} (h : ¬ a < n ∨ ¬ T a = nI 32) : skp T n a = a := by
  unfold skp
  rcases Nat.eq_zero_or_pos (n - a) with e | e
  · rw [e]; rfl
  · obtain ⟨m, e⟩ : ∃ m, n - a = m + 1 := ⟨n - a - 1, by omega⟩
    rw [e]
    exact if_neg (h.resolve_left (by omega))
theorem rnE_step {T : Nat → Int32} {n a : Nat} (h : a < n) (hc : inn (T a) (nI 48) (nI 57) = true) : rnE T n (a) = rnE T n (a + 1) := by
  unfold rnE
  obtain ⟨m, e⟩ : ∃ m, n - a = m + 1 := ⟨n - a - 1, by omega⟩
  rw [e, show n - (a + 1) = m by omega]
  exact if_pos hc
theorem rnE_stop {T : Nat → Int32} {n a : Nat} (h : ¬ a < n ∨ inn (T a) (nI 48) (nI 57) = false) : rnE T n a = a := by
  unfold rnE
  rcases Nat.eq_zero_or_pos (n - a) with e | e
  · rw [e]; rfl
  · obtain ⟨m, e⟩ : ∃ m, n - a = m + 1 := ⟨n - a - 1, by omega⟩
    rw [e]
    exact if_neg (by rw [h.resolve_left (by omega)]; decide)
/-- the number behind j figures from p on -/
def fvL (T : Nat → Int32) (p : Nat) : Nat → Int32
  | 0 => nI 0
  | j + 1 => if j < 3 then nI 10 * fvL T p j + T (p + j) - nI 48 else nI 0
theorem fvL_small {T : Nat → Int32} {p j : Nat} (h : j < 3) : fvL T p (j + 1) = nI 10 * fvL T p j + T (p + j) - nI 48 := if_pos h
theorem fvL_big {T : Nat → Int32} {p j : Nat} (h : ¬ j < 3) : fvL T p (j + 1) = nI 0 := if_neg h
def figM (M : Mm) (n p k : Nat) (b : Bool) : Mm := setR (setR M 56 (upd (M 56) k (fvL (M 55) p (rnE (M 55) n p - p)))) 60 (upd (M 60) 3 (nI (if b then rnE (M 55) n p else p)))
theorem numL_snoc (T : Nat → Int32) : ∀ (j a v : Nat), numL T (j + 1) a v = 10 * numL T j a v + ((T (a + j)).toNatClampNeg - 48) := by
  intro j
  induction j with
  | zero => intro a v; rfl
  | succ j ih =>
    intro a v
    rw [show numL T (j + 1 + 1) a v = numL T (j + 1) (a + 1) (10 * v + ((T a).toNatClampNeg - 48)) from rfl, ih, show a + 1 + j = a + (j + 1) by omega]
    rfl
theorem fvL_num (T : Nat → Int32) (p : Nat) : ∀ j, j ≤ 3 → (∀ i, p ≤ i → i < p + j → ∃ d, d ≤ 9 ∧ T i = nI (48 + d)) → fvL T p j = nI (numL T j p 0) := by
  intro j
  induction j with
  | zero => intro _ _; rfl
  | succ j ih =>
    intro hj hd
    obtain ⟨d, hd9, e⟩ := hd (p + j) (by omega) (by omega)
    rw [fvL_small (by omega), ih (by omega) (fun i h1 h2 => hd i h1 (by omega)), numL_snoc, e, nI_clamp (by omega), pk_mul, nI_add, pk_sub (by omega)]
    exact congrArg nI (by omega)
theorem rnOK_le {T : Nat → Int32} {n p : Nat} (h : rnOK T n p = true) : rnE T n p - p ≤ 3 := by
  simp only [rnOK, Bool.and_eq_true, Bool.not_eq_true', decide_eq_false_iff_not] at h
  omega
/-- behind isFigure -/
def fgQ (T : Nat → Int32) (n p k : Nat) (M M' : Mm) : Prop := (∀ q, q ≠ 56 → q ≠ 60 → M' q = M q) ∧ (∀ i, i ≠ 3 → M' 60 i = M 60 i) ∧ M' 60 3 = nI (if rnOK T n p then rnE T n p else p) ∧ (rnOK T n p = true → M' 56 k = nI (rnV T n p)) ∧ ∀ i, i ≠ k → M' 56 i = M 56 i
theorem fig_fg (M : Mm) {n p k : Nat} (hk : k < 2) : fgQ (M 55) n p k M (figM M n p k (rnOK (M 55) n p)) := by
  unfold figM
  refine ⟨fun q h1 h2 => by rw [setR_ne _ _ h2, setR_ne _ _ h1], fun i hi => by rw [setR_same, upd_at, if_neg hi], by rw [setR_same]; rfl, fun h => ?_, fun i hi => by rw [setR_ne _ _ (by decide), setR_same, upd_at, if_neg hi]⟩
  rw [setR_ne _ _ (by decide), setR_same, upd_at, if_pos rfl, fvL_num _ _ _ (rnOK_le h) (fun i h1 h2 => rnE_at _ (n := n) h1 (by omega))]
  rfl
set_option maxRecDepth 20000 in
set_option maxHeartbeats 4000000 in
theorem ct_X7_isAt {n a : Nat} (hn : n ≤ 80) (ha : a ≤ n) (x y : Int32) (M : Mm) (hl : M 60 2 = nI n) (hs : M 60 3 = nI a) : Ct yX7_isAt cX7_isAt 3 (some .boolean) 1 22 [.inr (7, 0, 0, 0), .inl x, .inl y] M (RT (decide (a < n) && inn (M 55 a) x y) M) := by
  refine Ct.at RX7 rfl (by decide +kernel) (Nat.le_of_ble_eq_true rfl) [some (.inr (7, 0, 0, 0)), some (.inl x), some (.inl y)] rfl (fun G => ?_)
  refine a_al_0_3 (pc' := 1) dX7_isAt_0 rfl ?_
  refine gf_7_9 (pc' := 4) fl_X7_147 dX7_isAt_1 rfl ?_
  rw [hs]
  refine a_al_0_3 (pc' := 5) dX7_isAt_4 rfl ?_
  refine gf_7_8 (pc' := 8) fl_X7_144 dX7_isAt_5 rfl ?_
  rw [hl]
  refine a_icmp_ge (pc' := 11) (tgt := 32) dX7_isAt_8 (by decide) rfl (fun c_8 => ?_) (fun c_8 => ?_)
  · refine a_iconst (v := nI 0) (pc' := 33) dX7_isAt_32 (by decide) rfl ?_
    refine a_iret dX7_isAt_33 rfl rfl ?_
    have han : ¬ a < n := fun q => nI_ge q (by omega) c_8
    exact fB0 (by simp [han])
  · have han : a < n := Nat.not_le.mp fun q => c_8 (nI_le q (by omega))
    refine a_al_0_3 (pc' := 12) dX7_isAt_11 rfl ?_
    refine gf_7_7 (pc' := 15) fl_X7_29 dX7_isAt_12 rfl ?_
    refine a_al_0_3 (pc' := 16) dX7_isAt_15 rfl ?_
    refine gf_7_9 (pc' := 19) fl_X7_147 dX7_isAt_16 rfl ?_
    rw [hs]
    refine a_ialdN (pc' := 20) rfl (by omega) (by decide) dX7_isAt_19 rfl ?_
    refine a_il_1_3 (pc' := 21) dX7_isAt_20 rfl ?_
    refine a_il_2_3 (pc' := 22) dX7_isAt_21 rfl ?_
    refine k_SI (pc' := 25) (ct_X7_in _ _ _ _) cw_X7_43 ms_X7_in rfl (by decide) (by decide) (Nat.le_of_ble_eq_true rfl) rfl dX7_isAt_22 rfl ?_
    refine a_ifB_eq (pc' := 28) (tgt := 32) dX7_isAt_25 (by decide) rfl (fun c_25 => ?_) (fun c_25 => ?_)
    · refine a_iconst (v := nI 0) (pc' := 33) dX7_isAt_32 (by decide) rfl ?_
      refine a_iret dX7_isAt_33 rfl rfl ?_
      exact fB0 (by simp [c_25])
    · refine a_iconst (v := nI 1) (pc' := 29) dX7_isAt_28 (by decide) rfl ?_
      refine a_goto (pc' := 33) dX7_isAt_29 (by decide) ?_
      refine a_iret dX7_isAt_33 rfl rfl ?_
      exact fB1 (by simp [han, c_25])
set_option maxRecDepth 20000 in
set_option maxHeartbeats 4000000 in
theorem lp_X7_skips {G : Gl} {Φ : Option OV → Mm → Prop} {n : Nat} (hn : n ≤ 80) : ∀ (m a : Nat) (M : Mm), n + 1 ≤ a + m → a ≤ n → M 60 2 = nI n → M 60 3 = nI a → Φ none (wr M 60 3 (nI (skp (M 55) n a))) → AW G cX7_skips RX7 1 2 44 none Φ 0 [some (.inr (7, 0, 0, 0))] [] M := by
  intro m
  induction m with
  | zero => intro a M h1 h2; omega
  | succ m ih =>
    intro a M hm ha hl hs hΦ
    refine a_al_0_1 (pc' := 1) dX7_skips_0 rfl ?_
    refine a_bipush (v := nI 32) (pc' := 3) dX7_skips_1 (by decide) rfl ?_
    refine a_bipush (v := nI 32) (pc' := 5) dX7_skips_3 (by decide) rfl ?_
    refine k_VI (pc' := 8) (ct_X7_isAt hn (a := a) ha _ _ _ hl hs) cw_X7_150 mi_X7_isAt se_X7_isAt rfl rfl rfl rfl (by decide) (by decide) (Nat.le_of_ble_eq_true rfl) rfl dX7_skips_5 rfl ?_
    refine a_ifB_eq (pc' := 11) (tgt := 24) dX7_skips_8 (by decide) rfl (fun c_8 => ?_) (fun c_8 => ?_)
    · refine a_vret dX7_skips_24 rfl ?_
      have hc : skp (M 55) n a = a := skp_stop (by
        rw [Bool.and_eq_false_iff, decide_eq_false_iff_not, inn_eq, decide_eq_false_iff_not] at c_8
        exact c_8)
      rw [hc, ← hs, wr_self] at hΦ
      exact hΦ
    · refine a_al_0_1 (pc' := 12) dX7_skips_11 rfl ?_
      refine a_dup (pc' := 13) dX7_skips_12 rfl ?_
      refine gf_7_9 (pc' := 16) fl_X7_147 dX7_skips_13 rfl ?_
      refine a_iconst (v := nI 1) (pc' := 17) dX7_skips_16 (by decide) rfl ?_
      refine a_iadd (pc' := 18) dX7_skips_17 rfl ?_
      rw [hs, nI_add]
      refine pf_7_9 (pc' := 21) fl_X7_147 dX7_skips_18 rfl ?_
      refine a_goto (pc' := 0) dX7_skips_21 (by decide) ?_
      have hc : a < n ∧ M 55 a = nI 32 := by
        rw [Bool.and_eq_true, decide_eq_true_eq, inn_eq, decide_eq_true_eq] at c_8
        exact c_8
      refine ih (a + 1) _ (by omega) (by omega) ?_ ?_ ?_
      · rw [wr_eq, setR_same, upd_at, if_neg (by decide)]; exact hl
      · rw [wr_eq, setR_same]; rfl
      · rw [wr_rne _ _ _ (show (55 : Nat) ≠ 60 by decide), wr_wr, ← skp_step hc.1 hc.2]; exact hΦ
set_option maxRecDepth 20000 in
set_option maxHeartbeats 4000000 in
theorem ct_X7_skips {n a : Nat} (hn : n ≤ 80) {T : Nat → Int32} (ha : a ≤ n) (M : Mm) (hl : M 60 2 = nI n) (hs : M 60 3 = nI a) (hT : M 55 = T) : Ct yX7_skips cX7_skips 1 none 2 44 [.inr (7, 0, 0, 0)] M (RV (wr M 60 3 (nI (skp T n a)))) := by
  subst hT
  refine Ct.at RX7 rfl (by decide +kernel) (Nat.le_of_ble_eq_true rfl) [some (.inr (7, 0, 0, 0))] rfl (fun G => ?_)
  exact lp_X7_skips hn (n + 1) a M (by omega) ha hl hs ⟨rfl, rfl⟩
set_option maxRecDepth 20000 in
set_option maxHeartbeats 4000000 in
theorem ct_X7_takes {n a : Nat} (hn : n ≤ 80) {T : Nat → Int32} (ha : a ≤ n) (c : Int32) (M : Mm) (hl : M 60 2 = nI n) (hs : M 60 3 = nI a) (hT : M 55 = T) : Ct yX7_takes cX7_takes 3 (some .boolean) 3 64 [.inr (7, 0, 0, 0), .inl c] M (RT (sgnB T n a c) (wr M 60 3 (nI (sgnE T n a c)))) := by
  subst hT
  refine Ct.at RX7 rfl (by decide +kernel) (Nat.le_of_ble_eq_true rfl) [some (.inr (7, 0, 0, 0)), some (.inl c), none] rfl (fun G => ?_)
  refine a_al_0_3 (pc' := 1) dX7_takes_0 rfl ?_
  refine k_VV (pc' := 4) (ct_X7_skips hn ha _ hl hs rfl) cw_X7_153 mi_X7_skips se_X7_skips rfl rfl rfl rfl (by decide) (by decide) (Nat.le_of_ble_eq_true rfl) rfl dX7_takes_1 rfl ?_
  refine a_al_0_3 (pc' := 5) dX7_takes_4 rfl ?_
  refine a_il_1_3 (pc' := 6) dX7_takes_5 rfl ?_
  refine a_il_1_3 (pc' := 7) dX7_takes_6 rfl ?_
  refine k_VI (pc' := 10) (ct_X7_isAt hn (a := skp (M 55) n a) (skp_b _ ha).2 _ _ _ (by rw [wr_eq, setR_same, upd_at, if_neg (by decide)]; exact hl) (by rw [wr_eq, setR_same]; rfl)) cw_X7_150 mi_X7_isAt se_X7_isAt rfl rfl rfl rfl (by decide) (by decide) (Nat.le_of_ble_eq_true rfl) rfl dX7_takes_7 rfl ?_
  refine a_is_2_3 (pc' := 11) dX7_takes_10 rfl ?_
  refine a_al_0_3 (pc' := 12) dX7_takes_11 rfl ?_
  refine a_dup (pc' := 13) dX7_takes_12 rfl ?_
  refine gf_7_9 (pc' := 16) fl_X7_147 dX7_takes_13 rfl ?_
  refine a_il_2_3 (pc' := 17) dX7_takes_16 rfl ?_
  refine a_ifB_eq (pc' := 20) (tgt := 24) dX7_takes_17 (by decide) rfl (fun c_17 => ?_) (fun c_17 => ?_)
  · refine a_iconst (v := nI 0) (pc' := 25) dX7_takes_24 (by decide) rfl ?_
    refine a_iadd (pc' := 26) dX7_takes_25 rfl ?_
    refine pf_7_9 (pc' := 29) fl_X7_147 dX7_takes_26 rfl ?_
    refine a_il_2_3 (pc' := 30) dX7_takes_29 rfl ?_
    refine a_iret dX7_takes_30 rfl (n_bI _) ?_
    have hb : (decide (skp (M 55) n a < n) && inn (wr M 60 3 (nI (skp (M 55) n a)) 55 (skp (M 55) n a)) c c) = sgnB (M 55) n a c := by
      rw [inn_eq]; rfl
    rw [hb] at c_17 ⊢
    refine fIM rfl ?_
    rw [wr_eq, wr_eq, setR_same, setR_setR, upd_upd, wr_eq, upd_at, if_pos rfl, sgnE, c_17]
    try rw [nI_add]
    rfl
  · refine a_iconst (v := nI 1) (pc' := 21) dX7_takes_20 (by decide) rfl ?_
    refine a_goto (pc' := 25) dX7_takes_21 (by decide) ?_
    refine a_iadd (pc' := 26) dX7_takes_25 rfl ?_
    refine pf_7_9 (pc' := 29) fl_X7_147 dX7_takes_26 rfl ?_
    refine a_il_2_3 (pc' := 30) dX7_takes_29 rfl ?_
    refine a_iret dX7_takes_30 rfl (n_bI _) ?_
    have hb : (decide (skp (M 55) n a < n) && inn (wr M 60 3 (nI (skp (M 55) n a)) 55 (skp (M 55) n a)) c c) = sgnB (M 55) n a c := by
      rw [inn_eq]; rfl
    rw [hb] at c_17 ⊢
    refine fIM rfl ?_
    rw [wr_eq, wr_eq, setR_same, setR_setR, upd_upd, wr_eq, upd_at, if_pos rfl, sgnE, c_17]
    try rw [nI_add]
    rfl
set_option maxRecDepth 20000 in
set_option maxHeartbeats 4000000 in
theorem lp_X7_isFigure {G : Gl} {Φ : Option OV → Mm → Prop} {n p k : Nat} (hn : n ≤ 80) (hk : k < 2) (hp : p ≤ n) (M0 : Mm) (hl : M0 60 2 = nI n) (hΦ : Φ (some (.inl (bI (rnOK (M0 55) n p)))) (figM M0 n p k (rnOK (M0 55) n p))) : ∀ (m j : Nat), n + 1 ≤ p + j + m → p + j ≤ n → rnE (M0 55) n p = rnE (M0 55) n (p + j) → AW G cX7_isFigure RX7 4 3 64 (some .boolean) Φ 16 [some (.inr (7, 0, 0, 0)), some (.inl (nI k)), some (.inl (nI p)), none] [] (setR (setR M0 56 (upd (M0 56) k (fvL (M0 55) p j))) 60 (upd (M0 60) 3 (nI (p + j)))) := by
  intro m
  induction m with
  | zero => intro j h1 h2; omega
  | succ m ih =>
    intro j hm ha hE
    refine a_al_0_4 (pc' := 17) dX7_isFigure_16 rfl ?_
    refine a_bipush (v := nI 48) (pc' := 19) dX7_isFigure_17 (by decide) rfl ?_
    refine a_bipush (v := nI 57) (pc' := 21) dX7_isFigure_19 (by decide) rfl ?_
    refine k_VI (pc' := 24) (ct_X7_isAt hn (a := p + j) (by omega) _ _ _ (by rw [setR_same, upd_at, if_neg (by decide)]; exact hl) (by rw [setR_same]; rfl)) cw_X7_150 mi_X7_isAt se_X7_isAt rfl rfl rfl rfl (by decide) (by decide) (Nat.le_of_ble_eq_true rfl) rfl dX7_isFigure_21 rfl ?_
    refine a_ifB_eq (pc' := 27) (tgt := 82) dX7_isFigure_24 (by decide) rfl (fun c_24 => ?_) (fun c_24 => ?_)
    · refine a_al_0_4 (pc' := 83) dX7_isFigure_82 rfl ?_
      refine gf_7_9 (pc' := 86) fl_X7_147 dX7_isFigure_83 rfl ?_
      rw [setR_same, upd_at, if_pos rfl]
      refine a_il_2_4 (pc' := 87) dX7_isFigure_86 rfl ?_
      refine a_isubN (pc' := 88) (by omega) dX7_isFigure_87 rfl ?_
      rw [show p + j - p = j by omega]
      refine a_is_3_4 (pc' := 89) dX7_isFigure_88 rfl ?_
      refine a_il_3_4 (pc' := 90) dX7_isFigure_89 rfl ?_
      refine a_if_eq (pc' := 93) (tgt := 114) dX7_isFigure_90 (by decide) rfl (fun c_90 => ?_) (fun c_90 => ?_)
      · refine a_al_0_4 (pc' := 115) dX7_isFigure_114 rfl ?_
        refine a_il_2_4 (pc' := 116) dX7_isFigure_115 rfl ?_
        refine pf_7_9 (pc' := 119) fl_X7_147 dX7_isFigure_116 rfl ?_
        refine a_iconst (v := nI 0) (pc' := 120) dX7_isFigure_119 (by decide) rfl ?_
        refine a_iret dX7_isFigure_120 rfl rfl ?_
        have hend : rnE (M0 55) n p = p + j := by
          rw [hE]
          refine rnE_stop ?_
          rw [Bool.and_eq_false_iff, decide_eq_false_iff_not] at c_24
          exact c_24
        have hj : p + j - p = j := by omega
        have f0 : j = 0 := by
          have := (nI_eqm j 0).mp c_90
          omega
        have hok : rnOK (M0 55) n p = false := by simp [rnOK, hend, hj, f0]
        rw [hok] at hΦ
        unfold figM at hΦ
        rw [hend, hj] at hΦ
        rw [wr_eq, setR_same, upd_upd, setR_setR]
        exact hΦ
      · refine a_il_3_4 (pc' := 94) dX7_isFigure_93 rfl ?_
        refine a_iconst (v := nI 3) (pc' := 95) dX7_isFigure_94 (by decide) rfl ?_
        refine a_icmp_gt (pc' := 98) (tgt := 114) dX7_isFigure_95 (by decide) rfl (fun c_95 => ?_) (fun c_95 => ?_)
        · refine a_al_0_4 (pc' := 115) dX7_isFigure_114 rfl ?_
          refine a_il_2_4 (pc' := 116) dX7_isFigure_115 rfl ?_
          refine pf_7_9 (pc' := 119) fl_X7_147 dX7_isFigure_116 rfl ?_
          refine a_iconst (v := nI 0) (pc' := 120) dX7_isFigure_119 (by decide) rfl ?_
          refine a_iret dX7_isFigure_120 rfl rfl ?_
          have hend : rnE (M0 55) n p = p + j := by
            rw [hE]
            refine rnE_stop ?_
            rw [Bool.and_eq_false_iff, decide_eq_false_iff_not] at c_24
            exact c_24
          have hj : p + j - p = j := by omega
          have f0 : ¬ j = 0 := fun q => c_90 (by rw [q]; rfl)
          have f3 : 3 < j := (nI_ltI (by omega) (by omega)).mp c_95
          have hok : rnOK (M0 55) n p = false := by simp [rnOK, hend, hj, f0, f3]
          rw [hok] at hΦ
          unfold figM at hΦ
          rw [hend, hj] at hΦ
          rw [wr_eq, setR_same, upd_upd, setR_setR]
          exact hΦ
        · refine a_il_3_4 (pc' := 99) dX7_isFigure_98 rfl ?_
          refine a_iconst (v := nI 1) (pc' := 100) dX7_isFigure_99 (by decide) rfl ?_
          refine a_icmp_le (pc' := 103) (tgt := 121) dX7_isFigure_100 (by decide) rfl (fun c_100 => ?_) (fun c_100 => ?_)
          · refine a_iconst (v := nI 1) (pc' := 122) dX7_isFigure_121 (by decide) rfl ?_
            refine a_iret dX7_isFigure_122 rfl rfl ?_
            have hend : rnE (M0 55) n p = p + j := by
              rw [hE]
              refine rnE_stop ?_
              rw [Bool.and_eq_false_iff, decide_eq_false_iff_not] at c_24
              exact c_24
            have hj : p + j - p = j := by omega
            have f0 : ¬ j = 0 := fun q => c_90 (by rw [q]; rfl)
            have f3 : ¬ 3 < j := fun q => c_95 (nI_lt q (by omega))
            have f1 : ¬ 1 < j := fun q => absurd ((nI_leI (by omega) (by omega)).mp c_100) (by omega)
            have hok : rnOK (M0 55) n p = true := by simp [rnOK, hend, hj, f0, f3, f1]
            rw [hok] at hΦ
            unfold figM at hΦ
            rw [hend, hj] at hΦ
            exact hΦ
          · have hj1 : 1 < j := Nat.not_le.mp fun q => c_100 (nI_le q (by omega))
            refine a_al_0_4 (pc' := 104) dX7_isFigure_103 rfl ?_
            refine gf_7_7 (pc' := 107) fl_X7_29 dX7_isFigure_104 rfl ?_
            refine a_il_2_4 (pc' := 108) dX7_isFigure_107 rfl ?_
            refine a_ialdN (pc' := 109) rfl (by omega) (by decide) dX7_isFigure_108 rfl ?_
            refine a_bipush (v := nI 48) (pc' := 111) dX7_isFigure_109 (by decide) rfl ?_
            refine a_icmp_ne (pc' := 114) (tgt := 121) dX7_isFigure_111 (by decide) rfl (fun c_111 => ?_) (fun c_111 => ?_)
            · refine a_iconst (v := nI 1) (pc' := 122) dX7_isFigure_121 (by decide) rfl ?_
              refine a_iret dX7_isFigure_122 rfl rfl ?_
              have hend : rnE (M0 55) n p = p + j := by
                rw [hE]
                refine rnE_stop ?_
                rw [Bool.and_eq_false_iff, decide_eq_false_iff_not] at c_24
                exact c_24
              have hj : p + j - p = j := by omega
              have f0 : ¬ j = 0 := fun q => c_90 (by rw [q]; rfl)
              have f3 : ¬ 3 < j := fun q => c_95 (nI_lt q (by omega))
              have f1 : 1 < j := Nat.not_le.mp fun q => c_100 (nI_le q (by omega))
              have f4 : ¬ M0 55 p = nI 48 := c_111
              have hok : rnOK (M0 55) n p = true := by simp [rnOK, hend, hj, f0, f3, f1, f4]
              rw [hok] at hΦ
              unfold figM at hΦ
              rw [hend, hj] at hΦ
              exact hΦ
            · refine a_al_0_4 (pc' := 115) dX7_isFigure_114 rfl ?_
              refine a_il_2_4 (pc' := 116) dX7_isFigure_115 rfl ?_
              refine pf_7_9 (pc' := 119) fl_X7_147 dX7_isFigure_116 rfl ?_
              refine a_iconst (v := nI 0) (pc' := 120) dX7_isFigure_119 (by decide) rfl ?_
              refine a_iret dX7_isFigure_120 rfl rfl ?_
              have hend : rnE (M0 55) n p = p + j := by
                rw [hE]
                refine rnE_stop ?_
                rw [Bool.and_eq_false_iff, decide_eq_false_iff_not] at c_24
                exact c_24
              have hj : p + j - p = j := by omega
              have f0 : ¬ j = 0 := fun q => c_90 (by rw [q]; rfl)
              have f3 : ¬ 3 < j := fun q => c_95 (nI_lt q (by omega))
              have f1 : 1 < j := Nat.not_le.mp fun q => c_100 (nI_le q (by omega))
              have f4 : M0 55 p = nI 48 := c_111
              have hok : rnOK (M0 55) n p = false := by simp [rnOK, hend, hj, f0, f3, f1, f4]
              rw [hok] at hΦ
              unfold figM at hΦ
              rw [hend, hj] at hΦ
              rw [wr_eq, setR_same, upd_upd, setR_setR]
              exact hΦ
    · have hc : p + j < n ∧ inn (M0 55 (p + j)) (nI 48) (nI 57) = true := by
        rw [Bool.and_eq_true, decide_eq_true_eq] at c_24
        exact c_24
      have hcn := hc.1
      refine a_al_0_4 (pc' := 28) dX7_isFigure_27 rfl ?_
      refine gf_7_11 (pc' := 31) fl_X7_32 dX7_isFigure_28 rfl ?_
      refine a_il_1_4 (pc' := 32) dX7_isFigure_31 rfl ?_
      refine a_al_0_4 (pc' := 33) dX7_isFigure_32 rfl ?_
      refine gf_7_9 (pc' := 36) fl_X7_147 dX7_isFigure_33 rfl ?_
      rw [setR_same, upd_at, if_pos rfl]
      refine a_il_2_4 (pc' := 37) dX7_isFigure_36 rfl ?_
      refine a_isubN (pc' := 38) (by omega) dX7_isFigure_37 rfl ?_
      refine a_iconst (v := nI 3) (pc' := 39) dX7_isFigure_38 (by decide) rfl ?_
      rw [show p + j - p = j by omega]
      refine a_icmp_ge (pc' := 42) (tgt := 67) dX7_isFigure_39 (by decide) rfl (fun c_39 => ?_) (fun c_39 => ?_)
      · refine a_iconst (v := nI 0) (pc' := 68) dX7_isFigure_67 (by decide) rfl ?_
        refine a_iastN (pc' := 69) rfl (by omega) (by decide) dX7_isFigure_68 rfl ?_
        refine a_al_0_4 (pc' := 70) dX7_isFigure_69 rfl ?_
        refine a_dup (pc' := 71) dX7_isFigure_70 rfl ?_
        refine gf_7_9 (pc' := 74) fl_X7_147 dX7_isFigure_71 rfl ?_
        refine a_iconst (v := nI 1) (pc' := 75) dX7_isFigure_74 (by decide) rfl ?_
        refine a_iadd (pc' := 76) dX7_isFigure_75 rfl ?_
        rw [wr_eq, setR_ne _ _ (show (60 : Nat) ≠ 56 by decide), setR_same, upd_at, if_pos rfl, nI_add]
        refine pf_7_9 (pc' := 79) fl_X7_147 dX7_isFigure_76 rfl ?_
        refine a_goto (pc' := 16) dX7_isFigure_79 (by decide) ?_
        have hstep : fvL (M0 55) p (j + 1) = nI 0 := fvL_big (by have := (nI_leI (by omega) (by omega)).mp c_39; omega)
        refine a_castS rfl (M' := (setR (setR M0 56 (upd (M0 56) k (fvL (M0 55) p (j + 1)))) 60 (upd (M0 60) 3 (nI (p + (j + 1)))))) ?_ (ih (j + 1) (by omega) (by omega) ?_)
        · rw [hstep]
          simp (disch := decide) only [wr_eq, setR_same, setR_ne, upd_upd, setR_setR]
          rw [setR_comm _ _ _ (show (60 : Nat) ≠ 56 by decide), setR_setR, setR_setR]
          rfl
        · exact hE.trans (rnE_step hc.1 hc.2)
      · refine a_bipush (v := nI 10) (pc' := 44) dX7_isFigure_42 (by decide) rfl ?_
        refine a_al_0_4 (pc' := 45) dX7_isFigure_44 rfl ?_
        refine gf_7_11 (pc' := 48) fl_X7_32 dX7_isFigure_45 rfl ?_
        refine a_il_1_4 (pc' := 49) dX7_isFigure_48 rfl ?_
        refine a_ialdN (pc' := 50) rfl (by omega) (by decide) dX7_isFigure_49 rfl ?_
        rw [setR_ne _ _ (show (56 : Nat) ≠ 60 by decide), setR_same, upd_at, if_pos rfl]
        refine a_imul (pc' := 51) dX7_isFigure_50 rfl ?_
        refine a_al_0_4 (pc' := 52) dX7_isFigure_51 rfl ?_
        refine gf_7_7 (pc' := 55) fl_X7_29 dX7_isFigure_52 rfl ?_
        refine a_al_0_4 (pc' := 56) dX7_isFigure_55 rfl ?_
        refine gf_7_9 (pc' := 59) fl_X7_147 dX7_isFigure_56 rfl ?_
        rw [setR_same, upd_at, if_pos rfl]
        refine a_ialdN (pc' := 60) rfl (by omega) (by decide) dX7_isFigure_59 rfl ?_
        refine a_iadd (pc' := 61) dX7_isFigure_60 rfl ?_
        refine a_bipush (v := nI 48) (pc' := 63) dX7_isFigure_61 (by decide) rfl ?_
        refine a_isub (pc' := 64) dX7_isFigure_63 rfl ?_
        refine a_goto (pc' := 68) dX7_isFigure_64 (by decide) ?_
        refine a_iastN (pc' := 69) rfl (by omega) (by decide) dX7_isFigure_68 rfl ?_
        refine a_al_0_4 (pc' := 70) dX7_isFigure_69 rfl ?_
        refine a_dup (pc' := 71) dX7_isFigure_70 rfl ?_
        refine gf_7_9 (pc' := 74) fl_X7_147 dX7_isFigure_71 rfl ?_
        refine a_iconst (v := nI 1) (pc' := 75) dX7_isFigure_74 (by decide) rfl ?_
        refine a_iadd (pc' := 76) dX7_isFigure_75 rfl ?_
        rw [wr_eq, setR_ne _ _ (show (60 : Nat) ≠ 56 by decide), setR_same, upd_at, if_pos rfl, nI_add]
        refine pf_7_9 (pc' := 79) fl_X7_147 dX7_isFigure_76 rfl ?_
        refine a_goto (pc' := 16) dX7_isFigure_79 (by decide) ?_
        have hstep : fvL (M0 55) p (j + 1) = nI 10 * fvL (M0 55) p j + M0 55 (p + j) - nI 48 := fvL_small (Nat.not_le.mp fun q => c_39 (nI_le q (by omega)))
        refine a_castS rfl (M' := (setR (setR M0 56 (upd (M0 56) k (fvL (M0 55) p (j + 1)))) 60 (upd (M0 60) 3 (nI (p + (j + 1)))))) ?_ (ih (j + 1) (by omega) (by omega) ?_)
        · rw [hstep]
          simp (disch := decide) only [wr_eq, setR_same, setR_ne, upd_upd, setR_setR]
          rw [setR_comm _ _ _ (show (60 : Nat) ≠ 56 by decide), setR_setR, setR_setR]
          rfl
        · exact hE.trans (rnE_step hc.1 hc.2)
set_option maxRecDepth 20000 in
set_option maxHeartbeats 4000000 in
theorem ct_X7_isFigure {n a : Nat} (hn : n ≤ 80) {k : Nat} {T : Nat → Int32} (hk : k < 2) (ha : a ≤ n) (M : Mm) (hl : M 60 2 = nI n) (hs : M 60 3 = nI a) (hT : M 55 = T) : Ct yX7_isFigure cX7_isFigure 4 (some .boolean) 3 64 [.inr (7, 0, 0, 0), .inl (nI k)] M (fun v M' => v = some (.inl (bI (rnOK T n (skp T n a)))) ∧ fgQ T n (skp T n a) k M M') := by
  subst hT
  refine Ct.at RX7 rfl (by decide +kernel) (Nat.le_of_ble_eq_true rfl) [some (.inr (7, 0, 0, 0)), some (.inl (nI k)), none, none] rfl (fun G => ?_)
  refine a_al_0_4 (pc' := 1) dX7_isFigure_0 rfl ?_
  refine k_VV (pc' := 4) (ct_X7_skips hn ha _ hl hs rfl) cw_X7_153 mi_X7_skips se_X7_skips rfl rfl rfl rfl (by decide) (by decide) (Nat.le_of_ble_eq_true rfl) rfl dX7_isFigure_1 rfl ?_
  refine a_al_0_4 (pc' := 5) dX7_isFigure_4 rfl ?_
  refine gf_7_9 (pc' := 8) fl_X7_147 dX7_isFigure_5 rfl ?_
  rw [wr_eq, setR_same, upd_at, if_pos rfl]
  refine a_is_2_4 (pc' := 9) dX7_isFigure_8 rfl ?_
  refine a_al_0_4 (pc' := 10) dX7_isFigure_9 rfl ?_
  refine gf_7_11 (pc' := 13) fl_X7_32 dX7_isFigure_10 rfl ?_
  refine a_il_1_4 (pc' := 14) dX7_isFigure_13 rfl ?_
  refine a_iconst (v := nI 0) (pc' := 15) dX7_isFigure_14 (by decide) rfl ?_
  refine a_iastN (pc' := 16) rfl (by omega) (by decide) dX7_isFigure_15 rfl ?_
  refine a_castS rfl (M' := setR (setR M 56 (upd (M 56) k (fvL (M 55) (skp (M 55) n a) 0))) 60 (upd (M 60) 3 (nI (skp (M 55) n a + 0)))) ?_ (lp_X7_isFigure hn hk (skp_b _ ha).2 M hl ⟨rfl, fig_fg M hk⟩ (n + 1) 0 (by omega) (by have := (skp_b (M 55) ha).2; omega) rfl)
  rw [wr_eq, setR_ne _ _ (show (56 : Nat) ≠ 60 by decide), setR_comm _ _ _ (show (60 : Nat) ≠ 56 by decide)]
  rfl
