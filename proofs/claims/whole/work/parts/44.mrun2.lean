def eqm (Ma M : Mm) : Prop := ∀ q, q ≠ 56 → q ≠ 60 → Ma q = M q
theorem eqm.set {Ma M : Mm} (h : eqm Ma M) (r : Nat) (F : Nat → Int32) : eqm (setR Ma r F) (setR M r F) := by
  intro q a b
  by_cases e : q = r
  · subst e; rw [setR_same, setR_same]
  · rw [setR_ne _ _ e, setR_ne _ _ e]; exact h q a b
theorem eqm.wr {Ma M : Mm} (h : eqm Ma M) {r : Nat} (i : Nat) (x : Int32) (h1 : r ≠ 56) (h2 : r ≠ 60) : eqm (Jvm.Pilot.@@N@@.wr Ma r i x) (Jvm.Pilot.@@N@@.wr M r i x) := by
  rw [wr_eq, wr_eq, h r h1 h2]
  exact h.set _ _
theorem eqm.lw1 {Ma M : Mm} (h : eqm Ma M) (v t z : Nat) : eqm (Jvm.Pilot.@@N@@.lw1 Ma v t z) (Jvm.Pilot.@@N@@.lw1 M v t z) := by
  unfold Jvm.Pilot.@@N@@.lw1
  rw [h 50 (by decide) (by decide)]
  exact (h.wr _ _ (by decide) (by decide)).wr _ _ (by decide) (by decide)
theorem eqm.mVan {Ma M : Mm} (h : eqm Ma M) (r : Bool) (t v : Nat) : eqm (Jvm.Pilot.@@N@@.mVan r t Ma v) (Jvm.Pilot.@@N@@.mVan r t M v) := by
  unfold Jvm.Pilot.@@N@@.mVan
  cases r
  · show eqm (setR Ma 50 _) (setR M 50 _)
    rw [h 50 (by decide) (by decide)]; exact h.set _ _
  · show eqm (lgW (setR Ma 50 _) v t) (lgW (setR M 50 _) v t)
    rw [h 50 (by decide) (by decide)]
    exact (((h.set _ _).lw1 _ _ _).lw1 _ _ _).lw1 _ _ _
theorem eqm.mVans {r : Bool} {t : Nat} : ∀ (n v : Nat) (Ma M : Mm), eqm Ma M → eqm (Jvm.Pilot.@@N@@.mVans r t n v Ma) (Jvm.Pilot.@@N@@.mVans r t n v M) := by
  intro n
  induction n with
  | zero => intro v Ma M h; exact h
  | succ n ih => intro v Ma M h; exact ih (v + 1) _ _ (h.mVan r t v)
theorem eqm.mVansN {r : Bool} {t : Nat} : ∀ (n v : Nat) (Ma M : Mm) (a : Int32), eqm Ma M → Jvm.Pilot.@@N@@.mVansN r t n v Ma a = Jvm.Pilot.@@N@@.mVansN r t n v M a := by
  intro n
  induction n with
  | zero => intro v Ma M a h; rfl
  | succ n ih =>
    intro v Ma M a h
    show Jvm.Pilot.@@N@@.mVansN r t n (v + 1) _ (a + minN (Ma 50) v) = Jvm.Pilot.@@N@@.mVansN r t n (v + 1) _ (a + minN (M 50) v)
    rw [h 50 (by decide) (by decide)]
    exact ih (v + 1) _ _ _ (h.mVan r t v)
theorem eqm.mMin {Ma M : Mm} (h : eqm Ma M) (r : Bool) (nv t : Nat) : eqm (Jvm.Pilot.@@N@@.mMin r nv t Ma) (Jvm.Pilot.@@N@@.mMin r nv t M) := by
  unfold Jvm.Pilot.@@N@@.mMin
  rw [h 50 (by decide) (by decide)]
  exact eqm.mVans _ _ _ _ (h.set _ _)
theorem eqm.mMinN {Ma M : Mm} (h : eqm Ma M) (r : Bool) (nv t : Nat) : Jvm.Pilot.@@N@@.mMinN r nv t Ma = Jvm.Pilot.@@N@@.mMinN r nv t M := by
  unfold Jvm.Pilot.@@N@@.mMinN
  rw [h 50 (by decide) (by decide)]
  exact eqm.mVansN _ _ _ _ _ (h.set _ _)
theorem eqm.mPass {nv : Nat} : ∀ (n t : Nat) (Ma M : Mm), eqm Ma M → eqm (Jvm.Pilot.@@N@@.mPass nv n t Ma) (Jvm.Pilot.@@N@@.mPass nv n t M) := by
  intro n
  induction n with
  | zero => intro t Ma M h; exact h
  | succ n ih => intro t Ma M h; exact ih (t + 1) _ _ (h.mMin true nv t)
theorem eqm.mPassN {nv : Nat} : ∀ (n t : Nat) (Ma M : Mm) (a : Int32), eqm Ma M → Jvm.Pilot.@@N@@.mPassN nv n t Ma a = Jvm.Pilot.@@N@@.mPassN nv n t M a := by
  intro n
  induction n with
  | zero => intro t Ma M a h; rfl
  | succ n ih =>
    intro t Ma M a h
    show Jvm.Pilot.@@N@@.mPassN nv n (t + 1) _ (a + Jvm.Pilot.@@N@@.mMinN true nv t Ma) = Jvm.Pilot.@@N@@.mPassN nv n (t + 1) _ (a + Jvm.Pilot.@@N@@.mMinN true nv t M)
    rw [h.mMinN]
    exact ih (t + 1) _ _ _ (h.mMin true nv t)
theorem eqm.mxR {Ma M : Mm} (h : eqm Ma M) (c f s : Int32) : Jvm.Pilot.@@N@@.mxR Ma c f s = Jvm.Pilot.@@N@@.mxR M c f s := by
  unfold Jvm.Pilot.@@N@@.mxR mpsR
  rw [h 50 (by decide) (by decide), eqm.mPassN _ _ _ _ _ h]
theorem eqm.mxM {Ma M : Mm} (h : eqm Ma M) (c f s : Int32) : eqm (Jvm.Pilot.@@N@@.mxM Ma c f s) (Jvm.Pilot.@@N@@.mxM M c f s) := by
  unfold Jvm.Pilot.@@N@@.mxM mpsM
  rw [h 50 (by decide) (by decide)]
  split
  · exact h.set _ _
  · split
    · exact h.set _ _
    · split
      · exact h.set _ _
      · split
        · split
          · split
            · exact eqm.mPass _ _ _ _ h
            · exact h
          · exact h
        · exact h.set _ _
theorem mxM_ne (M : Mm) (c f s : Int32) {q : Nat} (h : q ≠ 50) (h2 : q ≠ 54) : mxM M c f s q = M q := by
  unfold mxM
  split
  · exact setR_ne _ _ h
  · split
    · exact setR_ne _ _ h
    · split
      · exact setR_ne _ _ h
      · split
        · exact mpsM_ne _ _ h h2
        · exact setR_ne _ _ h
theorem mxM_T (M : Mm) (c f s : Int32) : mxM M c f s 50 = exF (M 50) c f s := by
  unfold mxM exF
  split
  · exact setR_same _ _ _
  · split
    · exact setR_same _ _ _
    · split
      · exact setR_same _ _ _
      · split
        · exact mpsM_T _ _
        · exact setR_same _ _ _
theorem letB_5 {c : Int32} (h : letB c = true) (h1 : ¬ c = nI 99) (h2 : ¬ c = nI 100) (h3 : ¬ c = nI 111) (h4 : ¬ c = nI 119) : c = nI 114 := by
  simp only [letB, Bool.or_eq_true, decide_eq_true_eq] at h
  rcases h with (((h | h) | h) | h) | h
  · exact absurd h h3
  · exact absurd h h1
  · exact absurd h h4
  · exact absurd h h2
  · exact h
theorem mxR_s (M : Mm) {c f s s' : Int32} (h : letB c = true) (hs : c = nI 114 → s = s') : mxR M c f s = mxR M c f s' := by
  unfold mxR
  split
  · rfl
  · split
    · rfl
    · split
      · rfl
      · split
        · rfl
        · rename_i a b d e
          rw [hs (letB_5 h a b d e)]
theorem mxM_s (M : Mm) {c f s s' : Int32} (h : letB c = true) (hs : c = nI 114 → s = s') : mxM M c f s = mxM M c f s' := by
  unfold mxM
  split
  · rfl
  · split
    · rfl
    · split
      · rfl
      · split
        · rfl
        · rename_i a b d e
          rw [hs (letB_5 h a b d e)]
theorem cm_let {T : Nat → Int32} {n p : Nat} (h : cmOK T n p = true) : letB (T p) = true := by
  simp only [cmOK, Bool.and_eq_true] at h
  exact h.1.1.1
/-- m commands of text T from the k-th on -/
def rmL (T : Nat → Int32) (n : Nat) : Nat → Nat → Mm → Option Nat × Mm
  | 0, _, M => (none, M)
  | m + 1, k, M => if 0 ≤ mxR M (T (pth T n k)) (nI (cm1 T n (pth T n k))) (nI (cm2 T n (pth T n k))) then rmL T n m (k + 1) (mxM M (T (pth T n k)) (nI (cm1 T n (pth T n k))) (nI (cm2 T n (pth T n k)))) else (some k, mxM M (T (pth T n k)) (nI (cm1 T n (pth T n k))) (nI (cm2 T n (pth T n k))))
def msZ (n C k6 : Nat) (R : Option Nat × Mm) (v : Option OV) (M' : Mm) : Prop := match R.1 with
  | some j => v = some (.inl ((-300000) - nI j)) ∧ (∀ q, q ≠ 50 → q ≠ 56 → q ≠ 60 → M' q = R.2 q) ∧ M' 50 = cpR (R.2 50) (R.2 52) 0 183 ∧ M' 60 0 = nI k6 ∧ M' 60 1 = nI 1 ∧ M' 60 2 = nI n
  | none => v = some (.inl (nI C)) ∧ (∀ q, q ≠ 51 → q ≠ 56 → q ≠ 60 → M' q = R.2 q) ∧ M' 51 = puP (if k6 = 6 then shP (R.2 51) 915 else R.2 51) (R.2 52) (if k6 = 6 then 5 else k6) 183 ∧ M' 60 0 = nI ((if k6 = 6 then 5 else k6) + 1) ∧ M' 60 1 = nI 1 ∧ M' 60 2 = nI 0
/-- behind the reference's runScript -/
def msQ (M : Mm) (n k6 : Nat) : Option OV → Mm → Prop := fun v M' =>
  (∃ c, v = some (.inl ((-200000) - nI (cmE (M 55) n (pth (M 55) n c)))) ∧ pth (M 55) n c < n ∧ cmOK (M 55) n (pth (M 55) n c) = false ∧ (∀ j, j < c → pth (M 55) n j < n ∧ cmOK (M 55) n (pth (M 55) n j) = true) ∧ (∀ q, q ≠ 56 → q ≠ 60 → M' q = M q) ∧ ∀ i, i ≠ 3 → i ≠ 4 → M' 60 i = M 60 i) ∨
  (∃ c, (∀ j, j < c → pth (M 55) n j < n ∧ cmOK (M 55) n (pth (M 55) n j) = true) ∧ n ≤ pth (M 55) n c ∧ msZ n c k6 (rmL (M 55) n c 0 (hM M)) v M')
theorem pth_le {T : Nat → Int32} {n c : Nat} (hok : ∀ j, j < c → pth T n j < n ∧ cmOK T n (pth T n j) = true) : ∀ k, k ≤ c → pth T n k ≤ n := by
  intro k
  cases k with
  | zero => intro _; exact (skp_b T (Nat.zero_le _)).2
  | succ k => intro hk; exact (nxP_b T (hok k (by omega)).1 (hok k (by omega)).2).2
theorem pth_ge {T : Nat → Int32} {n c : Nat} (hok : ∀ j, j < c → pth T n j < n ∧ cmOK T n (pth T n j) = true) : ∀ k, k ≤ c → k ≤ pth T n k := by
  intro k
  induction k with
  | zero => intro _; exact Nat.zero_le _
  | succ k ih =>
    intro hk
    have h1 := ih (by omega)
    have h2 := (nxP_b T (hok k (by omega)).1 (hok k (by omega)).2).1
    show k + 1 ≤ nxP T n (pth T n k)
    omega
theorem pth_c {T : Nat → Int32} {n c : Nat} (hn : n ≤ 80) (hok : ∀ j, j < c → pth T n j < n ∧ cmOK T n (pth T n j) = true) : c ≤ 80 := by
  have h1 := pth_ge hok c (Nat.le_refl _)
  have h2 := pth_le hok c (Nat.le_refl _)
  omega
set_option maxRecDepth 20000 in
set_option maxHeartbeats 4000000 in
theorem lp_X7_runScript {G : Gl} {Φ : Option OV → Mm → Prop} {n k6 C : Nat} {T : Nat → Int32} (hn : n ≤ 80) (hk6 : k6 ≤ 6) (hpn : ∀ k, k ≤ C → pth T n k ≤ n) (hC : n ≤ pth T n C) (hC80 : C ≤ 80) (hok : ∀ j, j < C → pth T n j < n ∧ cmOK T n (pth T n j) = true) : ∀ (m k : Nat) (Ma M : Mm), k + m = C → eqm Ma M → Ma 55 = T → GG (M 50) → Ma 60 2 = nI n → Ma 60 3 = nI (pth T n k) → Ma 60 1 = nI 1 → Ma 60 0 = nI k6 → (∀ v M', msZ n C k6 (rmL T n m k M) v M' → Φ v M') → AW G cX7_runScript RX7 2 8 183 (some .int) Φ 30 [some (.inr (7, 0, 0, 0)), some (.inl (nI k))] [] Ma := by
  intro m
  induction m with
  | zero =>
    intro k Ma M hkm he hT hgg hl h3 hr h6 hΦ
    obtain rfl : k = C := by omega
    have hpk := hpn k (Nat.le_refl _)
    refine a_al_0_2 (pc' := 31) dX7_runScript_30 rfl ?_
    refine gf_7_9 (pc' := 34) fl_X7_147 dX7_runScript_31 rfl ?_
    rw [h3]
    refine a_al_0_2 (pc' := 35) dX7_runScript_34 rfl ?_
    refine gf_7_8 (pc' := 38) fl_X7_144 dX7_runScript_35 rfl ?_
    rw [hl]
    refine a_icmp_ge (pc' := 41) (tgt := 77) dX7_runScript_38 (by decide) rfl (fun c_38 => ?_) (fun c_38 => absurd (nI_le (by omega) (by omega)) c_38)
    refine a_al_0_2 (pc' := 78) dX7_runScript_77 rfl ?_
    refine a_iconst (v := nI 0) (pc' := 79) dX7_runScript_78 (by decide) rfl ?_
    refine pf_7_8 (pc' := 82) fl_X7_144 dX7_runScript_79 rfl ?_
    refine a_al_0_2 (pc' := 83) dX7_runScript_82 rfl ?_
    refine a_il_1_2 (pc' := 84) dX7_runScript_83 rfl ?_
    refine k_VI (pc' := 87) (ct_X7_ends hk6 _ _ (by rw [wr_eq, setR_same, upd_at, if_neg (by decide)]; exact h6)) cw_X7_111 mi_X7_ends se_X7_ends rfl rfl rfl rfl (by decide) (by decide) (Nat.le_of_ble_eq_true rfl) rfl dX7_runScript_84 rfl ?_
    refine a_iret dX7_runScript_87 rfl rfl ?_
    refine hΦ _ _ ⟨rfl, fun q a b c => ?_, ?_, ?_, ?_, ?_⟩
    · rw [endM_ne _ _ a c, wr_rne _ _ _ c]; exact he q b c
    · unfold endM
      rw [setR_ne _ _ (by decide), setR_same, wr_rne _ _ _ (by decide), wr_rne _ _ _ (by decide), he 51 (by decide) (by decide), he 52 (by decide) (by decide)]
      rfl
    · unfold endM; rw [setR_same, upd_at, if_pos rfl]
    · unfold endM; rw [setR_same, upd_at, if_neg (by decide), wr_eq, setR_same, upd_at, if_neg (by decide)]; exact hr
    · unfold endM; rw [setR_same, upd_at, if_neg (by decide), wr_eq, setR_same]; rfl
  | succ m ih =>
    intro k Ma M hkm he hT hgg hl h3 hr h6 hΦ
    have hpk := hpn k (by omega)
    have hlt := (hok k (by omega)).1
    refine a_al_0_2 (pc' := 31) dX7_runScript_30 rfl ?_
    refine gf_7_9 (pc' := 34) fl_X7_147 dX7_runScript_31 rfl ?_
    rw [h3]
    refine a_al_0_2 (pc' := 35) dX7_runScript_34 rfl ?_
    refine gf_7_8 (pc' := 38) fl_X7_144 dX7_runScript_35 rfl ?_
    rw [hl]
    refine a_icmp_ge (pc' := 41) (tgt := 77) dX7_runScript_38 (by decide) rfl (fun c_38 => absurd c_38 (nI_ge (by omega) (by omega))) (fun c_38 => ?_)
    have hcm := hok k (by omega)
    have hp := hcm.1
    refine a_al_0_2 (pc' := 42) dX7_runScript_41 rfl ?_
    refine k_VQ (pc' := 45) (ct_X7_isCommand hn (a := pth T n k) hp _ hl h3) cw_X7_165 mi_X7_isCommand se_X7_isCommand rfl rfl rfl rfl (by decide) (by decide) (Nat.le_of_ble_eq_true rfl) rfl dX7_runScript_42 rfl (fun M_42 hq_42 => ?_)
    rw [hT] at hq_42 ⊢
    obtain ⟨q2, q3, q4, q5, q6⟩ := hq_42
    rw [hcm.2]
    obtain ⟨t, ht, hg⟩ := hgg
    have hE : eqm M_42 M := fun q a b => (q2 q a b).trans (he q a b)
    have h50 : M_42 50 = M 50 := hE 50 (by decide) (by decide)
    have hx1 : mxR M_42 (M_42 60 4) (M_42 56 0) (M_42 56 1) = mxR M (T (pth T n k)) (nI (cm1 T n (pth T n k))) (nI (cm2 T n (pth T n k))) := by
      rw [q5, (q6 hcm.2).1, mxR_s M_42 (cm_let hcm.2) (q6 hcm.2).2, hE.mxR]
    have hx2 : eqm (mxM M_42 (M_42 60 4) (M_42 56 0) (M_42 56 1)) (mxM M (T (pth T n k)) (nI (cm1 T n (pth T n k))) (nI (cm2 T n (pth T n k)))) := by
      rw [q5, (q6 hcm.2).1, mxM_s M_42 (cm_let hcm.2) (q6 hcm.2).2]
      exact hE.mxM _ _ _
    have hx6 : mxM M_42 (M_42 60 4) (M_42 56 0) (M_42 56 1) 60 = M_42 60 := mxM_ne _ _ _ _ (by decide) (by decide)
    have k0 : M_42 60 0 = nI k6 := (q3 0 (by decide) (by decide)).trans h6
    have k1 : M_42 60 1 = nI 1 := (q3 1 (by decide) (by decide)).trans hr
    have k2 : M_42 60 2 = nI n := (q3 2 (by decide) (by decide)).trans hl
    refine a_ifB_eq (pc' := 48) (tgt := 71) dX7_runScript_45 (by decide) rfl (fun c_45 => absurd c_45 (by decide)) (fun c_45 => ?_)
    refine a_al_0_2 (pc' := 49) dX7_runScript_48 rfl ?_
    refine k_VI (pc' := 52) (ct_X7_does (nv := nvF (M 50)) (np := npF (M 50)) (t := t) hg.nv.1 hg.np.1 ht _ (by rw [h50]; exact hg.nv.2) (by rw [h50]; exact hg.np.2) ⟨_, by rw [h50]; exact hg⟩ k1) cw_X7_173 mi_X7_does se_X7_does rfl rfl rfl rfl (by decide) (by decide) (Nat.le_of_ble_eq_true rfl) rfl dX7_runScript_49 rfl ?_
    rw [hx1]
    refine a_if_ge (pc' := 55) (tgt := 71) dX7_runScript_52 (by decide) rfl (fun c_52 => ?_) (fun c_52 => ?_)
    · refine a_iN_1_2 (m := k + 1) (pc' := 74) dX7_runScript_71 (nI_add _ _) rfl ?_
      refine a_goto (pc' := 30) dX7_runScript_74 (by decide) ?_
      rw [show rmL T n (m + 1) k M = rmL T n m (k + 1) (mxM M (T (pth T n k)) (nI (cm1 T n (pth T n k))) (nI (cm2 T n (pth T n k)))) from if_pos c_52] at hΦ
      refine ih (k + 1) _ _ (by omega) hx2 ?_ ?_ ?_ ?_ ?_ ?_ hΦ
      · rw [hx2 55 (by decide) (by decide), mxM_ne _ _ _ _ (by decide) (by decide), ← he 55 (by decide) (by decide)]; exact hT
      · rw [mxM_T]; exact GG.ex ⟨t, ht, hg⟩ _ _ _
      · rw [hx6]; exact k2
      · rw [hx6, q4, if_pos hcm.2]; rfl
      · rw [hx6]; exact k1
      · rw [hx6]; exact k0
    · refine a_al_0_2 (pc' := 56) dX7_runScript_55 rfl ?_
      refine gf_7_0 (pc' := 59) fl_X7_7 dX7_runScript_56 rfl ?_
      refine a_al_0_2 (pc' := 60) dX7_runScript_59 rfl ?_
      refine gf_7_2 (pc' := 63) fl_X7_16 dX7_runScript_60 rfl ?_
      refine k_SV (pc' := 66) (ct_X7_copies (r := 50) (r' := 52) rfl rfl (by decide) _) cw_X7_35 ms_X7_copies rfl (by decide) (by decide) (Nat.le_of_ble_eq_true rfl) rfl dX7_runScript_63 rfl ?_
      refine a_ldc (pc' := 68) dX7_runScript_66 cn_X7_176 rfl ?_
      refine a_il_1_2 (pc' := 69) dX7_runScript_68 rfl ?_
      refine a_isub (pc' := 70) dX7_runScript_69 rfl ?_
      refine a_iret dX7_runScript_70 rfl rfl ?_
      have hR : rmL T n (m + 1) k M = (some k, mxM M (T (pth T n k)) (nI (cm1 T n (pth T n k))) (nI (cm2 T n (pth T n k)))) := if_neg c_52
      refine hΦ _ _ ?_
      rw [hR]
      refine ⟨rfl, fun q a b c => ?_, ?_, ?_, ?_, ?_⟩
      · rw [setR_ne _ _ a]; exact hx2 q b c
      · rw [setR_same, hx2 50 (by decide) (by decide), hx2 52 (by decide) (by decide)]
      · rw [setR_ne _ _ (by decide), hx6]; exact k0
      · rw [setR_ne _ _ (by decide), hx6]; exact k1
      · rw [setR_ne _ _ (by decide), hx6]; exact k2
set_option maxRecDepth 20000 in
set_option maxHeartbeats 4000000 in
theorem ct_X7_runScript {n k6 : Nat} (hn : n ≤ 80) (hk6 : k6 ≤ 6) (M : Mm) (hl : M 60 2 = nI n) (h6 : M 60 0 = nI k6) (hr : M 60 1 = nI 1) (hgg : GG (M 50)) : Ct yX7_runScript cX7_runScript 2 (some .int) 8 183 [.inr (7, 0, 0, 0)] M (msQ M n k6) := by
  refine Ct.at RX7 rfl (by decide +kernel) (Nat.le_of_ble_eq_true rfl) [some (.inr (7, 0, 0, 0)), none] rfl (fun G => ?_)
  refine a_al_0_2 (pc' := 1) dX7_runScript_0 rfl ?_
  refine a_callV (pc' := 4) (ct_X7_isScript hn _ hl) cw_X7_169 mi_X7_isScript se_X7_isScript rfl rfl rfl rfl (by decide) (by decide) (Nat.le_of_ble_eq_true rfl) rfl dX7_runScript_1 rfl (fun v M1 hq => ?_)
  obtain ⟨c, hok, i1, i2, hq⟩ := hq
  rcases hq with ⟨rfl, hp⟩ | ⟨rfl, hp, hb, hs⟩
  · refine (?_ : AW G cX7_runScript RX7 2 8 183 (some .int) _ 4 [some (.inr (7, 0, 0, 0)), none] [.inl (nI 1)] M1)
    refine a_if_ne (pc' := 7) (tgt := 15) dX7_runScript_4 (by decide) rfl (fun c_4 => ?_) (fun c_4 => absurd c_4 (by decide))
    refine a_al_0_2 (pc' := 16) dX7_runScript_15 rfl ?_
    refine k_VV (pc' := 19) (ct_X7_hold _) cw_X7_117 mi_X7_hold se_X7_hold rfl rfl rfl rfl (by decide) (by decide) (Nat.le_of_ble_eq_true rfl) rfl dX7_runScript_16 rfl ?_
    refine a_al_0_2 (pc' := 20) dX7_runScript_19 rfl ?_
    refine a_iconst (v := nI 0) (pc' := 21) dX7_runScript_20 (by decide) rfl ?_
    refine pf_7_9 (pc' := 24) fl_X7_147 dX7_runScript_21 rfl ?_
    refine a_al_0_2 (pc' := 25) dX7_runScript_24 rfl ?_
    refine k_VV (pc' := 28) (ct_X7_skips hn (T := M 55) (a := 0) (Nat.zero_le _) _ (by rw [wr_eq, setR_same, upd_at, if_neg (by decide), hM_ne _ (by decide), i2 2 (by decide) (by decide)]; exact hl) (by rw [wr_eq, setR_same]; rfl) (by rw [wr_rne _ _ _ (by decide), hM_ne _ (by decide), i1 55 (by decide) (by decide)])) cw_X7_153 mi_X7_skips se_X7_skips rfl rfl rfl rfl (by decide) (by decide) (Nat.le_of_ble_eq_true rfl) rfl dX7_runScript_25 rfl ?_
    refine a_iconst (v := nI 0) (pc' := 29) dX7_runScript_28 (by decide) rfl ?_
    refine a_is_1_2 (pc' := 30) dX7_runScript_29 rfl ?_
    rw [wr_wr]
    have hC80 : c ≤ 80 := pth_c hn hok
    have hpn : ∀ k, k ≤ c → pth (M 55) n k ≤ n := fun k hk => pth_le hok k hk
    refine lp_X7_runScript hn hk6 hpn hp hC80 hok c 0 _ (hM M) (by omega) ?_ ?_ ?_ ?_ ?_ ?_ ?_ (fun v M' h => Or.inr ⟨c, hok, hp, h⟩)
    · intro q a b
      rw [wr_rne _ _ _ b]
      by_cases e : q = 52
      · subst e
        unfold hM
        rw [setR_same, setR_same, i1 52 (by decide) (by decide), i1 50 (by decide) (by decide)]
      · rw [hM_ne _ e, hM_ne _ e]; exact i1 q a b
    · rw [wr_rne _ _ _ (by decide), hM_ne _ (by decide)]; exact i1 55 (by decide) (by decide)
    · rw [hM_ne _ (by decide)]; exact hgg
    · rw [wr_eq, setR_same, upd_at, if_neg (by decide), hM_ne _ (by decide), i2 2 (by decide) (by decide)]; exact hl
    · rw [wr_eq, setR_same]; rfl
    · rw [wr_eq, setR_same, upd_at, if_neg (by decide), hM_ne _ (by decide), i2 1 (by decide) (by decide)]; exact hr
    · rw [wr_eq, setR_same, upd_at, if_neg (by decide), hM_ne _ (by decide), i2 0 (by decide) (by decide)]; exact h6
  · refine (?_ : AW G cX7_runScript RX7 2 8 183 (some .int) _ 4 [some (.inr (7, 0, 0, 0)), none] [.inl (nI 0)] M1)
    refine a_if_ne (pc' := 7) (tgt := 15) dX7_runScript_4 (by decide) rfl (fun c_4 => absurd c_4 (by decide)) (fun c_4 => ?_)
    refine a_ldc (pc' := 9) dX7_runScript_7 cn_X7_172 rfl ?_
    refine a_al_0_2 (pc' := 10) dX7_runScript_9 rfl ?_
    refine gf_7_9 (pc' := 13) fl_X7_147 dX7_runScript_10 rfl ?_
    rw [hs]
    refine a_isub (pc' := 14) dX7_runScript_13 rfl ?_
    refine a_iret dX7_runScript_14 rfl rfl ?_
    exact Or.inl ⟨c, rfl, hp, hb, hok, i1, i2⟩
