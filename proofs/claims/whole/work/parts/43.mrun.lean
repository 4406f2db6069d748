def mxR (M : Mm) (c f s : Int32) : Int32 := if c = nI 99 then drR (M 50) f (nI 0) else if c = nI 100 then dlR (M 50) f else if c = nI 111 then drR (M 50) f (nI 1) else if c = nI 119 then mpsR M f else repR (M 50) f s
def mxM (M : Mm) (c f s : Int32) : Mm := if c = nI 99 then setR M 50 (drF (M 50) f (nI 0)) else if c = nI 100 then setR M 50 (dlF (M 50) f) else if c = nI 111 then setR M 50 (drF (M 50) f (nI 1)) else if c = nI 119 then mpsM M f else setR M 50 (repF (M 50) f s)
/-- behind isScript -/
def isQ (T : Nat → Int32) (n : Nat) (M : Mm) : Option OV → Mm → Prop := fun v M' => ∃ c, (∀ j, j < c → pth T n j < n ∧ cmOK T n (pth T n j) = true) ∧ (∀ q, q ≠ 56 → q ≠ 60 → M' q = M q) ∧ (∀ i, i ≠ 3 → i ≠ 4 → M' 60 i = M 60 i) ∧ ((v = some (.inl (nI 1)) ∧ n ≤ pth T n c) ∨ (v = some (.inl (nI 0)) ∧ pth T n c < n ∧ cmOK T n (pth T n c) = false ∧ M' 60 3 = nI (cmE T n (pth T n c))))
set_option maxRecDepth 20000 in
set_option maxHeartbeats 4000000 in
theorem ct_X7_does {nv np t : Nat} (hn : nv ≤ 3) (hm : np ≤ 12) (ht : t ≤ 600) (M : Mm) (h0 : M 50 0 = nI nv) (h1 : M 50 1 = nI np) (hg : ∃ T, Good (M 50) t T) (hr : M 60 1 = nI 1) : Ct yX7_does cX7_does 1 (some .int) 7 163 [.inr (7, 0, 0, 0)] M (RI (mxR M (M 60 4) (M 56 0) (M 56 1)) (mxM M (M 60 4) (M 56 0) (M 56 1))) := by
  refine Ct.at RX7 rfl (by decide +kernel) (Nat.le_of_ble_eq_true rfl) [some (.inr (7, 0, 0, 0))] rfl (fun G => ?_)
  refine a_al_0_1 (pc' := 1) dX7_does_0 rfl ?_
  refine gf_7_10 (pc' := 4) fl_X7_156 dX7_does_1 rfl ?_
  by_cases s_4_99 : M 60 4 = nI 99
  · rw [s_4_99]
    refine a_lsw (tgt := 60) (off := 56) dX7_does_4 (by decide) (by decide) (by decide) ?_
    refine a_al_0_1 (pc' := 61) dX7_does_60 rfl ?_
    refine a_al_0_1 (pc' := 62) dX7_does_61 rfl ?_
    refine gf_7_11 (pc' := 65) fl_X7_32 dX7_does_62 rfl ?_
    refine a_iconst (v := nI 0) (pc' := 66) dX7_does_65 (by decide) rfl ?_
    refine a_ialdN (pc' := 67) rfl (by omega) (by decide) dX7_does_66 rfl ?_
    refine a_iconst (v := nI 0) (pc' := 68) dX7_does_67 (by decide) rfl ?_
    refine k_VI (pc' := 71) (ct_X7_doors hn hm _ _ _ h0 h1) cw_X7_135 mi_X7_doors se_X7_doors rfl rfl rfl rfl (by decide) (by decide) (Nat.le_of_ble_eq_true rfl) rfl dX7_does_68 rfl ?_
    refine a_iret dX7_does_71 rfl rfl ?_
    exact fIM (by simp [mxR, nI_eqm, s_4_99]) (by simp [mxM, nI_eqm, s_4_99])
  by_cases s_4_100 : M 60 4 = nI 100
  · rw [s_4_100]
    refine a_lsw (tgt := 83) (off := 79) dX7_does_4 (by decide) (by decide) (by decide) ?_
    refine a_al_0_1 (pc' := 84) dX7_does_83 rfl ?_
    refine a_al_0_1 (pc' := 85) dX7_does_84 rfl ?_
    refine gf_7_11 (pc' := 88) fl_X7_32 dX7_does_85 rfl ?_
    refine a_iconst (v := nI 0) (pc' := 89) dX7_does_88 (by decide) rfl ?_
    refine a_ialdN (pc' := 90) rfl (by omega) (by decide) dX7_does_89 rfl ?_
    refine k_VI (pc' := 93) (ct_X7_delivers hm _ _ h1 (by obtain ⟨T, hg⟩ := hg; exact hg.vok)) cw_X7_141 mi_X7_delivers se_X7_delivers rfl rfl rfl rfl (by decide) (by decide) (Nat.le_of_ble_eq_true rfl) rfl dX7_does_90 rfl ?_
    refine a_iret dX7_does_93 rfl rfl ?_
    exact fIM (by simp [mxR, nI_eqm, s_4_99, s_4_100]) (by simp [mxM, nI_eqm, s_4_99, s_4_100])
  by_cases s_4_111 : M 60 4 = nI 111
  · rw [s_4_111]
    refine a_lsw (tgt := 48) (off := 44) dX7_does_4 (by decide) (by decide) (by decide) ?_
    refine a_al_0_1 (pc' := 49) dX7_does_48 rfl ?_
    refine a_al_0_1 (pc' := 50) dX7_does_49 rfl ?_
    refine gf_7_11 (pc' := 53) fl_X7_32 dX7_does_50 rfl ?_
    refine a_iconst (v := nI 0) (pc' := 54) dX7_does_53 (by decide) rfl ?_
    refine a_ialdN (pc' := 55) rfl (by omega) (by decide) dX7_does_54 rfl ?_
    refine a_iconst (v := nI 1) (pc' := 56) dX7_does_55 (by decide) rfl ?_
    refine k_VI (pc' := 59) (ct_X7_doors hn hm _ _ _ h0 h1) cw_X7_135 mi_X7_doors se_X7_doors rfl rfl rfl rfl (by decide) (by decide) (Nat.le_of_ble_eq_true rfl) rfl dX7_does_56 rfl ?_
    refine a_iret dX7_does_59 rfl rfl ?_
    exact fIM (by simp [mxR, nI_eqm, s_4_99, s_4_100, s_4_111]) (by simp [mxM, nI_eqm, s_4_99, s_4_100, s_4_111])
  by_cases s_4_119 : M 60 4 = nI 119
  · rw [s_4_119]
    refine a_lsw (tgt := 72) (off := 68) dX7_does_4 (by decide) (by decide) (by decide) ?_
    refine a_al_0_1 (pc' := 73) dX7_does_72 rfl ?_
    refine a_al_0_1 (pc' := 74) dX7_does_73 rfl ?_
    refine gf_7_11 (pc' := 77) fl_X7_32 dX7_does_74 rfl ?_
    refine a_iconst (v := nI 0) (pc' := 78) dX7_does_77 (by decide) rfl ?_
    refine a_ialdN (pc' := 79) rfl (by omega) (by decide) dX7_does_78 rfl ?_
    refine k_VI (pc' := 82) (ct_X7_passes hn hm ht _ _ h0 h1 hg hr) cw_X7_138 mi_X7_passes se_X7_passes rfl rfl rfl rfl (by decide) (by decide) (Nat.le_of_ble_eq_true rfl) rfl dX7_does_79 rfl ?_
    refine a_iret dX7_does_82 rfl rfl ?_
    exact fIM (by simp [mxR, nI_eqm, s_4_99, s_4_100, s_4_111, s_4_119]) (by simp [mxM, nI_eqm, s_4_99, s_4_100, s_4_111, s_4_119])
  refine a_lsw (tgt := 94) (off := 90) dX7_does_4 (by decide) (by rw [show Op.lookupswitch.offset _ _ _ = _ from lv_osw s_4_99 (by decide)]; rw [show Op.lookupswitch.offset _ _ _ = _ from lv_osw s_4_100 (by decide)]; rw [show Op.lookupswitch.offset _ _ _ = _ from lv_osw s_4_111 (by decide)]; rw [show Op.lookupswitch.offset _ _ _ = _ from lv_osw s_4_119 (by decide)]; rfl) (by decide) ?_
  refine a_al_0_1 (pc' := 95) dX7_does_94 rfl ?_
  refine a_al_0_1 (pc' := 96) dX7_does_95 rfl ?_
  refine gf_7_11 (pc' := 99) fl_X7_32 dX7_does_96 rfl ?_
  refine a_iconst (v := nI 0) (pc' := 100) dX7_does_99 (by decide) rfl ?_
  refine a_ialdN (pc' := 101) rfl (by omega) (by decide) dX7_does_100 rfl ?_
  refine a_al_0_1 (pc' := 102) dX7_does_101 rfl ?_
  refine gf_7_11 (pc' := 105) fl_X7_32 dX7_does_102 rfl ?_
  refine a_iconst (v := nI 1) (pc' := 106) dX7_does_105 (by decide) rfl ?_
  refine a_ialdN (pc' := 107) rfl (by omega) (by decide) dX7_does_106 rfl ?_
  refine k_VI (pc' := 110) (ct_X7_repairs hn _ _ _ h0 (by obtain ⟨T, hg⟩ := hg; exact hg.bok)) cw_X7_126 mi_X7_repairs se_X7_repairs rfl rfl rfl rfl (by decide) (by decide) (Nat.le_of_ble_eq_true rfl) rfl dX7_does_107 rfl ?_
  refine a_iret dX7_does_110 rfl rfl ?_
  exact fIM (by simp [mxR, nI_eqm, s_4_99, s_4_100, s_4_111, s_4_119]) (by simp [mxM, nI_eqm, s_4_99, s_4_100, s_4_111, s_4_119])
set_option maxRecDepth 20000 in
set_option maxHeartbeats 4000000 in
theorem lp_X7_isScript {G : Gl} {Φ : Option OV → Mm → Prop} {n : Nat} {T : Nat → Int32} (hn : n ≤ 80) (M0 : Mm) (hΦ : ∀ v M', isQ T n M0 v M' → Φ v M') : ∀ (m c : Nat) (M : Mm), n + 1 ≤ pth T n c + m → pth T n c ≤ n → M 55 = T → M 60 2 = nI n → M 60 3 = nI (pth T n c) → (∀ j, j < c → pth T n j < n ∧ cmOK T n (pth T n j) = true) → (∀ q, q ≠ 56 → q ≠ 60 → M q = M0 q) → (∀ i, i ≠ 3 → i ≠ 4 → M 60 i = M0 60 i) → AW G cX7_isScript RX7 1 5 107 (some .boolean) Φ 9 [some (.inr (7, 0, 0, 0))] [] M := by
  intro m
  induction m with
  | zero => intro c M h1 h2; omega
  | succ m ih =>
    intro c M hm hpn hT hl h3 hok ho h6
    refine a_al_0_1 (pc' := 10) dX7_isScript_9 rfl ?_
    refine gf_7_9 (pc' := 13) fl_X7_147 dX7_isScript_10 rfl ?_
    rw [h3]
    refine a_al_0_1 (pc' := 14) dX7_isScript_13 rfl ?_
    refine gf_7_8 (pc' := 17) fl_X7_144 dX7_isScript_14 rfl ?_
    rw [hl]
    refine a_icmp_ge (pc' := 20) (tgt := 29) dX7_isScript_17 (by decide) rfl (fun c_17 => ?_) (fun c_17 => ?_)
    · refine a_iconst (v := nI 1) (pc' := 30) dX7_isScript_29 (by decide) rfl ?_
      refine a_iret dX7_isScript_30 rfl rfl ?_
      have hp : n ≤ pth T n c := (nI_leI (by omega) (by omega)).mp c_17
      exact hΦ _ _ ⟨c, hok, ho, h6, Or.inl ⟨rfl, hp⟩⟩
    · have hp : pth T n c < n := Nat.not_le.mp fun q => c_17 (nI_le q (by omega))
      refine a_al_0_1 (pc' := 21) dX7_isScript_20 rfl ?_
      refine k_VQ (pc' := 24) (ct_X7_isCommand hn (a := pth T n c) hp _ hl h3) cw_X7_165 mi_X7_isCommand se_X7_isCommand rfl rfl rfl rfl (by decide) (by decide) (Nat.le_of_ble_eq_true rfl) rfl dX7_isScript_21 rfl (fun M_21 hq_21 => ?_)
      rw [hT] at hq_21 ⊢
      obtain ⟨q2, q3, q4, q5, q6⟩ := hq_21
      refine a_ifB_ne (pc' := 27) (tgt := 9) dX7_isScript_24 (by decide) rfl (fun c_24 => ?_) (fun c_24 => ?_)
      · have hx := nxP_b T hp c_24
        refine ih (c + 1) _ ?_ ?_ ?_ ?_ ?_ ?_ ?_ ?_
        · rw [show pth T n (c + 1) = nxP T n (pth T n c) from rfl]; omega
        · exact hx.2
        · rw [q2 55 (by decide) (by decide)]; exact hT
        · rw [q3 2 (by decide) (by decide)]; exact hl
        · rw [q4, if_pos c_24]; rfl
        · intro j hj
          by_cases e : j = c
          · subst e; exact ⟨hp, c_24⟩
          · exact hok j (by omega)
        · intro q a b; rw [q2 q a b]; exact ho q a b
        · intro i a b; rw [q3 i a b]; exact h6 i a b
      · refine a_iconst (v := nI 0) (pc' := 28) dX7_isScript_27 (by decide) rfl ?_
        refine a_iret dX7_isScript_28 rfl rfl ?_
        exact hΦ _ _ ⟨c, hok, fun q a b => (q2 q a b).trans (ho q a b), fun i a b => (q3 i a b).trans (h6 i a b), Or.inr ⟨rfl, hp, c_24, by rw [q4, c_24]; rfl⟩⟩
set_option maxRecDepth 20000 in
set_option maxHeartbeats 4000000 in
theorem ct_X7_isScript {n : Nat} (hn : n ≤ 80) (M : Mm) (hl : M 60 2 = nI n) : Ct yX7_isScript cX7_isScript 1 (some .boolean) 5 107 [.inr (7, 0, 0, 0)] M (isQ (M 55) n M) := by
  refine Ct.at RX7 rfl (by decide +kernel) (Nat.le_of_ble_eq_true rfl) [some (.inr (7, 0, 0, 0))] rfl (fun G => ?_)
  refine a_al_0_1 (pc' := 1) dX7_isScript_0 rfl ?_
  refine a_iconst (v := nI 0) (pc' := 2) dX7_isScript_1 (by decide) rfl ?_
  refine pf_7_9 (pc' := 5) fl_X7_147 dX7_isScript_2 rfl ?_
  refine a_al_0_1 (pc' := 6) dX7_isScript_5 rfl ?_
  refine k_VV (pc' := 9) (ct_X7_skips hn (T := M 55) (a := 0) (Nat.zero_le _) _ (by rw [wr_eq, setR_same, upd_at, if_neg (by decide)]; exact hl) (by rw [wr_eq, setR_same]; rfl) (wr_rne _ _ _ (by decide))) cw_X7_153 mi_X7_skips se_X7_skips rfl rfl rfl rfl (by decide) (by decide) (Nat.le_of_ble_eq_true rfl) rfl dX7_isScript_6 rfl ?_
  rw [wr_wr]
  refine lp_X7_isScript hn M (fun v M' h => h) (n + 1) 0 _ (by omega) (skp_b _ (Nat.zero_le _)).2 (wr_rne _ _ _ (by decide)) (by rw [wr_eq, setR_same, upd_at, if_neg (by decide)]; exact hl) (by rw [wr_eq, setR_same]; rfl) (fun j h => absurd h (Nat.not_lt_zero j)) (fun q a b => wr_rne _ _ _ b) (fun i a b => by rw [wr_eq, setR_same, upd_at, if_neg a])
