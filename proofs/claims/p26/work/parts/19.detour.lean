theorem shr1_ne (F : Nat → Int32) {p i : Nat} (vs k c : Int32) (h : i ≠ 63 + 10 * p + 5) (h2 : i ≠ 63 + 10 * p + 9) : shr1 F p vs k c i = F i := by
  unfold shr1
  split
  · split
    · rw [upd_at, if_neg h]
    · rw [upd_at, if_neg h2, upd_at, if_neg h]
  · rw [upd_at, if_neg h2, upd_at, if_neg h]
theorem shrL_ne (s vs k c : Int32) {i : Nat} (hi : ∀ p, i ≠ 63 + 10 * p + 5 ∧ i ≠ 63 + 10 * p + 9) : ∀ (n p : Nat) (F : Nat → Int32), shrL s vs k c n p F i = F i := by
  intro n
  induction n with
  | zero => intro p F; rfl
  | succ n ih =>
    intro p F
    unfold shrL
    rw [ih]
    split
    · exact shr1_ne F _ _ _ (hi p).1 (hi p).2
    · rfl
theorem shrL_1 (F : Nat → Int32) (s c : Int32) (np : Nat) : sbvF F s c np 1 = F 1 := shrL_ne _ _ _ _ (fun p => ⟨by omega, by omega⟩) _ _ _
set_option maxRecDepth 20000 in
set_option maxHeartbeats 4000000 in
theorem ct_X3_isIn (s p : Int32) (M : Mm) : Ct yX3_isIn cX3_isIn 2 (some .boolean) 0 0 [.inl s, .inl p] M (RT (bitB s p) M) := by
  refine Ct.at RX3 rfl (by decide +kernel) (Nat.le_of_ble_eq_true rfl) [some (.inl s), some (.inl p)] rfl (fun G => ?_)
  refine a_il_0_2 (pc' := 1) dX3_isIn_0 rfl ?_
  refine a_il_1_2 (pc' := 2) dX3_isIn_1 rfl ?_
  refine a_ishr (pc' := 3) dX3_isIn_2 rfl ?_
  refine a_iconst (v := nI 1) (pc' := 4) dX3_isIn_3 (by decide) rfl ?_
  refine a_iand (pc' := 5) dX3_isIn_4 rfl ?_
  refine a_iconst (v := nI 1) (pc' := 6) dX3_isIn_5 (by decide) rfl ?_
  refine a_icmp_ne (pc' := 9) (tgt := 13) dX3_isIn_6 (by decide) rfl (fun c_6 => ?_) (fun c_6 => ?_)
  · refine a_iconst (v := nI 0) (pc' := 14) dX3_isIn_13 (by decide) rfl ?_
    refine a_iret dX3_isIn_14 rfl rfl ?_
    exact fB0 (by simp [bitB, c_6])
  · refine a_iconst (v := nI 1) (pc' := 10) dX3_isIn_9 (by decide) rfl ?_
    refine a_goto (pc' := 14) dX3_isIn_10 (by decide) ?_
    refine a_iret dX3_isIn_14 rfl rfl ?_
    exact fB1 (by simp [bitB, c_6])
set_option maxRecDepth 20000 in
set_option maxHeartbeats 4000000 in
theorem lp_sbv1 {G : Gl} {Φ : Option OV → Mm → Prop} {q np : Nat} (hq : q < 9) (hn : np ≤ 12) (s c : Int32) (x5 : Option OV) (M : Mm) (h1 : M q 1 = nI np) : ∀ (n p : Nat) (acc : Int32), p + n = np → (AW G cX3_shareByValues RX3 6 1 21 none Φ 42 [some (.inr (3, q, 0, 0)), some (.inl s), some (.inl c), some (.inl (valL (M q) s n p acc)), some (.inl (nI np)), x5] [] M) → AW G cX3_shareByValues RX3 6 1 21 none Φ 5 [some (.inr (3, q, 0, 0)), some (.inl s), some (.inl c), some (.inl acc), some (.inl (nI p)), x5] [] M := by
  intro n
  induction n with
  | zero =>
    intro p acc he  hΦ
    refine a_il_4_6 (pc' := 7) dX3_shareByValues_5 rfl ?_
    refine a_al_0_6 (pc' := 8) dX3_shareByValues_7 rfl ?_
    refine gf_3_5 (pc' := 11) (by omega) fl_X3_41 dX3_shareByValues_8 rfl ?_
    rw [h1]
    refine a_icmp_ge (pc' := 14) (tgt := 42) dX3_shareByValues_11 (by decide) rfl (fun c_11 => ?_) (fun c_11 => absurd (nI_le (by omega) (by omega)) c_11)
    obtain rfl : p = np := by omega
    exact hΦ
  | succ n ih =>
    intro p acc he  hΦ
    refine a_il_4_6 (pc' := 7) dX3_shareByValues_5 rfl ?_
    refine a_al_0_6 (pc' := 8) dX3_shareByValues_7 rfl ?_
    refine gf_3_5 (pc' := 11) (by omega) fl_X3_41 dX3_shareByValues_8 rfl ?_
    rw [h1]
    refine a_icmp_ge (pc' := 14) (tgt := 42) dX3_shareByValues_11 (by decide) rfl (fun c_11 => absurd c_11 (nI_ge (by omega) (by omega))) (fun c_11 => ?_)
    refine a_il_1_6 (pc' := 15) dX3_shareByValues_14 rfl ?_
    refine a_il_4_6 (pc' := 17) dX3_shareByValues_15 rfl ?_
    refine k_SI (pc' := 20) (ct_X3_isIn _ _ _) cw_X3_167 ms_X3_isIn rfl (by decide) (by decide) (Nat.le_of_ble_eq_true rfl) rfl dX3_shareByValues_17 rfl ?_
    refine a_ifB_eq (pc' := 23) (tgt := 36) dX3_shareByValues_20 (by decide) rfl (fun c_20 => ?_) (fun c_20 => ?_)
    · refine a_iN_4_6 (m := p + 1) (pc' := 39) dX3_shareByValues_36 (nI_add _ _) rfl ?_
      refine a_goto (pc' := 5) dX3_shareByValues_39 (by decide) ?_
      exact ih (p + 1) _ (by omega) (by simpa [valL, c_20] using hΦ)
    · refine a_il_3_6 (pc' := 24) dX3_shareByValues_23 rfl ?_
      refine a_al_0_6 (pc' := 25) dX3_shareByValues_24 rfl ?_
      refine gf_3_7 (pc' := 28) (by omega) fl_X3_29 dX3_shareByValues_25 rfl ?_
      refine a_il_4_6 (pc' := 30) dX3_shareByValues_28 rfl ?_
      refine aN_10 (j := p) (pc' := 31) (by omega) (by omega) dX3_shareByValues_30 rfl ?_
      refine gf_1_4 (pc' := 34) (by omega) (by omega) fl_X3_176 dX3_shareByValues_31 rfl ?_
      refine a_iadd (pc' := 35) dX3_shareByValues_34 rfl ?_
      refine a_is_3_6 (pc' := 36) dX3_shareByValues_35 rfl ?_
      refine a_iN_4_6 (m := p + 1) (pc' := 39) dX3_shareByValues_36 (nI_add _ _) rfl ?_
      refine a_goto (pc' := 5) dX3_shareByValues_39 (by decide) ?_
      exact ih (p + 1) _ (by omega) (by simpa [valL, c_20] using hΦ)
set_option maxRecDepth 20000 in
set_option maxHeartbeats 4000000 in
theorem lp_sbv2 {G : Gl} {Φ : Option OV → Mm → Prop} {q np : Nat} (hq : q < 9) (hn : np ≤ 12) (s c vs kk : Int32) : ∀ (n p : Nat) (M : Mm), p + n = np → (M q 1 = nI np) → (Φ none (setR M q (shrL s vs kk c n p (M q)))) → AW G cX3_shareByValues RX3 6 1 21 none Φ 51 [some (.inr (3, q, 0, 0)), some (.inl s), some (.inl c), some (.inl vs), some (.inl kk), some (.inl (nI p))] [] M := by
  intro n
  induction n with
  | zero =>
    intro p M he h1 hΦ
    refine a_il_5_6 (pc' := 53) dX3_shareByValues_51 rfl ?_
    refine a_al_0_6 (pc' := 54) dX3_shareByValues_53 rfl ?_
    refine gf_3_5 (pc' := 57) (by omega) fl_X3_41 dX3_shareByValues_54 rfl ?_
    rw [h1]
    refine a_icmp_ge (pc' := 60) (tgt := 136) dX3_shareByValues_57 (by decide) rfl (fun c_57 => ?_) (fun c_57 => absurd (nI_le (by omega) (by omega)) c_57)
    refine a_vret dX3_shareByValues_136 rfl ?_
    rw [show setR M q (shrL s vs kk c 0 p (M q)) = M from setR_self M q] at hΦ
    exact hΦ
  | succ n ih =>
    intro p M he h1 hΦ
    refine a_il_5_6 (pc' := 53) dX3_shareByValues_51 rfl ?_
    refine a_al_0_6 (pc' := 54) dX3_shareByValues_53 rfl ?_
    refine gf_3_5 (pc' := 57) (by omega) fl_X3_41 dX3_shareByValues_54 rfl ?_
    rw [h1]
    refine a_icmp_ge (pc' := 60) (tgt := 136) dX3_shareByValues_57 (by decide) rfl (fun c_57 => absurd c_57 (nI_ge (by omega) (by omega))) (fun c_57 => ?_)
    refine a_il_1_6 (pc' := 61) dX3_shareByValues_60 rfl ?_
    refine a_il_5_6 (pc' := 63) dX3_shareByValues_61 rfl ?_
    refine k_SI (pc' := 66) (ct_X3_isIn _ _ _) cw_X3_167 ms_X3_isIn rfl (by decide) (by decide) (Nat.le_of_ble_eq_true rfl) rfl dX3_shareByValues_63 rfl ?_
    refine a_ifB_eq (pc' := 69) (tgt := 130) dX3_shareByValues_66 (by decide) rfl (fun c_66 => ?_) (fun c_66 => ?_)
    · refine a_iN_5_6 (m := p + 1) (pc' := 133) dX3_shareByValues_130 (nI_add _ _) rfl ?_
      refine a_goto (pc' := 51) dX3_shareByValues_133 (by decide) ?_
      exact ih (p + 1) _ (by omega) h1 (by simpa [shrL, c_66] using hΦ)
    · refine a_al_0_6 (pc' := 70) dX3_shareByValues_69 rfl ?_
      refine gf_3_7 (pc' := 73) (by omega) fl_X3_29 dX3_shareByValues_70 rfl ?_
      refine a_il_5_6 (pc' := 75) dX3_shareByValues_73 rfl ?_
      refine aN_10 (j := p) (pc' := 76) (by omega) (by omega) dX3_shareByValues_75 rfl ?_
      refine a_iconst (v := nI 3) (pc' := 77) dX3_shareByValues_76 (by decide) rfl ?_
      refine pf_1_5 (pc' := 80) (by omega) (by omega) fl_X3_161 dX3_shareByValues_77 rfl ?_
      refine a_il_3_6 (pc' := 81) dX3_shareByValues_80 rfl ?_
      refine a_if_le (pc' := 84) (tgt := 111) dX3_shareByValues_81 (by decide) rfl (fun c_81 => ?_) (fun c_81 => ?_)
      · refine a_il_4_6 (pc' := 113) dX3_shareByValues_111 rfl ?_
        refine a_if_le (pc' := 116) (tgt := 130) dX3_shareByValues_113 (by decide) rfl (fun c_113 => ?_) (fun c_113 => ?_)
        · refine a_iN_5_6 (m := p + 1) (pc' := 133) dX3_shareByValues_130 (nI_add _ _) rfl ?_
          refine a_goto (pc' := 51) dX3_shareByValues_133 (by decide) ?_
          exact ih (p + 1) _ (by omega) (by first | exact h1 | (simp [wr_eq, setR_same, setR_setR, upd_at]; exact h1)) (by simpa [shrL, shr1, wr_eq, setR_same, setR_setR, upd_at, c_66, c_81, c_113, -Int32.not_le, -Int32.not_lt] using hΦ)
        · refine a_al_0_6 (pc' := 117) dX3_shareByValues_116 rfl ?_
          refine gf_3_7 (pc' := 120) (by omega) fl_X3_29 dX3_shareByValues_117 rfl ?_
          refine a_il_5_6 (pc' := 122) dX3_shareByValues_120 rfl ?_
          refine aN_10 (j := p) (pc' := 123) (by omega) (by omega) dX3_shareByValues_122 rfl ?_
          refine a_il_2_6 (pc' := 124) dX3_shareByValues_123 rfl ?_
          refine a_il_4_6 (pc' := 126) dX3_shareByValues_124 rfl ?_
          refine a_idiv (pc' := 127) dX3_shareByValues_126 (fun w9 => c_113 (by rw [w9]; decide)) rfl ?_
          refine pf_1_9 (pc' := 130) (by omega) (by omega) fl_X3_177 dX3_shareByValues_127 rfl ?_
          refine a_iN_5_6 (m := p + 1) (pc' := 133) dX3_shareByValues_130 (nI_add _ _) rfl ?_
          refine a_goto (pc' := 51) dX3_shareByValues_133 (by decide) ?_
          exact ih (p + 1) _ (by omega) (by first | exact h1 | (simp [wr_eq, setR_same, setR_setR, upd_at]; exact h1)) (by simpa [shrL, shr1, wr_eq, setR_same, setR_setR, upd_at, c_66, c_81, c_113, -Int32.not_le, -Int32.not_lt] using hΦ)
      · refine a_al_0_6 (pc' := 85) dX3_shareByValues_84 rfl ?_
        refine gf_3_7 (pc' := 88) (by omega) fl_X3_29 dX3_shareByValues_85 rfl ?_
        refine a_il_5_6 (pc' := 90) dX3_shareByValues_88 rfl ?_
        refine aN_10 (j := p) (pc' := 91) (by omega) (by omega) dX3_shareByValues_90 rfl ?_
        refine a_il_2_6 (pc' := 92) dX3_shareByValues_91 rfl ?_
        refine a_al_0_6 (pc' := 93) dX3_shareByValues_92 rfl ?_
        refine gf_3_7 (pc' := 96) (by omega) fl_X3_29 dX3_shareByValues_93 rfl ?_
        refine a_il_5_6 (pc' := 98) dX3_shareByValues_96 rfl ?_
        refine aN_10 (j := p) (pc' := 99) (by omega) (by omega) dX3_shareByValues_98 rfl ?_
        refine gf_1_4 (pc' := 102) (by omega) (by omega) fl_X3_176 dX3_shareByValues_99 rfl ?_
        refine a_imul (pc' := 103) dX3_shareByValues_102 rfl ?_
        refine a_il_3_6 (pc' := 104) dX3_shareByValues_103 rfl ?_
        refine a_idiv (pc' := 105) dX3_shareByValues_104 (fun w9 => c_81 (by rw [w9]; decide)) rfl ?_
        refine pf_1_9 (pc' := 108) (by omega) (by omega) fl_X3_177 dX3_shareByValues_105 rfl ?_
        refine a_goto (pc' := 130) dX3_shareByValues_108 (by decide) ?_
        refine a_iN_5_6 (m := p + 1) (pc' := 133) dX3_shareByValues_130 (nI_add _ _) rfl ?_
        refine a_goto (pc' := 51) dX3_shareByValues_133 (by decide) ?_
        exact ih (p + 1) _ (by omega) (by first | exact h1 | (simp [wr_eq, setR_same, setR_setR, upd_at]; exact h1)) (by simpa [shrL, shr1, wr_eq, setR_same, setR_setR, upd_at, c_66, c_81, -Int32.not_le, -Int32.not_lt] using hΦ)
set_option maxRecDepth 20000 in
set_option maxHeartbeats 4000000 in
theorem ct_X3_shareByValues {q np : Nat} (hq : q < 9) (hn : np ≤ 12) (s c : Int32) (M : Mm) (h1 : M q 1 = nI np) : Ct yX3_shareByValues cX3_shareByValues 6 none 1 21 [.inr (3, q, 0, 0), .inl s, .inl c] M (RV (setR M q (sbvF (M q) s c np))) := by
  refine Ct.at RX3 rfl (by decide +kernel) (Nat.le_of_ble_eq_true rfl) [some (.inr (3, q, 0, 0)), some (.inl s), some (.inl c), none, none, none] rfl (fun G => ?_)
  refine a_iconst (v := nI 0) (pc' := 1) dX3_shareByValues_0 (by decide) rfl ?_
  refine a_is_3_6 (pc' := 2) dX3_shareByValues_1 rfl ?_
  refine a_iconst (v := nI 0) (pc' := 3) dX3_shareByValues_2 (by decide) rfl ?_
  refine a_is_4_6 (pc' := 5) dX3_shareByValues_3 rfl ?_
  refine lp_sbv1 hq hn _ _ _ _ h1 np 0 _ (by omega) ?_
  refine a_il_1_6 (pc' := 43) dX3_shareByValues_42 rfl ?_
  refine k_SI (pc' := 46) (ct_J6_bitCount_0f7a4 _ _) cw_X3_131 ms_J6_bitCount_0f7a4 rfl (by decide) (by decide) (Nat.le_of_ble_eq_true rfl) rfl dX3_shareByValues_43 rfl ?_
  refine a_is_4_6 (pc' := 48) dX3_shareByValues_46 rfl ?_
  refine a_iconst (v := nI 0) (pc' := 49) dX3_shareByValues_48 (by decide) rfl ?_
  refine a_is_5_6 (pc' := 51) dX3_shareByValues_49 rfl ?_
  exact lp_sbv2 hq hn _ _ _ _ np 0 _ (by omega) h1 ⟨rfl, rfl⟩
set_option maxRecDepth 20000 in
set_option maxHeartbeats 4000000 in
theorem lp_srt1 {G : Gl} {Φ : Option OV → Mm → Prop} {q np : Nat} (hq : q < 9) (hn : np ≤ 12) (s c : Int32) (x5 : Option OV) (M : Mm) (h1 : M q 1 = nI np) : ∀ (n p : Nat) (acc : Int32), p + n = np → (AW G cX3_shareRest RX3 6 1 21 (some .int) Φ 42 [some (.inr (3, q, 0, 0)), some (.inl s), some (.inl c), some (.inl (rstL (M q) s n p acc)), some (.inl (nI np)), x5] [] M) → AW G cX3_shareRest RX3 6 1 21 (some .int) Φ 5 [some (.inr (3, q, 0, 0)), some (.inl s), some (.inl c), some (.inl acc), some (.inl (nI p)), x5] [] M := by
  intro n
  induction n with
  | zero =>
    intro p acc he  hΦ
    refine a_il_4_6 (pc' := 7) dX3_shareRest_5 rfl ?_
    refine a_al_0_6 (pc' := 8) dX3_shareRest_7 rfl ?_
    refine gf_3_5 (pc' := 11) (by omega) fl_X3_41 dX3_shareRest_8 rfl ?_
    rw [h1]
    refine a_icmp_ge (pc' := 14) (tgt := 42) dX3_shareRest_11 (by decide) rfl (fun c_11 => ?_) (fun c_11 => absurd (nI_le (by omega) (by omega)) c_11)
    obtain rfl : p = np := by omega
    exact hΦ
  | succ n ih =>
    intro p acc he  hΦ
    refine a_il_4_6 (pc' := 7) dX3_shareRest_5 rfl ?_
    refine a_al_0_6 (pc' := 8) dX3_shareRest_7 rfl ?_
    refine gf_3_5 (pc' := 11) (by omega) fl_X3_41 dX3_shareRest_8 rfl ?_
    rw [h1]
    refine a_icmp_ge (pc' := 14) (tgt := 42) dX3_shareRest_11 (by decide) rfl (fun c_11 => absurd c_11 (nI_ge (by omega) (by omega))) (fun c_11 => ?_)
    refine a_il_1_6 (pc' := 15) dX3_shareRest_14 rfl ?_
    refine a_il_4_6 (pc' := 17) dX3_shareRest_15 rfl ?_
    refine k_SI (pc' := 20) (ct_X3_isIn _ _ _) cw_X3_167 ms_X3_isIn rfl (by decide) (by decide) (Nat.le_of_ble_eq_true rfl) rfl dX3_shareRest_17 rfl ?_
    refine a_ifB_eq (pc' := 23) (tgt := 36) dX3_shareRest_20 (by decide) rfl (fun c_20 => ?_) (fun c_20 => ?_)
    · refine a_iN_4_6 (m := p + 1) (pc' := 39) dX3_shareRest_36 (nI_add _ _) rfl ?_
      refine a_goto (pc' := 5) dX3_shareRest_39 (by decide) ?_
      exact ih (p + 1) _ (by omega) (by simpa [rstL, c_20] using hΦ)
    · refine a_il_3_6 (pc' := 24) dX3_shareRest_23 rfl ?_
      refine a_al_0_6 (pc' := 25) dX3_shareRest_24 rfl ?_
      refine gf_3_7 (pc' := 28) (by omega) fl_X3_29 dX3_shareRest_25 rfl ?_
      refine a_il_4_6 (pc' := 30) dX3_shareRest_28 rfl ?_
      refine aN_10 (j := p) (pc' := 31) (by omega) (by omega) dX3_shareRest_30 rfl ?_
      refine gf_1_9 (pc' := 34) (by omega) (by omega) fl_X3_177 dX3_shareRest_31 rfl ?_
      refine a_isub (pc' := 35) dX3_shareRest_34 rfl ?_
      refine a_is_3_6 (pc' := 36) dX3_shareRest_35 rfl ?_
      refine a_iN_4_6 (m := p + 1) (pc' := 39) dX3_shareRest_36 (nI_add _ _) rfl ?_
      refine a_goto (pc' := 5) dX3_shareRest_39 (by decide) ?_
      exact ih (p + 1) _ (by omega) (by simpa [rstL, c_20] using hΦ)
set_option maxRecDepth 20000 in
set_option maxHeartbeats 4000000 in
theorem lp_srt2 {G : Gl} {Φ : Option OV → Mm → Prop} {q np : Nat} (hq : q < 9) (hn : np ≤ 12) (s c : Int32) : ∀ (n p : Nat) (M : Mm) (r g : Int32), p + n = np → (M q 1 = nI np) → (Φ (some (.inl (grtL s n p (M q) r g))) (setR M q (givL s n p (M q) r))) → AW G cX3_shareRest RX3 6 1 21 (some .int) Φ 48 [some (.inr (3, q, 0, 0)), some (.inl s), some (.inl c), some (.inl r), some (.inl g), some (.inl (nI p))] [] M := by
  intro n
  induction n with
  | zero =>
    intro p M r g he h1 hΦ
    refine a_il_5_6 (pc' := 50) dX3_shareRest_48 rfl ?_
    refine a_al_0_6 (pc' := 51) dX3_shareRest_50 rfl ?_
    refine gf_3_5 (pc' := 54) (by omega) fl_X3_41 dX3_shareRest_51 rfl ?_
    rw [h1]
    refine a_icmp_ge (pc' := 57) (tgt := 112) dX3_shareRest_54 (by decide) rfl (fun c_54 => ?_) (fun c_54 => absurd (nI_le (by omega) (by omega)) c_54)
    refine a_il_4_6 (pc' := 114) dX3_shareRest_112 rfl ?_
    refine a_iret dX3_shareRest_114 rfl rfl ?_
    rw [show setR M q (givL s 0 p (M q) r) = M from setR_self M q] at hΦ
    exact hΦ
  | succ n ih =>
    intro p M r g he h1 hΦ
    refine a_il_5_6 (pc' := 50) dX3_shareRest_48 rfl ?_
    refine a_al_0_6 (pc' := 51) dX3_shareRest_50 rfl ?_
    refine gf_3_5 (pc' := 54) (by omega) fl_X3_41 dX3_shareRest_51 rfl ?_
    rw [h1]
    refine a_icmp_ge (pc' := 57) (tgt := 112) dX3_shareRest_54 (by decide) rfl (fun c_54 => absurd c_54 (nI_ge (by omega) (by omega))) (fun c_54 => ?_)
    refine a_il_1_6 (pc' := 58) dX3_shareRest_57 rfl ?_
    refine a_il_5_6 (pc' := 60) dX3_shareRest_58 rfl ?_
    refine k_SI (pc' := 63) (ct_X3_isIn _ _ _) cw_X3_167 ms_X3_isIn rfl (by decide) (by decide) (Nat.le_of_ble_eq_true rfl) rfl dX3_shareRest_60 rfl ?_
    refine a_ifB_eq (pc' := 66) (tgt := 106) dX3_shareRest_63 (by decide) rfl (fun c_63 => ?_) (fun c_63 => ?_)
    · refine a_iN_5_6 (m := p + 1) (pc' := 109) dX3_shareRest_106 (nI_add _ _) rfl ?_
      refine a_goto (pc' := 48) dX3_shareRest_109 (by decide) ?_
      exact ih (p + 1) _ _ _ (by omega) h1 (by simpa [givL, grtL, c_63] using hΦ)
    · refine a_il_3_6 (pc' := 67) dX3_shareRest_66 rfl ?_
      refine a_if_le (pc' := 70) (tgt := 89) dX3_shareRest_67 (by decide) rfl (fun c_67 => ?_) (fun c_67 => ?_)
      · refine a_il_4_6 (pc' := 91) dX3_shareRest_89 rfl ?_
        refine a_al_0_6 (pc' := 92) dX3_shareRest_91 rfl ?_
        refine gf_3_7 (pc' := 95) (by omega) fl_X3_29 dX3_shareRest_92 rfl ?_
        refine a_il_5_6 (pc' := 97) dX3_shareRest_95 rfl ?_
        refine aN_10 (j := p) (pc' := 98) (by omega) (by omega) dX3_shareRest_97 rfl ?_
        refine gf_1_9 (pc' := 101) (by omega) (by omega) fl_X3_177 dX3_shareRest_98 rfl ?_
        refine k_SI (pc' := 104) (ct_J9_max_7cf53 _ _ _) cw_X3_180 ms_J9_max_7cf53 rfl (by decide) (by decide) (Nat.le_of_ble_eq_true rfl) rfl dX3_shareRest_101 rfl ?_
        refine a_is_4_6 (pc' := 106) dX3_shareRest_104 rfl ?_
        refine a_iN_5_6 (m := p + 1) (pc' := 109) dX3_shareRest_106 (nI_add _ _) rfl ?_
        refine a_goto (pc' := 48) dX3_shareRest_109 (by decide) ?_
        exact ih (p + 1) _ _ _ (by omega) (by first | exact h1 | (simp [wr_eq, setR_same, setR_setR, upd_at]; exact h1)) (by simpa [givL, grtL, giv1, wr_eq, setR_same, setR_setR, upd_at, c_63, c_67, -Int32.not_le, -Int32.not_lt] using hΦ)
      · refine a_al_0_6 (pc' := 71) dX3_shareRest_70 rfl ?_
        refine gf_3_7 (pc' := 74) (by omega) fl_X3_29 dX3_shareRest_71 rfl ?_
        refine a_il_5_6 (pc' := 76) dX3_shareRest_74 rfl ?_
        refine aN_10 (j := p) (pc' := 77) (by omega) (by omega) dX3_shareRest_76 rfl ?_
        refine a_dup (pc' := 78) dX3_shareRest_77 rfl ?_
        refine gf_1_9 (pc' := 81) (by omega) (by omega) fl_X3_177 dX3_shareRest_78 rfl ?_
        refine a_iconst (v := nI 1) (pc' := 82) dX3_shareRest_81 (by decide) rfl ?_
        refine a_iadd (pc' := 83) dX3_shareRest_82 rfl ?_
        refine pf_1_9 (pc' := 86) (by omega) (by omega) fl_X3_177 dX3_shareRest_83 rfl ?_
        refine a_in_3_6 (c9 := (-1)) (pc' := 89) dX3_shareRest_86 (by decide) rfl ?_
        refine a_il_4_6 (pc' := 91) dX3_shareRest_89 rfl ?_
        refine a_al_0_6 (pc' := 92) dX3_shareRest_91 rfl ?_
        refine gf_3_7 (pc' := 95) (by omega) fl_X3_29 dX3_shareRest_92 rfl ?_
        refine a_il_5_6 (pc' := 97) dX3_shareRest_95 rfl ?_
        refine aN_10 (j := p) (pc' := 98) (by omega) (by omega) dX3_shareRest_97 rfl ?_
        refine gf_1_9 (pc' := 101) (by omega) (by omega) fl_X3_177 dX3_shareRest_98 rfl ?_
        refine k_SI (pc' := 104) (ct_J9_max_7cf53 _ _ _) cw_X3_180 ms_J9_max_7cf53 rfl (by decide) (by decide) (Nat.le_of_ble_eq_true rfl) rfl dX3_shareRest_101 rfl ?_
        refine a_is_4_6 (pc' := 106) dX3_shareRest_104 rfl ?_
        refine a_iN_5_6 (m := p + 1) (pc' := 109) dX3_shareRest_106 (nI_add _ _) rfl ?_
        refine a_goto (pc' := 48) dX3_shareRest_109 (by decide) ?_
        exact ih (p + 1) _ _ _ (by omega) (by first | exact h1 | (simp [wr_eq, setR_same, setR_setR, upd_at]; exact h1)) (by simpa [givL, grtL, giv1, wr_eq, setR_same, setR_setR, upd_at, c_63, c_67, -Int32.not_le, -Int32.not_lt] using hΦ)
set_option maxRecDepth 20000 in
set_option maxHeartbeats 4000000 in
theorem ct_X3_shareRest {q np : Nat} (hq : q < 9) (hn : np ≤ 12) (s c : Int32) (M : Mm) (h1 : M q 1 = nI np) : Ct yX3_shareRest cX3_shareRest 6 (some .int) 1 21 [.inr (3, q, 0, 0), .inl s, .inl c] M (RI (grtL s np 0 (M q) (rstL (M q) s np 0 c) (nI 0)) (setR M q (givL s np 0 (M q) (rstL (M q) s np 0 c)))) := by
  refine Ct.at RX3 rfl (by decide +kernel) (Nat.le_of_ble_eq_true rfl) [some (.inr (3, q, 0, 0)), some (.inl s), some (.inl c), none, none, none] rfl (fun G => ?_)
  refine a_il_2_6 (pc' := 1) dX3_shareRest_0 rfl ?_
  refine a_is_3_6 (pc' := 2) dX3_shareRest_1 rfl ?_
  refine a_iconst (v := nI 0) (pc' := 3) dX3_shareRest_2 (by decide) rfl ?_
  refine a_is_4_6 (pc' := 5) dX3_shareRest_3 rfl ?_
  refine lp_srt1 hq hn _ _ _ _ h1 np 0 _ (by omega) ?_
  refine a_iconst (v := nI 0) (pc' := 43) dX3_shareRest_42 (by decide) rfl ?_
  refine a_is_4_6 (pc' := 45) dX3_shareRest_43 rfl ?_
  refine a_iconst (v := nI 0) (pc' := 46) dX3_shareRest_45 (by decide) rfl ?_
  refine a_is_5_6 (pc' := 48) dX3_shareRest_46 rfl ?_
  exact lp_srt2 hq hn _ _ np 0 _ _ _ (by omega) h1 ⟨rfl, rfl⟩
set_option maxRecDepth 20000 in
set_option maxHeartbeats 4000000 in
theorem lp_bbk {G : Gl} {Φ : Option OV → Mm → Prop} {q np : Nat} (hq : q < 9) (hn : np ≤ 12) (s c : Int32) (M : Mm) (h1 : M q 1 = nI np) : ∀ (n p : Nat) , p + n = np → (badL (M q) s n p = true → Φ (some (.inl (-100002))) M) → (badL (M q) s n p = false → AW G cX3_bringBack RX3 4 2 46 (some .int) Φ 65 [some (.inr (3, q, 0, 0)), some (.inl s), some (.inl c), some (.inl (nI np))] [] M) → AW G cX3_bringBack RX3 4 2 46 (some .int) Φ 27 [some (.inr (3, q, 0, 0)), some (.inl s), some (.inl c), some (.inl (nI p))] [] M := by
  intro n
  induction n with
  | zero =>
    intro p  he hbad hΦ
    refine a_il_3_4 (pc' := 28) dX3_bringBack_27 rfl ?_
    refine a_al_0_4 (pc' := 29) dX3_bringBack_28 rfl ?_
    refine gf_3_5 (pc' := 32) (by omega) fl_X3_41 dX3_bringBack_29 rfl ?_
    rw [h1]
    refine a_icmp_ge (pc' := 35) (tgt := 65) dX3_bringBack_32 (by decide) rfl (fun c_32 => ?_) (fun c_32 => absurd (nI_le (by omega) (by omega)) c_32)
    obtain rfl : p = np := by omega
    exact hΦ rfl
  | succ n ih =>
    intro p  he hbad hΦ
    refine a_il_3_4 (pc' := 28) dX3_bringBack_27 rfl ?_
    refine a_al_0_4 (pc' := 29) dX3_bringBack_28 rfl ?_
    refine gf_3_5 (pc' := 32) (by omega) fl_X3_41 dX3_bringBack_29 rfl ?_
    rw [h1]
    refine a_icmp_ge (pc' := 35) (tgt := 65) dX3_bringBack_32 (by decide) rfl (fun c_32 => absurd c_32 (nI_ge (by omega) (by omega))) (fun c_32 => ?_)
    refine a_il_1_4 (pc' := 36) dX3_bringBack_35 rfl ?_
    refine a_il_3_4 (pc' := 37) dX3_bringBack_36 rfl ?_
    refine k_SI (pc' := 40) (ct_X3_isIn _ _ _) cw_X3_167 ms_X3_isIn rfl (by decide) (by decide) (Nat.le_of_ble_eq_true rfl) rfl dX3_bringBack_37 rfl ?_
    refine a_ifB_eq (pc' := 43) (tgt := 59) dX3_bringBack_40 (by decide) rfl (fun c_40 => ?_) (fun c_40 => ?_)
    · refine a_iN_3_4 (m := p + 1) (pc' := 62) dX3_bringBack_59 (nI_add _ _) rfl ?_
      refine a_goto (pc' := 27) dX3_bringBack_62 (by decide) ?_
      exact ih (p + 1) (by omega) (by simpa [badL, c_40] using hbad) (by simpa [badL, c_40] using hΦ)
    · refine a_al_0_4 (pc' := 44) dX3_bringBack_43 rfl ?_
      refine gf_3_7 (pc' := 47) (by omega) fl_X3_29 dX3_bringBack_44 rfl ?_
      refine a_il_3_4 (pc' := 48) dX3_bringBack_47 rfl ?_
      refine aN_10 (j := p) (pc' := 49) (by omega) (by omega) dX3_bringBack_48 rfl ?_
      refine gf_1_5 (pc' := 52) (by omega) (by omega) fl_X3_161 dX3_bringBack_49 rfl ?_
      refine a_iconst (v := nI 2) (pc' := 53) dX3_bringBack_52 (by decide) rfl ?_
      refine a_icmp_eq (pc' := 56) (tgt := 59) dX3_bringBack_53 (by decide) rfl (fun c_53 => ?_) (fun c_53 => ?_)
      · refine a_iN_3_4 (m := p + 1) (pc' := 62) dX3_bringBack_59 (nI_add _ _) rfl ?_
        refine a_goto (pc' := 27) dX3_bringBack_62 (by decide) ?_
        exact ih (p + 1) (by omega) (by simpa [badL, c_40, c_53] using hbad) (by simpa [badL, c_40, c_53] using hΦ)
      · refine a_ldc (pc' := 58) dX3_bringBack_56 cn_X3_119 rfl ?_
        refine a_iret dX3_bringBack_58 rfl rfl ?_
        exact hbad (by simp [badL, c_40, c_53])
set_option maxRecDepth 20000 in
set_option maxHeartbeats 4000000 in
theorem ct_X3_bringBack {q np : Nat} (hq : q < 9) (hn : np ≤ 12) (s c : Int32) (M : Mm) (h1 : M q 1 = nI np) : Ct yX3_bringBack cX3_bringBack 4 (some .int) 2 46 [.inr (3, q, 0, 0), .inl s, .inl c] M (RI (dtR (M q) s c) (setR M q (dtF (M q) s c))) := by
  refine Ct.at RX3 rfl (by decide +kernel) (Nat.le_of_ble_eq_true rfl) [some (.inr (3, q, 0, 0)), some (.inl s), some (.inl c), none] rfl (fun G => ?_)
  refine a_il_1_4 (pc' := 1) dX3_bringBack_0 rfl ?_
  refine a_iconst (v := nI 1) (pc' := 2) dX3_bringBack_1 (by decide) rfl ?_
  refine a_icmp_lt (pc' := 5) (tgt := 22) dX3_bringBack_2 (by decide) rfl (fun c_2 => ?_) (fun c_2 => ?_)
  · refine a_ldc (pc' := 24) dX3_bringBack_22 cn_X3_83 rfl ?_
    refine a_iret dX3_bringBack_24 rfl rfl ?_
    refine fIM ?_ ?_
    · simp [dtR, dtB, c_2, -Int32.not_le, -Int32.not_lt]
    · simp [dtF, dtB, setR_self, c_2, -Int32.not_le, -Int32.not_lt]
  · refine a_il_1_4 (pc' := 6) dX3_bringBack_5 rfl ?_
    refine a_iconst (v := nI 1) (pc' := 7) dX3_bringBack_6 (by decide) rfl ?_
    refine a_al_0_4 (pc' := 8) dX3_bringBack_7 rfl ?_
    refine gf_3_5 (pc' := 11) (by omega) fl_X3_41 dX3_bringBack_8 rfl ?_
    refine a_ishl (pc' := 12) dX3_bringBack_11 rfl ?_
    refine a_icmp_ge (pc' := 15) (tgt := 22) dX3_bringBack_12 (by decide) rfl (fun c_12 => ?_) (fun c_12 => ?_)
    · refine a_ldc (pc' := 24) dX3_bringBack_22 cn_X3_83 rfl ?_
      refine a_iret dX3_bringBack_24 rfl rfl ?_
      refine fIM ?_ ?_
      · simp [dtR, dtB, c_2, c_12, -Int32.not_le, -Int32.not_lt]
      · simp [dtF, dtB, setR_self, c_2, c_12, -Int32.not_le, -Int32.not_lt]
    · refine a_il_2_4 (pc' := 16) dX3_bringBack_15 rfl ?_
      refine k_NI (pc' := 19) (ct_X6_isPrice _ _) cw_X3_113 ms_X6_isPrice rfl (by decide) (by decide) (Nat.le_of_ble_eq_true rfl) rfl dX3_bringBack_16 rfl ?_
      refine a_ifB_ne (pc' := 22) (tgt := 25) dX3_bringBack_19 (by decide) rfl (fun c_19 => ?_) (fun c_19 => ?_)
      · have hnp : npF (M q) = np := by unfold npF; rw [h1]; exact nI_clamp (by omega)
        refine a_iconst (v := nI 0) (pc' := 26) dX3_bringBack_25 (by decide) rfl ?_
        refine a_is_3_4 (pc' := 27) dX3_bringBack_26 rfl ?_
        refine lp_bbk hq hn _ _ _ h1 np 0 (by omega) (fun hb9 => ?_) (fun hb9 => ?_)
        · refine fIM ?_ ?_
          · simp [dtR, dtB, c_2, c_12, c_19, hnp, hb9, -Int32.not_le, -Int32.not_lt]
          · simp [dtF, dtB, setR_self, c_2, c_12, c_19, hnp, hb9, -Int32.not_le, -Int32.not_lt]
        · refine a_al_0_4 (pc' := 66) dX3_bringBack_65 rfl ?_
          refine a_il_1_4 (pc' := 67) dX3_bringBack_66 rfl ?_
          refine a_il_2_4 (pc' := 68) dX3_bringBack_67 rfl ?_
          refine k_VV (pc' := 71) (ct_X3_shareByValues (by omega) (by omega) _ _ _ (by assumption)) cw_X3_169 mi_X3_shareByValues se_X3_shareByValues (ok3 (by omega)) rfl rfl rfl (by decide) (by decide) (Nat.le_of_ble_eq_true rfl) rfl dX3_bringBack_68 rfl ?_
          refine a_al_0_4 (pc' := 72) dX3_bringBack_71 rfl ?_
          refine a_il_1_4 (pc' := 73) dX3_bringBack_72 rfl ?_
          refine a_il_2_4 (pc' := 74) dX3_bringBack_73 rfl ?_
          refine k_VI (pc' := 77) (ct_X3_shareRest (by omega) (by omega) _ _ _ (by rw [setR_same, shrL_1]; exact h1)) cw_X3_173 mi_X3_shareRest se_X3_shareRest (ok3 (by omega)) rfl rfl rfl (by decide) (by decide) (Nat.le_of_ble_eq_true rfl) rfl dX3_bringBack_74 rfl ?_
          refine a_iret dX3_bringBack_77 rfl rfl ?_
          refine fIM ?_ ?_
          · simp [dtR, dtB, setR_same, c_2, c_12, c_19, hnp, hb9, -Int32.not_le, -Int32.not_lt]
          · simp [dtF, dtB, setR_same, setR_setR, c_2, c_12, c_19, hnp, hb9, -Int32.not_le, -Int32.not_lt]
      · refine a_ldc (pc' := 24) dX3_bringBack_22 cn_X3_83 rfl ?_
        refine a_iret dX3_bringBack_24 rfl rfl ?_
        refine fIM ?_ ?_
        · simp [dtR, dtB, c_2, c_12, c_19, -Int32.not_le, -Int32.not_lt]
        · simp [dtF, dtB, setR_self, c_2, c_12, c_19, -Int32.not_le, -Int32.not_lt]
