theorem i32_lt0 {t : Int32} {n : Nat} (h : t < 0) (hn : n < 2 ^ 31) : t < nI n := by
  rw [Int32.lt_iff_toInt_lt] at h ⊢
  rw [nI_toInt hn]
  have e0 : (0 : Int32).toInt = 0 := rfl
  omega
set_option maxRecDepth 20000 in
set_option maxHeartbeats 4000000 in
theorem ct_X6_log {nv : Nat} (hn : nv ≤ 3) {tt : Nat} (ht : tt ≤ 600) (x z t w : Int32) (M : Mm) (h0 : M 0 0 = nI nv) (h2 : M 0 2 = nI tt) (had : ∀ v, v < 3 → ∃ a, a ≤ tt ∧ M 0 (6 + 19 * v + 3) = nI a) : Ct yX6_log cX6_log 5 (some .int) 2 44 [.inr (6, 0, 0, 0), .inl x, .inl z, .inl t, .inl w] M (RI (logS M x z t w) M) := by
  refine Ct.at RX6 rfl (by decide +kernel) (Nat.le_of_ble_eq_true rfl) [some (.inr (6, 0, 0, 0)), some (.inl x), some (.inl z), some (.inl t), some (.inl w)] rfl (fun G => ?_)
  refine a_al_0_5 (pc' := 1) dX6_log_0 rfl ?_
  refine gf_6_0 (pc' := 4) fl_X6_10 dX6_log_1 rfl ?_
  refine a_il_1_5 (pc' := 5) dX6_log_4 rfl ?_
  refine a_il_2_5 (pc' := 6) dX6_log_5 rfl ?_
  refine k_VI (pc' := 9) (ct_X3_hasZone (by omega) _ _ _) cw_X6_156 mi_X3_hasZone se_X3_hasZone (ok3 (by omega)) rfl rfl rfl (by decide) (by decide) (Nat.le_of_ble_eq_true rfl) rfl dX6_log_6 rfl ?_
  refine a_ifB_eq (pc' := 12) (tgt := 27) dX6_log_9 (by decide) rfl (fun c_9 => ?_) (fun c_9 => ?_)
  · refine a_ldc (pc' := 29) dX6_log_27 cn_X6_133 rfl ?_
    refine a_iret dX6_log_29 rfl rfl ?_
    exact fI (by first | (simp [logS, logB, hrow, hcl, hcz, hck, hcj, c_9, -Int32.not_le, -Int32.not_lt]; done) | (simp [logS, logB, hcl, hcz, hck, hcj, c_9, -Int32.not_le, -Int32.not_lt]; done) | simp [logS, logB, c_9, -Int32.not_le, -Int32.not_lt])
  · refine a_il_3_5 (pc' := 13) dX6_log_12 rfl ?_
    refine a_iconst (v := nI 1) (pc' := 14) dX6_log_13 (by decide) rfl ?_
    refine a_icmp_lt (pc' := 17) (tgt := 27) dX6_log_14 (by decide) rfl (fun c_14 => ?_) (fun c_14 => ?_)
    · refine a_ldc (pc' := 29) dX6_log_27 cn_X6_133 rfl ?_
      refine a_iret dX6_log_29 rfl rfl ?_
      exact fI (by first | (simp [logS, logB, hrow, hcl, hcz, hck, hcj, c_9, c_14, -Int32.not_le, -Int32.not_lt]; done) | (simp [logS, logB, hcl, hcz, hck, hcj, c_9, c_14, -Int32.not_le, -Int32.not_lt]; done) | simp [logS, logB, c_9, c_14, -Int32.not_le, -Int32.not_lt])
    · refine a_il_4_5 (pc' := 19) dX6_log_17 rfl ?_
      refine a_iconst (v := nI 0) (pc' := 20) dX6_log_19 (by decide) rfl ?_
      refine a_iconst (v := nI 1) (pc' := 21) dX6_log_20 (by decide) rfl ?_
      refine k_SI (pc' := 24) (ct_X6_isWithin _ _ _ _) cw_X6_196 ms_X6_isWithin rfl (by decide) (by decide) (Nat.le_of_ble_eq_true rfl) rfl dX6_log_21 rfl ?_
      refine a_ifB_ne (pc' := 27) (tgt := 30) dX6_log_24 (by decide) rfl (fun c_24 => ?_) (fun c_24 => ?_)
      · obtain ⟨v, z, hv, hz, rfl, rfl⟩ := hzS_nI c_9 h0 (by omega)
        have hcl : vN (nI v) = v := vN_nI (by omega)
        have hcz : vN (nI z) = z := vN_nI (by omega)
        obtain ⟨k, -, hk, rfl⟩ := inn_nI (a := 0) (b := 1) c_24 (by decide)
        obtain ⟨j, hj1, hj, rfl⟩ := nlt1 c_14
        have hck : vN (nI k) = k := vN_nI (by omega)
        have hcj : vN (nI j) = j := vN_nI (by omega)
        refine a_il_3_5 (pc' := 31) dX6_log_30 rfl ?_
        refine a_al_0_5 (pc' := 32) dX6_log_31 rfl ?_
        refine gf_6_0 (pc' := 35) fl_X6_10 dX6_log_32 rfl ?_
        refine gf_3_0 (pc' := 38) (by omega) fl_X6_115 dX6_log_35 rfl ?_
        refine a_icmp_gt (pc' := 41) (tgt := 57) dX6_log_38 (by decide) rfl (fun c_38 => ?_) (fun c_38 => ?_)
        · refine a_ldc (pc' := 59) dX6_log_57 cn_X6_209 rfl ?_
          refine a_iret dX6_log_59 rfl rfl ?_
          exact fI (by first | (simp [logS, logB, hrow, hcl, hcz, hck, hcj, c_9, c_14, c_24, c_38, -Int32.not_le, -Int32.not_lt]; done) | (simp [logS, logB, hcl, hcz, hck, hcj, c_9, c_14, c_24, c_38, -Int32.not_le, -Int32.not_lt]; done) | simp [logS, logB, c_9, c_14, c_24, c_38, -Int32.not_le, -Int32.not_lt])
        · refine a_al_0_5 (pc' := 42) dX6_log_41 rfl ?_
          refine gf_6_0 (pc' := 45) fl_X6_10 dX6_log_42 rfl ?_
          refine gf_3_6 (pc' := 48) (by omega) fl_X6_137 dX6_log_45 rfl ?_
          refine a_il_1_5 (pc' := 49) dX6_log_48 rfl ?_
          refine aN_12 (j := v) (pc' := 50) (by omega) (by omega) dX6_log_49 rfl ?_
          refine gf_4_3 (pc' := 53) (by omega) (by omega) fl_X6_206 dX6_log_50 rfl ?_
          refine a_il_3_5 (pc' := 54) dX6_log_53 rfl ?_
          refine a_icmp_lt (pc' := 57) (tgt := 60) dX6_log_54 (by decide) rfl (fun c_54 => ?_) (fun c_54 => ?_)
          · have hjt : j ≤ tt := by
              rcases Nat.lt_or_ge tt j with w9 | w9
              · exact absurd (by rw [h2]; exact nI_lt w9 hj) c_38
              · exact w9
            refine a_al_0_5 (pc' := 61) dX6_log_60 rfl ?_
            refine gf_6_5 (pc' := 64) fl_X6_26 dX6_log_61 rfl ?_
            refine a_il_1_5 (pc' := 65) dX6_log_64 rfl ?_
            refine a_il_2_5 (pc' := 66) dX6_log_65 rfl ?_
            refine a_il_4_5 (pc' := 68) dX6_log_66 rfl ?_
            refine k_VO (pc' := 71) (ct_X0_row (by omega) (by omega) (by omega) _) cw_X6_210 mi_X0_row se_X0_row rfl rfl rfl rfl (by decide) (by decide) (Nat.le_of_ble_eq_true rfl) rfl dX6_log_68 rfl ?_
            refine a_il_3_5 (pc' := 72) dX6_log_71 rfl ?_
            refine a_ialdN (pc' := 73) (ok9h (by omega) (by omega)) (by omega) (by decide) dX6_log_72 rfl ?_
            refine a_iret dX6_log_73 rfl rfl ?_
            exact fI (by first | (simp [logS, logB, hrow, hcl, hcz, hck, hcj, c_9, c_14, c_24, c_38, c_54, -Int32.not_le, -Int32.not_lt]; done) | (simp [logS, logB, hcl, hcz, hck, hcj, c_9, c_14, c_24, c_38, c_54, -Int32.not_le, -Int32.not_lt]; done) | simp [logS, logB, c_9, c_14, c_24, c_38, c_54, -Int32.not_le, -Int32.not_lt])
          · refine a_ldc (pc' := 59) dX6_log_57 cn_X6_209 rfl ?_
            refine a_iret dX6_log_59 rfl rfl ?_
            exact fI (by first | (simp [logS, logB, hrow, hcl, hcz, hck, hcj, c_9, c_14, c_24, c_38, c_54, -Int32.not_le, -Int32.not_lt]; done) | (simp [logS, logB, hcl, hcz, hck, hcj, c_9, c_14, c_24, c_38, c_54, -Int32.not_le, -Int32.not_lt]; done) | simp [logS, logB, c_9, c_14, c_24, c_38, c_54, -Int32.not_le, -Int32.not_lt])
      · refine a_ldc (pc' := 29) dX6_log_27 cn_X6_133 rfl ?_
        refine a_iret dX6_log_29 rfl rfl ?_
        exact fI (by first | (simp [logS, logB, hrow, hcl, hcz, hck, hcj, c_9, c_14, c_24, -Int32.not_le, -Int32.not_lt]; done) | (simp [logS, logB, hcl, hcz, hck, hcj, c_9, c_14, c_24, -Int32.not_le, -Int32.not_lt]; done) | simp [logS, logB, c_9, c_14, c_24, -Int32.not_le, -Int32.not_lt])
set_option maxRecDepth 20000 in
set_option maxHeartbeats 4000000 in
theorem lp_X6_warm {G : Gl} {Φ : Option OV → Mm → Prop} {v z kk ll b : Nat} (hv : v < 3) (hz : z < 3) (hk : kk < 2) (hl : ll ≤ 600) (hb1 : ll < b) (hb3 : b ≤ 700) (l f : Int32) (x1 x2 x5 x6 : Option OV) (M : Mm) : ∀ (n p : Nat) (a : Int32), p + n = b → (b = ll + 1 ∨ b ≤ p) → (Φ (some (.inl (wrmL (hrow M v z kk) f l n p a))) M) → AW G cX6_warm RX6 11 2 44 (some .int) Φ 93 [some (.inr (6, 0, 0, 0)), x1, x2, some (.inl l), some (.inl f), x5, x6, some (.inr (9, 30 + 9 * kk + (v * 3 + z), 601, 0)), some (.inl (nI ll)), some (.inl a), some (.inl (nI p))] [] M := by
  intro n
  induction n with
  | zero =>
    intro p a he hb2 hΦ
    refine a_il_10_11 (pc' := 95) dX6_warm_93 rfl ?_
    refine a_il_8_11 (pc' := 97) dX6_warm_95 rfl ?_
    refine a_icmp_gt (pc' := 100) (tgt := 125) dX6_warm_97 (by decide) rfl (fun c_97 => ?_) (fun c_97 => absurd (nI_lt (by omega) (by omega)) c_97)
    refine a_il_9_11 (pc' := 127) dX6_warm_125 rfl ?_
    refine a_iret dX6_warm_127 rfl rfl ?_
    exact hΦ
  | succ n ih =>
    intro p a he hb2 hΦ
    refine a_il_10_11 (pc' := 95) dX6_warm_93 rfl ?_
    refine a_il_8_11 (pc' := 97) dX6_warm_95 rfl ?_
    refine a_icmp_gt (pc' := 100) (tgt := 125) dX6_warm_97 (by decide) rfl (fun c_97 => absurd c_97 (nI_nlt (by omega) (by omega))) (fun c_97 => ?_)
    refine a_il_10_11 (pc' := 102) dX6_warm_100 rfl ?_
    refine a_il_4_11 (pc' := 104) dX6_warm_102 rfl ?_
    refine a_icmp_le (pc' := 107) (tgt := 119) dX6_warm_104 (by decide) rfl (fun c_104 => ?_) (fun c_104 => ?_)
    · refine a_iN_10_11 (m := p + 1) (pc' := 122) dX6_warm_119 (nI_add _ _) rfl ?_
      refine a_goto (pc' := 93) dX6_warm_122 (by decide) ?_
      exact ih (p + 1) _ (by omega) (by omega) (by simpa [wrmL, hrow, c_104, -Int32.not_le, -Int32.not_lt] using hΦ)
    · refine a_al_7_11 (pc' := 109) dX6_warm_107 rfl ?_
      refine a_il_10_11 (pc' := 111) dX6_warm_109 rfl ?_
      refine a_ialdN (pc' := 112) (ok9h (by omega) (by omega)) (by omega) (by decide) dX6_warm_111 rfl ?_
      refine a_il_3_11 (pc' := 113) dX6_warm_112 rfl ?_
      refine a_icmp_le (pc' := 116) (tgt := 119) dX6_warm_113 (by decide) rfl (fun c_113 => ?_) (fun c_113 => ?_)
      · refine a_iN_10_11 (m := p + 1) (pc' := 122) dX6_warm_119 (nI_add _ _) rfl ?_
        refine a_goto (pc' := 93) dX6_warm_122 (by decide) ?_
        exact ih (p + 1) _ (by omega) (by omega) (by simpa [wrmL, hrow, c_104, c_113, -Int32.not_le, -Int32.not_lt] using hΦ)
      · refine a_in_9_11 (c9 := nI 1) (pc' := 119) dX6_warm_116 (by decide) rfl ?_
        refine a_iN_10_11 (m := p + 1) (pc' := 122) dX6_warm_119 (nI_add _ _) rfl ?_
        refine a_goto (pc' := 93) dX6_warm_122 (by decide) ?_
        exact ih (p + 1) _ (by omega) (by omega) (by simpa [wrmL, hrow, c_104, c_113, -Int32.not_le, -Int32.not_lt] using hΦ)
set_option maxRecDepth 20000 in
set_option maxHeartbeats 4000000 in
theorem ct_X6_warm {nv : Nat} (hn : nv ≤ 3) {tt : Nat} (ht : tt ≤ 600) (x z l f t w : Int32) (M : Mm) (h0 : M 0 0 = nI nv) (h2 : M 0 2 = nI tt) (had : ∀ v, v < 3 → ∃ a, a ≤ tt ∧ M 0 (6 + 19 * v + 3) = nI a) : Ct yX6_warm cX6_warm 11 (some .int) 2 44 [.inr (6, 0, 0, 0), .inl x, .inl z, .inl l, .inl f, .inl t, .inl w] M (RI (wrmS M x z l f t w) M) := by
  refine Ct.at RX6 rfl (by decide +kernel) (Nat.le_of_ble_eq_true rfl) [some (.inr (6, 0, 0, 0)), some (.inl x), some (.inl z), some (.inl l), some (.inl f), some (.inl t), some (.inl w), none, none, none, none] rfl (fun G => ?_)
  refine a_al_0_11 (pc' := 1) dX6_warm_0 rfl ?_
  refine gf_6_0 (pc' := 4) fl_X6_10 dX6_warm_1 rfl ?_
  refine a_il_1_11 (pc' := 5) dX6_warm_4 rfl ?_
  refine a_il_2_11 (pc' := 6) dX6_warm_5 rfl ?_
  refine k_VI (pc' := 9) (ct_X3_hasZone (by omega) _ _ _) cw_X6_156 mi_X3_hasZone se_X3_hasZone (ok3 (by omega)) rfl rfl rfl (by decide) (by decide) (Nat.le_of_ble_eq_true rfl) rfl dX6_warm_6 rfl ?_
  refine a_ifB_eq (pc' := 12) (tgt := 19) dX6_warm_9 (by decide) rfl (fun c_9 => ?_) (fun c_9 => ?_)
  · refine a_ldc (pc' := 21) dX6_warm_19 cn_X6_133 rfl ?_
    refine a_iret dX6_warm_21 rfl rfl ?_
    exact fI (by simp [wrmS, wrmB, c_9, -Int32.not_le, -Int32.not_lt])
  · refine a_il_3_11 (pc' := 13) dX6_warm_12 rfl ?_
    refine k_SI (pc' := 16) (ct_X6_isLimit _ _) cw_X6_214 ms_X6_isLimit rfl (by decide) (by decide) (Nat.le_of_ble_eq_true rfl) rfl dX6_warm_13 rfl ?_
    refine a_ifB_ne (pc' := 19) (tgt := 22) dX6_warm_16 (by decide) rfl (fun c_16 => ?_) (fun c_16 => ?_)
    · refine a_il_4_11 (pc' := 24) dX6_warm_22 rfl ?_
      refine a_if_lt (pc' := 27) (tgt := 44) dX6_warm_24 (by decide) rfl (fun c_24 => ?_) (fun c_24 => ?_)
      · refine a_ldc (pc' := 46) dX6_warm_44 cn_X6_133 rfl ?_
        refine a_iret dX6_warm_46 rfl rfl ?_
        exact fI (by simp [wrmS, wrmB, c_9, c_16, c_24, -Int32.not_le, -Int32.not_lt])
      · refine a_il_5_11 (pc' := 29) dX6_warm_27 rfl ?_
        refine a_il_4_11 (pc' := 31) dX6_warm_29 rfl ?_
        refine a_icmp_lt (pc' := 34) (tgt := 44) dX6_warm_31 (by decide) rfl (fun c_31 => ?_) (fun c_31 => ?_)
        · refine a_ldc (pc' := 46) dX6_warm_44 cn_X6_133 rfl ?_
          refine a_iret dX6_warm_46 rfl rfl ?_
          exact fI (by simp [wrmS, wrmB, c_9, c_16, c_24, c_31, -Int32.not_le, -Int32.not_lt])
        · refine a_il_6_11 (pc' := 36) dX6_warm_34 rfl ?_
          refine a_iconst (v := nI 0) (pc' := 37) dX6_warm_36 (by decide) rfl ?_
          refine a_iconst (v := nI 1) (pc' := 38) dX6_warm_37 (by decide) rfl ?_
          refine k_SI (pc' := 41) (ct_X6_isWithin _ _ _ _) cw_X6_196 ms_X6_isWithin rfl (by decide) (by decide) (Nat.le_of_ble_eq_true rfl) rfl dX6_warm_38 rfl ?_
          refine a_ifB_ne (pc' := 44) (tgt := 47) dX6_warm_41 (by decide) rfl (fun c_41 => ?_) (fun c_41 => ?_)
          · obtain ⟨v, z, hv, hz, rfl, rfl⟩ := hzS_nI c_9 h0 (by omega)
            have hcl : vN (nI v) = v := vN_nI (by omega)
            have hcz : vN (nI z) = z := vN_nI (by omega)
            obtain ⟨kk, -, hk, rfl⟩ := inn_nI (a := 0) (b := 1) c_41 (by decide)
            have hck : vN (nI kk) = kk := vN_nI (by omega)
            obtain ⟨fn, hfn, rfl⟩ := nI_of c_24
            have h9 : ¬ t < 0 := fun w9 => c_31 (i32_lt0 w9 hfn)
            obtain ⟨tn, htn, rfl⟩ := nI_of h9
            obtain ⟨ad, had1, had2⟩ := had v (by omega)
            refine a_al_0_11 (pc' := 48) dX6_warm_47 rfl ?_
            refine gf_6_5 (pc' := 51) fl_X6_26 dX6_warm_48 rfl ?_
            refine a_il_1_11 (pc' := 52) dX6_warm_51 rfl ?_
            refine a_il_2_11 (pc' := 53) dX6_warm_52 rfl ?_
            refine a_il_6_11 (pc' := 55) dX6_warm_53 rfl ?_
            refine k_VO (pc' := 58) (ct_X0_row (by omega) (by omega) (by omega) _) cw_X6_210 mi_X0_row se_X0_row rfl rfl rfl rfl (by decide) (by decide) (Nat.le_of_ble_eq_true rfl) rfl dX6_warm_55 rfl ?_
            refine a_as_7_11 (pc' := 60) dX6_warm_58 rfl ?_
            refine a_il_5_11 (pc' := 62) dX6_warm_60 rfl ?_
            refine a_al_0_11 (pc' := 63) dX6_warm_62 rfl ?_
            refine gf_6_0 (pc' := 66) fl_X6_10 dX6_warm_63 rfl ?_
            refine gf_3_0 (pc' := 69) (by omega) fl_X6_115 dX6_warm_66 rfl ?_
            refine k_SI (pc' := 72) (ct_J9_min_7cf53 _ _ _) cw_X6_217 ms_J9_min_7cf53 rfl (by decide) (by decide) (Nat.le_of_ble_eq_true rfl) rfl dX6_warm_69 rfl ?_
            rw [h2, mnS_nI (by omega) (by omega)]
            refine a_is_8_11 (pc' := 74) dX6_warm_72 rfl ?_
            refine a_iconst (v := nI 0) (pc' := 75) dX6_warm_74 (by decide) rfl ?_
            refine a_is_9_11 (pc' := 77) dX6_warm_75 rfl ?_
            refine a_al_0_11 (pc' := 78) dX6_warm_77 rfl ?_
            refine gf_6_0 (pc' := 81) fl_X6_10 dX6_warm_78 rfl ?_
            refine gf_3_6 (pc' := 84) (by omega) fl_X6_137 dX6_warm_81 rfl ?_
            refine a_il_1_11 (pc' := 85) dX6_warm_84 rfl ?_
            refine aN_12 (j := v) (pc' := 86) (by omega) (by omega) dX6_warm_85 rfl ?_
            refine gf_4_3 (pc' := 89) (by omega) (by omega) fl_X6_206 dX6_warm_86 rfl ?_
            rw [had2]
            refine a_iconst (v := nI 1) (pc' := 90) dX6_warm_89 (by decide) rfl ?_
            refine a_iaddN (pc' := 91) dX6_warm_90 rfl ?_
            refine a_is_10_11 (pc' := 93) dX6_warm_91 rfl ?_
            have hmn : min tn tt ≤ 600 := by omega
            refine lp_X6_warm (by omega) hz (by omega) hmn (b := max (min tn tt + 1) (ad + 1)) (by omega) (by omega) _ _ _ _ _ _ _ (min tn tt - ad) (ad + 1) _ (by omega) (by omega) ⟨?_, rfl⟩
            simp [wrmS, wrmB, c_9, c_16, c_24, c_31, c_41, hcl, hcz, hck, h2, mnS_nI htn (show tt < 2 ^ 31 by omega), had2, vN_nI (show ad < 2147483648 by omega), vN_nI (show min tn tt < 2147483648 by omega), -Int32.not_le, -Int32.not_lt]
          · refine a_ldc (pc' := 46) dX6_warm_44 cn_X6_133 rfl ?_
            refine a_iret dX6_warm_46 rfl rfl ?_
            exact fI (by simp [wrmS, wrmB, c_9, c_16, c_24, c_31, c_41, -Int32.not_le, -Int32.not_lt])
    · refine a_ldc (pc' := 21) dX6_warm_19 cn_X6_133 rfl ?_
      refine a_iret dX6_warm_21 rfl rfl ?_
      exact fI (by simp [wrmS, wrmB, c_9, c_16, -Int32.not_le, -Int32.not_lt])
set_option maxRecDepth 20000 in
set_option maxHeartbeats 4000000 in
theorem lp_X6_minutesLeft {G : Gl} {Φ : Option OV → Mm → Prop} {np pp v : Nat} (hm : np ≤ 12) (hp : pp < 12) (hv : v < 3) (M0 : Mm) (x1 : Option OV) : ∀ (n p : Nat) (M : Mm), p + n = 301 → (trQ M0 M) → (M 1 1 = nI np) → (zOK (M 1)) → (M 1 (63 + 10 * pp) = nI v) → (∀ M9, trQ M0 M9 → Φ (some (.inl (mlA (mlL (M 1) pp v n p)))) M9) → AW G cX6_minutesLeft RX6 4 4 94 (some .int) Φ 55 [some (.inr (6, 0, 0, 0)), x1, some (.inr (1, 1, pp, 0)), some (.inl (nI p))] [] M := by
  intro n
  induction n with
  | zero =>
    intro p M he htr h1 hzo hvv hΦ
    refine a_il_3_4 (pc' := 56) dX6_minutesLeft_55 rfl ?_
    refine a_sipush (v := nI 300) (pc' := 59) dX6_minutesLeft_56 (by decide) rfl ?_
    refine a_icmp_gt (pc' := 62) (tgt := 89) dX6_minutesLeft_59 (by decide) rfl (fun c_59 => ?_) (fun c_59 => absurd (nI_lt (by omega) (by omega)) c_59)
    refine a_ldc (pc' := 91) dX6_minutesLeft_89 cn_X6_209 rfl ?_
    refine a_iret dX6_minutesLeft_91 rfl rfl ?_
    exact hΦ _ htr
  | succ n ih =>
    intro p M he htr h1 hzo hvv hΦ
    refine a_il_3_4 (pc' := 56) dX6_minutesLeft_55 rfl ?_
    refine a_sipush (v := nI 300) (pc' := 59) dX6_minutesLeft_56 (by decide) rfl ?_
    refine a_icmp_gt (pc' := 62) (tgt := 89) dX6_minutesLeft_59 (by decide) rfl (fun c_59 => absurd c_59 (nI_nlt (by omega) (by omega))) (fun c_59 => ?_)
    refine a_al_2_4 (pc' := 63) dX6_minutesLeft_62 rfl ?_
    refine k_VI (pc' := 66) (ct_X1_isOverdue (by omega) (by omega) _) cw_X6_226 mi_X1_isOverdue se_X1_isOverdue (ok1 (by omega) (by omega)) rfl rfl rfl (by decide) (by decide) (Nat.le_of_ble_eq_true rfl) rfl dX6_minutesLeft_63 rfl ?_
    refine a_ifB_eq (pc' := 69) (tgt := 71) dX6_minutesLeft_66 (by decide) rfl (fun c_66 => ?_) (fun c_66 => ?_)
    · refine a_al_0_4 (pc' := 72) dX6_minutesLeft_71 rfl ?_
      refine gf_6_1 (pc' := 75) fl_X6_16 dX6_minutesLeft_72 rfl ?_
      refine a_al_2_4 (pc' := 76) dX6_minutesLeft_75 rfl ?_
      refine gf_1_0 (pc' := 79) (by omega) (by omega) fl_X6_230 dX6_minutesLeft_76 rfl ?_
      rw [hvv]
      refine k_VI (pc' := 82) (ct_X3_minuteInVan (q := 1) (by decide) hm hv _ h1 hzo) cw_X6_233 mi_X3_minuteInVan se_X3_minuteInVan (ok3 (by omega)) rfl rfl rfl (by decide) (by decide) (Nat.le_of_ble_eq_true rfl) rfl dX6_minutesLeft_79 rfl ?_
      refine a_pop (pc' := 83) dX6_minutesLeft_82 rfl ?_
      refine a_iN_3_4 (m := p + 1) (pc' := 86) dX6_minutesLeft_83 (nI_add _ _) rfl ?_
      refine a_goto (pc' := 55) dX6_minutesLeft_86 (by decide) ?_
      refine ih (p + 1) _ (by omega) (htr.set _) ?_ ?_ ?_ ?_
      · rw [setR_same, minF_lo _ (by decide)]; exact h1
      · rw [setR_same]; exact hzo.min hv
      · rw [setR_same, minF_hi _ hv (by omega) (fun p => ⟨by omega, by omega, by omega⟩)]; exact hvv
      · intro M9 h9
        have := hΦ M9 h9
        rw [setR_same]
        simpa [mlL, c_66] using this
    · refine a_il_3_4 (pc' := 70) dX6_minutesLeft_69 rfl ?_
      refine a_iret dX6_minutesLeft_70 rfl rfl ?_
      have := hΦ _ htr
      simpa [mlL, mlA, c_66] using this
set_option maxRecDepth 20000 in
set_option maxHeartbeats 4000000 in
theorem ct_X6_minutesLeft {np : Nat} (hm : np ≤ 12) (x : Int32) (M : Mm) (h1 : M 0 1 = nI np) (hB : BoolOK (M 0)) (hzo : zOK (M 0)) (hvo : vOK (M 0)) : Ct yX6_minutesLeft cX6_minutesLeft 4 (some .int) 4 94 [.inr (6, 0, 0, 0), .inl x] M (fun v M' => v = some (.inl (mlR (M 0) x)) ∧ trQ M M') := by
  refine Ct.at RX6 rfl (by decide +kernel) (Nat.le_of_ble_eq_true rfl) [some (.inr (6, 0, 0, 0)), some (.inl x), none, none] rfl (fun G => ?_)
  refine a_al_0_4 (pc' := 1) dX6_minutesLeft_0 rfl ?_
  refine gf_6_0 (pc' := 4) fl_X6_10 dX6_minutesLeft_1 rfl ?_
  refine a_il_1_4 (pc' := 5) dX6_minutesLeft_4 rfl ?_
  refine k_VI (pc' := 8) (ct_X3_hasPallet (by omega) _ _) cw_X6_184 mi_X3_hasPallet se_X3_hasPallet (ok3 (by omega)) rfl rfl rfl (by decide) (by decide) (Nat.le_of_ble_eq_true rfl) rfl dX6_minutesLeft_5 rfl ?_
  refine a_ifB_ne (pc' := 11) (tgt := 14) dX6_minutesLeft_8 (by decide) rfl (fun c_8 => ?_) (fun c_8 => ?_)
  · obtain ⟨pp, hp, rfl⟩ := hpS_nI c_8 h1 (by omega)
    have hcl : vN (nI pp) = pp := vN_nI (by omega)
    refine a_al_0_4 (pc' := 15) dX6_minutesLeft_14 rfl ?_
    refine gf_6_0 (pc' := 18) fl_X6_10 dX6_minutesLeft_15 rfl ?_
    refine gf_3_7 (pc' := 21) (by omega) fl_X6_187 dX6_minutesLeft_18 rfl ?_
    refine a_il_1_4 (pc' := 22) dX6_minutesLeft_21 rfl ?_
    refine aN_10 (j := pp) (pc' := 23) (by omega) (by omega) dX6_minutesLeft_22 rfl ?_
    refine gf_1_5 (pc' := 26) (by omega) (by omega) fl_X6_222 dX6_minutesLeft_23 rfl ?_
    refine a_if_eq (pc' := 29) (tgt := 32) dX6_minutesLeft_26 (by decide) rfl (fun c_26 => ?_) (fun c_26 => ?_)
    · refine a_al_0_4 (pc' := 33) dX6_minutesLeft_32 rfl ?_
      refine gf_6_1 (pc' := 36) fl_X6_16 dX6_minutesLeft_33 rfl ?_
      refine a_al_0_4 (pc' := 37) dX6_minutesLeft_36 rfl ?_
      refine gf_6_0 (pc' := 40) fl_X6_10 dX6_minutesLeft_37 rfl ?_
      refine k_VV (pc' := 43) (ct_X3_copyFrom (q := 1) (q' := 0) (by decide) (by decide) (by decide) _ hB) cw_X6_104 mi_X3_copyFrom se_X3_copyFrom (ok3 (by omega)) rfl rfl rfl (by decide) (by decide) (Nat.le_of_ble_eq_true rfl) rfl dX6_minutesLeft_40 rfl ?_
      refine a_al_0_4 (pc' := 44) dX6_minutesLeft_43 rfl ?_
      refine gf_6_1 (pc' := 47) fl_X6_16 dX6_minutesLeft_44 rfl ?_
      refine gf_3_7 (pc' := 50) (by omega) fl_X6_187 dX6_minutesLeft_47 rfl ?_
      refine a_il_1_4 (pc' := 51) dX6_minutesLeft_50 rfl ?_
      refine aN_10 (j := pp) (pc' := 52) (by omega) (by omega) dX6_minutesLeft_51 rfl ?_
      refine a_as_2_4 (pc' := 53) dX6_minutesLeft_52 rfl ?_
      refine a_iconst (v := nI 0) (pc' := 54) dX6_minutesLeft_53 (by decide) rfl ?_
      refine a_is_3_4 (pc' := 55) dX6_minutesLeft_54 rfl ?_
      obtain ⟨v, hv, ev⟩ := hvo pp (by omega)
      refine lp_X6_minutesLeft hm (by omega) hv M _ 301 0 _ rfl ⟨_, rfl⟩ ?_ ?_ ?_ ?_
      · rw [setR_same]; exact h1
      · rw [setR_same]; exact hzo
      · rw [setR_same]; exact ev
      · intro M9 h9
        refine ⟨?_, h9⟩
        simp [mlR, c_8, hcl, c_26, ev, vN_nI (show v < 2147483648 by omega), setR_same]
    · refine a_ldc (pc' := 31) dX6_minutesLeft_29 cn_X6_225 rfl ?_
      refine a_iret dX6_minutesLeft_31 rfl rfl ?_
      exact ⟨by first | (simp [mlR, hcl, c_8, c_26]; done) | simp [mlR, c_8, c_26], M 1, (setR_self M 1).symm⟩
  · refine a_ldc (pc' := 13) dX6_minutesLeft_11 cn_X6_133 rfl ?_
    refine a_iret dX6_minutesLeft_13 rfl rfl ?_
    exact ⟨by first | (simp [mlR, hcl, c_8]; done) | simp [mlR, c_8], M 1, (setR_self M 1).symm⟩
set_option maxRecDepth 20000 in
set_option maxHeartbeats 4000000 in
theorem lp_X6_mayBeOpen {G : Gl} {Φ : Option OV → Mm → Prop} {np v m : Nat} (hm : np ≤ 12) (hv : v < 3) (hm60 : m ≤ 60) (M0 : Mm) : ∀ (n p : Nat) (M : Mm), p + n = 60 → (trQ M0 M) → (M 1 1 = nI np) → (zOK (M 1)) → (∀ M9, trQ M0 M9 → Φ (some (.inl (bI (opL (M 1) v m n p)))) M9) → AW G cX6_mayBeOpen RX6 4 4 94 (some .boolean) Φ 13 [some (.inr (6, 0, 0, 0)), some (.inl (nI v)), some (.inl (nI m)), some (.inl (nI p))] [] M := by
  intro n
  induction n with
  | zero =>
    intro p M he htr h1 hzo hΦ
    have hnp : npF (M 1) = np := by unfold npF; rw [h1]; exact nI_clamp (by omega)
    refine a_il_3_4 (pc' := 14) dX6_mayBeOpen_13 rfl ?_
    refine a_bipush (v := nI 60) (pc' := 16) dX6_mayBeOpen_14 (by decide) rfl ?_
    refine a_icmp_ge (pc' := 19) (tgt := 69) dX6_mayBeOpen_16 (by decide) rfl (fun c_16 => ?_) (fun c_16 => absurd (nI_le (by omega) (by omega)) c_16)
    refine a_al_0_4 (pc' := 70) dX6_mayBeOpen_69 rfl ?_
    refine gf_6_1 (pc' := 73) fl_X6_16 dX6_mayBeOpen_70 rfl ?_
    refine a_il_1_4 (pc' := 74) dX6_mayBeOpen_73 rfl ?_
    refine k_VI (pc' := 77) (ct_X3_hasOverdue (q := 1) (by decide) hm _ _ h1) cw_X6_249 mi_X3_hasOverdue se_X3_hasOverdue (ok3 (by omega)) rfl rfl rfl (by decide) (by decide) (Nat.le_of_ble_eq_true rfl) rfl dX6_mayBeOpen_74 rfl ?_
    refine a_ifB_ne (pc' := 80) (tgt := 84) dX6_mayBeOpen_77 (by decide) rfl (fun c_77 => ?_) (fun c_77 => ?_)
    · refine a_iconst (v := nI 0) (pc' := 85) dX6_mayBeOpen_84 (by decide) rfl ?_
      refine a_iret dX6_mayBeOpen_85 rfl rfl ?_
      have := hΦ _ htr
      simp only [opL, hnp, c_77] at this
      exact this
    · refine a_iconst (v := nI 1) (pc' := 81) dX6_mayBeOpen_80 (by decide) rfl ?_
      refine a_goto (pc' := 85) dX6_mayBeOpen_81 (by decide) ?_
      refine a_iret dX6_mayBeOpen_85 rfl rfl ?_
      have := hΦ _ htr
      simp only [opL, hnp, c_77] at this
      exact this
  | succ n ih =>
    intro p M he htr h1 hzo hΦ
    have hnp : npF (M 1) = np := by unfold npF; rw [h1]; exact nI_clamp (by omega)
    refine a_il_3_4 (pc' := 14) dX6_mayBeOpen_13 rfl ?_
    refine a_bipush (v := nI 60) (pc' := 16) dX6_mayBeOpen_14 (by decide) rfl ?_
    refine a_icmp_ge (pc' := 19) (tgt := 69) dX6_mayBeOpen_16 (by decide) rfl (fun c_16 => absurd c_16 (nI_ge (by omega) (by omega))) (fun c_16 => ?_)
    refine a_al_0_4 (pc' := 20) dX6_mayBeOpen_19 rfl ?_
    refine gf_6_1 (pc' := 23) fl_X6_16 dX6_mayBeOpen_20 rfl ?_
    refine a_il_1_4 (pc' := 24) dX6_mayBeOpen_23 rfl ?_
    refine k_VI (pc' := 27) (ct_X3_hasOverdue (q := 1) (by decide) hm _ _ h1) cw_X6_249 mi_X3_hasOverdue se_X3_hasOverdue (ok3 (by omega)) rfl rfl rfl (by decide) (by decide) (Nat.le_of_ble_eq_true rfl) rfl dX6_mayBeOpen_24 rfl ?_
    refine a_ifB_eq (pc' := 30) (tgt := 32) dX6_mayBeOpen_27 (by decide) rfl (fun c_27 => ?_) (fun c_27 => ?_)
    · refine a_al_0_4 (pc' := 33) dX6_mayBeOpen_32 rfl ?_
      refine gf_6_1 (pc' := 36) fl_X6_16 dX6_mayBeOpen_33 rfl ?_
      refine gf_3_6 (pc' := 39) (by omega) fl_X6_137 dX6_mayBeOpen_36 rfl ?_
      refine a_il_1_4 (pc' := 40) dX6_mayBeOpen_39 rfl ?_
      refine aN_12 (j := v) (pc' := 41) (by omega) (by omega) dX6_mayBeOpen_40 rfl ?_
      refine a_il_3_4 (pc' := 42) dX6_mayBeOpen_41 rfl ?_
      refine a_il_2_4 (pc' := 43) dX6_mayBeOpen_42 rfl ?_
      refine a_icmp_ge (pc' := 46) (tgt := 50) dX6_mayBeOpen_43 (by decide) rfl (fun c_43 => ?_) (fun c_43 => ?_)
      · refine a_iconst (v := nI 0) (pc' := 51) dX6_mayBeOpen_50 (by decide) rfl ?_
        refine pf_4_2 (pc' := 54) (by omega) (by omega) (Or.inl rfl) fl_X6_149 dX6_mayBeOpen_51 rfl ?_
        refine a_al_0_4 (pc' := 55) dX6_mayBeOpen_54 rfl ?_
        refine gf_6_1 (pc' := 58) fl_X6_16 dX6_mayBeOpen_55 rfl ?_
        refine a_il_1_4 (pc' := 59) dX6_mayBeOpen_58 rfl ?_
        refine k_VI (pc' := 62) (ct_X3_minuteInVan (q := 1) (by decide) hm hv _ (by rw [wr_eq, setR_same, upd_at, if_neg (by omega)]; exact h1) (by rw [wr_eq, setR_same]; exact hzo.of fun p' _ => by rw [upd_at, if_neg (by omega)])) cw_X6_233 mi_X3_minuteInVan se_X3_minuteInVan (ok3 (by omega)) rfl rfl rfl (by decide) (by decide) (Nat.le_of_ble_eq_true rfl) rfl dX6_mayBeOpen_59 rfl ?_
        refine a_pop (pc' := 63) dX6_mayBeOpen_62 rfl ?_
        refine a_iN_3_4 (m := p + 1) (pc' := 66) dX6_mayBeOpen_63 (nI_add _ _) rfl ?_
        refine a_goto (pc' := 13) dX6_mayBeOpen_66 (by decide) ?_
        have hcm : m ≤ p := (nI_leI (by omega) (by omega)).mp c_43
        have hop : setR (wr M 1 (6 + 19 * v + 2) (nI 0)) 1 (minF (wr M 1 (6 + 19 * v + 2) (nI 0) 1) v) = setR M 1 (opF (M 1) v p m) := by
          rw [wr_eq, setR_same, setR_setR]
          simp [opF, hcm]
        rw [hop]
        refine ih (p + 1) _ (by omega) (htr.set _) ?_ ?_ ?_
        · rw [setR_same]; unfold opF; rw [minF_lo _ (by decide), upd_at, if_neg (by omega)]; exact h1
        · rw [setR_same]; exact (hzo.of fun p' _ => by rw [upd_at, if_neg (by omega)]).min hv
        · intro M9 h9
          have := hΦ M9 h9
          rw [setR_same]
          simpa [opL, hnp, c_27] using this
      · refine a_iconst (v := nI 1) (pc' := 47) dX6_mayBeOpen_46 (by decide) rfl ?_
        refine a_goto (pc' := 51) dX6_mayBeOpen_47 (by decide) ?_
        refine pf_4_2 (pc' := 54) (by omega) (by omega) (Or.inr rfl) fl_X6_149 dX6_mayBeOpen_51 rfl ?_
        refine a_al_0_4 (pc' := 55) dX6_mayBeOpen_54 rfl ?_
        refine gf_6_1 (pc' := 58) fl_X6_16 dX6_mayBeOpen_55 rfl ?_
        refine a_il_1_4 (pc' := 59) dX6_mayBeOpen_58 rfl ?_
        refine k_VI (pc' := 62) (ct_X3_minuteInVan (q := 1) (by decide) hm hv _ (by rw [wr_eq, setR_same, upd_at, if_neg (by omega)]; exact h1) (by rw [wr_eq, setR_same]; exact hzo.of fun p' _ => by rw [upd_at, if_neg (by omega)])) cw_X6_233 mi_X3_minuteInVan se_X3_minuteInVan (ok3 (by omega)) rfl rfl rfl (by decide) (by decide) (Nat.le_of_ble_eq_true rfl) rfl dX6_mayBeOpen_59 rfl ?_
        refine a_pop (pc' := 63) dX6_mayBeOpen_62 rfl ?_
        refine a_iN_3_4 (m := p + 1) (pc' := 66) dX6_mayBeOpen_63 (nI_add _ _) rfl ?_
        refine a_goto (pc' := 13) dX6_mayBeOpen_66 (by decide) ?_
        have hcm : ¬ m ≤ p := fun w9 => c_43 (nI_le w9 (by omega))
        have hop : setR (wr M 1 (6 + 19 * v + 2) (nI 1)) 1 (minF (wr M 1 (6 + 19 * v + 2) (nI 1) 1) v) = setR M 1 (opF (M 1) v p m) := by
          rw [wr_eq, setR_same, setR_setR]
          simp [opF, hcm]
        rw [hop]
        refine ih (p + 1) _ (by omega) (htr.set _) ?_ ?_ ?_
        · rw [setR_same]; unfold opF; rw [minF_lo _ (by decide), upd_at, if_neg (by omega)]; exact h1
        · rw [setR_same]; exact (hzo.of fun p' _ => by rw [upd_at, if_neg (by omega)]).min hv
        · intro M9 h9
          have := hΦ M9 h9
          rw [setR_same]
          simpa [opL, hnp, c_27] using this
    · refine a_iconst (v := nI 0) (pc' := 31) dX6_mayBeOpen_30 (by decide) rfl ?_
      refine a_iret dX6_mayBeOpen_31 rfl rfl ?_
      have := hΦ _ htr
      simp only [opL, hnp, c_27] at this
      exact this
set_option maxRecDepth 20000 in
set_option maxHeartbeats 4000000 in
theorem ct_X6_mayBeOpen {np : Nat} (hm : np ≤ 12) {v m : Nat} (hv : v < 3) (hm60 : m ≤ 60) (M : Mm) (h1 : M 0 1 = nI np) (hB : BoolOK (M 0)) (hzo : zOK (M 0)) : Ct yX6_mayBeOpen cX6_mayBeOpen 4 (some .boolean) 4 94 [.inr (6, 0, 0, 0), .inl (nI v), .inl (nI m)] M (fun v9 M' => v9 = some (.inl (bI (opL (M 0) v m 60 0))) ∧ trQ M M') := by
  refine Ct.at RX6 rfl (by decide +kernel) (Nat.le_of_ble_eq_true rfl) [some (.inr (6, 0, 0, 0)), some (.inl (nI v)), some (.inl (nI m)), none] rfl (fun G => ?_)
  refine a_al_0_4 (pc' := 1) dX6_mayBeOpen_0 rfl ?_
  refine gf_6_1 (pc' := 4) fl_X6_16 dX6_mayBeOpen_1 rfl ?_
  refine a_al_0_4 (pc' := 5) dX6_mayBeOpen_4 rfl ?_
  refine gf_6_0 (pc' := 8) fl_X6_10 dX6_mayBeOpen_5 rfl ?_
  refine k_VV (pc' := 11) (ct_X3_copyFrom (q := 1) (q' := 0) (by decide) (by decide) (by decide) _ hB) cw_X6_104 mi_X3_copyFrom se_X3_copyFrom (ok3 (by omega)) rfl rfl rfl (by decide) (by decide) (Nat.le_of_ble_eq_true rfl) rfl dX6_mayBeOpen_8 rfl ?_
  refine a_iconst (v := nI 0) (pc' := 12) dX6_mayBeOpen_11 (by decide) rfl ?_
  refine a_is_3_4 (pc' := 13) dX6_mayBeOpen_12 rfl ?_
  refine lp_X6_mayBeOpen hm hv hm60 M 60 0 _ rfl ⟨_, rfl⟩ ?_ ?_ ?_
  · rw [setR_same]; exact h1
  · rw [setR_same]; exact hzo
  · intro M9 h9
    rw [setR_same]
    exact ⟨rfl, h9⟩
set_option maxRecDepth 20000 in
set_option maxHeartbeats 4000000 in
theorem lp_X6_longestOpen {G : Gl} {Φ : Option OV → Mm → Prop} {np v : Nat} (hm : np ≤ 12) (hv : v < 3) (M0 : Mm) (h1 : M0 0 1 = nI np) (hB : BoolOK (M0 0)) (hzo : zOK (M0 0)) : ∀ (m : Nat) (M : Mm), m ≤ 60 → trQ M0 M → (∀ M9, trQ M0 M9 → Φ (some (.inl (lgL (M0 0) v m))) M9) → AW G cX6_longestOpen RX6 3 5 117 (some .int) Φ 17 [some (.inr (6, 0, 0, 0)), some (.inl (nI v)), some (.inl (nI m))] [] M := by
  intro m
  induction m with
  | zero =>
    intro M hm9 htr hΦ
    refine a_il_2_3 (pc' := 18) dX6_longestOpen_17 rfl ?_
    refine a_if_lt (pc' := 21) (tgt := 38) dX6_longestOpen_18 (by decide) rfl (fun c_18 => absurd c_18 (by decide)) (fun c_18 => ?_)
    refine a_al_0_3 (pc' := 22) dX6_longestOpen_21 rfl ?_
    refine a_il_1_3 (pc' := 23) dX6_longestOpen_22 rfl ?_
    refine a_il_2_3 (pc' := 24) dX6_longestOpen_23 rfl ?_
    refine k_VQ (pc' := 27) (ct_X6_mayBeOpen hm hv (m := 0) (by omega) _ (by rw [htr.at (by decide)]; exact h1) (by rw [htr.at (by decide)]; exact hB) (by rw [htr.at (by decide)]; exact hzo)) cw_X6_236 mi_X6_mayBeOpen se_X6_mayBeOpen rfl rfl rfl rfl (by decide) (by decide) (Nat.le_of_ble_eq_true rfl) rfl dX6_longestOpen_24 rfl (fun M_24 hq_24 => ?_)
    have htr2 := htr.trans hq_24
    rw [htr.at (show (0 : Nat) ≠ 1 by decide)]
    refine a_ifB_eq (pc' := 30) (tgt := 32) dX6_longestOpen_27 (by decide) rfl (fun c_27 => ?_) (fun c_27 => ?_)
    · refine a_in_2_3 (c9 := (-1)) (pc' := 35) dX6_longestOpen_32 (by decide) rfl ?_
      refine a_goto (pc' := 17) dX6_longestOpen_35 (by decide) ?_
      refine a_il_2_3 (pc' := 18) dX6_longestOpen_17 rfl ?_
      refine a_if_lt (pc' := 21) (tgt := 38) dX6_longestOpen_18 (by decide) rfl (fun c_18_2 => ?_) (fun c_18_2 => absurd (by decide) c_18_2)
      refine a_ldc (pc' := 40) dX6_longestOpen_38 cn_X6_209 rfl ?_
      refine a_iret dX6_longestOpen_40 rfl rfl ?_
      have := hΦ _ htr2
      simpa [lgL, c_27] using this
    · refine a_il_2_3 (pc' := 31) dX6_longestOpen_30 rfl ?_
      refine a_iret dX6_longestOpen_31 rfl rfl ?_
      have := hΦ _ htr2
      simpa [lgL, c_27] using this
  | succ m ih =>
    intro M hm9 htr hΦ
    refine a_il_2_3 (pc' := 18) dX6_longestOpen_17 rfl ?_
    refine a_if_lt (pc' := 21) (tgt := 38) dX6_longestOpen_18 (by decide) rfl (fun c_18 => absurd c_18 (nI_pos (by omega))) (fun c_18 => ?_)
    refine a_al_0_3 (pc' := 22) dX6_longestOpen_21 rfl ?_
    refine a_il_1_3 (pc' := 23) dX6_longestOpen_22 rfl ?_
    refine a_il_2_3 (pc' := 24) dX6_longestOpen_23 rfl ?_
    refine k_VQ (pc' := 27) (ct_X6_mayBeOpen hm hv (m := m + 1) (by omega) _ (by rw [htr.at (by decide)]; exact h1) (by rw [htr.at (by decide)]; exact hB) (by rw [htr.at (by decide)]; exact hzo)) cw_X6_236 mi_X6_mayBeOpen se_X6_mayBeOpen rfl rfl rfl rfl (by decide) (by decide) (Nat.le_of_ble_eq_true rfl) rfl dX6_longestOpen_24 rfl (fun M_24 hq_24 => ?_)
    have htr2 := htr.trans hq_24
    rw [htr.at (show (0 : Nat) ≠ 1 by decide)]
    refine a_ifB_eq (pc' := 30) (tgt := 32) dX6_longestOpen_27 (by decide) rfl (fun c_27 => ?_) (fun c_27 => ?_)
    · refine a_iN_2_3 (m := m) (pc' := 35) dX6_longestOpen_32 (pk_m1 _) rfl ?_
      refine a_goto (pc' := 17) dX6_longestOpen_35 (by decide) ?_
      refine ih _ (by omega) htr2 ?_
      intro M9 h9
      have := hΦ M9 h9
      simpa [lgL, c_27] using this
    · refine a_il_2_3 (pc' := 31) dX6_longestOpen_30 rfl ?_
      refine a_iret dX6_longestOpen_31 rfl rfl ?_
      have := hΦ _ htr2
      simpa [lgL, c_27] using this
set_option maxRecDepth 20000 in
set_option maxHeartbeats 4000000 in
theorem ct_X6_longestOpen {nv : Nat} (hn : nv ≤ 3) {np : Nat} (hm : np ≤ 12) (x : Int32) (M : Mm) (h0 : M 0 0 = nI nv) (h1 : M 0 1 = nI np) (hB : BoolOK (M 0)) (hzo : zOK (M 0)) : Ct yX6_longestOpen cX6_longestOpen 3 (some .int) 5 117 [.inr (6, 0, 0, 0), .inl x] M (fun v M' => v = some (.inl (lgR (M 0) x)) ∧ trQ M M') := by
  refine Ct.at RX6 rfl (by decide +kernel) (Nat.le_of_ble_eq_true rfl) [some (.inr (6, 0, 0, 0)), some (.inl x), none] rfl (fun G => ?_)
  refine a_al_0_3 (pc' := 1) dX6_longestOpen_0 rfl ?_
  refine gf_6_0 (pc' := 4) fl_X6_10 dX6_longestOpen_1 rfl ?_
  refine a_il_1_3 (pc' := 5) dX6_longestOpen_4 rfl ?_
  refine k_VI (pc' := 8) (ct_X3_hasVan (by omega) _ _) cw_X6_134 mi_X3_hasVan se_X3_hasVan (ok3 (by omega)) rfl rfl rfl (by decide) (by decide) (Nat.le_of_ble_eq_true rfl) rfl dX6_longestOpen_5 rfl ?_
  refine a_ifB_ne (pc' := 11) (tgt := 14) dX6_longestOpen_8 (by decide) rfl (fun c_8 => ?_) (fun c_8 => ?_)
  · obtain ⟨v, hv, rfl⟩ := hvS_nI c_8 h0 (by omega)
    have hcl : vN (nI v) = v := vN_nI (by omega)
    refine a_bipush (v := nI 60) (pc' := 16) dX6_longestOpen_14 (by decide) rfl ?_
    refine a_is_2_3 (pc' := 17) dX6_longestOpen_16 rfl ?_
    refine lp_X6_longestOpen hm (by omega) M h1 hB hzo 60 _ (by decide) ⟨M 1, (setR_self M 1).symm⟩ ?_
    intro M9 h9
    exact ⟨by simp [lgR, c_8, hcl], h9⟩
  · refine a_ldc (pc' := 13) dX6_longestOpen_11 cn_X6_133 rfl ?_
    refine a_iret dX6_longestOpen_13 rfl rfl ?_
    exact ⟨by simp [lgR, c_8], M 1, (setR_self M 1).symm⟩
