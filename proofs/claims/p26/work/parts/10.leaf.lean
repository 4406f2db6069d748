theorem nI_12s : ¬ nI 1 = nI 0 ∧ ¬ nI 2 = nI 0 ∧ ¬ nI 2 = nI 1 := by decide
set_option maxRecDepth 20000 in
set_option maxHeartbeats 4000000 in
theorem ct_X6_isWithin (x lo hi : Int32) (M : Mm) : Ct yX6_isWithin cX6_isWithin 3 (some .boolean) 0 0 [.inl x, .inl lo, .inl hi] M (RT (inn x lo hi) M) := by
  refine Ct.at RX6 rfl (by decide +kernel) (Nat.le_of_ble_eq_true rfl) [some (.inl x), some (.inl lo), some (.inl hi)] rfl (fun G => ?_)
  refine a_il_0_3 (pc' := 1) dX6_isWithin_0 rfl ?_
  refine a_il_1_3 (pc' := 2) dX6_isWithin_1 rfl ?_
  refine a_icmp_lt (pc' := 5) (tgt := 14) dX6_isWithin_2 (by decide) rfl (fun c_2 => ?_) (fun c_2 => ?_)
  · refine a_iconst (v := nI 0) (pc' := 15) dX6_isWithin_14 (by decide) rfl ?_
    refine a_iret dX6_isWithin_15 rfl rfl ?_
    exact fB0 (by simp [inn, c_2])
  · refine a_il_0_3 (pc' := 6) dX6_isWithin_5 rfl ?_
    refine a_il_2_3 (pc' := 7) dX6_isWithin_6 rfl ?_
    refine a_icmp_gt (pc' := 10) (tgt := 14) dX6_isWithin_7 (by decide) rfl (fun c_7 => ?_) (fun c_7 => ?_)
    · refine a_iconst (v := nI 0) (pc' := 15) dX6_isWithin_14 (by decide) rfl ?_
      refine a_iret dX6_isWithin_15 rfl rfl ?_
      exact fB0 (by simp [inn, c_2, c_7])
    · refine a_iconst (v := nI 1) (pc' := 11) dX6_isWithin_10 (by decide) rfl ?_
      refine a_goto (pc' := 15) dX6_isWithin_11 (by decide) ?_
      refine a_iret dX6_isWithin_15 rfl rfl ?_
      exact fB1 (by simp [inn, c_2, c_7])
set_option maxRecDepth 20000 in
set_option maxHeartbeats 4000000 in
theorem ct_X6_isVanSetting (x y : Int32) (M : Mm) : Ct yX6_isVanSetting cX6_isVanSetting 2 (some .boolean) 1 22 [.inl x, .inl y] M (RT (coldS x y) M) := by
  refine Ct.at RX6 rfl (by decide +kernel) (Nat.le_of_ble_eq_true rfl) [some (.inl x), some (.inl y)] rfl (fun G => ?_)
  refine a_il_0_2 (pc' := 1) dX6_isVanSetting_0 rfl ?_
  refine a_sipush (v := (-300)) (pc' := 4) dX6_isVanSetting_1 (by decide) rfl ?_
  refine a_bipush (v := nI 100) (pc' := 6) dX6_isVanSetting_4 (by decide) rfl ?_
  refine k_SI (pc' := 9) (ct_X6_isWithin _ _ _ _) cw_X6_196 ms_X6_isWithin rfl (by decide) (by decide) (Nat.le_of_ble_eq_true rfl) rfl dX6_isVanSetting_6 rfl ?_
  refine a_ifB_eq (pc' := 12) (tgt := 26) dX6_isVanSetting_9 (by decide) rfl (fun c_9 => ?_) (fun c_9 => ?_)
  · refine a_iconst (v := nI 0) (pc' := 27) dX6_isVanSetting_26 (by decide) rfl ?_
    refine a_iret dX6_isVanSetting_27 rfl rfl ?_
    exact fB0 (by simp [coldS, c_9])
  · refine a_il_1_2 (pc' := 13) dX6_isVanSetting_12 rfl ?_
    refine a_iconst (v := nI 0) (pc' := 14) dX6_isVanSetting_13 (by decide) rfl ?_
    refine a_bipush (v := nI 30) (pc' := 16) dX6_isVanSetting_14 (by decide) rfl ?_
    refine k_SI (pc' := 19) (ct_X6_isWithin _ _ _ _) cw_X6_196 ms_X6_isWithin rfl (by decide) (by decide) (Nat.le_of_ble_eq_true rfl) rfl dX6_isVanSetting_16 rfl ?_
    refine a_ifB_eq (pc' := 22) (tgt := 26) dX6_isVanSetting_19 (by decide) rfl (fun c_19 => ?_) (fun c_19 => ?_)
    · refine a_iconst (v := nI 0) (pc' := 27) dX6_isVanSetting_26 (by decide) rfl ?_
      refine a_iret dX6_isVanSetting_27 rfl rfl ?_
      exact fB0 (by simp [coldS, c_9, c_19])
    · refine a_iconst (v := nI 1) (pc' := 23) dX6_isVanSetting_22 (by decide) rfl ?_
      refine a_goto (pc' := 27) dX6_isVanSetting_23 (by decide) ?_
      refine a_iret dX6_isVanSetting_27 rfl rfl ?_
      exact fB1 (by simp [coldS, c_9, c_19])
set_option maxRecDepth 20000 in
set_option maxHeartbeats 4000000 in
theorem ct_X6_isProbeSetting (x y : Int32) (M : Mm) : Ct yX6_isProbeSetting cX6_isProbeSetting 2 (some .boolean) 1 22 [.inl x, .inl y] M (RT (modeS x y) M) := by
  refine Ct.at RX6 rfl (by decide +kernel) (Nat.le_of_ble_eq_true rfl) [some (.inl x), some (.inl y)] rfl (fun G => ?_)
  refine a_il_0_2 (pc' := 1) dX6_isProbeSetting_0 rfl ?_
  by_cases s_1_0 : x = nI 0
  · rw [s_1_0]
    refine a_tswI (tgt := 28) (off := 27) dX6_isProbeSetting_1 (by decide) (by decide) (by decide) (by decide) ?_
    refine a_il_1_2 (pc' := 29) dX6_isProbeSetting_28 rfl ?_
    refine a_if_ne (pc' := 32) (tgt := 36) dX6_isProbeSetting_29 (by decide) rfl (fun c_29 => ?_) (fun c_29 => ?_)
    · refine a_iconst (v := nI 0) (pc' := 37) dX6_isProbeSetting_36 (by decide) rfl ?_
      refine a_iret dX6_isProbeSetting_37 rfl rfl ?_
      exact fB0 (by simp [modeS, s_1_0, c_29, nI_12s])
    · refine a_iconst (v := nI 1) (pc' := 33) dX6_isProbeSetting_32 (by decide) rfl ?_
      refine a_goto (pc' := 37) dX6_isProbeSetting_33 (by decide) ?_
      refine a_iret dX6_isProbeSetting_37 rfl rfl ?_
      exact fB1 (by simp [modeS, s_1_0, c_29, nI_12s])
  by_cases s_1_1 : x = nI 1
  · rw [s_1_1]
    refine a_tswI (tgt := 38) (off := 37) dX6_isProbeSetting_1 (by decide) (by decide) (by decide) (by decide) ?_
    refine a_il_1_2 (pc' := 39) dX6_isProbeSetting_38 rfl ?_
    refine a_sipush (v := (-200)) (pc' := 42) dX6_isProbeSetting_39 (by decide) rfl ?_
    refine a_sipush (v := nI 200) (pc' := 45) dX6_isProbeSetting_42 (by decide) rfl ?_
    refine k_SI (pc' := 48) (ct_X6_isWithin _ _ _ _) cw_X6_196 ms_X6_isWithin rfl (by decide) (by decide) (Nat.le_of_ble_eq_true rfl) rfl dX6_isProbeSetting_45 rfl ?_
    refine a_iret dX6_isProbeSetting_48 rfl (n_bI _) ?_
    exact fI (bI_inj.mpr (by simp [modeS, s_1_0, s_1_1, nI_12s]))
  by_cases s_1_2 : x = nI 2
  · rw [s_1_2]
    refine a_tswI (tgt := 49) (off := 48) dX6_isProbeSetting_1 (by decide) (by decide) (by decide) (by decide) ?_
    refine a_il_1_2 (pc' := 50) dX6_isProbeSetting_49 rfl ?_
    refine a_sipush (v := (-300)) (pc' := 53) dX6_isProbeSetting_50 (by decide) rfl ?_
    refine a_sipush (v := nI 450) (pc' := 56) dX6_isProbeSetting_53 (by decide) rfl ?_
    refine k_SI (pc' := 59) (ct_X6_isWithin _ _ _ _) cw_X6_196 ms_X6_isWithin rfl (by decide) (by decide) (Nat.le_of_ble_eq_true rfl) rfl dX6_isProbeSetting_56 rfl ?_
    refine a_iret dX6_isProbeSetting_59 rfl (n_bI _) ?_
    exact fI (bI_inj.mpr (by simp [modeS, s_1_0, s_1_1, s_1_2, nI_12s]))
  refine a_tswO (tgt := 60) dX6_isProbeSetting_1 (tsw_out2 s_1_0 s_1_1 s_1_2) (by decide) ?_
  refine a_iconst (v := nI 0) (pc' := 61) dX6_isProbeSetting_60 (by decide) rfl ?_
  refine a_iret dX6_isProbeSetting_61 rfl rfl ?_
  exact fB0 (by simp [modeS, s_1_0, s_1_1, s_1_2, nI_12s])
set_option maxRecDepth 20000 in
set_option maxHeartbeats 4000000 in
theorem ct_X6_isLimit (x : Int32) (M : Mm) : Ct yX6_isLimit cX6_isLimit 1 (some .boolean) 1 22 [.inl x] M (RT (inn x (-300) (nI 300)) M) := by
  refine Ct.at RX6 rfl (by decide +kernel) (Nat.le_of_ble_eq_true rfl) [some (.inl x)] rfl (fun G => ?_)
  refine a_il_0_1 (pc' := 1) dX6_isLimit_0 rfl ?_
  refine a_sipush (v := (-300)) (pc' := 4) dX6_isLimit_1 (by decide) rfl ?_
  refine a_sipush (v := nI 300) (pc' := 7) dX6_isLimit_4 (by decide) rfl ?_
  refine k_SI (pc' := 10) (ct_X6_isWithin _ _ _ _) cw_X6_196 ms_X6_isWithin rfl (by decide) (by decide) (Nat.le_of_ble_eq_true rfl) rfl dX6_isLimit_7 rfl ?_
  refine a_iret dX6_isLimit_10 rfl (n_bI _) ?_
  exact fI (bI_inj.mpr (by simp []))
set_option maxRecDepth 20000 in
set_option maxHeartbeats 4000000 in
theorem ct_X6_isPrice (x : Int32) (M : Mm) : Ct yX6_isPrice cX6_isPrice 1 (some .boolean) 1 22 [.inl x] M (RT (inn x (nI 0) (nI 9999)) M) := by
  refine Ct.at RX6 rfl (by decide +kernel) (Nat.le_of_ble_eq_true rfl) [some (.inl x)] rfl (fun G => ?_)
  refine a_il_0_1 (pc' := 1) dX6_isPrice_0 rfl ?_
  refine a_iconst (v := nI 0) (pc' := 2) dX6_isPrice_1 (by decide) rfl ?_
  refine a_sipush (v := nI 9999) (pc' := 5) dX6_isPrice_2 (by decide) rfl ?_
  refine k_SI (pc' := 8) (ct_X6_isWithin _ _ _ _) cw_X6_196 ms_X6_isWithin rfl (by decide) (by decide) (Nat.le_of_ble_eq_true rfl) rfl dX6_isPrice_5 rfl ?_
  refine a_iret dX6_isPrice_8 rfl (n_bI _) ?_
  exact fI (bI_inj.mpr (by simp []))
set_option maxRecDepth 20000 in
set_option maxHeartbeats 4000000 in
theorem ct_X6_isError (x : Int32) (M : Mm) : Ct yX6_isError cX6_isError 1 (some .boolean) 0 0 [.inl x] M (RT (errS x) M) := by
  refine Ct.at RX6 rfl (by decide +kernel) (Nat.le_of_ble_eq_true rfl) [some (.inl x)] rfl (fun G => ?_)
  refine a_il_0_1 (pc' := 1) dX6_isError_0 rfl ?_
  refine a_ldc (pc' := 3) dX6_isError_1 cn_X6_133 rfl ?_
  refine a_icmp_gt (pc' := 6) (tgt := 10) dX6_isError_3 (by decide) rfl (fun c_3 => ?_) (fun c_3 => ?_)
  · refine a_iconst (v := nI 0) (pc' := 11) dX6_isError_10 (by decide) rfl ?_
    refine a_iret dX6_isError_11 rfl rfl ?_
    exact fB0 (by simp [errS, c_3])
  · refine a_iconst (v := nI 1) (pc' := 7) dX6_isError_6 (by decide) rfl ?_
    refine a_goto (pc' := 11) dX6_isError_7 (by decide) ?_
    refine a_iret dX6_isError_11 rfl rfl ?_
    exact fB1 (by simp [errS, c_3])
set_option maxRecDepth 20000 in
set_option maxHeartbeats 4000000 in
theorem ct_J9_max_7cf53 (x y : Int32) (M : Mm) : Ct yJ9_max_7cf53 cJ9_max_7cf53 2 (some .int) 0 0 [.inl x, .inl y] M (RI (mxS x y) M) := by
  refine Ct.at RJ9 rfl (by decide +kernel) (Nat.le_of_ble_eq_true rfl) [some (.inl x), some (.inl y)] rfl (fun G => ?_)
  refine a_il_0_2 (pc' := 1) dJ9_max_7cf53_0 rfl ?_
  refine a_il_1_2 (pc' := 2) dJ9_max_7cf53_1 rfl ?_
  refine a_icmp_lt (pc' := 5) (tgt := 9) dJ9_max_7cf53_2 (by decide) rfl (fun c_2 => ?_) (fun c_2 => ?_)
  · refine a_il_1_2 (pc' := 10) dJ9_max_7cf53_9 rfl ?_
    refine a_iret dJ9_max_7cf53_10 rfl rfl ?_
    exact fI (by simp [mxS, c_2])
  · refine a_il_0_2 (pc' := 6) dJ9_max_7cf53_5 rfl ?_
    refine a_goto (pc' := 10) dJ9_max_7cf53_6 (by decide) ?_
    refine a_iret dJ9_max_7cf53_10 rfl rfl ?_
    exact fI (by simp [mxS, c_2])
set_option maxRecDepth 20000 in
set_option maxHeartbeats 4000000 in
theorem ct_J9_min_7cf53 (x y : Int32) (M : Mm) : Ct yJ9_min_7cf53 cJ9_min_7cf53 2 (some .int) 0 0 [.inl x, .inl y] M (RI (mnS x y) M) := by
  refine Ct.at RJ9 rfl (by decide +kernel) (Nat.le_of_ble_eq_true rfl) [some (.inl x), some (.inl y)] rfl (fun G => ?_)
  refine a_il_0_2 (pc' := 1) dJ9_min_7cf53_0 rfl ?_
  refine a_il_1_2 (pc' := 2) dJ9_min_7cf53_1 rfl ?_
  refine a_icmp_gt (pc' := 5) (tgt := 9) dJ9_min_7cf53_2 (by decide) rfl (fun c_2 => ?_) (fun c_2 => ?_)
  · refine a_il_1_2 (pc' := 10) dJ9_min_7cf53_9 rfl ?_
    refine a_iret dJ9_min_7cf53_10 rfl rfl ?_
    exact fI (by simp [mnS, c_2])
  · refine a_il_0_2 (pc' := 6) dJ9_min_7cf53_5 rfl ?_
    refine a_goto (pc' := 10) dJ9_min_7cf53_6 (by decide) ?_
    refine a_iret dJ9_min_7cf53_10 rfl rfl ?_
    exact fI (by simp [mnS, c_2])
set_option maxRecDepth 20000 in
set_option maxHeartbeats 4000000 in
theorem ct_J9_abs_0f7a4 (x : Int32) (M : Mm) : Ct yJ9_abs_0f7a4 cJ9_abs_0f7a4 1 (some .int) 0 0 [.inl x] M (RI (abS x) M) := by
  refine Ct.at RJ9 rfl (by decide +kernel) (Nat.le_of_ble_eq_true rfl) [some (.inl x)] rfl (fun G => ?_)
  refine a_il_0_1 (pc' := 1) dJ9_abs_0f7a4_0 rfl ?_
  refine a_if_ge (pc' := 4) (tgt := 9) dJ9_abs_0f7a4_1 (by decide) rfl (fun c_1 => ?_) (fun c_1 => ?_)
  · refine a_il_0_1 (pc' := 10) dJ9_abs_0f7a4_9 rfl ?_
    refine a_iret dJ9_abs_0f7a4_10 rfl rfl ?_
    exact fI (by simp [abS, c_1])
  · refine a_il_0_1 (pc' := 5) dJ9_abs_0f7a4_4 rfl ?_
    refine a_ineg (pc' := 6) dJ9_abs_0f7a4_5 rfl ?_
    refine a_goto (pc' := 10) dJ9_abs_0f7a4_6 (by decide) ?_
    refine a_iret dJ9_abs_0f7a4_10 rfl rfl ?_
    exact fI (by simp [abS, c_1])
set_option maxRecDepth 20000 in
set_option maxHeartbeats 4000000 in
theorem ct_J9_floorDiv_7cf53 (x y : Int32) (hy : ¬ y = 0) (M : Mm) : Ct yJ9_floorDiv_7cf53 cJ9_floorDiv_7cf53 3 (some .int) 0 0 [.inl x, .inl y] M (RI (fdS x y) M) := by
  refine Ct.at RJ9 rfl (by decide +kernel) (Nat.le_of_ble_eq_true rfl) [some (.inl x), some (.inl y), none] rfl (fun G => ?_)
  refine a_il_0_3 (pc' := 1) dJ9_floorDiv_7cf53_0 rfl ?_
  refine a_il_1_3 (pc' := 2) dJ9_floorDiv_7cf53_1 rfl ?_
  refine a_idiv (pc' := 3) dJ9_floorDiv_7cf53_2 hy rfl ?_
  refine a_is_2_3 (pc' := 4) dJ9_floorDiv_7cf53_3 rfl ?_
  refine a_il_0_3 (pc' := 5) dJ9_floorDiv_7cf53_4 rfl ?_
  refine a_il_1_3 (pc' := 6) dJ9_floorDiv_7cf53_5 rfl ?_
  refine a_ixor (pc' := 7) dJ9_floorDiv_7cf53_6 rfl ?_
  refine a_if_ge (pc' := 10) (tgt := 21) dJ9_floorDiv_7cf53_7 (by decide) rfl (fun c_7 => ?_) (fun c_7 => ?_)
  · refine a_il_2_3 (pc' := 22) dJ9_floorDiv_7cf53_21 rfl ?_
    refine a_iret dJ9_floorDiv_7cf53_22 rfl rfl ?_
    exact fI (by simp [fdS, c_7])
  · refine a_il_2_3 (pc' := 11) dJ9_floorDiv_7cf53_10 rfl ?_
    refine a_il_1_3 (pc' := 12) dJ9_floorDiv_7cf53_11 rfl ?_
    refine a_imul (pc' := 13) dJ9_floorDiv_7cf53_12 rfl ?_
    refine a_il_0_3 (pc' := 14) dJ9_floorDiv_7cf53_13 rfl ?_
    refine a_icmp_eq (pc' := 17) (tgt := 21) dJ9_floorDiv_7cf53_14 (by decide) rfl (fun c_14 => ?_) (fun c_14 => ?_)
    · refine a_il_2_3 (pc' := 22) dJ9_floorDiv_7cf53_21 rfl ?_
      refine a_iret dJ9_floorDiv_7cf53_22 rfl rfl ?_
      exact fI (by simp [fdS, c_7, c_14])
    · refine a_il_2_3 (pc' := 18) dJ9_floorDiv_7cf53_17 rfl ?_
      refine a_iconst (v := nI 1) (pc' := 19) dJ9_floorDiv_7cf53_18 (by decide) rfl ?_
      refine a_isub (pc' := 20) dJ9_floorDiv_7cf53_19 rfl ?_
      refine a_iret dJ9_floorDiv_7cf53_20 rfl rfl ?_
      exact fI (by simp [fdS, c_7, c_14])
