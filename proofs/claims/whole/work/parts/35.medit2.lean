theorem upd_ne (F : Nat → Int32) {i j : Nat} (x : Int32) (h : j ≠ i) : upd F i x j = F j := if_neg h
theorem numS_nI {w x : Int32} (h : numS w x = true) : ∃ j, j < 3 ∧ w = nI j := by
  unfold numS at h
  split at h
  · exact ⟨0, by decide, by assumption⟩
  · split at h
    · exact ⟨1, by decide, by assumption⟩
    · split at h
      · exact ⟨2, by decide, by assumption⟩
      · exact absurd h (by decide)
theorem startV_hi' (F : Nat → Int32) {v i : Nat} (sp c t : Int32) (h : ¬ (6 + 19 * v ≤ i ∧ i < 25 + 19 * v)) : startV F v sp c t i = F i := by
  unfold startV mendF
  simp only [upd_at]
  repeat rw [if_neg (by omega)]
theorem van_eq (F : Nat → Int32) {v : Nat} (hv : v < 3) (sp c : Int32) : upd (upd (upd (upd (upd (upd (upd (upd (upd (upd (upd (upd (upd (upd (upd (upd (upd (upd (upd (upd (upd (upd (upd (upd (upd (upd F (6 + 19 * v + 0) (nI 0)) (6 + 19 * v + 1) (nI 0)) (6 + 19 * v + 2) (nI 0)) (6 + 19 * v + 3) (nI 0)) (6 + 19 * v + 4) (nI 0)) (6 + 19 * v + 5) (nI 0)) (6 + 19 * v + 6) (nI 0)) (6 + 19 * v + 7) (nI 0)) (6 + 19 * v + 8) (nI 0)) (6 + 19 * v + 9) (nI 0)) (6 + 19 * v + 10) (nI 0)) (6 + 19 * v + 11) (nI 0)) (6 + 19 * v + 12) (nI 0)) (6 + 19 * v + 13) (nI 0)) (6 + 19 * v + 14) (nI 0)) (6 + 19 * v + 15) (nI 0)) (6 + 19 * v + 16) (nI 0)) (6 + 19 * v + 17) (nI 0)) (6 + 19 * v + 18) (nI 0)) (6 + 19 * v + 0) sp) (6 + 19 * v + 1) c) (6 + 19 * v + 3) (F 2)) (10 + 19 * v + 5 * 0) sp) (10 + 19 * v + 5 * 1) sp) (10 + 19 * v + 5 * 2) sp) 0 (F 0 + nI 1) = upd (startV F v sp c (F 2)) 0 (F 0 + nI 1) := by
  funext i
  simp only [upd_at]
  by_cases h0 : i = 0
  · rw [if_pos h0, if_pos h0]
  · rw [if_neg h0, if_neg h0]
    by_cases h : 6 + 19 * v ≤ i ∧ i < 25 + 19 * v
    · obtain ⟨j, hj, rfl⟩ : ∃ j, j < 19 ∧ i = 6 + 19 * v + j := ⟨i - (6 + 19 * v), by omega, by omega⟩
      simp only [startV, mendF, upd_at]
      rcases (by omega : j = 0 ∨ j = 1 ∨ j = 2 ∨ j = 3 ∨ j = 4 ∨ j = 5 ∨ j = 6 ∨ j = 7 ∨ j = 8 ∨ j = 9 ∨ j = 10 ∨ j = 11 ∨ j = 12 ∨ j = 13 ∨ j = 14 ∨ j = 15 ∨ j = 16 ∨ j = 17 ∨ j = 18) with rfl | rfl | rfl | rfl | rfl | rfl | rfl | rfl | rfl | rfl | rfl | rfl | rfl | rfl | rfl | rfl | rfl | rfl | rfl <;> repeat (first | rw [if_pos (by omega)] | rw [if_neg (by omega)])
    · rw [startV_hi' F sp c (F 2) h]
      repeat rw [if_neg (by omega)]
def takF (F P : Nat → Int32) (k n : Nat) : Nat → Int32 := fun i => if i < n then P (183 * k + i) else F i
theorem takF_0 (F P : Nat → Int32) (k : Nat) : takF F P k 0 = F := by funext i; unfold takF; rw [if_neg (by omega)]
theorem takF_succ (F P : Nat → Int32) (k n : Nat) : upd (takF F P k n) n (P (183 * k + n)) = takF F P k (n + 1) := by
  funext i
  rw [upd_at]
  unfold takF
  by_cases h : i = n
  · subst h; rw [if_pos rfl, if_pos (by omega)]
  · rw [if_neg h]
    by_cases h2 : i < n
    · rw [if_pos h2, if_pos (by omega)]
    · rw [if_neg h2, if_neg (by omega)]
theorem nI_pos_ {k : Nat} (h : 1 ≤ k) (hk : k ≤ 6) : ¬ nI k = 0 := by
  rw [show (0 : Int32) = nI 0 from rfl, nI_eqm]; omega
def undR (x : Int32) (k : Nat) : Int32 := if x = 0 then (-100002) else nI (k - 1)
def mUnd (M : Mm) (k : Nat) : Mm := if M 60 0 = 0 then M else setR (setR M 60 (upd (M 60) 0 (nI (k - 1)))) 50 (takF (M 50) (M 51) (k - 1) 183)
def mAp (M : Mm) (n : Nat) (x : Int32) : Mm := if apB n x then setR (setR M 55 (upd (M 55) n x)) 60 (upd (M 60) 2 (nI (n + 1))) else M
set_option maxRecDepth 20000 in
set_option maxHeartbeats 4000000 in
theorem ct_X7_setNumber {k : Nat} (hk : k ≤ 6)  (w x : Int32) (M : Mm) (h6 : M 60 0 = nI k)  : Ct yX7_setNumber cX7_setNumber 4 (some .int) 2 43 [.inr (7, 0, 0, 0), .inl w, .inl x] M (RI (numR (M 50) w x) (mE M k (numS w x) (numF (M 50) w x))) := by
  refine Ct.at RX7 rfl (by decide +kernel) (Nat.le_of_ble_eq_true rfl) [some (.inr (7, 0, 0, 0)), some (.inl w), some (.inl x), none] rfl (fun G => ?_)
  refine a_il_1_4 (pc' := 1) dX7_setNumber_0 rfl ?_
  refine a_il_2_4 (pc' := 2) dX7_setNumber_1 rfl ?_
  refine k_SI (pc' := 5) (ct_X7_isNumber _ _ _) cw_X7_120 ms_X7_isNumber rfl (by decide) (by decide) (Nat.le_of_ble_eq_true rfl) rfl dX7_setNumber_2 rfl ?_
  refine a_ifB_ne (pc' := 8) (tgt := 11) dX7_setNumber_5 (by decide) rfl (fun c_5 => ?_) (fun c_5 => ?_)
  · refine a_al_0_4 (pc' := 12) dX7_setNumber_11 rfl ?_
    refine k_VV (pc' := 15) (ct_X7_hold _) cw_X7_117 mi_X7_hold se_X7_hold rfl rfl rfl rfl (by decide) (by decide) (Nat.le_of_ble_eq_true rfl) rfl dX7_setNumber_12 rfl ?_
    obtain ⟨j, hj, rfl⟩ := numS_nI c_5
    refine a_al_0_4 (pc' := 16) dX7_setNumber_15 rfl ?_
    refine gf_7_0 (pc' := 19) fl_X7_7 dX7_setNumber_16 rfl ?_
    refine a_iconst (v := nI 3) (pc' := 20) dX7_setNumber_19 (by decide) rfl ?_
    refine a_il_1_4 (pc' := 21) dX7_setNumber_20 rfl ?_
    refine a_iaddN (pc' := 22) dX7_setNumber_21 rfl ?_
    refine a_ialdN (pc' := 23) rfl (by omega) (by decide) dX7_setNumber_22 rfl ?_
    refine a_is_3_4 (pc' := 24) dX7_setNumber_23 rfl ?_
    refine a_al_0_4 (pc' := 25) dX7_setNumber_24 rfl ?_
    refine gf_7_0 (pc' := 28) fl_X7_7 dX7_setNumber_25 rfl ?_
    refine a_iconst (v := nI 3) (pc' := 29) dX7_setNumber_28 (by decide) rfl ?_
    refine a_il_1_4 (pc' := 30) dX7_setNumber_29 rfl ?_
    refine a_iaddN (pc' := 31) dX7_setNumber_30 rfl ?_
    refine a_il_2_4 (pc' := 32) dX7_setNumber_31 rfl ?_
    refine a_iastN (pc' := 33) rfl (by omega) (by decide) dX7_setNumber_32 rfl ?_
    refine a_al_0_4 (pc' := 34) dX7_setNumber_33 rfl ?_
    refine a_il_3_4 (pc' := 35) dX7_setNumber_34 rfl ?_
    refine k_VI (pc' := 38) (ct_X7_ends hk _ _ (by simp (disch := decide) only [wr_rne, setR_same, setR_ne, hM_ne]; exact h6)) cw_X7_111 mi_X7_ends se_X7_ends rfl rfl rfl rfl (by decide) (by decide) (Nat.le_of_ble_eq_true rfl) rfl dX7_setNumber_35 rfl ?_
    refine a_iret dX7_setNumber_38 rfl rfl ?_
    refine fIM (by (try simp (disch := decide) only [wr_rne, setR_same, setR_ne, hM_ne]); rcases (by omega : j = 0 ∨ j = 1 ∨ j = 2) with rfl | rfl | rfl <;> simp [numR, c_5, nI_eqm]) ?_
    rw [mE, if_pos (by exact c_5)]
    refine congrArg (fun X => endM X k) ?_
    simp (disch := decide) only [wr_eq, setR_same, setR_setR, hM_ne]
    refine congrArg (setR (hM M) 50) ?_
    rcases (by omega : j = 0 ∨ j = 1 ∨ j = 2) with rfl | rfl | rfl <;> simp [numF, c_5, nI_eqm]
  · refine a_ldc (pc' := 10) dX7_setNumber_8 cn_X7_92 rfl ?_
    refine a_iret dX7_setNumber_10 rfl rfl ?_
    exact fIM (by simp [numR, numF, c_5, -Int32.not_le, -Int32.not_lt]) (by simp [mE, numR, numF, c_5, -Int32.not_le, -Int32.not_lt])
set_option maxRecDepth 20000 in
set_option maxHeartbeats 4000000 in
theorem ct_X7_addVan {k : Nat} (hk : k ≤ 6) {nv : Nat} (hn : nv ≤ 3) (sp c : Int32) (M : Mm) (h6 : M 60 0 = nI k) (h0 : M 50 0 = nI nv) : Ct yX7_addVan cX7_addVan 5 (some .int) 2 43 [.inr (7, 0, 0, 0), .inl sp, .inl c] M (RI (newR (M 50) sp c) (mE M k (coldS sp c && decide (M 50 0 < nI 3)) (newF (M 50) sp c))) := by
  refine Ct.at RX7 rfl (by decide +kernel) (Nat.le_of_ble_eq_true rfl) [some (.inr (7, 0, 0, 0)), some (.inl sp), some (.inl c), none, none] rfl (fun G => ?_)
  refine a_il_1_5 (pc' := 1) dX7_addVan_0 rfl ?_
  refine a_il_2_5 (pc' := 2) dX7_addVan_1 rfl ?_
  refine k_SI (pc' := 5) (ct_X7_isCold _ _ _) cw_X7_114 ms_X7_isCold rfl (by decide) (by decide) (Nat.le_of_ble_eq_true rfl) rfl dX7_addVan_2 rfl ?_
  refine a_ifB_ne (pc' := 8) (tgt := 11) dX7_addVan_5 (by decide) rfl (fun c_5 => ?_) (fun c_5 => ?_)
  · refine a_al_0_5 (pc' := 12) dX7_addVan_11 rfl ?_
    refine gf_7_0 (pc' := 15) fl_X7_7 dX7_addVan_12 rfl ?_
    refine a_iconst (v := nI 0) (pc' := 16) dX7_addVan_15 (by decide) rfl ?_
    refine a_ialdN (pc' := 17) rfl (by omega) (by decide) dX7_addVan_16 rfl ?_
    refine a_iconst (v := nI 3) (pc' := 18) dX7_addVan_17 (by decide) rfl ?_
    rw [h0]
    refine a_icmp_ne (pc' := 21) (tgt := 24) dX7_addVan_18 (by decide) rfl (fun c_18 => ?_) (fun c_18 => ?_)
    · have hv : nv < 3 := by
        have : nv ≠ 3 := fun q => c_18 (by rw [q])
        omega
      have hlt : nI nv < nI 3 := nI_lt hv (by decide)
      have hnv : nvF (M 50) = nv := by unfold nvF; rw [h0]; exact nI_clamp (by omega)
      refine a_al_0_5 (pc' := 25) dX7_addVan_24 rfl ?_
      refine k_VV (pc' := 28) (ct_X7_hold _) cw_X7_117 mi_X7_hold se_X7_hold rfl rfl rfl rfl (by decide) (by decide) (Nat.le_of_ble_eq_true rfl) rfl dX7_addVan_25 rfl ?_
      refine a_al_0_5 (pc' := 29) dX7_addVan_28 rfl ?_
      refine gf_7_0 (pc' := 32) fl_X7_7 dX7_addVan_29 rfl ?_
      refine a_iconst (v := nI 0) (pc' := 33) dX7_addVan_32 (by decide) rfl ?_
      refine a_ialdN (pc' := 34) rfl (by omega) (by decide) dX7_addVan_33 rfl ?_
      simp (disch := decide) only [hM_ne]
      rw [h0]
      refine a_is_3_5 (pc' := 35) dX7_addVan_34 rfl ?_
      refine a_iconst (v := nI 0) (pc' := 36) dX7_addVan_35 (by decide) rfl ?_
      refine a_is_4_5 (pc' := 38) dX7_addVan_36 rfl ?_
      refine a_il_4_5 (pc' := 40) dX7_addVan_38 rfl ?_
      refine a_bipush (v := nI 19) (pc' := 42) dX7_addVan_40 (by decide) rfl ?_
      refine a_icmp_ge (pc' := 45) (tgt := 67) dX7_addVan_42 (by decide) rfl (fun c_42 => absurd c_42 (by decide)) (fun c_42 => ?_)
      refine a_al_0_5 (pc' := 46) dX7_addVan_45 rfl ?_
      refine gf_7_0 (pc' := 49) fl_X7_7 dX7_addVan_46 rfl ?_
      refine a_bipush (v := nI 6) (pc' := 51) dX7_addVan_49 (by decide) rfl ?_
      refine a_bipush (v := nI 19) (pc' := 53) dX7_addVan_51 (by decide) rfl ?_
      refine a_il_3_5 (pc' := 54) dX7_addVan_53 rfl ?_
      refine a_imulN (pc' := 55) dX7_addVan_54 rfl ?_
      refine a_iaddN (pc' := 56) dX7_addVan_55 rfl ?_
      refine a_il_4_5 (pc' := 58) dX7_addVan_56 rfl ?_
      refine a_iaddN (pc' := 59) dX7_addVan_58 rfl ?_
      refine a_iconst (v := nI 0) (pc' := 60) dX7_addVan_59 (by decide) rfl ?_
      refine a_iastN (pc' := 61) rfl (by omega) (by decide) dX7_addVan_60 rfl ?_
      refine a_iN_4_5 (m := 1) (pc' := 64) dX7_addVan_61 (nI_add _ _) rfl ?_
      refine a_goto (pc' := 38) dX7_addVan_64 (by decide) ?_
      refine a_il_4_5 (pc' := 40) dX7_addVan_38 rfl ?_
      refine a_bipush (v := nI 19) (pc' := 42) dX7_addVan_40 (by decide) rfl ?_
      refine a_icmp_ge (pc' := 45) (tgt := 67) dX7_addVan_42 (by decide) rfl (fun c_42_2 => absurd c_42_2 (by decide)) (fun c_42_2 => ?_)
      refine a_al_0_5 (pc' := 46) dX7_addVan_45 rfl ?_
      refine gf_7_0 (pc' := 49) fl_X7_7 dX7_addVan_46 rfl ?_
      refine a_bipush (v := nI 6) (pc' := 51) dX7_addVan_49 (by decide) rfl ?_
      refine a_bipush (v := nI 19) (pc' := 53) dX7_addVan_51 (by decide) rfl ?_
      refine a_il_3_5 (pc' := 54) dX7_addVan_53 rfl ?_
      refine a_imulN (pc' := 55) dX7_addVan_54 rfl ?_
      refine a_iaddN (pc' := 56) dX7_addVan_55 rfl ?_
      refine a_il_4_5 (pc' := 58) dX7_addVan_56 rfl ?_
      refine a_iaddN (pc' := 59) dX7_addVan_58 rfl ?_
      refine a_iconst (v := nI 0) (pc' := 60) dX7_addVan_59 (by decide) rfl ?_
      refine a_iastN (pc' := 61) rfl (by omega) (by decide) dX7_addVan_60 rfl ?_
      refine a_iN_4_5 (m := 2) (pc' := 64) dX7_addVan_61 (nI_add _ _) rfl ?_
      refine a_goto (pc' := 38) dX7_addVan_64 (by decide) ?_
      refine a_il_4_5 (pc' := 40) dX7_addVan_38 rfl ?_
      refine a_bipush (v := nI 19) (pc' := 42) dX7_addVan_40 (by decide) rfl ?_
      refine a_icmp_ge (pc' := 45) (tgt := 67) dX7_addVan_42 (by decide) rfl (fun c_42_3 => absurd c_42_3 (by decide)) (fun c_42_3 => ?_)
      refine a_al_0_5 (pc' := 46) dX7_addVan_45 rfl ?_
      refine gf_7_0 (pc' := 49) fl_X7_7 dX7_addVan_46 rfl ?_
      refine a_bipush (v := nI 6) (pc' := 51) dX7_addVan_49 (by decide) rfl ?_
      refine a_bipush (v := nI 19) (pc' := 53) dX7_addVan_51 (by decide) rfl ?_
      refine a_il_3_5 (pc' := 54) dX7_addVan_53 rfl ?_
      refine a_imulN (pc' := 55) dX7_addVan_54 rfl ?_
      refine a_iaddN (pc' := 56) dX7_addVan_55 rfl ?_
      refine a_il_4_5 (pc' := 58) dX7_addVan_56 rfl ?_
      refine a_iaddN (pc' := 59) dX7_addVan_58 rfl ?_
      refine a_iconst (v := nI 0) (pc' := 60) dX7_addVan_59 (by decide) rfl ?_
      refine a_iastN (pc' := 61) rfl (by omega) (by decide) dX7_addVan_60 rfl ?_
      refine a_iN_4_5 (m := 3) (pc' := 64) dX7_addVan_61 (nI_add _ _) rfl ?_
      refine a_goto (pc' := 38) dX7_addVan_64 (by decide) ?_
      refine a_il_4_5 (pc' := 40) dX7_addVan_38 rfl ?_
      refine a_bipush (v := nI 19) (pc' := 42) dX7_addVan_40 (by decide) rfl ?_
      refine a_icmp_ge (pc' := 45) (tgt := 67) dX7_addVan_42 (by decide) rfl (fun c_42_4 => absurd c_42_4 (by decide)) (fun c_42_4 => ?_)
      refine a_al_0_5 (pc' := 46) dX7_addVan_45 rfl ?_
      refine gf_7_0 (pc' := 49) fl_X7_7 dX7_addVan_46 rfl ?_
      refine a_bipush (v := nI 6) (pc' := 51) dX7_addVan_49 (by decide) rfl ?_
      refine a_bipush (v := nI 19) (pc' := 53) dX7_addVan_51 (by decide) rfl ?_
      refine a_il_3_5 (pc' := 54) dX7_addVan_53 rfl ?_
      refine a_imulN (pc' := 55) dX7_addVan_54 rfl ?_
      refine a_iaddN (pc' := 56) dX7_addVan_55 rfl ?_
      refine a_il_4_5 (pc' := 58) dX7_addVan_56 rfl ?_
      refine a_iaddN (pc' := 59) dX7_addVan_58 rfl ?_
      refine a_iconst (v := nI 0) (pc' := 60) dX7_addVan_59 (by decide) rfl ?_
      refine a_iastN (pc' := 61) rfl (by omega) (by decide) dX7_addVan_60 rfl ?_
      refine a_iN_4_5 (m := 4) (pc' := 64) dX7_addVan_61 (nI_add _ _) rfl ?_
      refine a_goto (pc' := 38) dX7_addVan_64 (by decide) ?_
      refine a_il_4_5 (pc' := 40) dX7_addVan_38 rfl ?_
      refine a_bipush (v := nI 19) (pc' := 42) dX7_addVan_40 (by decide) rfl ?_
      refine a_icmp_ge (pc' := 45) (tgt := 67) dX7_addVan_42 (by decide) rfl (fun c_42_5 => absurd c_42_5 (by decide)) (fun c_42_5 => ?_)
      refine a_al_0_5 (pc' := 46) dX7_addVan_45 rfl ?_
      refine gf_7_0 (pc' := 49) fl_X7_7 dX7_addVan_46 rfl ?_
      refine a_bipush (v := nI 6) (pc' := 51) dX7_addVan_49 (by decide) rfl ?_
      refine a_bipush (v := nI 19) (pc' := 53) dX7_addVan_51 (by decide) rfl ?_
      refine a_il_3_5 (pc' := 54) dX7_addVan_53 rfl ?_
      refine a_imulN (pc' := 55) dX7_addVan_54 rfl ?_
      refine a_iaddN (pc' := 56) dX7_addVan_55 rfl ?_
      refine a_il_4_5 (pc' := 58) dX7_addVan_56 rfl ?_
      refine a_iaddN (pc' := 59) dX7_addVan_58 rfl ?_
      refine a_iconst (v := nI 0) (pc' := 60) dX7_addVan_59 (by decide) rfl ?_
      refine a_iastN (pc' := 61) rfl (by omega) (by decide) dX7_addVan_60 rfl ?_
      refine a_iN_4_5 (m := 5) (pc' := 64) dX7_addVan_61 (nI_add _ _) rfl ?_
      refine a_goto (pc' := 38) dX7_addVan_64 (by decide) ?_
      refine a_il_4_5 (pc' := 40) dX7_addVan_38 rfl ?_
      refine a_bipush (v := nI 19) (pc' := 42) dX7_addVan_40 (by decide) rfl ?_
      refine a_icmp_ge (pc' := 45) (tgt := 67) dX7_addVan_42 (by decide) rfl (fun c_42_6 => absurd c_42_6 (by decide)) (fun c_42_6 => ?_)
      refine a_al_0_5 (pc' := 46) dX7_addVan_45 rfl ?_
      refine gf_7_0 (pc' := 49) fl_X7_7 dX7_addVan_46 rfl ?_
      refine a_bipush (v := nI 6) (pc' := 51) dX7_addVan_49 (by decide) rfl ?_
      refine a_bipush (v := nI 19) (pc' := 53) dX7_addVan_51 (by decide) rfl ?_
      refine a_il_3_5 (pc' := 54) dX7_addVan_53 rfl ?_
      refine a_imulN (pc' := 55) dX7_addVan_54 rfl ?_
      refine a_iaddN (pc' := 56) dX7_addVan_55 rfl ?_
      refine a_il_4_5 (pc' := 58) dX7_addVan_56 rfl ?_
      refine a_iaddN (pc' := 59) dX7_addVan_58 rfl ?_
      refine a_iconst (v := nI 0) (pc' := 60) dX7_addVan_59 (by decide) rfl ?_
      refine a_iastN (pc' := 61) rfl (by omega) (by decide) dX7_addVan_60 rfl ?_
      refine a_iN_4_5 (m := 6) (pc' := 64) dX7_addVan_61 (nI_add _ _) rfl ?_
      refine a_goto (pc' := 38) dX7_addVan_64 (by decide) ?_
      refine a_il_4_5 (pc' := 40) dX7_addVan_38 rfl ?_
      refine a_bipush (v := nI 19) (pc' := 42) dX7_addVan_40 (by decide) rfl ?_
      refine a_icmp_ge (pc' := 45) (tgt := 67) dX7_addVan_42 (by decide) rfl (fun c_42_7 => absurd c_42_7 (by decide)) (fun c_42_7 => ?_)
      refine a_al_0_5 (pc' := 46) dX7_addVan_45 rfl ?_
      refine gf_7_0 (pc' := 49) fl_X7_7 dX7_addVan_46 rfl ?_
      refine a_bipush (v := nI 6) (pc' := 51) dX7_addVan_49 (by decide) rfl ?_
      refine a_bipush (v := nI 19) (pc' := 53) dX7_addVan_51 (by decide) rfl ?_
      refine a_il_3_5 (pc' := 54) dX7_addVan_53 rfl ?_
      refine a_imulN (pc' := 55) dX7_addVan_54 rfl ?_
      refine a_iaddN (pc' := 56) dX7_addVan_55 rfl ?_
      refine a_il_4_5 (pc' := 58) dX7_addVan_56 rfl ?_
      refine a_iaddN (pc' := 59) dX7_addVan_58 rfl ?_
      refine a_iconst (v := nI 0) (pc' := 60) dX7_addVan_59 (by decide) rfl ?_
      refine a_iastN (pc' := 61) rfl (by omega) (by decide) dX7_addVan_60 rfl ?_
      refine a_iN_4_5 (m := 7) (pc' := 64) dX7_addVan_61 (nI_add _ _) rfl ?_
      refine a_goto (pc' := 38) dX7_addVan_64 (by decide) ?_
      refine a_il_4_5 (pc' := 40) dX7_addVan_38 rfl ?_
      refine a_bipush (v := nI 19) (pc' := 42) dX7_addVan_40 (by decide) rfl ?_
      refine a_icmp_ge (pc' := 45) (tgt := 67) dX7_addVan_42 (by decide) rfl (fun c_42_8 => absurd c_42_8 (by decide)) (fun c_42_8 => ?_)
      refine a_al_0_5 (pc' := 46) dX7_addVan_45 rfl ?_
      refine gf_7_0 (pc' := 49) fl_X7_7 dX7_addVan_46 rfl ?_
      refine a_bipush (v := nI 6) (pc' := 51) dX7_addVan_49 (by decide) rfl ?_
      refine a_bipush (v := nI 19) (pc' := 53) dX7_addVan_51 (by decide) rfl ?_
      refine a_il_3_5 (pc' := 54) dX7_addVan_53 rfl ?_
      refine a_imulN (pc' := 55) dX7_addVan_54 rfl ?_
      refine a_iaddN (pc' := 56) dX7_addVan_55 rfl ?_
      refine a_il_4_5 (pc' := 58) dX7_addVan_56 rfl ?_
      refine a_iaddN (pc' := 59) dX7_addVan_58 rfl ?_
      refine a_iconst (v := nI 0) (pc' := 60) dX7_addVan_59 (by decide) rfl ?_
      refine a_iastN (pc' := 61) rfl (by omega) (by decide) dX7_addVan_60 rfl ?_
      refine a_iN_4_5 (m := 8) (pc' := 64) dX7_addVan_61 (nI_add _ _) rfl ?_
      refine a_goto (pc' := 38) dX7_addVan_64 (by decide) ?_
      refine a_il_4_5 (pc' := 40) dX7_addVan_38 rfl ?_
      refine a_bipush (v := nI 19) (pc' := 42) dX7_addVan_40 (by decide) rfl ?_
      refine a_icmp_ge (pc' := 45) (tgt := 67) dX7_addVan_42 (by decide) rfl (fun c_42_9 => absurd c_42_9 (by decide)) (fun c_42_9 => ?_)
      refine a_al_0_5 (pc' := 46) dX7_addVan_45 rfl ?_
      refine gf_7_0 (pc' := 49) fl_X7_7 dX7_addVan_46 rfl ?_
      refine a_bipush (v := nI 6) (pc' := 51) dX7_addVan_49 (by decide) rfl ?_
      refine a_bipush (v := nI 19) (pc' := 53) dX7_addVan_51 (by decide) rfl ?_
      refine a_il_3_5 (pc' := 54) dX7_addVan_53 rfl ?_
      refine a_imulN (pc' := 55) dX7_addVan_54 rfl ?_
      refine a_iaddN (pc' := 56) dX7_addVan_55 rfl ?_
      refine a_il_4_5 (pc' := 58) dX7_addVan_56 rfl ?_
      refine a_iaddN (pc' := 59) dX7_addVan_58 rfl ?_
      refine a_iconst (v := nI 0) (pc' := 60) dX7_addVan_59 (by decide) rfl ?_
      refine a_iastN (pc' := 61) rfl (by omega) (by decide) dX7_addVan_60 rfl ?_
      refine a_iN_4_5 (m := 9) (pc' := 64) dX7_addVan_61 (nI_add _ _) rfl ?_
      refine a_goto (pc' := 38) dX7_addVan_64 (by decide) ?_
      refine a_il_4_5 (pc' := 40) dX7_addVan_38 rfl ?_
      refine a_bipush (v := nI 19) (pc' := 42) dX7_addVan_40 (by decide) rfl ?_
      refine a_icmp_ge (pc' := 45) (tgt := 67) dX7_addVan_42 (by decide) rfl (fun c_42_10 => absurd c_42_10 (by decide)) (fun c_42_10 => ?_)
      refine a_al_0_5 (pc' := 46) dX7_addVan_45 rfl ?_
      refine gf_7_0 (pc' := 49) fl_X7_7 dX7_addVan_46 rfl ?_
      refine a_bipush (v := nI 6) (pc' := 51) dX7_addVan_49 (by decide) rfl ?_
      refine a_bipush (v := nI 19) (pc' := 53) dX7_addVan_51 (by decide) rfl ?_
      refine a_il_3_5 (pc' := 54) dX7_addVan_53 rfl ?_
      refine a_imulN (pc' := 55) dX7_addVan_54 rfl ?_
      refine a_iaddN (pc' := 56) dX7_addVan_55 rfl ?_
      refine a_il_4_5 (pc' := 58) dX7_addVan_56 rfl ?_
      refine a_iaddN (pc' := 59) dX7_addVan_58 rfl ?_
      refine a_iconst (v := nI 0) (pc' := 60) dX7_addVan_59 (by decide) rfl ?_
      refine a_iastN (pc' := 61) rfl (by omega) (by decide) dX7_addVan_60 rfl ?_
      refine a_iN_4_5 (m := 10) (pc' := 64) dX7_addVan_61 (nI_add _ _) rfl ?_
      refine a_goto (pc' := 38) dX7_addVan_64 (by decide) ?_
      refine a_il_4_5 (pc' := 40) dX7_addVan_38 rfl ?_
      refine a_bipush (v := nI 19) (pc' := 42) dX7_addVan_40 (by decide) rfl ?_
      refine a_icmp_ge (pc' := 45) (tgt := 67) dX7_addVan_42 (by decide) rfl (fun c_42_11 => absurd c_42_11 (by decide)) (fun c_42_11 => ?_)
      refine a_al_0_5 (pc' := 46) dX7_addVan_45 rfl ?_
      refine gf_7_0 (pc' := 49) fl_X7_7 dX7_addVan_46 rfl ?_
      refine a_bipush (v := nI 6) (pc' := 51) dX7_addVan_49 (by decide) rfl ?_
      refine a_bipush (v := nI 19) (pc' := 53) dX7_addVan_51 (by decide) rfl ?_
      refine a_il_3_5 (pc' := 54) dX7_addVan_53 rfl ?_
      refine a_imulN (pc' := 55) dX7_addVan_54 rfl ?_
      refine a_iaddN (pc' := 56) dX7_addVan_55 rfl ?_
      refine a_il_4_5 (pc' := 58) dX7_addVan_56 rfl ?_
      refine a_iaddN (pc' := 59) dX7_addVan_58 rfl ?_
      refine a_iconst (v := nI 0) (pc' := 60) dX7_addVan_59 (by decide) rfl ?_
      refine a_iastN (pc' := 61) rfl (by omega) (by decide) dX7_addVan_60 rfl ?_
      refine a_iN_4_5 (m := 11) (pc' := 64) dX7_addVan_61 (nI_add _ _) rfl ?_
      refine a_goto (pc' := 38) dX7_addVan_64 (by decide) ?_
      refine a_il_4_5 (pc' := 40) dX7_addVan_38 rfl ?_
      refine a_bipush (v := nI 19) (pc' := 42) dX7_addVan_40 (by decide) rfl ?_
      refine a_icmp_ge (pc' := 45) (tgt := 67) dX7_addVan_42 (by decide) rfl (fun c_42_12 => absurd c_42_12 (by decide)) (fun c_42_12 => ?_)
      refine a_al_0_5 (pc' := 46) dX7_addVan_45 rfl ?_
      refine gf_7_0 (pc' := 49) fl_X7_7 dX7_addVan_46 rfl ?_
      refine a_bipush (v := nI 6) (pc' := 51) dX7_addVan_49 (by decide) rfl ?_
      refine a_bipush (v := nI 19) (pc' := 53) dX7_addVan_51 (by decide) rfl ?_
      refine a_il_3_5 (pc' := 54) dX7_addVan_53 rfl ?_
      refine a_imulN (pc' := 55) dX7_addVan_54 rfl ?_
      refine a_iaddN (pc' := 56) dX7_addVan_55 rfl ?_
      refine a_il_4_5 (pc' := 58) dX7_addVan_56 rfl ?_
      refine a_iaddN (pc' := 59) dX7_addVan_58 rfl ?_
      refine a_iconst (v := nI 0) (pc' := 60) dX7_addVan_59 (by decide) rfl ?_
      refine a_iastN (pc' := 61) rfl (by omega) (by decide) dX7_addVan_60 rfl ?_
      refine a_iN_4_5 (m := 12) (pc' := 64) dX7_addVan_61 (nI_add _ _) rfl ?_
      refine a_goto (pc' := 38) dX7_addVan_64 (by decide) ?_
      refine a_il_4_5 (pc' := 40) dX7_addVan_38 rfl ?_
      refine a_bipush (v := nI 19) (pc' := 42) dX7_addVan_40 (by decide) rfl ?_
      refine a_icmp_ge (pc' := 45) (tgt := 67) dX7_addVan_42 (by decide) rfl (fun c_42_13 => absurd c_42_13 (by decide)) (fun c_42_13 => ?_)
      refine a_al_0_5 (pc' := 46) dX7_addVan_45 rfl ?_
      refine gf_7_0 (pc' := 49) fl_X7_7 dX7_addVan_46 rfl ?_
      refine a_bipush (v := nI 6) (pc' := 51) dX7_addVan_49 (by decide) rfl ?_
      refine a_bipush (v := nI 19) (pc' := 53) dX7_addVan_51 (by decide) rfl ?_
      refine a_il_3_5 (pc' := 54) dX7_addVan_53 rfl ?_
      refine a_imulN (pc' := 55) dX7_addVan_54 rfl ?_
      refine a_iaddN (pc' := 56) dX7_addVan_55 rfl ?_
      refine a_il_4_5 (pc' := 58) dX7_addVan_56 rfl ?_
      refine a_iaddN (pc' := 59) dX7_addVan_58 rfl ?_
      refine a_iconst (v := nI 0) (pc' := 60) dX7_addVan_59 (by decide) rfl ?_
      refine a_iastN (pc' := 61) rfl (by omega) (by decide) dX7_addVan_60 rfl ?_
      refine a_iN_4_5 (m := 13) (pc' := 64) dX7_addVan_61 (nI_add _ _) rfl ?_
      refine a_goto (pc' := 38) dX7_addVan_64 (by decide) ?_
      refine a_il_4_5 (pc' := 40) dX7_addVan_38 rfl ?_
      refine a_bipush (v := nI 19) (pc' := 42) dX7_addVan_40 (by decide) rfl ?_
      refine a_icmp_ge (pc' := 45) (tgt := 67) dX7_addVan_42 (by decide) rfl (fun c_42_14 => absurd c_42_14 (by decide)) (fun c_42_14 => ?_)
      refine a_al_0_5 (pc' := 46) dX7_addVan_45 rfl ?_
      refine gf_7_0 (pc' := 49) fl_X7_7 dX7_addVan_46 rfl ?_
      refine a_bipush (v := nI 6) (pc' := 51) dX7_addVan_49 (by decide) rfl ?_
      refine a_bipush (v := nI 19) (pc' := 53) dX7_addVan_51 (by decide) rfl ?_
      refine a_il_3_5 (pc' := 54) dX7_addVan_53 rfl ?_
      refine a_imulN (pc' := 55) dX7_addVan_54 rfl ?_
      refine a_iaddN (pc' := 56) dX7_addVan_55 rfl ?_
      refine a_il_4_5 (pc' := 58) dX7_addVan_56 rfl ?_
      refine a_iaddN (pc' := 59) dX7_addVan_58 rfl ?_
      refine a_iconst (v := nI 0) (pc' := 60) dX7_addVan_59 (by decide) rfl ?_
      refine a_iastN (pc' := 61) rfl (by omega) (by decide) dX7_addVan_60 rfl ?_
      refine a_iN_4_5 (m := 14) (pc' := 64) dX7_addVan_61 (nI_add _ _) rfl ?_
      refine a_goto (pc' := 38) dX7_addVan_64 (by decide) ?_
      refine a_il_4_5 (pc' := 40) dX7_addVan_38 rfl ?_
      refine a_bipush (v := nI 19) (pc' := 42) dX7_addVan_40 (by decide) rfl ?_
      refine a_icmp_ge (pc' := 45) (tgt := 67) dX7_addVan_42 (by decide) rfl (fun c_42_15 => absurd c_42_15 (by decide)) (fun c_42_15 => ?_)
      refine a_al_0_5 (pc' := 46) dX7_addVan_45 rfl ?_
      refine gf_7_0 (pc' := 49) fl_X7_7 dX7_addVan_46 rfl ?_
      refine a_bipush (v := nI 6) (pc' := 51) dX7_addVan_49 (by decide) rfl ?_
      refine a_bipush (v := nI 19) (pc' := 53) dX7_addVan_51 (by decide) rfl ?_
      refine a_il_3_5 (pc' := 54) dX7_addVan_53 rfl ?_
      refine a_imulN (pc' := 55) dX7_addVan_54 rfl ?_
      refine a_iaddN (pc' := 56) dX7_addVan_55 rfl ?_
      refine a_il_4_5 (pc' := 58) dX7_addVan_56 rfl ?_
      refine a_iaddN (pc' := 59) dX7_addVan_58 rfl ?_
      refine a_iconst (v := nI 0) (pc' := 60) dX7_addVan_59 (by decide) rfl ?_
      refine a_iastN (pc' := 61) rfl (by omega) (by decide) dX7_addVan_60 rfl ?_
      refine a_iN_4_5 (m := 15) (pc' := 64) dX7_addVan_61 (nI_add _ _) rfl ?_
      refine a_goto (pc' := 38) dX7_addVan_64 (by decide) ?_
      refine a_il_4_5 (pc' := 40) dX7_addVan_38 rfl ?_
      refine a_bipush (v := nI 19) (pc' := 42) dX7_addVan_40 (by decide) rfl ?_
      refine a_icmp_ge (pc' := 45) (tgt := 67) dX7_addVan_42 (by decide) rfl (fun c_42_16 => absurd c_42_16 (by decide)) (fun c_42_16 => ?_)
      refine a_al_0_5 (pc' := 46) dX7_addVan_45 rfl ?_
      refine gf_7_0 (pc' := 49) fl_X7_7 dX7_addVan_46 rfl ?_
      refine a_bipush (v := nI 6) (pc' := 51) dX7_addVan_49 (by decide) rfl ?_
      refine a_bipush (v := nI 19) (pc' := 53) dX7_addVan_51 (by decide) rfl ?_
      refine a_il_3_5 (pc' := 54) dX7_addVan_53 rfl ?_
      refine a_imulN (pc' := 55) dX7_addVan_54 rfl ?_
      refine a_iaddN (pc' := 56) dX7_addVan_55 rfl ?_
      refine a_il_4_5 (pc' := 58) dX7_addVan_56 rfl ?_
      refine a_iaddN (pc' := 59) dX7_addVan_58 rfl ?_
      refine a_iconst (v := nI 0) (pc' := 60) dX7_addVan_59 (by decide) rfl ?_
      refine a_iastN (pc' := 61) rfl (by omega) (by decide) dX7_addVan_60 rfl ?_
      refine a_iN_4_5 (m := 16) (pc' := 64) dX7_addVan_61 (nI_add _ _) rfl ?_
      refine a_goto (pc' := 38) dX7_addVan_64 (by decide) ?_
      refine a_il_4_5 (pc' := 40) dX7_addVan_38 rfl ?_
      refine a_bipush (v := nI 19) (pc' := 42) dX7_addVan_40 (by decide) rfl ?_
      refine a_icmp_ge (pc' := 45) (tgt := 67) dX7_addVan_42 (by decide) rfl (fun c_42_17 => absurd c_42_17 (by decide)) (fun c_42_17 => ?_)
      refine a_al_0_5 (pc' := 46) dX7_addVan_45 rfl ?_
      refine gf_7_0 (pc' := 49) fl_X7_7 dX7_addVan_46 rfl ?_
      refine a_bipush (v := nI 6) (pc' := 51) dX7_addVan_49 (by decide) rfl ?_
      refine a_bipush (v := nI 19) (pc' := 53) dX7_addVan_51 (by decide) rfl ?_
      refine a_il_3_5 (pc' := 54) dX7_addVan_53 rfl ?_
      refine a_imulN (pc' := 55) dX7_addVan_54 rfl ?_
      refine a_iaddN (pc' := 56) dX7_addVan_55 rfl ?_
      refine a_il_4_5 (pc' := 58) dX7_addVan_56 rfl ?_
      refine a_iaddN (pc' := 59) dX7_addVan_58 rfl ?_
      refine a_iconst (v := nI 0) (pc' := 60) dX7_addVan_59 (by decide) rfl ?_
      refine a_iastN (pc' := 61) rfl (by omega) (by decide) dX7_addVan_60 rfl ?_
      refine a_iN_4_5 (m := 17) (pc' := 64) dX7_addVan_61 (nI_add _ _) rfl ?_
      refine a_goto (pc' := 38) dX7_addVan_64 (by decide) ?_
      refine a_il_4_5 (pc' := 40) dX7_addVan_38 rfl ?_
      refine a_bipush (v := nI 19) (pc' := 42) dX7_addVan_40 (by decide) rfl ?_
      refine a_icmp_ge (pc' := 45) (tgt := 67) dX7_addVan_42 (by decide) rfl (fun c_42_18 => absurd c_42_18 (by decide)) (fun c_42_18 => ?_)
      refine a_al_0_5 (pc' := 46) dX7_addVan_45 rfl ?_
      refine gf_7_0 (pc' := 49) fl_X7_7 dX7_addVan_46 rfl ?_
      refine a_bipush (v := nI 6) (pc' := 51) dX7_addVan_49 (by decide) rfl ?_
      refine a_bipush (v := nI 19) (pc' := 53) dX7_addVan_51 (by decide) rfl ?_
      refine a_il_3_5 (pc' := 54) dX7_addVan_53 rfl ?_
      refine a_imulN (pc' := 55) dX7_addVan_54 rfl ?_
      refine a_iaddN (pc' := 56) dX7_addVan_55 rfl ?_
      refine a_il_4_5 (pc' := 58) dX7_addVan_56 rfl ?_
      refine a_iaddN (pc' := 59) dX7_addVan_58 rfl ?_
      refine a_iconst (v := nI 0) (pc' := 60) dX7_addVan_59 (by decide) rfl ?_
      refine a_iastN (pc' := 61) rfl (by omega) (by decide) dX7_addVan_60 rfl ?_
      refine a_iN_4_5 (m := 18) (pc' := 64) dX7_addVan_61 (nI_add _ _) rfl ?_
      refine a_goto (pc' := 38) dX7_addVan_64 (by decide) ?_
      refine a_il_4_5 (pc' := 40) dX7_addVan_38 rfl ?_
      refine a_bipush (v := nI 19) (pc' := 42) dX7_addVan_40 (by decide) rfl ?_
      refine a_icmp_ge (pc' := 45) (tgt := 67) dX7_addVan_42 (by decide) rfl (fun c_42_19 => absurd c_42_19 (by decide)) (fun c_42_19 => ?_)
      refine a_al_0_5 (pc' := 46) dX7_addVan_45 rfl ?_
      refine gf_7_0 (pc' := 49) fl_X7_7 dX7_addVan_46 rfl ?_
      refine a_bipush (v := nI 6) (pc' := 51) dX7_addVan_49 (by decide) rfl ?_
      refine a_bipush (v := nI 19) (pc' := 53) dX7_addVan_51 (by decide) rfl ?_
      refine a_il_3_5 (pc' := 54) dX7_addVan_53 rfl ?_
      refine a_imulN (pc' := 55) dX7_addVan_54 rfl ?_
      refine a_iaddN (pc' := 56) dX7_addVan_55 rfl ?_
      refine a_il_4_5 (pc' := 58) dX7_addVan_56 rfl ?_
      refine a_iaddN (pc' := 59) dX7_addVan_58 rfl ?_
      refine a_iconst (v := nI 0) (pc' := 60) dX7_addVan_59 (by decide) rfl ?_
      refine a_iastN (pc' := 61) rfl (by omega) (by decide) dX7_addVan_60 rfl ?_
      refine a_iN_4_5 (m := 19) (pc' := 64) dX7_addVan_61 (nI_add _ _) rfl ?_
      refine a_goto (pc' := 38) dX7_addVan_64 (by decide) ?_
      refine a_il_4_5 (pc' := 40) dX7_addVan_38 rfl ?_
      refine a_bipush (v := nI 19) (pc' := 42) dX7_addVan_40 (by decide) rfl ?_
      refine a_icmp_ge (pc' := 45) (tgt := 67) dX7_addVan_42 (by decide) rfl (fun c_42_20 => ?_) (fun c_42_20 => absurd (by decide) c_42_20)
      refine a_al_0_5 (pc' := 68) dX7_addVan_67 rfl ?_
      refine gf_7_0 (pc' := 71) fl_X7_7 dX7_addVan_68 rfl ?_
      refine a_bipush (v := nI 6) (pc' := 73) dX7_addVan_71 (by decide) rfl ?_
      refine a_bipush (v := nI 19) (pc' := 75) dX7_addVan_73 (by decide) rfl ?_
      refine a_il_3_5 (pc' := 76) dX7_addVan_75 rfl ?_
      refine a_imulN (pc' := 77) dX7_addVan_76 rfl ?_
      refine a_iaddN (pc' := 78) dX7_addVan_77 rfl ?_
      refine a_iconst (v := nI 0) (pc' := 79) dX7_addVan_78 (by decide) rfl ?_
      refine a_iaddN (pc' := 80) dX7_addVan_79 rfl ?_
      refine a_il_1_5 (pc' := 81) dX7_addVan_80 rfl ?_
      refine a_iastN (pc' := 82) rfl (by omega) (by decide) dX7_addVan_81 rfl ?_
      refine a_al_0_5 (pc' := 83) dX7_addVan_82 rfl ?_
      refine gf_7_0 (pc' := 86) fl_X7_7 dX7_addVan_83 rfl ?_
      refine a_bipush (v := nI 6) (pc' := 88) dX7_addVan_86 (by decide) rfl ?_
      refine a_bipush (v := nI 19) (pc' := 90) dX7_addVan_88 (by decide) rfl ?_
      refine a_il_3_5 (pc' := 91) dX7_addVan_90 rfl ?_
      refine a_imulN (pc' := 92) dX7_addVan_91 rfl ?_
      refine a_iaddN (pc' := 93) dX7_addVan_92 rfl ?_
      refine a_iconst (v := nI 1) (pc' := 94) dX7_addVan_93 (by decide) rfl ?_
      refine a_iaddN (pc' := 95) dX7_addVan_94 rfl ?_
      refine a_il_2_5 (pc' := 96) dX7_addVan_95 rfl ?_
      refine a_iastN (pc' := 97) rfl (by omega) (by decide) dX7_addVan_96 rfl ?_
      refine a_al_0_5 (pc' := 98) dX7_addVan_97 rfl ?_
      refine gf_7_0 (pc' := 101) fl_X7_7 dX7_addVan_98 rfl ?_
      refine a_bipush (v := nI 6) (pc' := 103) dX7_addVan_101 (by decide) rfl ?_
      refine a_bipush (v := nI 19) (pc' := 105) dX7_addVan_103 (by decide) rfl ?_
      refine a_il_3_5 (pc' := 106) dX7_addVan_105 rfl ?_
      refine a_imulN (pc' := 107) dX7_addVan_106 rfl ?_
      refine a_iaddN (pc' := 108) dX7_addVan_107 rfl ?_
      refine a_iconst (v := nI 3) (pc' := 109) dX7_addVan_108 (by decide) rfl ?_
      refine a_iaddN (pc' := 110) dX7_addVan_109 rfl ?_
      refine a_al_0_5 (pc' := 111) dX7_addVan_110 rfl ?_
      refine gf_7_0 (pc' := 114) fl_X7_7 dX7_addVan_111 rfl ?_
      refine a_iconst (v := nI 2) (pc' := 115) dX7_addVan_114 (by decide) rfl ?_
      refine a_ialdN (pc' := 116) rfl (by omega) (by decide) dX7_addVan_115 rfl ?_
      simp (disch := omega) only [wr_eq, setR_same, setR_setR, upd_ne, hM_ne]
      refine a_iastN (pc' := 117) rfl (by omega) (by decide) dX7_addVan_116 rfl ?_
      refine a_iconst (v := nI 0) (pc' := 118) dX7_addVan_117 (by decide) rfl ?_
      refine a_is_4_5 (pc' := 120) dX7_addVan_118 rfl ?_
      refine a_il_4_5 (pc' := 122) dX7_addVan_120 rfl ?_
      refine a_iconst (v := nI 3) (pc' := 123) dX7_addVan_122 (by decide) rfl ?_
      refine a_icmp_ge (pc' := 126) (tgt := 144) dX7_addVan_123 (by decide) rfl (fun c_123 => absurd c_123 (by decide)) (fun c_123 => ?_)
      refine a_al_0_5 (pc' := 127) dX7_addVan_126 rfl ?_
      refine gf_7_0 (pc' := 130) fl_X7_7 dX7_addVan_127 rfl ?_
      refine a_il_3_5 (pc' := 131) dX7_addVan_130 rfl ?_
      refine a_il_4_5 (pc' := 133) dX7_addVan_131 rfl ?_
      refine k_SI (pc' := 136) (ct_X7_zoneSpot _) cw_X7_47 ms_X7_zoneSpot rfl (by decide) (by decide) (Nat.le_of_ble_eq_true rfl) rfl dX7_addVan_133 rfl ?_
      refine a_il_1_5 (pc' := 137) dX7_addVan_136 rfl ?_
      refine a_iastN (pc' := 138) rfl (by omega) (by decide) dX7_addVan_137 rfl ?_
      refine a_iN_4_5 (m := 1) (pc' := 141) dX7_addVan_138 (nI_add _ _) rfl ?_
      refine a_goto (pc' := 120) dX7_addVan_141 (by decide) ?_
      refine a_il_4_5 (pc' := 122) dX7_addVan_120 rfl ?_
      refine a_iconst (v := nI 3) (pc' := 123) dX7_addVan_122 (by decide) rfl ?_
      refine a_icmp_ge (pc' := 126) (tgt := 144) dX7_addVan_123 (by decide) rfl (fun c_123_2 => absurd c_123_2 (by decide)) (fun c_123_2 => ?_)
      refine a_al_0_5 (pc' := 127) dX7_addVan_126 rfl ?_
      refine gf_7_0 (pc' := 130) fl_X7_7 dX7_addVan_127 rfl ?_
      refine a_il_3_5 (pc' := 131) dX7_addVan_130 rfl ?_
      refine a_il_4_5 (pc' := 133) dX7_addVan_131 rfl ?_
      refine k_SI (pc' := 136) (ct_X7_zoneSpot _) cw_X7_47 ms_X7_zoneSpot rfl (by decide) (by decide) (Nat.le_of_ble_eq_true rfl) rfl dX7_addVan_133 rfl ?_
      refine a_il_1_5 (pc' := 137) dX7_addVan_136 rfl ?_
      refine a_iastN (pc' := 138) rfl (by omega) (by decide) dX7_addVan_137 rfl ?_
      refine a_iN_4_5 (m := 2) (pc' := 141) dX7_addVan_138 (nI_add _ _) rfl ?_
      refine a_goto (pc' := 120) dX7_addVan_141 (by decide) ?_
      refine a_il_4_5 (pc' := 122) dX7_addVan_120 rfl ?_
      refine a_iconst (v := nI 3) (pc' := 123) dX7_addVan_122 (by decide) rfl ?_
      refine a_icmp_ge (pc' := 126) (tgt := 144) dX7_addVan_123 (by decide) rfl (fun c_123_3 => absurd c_123_3 (by decide)) (fun c_123_3 => ?_)
      refine a_al_0_5 (pc' := 127) dX7_addVan_126 rfl ?_
      refine gf_7_0 (pc' := 130) fl_X7_7 dX7_addVan_127 rfl ?_
      refine a_il_3_5 (pc' := 131) dX7_addVan_130 rfl ?_
      refine a_il_4_5 (pc' := 133) dX7_addVan_131 rfl ?_
      refine k_SI (pc' := 136) (ct_X7_zoneSpot _) cw_X7_47 ms_X7_zoneSpot rfl (by decide) (by decide) (Nat.le_of_ble_eq_true rfl) rfl dX7_addVan_133 rfl ?_
      refine a_il_1_5 (pc' := 137) dX7_addVan_136 rfl ?_
      refine a_iastN (pc' := 138) rfl (by omega) (by decide) dX7_addVan_137 rfl ?_
      refine a_iN_4_5 (m := 3) (pc' := 141) dX7_addVan_138 (nI_add _ _) rfl ?_
      refine a_goto (pc' := 120) dX7_addVan_141 (by decide) ?_
      refine a_il_4_5 (pc' := 122) dX7_addVan_120 rfl ?_
      refine a_iconst (v := nI 3) (pc' := 123) dX7_addVan_122 (by decide) rfl ?_
      refine a_icmp_ge (pc' := 126) (tgt := 144) dX7_addVan_123 (by decide) rfl (fun c_123_4 => ?_) (fun c_123_4 => absurd (by decide) c_123_4)
      refine a_al_0_5 (pc' := 145) dX7_addVan_144 rfl ?_
      refine gf_7_0 (pc' := 148) fl_X7_7 dX7_addVan_145 rfl ?_
      refine a_iconst (v := nI 0) (pc' := 149) dX7_addVan_148 (by decide) rfl ?_
      refine a_dup2 (pc' := 150) dX7_addVan_149 rfl ?_
      refine a_ialdN (pc' := 151) rfl (by omega) (by decide) dX7_addVan_150 rfl ?_
      simp (disch := omega) only [wr_eq, setR_same, setR_setR, upd_ne, hM_ne]
      refine a_iconst (v := nI 1) (pc' := 152) dX7_addVan_151 (by decide) rfl ?_
      refine a_iadd (pc' := 153) dX7_addVan_152 rfl ?_
      refine a_iastN (pc' := 154) rfl (by omega) (by decide) dX7_addVan_153 rfl ?_
      refine a_al_0_5 (pc' := 155) dX7_addVan_154 rfl ?_
      refine a_il_3_5 (pc' := 156) dX7_addVan_155 rfl ?_
      refine k_VI (pc' := 159) (ct_X7_ends hk _ _ (by simp (disch := decide) only [wr_rne, setR_same, setR_ne, hM_ne]; exact h6)) cw_X7_111 mi_X7_ends se_X7_ends rfl rfl rfl rfl (by decide) (by decide) (Nat.le_of_ble_eq_true rfl) rfl dX7_addVan_156 rfl ?_
      refine a_iret dX7_addVan_159 rfl rfl ?_
      refine fIM (by (try simp (disch := decide) only [wr_rne, setR_same, setR_ne, hM_ne]); simp [newR, c_5, h0, hlt]) ?_
      rw [mE, if_pos (by simp [c_5, h0, hlt])]
      refine congrArg (fun X => endM X k) ?_
      simp (disch := decide) only [wr_eq, setR_same, setR_setR, hM_ne]
      refine congrArg (setR (hM M) 50) ?_
      rw [newF, if_pos c_5, if_pos (by rw [h0]; exact hlt), hnv]
      exact van_eq (M 50) hv sp c
    · have e3 : nv = 3 := by
        have := (nI_eqm nv 3).mp c_18
        omega
      have h3 : ¬ nI nv < nI 3 := nI_nlt (by omega) (by omega)
      refine a_ldc (pc' := 23) dX7_addVan_21 cn_X7_100 rfl ?_
      refine a_iret dX7_addVan_23 rfl rfl ?_
      exact fIM (by simp [newR, newF, h0, h3, c_5, c_18, -Int32.not_le, -Int32.not_lt]) (by simp [mE, newR, newF, h0, h3, c_5, c_18, -Int32.not_le, -Int32.not_lt])
  · refine a_ldc (pc' := 10) dX7_addVan_8 cn_X7_92 rfl ?_
    refine a_iret dX7_addVan_10 rfl rfl ?_
    exact fIM (by simp [newR, newF, h0, c_5, -Int32.not_le, -Int32.not_lt]) (by simp [mE, newR, newF, h0, c_5, -Int32.not_le, -Int32.not_lt])
set_option maxRecDepth 20000 in
set_option maxHeartbeats 4000000 in
theorem lp_X7_undo {G : Gl} {Φ : Option OV → Mm → Prop} {k : Nat} (hk : k < 6) (M0 : Mm) (h6 : M0 60 0 = nI k) : ∀ (n p : Nat) , p + n = 183 → (Φ (some (.inl (nI k))) (setR M0 50 (takF (M0 50) (M0 51) k 183))) → AW G cX7_undo RX7 2 0 0 (some .int) Φ 22 [some (.inr (7, 0, 0, 0)), some (.inl (nI p))] [] (setR M0 50 (takF (M0 50) (M0 51) k p)) := by
  intro n
  induction n with
  | zero =>
    intro p  he  hΦ
    refine a_il_1_2 (pc' := 23) dX7_undo_22 rfl ?_
    refine a_sipush (v := nI 183) (pc' := 26) dX7_undo_23 (by decide) rfl ?_
    refine a_icmp_ge (pc' := 29) (tgt := 56) dX7_undo_26 (by decide) rfl (fun c_26 => ?_) (fun c_26 => absurd (nI_le (by omega) (by omega)) c_26)
    refine a_al_0_2 (pc' := 57) dX7_undo_56 rfl ?_
    refine gf_7_4 (pc' := 60) fl_X7_39 dX7_undo_57 rfl ?_
    rw [setR_ne _ _ (by decide), h6]
    refine a_iret dX7_undo_60 rfl rfl ?_
    obtain rfl : p = 183 := by omega
    exact hΦ
  | succ n ih =>
    intro p  he  hΦ
    refine a_il_1_2 (pc' := 23) dX7_undo_22 rfl ?_
    refine a_sipush (v := nI 183) (pc' := 26) dX7_undo_23 (by decide) rfl ?_
    refine a_icmp_ge (pc' := 29) (tgt := 56) dX7_undo_26 (by decide) rfl (fun c_26 => absurd c_26 (nI_ge (by omega) (by omega))) (fun c_26 => ?_)
    refine a_al_0_2 (pc' := 30) dX7_undo_29 rfl ?_
    refine gf_7_0 (pc' := 33) fl_X7_7 dX7_undo_30 rfl ?_
    refine a_il_1_2 (pc' := 34) dX7_undo_33 rfl ?_
    refine a_al_0_2 (pc' := 35) dX7_undo_34 rfl ?_
    refine gf_7_1 (pc' := 38) fl_X7_13 dX7_undo_35 rfl ?_
    refine a_sipush (v := nI 183) (pc' := 41) dX7_undo_38 (by decide) rfl ?_
    refine a_al_0_2 (pc' := 42) dX7_undo_41 rfl ?_
    refine gf_7_4 (pc' := 45) fl_X7_39 dX7_undo_42 rfl ?_
    rw [setR_ne _ _ (by decide), h6]
    refine a_imulN (pc' := 46) dX7_undo_45 rfl ?_
    refine a_il_1_2 (pc' := 47) dX7_undo_46 rfl ?_
    refine a_iaddN (pc' := 48) dX7_undo_47 rfl ?_
    refine a_ialdN (pc' := 49) rfl (by omega) (by decide) dX7_undo_48 rfl ?_
    refine a_iastN (pc' := 50) rfl (by omega) (by decide) dX7_undo_49 rfl ?_
    refine a_iN_1_2 (m := p + 1) (pc' := 53) dX7_undo_50 (nI_add _ _) rfl ?_
    refine a_goto (pc' := 22) dX7_undo_53 (by decide) ?_
    rw [setR_ne _ _ (show (51 : Nat) ≠ 50 by decide), wr_eq, setR_same, setR_setR, takF_succ]
    exact ih (p + 1) (by omega) hΦ
set_option maxRecDepth 20000 in
set_option maxHeartbeats 4000000 in
theorem ct_X7_undo {k : Nat} (hk : k ≤ 6) (M : Mm) (h6 : M 60 0 = nI k) : Ct yX7_undo cX7_undo 2 (some .int) 0 0 [.inr (7, 0, 0, 0)] M (RI (undR (M 60 0) k) (mUnd M k)) := by
  refine Ct.at RX7 rfl (by decide +kernel) (Nat.le_of_ble_eq_true rfl) [some (.inr (7, 0, 0, 0)), none] rfl (fun G => ?_)
  refine a_al_0_2 (pc' := 1) dX7_undo_0 rfl ?_
  refine gf_7_4 (pc' := 4) fl_X7_39 dX7_undo_1 rfl ?_
  refine a_if_ne (pc' := 7) (tgt := 10) dX7_undo_4 (by decide) rfl (fun c_4 => ?_) (fun c_4 => ?_)
  · refine a_al_0_2 (pc' := 11) dX7_undo_10 rfl ?_
    refine a_dup (pc' := 12) dX7_undo_11 rfl ?_
    refine gf_7_4 (pc' := 15) fl_X7_39 dX7_undo_12 rfl ?_
    have hk1 : 1 ≤ k := by
      rcases Nat.eq_zero_or_pos k with q | q
      · exact absurd (by rw [h6, q]; rfl) c_4
      · exact q
    rw [h6]
    refine a_iconst (v := nI 1) (pc' := 16) dX7_undo_15 (by decide) rfl ?_
    refine a_isubN (pc' := 17) (by omega) dX7_undo_16 rfl ?_
    refine pf_7_4 (pc' := 20) fl_X7_39 dX7_undo_17 rfl ?_
    refine a_iconst (v := nI 0) (pc' := 21) dX7_undo_20 (by decide) rfl ?_
    refine a_is_1_2 (pc' := 22) dX7_undo_21 rfl ?_
    have e0 : setR (wr M 60 0 (nI (k - 1))) 50 (takF (wr M 60 0 (nI (k - 1)) 50) (wr M 60 0 (nI (k - 1)) 51) (k - 1) 0) = wr M 60 0 (nI (k - 1)) := by rw [takF_0, setR_self]
    refine a_castS rfl e0.symm ?_
    refine lp_X7_undo (k := k - 1) (by omega) _ (by rw [wr_eq, setR_same]; rfl) 183 0 (by omega) ?_
    refine fIM (by simp [undR, h6, nI_pos_ hk1 hk]) ?_
    simp (disch := decide) only [mUnd, wr_rne, wr_eq]
    simp [h6, nI_pos_ hk1 hk]
  · refine a_ldc (pc' := 9) dX7_undo_7 cn_X7_93 rfl ?_
    refine a_iret dX7_undo_9 rfl rfl ?_
    exact fIM (by simp [undR, c_4]) (by simp [mUnd, c_4])
set_option maxRecDepth 20000 in
set_option maxHeartbeats 4000000 in
theorem ct_X7_appendCharacter {n : Nat} (hn : n ≤ 80) (x : Int32) (M : Mm) (hl : M 60 2 = nI n) : Ct yX7_appendCharacter cX7_appendCharacter 2 (some .int) 1 22 [.inr (7, 0, 0, 0), .inl x] M (RI (apR n x) (mAp M n x)) := by
  refine Ct.at RX7 rfl (by decide +kernel) (Nat.le_of_ble_eq_true rfl) [some (.inr (7, 0, 0, 0)), some (.inl x)] rfl (fun G => ?_)
  refine a_il_1_2 (pc' := 1) dX7_appendCharacter_0 rfl ?_
  refine a_iconst (v := nI 0) (pc' := 2) dX7_appendCharacter_1 (by decide) rfl ?_
  refine a_sipush (v := nI 255) (pc' := 5) dX7_appendCharacter_2 (by decide) rfl ?_
  refine k_SI (pc' := 8) (ct_X7_in _ _ _ _) cw_X7_43 ms_X7_in rfl (by decide) (by decide) (Nat.le_of_ble_eq_true rfl) rfl dX7_appendCharacter_5 rfl ?_
  refine a_ifB_ne (pc' := 11) (tgt := 14) dX7_appendCharacter_8 (by decide) rfl (fun c_8 => ?_) (fun c_8 => ?_)
  · refine a_al_0_2 (pc' := 15) dX7_appendCharacter_14 rfl ?_
    refine gf_7_8 (pc' := 18) fl_X7_144 dX7_appendCharacter_15 rfl ?_
    rw [hl]
    refine a_bipush (v := nI 80) (pc' := 20) dX7_appendCharacter_18 (by decide) rfl ?_
    refine a_icmp_ne (pc' := 23) (tgt := 26) dX7_appendCharacter_20 (by decide) rfl (fun c_20 => ?_) (fun c_20 => ?_)
    · have hn8 : n < 80 := by
        have : n ≠ 80 := fun q => c_20 (by rw [q])
        omega
      refine a_al_0_2 (pc' := 27) dX7_appendCharacter_26 rfl ?_
      refine gf_7_7 (pc' := 30) fl_X7_29 dX7_appendCharacter_27 rfl ?_
      refine a_al_0_2 (pc' := 31) dX7_appendCharacter_30 rfl ?_
      refine gf_7_8 (pc' := 34) fl_X7_144 dX7_appendCharacter_31 rfl ?_
      rw [hl]
      refine a_il_1_2 (pc' := 35) dX7_appendCharacter_34 rfl ?_
      refine a_iastN (pc' := 36) rfl (by omega) (by decide) dX7_appendCharacter_35 rfl ?_
      refine a_al_0_2 (pc' := 37) dX7_appendCharacter_36 rfl ?_
      refine a_dup (pc' := 38) dX7_appendCharacter_37 rfl ?_
      refine gf_7_8 (pc' := 41) fl_X7_144 dX7_appendCharacter_38 rfl ?_
      refine a_iconst (v := nI 1) (pc' := 42) dX7_appendCharacter_41 (by decide) rfl ?_
      refine a_iadd (pc' := 43) dX7_appendCharacter_42 rfl ?_
      refine pf_7_8 (pc' := 46) fl_X7_144 dX7_appendCharacter_43 rfl ?_
      refine a_al_0_2 (pc' := 47) dX7_appendCharacter_46 rfl ?_
      refine gf_7_8 (pc' := 50) fl_X7_144 dX7_appendCharacter_47 rfl ?_
      refine a_iret dX7_appendCharacter_50 rfl rfl ?_
      have hn8 : n < 80 := by
        have : n ≠ 80 := fun q => c_20 (by rw [q])
        omega
      have hlt : nI n < nI 80 := nI_lt hn8 (by decide)
      refine fIM (by simp (disch := decide) [apR, c_8, hlt, wr_eq, setR_same, setR_ne, upd_at, hl, nI_add]) ?_
      simp (disch := decide) [mAp, apB, c_8, hlt, wr_eq, setR_same, hl, nI_add, setR_ne]
    · refine a_ldc (pc' := 25) dX7_appendCharacter_23 cn_X7_100 rfl ?_
      refine a_iret dX7_appendCharacter_25 rfl rfl ?_
      have hlt : ¬ nI n < nI 80 := by
        rw [c_20]; decide
      exact fIM (by simp [apR, c_8, hlt]) (by simp [mAp, apB, hlt])
  · refine a_ldc (pc' := 13) dX7_appendCharacter_11 cn_X7_92 rfl ?_
    refine a_iret dX7_appendCharacter_13 rfl rfl ?_
    exact fIM (by simp [apR, c_8]) (by simp [mAp, apB, c_8])
set_option maxRecDepth 20000 in
set_option maxHeartbeats 4000000 in
theorem ct_X7_clearText (M : Mm) : Ct yX7_clearText cX7_clearText 2 (some .int) 0 0 [.inr (7, 0, 0, 0)] M (RI (M 60 2) (wr M 60 2 (nI 0))) := by
  refine Ct.at RX7 rfl (by decide +kernel) (Nat.le_of_ble_eq_true rfl) [some (.inr (7, 0, 0, 0)), none] rfl (fun G => ?_)
  refine a_al_0_2 (pc' := 1) dX7_clearText_0 rfl ?_
  refine gf_7_8 (pc' := 4) fl_X7_144 dX7_clearText_1 rfl ?_
  refine a_is_1_2 (pc' := 5) dX7_clearText_4 rfl ?_
  refine a_al_0_2 (pc' := 6) dX7_clearText_5 rfl ?_
  refine a_iconst (v := nI 0) (pc' := 7) dX7_clearText_6 (by decide) rfl ?_
  refine pf_7_8 (pc' := 10) fl_X7_144 dX7_clearText_7 rfl ?_
  refine a_il_1_2 (pc' := 11) dX7_clearText_10 rfl ?_
  refine a_iret dX7_clearText_11 rfl rfl ?_
  exact fIM rfl rfl
