theorem cpR_van (F F' : Nat → Int32) (v : Nat) : cpR (cpR (cpR (cpR F F' (6 + 19 * v) 4) F' (10 + 19 * v + 5 * 0) 5) F' (10 + 19 * v + 5 * 1) 5) F' (10 + 19 * v + 5 * 2) 5 = cpR F F' (6 + 19 * v) 19 := by
  have e0 : 10 + 19 * v + 5 * 0 = 6 + 19 * v + 4 := by omega
  have e1 : 10 + 19 * v + 5 * 1 = 6 + 19 * v + 9 := by omega
  have e2 : 10 + 19 * v + 5 * 2 = 6 + 19 * v + 14 := by omega
  rw [e0, e1, e2, cpR_app, cpR_app, cpR_app]
theorem nI_10s : (∀ a : Nat, a < 11 → ∀ b : Nat, b < 11 → a ≠ b → ¬ nI a = nI b) := by decide
set_option maxRecDepth 20000 in
set_option maxHeartbeats 4000000 in
theorem ct_X5_reading {q v z : Nat} (hq : q < 9) (hv : v < 3) (hz : z < 3) (M : Mm) : Ct yX5_reading cX5_reading 1 (some .int) 0 0 [.inr (5, q, v, z)] M (RI (rdg (M q) (10 + 19 * v + 5 * z)) M) := by
  refine Ct.at RX5 rfl (by decide +kernel) (Nat.le_of_ble_eq_true rfl) [some (.inr (5, q, v, z))] rfl (fun G => ?_)
  refine a_al_0_1 (pc' := 1) dX5_reading_0 rfl ?_
  refine gf_5_1 (pc' := 4) (by omega) (by omega) (by omega) fl_X5_15 dX5_reading_1 rfl ?_
  refine a_iconst (v := nI 2) (pc' := 5) dX5_reading_4 (by decide) rfl ?_
  refine a_icmp_ne (pc' := 8) (tgt := 13) dX5_reading_5 (by decide) rfl (fun c_5 => ?_) (fun c_5 => ?_)
  · refine a_al_0_1 (pc' := 14) dX5_reading_13 rfl ?_
    refine gf_5_1 (pc' := 17) (by omega) (by omega) (by omega) fl_X5_15 dX5_reading_14 rfl ?_
    refine a_iconst (v := nI 1) (pc' := 18) dX5_reading_17 (by decide) rfl ?_
    refine a_icmp_ne (pc' := 21) (tgt := 33) dX5_reading_18 (by decide) rfl (fun c_18 => ?_) (fun c_18 => ?_)
    · refine a_al_0_1 (pc' := 34) dX5_reading_33 rfl ?_
      refine gf_5_0 (pc' := 37) (by omega) (by omega) (by omega) fl_X5_9 dX5_reading_34 rfl ?_
      refine a_iret dX5_reading_37 rfl rfl ?_
      exact fI (by simp [rdg, c_5, c_18, nI_eqm])
    · refine a_al_0_1 (pc' := 22) dX5_reading_21 rfl ?_
      refine gf_5_0 (pc' := 25) (by omega) (by omega) (by omega) fl_X5_9 dX5_reading_22 rfl ?_
      refine a_al_0_1 (pc' := 26) dX5_reading_25 rfl ?_
      refine gf_5_2 (pc' := 29) (by omega) (by omega) (by omega) fl_X5_18 dX5_reading_26 rfl ?_
      refine a_iadd (pc' := 30) dX5_reading_29 rfl ?_
      refine a_goto (pc' := 37) dX5_reading_30 (by decide) ?_
      refine a_iret dX5_reading_37 rfl rfl ?_
      exact fI (by simp [rdg, c_5, c_18, nI_eqm])
  · refine a_al_0_1 (pc' := 9) dX5_reading_8 rfl ?_
    refine gf_5_2 (pc' := 12) (by omega) (by omega) (by omega) fl_X5_18 dX5_reading_9 rfl ?_
    refine a_iret dX5_reading_12 rfl rfl ?_
    exact fI (by simp [rdg, c_5, nI_eqm])
set_option maxRecDepth 20000 in
set_option maxHeartbeats 4000000 in
theorem ct_X5_mend {q v z : Nat} (hq : q < 9) (hv : v < 3) (hz : z < 3) (M : Mm) : Ct yX5_mend cX5_mend 1 none 0 0 [.inr (5, q, v, z)] M (RV (setR M q (mendF (M q) (10 + 19 * v + 5 * z)))) := by
  refine Ct.at RX5 rfl (by decide +kernel) (Nat.le_of_ble_eq_true rfl) [some (.inr (5, q, v, z))] rfl (fun G => ?_)
  refine a_al_0_1 (pc' := 1) dX5_mend_0 rfl ?_
  refine a_iconst (v := nI 0) (pc' := 2) dX5_mend_1 (by decide) rfl ?_
  refine pf_5_1 (pc' := 5) (by omega) (by omega) (by omega) fl_X5_15 dX5_mend_2 rfl ?_
  refine a_al_0_1 (pc' := 6) dX5_mend_5 rfl ?_
  refine a_iconst (v := nI 0) (pc' := 7) dX5_mend_6 (by decide) rfl ?_
  refine pf_5_2 (pc' := 10) (by omega) (by omega) (by omega) fl_X5_18 dX5_mend_7 rfl ?_
  refine a_al_0_1 (pc' := 11) dX5_mend_10 rfl ?_
  refine a_iconst (v := nI 0) (pc' := 12) dX5_mend_11 (by decide) rfl ?_
  refine pf_5_3 (pc' := 15) (by omega) (by omega) (by omega) (Or.inl rfl) fl_X5_21 dX5_mend_12 rfl ?_
  refine a_al_0_1 (pc' := 16) dX5_mend_15 rfl ?_
  refine a_iconst (v := nI 0) (pc' := 17) dX5_mend_16 (by decide) rfl ?_
  refine pf_5_4 (pc' := 20) (by omega) (by omega) (by omega) fl_X5_25 dX5_mend_17 rfl ?_
  refine a_vret dX5_mend_20 rfl ?_
  refine fV ?_
  simp only [wr_eq, setR_same, setR_setR] at ⊢
  rfl
set_option maxRecDepth 20000 in
set_option maxHeartbeats 4000000 in
theorem ct_X5_coolTo {q v z : Nat} (hq : q < 9) (hv : v < 3) (hz : z < 3) (sp c : Int32) (M : Mm) : Ct yX5_coolTo cX5_coolTo 3 none 1 21 [.inr (5, q, v, z), .inl sp, .inl c] M (RV (wr M q (10 + 19 * v + 5 * z) (coolF (M q (10 + 19 * v + 5 * z)) sp c))) := by
  refine Ct.at RX5 rfl (by decide +kernel) (Nat.le_of_ble_eq_true rfl) [some (.inr (5, q, v, z)), some (.inl sp), some (.inl c)] rfl (fun G => ?_)
  refine a_al_0_3 (pc' := 1) dX5_coolTo_0 rfl ?_
  refine gf_5_0 (pc' := 4) (by omega) (by omega) (by omega) fl_X5_9 dX5_coolTo_1 rfl ?_
  refine a_il_1_3 (pc' := 5) dX5_coolTo_4 rfl ?_
  refine a_icmp_le (pc' := 8) (tgt := 25) dX5_coolTo_5 (by decide) rfl (fun c_5 => ?_) (fun c_5 => ?_)
  · refine a_al_0_3 (pc' := 26) dX5_coolTo_25 rfl ?_
    refine gf_5_0 (pc' := 29) (by omega) (by omega) (by omega) fl_X5_9 dX5_coolTo_26 rfl ?_
    refine a_il_1_3 (pc' := 30) dX5_coolTo_29 rfl ?_
    refine a_icmp_ge (pc' := 33) (tgt := 43) dX5_coolTo_30 (by decide) rfl (fun c_30 => ?_) (fun c_30 => ?_)
    · refine a_vret dX5_coolTo_43 rfl ?_
      exact fV (by simp [coolF, wr_self, c_5, c_30])
    · refine a_al_0_3 (pc' := 34) dX5_coolTo_33 rfl ?_
      refine a_dup (pc' := 35) dX5_coolTo_34 rfl ?_
      refine gf_5_0 (pc' := 38) (by omega) (by omega) (by omega) fl_X5_9 dX5_coolTo_35 rfl ?_
      refine a_iconst (v := nI 1) (pc' := 39) dX5_coolTo_38 (by decide) rfl ?_
      refine a_iadd (pc' := 40) dX5_coolTo_39 rfl ?_
      refine pf_5_0 (pc' := 43) (by omega) (by omega) (by omega) fl_X5_9 dX5_coolTo_40 rfl ?_
      refine a_vret dX5_coolTo_43 rfl ?_
      exact fV (by simp [coolF, wr_self, c_5, c_30])
  · refine a_al_0_3 (pc' := 9) dX5_coolTo_8 rfl ?_
    refine a_al_0_3 (pc' := 10) dX5_coolTo_9 rfl ?_
    refine gf_5_0 (pc' := 13) (by omega) (by omega) (by omega) fl_X5_9 dX5_coolTo_10 rfl ?_
    refine a_il_2_3 (pc' := 14) dX5_coolTo_13 rfl ?_
    refine a_isub (pc' := 15) dX5_coolTo_14 rfl ?_
    refine a_il_1_3 (pc' := 16) dX5_coolTo_15 rfl ?_
    refine k_SI (pc' := 19) (ct_J9_max_7cf53 _ _ _) cw_X5_28 ms_J9_max_7cf53 rfl (by decide) (by decide) (Nat.le_of_ble_eq_true rfl) rfl dX5_coolTo_16 rfl ?_
    refine pf_5_0 (pc' := 22) (by omega) (by omega) (by omega) fl_X5_9 dX5_coolTo_19 rfl ?_
    refine a_goto (pc' := 43) dX5_coolTo_22 (by decide) ?_
    refine a_vret dX5_coolTo_43 rfl ?_
    exact fV (by simp [coolF, wr_self, c_5])
set_option maxRecDepth 20000 in
set_option maxHeartbeats 4000000 in
theorem ct_X5_copyFrom {q q' v z : Nat} (hq : q < 9) (hq' : q' < 9) (hne : q' ≠ q) (hv : v < 3) (hz : z < 3) (M : Mm) (hf : M q' (10 + 19 * v + 5 * z + 3) = 0 ∨ M q' (10 + 19 * v + 5 * z + 3) = 1) : Ct yX5_copyFrom cX5_copyFrom 2 none 0 0 [.inr (5, q, v, z), .inr (5, q', v, z)] M (RV (setR M q (cpR (M q) (M q') (10 + 19 * v + 5 * z) 5))) := by
  refine Ct.at RX5 rfl (by decide +kernel) (Nat.le_of_ble_eq_true rfl) [some (.inr (5, q, v, z)), some (.inr (5, q', v, z))] rfl (fun G => ?_)
  refine a_al_0_2 (pc' := 1) dX5_copyFrom_0 rfl ?_
  refine a_al_1_2 (pc' := 2) dX5_copyFrom_1 rfl ?_
  refine gf_5_0 (pc' := 5) (by omega) (by omega) (by omega) fl_X5_9 dX5_copyFrom_2 rfl ?_
  refine pf_5_0 (pc' := 8) (by omega) (by omega) (by omega) fl_X5_9 dX5_copyFrom_5 rfl ?_
  refine a_al_0_2 (pc' := 9) dX5_copyFrom_8 rfl ?_
  refine a_al_1_2 (pc' := 10) dX5_copyFrom_9 rfl ?_
  refine gf_5_1 (pc' := 13) (by omega) (by omega) (by omega) fl_X5_15 dX5_copyFrom_10 rfl ?_
  refine pf_5_1 (pc' := 16) (by omega) (by omega) (by omega) fl_X5_15 dX5_copyFrom_13 rfl ?_
  refine a_al_0_2 (pc' := 17) dX5_copyFrom_16 rfl ?_
  refine a_al_1_2 (pc' := 18) dX5_copyFrom_17 rfl ?_
  refine gf_5_2 (pc' := 21) (by omega) (by omega) (by omega) fl_X5_18 dX5_copyFrom_18 rfl ?_
  refine pf_5_2 (pc' := 24) (by omega) (by omega) (by omega) fl_X5_18 dX5_copyFrom_21 rfl ?_
  refine a_al_0_2 (pc' := 25) dX5_copyFrom_24 rfl ?_
  refine a_al_1_2 (pc' := 26) dX5_copyFrom_25 rfl ?_
  refine gf_5_3 (pc' := 29) (by omega) (by omega) (by omega) fl_X5_21 dX5_copyFrom_26 rfl ?_
  refine pf_5_3 (pc' := 32) (by omega) (by omega) (by omega) (by simp only [wr_eq, setR_same, setR_setR, setR_ne _ _ hne]; exact hf) fl_X5_21 dX5_copyFrom_29 rfl ?_
  refine a_al_0_2 (pc' := 33) dX5_copyFrom_32 rfl ?_
  refine a_al_1_2 (pc' := 34) dX5_copyFrom_33 rfl ?_
  refine gf_5_4 (pc' := 37) (by omega) (by omega) (by omega) fl_X5_25 dX5_copyFrom_34 rfl ?_
  refine pf_5_4 (pc' := 40) (by omega) (by omega) (by omega) fl_X5_25 dX5_copyFrom_37 rfl ?_
  refine a_vret dX5_copyFrom_40 rfl ?_
  refine fV ?_
  simp only [wr_eq, setR_same, setR_setR] at ⊢
  simp only [setR_ne _ _ hne, cpR5]
set_option maxRecDepth 20000 in
set_option maxHeartbeats 4000000 in
theorem ct_X1_isIn {q p : Nat} (hq : q < 9) (hp : p < 12) (x : Int32) (M : Mm) : Ct yX1_isIn cX1_isIn 2 (some .boolean) 0 0 [.inr (1, q, p, 0), .inl x] M (RT (inP (M q) p x) M) := by
  refine Ct.at RX1 rfl (by decide +kernel) (Nat.le_of_ble_eq_true rfl) [some (.inr (1, q, p, 0)), some (.inl x)] rfl (fun G => ?_)
  refine a_al_0_2 (pc' := 1) dX1_isIn_0 rfl ?_
  refine gf_1_5 (pc' := 4) (by omega) (by omega) fl_X1_27 dX1_isIn_1 rfl ?_
  refine a_if_ne (pc' := 7) (tgt := 19) dX1_isIn_4 (by decide) rfl (fun c_4 => ?_) (fun c_4 => ?_)
  · refine a_iconst (v := nI 0) (pc' := 20) dX1_isIn_19 (by decide) rfl ?_
    refine a_iret dX1_isIn_20 rfl rfl ?_
    exact fB0 (by simp [inP, c_4])
  · refine a_al_0_2 (pc' := 8) dX1_isIn_7 rfl ?_
    refine gf_1_0 (pc' := 11) (by omega) (by omega) fl_X1_9 dX1_isIn_8 rfl ?_
    refine a_il_1_2 (pc' := 12) dX1_isIn_11 rfl ?_
    refine a_icmp_ne (pc' := 15) (tgt := 19) dX1_isIn_12 (by decide) rfl (fun c_12 => ?_) (fun c_12 => ?_)
    · refine a_iconst (v := nI 0) (pc' := 20) dX1_isIn_19 (by decide) rfl ?_
      refine a_iret dX1_isIn_20 rfl rfl ?_
      exact fB0 (by simp [inP, c_4, c_12])
    · refine a_iconst (v := nI 1) (pc' := 16) dX1_isIn_15 (by decide) rfl ?_
      refine a_goto (pc' := 20) dX1_isIn_16 (by decide) ?_
      refine a_iret dX1_isIn_20 rfl rfl ?_
      exact fB1 (by simp [inP, c_4, c_12])
set_option maxRecDepth 20000 in
set_option maxHeartbeats 4000000 in
theorem ct_X1_isOverdue {q p : Nat} (hq : q < 9) (hp : p < 12) (M : Mm) : Ct yX1_isOverdue cX1_isOverdue 1 (some .boolean) 0 0 [.inr (1, q, p, 0)] M (RT (ovP (M q) p) M) := by
  refine Ct.at RX1 rfl (by decide +kernel) (Nat.le_of_ble_eq_true rfl) [some (.inr (1, q, p, 0))] rfl (fun G => ?_)
  refine a_al_0_1 (pc' := 1) dX1_isOverdue_0 rfl ?_
  refine gf_1_8 (pc' := 4) (by omega) (by omega) fl_X1_36 dX1_isOverdue_1 rfl ?_
  refine a_al_0_1 (pc' := 5) dX1_isOverdue_4 rfl ?_
  refine gf_1_3 (pc' := 8) (by omega) (by omega) fl_X1_21 dX1_isOverdue_5 rfl ?_
  refine a_icmp_le (pc' := 11) (tgt := 15) dX1_isOverdue_8 (by decide) rfl (fun c_8 => ?_) (fun c_8 => ?_)
  · refine a_iconst (v := nI 0) (pc' := 16) dX1_isOverdue_15 (by decide) rfl ?_
    refine a_iret dX1_isOverdue_16 rfl rfl ?_
    exact fB0 (by simp [ovP, c_8])
  · refine a_iconst (v := nI 1) (pc' := 12) dX1_isOverdue_11 (by decide) rfl ?_
    refine a_goto (pc' := 16) dX1_isOverdue_12 (by decide) ?_
    refine a_iret dX1_isOverdue_16 rfl rfl ?_
    exact fB1 (by simp [ovP, c_8])
set_option maxRecDepth 20000 in
set_option maxHeartbeats 4000000 in
theorem ct_X1_wasRejected {q p : Nat} (hq : q < 9) (hp : p < 12) (M : Mm) : Ct yX1_wasRejected cX1_wasRejected 1 (some .boolean) 0 0 [.inr (1, q, p, 0)] M (RT (rejP (M q) p) M) := by
  refine Ct.at RX1 rfl (by decide +kernel) (Nat.le_of_ble_eq_true rfl) [some (.inr (1, q, p, 0))] rfl (fun G => ?_)
  refine a_al_0_1 (pc' := 1) dX1_wasRejected_0 rfl ?_
  refine gf_1_5 (pc' := 4) (by omega) (by omega) fl_X1_27 dX1_wasRejected_1 rfl ?_
  refine a_iconst (v := nI 2) (pc' := 5) dX1_wasRejected_4 (by decide) rfl ?_
  refine a_icmp_eq (pc' := 8) (tgt := 16) dX1_wasRejected_5 (by decide) rfl (fun c_5 => ?_) (fun c_5 => ?_)
  · refine a_iconst (v := nI 1) (pc' := 17) dX1_wasRejected_16 (by decide) rfl ?_
    refine a_goto (pc' := 21) dX1_wasRejected_17 (by decide) ?_
    refine a_iret dX1_wasRejected_21 rfl rfl ?_
    exact fB1 (by simp [rejP, c_5])
  · refine a_al_0_1 (pc' := 9) dX1_wasRejected_8 rfl ?_
    refine gf_1_5 (pc' := 12) (by omega) (by omega) fl_X1_27 dX1_wasRejected_9 rfl ?_
    refine a_iconst (v := nI 3) (pc' := 13) dX1_wasRejected_12 (by decide) rfl ?_
    refine a_icmp_ne (pc' := 16) (tgt := 20) dX1_wasRejected_13 (by decide) rfl (fun c_13 => ?_) (fun c_13 => ?_)
    · refine a_iconst (v := nI 0) (pc' := 21) dX1_wasRejected_20 (by decide) rfl ?_
      refine a_iret dX1_wasRejected_21 rfl rfl ?_
      exact fB0 (by simp [rejP, c_5, c_13])
    · refine a_iconst (v := nI 1) (pc' := 17) dX1_wasRejected_16 (by decide) rfl ?_
      refine a_goto (pc' := 21) dX1_wasRejected_17 (by decide) ?_
      refine a_iret dX1_wasRejected_21 rfl rfl ?_
      exact fB1 (by simp [rejP, c_5, c_13])
set_option maxRecDepth 20000 in
set_option maxHeartbeats 4000000 in
theorem ct_X1_cause {q p : Nat} (hq : q < 9) (hp : p < 12) (M : Mm) : Ct yX1_cause cX1_cause 1 (some .int) 1 20 [.inr (1, q, p, 0)] M (RI (causeP (M q) p) M) := by
  refine Ct.at RX1 rfl (by decide +kernel) (Nat.le_of_ble_eq_true rfl) [some (.inr (1, q, p, 0))] rfl (fun G => ?_)
  refine a_al_0_1 (pc' := 1) dX1_cause_0 rfl ?_
  refine k_VI (pc' := 4) (ct_X1_wasRejected (by omega) (by omega) _) cw_X1_61 mi_X1_wasRejected se_X1_wasRejected (ok1 (by omega) (by omega)) rfl rfl rfl (by decide) (by decide) (Nat.le_of_ble_eq_true rfl) rfl dX1_cause_1 rfl ?_
  refine a_ifB_ne (pc' := 7) (tgt := 9) dX1_cause_4 (by decide) rfl (fun c_4 => ?_) (fun c_4 => ?_)
  · refine a_al_0_1 (pc' := 10) dX1_cause_9 rfl ?_
    refine gf_1_6 (pc' := 13) (by omega) (by omega) fl_X1_30 dX1_cause_10 rfl ?_
    refine a_al_0_1 (pc' := 14) dX1_cause_13 rfl ?_
    refine gf_1_7 (pc' := 17) (by omega) (by omega) fl_X1_33 dX1_cause_14 rfl ?_
    refine a_iadd (pc' := 18) dX1_cause_17 rfl ?_
    refine a_al_0_1 (pc' := 19) dX1_cause_18 rfl ?_
    refine gf_1_3 (pc' := 22) (by omega) (by omega) fl_X1_21 dX1_cause_19 rfl ?_
    refine a_icmp_gt (pc' := 25) (tgt := 27) dX1_cause_22 (by decide) rfl (fun c_22 => ?_) (fun c_22 => ?_)
    · refine a_al_0_1 (pc' := 28) dX1_cause_27 rfl ?_
      refine gf_1_6 (pc' := 31) (by omega) (by omega) fl_X1_30 dX1_cause_28 rfl ?_
      refine a_al_0_1 (pc' := 32) dX1_cause_31 rfl ?_
      refine gf_1_7 (pc' := 35) (by omega) (by omega) fl_X1_33 dX1_cause_32 rfl ?_
      refine a_icmp_lt (pc' := 38) (tgt := 42) dX1_cause_35 (by decide) rfl (fun c_35 => ?_) (fun c_35 => ?_)
      · refine a_iconst (v := nI 2) (pc' := 43) dX1_cause_42 (by decide) rfl ?_
        refine a_iret dX1_cause_43 rfl rfl ?_
        exact fI (by simp [causeP, c_4, c_22, c_35])
      · refine a_iconst (v := nI 1) (pc' := 39) dX1_cause_38 (by decide) rfl ?_
        refine a_goto (pc' := 43) dX1_cause_39 (by decide) ?_
        refine a_iret dX1_cause_43 rfl rfl ?_
        exact fI (by simp [causeP, c_4, c_22, c_35])
    · refine a_iconst (v := nI 3) (pc' := 26) dX1_cause_25 (by decide) rfl ?_
      refine a_iret dX1_cause_26 rfl rfl ?_
      exact fI (by simp [causeP, c_4, c_22])
  · refine a_iconst (v := nI 0) (pc' := 8) dX1_cause_7 (by decide) rfl ?_
    refine a_iret dX1_cause_8 rfl rfl ?_
    exact fI (by simp [causeP, c_4])
set_option maxRecDepth 20000 in
set_option maxHeartbeats 4000000 in
theorem ct_X1_claim {q p : Nat} (hq : q < 9) (hp : p < 12) (M : Mm) : Ct yX1_claim cX1_claim 1 (some .int) 1 20 [.inr (1, q, p, 0)] M (RI (claimP (M q) p) M) := by
  refine Ct.at RX1 rfl (by decide +kernel) (Nat.le_of_ble_eq_true rfl) [some (.inr (1, q, p, 0))] rfl (fun G => ?_)
  refine a_al_0_1 (pc' := 1) dX1_claim_0 rfl ?_
  refine k_VI (pc' := 4) (ct_X1_wasRejected (by omega) (by omega) _) cw_X1_61 mi_X1_wasRejected se_X1_wasRejected (ok1 (by omega) (by omega)) rfl rfl rfl (by decide) (by decide) (Nat.le_of_ble_eq_true rfl) rfl dX1_claim_1 rfl ?_
  refine a_ifB_eq (pc' := 7) (tgt := 19) dX1_claim_4 (by decide) rfl (fun c_4 => ?_) (fun c_4 => ?_)
  · refine a_iconst (v := nI 0) (pc' := 20) dX1_claim_19 (by decide) rfl ?_
    refine a_iret dX1_claim_20 rfl rfl ?_
    exact fI (by simp [claimP, c_4])
  · refine a_al_0_1 (pc' := 8) dX1_claim_7 rfl ?_
    refine gf_1_4 (pc' := 11) (by omega) (by omega) fl_X1_24 dX1_claim_8 rfl ?_
    refine a_al_0_1 (pc' := 12) dX1_claim_11 rfl ?_
    refine gf_1_9 (pc' := 15) (by omega) (by omega) fl_X1_39 dX1_claim_12 rfl ?_
    refine a_iadd (pc' := 16) dX1_claim_15 rfl ?_
    refine a_goto (pc' := 20) dX1_claim_16 (by decide) ?_
    refine a_iret dX1_claim_20 rfl rfl ?_
    exact fI (by simp [claimP, c_4])
set_option maxRecDepth 20000 in
set_option maxHeartbeats 4000000 in
theorem ct_X1_claimBy {q p : Nat} (hq : q < 9) (hp : p < 12) (x : Int32) (M : Mm) : Ct yX1_claimBy cX1_claimBy 5 (some .int) 2 40 [.inr (1, q, p, 0), .inl x] M (RI (claimByP (M q) p x) M) := by
  refine Ct.at RX1 rfl (by decide +kernel) (Nat.le_of_ble_eq_true rfl) [some (.inr (1, q, p, 0)), some (.inl x), none, none, none] rfl (fun G => ?_)
  refine a_al_0_5 (pc' := 1) dX1_claimBy_0 rfl ?_
  refine k_VI (pc' := 4) (ct_X1_cause (by omega) (by omega) _) cw_X1_65 mi_X1_cause se_X1_cause (ok1 (by omega) (by omega)) rfl rfl rfl (by decide) (by decide) (Nat.le_of_ble_eq_true rfl) rfl dX1_claimBy_1 rfl ?_
  refine a_is_2_5 (pc' := 5) dX1_claimBy_4 rfl ?_
  refine a_il_2_5 (pc' := 6) dX1_claimBy_5 rfl ?_
  refine a_iconst (v := nI 3) (pc' := 7) dX1_claimBy_6 (by decide) rfl ?_
  refine a_icmp_eq (pc' := 10) (tgt := 15) dX1_claimBy_7 (by decide) rfl (fun c_7 => ?_) (fun c_7 => ?_)
  · refine a_il_2_5 (pc' := 16) dX1_claimBy_15 rfl ?_
    refine a_il_1_5 (pc' := 17) dX1_claimBy_16 rfl ?_
    refine a_icmp_ne (pc' := 20) (tgt := 27) dX1_claimBy_17 (by decide) rfl (fun c_17 => ?_) (fun c_17 => ?_)
    · refine a_iconst (v := nI 0) (pc' := 28) dX1_claimBy_27 (by decide) rfl ?_
      refine a_iret dX1_claimBy_28 rfl rfl ?_
      exact fI (by simp_all [claimByP, doorP, nI_eqm, -Int32.not_le, -Int32.not_lt])
    · refine a_al_0_5 (pc' := 21) dX1_claimBy_20 rfl ?_
      refine k_VI (pc' := 24) (ct_X1_claim (by omega) (by omega) _) cw_X1_69 mi_X1_claim se_X1_claim (ok1 (by omega) (by omega)) rfl rfl rfl (by decide) (by decide) (Nat.le_of_ble_eq_true rfl) rfl dX1_claimBy_21 rfl ?_
      refine a_goto (pc' := 28) dX1_claimBy_24 (by decide) ?_
      refine a_iret dX1_claimBy_28 rfl rfl ?_
      exact fI (by simp_all [claimByP, doorP, nI_eqm, -Int32.not_le, -Int32.not_lt])
  · refine a_il_1_5 (pc' := 11) dX1_claimBy_10 rfl ?_
    refine a_iconst (v := nI 3) (pc' := 12) dX1_claimBy_11 (by decide) rfl ?_
    refine a_icmp_ne (pc' := 15) (tgt := 29) dX1_claimBy_12 (by decide) rfl (fun c_12 => ?_) (fun c_12 => ?_)
    · refine a_al_0_5 (pc' := 30) dX1_claimBy_29 rfl ?_
      refine gf_1_6 (pc' := 33) (by omega) (by omega) fl_X1_30 dX1_claimBy_30 rfl ?_
      refine a_al_0_5 (pc' := 34) dX1_claimBy_33 rfl ?_
      refine gf_1_7 (pc' := 37) (by omega) (by omega) fl_X1_33 dX1_claimBy_34 rfl ?_
      refine a_iadd (pc' := 38) dX1_claimBy_37 rfl ?_
      refine a_is_3_5 (pc' := 39) dX1_claimBy_38 rfl ?_
      refine a_il_3_5 (pc' := 40) dX1_claimBy_39 rfl ?_
      refine a_if_le (pc' := 43) (tgt := 57) dX1_claimBy_40 (by decide) rfl (fun c_40 => ?_) (fun c_40 => ?_)
      · refine a_iconst (v := nI 0) (pc' := 58) dX1_claimBy_57 (by decide) rfl ?_
        refine a_is_4_5 (pc' := 60) dX1_claimBy_58 rfl ?_
        refine a_il_1_5 (pc' := 61) dX1_claimBy_60 rfl ?_
        refine a_iconst (v := nI 1) (pc' := 62) dX1_claimBy_61 (by decide) rfl ?_
        refine a_icmp_ne (pc' := 65) (tgt := 70) dX1_claimBy_62 (by decide) rfl (fun c_62 => ?_) (fun c_62 => ?_)
        · refine a_al_0_5 (pc' := 71) dX1_claimBy_70 rfl ?_
          refine k_VI (pc' := 74) (ct_X1_claim (by omega) (by omega) _) cw_X1_69 mi_X1_claim se_X1_claim (ok1 (by omega) (by omega)) rfl rfl rfl (by decide) (by decide) (Nat.le_of_ble_eq_true rfl) rfl dX1_claimBy_71 rfl ?_
          refine a_il_4_5 (pc' := 76) dX1_claimBy_74 rfl ?_
          refine a_isub (pc' := 77) dX1_claimBy_76 rfl ?_
          refine a_iret dX1_claimBy_77 rfl rfl ?_
          exact fI (by simp_all [claimByP, doorP, nI_eqm, -Int32.not_le, -Int32.not_lt])
        · refine a_il_4_5 (pc' := 67) dX1_claimBy_65 rfl ?_
          refine a_goto (pc' := 77) dX1_claimBy_67 (by decide) ?_
          refine a_iret dX1_claimBy_77 rfl rfl ?_
          exact fI (by simp_all [claimByP, doorP, nI_eqm, -Int32.not_le, -Int32.not_lt])
      · refine a_al_0_5 (pc' := 44) dX1_claimBy_43 rfl ?_
        refine k_VI (pc' := 47) (ct_X1_claim (by omega) (by omega) _) cw_X1_69 mi_X1_claim se_X1_claim (ok1 (by omega) (by omega)) rfl rfl rfl (by decide) (by decide) (Nat.le_of_ble_eq_true rfl) rfl dX1_claimBy_44 rfl ?_
        refine a_al_0_5 (pc' := 48) dX1_claimBy_47 rfl ?_
        refine gf_1_6 (pc' := 51) (by omega) (by omega) fl_X1_30 dX1_claimBy_48 rfl ?_
        refine a_imul (pc' := 52) dX1_claimBy_51 rfl ?_
        refine a_il_3_5 (pc' := 53) dX1_claimBy_52 rfl ?_
        refine a_idiv (pc' := 54) dX1_claimBy_53 (fun h => c_40 (by rw [h]; decide)) rfl ?_
        refine a_goto (pc' := 58) dX1_claimBy_54 (by decide) ?_
        refine a_is_4_5 (pc' := 60) dX1_claimBy_58 rfl ?_
        refine a_il_1_5 (pc' := 61) dX1_claimBy_60 rfl ?_
        refine a_iconst (v := nI 1) (pc' := 62) dX1_claimBy_61 (by decide) rfl ?_
        refine a_icmp_ne (pc' := 65) (tgt := 70) dX1_claimBy_62 (by decide) rfl (fun c_62_2 => ?_) (fun c_62_2 => ?_)
        · refine a_al_0_5 (pc' := 71) dX1_claimBy_70 rfl ?_
          refine k_VI (pc' := 74) (ct_X1_claim (by omega) (by omega) _) cw_X1_69 mi_X1_claim se_X1_claim (ok1 (by omega) (by omega)) rfl rfl rfl (by decide) (by decide) (Nat.le_of_ble_eq_true rfl) rfl dX1_claimBy_71 rfl ?_
          refine a_il_4_5 (pc' := 76) dX1_claimBy_74 rfl ?_
          refine a_isub (pc' := 77) dX1_claimBy_76 rfl ?_
          refine a_iret dX1_claimBy_77 rfl rfl ?_
          exact fI (by simp_all [claimByP, doorP, nI_eqm, -Int32.not_le, -Int32.not_lt])
        · refine a_il_4_5 (pc' := 67) dX1_claimBy_65 rfl ?_
          refine a_goto (pc' := 77) dX1_claimBy_67 (by decide) ?_
          refine a_iret dX1_claimBy_77 rfl rfl ?_
          exact fI (by simp_all [claimByP, doorP, nI_eqm, -Int32.not_le, -Int32.not_lt])
    · refine a_il_2_5 (pc' := 16) dX1_claimBy_15 rfl ?_
      refine a_il_1_5 (pc' := 17) dX1_claimBy_16 rfl ?_
      refine a_icmp_ne (pc' := 20) (tgt := 27) dX1_claimBy_17 (by decide) rfl (fun c_17_2 => ?_) (fun c_17_2 => ?_)
      · refine a_iconst (v := nI 0) (pc' := 28) dX1_claimBy_27 (by decide) rfl ?_
        refine a_iret dX1_claimBy_28 rfl rfl ?_
        exact fI (by simp_all [claimByP, doorP, nI_eqm, -Int32.not_le, -Int32.not_lt])
      · refine a_al_0_5 (pc' := 21) dX1_claimBy_20 rfl ?_
        refine k_VI (pc' := 24) (ct_X1_claim (by omega) (by omega) _) cw_X1_69 mi_X1_claim se_X1_claim (ok1 (by omega) (by omega)) rfl rfl rfl (by decide) (by decide) (Nat.le_of_ble_eq_true rfl) rfl dX1_claimBy_21 rfl ?_
        refine a_goto (pc' := 28) dX1_claimBy_24 (by decide) ?_
        refine a_iret dX1_claimBy_28 rfl rfl ?_
        exact fI (by simp_all [claimByP, doorP, nI_eqm, -Int32.not_le, -Int32.not_lt])
set_option maxRecDepth 20000 in
set_option maxHeartbeats 4000000 in
theorem ct_X1_start {q p : Nat} (hq : q < 9) (hp : p < 12) (v z l a w : Int32) (M : Mm) : Ct yX1_start cX1_start 6 none 0 0 [.inr (1, q, p, 0), .inl v, .inl z, .inl l, .inl a, .inl w] M (RV (setR M q (startP (M q) p v z l a w))) := by
  refine Ct.at RX1 rfl (by decide +kernel) (Nat.le_of_ble_eq_true rfl) [some (.inr (1, q, p, 0)), some (.inl v), some (.inl z), some (.inl l), some (.inl a), some (.inl w)] rfl (fun G => ?_)
  refine a_al_0_6 (pc' := 1) dX1_start_0 rfl ?_
  refine a_il_1_6 (pc' := 2) dX1_start_1 rfl ?_
  refine pf_1_0 (pc' := 5) (by omega) (by omega) fl_X1_9 dX1_start_2 rfl ?_
  refine a_al_0_6 (pc' := 6) dX1_start_5 rfl ?_
  refine a_il_2_6 (pc' := 7) dX1_start_6 rfl ?_
  refine pf_1_1 (pc' := 10) (by omega) (by omega) fl_X1_15 dX1_start_7 rfl ?_
  refine a_al_0_6 (pc' := 11) dX1_start_10 rfl ?_
  refine a_il_3_6 (pc' := 12) dX1_start_11 rfl ?_
  refine pf_1_2 (pc' := 15) (by omega) (by omega) fl_X1_18 dX1_start_12 rfl ?_
  refine a_al_0_6 (pc' := 16) dX1_start_15 rfl ?_
  refine a_il_4_6 (pc' := 18) dX1_start_16 rfl ?_
  refine pf_1_3 (pc' := 21) (by omega) (by omega) fl_X1_21 dX1_start_18 rfl ?_
  refine a_al_0_6 (pc' := 22) dX1_start_21 rfl ?_
  refine a_il_5_6 (pc' := 24) dX1_start_22 rfl ?_
  refine pf_1_4 (pc' := 27) (by omega) (by omega) fl_X1_24 dX1_start_24 rfl ?_
  refine a_al_0_6 (pc' := 28) dX1_start_27 rfl ?_
  refine a_iconst (v := nI 0) (pc' := 29) dX1_start_28 (by decide) rfl ?_
  refine pf_1_5 (pc' := 32) (by omega) (by omega) fl_X1_27 dX1_start_29 rfl ?_
  refine a_al_0_6 (pc' := 33) dX1_start_32 rfl ?_
  refine a_iconst (v := nI 0) (pc' := 34) dX1_start_33 (by decide) rfl ?_
  refine pf_1_6 (pc' := 37) (by omega) (by omega) fl_X1_30 dX1_start_34 rfl ?_
  refine a_al_0_6 (pc' := 38) dX1_start_37 rfl ?_
  refine a_iconst (v := nI 0) (pc' := 39) dX1_start_38 (by decide) rfl ?_
  refine pf_1_7 (pc' := 42) (by omega) (by omega) fl_X1_33 dX1_start_39 rfl ?_
  refine a_al_0_6 (pc' := 43) dX1_start_42 rfl ?_
  refine a_iconst (v := nI 0) (pc' := 44) dX1_start_43 (by decide) rfl ?_
  refine pf_1_8 (pc' := 47) (by omega) (by omega) fl_X1_36 dX1_start_44 rfl ?_
  refine a_al_0_6 (pc' := 48) dX1_start_47 rfl ?_
  refine a_iconst (v := nI 0) (pc' := 49) dX1_start_48 (by decide) rfl ?_
  refine pf_1_9 (pc' := 52) (by omega) (by omega) fl_X1_39 dX1_start_49 rfl ?_
  refine a_vret dX1_start_52 rfl ?_
  refine fV ?_
  simp only [wr_eq, setR_same, setR_setR] at ⊢
  rfl
set_option maxRecDepth 20000 in
set_option maxHeartbeats 4000000 in
theorem ct_X1_property {q p : Nat} (hq : q < 9) (hp : p < 12) (x : Int32) (M : Mm) : Ct yX1_property cX1_property 2 (some .int) 2 40 [.inr (1, q, p, 0), .inl x] M (RI (propP (M q) p x) M) := by
  refine Ct.at RX1 rfl (by decide +kernel) (Nat.le_of_ble_eq_true rfl) [some (.inr (1, q, p, 0)), some (.inl x)] rfl (fun G => ?_)
  refine a_il_1_2 (pc' := 1) dX1_property_0 rfl ?_
  by_cases s_1_0 : x = nI 0
  · rw [s_1_0]
    refine a_tswI (tgt := 60) (off := 59) dX1_property_1 (by decide) (by decide) (by decide) (by decide) ?_
    refine a_al_0_2 (pc' := 61) dX1_property_60 rfl ?_
    refine gf_1_0 (pc' := 64) (by omega) (by omega) fl_X1_9 dX1_property_61 rfl ?_
    refine a_iret dX1_property_64 rfl rfl ?_
    exact fI (by simp [propP, s_1_0, nI_eqm])
  by_cases s_1_1 : x = nI 1
  · rw [s_1_1]
    refine a_tswI (tgt := 65) (off := 64) dX1_property_1 (by decide) (by decide) (by decide) (by decide) ?_
    refine a_al_0_2 (pc' := 66) dX1_property_65 rfl ?_
    refine gf_1_1 (pc' := 69) (by omega) (by omega) fl_X1_15 dX1_property_66 rfl ?_
    refine a_iret dX1_property_69 rfl rfl ?_
    exact fI (by simp [propP, s_1_0, s_1_1, nI_eqm])
  by_cases s_1_2 : x = nI 2
  · rw [s_1_2]
    refine a_tswI (tgt := 70) (off := 69) dX1_property_1 (by decide) (by decide) (by decide) (by decide) ?_
    refine a_al_0_2 (pc' := 71) dX1_property_70 rfl ?_
    refine gf_1_2 (pc' := 74) (by omega) (by omega) fl_X1_18 dX1_property_71 rfl ?_
    refine a_iret dX1_property_74 rfl rfl ?_
    exact fI (by simp [propP, s_1_0, s_1_1, s_1_2, nI_eqm])
  by_cases s_1_3 : x = nI 3
  · rw [s_1_3]
    refine a_tswI (tgt := 75) (off := 74) dX1_property_1 (by decide) (by decide) (by decide) (by decide) ?_
    refine a_al_0_2 (pc' := 76) dX1_property_75 rfl ?_
    refine gf_1_3 (pc' := 79) (by omega) (by omega) fl_X1_21 dX1_property_76 rfl ?_
    refine a_iret dX1_property_79 rfl rfl ?_
    exact fI (by simp [propP, s_1_0, s_1_1, s_1_2, s_1_3, nI_eqm])
  by_cases s_1_4 : x = nI 4
  · rw [s_1_4]
    refine a_tswI (tgt := 80) (off := 79) dX1_property_1 (by decide) (by decide) (by decide) (by decide) ?_
    refine a_al_0_2 (pc' := 81) dX1_property_80 rfl ?_
    refine gf_1_4 (pc' := 84) (by omega) (by omega) fl_X1_24 dX1_property_81 rfl ?_
    refine a_iret dX1_property_84 rfl rfl ?_
    exact fI (by simp [propP, s_1_0, s_1_1, s_1_2, s_1_3, s_1_4, nI_eqm])
  by_cases s_1_5 : x = nI 5
  · rw [s_1_5]
    refine a_tswI (tgt := 85) (off := 84) dX1_property_1 (by decide) (by decide) (by decide) (by decide) ?_
    refine a_al_0_2 (pc' := 86) dX1_property_85 rfl ?_
    refine gf_1_5 (pc' := 89) (by omega) (by omega) fl_X1_27 dX1_property_86 rfl ?_
    refine a_iret dX1_property_89 rfl rfl ?_
    exact fI (by simp [propP, s_1_0, s_1_1, s_1_2, s_1_3, s_1_4, s_1_5, nI_eqm])
  by_cases s_1_6 : x = nI 6
  · rw [s_1_6]
    refine a_tswI (tgt := 90) (off := 89) dX1_property_1 (by decide) (by decide) (by decide) (by decide) ?_
    refine a_al_0_2 (pc' := 91) dX1_property_90 rfl ?_
    refine gf_1_6 (pc' := 94) (by omega) (by omega) fl_X1_30 dX1_property_91 rfl ?_
    refine a_iret dX1_property_94 rfl rfl ?_
    exact fI (by simp [propP, s_1_0, s_1_1, s_1_2, s_1_3, s_1_4, s_1_5, s_1_6, nI_eqm])
  by_cases s_1_7 : x = nI 7
  · rw [s_1_7]
    refine a_tswI (tgt := 95) (off := 94) dX1_property_1 (by decide) (by decide) (by decide) (by decide) ?_
    refine a_al_0_2 (pc' := 96) dX1_property_95 rfl ?_
    refine gf_1_7 (pc' := 99) (by omega) (by omega) fl_X1_33 dX1_property_96 rfl ?_
    refine a_iret dX1_property_99 rfl rfl ?_
    exact fI (by simp [propP, s_1_0, s_1_1, s_1_2, s_1_3, s_1_4, s_1_5, s_1_6, s_1_7, nI_eqm])
  by_cases s_1_8 : x = nI 8
  · rw [s_1_8]
    refine a_tswI (tgt := 100) (off := 99) dX1_property_1 (by decide) (by decide) (by decide) (by decide) ?_
    refine a_al_0_2 (pc' := 101) dX1_property_100 rfl ?_
    refine gf_1_8 (pc' := 104) (by omega) (by omega) fl_X1_36 dX1_property_101 rfl ?_
    refine a_iret dX1_property_104 rfl rfl ?_
    exact fI (by simp [propP, s_1_0, s_1_1, s_1_2, s_1_3, s_1_4, s_1_5, s_1_6, s_1_7, s_1_8, nI_eqm])
  by_cases s_1_9 : x = nI 9
  · rw [s_1_9]
    refine a_tswI (tgt := 105) (off := 104) dX1_property_1 (by decide) (by decide) (by decide) (by decide) ?_
    refine a_al_0_2 (pc' := 106) dX1_property_105 rfl ?_
    refine k_VI (pc' := 109) (ct_X1_cause (by omega) (by omega) _) cw_X1_65 mi_X1_cause se_X1_cause (ok1 (by omega) (by omega)) rfl rfl rfl (by decide) (by decide) (Nat.le_of_ble_eq_true rfl) rfl dX1_property_106 rfl ?_
    refine a_iret dX1_property_109 rfl rfl ?_
    exact fI (by simp [propP, s_1_0, s_1_1, s_1_2, s_1_3, s_1_4, s_1_5, s_1_6, s_1_7, s_1_8, s_1_9, nI_eqm])
  by_cases s_1_10 : x = nI 10
  · rw [s_1_10]
    refine a_tswI (tgt := 110) (off := 109) dX1_property_1 (by decide) (by decide) (by decide) (by decide) ?_
    refine a_al_0_2 (pc' := 111) dX1_property_110 rfl ?_
    refine gf_1_9 (pc' := 114) (by omega) (by omega) fl_X1_39 dX1_property_111 rfl ?_
    refine a_iret dX1_property_114 rfl rfl ?_
    exact fI (by simp [propP, s_1_0, s_1_1, s_1_2, s_1_3, s_1_4, s_1_5, s_1_6, s_1_7, s_1_8, s_1_9, s_1_10, nI_eqm])
  refine a_tswO (tgt := 115) dX1_property_1 (tsw_out10 s_1_0 s_1_1 s_1_2 s_1_3 s_1_4 s_1_5 s_1_6 s_1_7 s_1_8 s_1_9 s_1_10) (by decide) ?_
  refine a_ldc (pc' := 117) dX1_property_115 cn_X1_72 rfl ?_
  refine a_iret dX1_property_117 rfl rfl ?_
  exact fI (by simp [propP, s_1_0, s_1_1, s_1_2, s_1_3, s_1_4, s_1_5, s_1_6, s_1_7, s_1_8, s_1_9, s_1_10, nI_eqm])
set_option maxRecDepth 20000 in
set_option maxHeartbeats 4000000 in
theorem ct_X1_copyFrom {q q' p : Nat} (hq : q < 9) (hq' : q' < 9) (hne : q' ≠ q) (hp : p < 12) (M : Mm) : Ct yX1_copyFrom cX1_copyFrom 2 none 0 0 [.inr (1, q, p, 0), .inr (1, q', p, 0)] M (RV (setR M q (cpR (M q) (M q') (63 + 10 * p) 10))) := by
  refine Ct.at RX1 rfl (by decide +kernel) (Nat.le_of_ble_eq_true rfl) [some (.inr (1, q, p, 0)), some (.inr (1, q', p, 0))] rfl (fun G => ?_)
  refine a_al_0_2 (pc' := 1) dX1_copyFrom_0 rfl ?_
  refine a_al_1_2 (pc' := 2) dX1_copyFrom_1 rfl ?_
  refine gf_1_0 (pc' := 5) (by omega) (by omega) fl_X1_9 dX1_copyFrom_2 rfl ?_
  refine pf_1_0 (pc' := 8) (by omega) (by omega) fl_X1_9 dX1_copyFrom_5 rfl ?_
  refine a_al_0_2 (pc' := 9) dX1_copyFrom_8 rfl ?_
  refine a_al_1_2 (pc' := 10) dX1_copyFrom_9 rfl ?_
  refine gf_1_1 (pc' := 13) (by omega) (by omega) fl_X1_15 dX1_copyFrom_10 rfl ?_
  refine pf_1_1 (pc' := 16) (by omega) (by omega) fl_X1_15 dX1_copyFrom_13 rfl ?_
  refine a_al_0_2 (pc' := 17) dX1_copyFrom_16 rfl ?_
  refine a_al_1_2 (pc' := 18) dX1_copyFrom_17 rfl ?_
  refine gf_1_2 (pc' := 21) (by omega) (by omega) fl_X1_18 dX1_copyFrom_18 rfl ?_
  refine pf_1_2 (pc' := 24) (by omega) (by omega) fl_X1_18 dX1_copyFrom_21 rfl ?_
  refine a_al_0_2 (pc' := 25) dX1_copyFrom_24 rfl ?_
  refine a_al_1_2 (pc' := 26) dX1_copyFrom_25 rfl ?_
  refine gf_1_3 (pc' := 29) (by omega) (by omega) fl_X1_21 dX1_copyFrom_26 rfl ?_
  refine pf_1_3 (pc' := 32) (by omega) (by omega) fl_X1_21 dX1_copyFrom_29 rfl ?_
  refine a_al_0_2 (pc' := 33) dX1_copyFrom_32 rfl ?_
  refine a_al_1_2 (pc' := 34) dX1_copyFrom_33 rfl ?_
  refine gf_1_4 (pc' := 37) (by omega) (by omega) fl_X1_24 dX1_copyFrom_34 rfl ?_
  refine pf_1_4 (pc' := 40) (by omega) (by omega) fl_X1_24 dX1_copyFrom_37 rfl ?_
  refine a_al_0_2 (pc' := 41) dX1_copyFrom_40 rfl ?_
  refine a_al_1_2 (pc' := 42) dX1_copyFrom_41 rfl ?_
  refine gf_1_5 (pc' := 45) (by omega) (by omega) fl_X1_27 dX1_copyFrom_42 rfl ?_
  refine pf_1_5 (pc' := 48) (by omega) (by omega) fl_X1_27 dX1_copyFrom_45 rfl ?_
  refine a_al_0_2 (pc' := 49) dX1_copyFrom_48 rfl ?_
  refine a_al_1_2 (pc' := 50) dX1_copyFrom_49 rfl ?_
  refine gf_1_6 (pc' := 53) (by omega) (by omega) fl_X1_30 dX1_copyFrom_50 rfl ?_
  refine pf_1_6 (pc' := 56) (by omega) (by omega) fl_X1_30 dX1_copyFrom_53 rfl ?_
  refine a_al_0_2 (pc' := 57) dX1_copyFrom_56 rfl ?_
  refine a_al_1_2 (pc' := 58) dX1_copyFrom_57 rfl ?_
  refine gf_1_7 (pc' := 61) (by omega) (by omega) fl_X1_33 dX1_copyFrom_58 rfl ?_
  refine pf_1_7 (pc' := 64) (by omega) (by omega) fl_X1_33 dX1_copyFrom_61 rfl ?_
  refine a_al_0_2 (pc' := 65) dX1_copyFrom_64 rfl ?_
  refine a_al_1_2 (pc' := 66) dX1_copyFrom_65 rfl ?_
  refine gf_1_8 (pc' := 69) (by omega) (by omega) fl_X1_36 dX1_copyFrom_66 rfl ?_
  refine pf_1_8 (pc' := 72) (by omega) (by omega) fl_X1_36 dX1_copyFrom_69 rfl ?_
  refine a_al_0_2 (pc' := 73) dX1_copyFrom_72 rfl ?_
  refine a_al_1_2 (pc' := 74) dX1_copyFrom_73 rfl ?_
  refine gf_1_9 (pc' := 77) (by omega) (by omega) fl_X1_39 dX1_copyFrom_74 rfl ?_
  refine pf_1_9 (pc' := 80) (by omega) (by omega) fl_X1_39 dX1_copyFrom_77 rfl ?_
  refine a_vret dX1_copyFrom_80 rfl ?_
  refine fV ?_
  simp only [wr_eq, setR_same, setR_setR] at ⊢
  simp only [setR_ne _ _ hne, cpR10]
set_option maxRecDepth 20000 in
set_option maxHeartbeats 4000000 in
theorem ct_X4_toldIn {q v : Nat} (hq : q < 9) (hv : v < 3) {z : Nat} (hz : z < 3) (M : Mm) : Ct yX4_toldIn cX4_toldIn 4 (some .int) 1 22 [.inr (4, q, v, 0), .inl (nI z)] M (RI (toldF (M q) v z) M) := by
  refine Ct.at RX4 rfl (by decide +kernel) (Nat.le_of_ble_eq_true rfl) [some (.inr (4, q, v, 0)), some (.inl (nI z)), none, none] rfl (fun G => ?_)
  refine a_al_0_4 (pc' := 1) dX4_toldIn_0 rfl ?_
  refine gf_4_4 (pc' := 4) (by omega) (by omega) fl_X4_11 dX4_toldIn_1 rfl ?_
  refine a_il_1_4 (pc' := 5) dX4_toldIn_4 rfl ?_
  refine aN_13 (j := z) (pc' := 6) (by omega) (by omega) (by omega) dX4_toldIn_5 rfl ?_
  refine gf_5_3 (pc' := 9) (by omega) (by omega) (by omega) fl_X4_57 dX4_toldIn_6 rfl ?_
  refine a_if_ne (pc' := 12) (tgt := 22) dX4_toldIn_9 (by decide) rfl (fun c_9 => ?_) (fun c_9 => ?_)
  · refine a_al_0_4 (pc' := 23) dX4_toldIn_22 rfl ?_
    refine gf_4_4 (pc' := 26) (by omega) (by omega) fl_X4_11 dX4_toldIn_23 rfl ?_
    refine a_il_1_4 (pc' := 27) dX4_toldIn_26 rfl ?_
    refine a_iconst (v := nI 1) (pc' := 28) dX4_toldIn_27 (by decide) rfl ?_
    refine a_iaddN (pc' := 29) dX4_toldIn_28 rfl ?_
    refine a_iconst (v := nI 3) (pc' := 30) dX4_toldIn_29 (by decide) rfl ?_
    refine a_iremN (pc' := 31) (by omega) (by decide) (by decide) dX4_toldIn_30 rfl ?_
    refine aN_13 (j := (z + 1) % 3) (pc' := 32) (by omega) (by omega) (by omega) dX4_toldIn_31 rfl ?_
    refine k_VI (pc' := 35) (ct_X5_reading (by omega) (by omega) (by omega) _) cw_X4_60 mi_X5_reading se_X5_reading (ok5 (by omega) (by omega) (by omega)) rfl rfl rfl (by decide) (by decide) (Nat.le_of_ble_eq_true rfl) rfl dX4_toldIn_32 rfl ?_
    refine a_is_2_4 (pc' := 36) dX4_toldIn_35 rfl ?_
    refine a_al_0_4 (pc' := 37) dX4_toldIn_36 rfl ?_
    refine gf_4_4 (pc' := 40) (by omega) (by omega) fl_X4_11 dX4_toldIn_37 rfl ?_
    refine a_il_1_4 (pc' := 41) dX4_toldIn_40 rfl ?_
    refine a_iconst (v := nI 2) (pc' := 42) dX4_toldIn_41 (by decide) rfl ?_
    refine a_iaddN (pc' := 43) dX4_toldIn_42 rfl ?_
    refine a_iconst (v := nI 3) (pc' := 44) dX4_toldIn_43 (by decide) rfl ?_
    refine a_iremN (pc' := 45) (by omega) (by decide) (by decide) dX4_toldIn_44 rfl ?_
    refine aN_13 (j := (z + 2) % 3) (pc' := 46) (by omega) (by omega) (by omega) dX4_toldIn_45 rfl ?_
    refine k_VI (pc' := 49) (ct_X5_reading (by omega) (by omega) (by omega) _) cw_X4_60 mi_X5_reading se_X5_reading (ok5 (by omega) (by omega) (by omega)) rfl rfl rfl (by decide) (by decide) (Nat.le_of_ble_eq_true rfl) rfl dX4_toldIn_46 rfl ?_
    refine a_is_3_4 (pc' := 50) dX4_toldIn_49 rfl ?_
    refine a_il_2_4 (pc' := 51) dX4_toldIn_50 rfl ?_
    refine a_il_3_4 (pc' := 52) dX4_toldIn_51 rfl ?_
    refine a_iadd (pc' := 53) dX4_toldIn_52 rfl ?_
    refine a_iconst (v := nI 2) (pc' := 54) dX4_toldIn_53 (by decide) rfl ?_
    refine k_SI (pc' := 57) (ct_J9_floorDiv_7cf53 _ _ (by decide) _) cw_X4_70 ms_J9_floorDiv_7cf53 rfl (by decide) (by decide) (Nat.le_of_ble_eq_true rfl) rfl dX4_toldIn_54 rfl ?_
    refine a_iret dX4_toldIn_57 rfl rfl ?_
    exact fI (by simp [toldF, c_9])
  · refine a_al_0_4 (pc' := 13) dX4_toldIn_12 rfl ?_
    refine gf_4_4 (pc' := 16) (by omega) (by omega) fl_X4_11 dX4_toldIn_13 rfl ?_
    refine a_il_1_4 (pc' := 17) dX4_toldIn_16 rfl ?_
    refine aN_13 (j := z) (pc' := 18) (by omega) (by omega) (by omega) dX4_toldIn_17 rfl ?_
    refine k_VI (pc' := 21) (ct_X5_reading (by omega) (by omega) (by omega) _) cw_X4_60 mi_X5_reading se_X5_reading (ok5 (by omega) (by omega) (by omega)) rfl rfl rfl (by decide) (by decide) (Nat.le_of_ble_eq_true rfl) rfl dX4_toldIn_18 rfl ?_
    refine a_iret dX4_toldIn_21 rfl rfl ?_
    exact fI (by simp [toldF, c_9])
set_option maxRecDepth 20000 in
set_option maxHeartbeats 4000000 in
theorem ct_X4_isOdd {q v : Nat} (hq : q < 9) (hv : v < 3) {z : Nat} (hz : z < 3) (d : Int32) (M : Mm) : Ct yX4_isOdd cX4_isOdd 6 (some .boolean) 1 20 [.inr (4, q, v, 0), .inl (nI z), .inl d] M (RT (oddF (M q) v z d) M) := by
  refine Ct.at RX4 rfl (by decide +kernel) (Nat.le_of_ble_eq_true rfl) [some (.inr (4, q, v, 0)), some (.inl (nI z)), some (.inl d), none, none, none] rfl (fun G => ?_)
  refine a_al_0_6 (pc' := 1) dX4_isOdd_0 rfl ?_
  refine gf_4_4 (pc' := 4) (by omega) (by omega) fl_X4_11 dX4_isOdd_1 rfl ?_
  refine a_il_1_6 (pc' := 5) dX4_isOdd_4 rfl ?_
  refine aN_13 (j := z) (pc' := 6) (by omega) (by omega) (by omega) dX4_isOdd_5 rfl ?_
  refine k_VI (pc' := 9) (ct_X5_reading (by omega) (by omega) (by omega) _) cw_X4_60 mi_X5_reading se_X5_reading (ok5 (by omega) (by omega) (by omega)) rfl rfl rfl (by decide) (by decide) (Nat.le_of_ble_eq_true rfl) rfl dX4_isOdd_6 rfl ?_
  refine a_is_3_6 (pc' := 10) dX4_isOdd_9 rfl ?_
  refine a_al_0_6 (pc' := 11) dX4_isOdd_10 rfl ?_
  refine gf_4_4 (pc' := 14) (by omega) (by omega) fl_X4_11 dX4_isOdd_11 rfl ?_
  refine a_il_1_6 (pc' := 15) dX4_isOdd_14 rfl ?_
  refine a_iconst (v := nI 1) (pc' := 16) dX4_isOdd_15 (by decide) rfl ?_
  refine a_iaddN (pc' := 17) dX4_isOdd_16 rfl ?_
  refine a_iconst (v := nI 3) (pc' := 18) dX4_isOdd_17 (by decide) rfl ?_
  refine a_iremN (pc' := 19) (by omega) (by decide) (by decide) dX4_isOdd_18 rfl ?_
  refine aN_13 (j := (z + 1) % 3) (pc' := 20) (by omega) (by omega) (by omega) dX4_isOdd_19 rfl ?_
  refine k_VI (pc' := 23) (ct_X5_reading (by omega) (by omega) (by omega) _) cw_X4_60 mi_X5_reading se_X5_reading (ok5 (by omega) (by omega) (by omega)) rfl rfl rfl (by decide) (by decide) (Nat.le_of_ble_eq_true rfl) rfl dX4_isOdd_20 rfl ?_
  refine a_is_4_6 (pc' := 25) dX4_isOdd_23 rfl ?_
  refine a_al_0_6 (pc' := 26) dX4_isOdd_25 rfl ?_
  refine gf_4_4 (pc' := 29) (by omega) (by omega) fl_X4_11 dX4_isOdd_26 rfl ?_
  refine a_il_1_6 (pc' := 30) dX4_isOdd_29 rfl ?_
  refine a_iconst (v := nI 2) (pc' := 31) dX4_isOdd_30 (by decide) rfl ?_
  refine a_iaddN (pc' := 32) dX4_isOdd_31 rfl ?_
  refine a_iconst (v := nI 3) (pc' := 33) dX4_isOdd_32 (by decide) rfl ?_
  refine a_iremN (pc' := 34) (by omega) (by decide) (by decide) dX4_isOdd_33 rfl ?_
  refine aN_13 (j := (z + 2) % 3) (pc' := 35) (by omega) (by omega) (by omega) dX4_isOdd_34 rfl ?_
  refine k_VI (pc' := 38) (ct_X5_reading (by omega) (by omega) (by omega) _) cw_X4_60 mi_X5_reading se_X5_reading (ok5 (by omega) (by omega) (by omega)) rfl rfl rfl (by decide) (by decide) (Nat.le_of_ble_eq_true rfl) rfl dX4_isOdd_35 rfl ?_
  refine a_is_5_6 (pc' := 40) dX4_isOdd_38 rfl ?_
  refine a_il_3_6 (pc' := 41) dX4_isOdd_40 rfl ?_
  refine a_il_4_6 (pc' := 43) dX4_isOdd_41 rfl ?_
  refine a_isub (pc' := 44) dX4_isOdd_43 rfl ?_
  refine k_SI (pc' := 47) (ct_J9_abs_0f7a4 _ _) cw_X4_64 ms_J9_abs_0f7a4 rfl (by decide) (by decide) (Nat.le_of_ble_eq_true rfl) rfl dX4_isOdd_44 rfl ?_
  refine a_il_2_6 (pc' := 48) dX4_isOdd_47 rfl ?_
  refine a_icmp_le (pc' := 51) (tgt := 78) dX4_isOdd_48 (by decide) rfl (fun c_48 => ?_) (fun c_48 => ?_)
  · refine a_iconst (v := nI 0) (pc' := 79) dX4_isOdd_78 (by decide) rfl ?_
    refine a_iret dX4_isOdd_79 rfl rfl ?_
    exact fB0 (by simp [oddF, c_48])
  · refine a_il_3_6 (pc' := 52) dX4_isOdd_51 rfl ?_
    refine a_il_5_6 (pc' := 54) dX4_isOdd_52 rfl ?_
    refine a_isub (pc' := 55) dX4_isOdd_54 rfl ?_
    refine k_SI (pc' := 58) (ct_J9_abs_0f7a4 _ _) cw_X4_64 ms_J9_abs_0f7a4 rfl (by decide) (by decide) (Nat.le_of_ble_eq_true rfl) rfl dX4_isOdd_55 rfl ?_
    refine a_il_2_6 (pc' := 59) dX4_isOdd_58 rfl ?_
    refine a_icmp_le (pc' := 62) (tgt := 78) dX4_isOdd_59 (by decide) rfl (fun c_59 => ?_) (fun c_59 => ?_)
    · refine a_iconst (v := nI 0) (pc' := 79) dX4_isOdd_78 (by decide) rfl ?_
      refine a_iret dX4_isOdd_79 rfl rfl ?_
      exact fB0 (by simp [oddF, c_48, c_59])
    · refine a_il_4_6 (pc' := 64) dX4_isOdd_62 rfl ?_
      refine a_il_5_6 (pc' := 66) dX4_isOdd_64 rfl ?_
      refine a_isub (pc' := 67) dX4_isOdd_66 rfl ?_
      refine k_SI (pc' := 70) (ct_J9_abs_0f7a4 _ _) cw_X4_64 ms_J9_abs_0f7a4 rfl (by decide) (by decide) (Nat.le_of_ble_eq_true rfl) rfl dX4_isOdd_67 rfl ?_
      refine a_il_2_6 (pc' := 71) dX4_isOdd_70 rfl ?_
      refine a_icmp_gt (pc' := 74) (tgt := 78) dX4_isOdd_71 (by decide) rfl (fun c_71 => ?_) (fun c_71 => ?_)
      · refine a_iconst (v := nI 0) (pc' := 79) dX4_isOdd_78 (by decide) rfl ?_
        refine a_iret dX4_isOdd_79 rfl rfl ?_
        exact fB0 (by simp [oddF, c_48, c_59, c_71])
      · refine a_iconst (v := nI 1) (pc' := 75) dX4_isOdd_74 (by decide) rfl ?_
        refine a_goto (pc' := 79) dX4_isOdd_75 (by decide) ?_
        refine a_iret dX4_isOdd_79 rfl rfl ?_
        exact fB1 (by simp [oddF, c_48, c_59, c_71])
set_option maxRecDepth 20000 in
set_option maxHeartbeats 4000000 in
theorem ct_X4_copyFrom {q q' v : Nat} (hq : q < 9) (hq' : q' < 9) (hne : q' ≠ q) (hv : v < 3) (M : Mm) (ho : M q' (6 + 19 * v + 2) = 0 ∨ M q' (6 + 19 * v + 2) = 1) (hf : ∀ z, z < 3 → M q' (10 + 19 * v + 5 * z + 3) = 0 ∨ M q' (10 + 19 * v + 5 * z + 3) = 1) : Ct yX4_copyFrom cX4_copyFrom 3 none 1 21 [.inr (4, q, v, 0), .inr (4, q', v, 0)] M (RV (setR M q (cpR (M q) (M q') (6 + 19 * v) 19))) := by
  refine Ct.at RX4 rfl (by decide +kernel) (Nat.le_of_ble_eq_true rfl) [some (.inr (4, q, v, 0)), some (.inr (4, q', v, 0)), none] rfl (fun G => ?_)
  refine a_al_0_3 (pc' := 1) dX4_copyFrom_0 rfl ?_
  refine a_al_1_3 (pc' := 2) dX4_copyFrom_1 rfl ?_
  refine gf_4_0 (pc' := 5) (by omega) (by omega) fl_X4_18 dX4_copyFrom_2 rfl ?_
  refine pf_4_0 (pc' := 8) (by omega) (by omega) fl_X4_18 dX4_copyFrom_5 rfl ?_
  refine a_al_0_3 (pc' := 9) dX4_copyFrom_8 rfl ?_
  refine a_al_1_3 (pc' := 10) dX4_copyFrom_9 rfl ?_
  refine gf_4_1 (pc' := 13) (by omega) (by omega) fl_X4_22 dX4_copyFrom_10 rfl ?_
  refine pf_4_1 (pc' := 16) (by omega) (by omega) fl_X4_22 dX4_copyFrom_13 rfl ?_
  refine a_al_0_3 (pc' := 17) dX4_copyFrom_16 rfl ?_
  refine a_al_1_3 (pc' := 18) dX4_copyFrom_17 rfl ?_
  refine gf_4_2 (pc' := 21) (by omega) (by omega) fl_X4_25 dX4_copyFrom_18 rfl ?_
  refine pf_4_2 (pc' := 24) (by omega) (by omega) (by simp only [wr_eq, setR_same, setR_setR, setR_ne _ _ hne]; exact ho) fl_X4_25 dX4_copyFrom_21 rfl ?_
  refine a_al_0_3 (pc' := 25) dX4_copyFrom_24 rfl ?_
  refine a_al_1_3 (pc' := 26) dX4_copyFrom_25 rfl ?_
  refine gf_4_3 (pc' := 29) (by omega) (by omega) fl_X4_29 dX4_copyFrom_26 rfl ?_
  refine pf_4_3 (pc' := 32) (by omega) (by omega) fl_X4_29 dX4_copyFrom_29 rfl ?_
  refine a_iconst (v := nI 0) (pc' := 33) dX4_copyFrom_32 (by decide) rfl ?_
  refine a_is_2_3 (pc' := 34) dX4_copyFrom_33 rfl ?_
  refine a_il_2_3 (pc' := 35) dX4_copyFrom_34 rfl ?_
  refine a_iconst (v := nI 3) (pc' := 36) dX4_copyFrom_35 (by decide) rfl ?_
  refine a_icmp_ge (pc' := 39) (tgt := 60) dX4_copyFrom_36 (by decide) rfl (fun c_36 => absurd c_36 (by decide)) (fun c_36 => ?_)
  refine a_al_0_3 (pc' := 40) dX4_copyFrom_39 rfl ?_
  refine gf_4_4 (pc' := 43) (by omega) (by omega) fl_X4_11 dX4_copyFrom_40 rfl ?_
  refine a_il_2_3 (pc' := 44) dX4_copyFrom_43 rfl ?_
  refine aN_13 (j := 0) (pc' := 45) (by omega) (by omega) (by omega) dX4_copyFrom_44 rfl ?_
  refine a_al_1_3 (pc' := 46) dX4_copyFrom_45 rfl ?_
  refine gf_4_4 (pc' := 49) (by omega) (by omega) fl_X4_11 dX4_copyFrom_46 rfl ?_
  refine a_il_2_3 (pc' := 50) dX4_copyFrom_49 rfl ?_
  refine aN_13 (j := 0) (pc' := 51) (by omega) (by omega) (by omega) dX4_copyFrom_50 rfl ?_
  refine k_VV (pc' := 54) (ct_X5_copyFrom (by omega) (by omega) hne (by omega) (by omega) _ (by simp only [wr_eq, setR_same, setR_setR, setR_ne _ _ hne]; exact hf 0 (by decide))) cw_X4_32 mi_X5_copyFrom se_X5_copyFrom (ok5 (by omega) (by omega) (by omega)) rfl rfl rfl (by decide) (by decide) (Nat.le_of_ble_eq_true rfl) rfl dX4_copyFrom_51 rfl ?_
  refine a_iN_2_3 (m := 1) (pc' := 57) dX4_copyFrom_54 (nI_add _ _) rfl ?_
  refine a_goto (pc' := 34) dX4_copyFrom_57 (by decide) ?_
  refine a_il_2_3 (pc' := 35) dX4_copyFrom_34 rfl ?_
  refine a_iconst (v := nI 3) (pc' := 36) dX4_copyFrom_35 (by decide) rfl ?_
  refine a_icmp_ge (pc' := 39) (tgt := 60) dX4_copyFrom_36 (by decide) rfl (fun c_36_2 => absurd c_36_2 (by decide)) (fun c_36_2 => ?_)
  refine a_al_0_3 (pc' := 40) dX4_copyFrom_39 rfl ?_
  refine gf_4_4 (pc' := 43) (by omega) (by omega) fl_X4_11 dX4_copyFrom_40 rfl ?_
  refine a_il_2_3 (pc' := 44) dX4_copyFrom_43 rfl ?_
  refine aN_13 (j := 1) (pc' := 45) (by omega) (by omega) (by omega) dX4_copyFrom_44 rfl ?_
  refine a_al_1_3 (pc' := 46) dX4_copyFrom_45 rfl ?_
  refine gf_4_4 (pc' := 49) (by omega) (by omega) fl_X4_11 dX4_copyFrom_46 rfl ?_
  refine a_il_2_3 (pc' := 50) dX4_copyFrom_49 rfl ?_
  refine aN_13 (j := 1) (pc' := 51) (by omega) (by omega) (by omega) dX4_copyFrom_50 rfl ?_
  refine k_VV (pc' := 54) (ct_X5_copyFrom (by omega) (by omega) hne (by omega) (by omega) _ (by simp only [wr_eq, setR_same, setR_setR, setR_ne _ _ hne]; exact hf 1 (by decide))) cw_X4_32 mi_X5_copyFrom se_X5_copyFrom (ok5 (by omega) (by omega) (by omega)) rfl rfl rfl (by decide) (by decide) (Nat.le_of_ble_eq_true rfl) rfl dX4_copyFrom_51 rfl ?_
  refine a_iN_2_3 (m := 2) (pc' := 57) dX4_copyFrom_54 (nI_add _ _) rfl ?_
  refine a_goto (pc' := 34) dX4_copyFrom_57 (by decide) ?_
  refine a_il_2_3 (pc' := 35) dX4_copyFrom_34 rfl ?_
  refine a_iconst (v := nI 3) (pc' := 36) dX4_copyFrom_35 (by decide) rfl ?_
  refine a_icmp_ge (pc' := 39) (tgt := 60) dX4_copyFrom_36 (by decide) rfl (fun c_36_3 => absurd c_36_3 (by decide)) (fun c_36_3 => ?_)
  refine a_al_0_3 (pc' := 40) dX4_copyFrom_39 rfl ?_
  refine gf_4_4 (pc' := 43) (by omega) (by omega) fl_X4_11 dX4_copyFrom_40 rfl ?_
  refine a_il_2_3 (pc' := 44) dX4_copyFrom_43 rfl ?_
  refine aN_13 (j := 2) (pc' := 45) (by omega) (by omega) (by omega) dX4_copyFrom_44 rfl ?_
  refine a_al_1_3 (pc' := 46) dX4_copyFrom_45 rfl ?_
  refine gf_4_4 (pc' := 49) (by omega) (by omega) fl_X4_11 dX4_copyFrom_46 rfl ?_
  refine a_il_2_3 (pc' := 50) dX4_copyFrom_49 rfl ?_
  refine aN_13 (j := 2) (pc' := 51) (by omega) (by omega) (by omega) dX4_copyFrom_50 rfl ?_
  refine k_VV (pc' := 54) (ct_X5_copyFrom (by omega) (by omega) hne (by omega) (by omega) _ (by simp only [wr_eq, setR_same, setR_setR, setR_ne _ _ hne]; exact hf 2 (by decide))) cw_X4_32 mi_X5_copyFrom se_X5_copyFrom (ok5 (by omega) (by omega) (by omega)) rfl rfl rfl (by decide) (by decide) (Nat.le_of_ble_eq_true rfl) rfl dX4_copyFrom_51 rfl ?_
  refine a_iN_2_3 (m := 3) (pc' := 57) dX4_copyFrom_54 (nI_add _ _) rfl ?_
  refine a_goto (pc' := 34) dX4_copyFrom_57 (by decide) ?_
  refine a_il_2_3 (pc' := 35) dX4_copyFrom_34 rfl ?_
  refine a_iconst (v := nI 3) (pc' := 36) dX4_copyFrom_35 (by decide) rfl ?_
  refine a_icmp_ge (pc' := 39) (tgt := 60) dX4_copyFrom_36 (by decide) rfl (fun c_36_4 => ?_) (fun c_36_4 => absurd (by decide) c_36_4)
  refine a_vret dX4_copyFrom_60 rfl ?_
  refine fV ?_
  simp only [wr_eq, setR_same, setR_setR] at ⊢
  simp only [setR_ne _ _ hne, cpR4]
  exact congrArg (setR M q) (cpR_van _ _ v)
set_option maxRecDepth 20000 in
set_option maxHeartbeats 4000000 in
theorem ct_X4_start {q v : Nat} (hq : q < 9) (hv : v < 3) (sp c t : Int32) (M : Mm) : Ct yX4_start cX4_start 5 none 1 20 [.inr (4, q, v, 0), .inl sp, .inl c, .inl t] M (RV (setR M q (startV (M q) v sp c t))) := by
  refine Ct.at RX4 rfl (by decide +kernel) (Nat.le_of_ble_eq_true rfl) [some (.inr (4, q, v, 0)), some (.inl sp), some (.inl c), some (.inl t), none] rfl (fun G => ?_)
  refine a_al_0_5 (pc' := 1) dX4_start_0 rfl ?_
  refine a_il_1_5 (pc' := 2) dX4_start_1 rfl ?_
  refine pf_4_0 (pc' := 5) (by omega) (by omega) fl_X4_18 dX4_start_2 rfl ?_
  refine a_al_0_5 (pc' := 6) dX4_start_5 rfl ?_
  refine a_il_2_5 (pc' := 7) dX4_start_6 rfl ?_
  refine pf_4_1 (pc' := 10) (by omega) (by omega) fl_X4_22 dX4_start_7 rfl ?_
  refine a_al_0_5 (pc' := 11) dX4_start_10 rfl ?_
  refine a_iconst (v := nI 0) (pc' := 12) dX4_start_11 (by decide) rfl ?_
  refine pf_4_2 (pc' := 15) (by omega) (by omega) (Or.inl rfl) fl_X4_25 dX4_start_12 rfl ?_
  refine a_al_0_5 (pc' := 16) dX4_start_15 rfl ?_
  refine a_il_3_5 (pc' := 17) dX4_start_16 rfl ?_
  refine pf_4_3 (pc' := 20) (by omega) (by omega) fl_X4_29 dX4_start_17 rfl ?_
  refine a_iconst (v := nI 0) (pc' := 21) dX4_start_20 (by decide) rfl ?_
  refine a_is_4_5 (pc' := 23) dX4_start_21 rfl ?_
  refine a_il_4_5 (pc' := 25) dX4_start_23 rfl ?_
  refine a_iconst (v := nI 3) (pc' := 26) dX4_start_25 (by decide) rfl ?_
  refine a_icmp_ge (pc' := 29) (tgt := 56) dX4_start_26 (by decide) rfl (fun c_26 => absurd c_26 (by decide)) (fun c_26 => ?_)
  refine a_al_0_5 (pc' := 30) dX4_start_29 rfl ?_
  refine gf_4_4 (pc' := 33) (by omega) (by omega) fl_X4_11 dX4_start_30 rfl ?_
  refine a_il_4_5 (pc' := 35) dX4_start_33 rfl ?_
  refine aN_13 (j := 0) (pc' := 36) (by omega) (by omega) (by omega) dX4_start_35 rfl ?_
  refine k_VV (pc' := 39) (ct_X5_mend (by omega) (by omega) (by omega) _) cw_X4_36 mi_X5_mend se_X5_mend (ok5 (by omega) (by omega) (by omega)) rfl rfl rfl (by decide) (by decide) (Nat.le_of_ble_eq_true rfl) rfl dX4_start_36 rfl ?_
  refine a_al_0_5 (pc' := 40) dX4_start_39 rfl ?_
  refine gf_4_4 (pc' := 43) (by omega) (by omega) fl_X4_11 dX4_start_40 rfl ?_
  refine a_il_4_5 (pc' := 45) dX4_start_43 rfl ?_
  refine aN_13 (j := 0) (pc' := 46) (by omega) (by omega) (by omega) dX4_start_45 rfl ?_
  refine a_il_1_5 (pc' := 47) dX4_start_46 rfl ?_
  refine pf_5_0 (pc' := 50) (by omega) (by omega) (by omega) fl_X4_39 dX4_start_47 rfl ?_
  refine a_iN_4_5 (m := 1) (pc' := 53) dX4_start_50 (nI_add _ _) rfl ?_
  refine a_goto (pc' := 23) dX4_start_53 (by decide) ?_
  refine a_il_4_5 (pc' := 25) dX4_start_23 rfl ?_
  refine a_iconst (v := nI 3) (pc' := 26) dX4_start_25 (by decide) rfl ?_
  refine a_icmp_ge (pc' := 29) (tgt := 56) dX4_start_26 (by decide) rfl (fun c_26_2 => absurd c_26_2 (by decide)) (fun c_26_2 => ?_)
  refine a_al_0_5 (pc' := 30) dX4_start_29 rfl ?_
  refine gf_4_4 (pc' := 33) (by omega) (by omega) fl_X4_11 dX4_start_30 rfl ?_
  refine a_il_4_5 (pc' := 35) dX4_start_33 rfl ?_
  refine aN_13 (j := 1) (pc' := 36) (by omega) (by omega) (by omega) dX4_start_35 rfl ?_
  refine k_VV (pc' := 39) (ct_X5_mend (by omega) (by omega) (by omega) _) cw_X4_36 mi_X5_mend se_X5_mend (ok5 (by omega) (by omega) (by omega)) rfl rfl rfl (by decide) (by decide) (Nat.le_of_ble_eq_true rfl) rfl dX4_start_36 rfl ?_
  refine a_al_0_5 (pc' := 40) dX4_start_39 rfl ?_
  refine gf_4_4 (pc' := 43) (by omega) (by omega) fl_X4_11 dX4_start_40 rfl ?_
  refine a_il_4_5 (pc' := 45) dX4_start_43 rfl ?_
  refine aN_13 (j := 1) (pc' := 46) (by omega) (by omega) (by omega) dX4_start_45 rfl ?_
  refine a_il_1_5 (pc' := 47) dX4_start_46 rfl ?_
  refine pf_5_0 (pc' := 50) (by omega) (by omega) (by omega) fl_X4_39 dX4_start_47 rfl ?_
  refine a_iN_4_5 (m := 2) (pc' := 53) dX4_start_50 (nI_add _ _) rfl ?_
  refine a_goto (pc' := 23) dX4_start_53 (by decide) ?_
  refine a_il_4_5 (pc' := 25) dX4_start_23 rfl ?_
  refine a_iconst (v := nI 3) (pc' := 26) dX4_start_25 (by decide) rfl ?_
  refine a_icmp_ge (pc' := 29) (tgt := 56) dX4_start_26 (by decide) rfl (fun c_26_3 => absurd c_26_3 (by decide)) (fun c_26_3 => ?_)
  refine a_al_0_5 (pc' := 30) dX4_start_29 rfl ?_
  refine gf_4_4 (pc' := 33) (by omega) (by omega) fl_X4_11 dX4_start_30 rfl ?_
  refine a_il_4_5 (pc' := 35) dX4_start_33 rfl ?_
  refine aN_13 (j := 2) (pc' := 36) (by omega) (by omega) (by omega) dX4_start_35 rfl ?_
  refine k_VV (pc' := 39) (ct_X5_mend (by omega) (by omega) (by omega) _) cw_X4_36 mi_X5_mend se_X5_mend (ok5 (by omega) (by omega) (by omega)) rfl rfl rfl (by decide) (by decide) (Nat.le_of_ble_eq_true rfl) rfl dX4_start_36 rfl ?_
  refine a_al_0_5 (pc' := 40) dX4_start_39 rfl ?_
  refine gf_4_4 (pc' := 43) (by omega) (by omega) fl_X4_11 dX4_start_40 rfl ?_
  refine a_il_4_5 (pc' := 45) dX4_start_43 rfl ?_
  refine aN_13 (j := 2) (pc' := 46) (by omega) (by omega) (by omega) dX4_start_45 rfl ?_
  refine a_il_1_5 (pc' := 47) dX4_start_46 rfl ?_
  refine pf_5_0 (pc' := 50) (by omega) (by omega) (by omega) fl_X4_39 dX4_start_47 rfl ?_
  refine a_iN_4_5 (m := 3) (pc' := 53) dX4_start_50 (nI_add _ _) rfl ?_
  refine a_goto (pc' := 23) dX4_start_53 (by decide) ?_
  refine a_il_4_5 (pc' := 25) dX4_start_23 rfl ?_
  refine a_iconst (v := nI 3) (pc' := 26) dX4_start_25 (by decide) rfl ?_
  refine a_icmp_ge (pc' := 29) (tgt := 56) dX4_start_26 (by decide) rfl (fun c_26_4 => ?_) (fun c_26_4 => absurd (by decide) c_26_4)
  refine a_vret dX4_start_56 rfl ?_
  refine fV ?_
  simp only [wr_eq, setR_same, setR_setR] at ⊢
  rfl
set_option maxRecDepth 20000 in
set_option maxHeartbeats 4000000 in
theorem lb_X4_changeTemperatures {G : Gl} {Φ : Option OV → Mm → Prop} {q v : Nat} (hq : q < 9) (hv : v < 3) {z : Nat} (hz : z < 3) (out : Int32) (x3 : Option OV) (M : Mm) (kx : ∀ y3 : Option OV, AW G cX4_changeTemperatures RX4 4 2 43 none Φ 2 [some (.inr (4, q, v, 0)), some (.inl out), some (.inl (nI (z + 1))), y3] [] (setR M q (heatZ (M q) v z out))) : AW G cX4_changeTemperatures RX4 4 2 43 none Φ 2 [some (.inr (4, q, v, 0)), some (.inl out), some (.inl (nI z)), x3] [] M := by
  refine a_il_2_4 (pc' := 3) dX4_changeTemperatures_2 rfl ?_
  refine a_iconst (v := nI 3) (pc' := 4) dX4_changeTemperatures_3 (by decide) rfl ?_
  refine a_icmp_ge (pc' := 7) (tgt := 66) dX4_changeTemperatures_4 (by decide) rfl (fun c_4 => absurd c_4 (nI_ge (by omega) (by decide))) (fun c_4 => ?_)
  refine a_al_0_4 (pc' := 8) dX4_changeTemperatures_7 rfl ?_
  refine gf_4_4 (pc' := 11) (by omega) (by omega) fl_X4_11 dX4_changeTemperatures_8 rfl ?_
  refine a_il_2_4 (pc' := 12) dX4_changeTemperatures_11 rfl ?_
  refine aN_13 (j := z) (pc' := 13) (by omega) (by omega) (by omega) dX4_changeTemperatures_12 rfl ?_
  refine a_as_3_4 (pc' := 14) dX4_changeTemperatures_13 rfl ?_
  refine a_al_0_4 (pc' := 15) dX4_changeTemperatures_14 rfl ?_
  refine gf_4_2 (pc' := 18) (by omega) (by omega) fl_X4_25 dX4_changeTemperatures_15 rfl ?_
  refine a_if_eq (pc' := 21) (tgt := 48) dX4_changeTemperatures_18 (by decide) rfl (fun c_18 => ?_) (fun c_18 => ?_)
  · refine a_al_3_4 (pc' := 49) dX4_changeTemperatures_48 rfl ?_
    refine a_al_0_4 (pc' := 50) dX4_changeTemperatures_49 rfl ?_
    refine gf_4_0 (pc' := 53) (by omega) (by omega) fl_X4_18 dX4_changeTemperatures_50 rfl ?_
    refine a_al_0_4 (pc' := 54) dX4_changeTemperatures_53 rfl ?_
    refine gf_4_1 (pc' := 57) (by omega) (by omega) fl_X4_22 dX4_changeTemperatures_54 rfl ?_
    refine k_VV (pc' := 60) (ct_X5_coolTo (by omega) (by omega) (by omega) _ _ _) cw_X4_46 mi_X5_coolTo se_X5_coolTo (ok5 (by omega) (by omega) (by omega)) rfl rfl rfl (by decide) (by decide) (Nat.le_of_ble_eq_true rfl) rfl dX4_changeTemperatures_57 rfl ?_
    refine a_iN_2_4 (m := z + 1) (pc' := 63) dX4_changeTemperatures_60 (nI_add _ _) rfl ?_
    refine a_goto (pc' := 2) dX4_changeTemperatures_63 (by decide) ?_
    exact a_castS (rfl) (by simp [wr_eq, heatZ, heat1, c_18]) (kx (some (.inr (5, q, v, z))))
  · refine a_al_3_4 (pc' := 22) dX4_changeTemperatures_21 rfl ?_
    refine a_dup (pc' := 23) dX4_changeTemperatures_22 rfl ?_
    refine gf_5_0 (pc' := 26) (by omega) (by omega) (by omega) fl_X4_39 dX4_changeTemperatures_23 rfl ?_
    refine a_il_1_4 (pc' := 27) dX4_changeTemperatures_26 rfl ?_
    refine a_al_3_4 (pc' := 28) dX4_changeTemperatures_27 rfl ?_
    refine gf_5_0 (pc' := 31) (by omega) (by omega) (by omega) fl_X4_39 dX4_changeTemperatures_28 rfl ?_
    refine a_isub (pc' := 32) dX4_changeTemperatures_31 rfl ?_
    refine a_gets (pc' := 35) fn_X4_42 dX4_changeTemperatures_32 rfl ?_
    refine a_il_2_4 (pc' := 36) dX4_changeTemperatures_35 rfl ?_
    refine a_warmN (pc' := 37) (by omega) dX4_changeTemperatures_36 rfl ?_
    refine a_imul (pc' := 38) dX4_changeTemperatures_37 rfl ?_
    refine a_bipush (v := nI 100) (pc' := 40) dX4_changeTemperatures_38 (by decide) rfl ?_
    refine a_idiv (pc' := 41) dX4_changeTemperatures_40 (by decide) rfl ?_
    refine a_iadd (pc' := 42) dX4_changeTemperatures_41 rfl ?_
    refine pf_5_0 (pc' := 45) (by omega) (by omega) (by omega) fl_X4_39 dX4_changeTemperatures_42 rfl ?_
    refine a_goto (pc' := 60) dX4_changeTemperatures_45 (by decide) ?_
    refine a_iN_2_4 (m := z + 1) (pc' := 63) dX4_changeTemperatures_60 (nI_add _ _) rfl ?_
    refine a_goto (pc' := 2) dX4_changeTemperatures_63 (by decide) ?_
    exact a_castS (rfl) (by simp [wr_eq, heatZ, heat1, c_18]) (kx (some (.inr (5, q, v, z))))
set_option maxRecDepth 20000 in
set_option maxHeartbeats 4000000 in
theorem ct_X4_changeTemperatures {q v : Nat} (hq : q < 9) (hv : v < 3) (out : Int32) (M : Mm) : Ct yX4_changeTemperatures cX4_changeTemperatures 4 none 2 43 [.inr (4, q, v, 0), .inl out] M (RV (setR M q (heatA (M q) v out))) := by
  refine Ct.at RX4 rfl (by decide +kernel) (Nat.le_of_ble_eq_true rfl) [some (.inr (4, q, v, 0)), some (.inl out), none, none] rfl (fun G => ?_)
  refine a_iconst (v := nI 0) (pc' := 1) dX4_changeTemperatures_0 (by decide) rfl ?_
  refine a_is_2_4 (pc' := 2) dX4_changeTemperatures_1 rfl ?_
  refine lb_X4_changeTemperatures (by omega) (by omega) (z := 0) (by decide) _ _ _ (fun x3 => ?_)
  refine lb_X4_changeTemperatures (by omega) (by omega) (z := 1) (by decide) _ _ _ (fun x3 => ?_)
  refine lb_X4_changeTemperatures (by omega) (by omega) (z := 2) (by decide) _ _ _ (fun x3 => ?_)
  refine a_il_2_4 (pc' := 3) dX4_changeTemperatures_2 rfl ?_
  refine a_iconst (v := nI 3) (pc' := 4) dX4_changeTemperatures_3 (by decide) rfl ?_
  refine a_icmp_ge (pc' := 7) (tgt := 66) dX4_changeTemperatures_4 (by decide) rfl (fun c_4 => ?_) (fun c_4 => absurd (by decide) c_4)
  refine a_vret dX4_changeTemperatures_66 rfl ?_
  refine fV ?_
  simp only [setR_same, setR_setR]
  rfl
set_option maxRecDepth 20000 in
set_option maxHeartbeats 4000000 in
theorem ct_X4_mixAir {q v : Nat} (hq : q < 9) (hv : v < 3) (M : Mm) : Ct yX4_mixAir cX4_mixAir 3 none 0 0 [.inr (4, q, v, 0)] M (RV (setR M q (mixA (M q) v))) := by
  refine Ct.at RX4 rfl (by decide +kernel) (Nat.le_of_ble_eq_true rfl) [some (.inr (4, q, v, 0)), none, none] rfl (fun G => ?_)
  refine a_iconst (v := nI 0) (pc' := 1) dX4_mixAir_0 (by decide) rfl ?_
  refine a_is_1_3 (pc' := 2) dX4_mixAir_1 rfl ?_
  refine a_il_1_3 (pc' := 3) dX4_mixAir_2 rfl ?_
  refine a_iconst (v := nI 1) (pc' := 4) dX4_mixAir_3 (by decide) rfl ?_
  refine a_iaddN (pc' := 5) dX4_mixAir_4 rfl ?_
  refine a_iconst (v := nI 3) (pc' := 6) dX4_mixAir_5 (by decide) rfl ?_
  refine a_icmp_ge (pc' := 9) (tgt := 72) dX4_mixAir_6 (by decide) rfl (fun c_6 => absurd c_6 (by decide)) (fun c_6 => ?_)
  refine a_al_0_3 (pc' := 10) dX4_mixAir_9 rfl ?_
  refine gf_4_4 (pc' := 13) (by omega) (by omega) fl_X4_11 dX4_mixAir_10 rfl ?_
  refine a_il_1_3 (pc' := 14) dX4_mixAir_13 rfl ?_
  refine aN_13 (j := 0) (pc' := 15) (by omega) (by omega) (by omega) dX4_mixAir_14 rfl ?_
  refine gf_5_0 (pc' := 18) (by omega) (by omega) (by omega) fl_X4_39 dX4_mixAir_15 rfl ?_
  refine a_al_0_3 (pc' := 19) dX4_mixAir_18 rfl ?_
  refine gf_4_4 (pc' := 22) (by omega) (by omega) fl_X4_11 dX4_mixAir_19 rfl ?_
  refine a_il_1_3 (pc' := 23) dX4_mixAir_22 rfl ?_
  refine a_iconst (v := nI 1) (pc' := 24) dX4_mixAir_23 (by decide) rfl ?_
  refine a_iaddN (pc' := 25) dX4_mixAir_24 rfl ?_
  refine aN_13 (j := 1) (pc' := 26) (by omega) (by omega) (by omega) dX4_mixAir_25 rfl ?_
  refine gf_5_0 (pc' := 29) (by omega) (by omega) (by omega) fl_X4_39 dX4_mixAir_26 rfl ?_
  refine a_isub (pc' := 30) dX4_mixAir_29 rfl ?_
  refine a_bipush (v := nI 10) (pc' := 32) dX4_mixAir_30 (by decide) rfl ?_
  refine a_idiv (pc' := 33) dX4_mixAir_32 (by decide) rfl ?_
  refine a_is_2_3 (pc' := 34) dX4_mixAir_33 rfl ?_
  refine a_al_0_3 (pc' := 35) dX4_mixAir_34 rfl ?_
  refine gf_4_4 (pc' := 38) (by omega) (by omega) fl_X4_11 dX4_mixAir_35 rfl ?_
  refine a_il_1_3 (pc' := 39) dX4_mixAir_38 rfl ?_
  refine aN_13 (j := 0) (pc' := 40) (by omega) (by omega) (by omega) dX4_mixAir_39 rfl ?_
  refine a_dup (pc' := 41) dX4_mixAir_40 rfl ?_
  refine gf_5_0 (pc' := 44) (by omega) (by omega) (by omega) fl_X4_39 dX4_mixAir_41 rfl ?_
  refine a_il_2_3 (pc' := 45) dX4_mixAir_44 rfl ?_
  refine a_isub (pc' := 46) dX4_mixAir_45 rfl ?_
  refine pf_5_0 (pc' := 49) (by omega) (by omega) (by omega) fl_X4_39 dX4_mixAir_46 rfl ?_
  refine a_al_0_3 (pc' := 50) dX4_mixAir_49 rfl ?_
  refine gf_4_4 (pc' := 53) (by omega) (by omega) fl_X4_11 dX4_mixAir_50 rfl ?_
  refine a_il_1_3 (pc' := 54) dX4_mixAir_53 rfl ?_
  refine a_iconst (v := nI 1) (pc' := 55) dX4_mixAir_54 (by decide) rfl ?_
  refine a_iaddN (pc' := 56) dX4_mixAir_55 rfl ?_
  refine aN_13 (j := 1) (pc' := 57) (by omega) (by omega) (by omega) dX4_mixAir_56 rfl ?_
  refine a_dup (pc' := 58) dX4_mixAir_57 rfl ?_
  refine gf_5_0 (pc' := 61) (by omega) (by omega) (by omega) fl_X4_39 dX4_mixAir_58 rfl ?_
  refine a_il_2_3 (pc' := 62) dX4_mixAir_61 rfl ?_
  refine a_iadd (pc' := 63) dX4_mixAir_62 rfl ?_
  refine pf_5_0 (pc' := 66) (by omega) (by omega) (by omega) fl_X4_39 dX4_mixAir_63 rfl ?_
  refine a_iN_1_3 (m := 1) (pc' := 69) dX4_mixAir_66 (nI_add _ _) rfl ?_
  refine a_goto (pc' := 2) dX4_mixAir_69 (by decide) ?_
  refine a_il_1_3 (pc' := 3) dX4_mixAir_2 rfl ?_
  refine a_iconst (v := nI 1) (pc' := 4) dX4_mixAir_3 (by decide) rfl ?_
  refine a_iaddN (pc' := 5) dX4_mixAir_4 rfl ?_
  refine a_iconst (v := nI 3) (pc' := 6) dX4_mixAir_5 (by decide) rfl ?_
  refine a_icmp_ge (pc' := 9) (tgt := 72) dX4_mixAir_6 (by decide) rfl (fun c_6_2 => absurd c_6_2 (by decide)) (fun c_6_2 => ?_)
  refine a_al_0_3 (pc' := 10) dX4_mixAir_9 rfl ?_
  refine gf_4_4 (pc' := 13) (by omega) (by omega) fl_X4_11 dX4_mixAir_10 rfl ?_
  refine a_il_1_3 (pc' := 14) dX4_mixAir_13 rfl ?_
  refine aN_13 (j := 1) (pc' := 15) (by omega) (by omega) (by omega) dX4_mixAir_14 rfl ?_
  refine gf_5_0 (pc' := 18) (by omega) (by omega) (by omega) fl_X4_39 dX4_mixAir_15 rfl ?_
  refine a_al_0_3 (pc' := 19) dX4_mixAir_18 rfl ?_
  refine gf_4_4 (pc' := 22) (by omega) (by omega) fl_X4_11 dX4_mixAir_19 rfl ?_
  refine a_il_1_3 (pc' := 23) dX4_mixAir_22 rfl ?_
  refine a_iconst (v := nI 1) (pc' := 24) dX4_mixAir_23 (by decide) rfl ?_
  refine a_iaddN (pc' := 25) dX4_mixAir_24 rfl ?_
  refine aN_13 (j := 2) (pc' := 26) (by omega) (by omega) (by omega) dX4_mixAir_25 rfl ?_
  refine gf_5_0 (pc' := 29) (by omega) (by omega) (by omega) fl_X4_39 dX4_mixAir_26 rfl ?_
  refine a_isub (pc' := 30) dX4_mixAir_29 rfl ?_
  refine a_bipush (v := nI 10) (pc' := 32) dX4_mixAir_30 (by decide) rfl ?_
  refine a_idiv (pc' := 33) dX4_mixAir_32 (by decide) rfl ?_
  refine a_is_2_3 (pc' := 34) dX4_mixAir_33 rfl ?_
  refine a_al_0_3 (pc' := 35) dX4_mixAir_34 rfl ?_
  refine gf_4_4 (pc' := 38) (by omega) (by omega) fl_X4_11 dX4_mixAir_35 rfl ?_
  refine a_il_1_3 (pc' := 39) dX4_mixAir_38 rfl ?_
  refine aN_13 (j := 1) (pc' := 40) (by omega) (by omega) (by omega) dX4_mixAir_39 rfl ?_
  refine a_dup (pc' := 41) dX4_mixAir_40 rfl ?_
  refine gf_5_0 (pc' := 44) (by omega) (by omega) (by omega) fl_X4_39 dX4_mixAir_41 rfl ?_
  refine a_il_2_3 (pc' := 45) dX4_mixAir_44 rfl ?_
  refine a_isub (pc' := 46) dX4_mixAir_45 rfl ?_
  refine pf_5_0 (pc' := 49) (by omega) (by omega) (by omega) fl_X4_39 dX4_mixAir_46 rfl ?_
  refine a_al_0_3 (pc' := 50) dX4_mixAir_49 rfl ?_
  refine gf_4_4 (pc' := 53) (by omega) (by omega) fl_X4_11 dX4_mixAir_50 rfl ?_
  refine a_il_1_3 (pc' := 54) dX4_mixAir_53 rfl ?_
  refine a_iconst (v := nI 1) (pc' := 55) dX4_mixAir_54 (by decide) rfl ?_
  refine a_iaddN (pc' := 56) dX4_mixAir_55 rfl ?_
  refine aN_13 (j := 2) (pc' := 57) (by omega) (by omega) (by omega) dX4_mixAir_56 rfl ?_
  refine a_dup (pc' := 58) dX4_mixAir_57 rfl ?_
  refine gf_5_0 (pc' := 61) (by omega) (by omega) (by omega) fl_X4_39 dX4_mixAir_58 rfl ?_
  refine a_il_2_3 (pc' := 62) dX4_mixAir_61 rfl ?_
  refine a_iadd (pc' := 63) dX4_mixAir_62 rfl ?_
  refine pf_5_0 (pc' := 66) (by omega) (by omega) (by omega) fl_X4_39 dX4_mixAir_63 rfl ?_
  refine a_iN_1_3 (m := 2) (pc' := 69) dX4_mixAir_66 (nI_add _ _) rfl ?_
  refine a_goto (pc' := 2) dX4_mixAir_69 (by decide) ?_
  refine a_il_1_3 (pc' := 3) dX4_mixAir_2 rfl ?_
  refine a_iconst (v := nI 1) (pc' := 4) dX4_mixAir_3 (by decide) rfl ?_
  refine a_iaddN (pc' := 5) dX4_mixAir_4 rfl ?_
  refine a_iconst (v := nI 3) (pc' := 6) dX4_mixAir_5 (by decide) rfl ?_
  refine a_icmp_ge (pc' := 9) (tgt := 72) dX4_mixAir_6 (by decide) rfl (fun c_6_3 => ?_) (fun c_6_3 => absurd (by decide) c_6_3)
  refine a_vret dX4_mixAir_72 rfl ?_
  refine fV ?_
  simp only [wr_eq, setR_same, setR_setR] at ⊢
  simp [mixA, mix1, mixd, upd]
set_option maxRecDepth 20000 in
set_option maxHeartbeats 4000000 in
theorem lb_X4_findProbes {G : Gl} {Φ : Option OV → Mm → Prop} {q v : Nat} (hq : q < 9) (hv : v < 3) {z : Nat} (hz : z < 3) (d p n : Int32) (x5 : Option OV) (M : Mm) (kx : ∀ y5 : Option OV, AW G cX4_findProbes RX4 6 2 45 (some .int) Φ 5 [some (.inr (4, q, v, 0)), some (.inl d), some (.inl p), some (.inl (fndN (M q) v z d p n)), some (.inl (nI (z + 1))), y5] [] (setR M q (find1 (M q) v z d p))) : AW G cX4_findProbes RX4 6 2 45 (some .int) Φ 5 [some (.inr (4, q, v, 0)), some (.inl d), some (.inl p), some (.inl n), some (.inl (nI z)), x5] [] M := by
  refine a_il_4_6 (pc' := 7) dX4_findProbes_5 rfl ?_
  refine a_iconst (v := nI 3) (pc' := 8) dX4_findProbes_7 (by decide) rfl ?_
  refine a_icmp_ge (pc' := 11) (tgt := 78) dX4_findProbes_8 (by decide) rfl (fun c_8 => absurd c_8 (nI_ge (by omega) (by decide))) (fun c_8 => ?_)
  refine a_al_0_6 (pc' := 12) dX4_findProbes_11 rfl ?_
  refine gf_4_4 (pc' := 15) (by omega) (by omega) fl_X4_11 dX4_findProbes_12 rfl ?_
  refine a_il_4_6 (pc' := 17) dX4_findProbes_15 rfl ?_
  refine aN_13 (j := z) (pc' := 18) (by omega) (by omega) (by omega) dX4_findProbes_17 rfl ?_
  refine a_as_5_6 (pc' := 20) dX4_findProbes_18 rfl ?_
  refine a_al_5_6 (pc' := 22) dX4_findProbes_20 rfl ?_
  refine a_al_0_6 (pc' := 23) dX4_findProbes_22 rfl ?_
  refine a_il_4_6 (pc' := 25) dX4_findProbes_23 rfl ?_
  refine a_il_1_6 (pc' := 26) dX4_findProbes_25 rfl ?_
  refine k_VI (pc' := 29) (ct_X4_isOdd (by omega) (by omega) (by omega) _ _) cw_X4_50 mi_X4_isOdd se_X4_isOdd (ok4 (by omega) (by omega)) rfl rfl rfl (by decide) (by decide) (Nat.le_of_ble_eq_true rfl) rfl dX4_findProbes_26 rfl ?_
  refine a_ifB_eq (pc' := 32) (tgt := 42) dX4_findProbes_29 (by decide) rfl (fun c_29 => ?_) (fun c_29 => ?_)
  · refine a_iconst (v := nI 0) (pc' := 43) dX4_findProbes_42 (by decide) rfl ?_
    refine pf_5_4 (pc' := 46) (by omega) (by omega) (by omega) fl_X4_54 dX4_findProbes_43 rfl ?_
    refine a_al_5_6 (pc' := 48) dX4_findProbes_46 rfl ?_
    refine gf_5_4 (pc' := 51) (by omega) (by omega) (by omega) fl_X4_54 dX4_findProbes_48 rfl ?_
    refine a_il_2_6 (pc' := 52) dX4_findProbes_51 rfl ?_
    refine a_icmp_lt (pc' := 55) (tgt := 72) dX4_findProbes_52 (by decide) rfl (fun c_52 => ?_) (fun c_52 => ?_)
    · refine a_iN_4_6 (m := z + 1) (pc' := 75) dX4_findProbes_72 (nI_add _ _) rfl ?_
      refine a_goto (pc' := 5) dX4_findProbes_75 (by decide) ?_
      exact a_castS (by simp [wr_eq, setR_same, upd, oddN, c_29] at c_52; simp [fndN, fndB, oddN, c_29, c_52]) (by simp [wr_eq, setR_same, upd, oddN, c_29] at c_52; simp [wr_eq, setR_same, setR_setR, find1, fndB, oddN, c_29, c_52]) (kx (some (.inr (5, q, v, z))))
    · refine a_al_5_6 (pc' := 57) dX4_findProbes_55 rfl ?_
      refine gf_5_3 (pc' := 60) (by omega) (by omega) (by omega) fl_X4_57 dX4_findProbes_57 rfl ?_
      refine a_if_ne (pc' := 63) (tgt := 72) dX4_findProbes_60 (by decide) rfl (fun c_60 => ?_) (fun c_60 => ?_)
      · refine a_iN_4_6 (m := z + 1) (pc' := 75) dX4_findProbes_72 (nI_add _ _) rfl ?_
        refine a_goto (pc' := 5) dX4_findProbes_75 (by decide) ?_
        exact a_castS (by simp [wr_eq, setR_same, upd, oddN, c_29] at c_52 c_60; simp [fndN, fndB, oddN, c_29, c_52, c_60]) (by simp [wr_eq, setR_same, upd, oddN, c_29] at c_52 c_60; simp [wr_eq, setR_same, setR_setR, find1, fndB, oddN, c_29, c_52, c_60]) (kx (some (.inr (5, q, v, z))))
      · refine a_al_5_6 (pc' := 65) dX4_findProbes_63 rfl ?_
        refine a_iconst (v := nI 1) (pc' := 66) dX4_findProbes_65 (by decide) rfl ?_
        refine pf_5_3 (pc' := 69) (by omega) (by omega) (by omega) (Or.inr rfl) fl_X4_57 dX4_findProbes_66 rfl ?_
        refine a_in_3_6 (c9 := nI 1) (pc' := 72) dX4_findProbes_69 (by decide) rfl ?_
        refine a_iN_4_6 (m := z + 1) (pc' := 75) dX4_findProbes_72 (nI_add _ _) rfl ?_
        refine a_goto (pc' := 5) dX4_findProbes_75 (by decide) ?_
        exact a_castS (by simp [wr_eq, setR_same, upd, oddN, c_29] at c_52 c_60; simp [fndN, fndB, oddN, c_29, c_52, c_60]) (by simp [wr_eq, setR_same, upd, oddN, c_29] at c_52 c_60; simp [wr_eq, setR_same, setR_setR, find1, fndB, oddN, c_29, c_52, c_60]) (kx (some (.inr (5, q, v, z))))
  · refine a_al_5_6 (pc' := 34) dX4_findProbes_32 rfl ?_
    refine gf_5_4 (pc' := 37) (by omega) (by omega) (by omega) fl_X4_54 dX4_findProbes_34 rfl ?_
    refine a_iconst (v := nI 1) (pc' := 38) dX4_findProbes_37 (by decide) rfl ?_
    refine a_iadd (pc' := 39) dX4_findProbes_38 rfl ?_
    refine a_goto (pc' := 43) dX4_findProbes_39 (by decide) ?_
    refine pf_5_4 (pc' := 46) (by omega) (by omega) (by omega) fl_X4_54 dX4_findProbes_43 rfl ?_
    refine a_al_5_6 (pc' := 48) dX4_findProbes_46 rfl ?_
    refine gf_5_4 (pc' := 51) (by omega) (by omega) (by omega) fl_X4_54 dX4_findProbes_48 rfl ?_
    refine a_il_2_6 (pc' := 52) dX4_findProbes_51 rfl ?_
    refine a_icmp_lt (pc' := 55) (tgt := 72) dX4_findProbes_52 (by decide) rfl (fun c_52_2 => ?_) (fun c_52_2 => ?_)
    · refine a_iN_4_6 (m := z + 1) (pc' := 75) dX4_findProbes_72 (nI_add _ _) rfl ?_
      refine a_goto (pc' := 5) dX4_findProbes_75 (by decide) ?_
      exact a_castS (by simp [wr_eq, setR_same, upd, oddN, c_29] at c_52_2; simp [fndN, fndB, oddN, c_29, c_52_2]) (by simp [wr_eq, setR_same, upd, oddN, c_29] at c_52_2; simp [wr_eq, setR_same, setR_setR, find1, fndB, oddN, c_29, c_52_2]) (kx (some (.inr (5, q, v, z))))
    · refine a_al_5_6 (pc' := 57) dX4_findProbes_55 rfl ?_
      refine gf_5_3 (pc' := 60) (by omega) (by omega) (by omega) fl_X4_57 dX4_findProbes_57 rfl ?_
      refine a_if_ne (pc' := 63) (tgt := 72) dX4_findProbes_60 (by decide) rfl (fun c_60_2 => ?_) (fun c_60_2 => ?_)
      · refine a_iN_4_6 (m := z + 1) (pc' := 75) dX4_findProbes_72 (nI_add _ _) rfl ?_
        refine a_goto (pc' := 5) dX4_findProbes_75 (by decide) ?_
        exact a_castS (by simp [wr_eq, setR_same, upd, oddN, c_29] at c_52_2 c_60_2; simp [fndN, fndB, oddN, c_29, c_52_2, c_60_2]) (by simp [wr_eq, setR_same, upd, oddN, c_29] at c_52_2 c_60_2; simp [wr_eq, setR_same, setR_setR, find1, fndB, oddN, c_29, c_52_2, c_60_2]) (kx (some (.inr (5, q, v, z))))
      · refine a_al_5_6 (pc' := 65) dX4_findProbes_63 rfl ?_
        refine a_iconst (v := nI 1) (pc' := 66) dX4_findProbes_65 (by decide) rfl ?_
        refine pf_5_3 (pc' := 69) (by omega) (by omega) (by omega) (Or.inr rfl) fl_X4_57 dX4_findProbes_66 rfl ?_
        refine a_in_3_6 (c9 := nI 1) (pc' := 72) dX4_findProbes_69 (by decide) rfl ?_
        refine a_iN_4_6 (m := z + 1) (pc' := 75) dX4_findProbes_72 (nI_add _ _) rfl ?_
        refine a_goto (pc' := 5) dX4_findProbes_75 (by decide) ?_
        exact a_castS (by simp [wr_eq, setR_same, upd, oddN, c_29] at c_52_2 c_60_2; simp [fndN, fndB, oddN, c_29, c_52_2, c_60_2]) (by simp [wr_eq, setR_same, upd, oddN, c_29] at c_52_2 c_60_2; simp [wr_eq, setR_same, setR_setR, find1, fndB, oddN, c_29, c_52_2, c_60_2]) (kx (some (.inr (5, q, v, z))))
set_option maxRecDepth 20000 in
set_option maxHeartbeats 4000000 in
theorem ct_X4_findProbes {q v : Nat} (hq : q < 9) (hv : v < 3) (d p : Int32) (M : Mm) : Ct yX4_findProbes cX4_findProbes 6 (some .int) 2 45 [.inr (4, q, v, 0), .inl d, .inl p] M (RI (fndA (M q) v d p) (setR M q (findA (M q) v d p))) := by
  refine Ct.at RX4 rfl (by decide +kernel) (Nat.le_of_ble_eq_true rfl) [some (.inr (4, q, v, 0)), some (.inl d), some (.inl p), none, none, none] rfl (fun G => ?_)
  refine a_iconst (v := nI 0) (pc' := 1) dX4_findProbes_0 (by decide) rfl ?_
  refine a_is_3_6 (pc' := 2) dX4_findProbes_1 rfl ?_
  refine a_iconst (v := nI 0) (pc' := 3) dX4_findProbes_2 (by decide) rfl ?_
  refine a_is_4_6 (pc' := 5) dX4_findProbes_3 rfl ?_
  refine lb_X4_findProbes (by omega) (by omega) (z := 0) (by decide) _ _ _ _ _ (fun x5 => ?_)
  refine lb_X4_findProbes (by omega) (by omega) (z := 1) (by decide) _ _ _ _ _ (fun x5 => ?_)
  refine lb_X4_findProbes (by omega) (by omega) (z := 2) (by decide) _ _ _ _ _ (fun x5 => ?_)
  refine a_il_4_6 (pc' := 7) dX4_findProbes_5 rfl ?_
  refine a_iconst (v := nI 3) (pc' := 8) dX4_findProbes_7 (by decide) rfl ?_
  refine a_icmp_ge (pc' := 11) (tgt := 78) dX4_findProbes_8 (by decide) rfl (fun c_8 => ?_) (fun c_8 => absurd (by decide) c_8)
  refine a_il_3_6 (pc' := 79) dX4_findProbes_78 rfl ?_
  refine a_iret dX4_findProbes_79 rfl rfl ?_
  refine fIM ?_ ?_
  · simp only [setR_same, setR_setR]; rfl
  · simp only [setR_same, setR_setR]; rfl
set_option maxRecDepth 20000 in
set_option maxHeartbeats 4000000 in
theorem ct_X1_addMinute {q p v z : Nat} (hq : q < 9) (hp : p < 12) (hv : v < 3) (hz : z < 3) (M : Mm) (hzp : M q (63 + 10 * p + 1) = nI z) : Ct yX1_addMinute cX1_addMinute 2 none 2 45 [.inr (1, q, p, 0), .inr (4, q, v, 0)] M (RV (setR M q (addP (M q) v p z))) := by
  refine Ct.at RX1 rfl (by decide +kernel) (Nat.le_of_ble_eq_true rfl) [some (.inr (1, q, p, 0)), some (.inr (4, q, v, 0))] rfl (fun G => ?_)
  refine a_al_1_2 (pc' := 1) dX1_addMinute_0 rfl ?_
  refine gf_4_4 (pc' := 4) (by omega) (by omega) fl_X1_42 dX1_addMinute_1 rfl ?_
  refine a_al_0_2 (pc' := 5) dX1_addMinute_4 rfl ?_
  refine gf_1_1 (pc' := 8) (by omega) (by omega) fl_X1_15 dX1_addMinute_5 rfl ?_
  rw [hzp]
  refine aN_13 (j := z) (pc' := 9) (by omega) (by omega) (by omega) dX1_addMinute_8 rfl ?_
  refine gf_5_0 (pc' := 12) (by omega) (by omega) (by omega) fl_X1_48 dX1_addMinute_9 rfl ?_
  refine a_al_0_2 (pc' := 13) dX1_addMinute_12 rfl ?_
  refine gf_1_2 (pc' := 16) (by omega) (by omega) fl_X1_18 dX1_addMinute_13 rfl ?_
  refine a_icmp_le (pc' := 19) (tgt := 49) dX1_addMinute_16 (by decide) rfl (fun c_16 => ?_) (fun c_16 => ?_)
  · refine a_al_1_2 (pc' := 50) dX1_addMinute_49 rfl ?_
    refine a_al_0_2 (pc' := 51) dX1_addMinute_50 rfl ?_
    refine gf_1_1 (pc' := 54) (by omega) (by omega) fl_X1_15 dX1_addMinute_51 rfl ?_
    rw [hzp]
    refine k_VI (pc' := 57) (ct_X4_toldIn (by omega) (by omega) (by omega) _) cw_X1_57 mi_X4_toldIn se_X4_toldIn (ok4 (by omega) (by omega)) rfl rfl rfl (by decide) (by decide) (Nat.le_of_ble_eq_true rfl) rfl dX1_addMinute_54 rfl ?_
    refine a_al_0_2 (pc' := 58) dX1_addMinute_57 rfl ?_
    refine gf_1_2 (pc' := 61) (by omega) (by omega) fl_X1_18 dX1_addMinute_58 rfl ?_
    refine a_icmp_le (pc' := 64) (tgt := 74) dX1_addMinute_61 (by decide) rfl (fun c_61 => ?_) (fun c_61 => ?_)
    · refine a_vret dX1_addMinute_74 rfl ?_
      refine fV ?_
      try simp [wr_eq, setR_same, setR_setR, upd, -Int32.not_le, -Int32.not_lt] at c_16 c_61
      simp [wr_eq, setR_same, setR_setR, setR_self, addP, tellP, warmP, upd, -Int32.not_le, -Int32.not_lt, c_16, c_61]
    · refine a_al_0_2 (pc' := 65) dX1_addMinute_64 rfl ?_
      refine a_dup (pc' := 66) dX1_addMinute_65 rfl ?_
      refine gf_1_8 (pc' := 69) (by omega) (by omega) fl_X1_36 dX1_addMinute_66 rfl ?_
      refine a_iconst (v := nI 1) (pc' := 70) dX1_addMinute_69 (by decide) rfl ?_
      refine a_iadd (pc' := 71) dX1_addMinute_70 rfl ?_
      refine pf_1_8 (pc' := 74) (by omega) (by omega) fl_X1_36 dX1_addMinute_71 rfl ?_
      refine a_vret dX1_addMinute_74 rfl ?_
      refine fV ?_
      try simp [wr_eq, setR_same, setR_setR, upd, -Int32.not_le, -Int32.not_lt] at c_16 c_61
      simp [wr_eq, setR_same, setR_setR, setR_self, addP, tellP, warmP, upd, -Int32.not_le, -Int32.not_lt, c_16, c_61]
  · refine a_al_1_2 (pc' := 20) dX1_addMinute_19 rfl ?_
    refine gf_4_2 (pc' := 23) (by omega) (by omega) fl_X1_53 dX1_addMinute_20 rfl ?_
    refine a_if_eq (pc' := 26) (tgt := 39) dX1_addMinute_23 (by decide) rfl (fun c_23 => ?_) (fun c_23 => ?_)
    · refine a_al_0_2 (pc' := 40) dX1_addMinute_39 rfl ?_
      refine a_dup (pc' := 41) dX1_addMinute_40 rfl ?_
      refine gf_1_7 (pc' := 44) (by omega) (by omega) fl_X1_33 dX1_addMinute_41 rfl ?_
      refine a_iconst (v := nI 1) (pc' := 45) dX1_addMinute_44 (by decide) rfl ?_
      refine a_iadd (pc' := 46) dX1_addMinute_45 rfl ?_
      refine pf_1_7 (pc' := 49) (by omega) (by omega) fl_X1_33 dX1_addMinute_46 rfl ?_
      refine a_al_1_2 (pc' := 50) dX1_addMinute_49 rfl ?_
      refine a_al_0_2 (pc' := 51) dX1_addMinute_50 rfl ?_
      refine gf_1_1 (pc' := 54) (by omega) (by omega) fl_X1_15 dX1_addMinute_51 rfl ?_
      simp only [wr_eq, setR_same, upd_at]
      rw [if_neg (by omega), hzp]
      refine k_VI (pc' := 57) (ct_X4_toldIn (by omega) (by omega) (by omega) _) cw_X1_57 mi_X4_toldIn se_X4_toldIn (ok4 (by omega) (by omega)) rfl rfl rfl (by decide) (by decide) (Nat.le_of_ble_eq_true rfl) rfl dX1_addMinute_54 rfl ?_
      refine a_al_0_2 (pc' := 58) dX1_addMinute_57 rfl ?_
      refine gf_1_2 (pc' := 61) (by omega) (by omega) fl_X1_18 dX1_addMinute_58 rfl ?_
      refine a_icmp_le (pc' := 64) (tgt := 74) dX1_addMinute_61 (by decide) rfl (fun c_61_2 => ?_) (fun c_61_2 => ?_)
      · refine a_vret dX1_addMinute_74 rfl ?_
        refine fV ?_
        try simp [wr_eq, setR_same, setR_setR, upd, -Int32.not_le, -Int32.not_lt] at c_16 c_23 c_61_2
        simp [wr_eq, setR_same, setR_setR, setR_self, addP, tellP, warmP, upd, -Int32.not_le, -Int32.not_lt, c_16, c_23, c_61_2]
      · refine a_al_0_2 (pc' := 65) dX1_addMinute_64 rfl ?_
        refine a_dup (pc' := 66) dX1_addMinute_65 rfl ?_
        refine gf_1_8 (pc' := 69) (by omega) (by omega) fl_X1_36 dX1_addMinute_66 rfl ?_
        refine a_iconst (v := nI 1) (pc' := 70) dX1_addMinute_69 (by decide) rfl ?_
        refine a_iadd (pc' := 71) dX1_addMinute_70 rfl ?_
        refine pf_1_8 (pc' := 74) (by omega) (by omega) fl_X1_36 dX1_addMinute_71 rfl ?_
        refine a_vret dX1_addMinute_74 rfl ?_
        refine fV ?_
        try simp [wr_eq, setR_same, setR_setR, upd, -Int32.not_le, -Int32.not_lt] at c_16 c_23 c_61_2
        simp [wr_eq, setR_same, setR_setR, setR_self, addP, tellP, warmP, upd, -Int32.not_le, -Int32.not_lt, c_16, c_23, c_61_2]
    · refine a_al_0_2 (pc' := 27) dX1_addMinute_26 rfl ?_
      refine a_dup (pc' := 28) dX1_addMinute_27 rfl ?_
      refine gf_1_6 (pc' := 31) (by omega) (by omega) fl_X1_30 dX1_addMinute_28 rfl ?_
      refine a_iconst (v := nI 1) (pc' := 32) dX1_addMinute_31 (by decide) rfl ?_
      refine a_iadd (pc' := 33) dX1_addMinute_32 rfl ?_
      refine pf_1_6 (pc' := 36) (by omega) (by omega) fl_X1_30 dX1_addMinute_33 rfl ?_
      refine a_goto (pc' := 49) dX1_addMinute_36 (by decide) ?_
      refine a_al_1_2 (pc' := 50) dX1_addMinute_49 rfl ?_
      refine a_al_0_2 (pc' := 51) dX1_addMinute_50 rfl ?_
      refine gf_1_1 (pc' := 54) (by omega) (by omega) fl_X1_15 dX1_addMinute_51 rfl ?_
      simp only [wr_eq, setR_same, upd_at]
      rw [if_neg (by omega), hzp]
      refine k_VI (pc' := 57) (ct_X4_toldIn (by omega) (by omega) (by omega) _) cw_X1_57 mi_X4_toldIn se_X4_toldIn (ok4 (by omega) (by omega)) rfl rfl rfl (by decide) (by decide) (Nat.le_of_ble_eq_true rfl) rfl dX1_addMinute_54 rfl ?_
      refine a_al_0_2 (pc' := 58) dX1_addMinute_57 rfl ?_
      refine gf_1_2 (pc' := 61) (by omega) (by omega) fl_X1_18 dX1_addMinute_58 rfl ?_
      refine a_icmp_le (pc' := 64) (tgt := 74) dX1_addMinute_61 (by decide) rfl (fun c_61_3 => ?_) (fun c_61_3 => ?_)
      · refine a_vret dX1_addMinute_74 rfl ?_
        refine fV ?_
        try simp [wr_eq, setR_same, setR_setR, upd, -Int32.not_le, -Int32.not_lt] at c_16 c_23 c_61_3
        simp [wr_eq, setR_same, setR_setR, setR_self, addP, tellP, warmP, upd, -Int32.not_le, -Int32.not_lt, c_16, c_23, c_61_3]
      · refine a_al_0_2 (pc' := 65) dX1_addMinute_64 rfl ?_
        refine a_dup (pc' := 66) dX1_addMinute_65 rfl ?_
        refine gf_1_8 (pc' := 69) (by omega) (by omega) fl_X1_36 dX1_addMinute_66 rfl ?_
        refine a_iconst (v := nI 1) (pc' := 70) dX1_addMinute_69 (by decide) rfl ?_
        refine a_iadd (pc' := 71) dX1_addMinute_70 rfl ?_
        refine pf_1_8 (pc' := 74) (by omega) (by omega) fl_X1_36 dX1_addMinute_71 rfl ?_
        refine a_vret dX1_addMinute_74 rfl ?_
        refine fV ?_
        try simp [wr_eq, setR_same, setR_setR, upd, -Int32.not_le, -Int32.not_lt] at c_16 c_23 c_61_3
        simp [wr_eq, setR_same, setR_setR, setR_self, addP, tellP, warmP, upd, -Int32.not_le, -Int32.not_lt, c_16, c_23, c_61_3]
