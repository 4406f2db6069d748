set_option maxRecDepth 20000 in
set_option maxHeartbeats 4000000 in
theorem ct_X6_noteState {fr : Nat} (hfr : fr < 7) (M : Mm) (hf : M 20 0 = nI fr) (hB : BoolOK (M 0)) : Ct yX6_noteState cX6_noteState 1 none 3 65 [.inr (6, 0, 0, 0)] M (RV (ntM M)) := by
  refine Ct.at RX6 rfl (by decide +kernel) (Nat.le_of_ble_eq_true rfl) [some (.inr (6, 0, 0, 0))] rfl (fun G => ?_)
  refine a_al_0_1 (pc' := 1) dX6_noteState_0 rfl ?_
  refine gf_6_2 (pc' := 4) fl_X6_19 dX6_noteState_1 rfl ?_
  refine a_al_0_1 (pc' := 5) dX6_noteState_4 rfl ?_
  refine gf_6_3 (pc' := 8) fl_X6_101 dX6_noteState_5 rfl ?_
  rw [hf]
  refine aN_11 (j := fr) (pc' := 9) (by omega) dX6_noteState_8 rfl ?_
  refine a_al_0_1 (pc' := 10) dX6_noteState_9 rfl ?_
  refine gf_6_0 (pc' := 13) fl_X6_10 dX6_noteState_10 rfl ?_
  refine k_VV (pc' := 16) (ct_X3_copyFrom (q := 2 + fr) (q' := 0) (by omega) (by decide) (by omega) _ hB) cw_X6_104 mi_X3_copyFrom se_X3_copyFrom (ok3 (by omega)) rfl rfl rfl (by decide) (by decide) (Nat.le_of_ble_eq_true rfl) rfl dX6_noteState_13 rfl ?_
  refine a_vret dX6_noteState_16 rfl ?_
  refine fV ?_
  unfold ntM
  rw [hf, vN_nI (by omega)]
set_option maxRecDepth 20000 in
set_option maxHeartbeats 4000000 in
theorem ct_X6_kept (r : Int32) (M : Mm) : Ct yX6_kept cX6_kept 2 (some .int) 1 21 [.inr (6, 0, 0, 0), .inl r] M (RI r (ktM M r)) := by
  refine Ct.at RX6 rfl (by decide +kernel) (Nat.le_of_ble_eq_true rfl) [some (.inr (6, 0, 0, 0)), some (.inl r)] rfl (fun G => ?_)
  refine a_il_1_2 (pc' := 1) dX6_kept_0 rfl ?_
  refine k_SI (pc' := 4) (ct_X6_isError _ _) cw_X6_97 ms_X6_isError rfl (by decide) (by decide) (Nat.le_of_ble_eq_true rfl) rfl dX6_kept_1 rfl ?_
  refine a_ifB_ne (pc' := 7) (tgt := 45) dX6_kept_4 (by decide) rfl (fun c_4 => ?_) (fun c_4 => ?_)
  · refine a_il_1_2 (pc' := 46) dX6_kept_45 rfl ?_
    refine a_iret dX6_kept_46 rfl rfl ?_
    refine fIM rfl ?_
    simp [ktM, ktF, wr_eq, setR_same, setR_setR, upd_at, c_4]
  · refine a_al_0_2 (pc' := 8) dX6_kept_7 rfl ?_
    refine a_al_0_2 (pc' := 9) dX6_kept_8 rfl ?_
    refine gf_6_3 (pc' := 12) fl_X6_101 dX6_kept_9 rfl ?_
    refine a_bipush (v := nI 6) (pc' := 14) dX6_kept_12 (by decide) rfl ?_
    refine a_icmp_ne (pc' := 17) (tgt := 21) dX6_kept_14 (by decide) rfl (fun c_14 => ?_) (fun c_14 => ?_)
    · refine a_al_0_2 (pc' := 22) dX6_kept_21 rfl ?_
      refine gf_6_3 (pc' := 25) fl_X6_101 dX6_kept_22 rfl ?_
      refine a_iconst (v := nI 1) (pc' := 26) dX6_kept_25 (by decide) rfl ?_
      refine a_iadd (pc' := 27) dX6_kept_26 rfl ?_
      refine pf_6_3 (pc' := 30) fl_X6_101 dX6_kept_27 rfl ?_
      refine a_al_0_2 (pc' := 31) dX6_kept_30 rfl ?_
      refine a_al_0_2 (pc' := 32) dX6_kept_31 rfl ?_
      refine gf_6_4 (pc' := 35) fl_X6_127 dX6_kept_32 rfl ?_
      refine a_iconst (v := nI 1) (pc' := 36) dX6_kept_35 (by decide) rfl ?_
      refine a_iadd (pc' := 37) dX6_kept_36 rfl ?_
      refine a_bipush (v := nI 6) (pc' := 39) dX6_kept_37 (by decide) rfl ?_
      refine k_SI (pc' := 42) (ct_J9_min_7cf53 _ _ _) cw_X6_217 ms_J9_min_7cf53 rfl (by decide) (by decide) (Nat.le_of_ble_eq_true rfl) rfl dX6_kept_39 rfl ?_
      refine pf_6_4 (pc' := 45) fl_X6_127 dX6_kept_42 rfl ?_
      refine a_il_1_2 (pc' := 46) dX6_kept_45 rfl ?_
      refine a_iret dX6_kept_46 rfl rfl ?_
      refine fIM rfl ?_
      simp [ktM, ktF, wr_eq, setR_same, setR_setR, upd_at, c_4, c_14]
    · refine a_iconst (v := nI 0) (pc' := 18) dX6_kept_17 (by decide) rfl ?_
      refine a_goto (pc' := 27) dX6_kept_18 (by decide) ?_
      refine pf_6_3 (pc' := 30) fl_X6_101 dX6_kept_27 rfl ?_
      refine a_al_0_2 (pc' := 31) dX6_kept_30 rfl ?_
      refine a_al_0_2 (pc' := 32) dX6_kept_31 rfl ?_
      refine gf_6_4 (pc' := 35) fl_X6_127 dX6_kept_32 rfl ?_
      refine a_iconst (v := nI 1) (pc' := 36) dX6_kept_35 (by decide) rfl ?_
      refine a_iadd (pc' := 37) dX6_kept_36 rfl ?_
      refine a_bipush (v := nI 6) (pc' := 39) dX6_kept_37 (by decide) rfl ?_
      refine k_SI (pc' := 42) (ct_J9_min_7cf53 _ _ _) cw_X6_217 ms_J9_min_7cf53 rfl (by decide) (by decide) (Nat.le_of_ble_eq_true rfl) rfl dX6_kept_39 rfl ?_
      refine pf_6_4 (pc' := 45) fl_X6_127 dX6_kept_42 rfl ?_
      refine a_il_1_2 (pc' := 46) dX6_kept_45 rfl ?_
      refine a_iret dX6_kept_46 rfl rfl ?_
      refine fIM rfl ?_
      simp [ktM, ktF, wr_eq, setR_same, setR_setR, upd_at, c_4, c_14]
set_option maxRecDepth 20000 in
set_option maxHeartbeats 4000000 in
theorem ct_X6_addVan {fr : Nat} (hfr : fr < 7) {nv : Nat} (hn : nv ≤ 3) (sp c : Int32) (M : Mm) (hf : M 20 0 = nI fr) (hB : BoolOK (M 0)) (h0 : M 0 0 = nI nv) : Ct yX6_addVan cX6_addVan 3 (some .int) 4 85 [.inr (6, 0, 0, 0), .inl sp, .inl c] M (RI (newR (M 0) sp c) (edM M (newR (M 0) sp c) (newF (M 0) sp c))) := by
  refine Ct.at RX6 rfl (by decide +kernel) (Nat.le_of_ble_eq_true rfl) [some (.inr (6, 0, 0, 0)), some (.inl sp), some (.inl c)] rfl (fun G => ?_)
  refine a_al_0_3 (pc' := 1) dX6_addVan_0 rfl ?_
  refine k_VV (pc' := 4) (ct_X6_noteState (by omega) _ (by assumption) (by assumption)) cw_X6_37 mi_X6_noteState se_X6_noteState rfl rfl rfl rfl (by decide) (by decide) (Nat.le_of_ble_eq_true rfl) rfl dX6_addVan_1 rfl ?_
  refine a_al_0_3 (pc' := 5) dX6_addVan_4 rfl ?_
  refine a_al_0_3 (pc' := 6) dX6_addVan_5 rfl ?_
  refine gf_6_0 (pc' := 9) fl_X6_10 dX6_addVan_6 rfl ?_
  refine a_il_1_3 (pc' := 10) dX6_addVan_9 rfl ?_
  refine a_il_2_3 (pc' := 11) dX6_addVan_10 rfl ?_
  refine k_VI (pc' := 14) (ct_X3_putVan (q := 0) (by decide) hn _ _ _ (by rw [ntM_0]; exact h0)) cw_X6_40 mi_X3_putVan se_X3_putVan (ok3 (by omega)) rfl rfl rfl (by decide) (by decide) (Nat.le_of_ble_eq_true rfl) rfl dX6_addVan_11 rfl ?_
  refine k_VI (pc' := 17) (ct_X6_kept _ _) cw_X6_44 mi_X6_kept se_X6_kept rfl rfl rfl rfl (by decide) (by decide) (Nat.le_of_ble_eq_true rfl) rfl dX6_addVan_14 rfl ?_
  refine a_iret dX6_addVan_17 rfl rfl ?_
  refine fIM ?_ ?_
  · rw [ntM_0]
  · rw [ntM_0]; rfl
set_option maxRecDepth 20000 in
set_option maxHeartbeats 4000000 in
theorem ct_X6_setNumber {fr : Nat} (hfr : fr < 7)  (w x : Int32) (M : Mm) (hf : M 20 0 = nI fr) (hB : BoolOK (M 0))  : Ct yX6_setNumber cX6_setNumber 3 (some .int) 4 85 [.inr (6, 0, 0, 0), .inl w, .inl x] M (RI (numR (M 0) w x) (edM M (numR (M 0) w x) (numF (M 0) w x))) := by
  refine Ct.at RX6 rfl (by decide +kernel) (Nat.le_of_ble_eq_true rfl) [some (.inr (6, 0, 0, 0)), some (.inl w), some (.inl x)] rfl (fun G => ?_)
  refine a_al_0_3 (pc' := 1) dX6_setNumber_0 rfl ?_
  refine k_VV (pc' := 4) (ct_X6_noteState (by omega) _ (by assumption) (by assumption)) cw_X6_37 mi_X6_noteState se_X6_noteState rfl rfl rfl rfl (by decide) (by decide) (Nat.le_of_ble_eq_true rfl) rfl dX6_setNumber_1 rfl ?_
  refine a_al_0_3 (pc' := 5) dX6_setNumber_4 rfl ?_
  refine a_al_0_3 (pc' := 6) dX6_setNumber_5 rfl ?_
  refine gf_6_0 (pc' := 9) fl_X6_10 dX6_setNumber_6 rfl ?_
  refine a_il_1_3 (pc' := 10) dX6_setNumber_9 rfl ?_
  refine a_il_2_3 (pc' := 11) dX6_setNumber_10 rfl ?_
  refine k_VI (pc' := 14) (ct_X3_changeNumber (q := 0) (by decide) _ _ _) cw_X6_48 mi_X3_changeNumber se_X3_changeNumber (ok3 (by omega)) rfl rfl rfl (by decide) (by decide) (Nat.le_of_ble_eq_true rfl) rfl dX6_setNumber_11 rfl ?_
  refine k_VI (pc' := 17) (ct_X6_kept _ _) cw_X6_44 mi_X6_kept se_X6_kept rfl rfl rfl rfl (by decide) (by decide) (Nat.le_of_ble_eq_true rfl) rfl dX6_setNumber_14 rfl ?_
  refine a_iret dX6_setNumber_17 rfl rfl ?_
  refine fIM ?_ ?_
  · rw [ntM_0]
  · rw [ntM_0]; rfl
set_option maxRecDepth 20000 in
set_option maxHeartbeats 4000000 in
theorem ct_X6_setVan {fr : Nat} (hfr : fr < 7) {nv : Nat} (hn : nv ≤ 3) (x sp c : Int32) (M : Mm) (hf : M 20 0 = nI fr) (hB : BoolOK (M 0)) (h0 : M 0 0 = nI nv) : Ct yX6_setVan cX6_setVan 4 (some .int) 4 85 [.inr (6, 0, 0, 0), .inl x, .inl sp, .inl c] M (RI (vanR (M 0) x sp c) (edM M (vanR (M 0) x sp c) (vanF (M 0) x sp c))) := by
  refine Ct.at RX6 rfl (by decide +kernel) (Nat.le_of_ble_eq_true rfl) [some (.inr (6, 0, 0, 0)), some (.inl x), some (.inl sp), some (.inl c)] rfl (fun G => ?_)
  refine a_al_0_4 (pc' := 1) dX6_setVan_0 rfl ?_
  refine k_VV (pc' := 4) (ct_X6_noteState (by omega) _ (by assumption) (by assumption)) cw_X6_37 mi_X6_noteState se_X6_noteState rfl rfl rfl rfl (by decide) (by decide) (Nat.le_of_ble_eq_true rfl) rfl dX6_setVan_1 rfl ?_
  refine a_al_0_4 (pc' := 5) dX6_setVan_4 rfl ?_
  refine a_al_0_4 (pc' := 6) dX6_setVan_5 rfl ?_
  refine gf_6_0 (pc' := 9) fl_X6_10 dX6_setVan_6 rfl ?_
  refine a_il_1_4 (pc' := 10) dX6_setVan_9 rfl ?_
  refine a_il_2_4 (pc' := 11) dX6_setVan_10 rfl ?_
  refine a_il_3_4 (pc' := 12) dX6_setVan_11 rfl ?_
  refine k_VI (pc' := 15) (ct_X3_changeVan (q := 0) (by decide) hn _ _ _ _ (by rw [ntM_0]; exact h0)) cw_X6_51 mi_X3_changeVan se_X3_changeVan (ok3 (by omega)) rfl rfl rfl (by decide) (by decide) (Nat.le_of_ble_eq_true rfl) rfl dX6_setVan_12 rfl ?_
  refine k_VI (pc' := 18) (ct_X6_kept _ _) cw_X6_44 mi_X6_kept se_X6_kept rfl rfl rfl rfl (by decide) (by decide) (Nat.le_of_ble_eq_true rfl) rfl dX6_setVan_15 rfl ?_
  refine a_iret dX6_setVan_18 rfl rfl ?_
  refine fIM ?_ ?_
  · rw [ntM_0]
  · rw [ntM_0]; rfl
set_option maxRecDepth 20000 in
set_option maxHeartbeats 4000000 in
theorem ct_X6_setProbe {fr : Nat} (hfr : fr < 7) {nv : Nat} (hn : nv ≤ 3) (x z m y : Int32) (M : Mm) (hf : M 20 0 = nI fr) (hB : BoolOK (M 0)) (h0 : M 0 0 = nI nv) : Ct yX6_setProbe cX6_setProbe 5 (some .int) 4 85 [.inr (6, 0, 0, 0), .inl x, .inl z, .inl m, .inl y] M (RI (prbR (M 0) x z m y) (edM M (prbR (M 0) x z m y) (prbF (M 0) x z m y))) := by
  refine Ct.at RX6 rfl (by decide +kernel) (Nat.le_of_ble_eq_true rfl) [some (.inr (6, 0, 0, 0)), some (.inl x), some (.inl z), some (.inl m), some (.inl y)] rfl (fun G => ?_)
  refine a_al_0_5 (pc' := 1) dX6_setProbe_0 rfl ?_
  refine k_VV (pc' := 4) (ct_X6_noteState (by omega) _ (by assumption) (by assumption)) cw_X6_37 mi_X6_noteState se_X6_noteState rfl rfl rfl rfl (by decide) (by decide) (Nat.le_of_ble_eq_true rfl) rfl dX6_setProbe_1 rfl ?_
  refine a_al_0_5 (pc' := 5) dX6_setProbe_4 rfl ?_
  refine a_al_0_5 (pc' := 6) dX6_setProbe_5 rfl ?_
  refine gf_6_0 (pc' := 9) fl_X6_10 dX6_setProbe_6 rfl ?_
  refine a_il_1_5 (pc' := 10) dX6_setProbe_9 rfl ?_
  refine a_il_2_5 (pc' := 11) dX6_setProbe_10 rfl ?_
  refine a_il_3_5 (pc' := 12) dX6_setProbe_11 rfl ?_
  refine a_il_4_5 (pc' := 14) dX6_setProbe_12 rfl ?_
  refine k_VI (pc' := 17) (ct_X3_changeProbe (q := 0) (by decide) hn _ _ _ _ _ (by rw [ntM_0]; exact h0)) cw_X6_55 mi_X3_changeProbe se_X3_changeProbe (ok3 (by omega)) rfl rfl rfl (by decide) (by decide) (Nat.le_of_ble_eq_true rfl) rfl dX6_setProbe_14 rfl ?_
  refine k_VI (pc' := 20) (ct_X6_kept _ _) cw_X6_44 mi_X6_kept se_X6_kept rfl rfl rfl rfl (by decide) (by decide) (Nat.le_of_ble_eq_true rfl) rfl dX6_setProbe_17 rfl ?_
  refine a_iret dX6_setProbe_20 rfl rfl ?_
  refine fIM ?_ ?_
  · rw [ntM_0]
  · rw [ntM_0]; rfl
set_option maxRecDepth 20000 in
set_option maxHeartbeats 4000000 in
theorem ct_X6_repair {fr : Nat} (hfr : fr < 7) {nv : Nat} (hn : nv ≤ 3) (x z : Int32) (M : Mm) (hf : M 20 0 = nI fr) (hB : BoolOK (M 0)) (h0 : M 0 0 = nI nv) : Ct yX6_repair cX6_repair 3 (some .int) 4 85 [.inr (6, 0, 0, 0), .inl x, .inl z] M (RI (repR (M 0) x z) (edM M (repR (M 0) x z) (repF (M 0) x z))) := by
  refine Ct.at RX6 rfl (by decide +kernel) (Nat.le_of_ble_eq_true rfl) [some (.inr (6, 0, 0, 0)), some (.inl x), some (.inl z)] rfl (fun G => ?_)
  refine a_al_0_3 (pc' := 1) dX6_repair_0 rfl ?_
  refine k_VV (pc' := 4) (ct_X6_noteState (by omega) _ (by assumption) (by assumption)) cw_X6_37 mi_X6_noteState se_X6_noteState rfl rfl rfl rfl (by decide) (by decide) (Nat.le_of_ble_eq_true rfl) rfl dX6_repair_1 rfl ?_
  refine a_al_0_3 (pc' := 5) dX6_repair_4 rfl ?_
  refine a_al_0_3 (pc' := 6) dX6_repair_5 rfl ?_
  refine gf_6_0 (pc' := 9) fl_X6_10 dX6_repair_6 rfl ?_
  refine a_il_1_3 (pc' := 10) dX6_repair_9 rfl ?_
  refine a_il_2_3 (pc' := 11) dX6_repair_10 rfl ?_
  refine k_VI (pc' := 14) (ct_X3_mendProbe (q := 0) (by decide) hn _ _ _ (by rw [ntM_0]; exact h0)) cw_X6_59 mi_X3_mendProbe se_X3_mendProbe (ok3 (by omega)) rfl rfl rfl (by decide) (by decide) (Nat.le_of_ble_eq_true rfl) rfl dX6_repair_11 rfl ?_
  refine k_VI (pc' := 17) (ct_X6_kept _ _) cw_X6_44 mi_X6_kept se_X6_kept rfl rfl rfl rfl (by decide) (by decide) (Nat.le_of_ble_eq_true rfl) rfl dX6_repair_14 rfl ?_
  refine a_iret dX6_repair_17 rfl rfl ?_
  refine fIM ?_ ?_
  · rw [ntM_0]
  · rw [ntM_0]; rfl
set_option maxRecDepth 20000 in
set_option maxHeartbeats 4000000 in
theorem ct_X6_loadPallet {fr : Nat} (hfr : fr < 7) {nv : Nat} (hn : nv ≤ 3) {np : Nat} (hm : np ≤ 12) (x z l a w : Int32) (M : Mm) (hf : M 20 0 = nI fr) (hB : BoolOK (M 0)) (h0 : M 0 0 = nI nv) (h1 : M 0 1 = nI np) : Ct yX6_loadPallet cX6_loadPallet 6 (some .int) 4 85 [.inr (6, 0, 0, 0), .inl x, .inl z, .inl l, .inl a, .inl w] M (RI (ldR (M 0) x z l a w) (edM M (ldR (M 0) x z l a w) (ldF (M 0) x z l a w))) := by
  refine Ct.at RX6 rfl (by decide +kernel) (Nat.le_of_ble_eq_true rfl) [some (.inr (6, 0, 0, 0)), some (.inl x), some (.inl z), some (.inl l), some (.inl a), some (.inl w)] rfl (fun G => ?_)
  refine a_al_0_6 (pc' := 1) dX6_loadPallet_0 rfl ?_
  refine k_VV (pc' := 4) (ct_X6_noteState (by omega) _ (by assumption) (by assumption)) cw_X6_37 mi_X6_noteState se_X6_noteState rfl rfl rfl rfl (by decide) (by decide) (Nat.le_of_ble_eq_true rfl) rfl dX6_loadPallet_1 rfl ?_
  refine a_al_0_6 (pc' := 5) dX6_loadPallet_4 rfl ?_
  refine a_al_0_6 (pc' := 6) dX6_loadPallet_5 rfl ?_
  refine gf_6_0 (pc' := 9) fl_X6_10 dX6_loadPallet_6 rfl ?_
  refine a_il_1_6 (pc' := 10) dX6_loadPallet_9 rfl ?_
  refine a_il_2_6 (pc' := 11) dX6_loadPallet_10 rfl ?_
  refine a_il_3_6 (pc' := 12) dX6_loadPallet_11 rfl ?_
  refine a_il_4_6 (pc' := 14) dX6_loadPallet_12 rfl ?_
  refine a_il_5_6 (pc' := 16) dX6_loadPallet_14 rfl ?_
  refine k_VI (pc' := 19) (ct_X3_putPallet (q := 0) (by decide) hn hm _ _ _ _ _ _ (by rw [ntM_0]; exact h0) (by rw [ntM_0]; exact h1)) cw_X6_62 mi_X3_putPallet se_X3_putPallet (ok3 (by omega)) rfl rfl rfl (by decide) (by decide) (Nat.le_of_ble_eq_true rfl) rfl dX6_loadPallet_16 rfl ?_
  refine k_VI (pc' := 22) (ct_X6_kept _ _) cw_X6_44 mi_X6_kept se_X6_kept rfl rfl rfl rfl (by decide) (by decide) (Nat.le_of_ble_eq_true rfl) rfl dX6_loadPallet_19 rfl ?_
  refine a_iret dX6_loadPallet_22 rfl rfl ?_
  refine fIM ?_ ?_
  · rw [ntM_0]
  · rw [ntM_0]; rfl
set_option maxRecDepth 20000 in
set_option maxHeartbeats 4000000 in
theorem ct_X6_door {fr : Nat} (hfr : fr < 7) {nv : Nat} (hn : nv ≤ 3) {np : Nat} (hm : np ≤ 12) (x y : Int32) (M : Mm) (hf : M 20 0 = nI fr) (hB : BoolOK (M 0)) (h0 : M 0 0 = nI nv) (h1 : M 0 1 = nI np) : Ct yX6_door cX6_door 3 (some .int) 4 85 [.inr (6, 0, 0, 0), .inl x, .inl y] M (RI (drR (M 0) x y) (edM M (drR (M 0) x y) (drF (M 0) x y))) := by
  refine Ct.at RX6 rfl (by decide +kernel) (Nat.le_of_ble_eq_true rfl) [some (.inr (6, 0, 0, 0)), some (.inl x), some (.inl y)] rfl (fun G => ?_)
  refine a_al_0_3 (pc' := 1) dX6_door_0 rfl ?_
  refine k_VV (pc' := 4) (ct_X6_noteState (by omega) _ (by assumption) (by assumption)) cw_X6_37 mi_X6_noteState se_X6_noteState rfl rfl rfl rfl (by decide) (by decide) (Nat.le_of_ble_eq_true rfl) rfl dX6_door_1 rfl ?_
  refine a_al_0_3 (pc' := 5) dX6_door_4 rfl ?_
  refine a_al_0_3 (pc' := 6) dX6_door_5 rfl ?_
  refine gf_6_0 (pc' := 9) fl_X6_10 dX6_door_6 rfl ?_
  refine a_il_1_3 (pc' := 10) dX6_door_9 rfl ?_
  refine a_il_2_3 (pc' := 11) dX6_door_10 rfl ?_
  refine k_VI (pc' := 14) (ct_X3_turnDoor (q := 0) (by decide) hn hm _ _ _ (by rw [ntM_0]; exact h0) (by rw [ntM_0]; exact h1)) cw_X6_66 mi_X3_turnDoor se_X3_turnDoor (ok3 (by omega)) rfl rfl rfl (by decide) (by decide) (Nat.le_of_ble_eq_true rfl) rfl dX6_door_11 rfl ?_
  refine k_VI (pc' := 17) (ct_X6_kept _ _) cw_X6_44 mi_X6_kept se_X6_kept rfl rfl rfl rfl (by decide) (by decide) (Nat.le_of_ble_eq_true rfl) rfl dX6_door_14 rfl ?_
  refine a_iret dX6_door_17 rfl rfl ?_
  refine fIM ?_ ?_
  · rw [ntM_0]
  · rw [ntM_0]; rfl
set_option maxRecDepth 20000 in
set_option maxHeartbeats 4000000 in
theorem ct_X6_deliver {fr : Nat} (hfr : fr < 7) {np : Nat} (hm : np ≤ 12) (x : Int32) (M : Mm) (hf : M 20 0 = nI fr) (hB : BoolOK (M 0)) (h1 : M 0 1 = nI np) (hvo : vOK (M 0)) : Ct yX6_deliver cX6_deliver 2 (some .int) 4 85 [.inr (6, 0, 0, 0), .inl x] M (RI (dlR (M 0) x) (edM M (dlR (M 0) x) (dlF (M 0) x))) := by
  refine Ct.at RX6 rfl (by decide +kernel) (Nat.le_of_ble_eq_true rfl) [some (.inr (6, 0, 0, 0)), some (.inl x)] rfl (fun G => ?_)
  refine a_al_0_2 (pc' := 1) dX6_deliver_0 rfl ?_
  refine k_VV (pc' := 4) (ct_X6_noteState (by omega) _ (by assumption) (by assumption)) cw_X6_37 mi_X6_noteState se_X6_noteState rfl rfl rfl rfl (by decide) (by decide) (Nat.le_of_ble_eq_true rfl) rfl dX6_deliver_1 rfl ?_
  refine a_al_0_2 (pc' := 5) dX6_deliver_4 rfl ?_
  refine a_al_0_2 (pc' := 6) dX6_deliver_5 rfl ?_
  refine gf_6_0 (pc' := 9) fl_X6_10 dX6_deliver_6 rfl ?_
  refine a_il_1_2 (pc' := 10) dX6_deliver_9 rfl ?_
  refine k_VI (pc' := 13) (ct_X3_handOver (q := 0) (by decide) hm _ _ (by rw [ntM_0]; exact h1) (by rw [ntM_0]; exact hvo)) cw_X6_73 mi_X3_handOver se_X3_handOver (ok3 (by omega)) rfl rfl rfl (by decide) (by decide) (Nat.le_of_ble_eq_true rfl) rfl dX6_deliver_10 rfl ?_
  refine k_VI (pc' := 16) (ct_X6_kept _ _) cw_X6_44 mi_X6_kept se_X6_kept rfl rfl rfl rfl (by decide) (by decide) (Nat.le_of_ble_eq_true rfl) rfl dX6_deliver_13 rfl ?_
  refine a_iret dX6_deliver_16 rfl rfl ?_
  refine fIM ?_ ?_
  · rw [ntM_0]
  · rw [ntM_0]; rfl
set_option maxRecDepth 20000 in
set_option maxHeartbeats 4000000 in
theorem ct_X6_detour {fr : Nat} (hfr : fr < 7) {np : Nat} (hm : np ≤ 12) (s c : Int32) (M : Mm) (hf : M 20 0 = nI fr) (hB : BoolOK (M 0)) (h1 : M 0 1 = nI np) : Ct yX6_detour cX6_detour 3 (some .int) 4 85 [.inr (6, 0, 0, 0), .inl s, .inl c] M (RI (dtR (M 0) s c) (edM M (dtR (M 0) s c) (dtF (M 0) s c))) := by
  refine Ct.at RX6 rfl (by decide +kernel) (Nat.le_of_ble_eq_true rfl) [some (.inr (6, 0, 0, 0)), some (.inl s), some (.inl c)] rfl (fun G => ?_)
  refine a_al_0_3 (pc' := 1) dX6_detour_0 rfl ?_
  refine k_VV (pc' := 4) (ct_X6_noteState (by omega) _ (by assumption) (by assumption)) cw_X6_37 mi_X6_noteState se_X6_noteState rfl rfl rfl rfl (by decide) (by decide) (Nat.le_of_ble_eq_true rfl) rfl dX6_detour_1 rfl ?_
  refine a_al_0_3 (pc' := 5) dX6_detour_4 rfl ?_
  refine a_al_0_3 (pc' := 6) dX6_detour_5 rfl ?_
  refine gf_6_0 (pc' := 9) fl_X6_10 dX6_detour_6 rfl ?_
  refine a_il_1_3 (pc' := 10) dX6_detour_9 rfl ?_
  refine a_il_2_3 (pc' := 11) dX6_detour_10 rfl ?_
  refine k_VI (pc' := 14) (ct_X3_bringBack (q := 0) (by decide) hm _ _ _ (by rw [ntM_0]; exact h1)) cw_X6_76 mi_X3_bringBack se_X3_bringBack (ok3 (by omega)) rfl rfl rfl (by decide) (by decide) (Nat.le_of_ble_eq_true rfl) rfl dX6_detour_11 rfl ?_
  refine k_VI (pc' := 17) (ct_X6_kept _ _) cw_X6_44 mi_X6_kept se_X6_kept rfl rfl rfl rfl (by decide) (by decide) (Nat.le_of_ble_eq_true rfl) rfl dX6_detour_14 rfl ?_
  refine a_iret dX6_detour_17 rfl rfl ?_
  refine fIM ?_ ?_
  · rw [ntM_0]
  · rw [ntM_0]; rfl
set_option maxRecDepth 20000 in
set_option maxHeartbeats 4000000 in
theorem ct_X6_pass {fr : Nat} (hfr : fr < 7) {nv : Nat} (hn : nv ≤ 3) {np : Nat} (hm : np ≤ 12) {t : Nat} (ht : t ≤ 600) (x : Int32) (M : Mm) (hf : M 20 0 = nI fr) (hB : BoolOK (M 0)) (hs : sOK (M 0) nv np) (h2 : M 0 2 = nI t) : Ct yX6_pass cX6_pass 2 (some .int) 5 119 [.inr (6, 0, 0, 0), .inl x] M (RI (psR 0 (ntM M) x) (ktM (psM 0 (ntM M) x) (psR 0 (ntM M) x))) := by
  refine Ct.at RX6 rfl (by decide +kernel) (Nat.le_of_ble_eq_true rfl) [some (.inr (6, 0, 0, 0)), some (.inl x)] rfl (fun G => ?_)
  refine a_al_0_2 (pc' := 1) dX6_pass_0 rfl ?_
  refine k_VV (pc' := 4) (ct_X6_noteState (by omega) _ (by assumption) (by assumption)) cw_X6_37 mi_X6_noteState se_X6_noteState rfl rfl rfl rfl (by decide) (by decide) (Nat.le_of_ble_eq_true rfl) rfl dX6_pass_1 rfl ?_
  refine a_al_0_2 (pc' := 5) dX6_pass_4 rfl ?_
  refine a_al_0_2 (pc' := 6) dX6_pass_5 rfl ?_
  refine gf_6_0 (pc' := 9) fl_X6_10 dX6_pass_6 rfl ?_
  refine a_il_1_2 (pc' := 10) dX6_pass_9 rfl ?_
  refine a_al_0_2 (pc' := 11) dX6_pass_10 rfl ?_
  refine gf_6_5 (pc' := 14) fl_X6_26 dX6_pass_11 rfl ?_
  refine k_VI (pc' := 17) (ct_X3_letPass (q := 0) (by decide) hn hm _ _ (by rw [ntM_0]; exact hs) (by rw [ntM_0]; exact h2) ht) cw_X6_69 mi_X3_letPass se_X3_letPass (ok3 (by omega)) rfl rfl rfl (by decide) (by decide) (Nat.le_of_ble_eq_true rfl) rfl dX6_pass_14 rfl ?_
  refine k_VI (pc' := 20) (ct_X6_kept _ _) cw_X6_44 mi_X6_kept se_X6_kept rfl rfl rfl rfl (by decide) (by decide) (Nat.le_of_ble_eq_true rfl) rfl dX6_pass_17 rfl ?_
  refine a_iret dX6_pass_20 rfl rfl ?_
  exact fIM rfl rfl
set_option maxRecDepth 20000 in
set_option maxHeartbeats 4000000 in
theorem ct_X6_count {nv : Nat} (hn : nv ≤ 3) (w : Int32) (M : Mm) (h0 : M 0 0 = nI nv) : Ct yX6_count cX6_count 2 (some .int) 1 23 [.inr (6, 0, 0, 0), .inl w] M (RI (cntS M w) M) := by
  have hnv : nvF (M 0) = nv := by unfold nvF; rw [h0]; exact nI_clamp (by omega)
  refine Ct.at RX6 rfl (by decide +kernel) (Nat.le_of_ble_eq_true rfl) [some (.inr (6, 0, 0, 0)), some (.inl w)] rfl (fun G => ?_)
  refine a_il_1_2 (pc' := 1) dX6_count_0 rfl ?_
  by_cases s_1_0 : w = nI 0
  · rw [s_1_0]
    refine a_tswI (tgt := 52) (off := 51) dX6_count_1 (by decide) (by decide) (by decide) (by decide) ?_
    refine a_al_0_2 (pc' := 53) dX6_count_52 rfl ?_
    refine gf_6_0 (pc' := 56) fl_X6_10 dX6_count_53 rfl ?_
    refine gf_3_4 (pc' := 59) (by omega) fl_X6_109 dX6_count_56 rfl ?_
    refine a_iret dX6_count_59 rfl rfl ?_
    exact fI (by simp [cntS, s_1_0, nI_eqm, hnv])
  by_cases s_1_1 : w = nI 1
  · rw [s_1_1]
    refine a_tswI (tgt := 60) (off := 59) dX6_count_1 (by decide) (by decide) (by decide) (by decide) ?_
    refine a_al_0_2 (pc' := 61) dX6_count_60 rfl ?_
    refine gf_6_0 (pc' := 64) fl_X6_10 dX6_count_61 rfl ?_
    refine gf_3_5 (pc' := 67) (by omega) fl_X6_112 dX6_count_64 rfl ?_
    refine a_iret dX6_count_67 rfl rfl ?_
    exact fI (by simp [cntS, s_1_0, s_1_1, nI_eqm, hnv])
  by_cases s_1_2 : w = nI 2
  · rw [s_1_2]
    refine a_tswI (tgt := 68) (off := 67) dX6_count_1 (by decide) (by decide) (by decide) (by decide) ?_
    refine a_al_0_2 (pc' := 69) dX6_count_68 rfl ?_
    refine gf_6_0 (pc' := 72) fl_X6_10 dX6_count_69 rfl ?_
    refine gf_3_0 (pc' := 75) (by omega) fl_X6_115 dX6_count_72 rfl ?_
    refine a_iret dX6_count_75 rfl rfl ?_
    exact fI (by simp [cntS, s_1_0, s_1_1, s_1_2, nI_eqm, hnv])
  by_cases s_1_3 : w = nI 3
  · rw [s_1_3]
    refine a_tswI (tgt := 76) (off := 75) dX6_count_1 (by decide) (by decide) (by decide) (by decide) ?_
    refine a_al_0_2 (pc' := 77) dX6_count_76 rfl ?_
    refine gf_6_0 (pc' := 80) fl_X6_10 dX6_count_77 rfl ?_
    refine gf_3_1 (pc' := 83) (by omega) fl_X6_118 dX6_count_80 rfl ?_
    refine a_iret dX6_count_83 rfl rfl ?_
    exact fI (by simp [cntS, s_1_0, s_1_1, s_1_2, s_1_3, nI_eqm, hnv])
  by_cases s_1_4 : w = nI 4
  · rw [s_1_4]
    refine a_tswI (tgt := 84) (off := 83) dX6_count_1 (by decide) (by decide) (by decide) (by decide) ?_
    refine a_al_0_2 (pc' := 85) dX6_count_84 rfl ?_
    refine gf_6_0 (pc' := 88) fl_X6_10 dX6_count_85 rfl ?_
    refine gf_3_2 (pc' := 91) (by omega) fl_X6_121 dX6_count_88 rfl ?_
    refine a_iret dX6_count_91 rfl rfl ?_
    exact fI (by simp [cntS, s_1_0, s_1_1, s_1_2, s_1_3, s_1_4, nI_eqm, hnv])
  by_cases s_1_5 : w = nI 5
  · rw [s_1_5]
    refine a_tswI (tgt := 92) (off := 91) dX6_count_1 (by decide) (by decide) (by decide) (by decide) ?_
    refine a_al_0_2 (pc' := 93) dX6_count_92 rfl ?_
    refine gf_6_0 (pc' := 96) fl_X6_10 dX6_count_93 rfl ?_
    refine gf_3_3 (pc' := 99) (by omega) fl_X6_124 dX6_count_96 rfl ?_
    refine a_iret dX6_count_99 rfl rfl ?_
    exact fI (by simp [cntS, s_1_0, s_1_1, s_1_2, s_1_3, s_1_4, s_1_5, nI_eqm, hnv])
  by_cases s_1_6 : w = nI 6
  · rw [s_1_6]
    refine a_tswI (tgt := 100) (off := 99) dX6_count_1 (by decide) (by decide) (by decide) (by decide) ?_
    refine a_al_0_2 (pc' := 101) dX6_count_100 rfl ?_
    refine gf_6_6 (pc' := 104) fl_X6_33 dX6_count_101 rfl ?_
    refine gf_2_1 (pc' := 107) fl_X6_82 dX6_count_104 rfl ?_
    refine a_iret dX6_count_107 rfl rfl ?_
    exact fI (by simp [cntS, s_1_0, s_1_1, s_1_2, s_1_3, s_1_4, s_1_5, s_1_6, nI_eqm, hnv])
  by_cases s_1_7 : w = nI 7
  · rw [s_1_7]
    refine a_tswI (tgt := 108) (off := 107) dX6_count_1 (by decide) (by decide) (by decide) (by decide) ?_
    refine a_al_0_2 (pc' := 109) dX6_count_108 rfl ?_
    refine gf_6_4 (pc' := 112) fl_X6_127 dX6_count_109 rfl ?_
    refine a_iret dX6_count_112 rfl rfl ?_
    exact fI (by simp [cntS, s_1_0, s_1_1, s_1_2, s_1_3, s_1_4, s_1_5, s_1_6, s_1_7, nI_eqm, hnv])
  by_cases s_1_8 : w = nI 8
  · rw [s_1_8]
    refine a_tswI (tgt := 113) (off := 112) dX6_count_1 (by decide) (by decide) (by decide) (by decide) ?_
    refine a_al_0_2 (pc' := 114) dX6_count_113 rfl ?_
    refine gf_6_0 (pc' := 117) fl_X6_10 dX6_count_114 rfl ?_
    refine k_VI (pc' := 120) (ct_X3_foundProbes (q := 0) (by decide) hn _ h0) cw_X6_130 mi_X3_foundProbes se_X3_foundProbes (ok3 (by omega)) rfl rfl rfl (by decide) (by decide) (Nat.le_of_ble_eq_true rfl) rfl dX6_count_117 rfl ?_
    refine a_iret dX6_count_120 rfl rfl ?_
    exact fI (by simp [cntS, s_1_0, s_1_1, s_1_2, s_1_3, s_1_4, s_1_5, s_1_6, s_1_7, s_1_8, nI_eqm, hnv])
  refine a_tswO (tgt := 121) dX6_count_1 (tsw_out8 s_1_0 s_1_1 s_1_2 s_1_3 s_1_4 s_1_5 s_1_6 s_1_7 s_1_8) (by decide) ?_
  refine a_ldc (pc' := 123) dX6_count_121 cn_X6_133 rfl ?_
  refine a_iret dX6_count_123 rfl rfl ?_
  exact fI (by simp [cntS, s_1_0, s_1_1, s_1_2, s_1_3, s_1_4, s_1_5, s_1_6, s_1_7, s_1_8, nI_eqm, hnv])
set_option maxRecDepth 20000 in
set_option maxHeartbeats 4000000 in
theorem ct_X6_van {nv : Nat} (hn : nv ≤ 3) {np : Nat} (hm : np ≤ 12) (x w : Int32) (M : Mm) (h0 : M 0 0 = nI nv) (h1 : M 0 1 = nI np) : Ct yX6_van cX6_van 4 (some .int) 2 44 [.inr (6, 0, 0, 0), .inl x, .inl w] M (RI (vqS (M 0) x w) M) := by
  have hnp : npF (M 0) = np := by unfold npF; rw [h1]; exact nI_clamp (by omega)
  refine Ct.at RX6 rfl (by decide +kernel) (Nat.le_of_ble_eq_true rfl) [some (.inr (6, 0, 0, 0)), some (.inl x), some (.inl w), none] rfl (fun G => ?_)
  refine a_al_0_4 (pc' := 1) dX6_van_0 rfl ?_
  refine gf_6_0 (pc' := 4) fl_X6_10 dX6_van_1 rfl ?_
  refine a_il_1_4 (pc' := 5) dX6_van_4 rfl ?_
  refine k_VI (pc' := 8) (ct_X3_hasVan (by omega) _ _) cw_X6_134 mi_X3_hasVan se_X3_hasVan (ok3 (by omega)) rfl rfl rfl (by decide) (by decide) (Nat.le_of_ble_eq_true rfl) rfl dX6_van_5 rfl ?_
  refine a_ifB_ne (pc' := 11) (tgt := 14) dX6_van_8 (by decide) rfl (fun c_8 => ?_) (fun c_8 => ?_)
  · obtain ⟨v, hv, rfl⟩ := hvS_nI c_8 h0 (by omega)
    have hcl : vN (nI v) = v := vN_nI (by omega)
    refine a_al_0_4 (pc' := 15) dX6_van_14 rfl ?_
    refine gf_6_0 (pc' := 18) fl_X6_10 dX6_van_15 rfl ?_
    refine gf_3_6 (pc' := 21) (by omega) fl_X6_137 dX6_van_18 rfl ?_
    refine a_il_1_4 (pc' := 22) dX6_van_21 rfl ?_
    refine aN_12 (j := v) (pc' := 23) (by omega) (by omega) dX6_van_22 rfl ?_
    refine a_as_3_4 (pc' := 24) dX6_van_23 rfl ?_
    refine a_il_2_4 (pc' := 25) dX6_van_24 rfl ?_
    by_cases s_25_0 : w = nI 0
    · rw [s_25_0]
      refine a_tswI (tgt := 56) (off := 31) dX6_van_25 (by decide) (by decide) (by decide) (by decide) ?_
      refine a_al_3_4 (pc' := 57) dX6_van_56 rfl ?_
      refine gf_4_0 (pc' := 60) (by omega) (by omega) fl_X6_141 dX6_van_57 rfl ?_
      refine a_iret dX6_van_60 rfl rfl ?_
      exact fI (by first | (simp [vqS, nI_eqm, hnp, hcl, c_8, s_25_0]; done) | simp [vqS, c_8, s_25_0])
    by_cases s_25_1 : w = nI 1
    · rw [s_25_1]
      refine a_tswI (tgt := 61) (off := 36) dX6_van_25 (by decide) (by decide) (by decide) (by decide) ?_
      refine a_al_3_4 (pc' := 62) dX6_van_61 rfl ?_
      refine gf_4_1 (pc' := 65) (by omega) (by omega) fl_X6_146 dX6_van_62 rfl ?_
      refine a_iret dX6_van_65 rfl rfl ?_
      exact fI (by first | (simp [vqS, nI_eqm, hnp, hcl, c_8, s_25_0, s_25_1]; done) | simp [vqS, c_8, s_25_0, s_25_1])
    by_cases s_25_2 : w = nI 2
    · rw [s_25_2]
      refine a_tswI (tgt := 66) (off := 41) dX6_van_25 (by decide) (by decide) (by decide) (by decide) ?_
      refine a_al_3_4 (pc' := 67) dX6_van_66 rfl ?_
      refine gf_4_2 (pc' := 70) (by omega) (by omega) fl_X6_149 dX6_van_67 rfl ?_
      refine a_if_eq (pc' := 73) (tgt := 77) dX6_van_70 (by decide) rfl (fun c_70 => ?_) (fun c_70 => ?_)
      · refine a_iconst (v := nI 0) (pc' := 78) dX6_van_77 (by decide) rfl ?_
        refine a_iret dX6_van_78 rfl rfl ?_
        exact fI (by first | (simp [vqS, nI_eqm, hnp, hcl, c_8, s_25_0, s_25_1, s_25_2, c_70]; done) | simp [vqS, c_8, s_25_0, s_25_1, s_25_2, c_70])
      · refine a_iconst (v := nI 1) (pc' := 74) dX6_van_73 (by decide) rfl ?_
        refine a_goto (pc' := 78) dX6_van_74 (by decide) ?_
        refine a_iret dX6_van_78 rfl rfl ?_
        exact fI (by first | (simp [vqS, nI_eqm, hnp, hcl, c_8, s_25_0, s_25_1, s_25_2, c_70]; done) | simp [vqS, c_8, s_25_0, s_25_1, s_25_2, c_70])
    by_cases s_25_3 : w = nI 3
    · rw [s_25_3]
      refine a_tswI (tgt := 79) (off := 54) dX6_van_25 (by decide) (by decide) (by decide) (by decide) ?_
      refine a_al_0_4 (pc' := 80) dX6_van_79 rfl ?_
      refine gf_6_0 (pc' := 83) fl_X6_10 dX6_van_80 rfl ?_
      refine a_il_1_4 (pc' := 84) dX6_van_83 rfl ?_
      refine k_VI (pc' := 87) (ct_X3_palletsIn (q := 0) (by decide) hm _ _ h1) cw_X6_153 mi_X3_palletsIn se_X3_palletsIn (ok3 (by omega)) rfl rfl rfl (by decide) (by decide) (Nat.le_of_ble_eq_true rfl) rfl dX6_van_84 rfl ?_
      refine a_iret dX6_van_87 rfl rfl ?_
      exact fI (by first | (simp [vqS, nI_eqm, hnp, hcl, c_8, s_25_0, s_25_1, s_25_2, s_25_3]; done) | simp [vqS, c_8, s_25_0, s_25_1, s_25_2, s_25_3])
    refine a_tswO (tgt := 88) dX6_van_25 (tsw_out3 s_25_0 s_25_1 s_25_2 s_25_3) (by decide) ?_
    refine a_ldc (pc' := 90) dX6_van_88 cn_X6_133 rfl ?_
    refine a_iret dX6_van_90 rfl rfl ?_
    exact fI (by first | (simp [vqS, nI_eqm, hnp, hcl, c_8, s_25_0, s_25_1, s_25_2, s_25_3]; done) | simp [vqS, c_8, s_25_0, s_25_1, s_25_2, s_25_3])
  · refine a_ldc (pc' := 13) dX6_van_11 cn_X6_133 rfl ?_
    refine a_iret dX6_van_13 rfl rfl ?_
    exact fI (by first | (simp [vqS, nI_eqm, hnp, hcl, c_8]; done) | simp [vqS, c_8])
set_option maxRecDepth 20000 in
set_option maxHeartbeats 4000000 in
theorem ct_X6_zone {nv : Nat} (hn : nv ≤ 3) (x z w : Int32) (M : Mm) (h0 : M 0 0 = nI nv) : Ct yX6_zone cX6_zone 5 (some .int) 2 45 [.inr (6, 0, 0, 0), .inl x, .inl z, .inl w] M (RI (zqS (M 0) x z w) M) := by
  refine Ct.at RX6 rfl (by decide +kernel) (Nat.le_of_ble_eq_true rfl) [some (.inr (6, 0, 0, 0)), some (.inl x), some (.inl z), some (.inl w), none] rfl (fun G => ?_)
  refine a_al_0_5 (pc' := 1) dX6_zone_0 rfl ?_
  refine gf_6_0 (pc' := 4) fl_X6_10 dX6_zone_1 rfl ?_
  refine a_il_1_5 (pc' := 5) dX6_zone_4 rfl ?_
  refine a_il_2_5 (pc' := 6) dX6_zone_5 rfl ?_
  refine k_VI (pc' := 9) (ct_X3_hasZone (by omega) _ _ _) cw_X6_156 mi_X3_hasZone se_X3_hasZone (ok3 (by omega)) rfl rfl rfl (by decide) (by decide) (Nat.le_of_ble_eq_true rfl) rfl dX6_zone_6 rfl ?_
  refine a_ifB_ne (pc' := 12) (tgt := 15) dX6_zone_9 (by decide) rfl (fun c_9 => ?_) (fun c_9 => ?_)
  · obtain ⟨v, z, hv, hz, rfl, rfl⟩ := hzS_nI c_9 h0 (by omega)
    have hcl : vN (nI v) = v := vN_nI (by omega)
    have hcz : vN (nI z) = z := vN_nI (by omega)
    refine a_al_0_5 (pc' := 16) dX6_zone_15 rfl ?_
    refine gf_6_0 (pc' := 19) fl_X6_10 dX6_zone_16 rfl ?_
    refine gf_3_6 (pc' := 22) (by omega) fl_X6_137 dX6_zone_19 rfl ?_
    refine a_il_1_5 (pc' := 23) dX6_zone_22 rfl ?_
    refine aN_12 (j := v) (pc' := 24) (by omega) (by omega) dX6_zone_23 rfl ?_
    refine gf_4_4 (pc' := 27) (by omega) (by omega) fl_X6_160 dX6_zone_24 rfl ?_
    refine a_il_2_5 (pc' := 28) dX6_zone_27 rfl ?_
    refine aN_13 (j := z) (pc' := 29) (by omega) (by omega) (by omega) dX6_zone_28 rfl ?_
    refine a_as_4_5 (pc' := 31) dX6_zone_29 rfl ?_
    refine a_il_3_5 (pc' := 32) dX6_zone_31 rfl ?_
    by_cases s_32_0 : w = nI 0
    · rw [s_32_0]
      refine a_tswI (tgt := 72) (off := 40) dX6_zone_32 (by decide) (by decide) (by decide) (by decide) ?_
      refine a_al_4_5 (pc' := 74) dX6_zone_72 rfl ?_
      refine gf_5_0 (pc' := 77) (by omega) (by omega) (by omega) fl_X6_164 dX6_zone_74 rfl ?_
      refine a_iret dX6_zone_77 rfl rfl ?_
      exact fI (by first | (simp [zqS, nI_eqm, hcl, hcz, c_9, s_32_0]; done) | simp [zqS, c_9, s_32_0])
    by_cases s_32_1 : w = nI 1
    · rw [s_32_1]
      refine a_tswI (tgt := 78) (off := 46) dX6_zone_32 (by decide) (by decide) (by decide) (by decide) ?_
      refine a_al_4_5 (pc' := 80) dX6_zone_78 rfl ?_
      refine k_VI (pc' := 83) (ct_X5_reading (by omega) (by omega) (by omega) _) cw_X6_169 mi_X5_reading se_X5_reading (ok5 (by omega) (by omega) (by omega)) rfl rfl rfl (by decide) (by decide) (Nat.le_of_ble_eq_true rfl) rfl dX6_zone_80 rfl ?_
      refine a_iret dX6_zone_83 rfl rfl ?_
      exact fI (by first | (simp [zqS, nI_eqm, hcl, hcz, c_9, s_32_0, s_32_1]; done) | simp [zqS, c_9, s_32_0, s_32_1])
    by_cases s_32_2 : w = nI 2
    · rw [s_32_2]
      refine a_tswI (tgt := 84) (off := 52) dX6_zone_32 (by decide) (by decide) (by decide) (by decide) ?_
      refine a_al_0_5 (pc' := 85) dX6_zone_84 rfl ?_
      refine gf_6_0 (pc' := 88) fl_X6_10 dX6_zone_85 rfl ?_
      refine gf_3_6 (pc' := 91) (by omega) fl_X6_137 dX6_zone_88 rfl ?_
      refine a_il_1_5 (pc' := 92) dX6_zone_91 rfl ?_
      refine aN_12 (j := v) (pc' := 93) (by omega) (by omega) dX6_zone_92 rfl ?_
      refine a_il_2_5 (pc' := 94) dX6_zone_93 rfl ?_
      refine k_VI (pc' := 97) (ct_X4_toldIn (by omega) (by omega) (by omega) _) cw_X6_172 mi_X4_toldIn se_X4_toldIn (ok4 (by omega) (by omega)) rfl rfl rfl (by decide) (by decide) (Nat.le_of_ble_eq_true rfl) rfl dX6_zone_94 rfl ?_
      refine a_iret dX6_zone_97 rfl rfl ?_
      exact fI (by first | (simp [zqS, nI_eqm, hcl, hcz, c_9, s_32_0, s_32_1, s_32_2]; done) | simp [zqS, c_9, s_32_0, s_32_1, s_32_2])
    by_cases s_32_3 : w = nI 3
    · rw [s_32_3]
      refine a_tswI (tgt := 98) (off := 66) dX6_zone_32 (by decide) (by decide) (by decide) (by decide) ?_
      refine a_al_4_5 (pc' := 100) dX6_zone_98 rfl ?_
      refine gf_5_1 (pc' := 103) (by omega) (by omega) (by omega) fl_X6_175 dX6_zone_100 rfl ?_
      refine a_iret dX6_zone_103 rfl rfl ?_
      exact fI (by first | (simp [zqS, nI_eqm, hcl, hcz, c_9, s_32_0, s_32_1, s_32_2, s_32_3]; done) | simp [zqS, c_9, s_32_0, s_32_1, s_32_2, s_32_3])
    by_cases s_32_4 : w = nI 4
    · rw [s_32_4]
      refine a_tswI (tgt := 104) (off := 72) dX6_zone_32 (by decide) (by decide) (by decide) (by decide) ?_
      refine a_al_4_5 (pc' := 106) dX6_zone_104 rfl ?_
      refine gf_5_3 (pc' := 109) (by omega) (by omega) (by omega) fl_X6_178 dX6_zone_106 rfl ?_
      refine a_if_eq (pc' := 112) (tgt := 116) dX6_zone_109 (by decide) rfl (fun c_109 => ?_) (fun c_109 => ?_)
      · refine a_iconst (v := nI 0) (pc' := 117) dX6_zone_116 (by decide) rfl ?_
        refine a_iret dX6_zone_117 rfl rfl ?_
        exact fI (by first | (simp [zqS, nI_eqm, hcl, hcz, c_9, s_32_0, s_32_1, s_32_2, s_32_3, s_32_4, c_109]; done) | simp [zqS, c_9, s_32_0, s_32_1, s_32_2, s_32_3, s_32_4, c_109])
      · refine a_iconst (v := nI 1) (pc' := 113) dX6_zone_112 (by decide) rfl ?_
        refine a_goto (pc' := 117) dX6_zone_113 (by decide) ?_
        refine a_iret dX6_zone_117 rfl rfl ?_
        exact fI (by first | (simp [zqS, nI_eqm, hcl, hcz, c_9, s_32_0, s_32_1, s_32_2, s_32_3, s_32_4, c_109]; done) | simp [zqS, c_9, s_32_0, s_32_1, s_32_2, s_32_3, s_32_4, c_109])
    by_cases s_32_5 : w = nI 5
    · rw [s_32_5]
      refine a_tswI (tgt := 118) (off := 86) dX6_zone_32 (by decide) (by decide) (by decide) (by decide) ?_
      refine a_al_4_5 (pc' := 120) dX6_zone_118 rfl ?_
      refine gf_5_4 (pc' := 123) (by omega) (by omega) (by omega) fl_X6_181 dX6_zone_120 rfl ?_
      refine a_iret dX6_zone_123 rfl rfl ?_
      exact fI (by first | (simp [zqS, nI_eqm, hcl, hcz, c_9, s_32_0, s_32_1, s_32_2, s_32_3, s_32_4, s_32_5]; done) | simp [zqS, c_9, s_32_0, s_32_1, s_32_2, s_32_3, s_32_4, s_32_5])
    refine a_tswO (tgt := 124) dX6_zone_32 (tsw_out5 s_32_0 s_32_1 s_32_2 s_32_3 s_32_4 s_32_5) (by decide) ?_
    refine a_ldc (pc' := 126) dX6_zone_124 cn_X6_133 rfl ?_
    refine a_iret dX6_zone_126 rfl rfl ?_
    exact fI (by first | (simp [zqS, nI_eqm, hcl, hcz, c_9, s_32_0, s_32_1, s_32_2, s_32_3, s_32_4, s_32_5]; done) | simp [zqS, c_9, s_32_0, s_32_1, s_32_2, s_32_3, s_32_4, s_32_5])
  · refine a_ldc (pc' := 14) dX6_zone_12 cn_X6_133 rfl ?_
    refine a_iret dX6_zone_14 rfl rfl ?_
    exact fI (by first | (simp [zqS, nI_eqm, hcl, hcz, c_9]; done) | simp [zqS, c_9])
set_option maxRecDepth 20000 in
set_option maxHeartbeats 4000000 in
theorem ct_X6_pallet {np : Nat} (hm : np ≤ 12) (x w : Int32) (M : Mm) (h1 : M 0 1 = nI np) : Ct yX6_pallet cX6_pallet 3 (some .int) 3 61 [.inr (6, 0, 0, 0), .inl x, .inl w] M (RI (pqS (M 0) x w) M) := by
  refine Ct.at RX6 rfl (by decide +kernel) (Nat.le_of_ble_eq_true rfl) [some (.inr (6, 0, 0, 0)), some (.inl x), some (.inl w)] rfl (fun G => ?_)
  refine a_al_0_3 (pc' := 1) dX6_pallet_0 rfl ?_
  refine gf_6_0 (pc' := 4) fl_X6_10 dX6_pallet_1 rfl ?_
  refine a_il_1_3 (pc' := 5) dX6_pallet_4 rfl ?_
  refine k_VI (pc' := 8) (ct_X3_hasPallet (by omega) _ _) cw_X6_184 mi_X3_hasPallet se_X3_hasPallet (ok3 (by omega)) rfl rfl rfl (by decide) (by decide) (Nat.le_of_ble_eq_true rfl) rfl dX6_pallet_5 rfl ?_
  refine a_ifB_ne (pc' := 11) (tgt := 14) dX6_pallet_8 (by decide) rfl (fun c_8 => ?_) (fun c_8 => ?_)
  · obtain ⟨p, hp, rfl⟩ := hpS_nI c_8 h1 (by omega)
    have hcl : vN (nI p) = p := vN_nI (by omega)
    refine a_al_0_3 (pc' := 15) dX6_pallet_14 rfl ?_
    refine gf_6_0 (pc' := 18) fl_X6_10 dX6_pallet_15 rfl ?_
    refine gf_3_7 (pc' := 21) (by omega) fl_X6_187 dX6_pallet_18 rfl ?_
    refine a_il_1_3 (pc' := 22) dX6_pallet_21 rfl ?_
    refine aN_10 (j := p) (pc' := 23) (by omega) (by omega) dX6_pallet_22 rfl ?_
    refine a_il_2_3 (pc' := 24) dX6_pallet_23 rfl ?_
    refine k_VI (pc' := 27) (ct_X1_property (by omega) (by omega) _ _) cw_X6_191 mi_X1_property se_X1_property (ok1 (by omega) (by omega)) rfl rfl rfl (by decide) (by decide) (Nat.le_of_ble_eq_true rfl) rfl dX6_pallet_24 rfl ?_
    refine a_iret dX6_pallet_27 rfl rfl ?_
    exact fI (by first | (simp [pqS, hcl, c_8]; done) | simp [pqS, c_8])
  · refine a_ldc (pc' := 13) dX6_pallet_11 cn_X6_133 rfl ?_
    refine a_iret dX6_pallet_13 rfl rfl ?_
    exact fI (by first | (simp [pqS, hcl, c_8]; done) | simp [pqS, c_8])
set_option maxRecDepth 20000 in
set_option maxHeartbeats 4000000 in
theorem lp_X6_claims {G : Gl} {Φ : Option OV → Mm → Prop} {np : Nat} (hm : np ≤ 12) (x : Int32) (M : Mm) (h1 : M 0 1 = nI np) : ∀ (n p : Nat) (acc : Int32) (x4 : Option OV), p + n = np → (Φ (some (.inl (clmL (M 0) x n p acc))) M) → AW G cX6_claims RX6 5 3 64 (some .int) Φ 16 [some (.inr (6, 0, 0, 0)), some (.inl x), some (.inl acc), some (.inl (nI p)), x4] [] M := by
  intro n
  induction n with
  | zero =>
    intro p acc x4 he  hΦ
    refine a_il_3_5 (pc' := 17) dX6_claims_16 rfl ?_
    refine a_al_0_5 (pc' := 18) dX6_claims_17 rfl ?_
    refine gf_6_0 (pc' := 21) fl_X6_10 dX6_claims_18 rfl ?_
    refine gf_3_5 (pc' := 24) (by omega) fl_X6_112 dX6_claims_21 rfl ?_
    rw [h1]
    refine a_icmp_ge (pc' := 27) (tgt := 65) dX6_claims_24 (by decide) rfl (fun c_24 => ?_) (fun c_24 => absurd (nI_le (by omega) (by omega)) c_24)
    refine a_il_2_5 (pc' := 66) dX6_claims_65 rfl ?_
    refine a_iret dX6_claims_66 rfl rfl ?_
    exact hΦ
  | succ n ih =>
    intro p acc x4 he  hΦ
    refine a_il_3_5 (pc' := 17) dX6_claims_16 rfl ?_
    refine a_al_0_5 (pc' := 18) dX6_claims_17 rfl ?_
    refine gf_6_0 (pc' := 21) fl_X6_10 dX6_claims_18 rfl ?_
    refine gf_3_5 (pc' := 24) (by omega) fl_X6_112 dX6_claims_21 rfl ?_
    rw [h1]
    refine a_icmp_ge (pc' := 27) (tgt := 65) dX6_claims_24 (by decide) rfl (fun c_24 => absurd c_24 (nI_ge (by omega) (by omega))) (fun c_24 => ?_)
    refine a_al_0_5 (pc' := 28) dX6_claims_27 rfl ?_
    refine gf_6_0 (pc' := 31) fl_X6_10 dX6_claims_28 rfl ?_
    refine gf_3_7 (pc' := 34) (by omega) fl_X6_187 dX6_claims_31 rfl ?_
    refine a_il_3_5 (pc' := 35) dX6_claims_34 rfl ?_
    refine aN_10 (j := p) (pc' := 36) (by omega) (by omega) dX6_claims_35 rfl ?_
    refine a_as_4_5 (pc' := 38) dX6_claims_36 rfl ?_
    refine a_il_2_5 (pc' := 39) dX6_claims_38 rfl ?_
    refine a_il_1_5 (pc' := 40) dX6_claims_39 rfl ?_
    refine a_if_ne (pc' := 43) (tgt := 51) dX6_claims_40 (by decide) rfl (fun c_40 => ?_) (fun c_40 => ?_)
    · refine a_al_4_5 (pc' := 53) dX6_claims_51 rfl ?_
      refine a_il_1_5 (pc' := 54) dX6_claims_53 rfl ?_
      refine k_VI (pc' := 57) (ct_X1_claimBy (by omega) (by omega) _ _) cw_X6_203 mi_X1_claimBy se_X1_claimBy (ok1 (by omega) (by omega)) rfl rfl rfl (by decide) (by decide) (Nat.le_of_ble_eq_true rfl) rfl dX6_claims_54 rfl ?_
      refine a_iadd (pc' := 58) dX6_claims_57 rfl ?_
      refine a_is_2_5 (pc' := 59) dX6_claims_58 rfl ?_
      refine a_iN_3_5 (m := p + 1) (pc' := 62) dX6_claims_59 (nI_add _ _) rfl ?_
      refine a_goto (pc' := 16) dX6_claims_62 (by decide) ?_
      exact ih (p + 1) _ _ (by omega) (by simpa [clmL, c_40] using hΦ)
    · refine a_al_4_5 (pc' := 45) dX6_claims_43 rfl ?_
      refine k_VI (pc' := 48) (ct_X1_claim (by omega) (by omega) _) cw_X6_200 mi_X1_claim se_X1_claim (ok1 (by omega) (by omega)) rfl rfl rfl (by decide) (by decide) (Nat.le_of_ble_eq_true rfl) rfl dX6_claims_45 rfl ?_
      refine a_goto (pc' := 57) dX6_claims_48 (by decide) ?_
      refine a_iadd (pc' := 58) dX6_claims_57 rfl ?_
      refine a_is_2_5 (pc' := 59) dX6_claims_58 rfl ?_
      refine a_iN_3_5 (m := p + 1) (pc' := 62) dX6_claims_59 (nI_add _ _) rfl ?_
      refine a_goto (pc' := 16) dX6_claims_62 (by decide) ?_
      exact ih (p + 1) _ _ (by omega) (by simpa [clmL, c_40] using hΦ)
set_option maxRecDepth 20000 in
set_option maxHeartbeats 4000000 in
theorem ct_X6_claims {np : Nat} (hm : np ≤ 12) (x : Int32) (M : Mm) (h1 : M 0 1 = nI np) : Ct yX6_claims cX6_claims 5 (some .int) 3 64 [.inr (6, 0, 0, 0), .inl x] M (RI (clmS (M 0) x) M) := by
  have hnp : npF (M 0) = np := by unfold npF; rw [h1]; exact nI_clamp (by omega)
  refine Ct.at RX6 rfl (by decide +kernel) (Nat.le_of_ble_eq_true rfl) [some (.inr (6, 0, 0, 0)), some (.inl x), none, none, none] rfl (fun G => ?_)
  refine a_il_1_5 (pc' := 1) dX6_claims_0 rfl ?_
  refine a_iconst (v := nI 0) (pc' := 2) dX6_claims_1 (by decide) rfl ?_
  refine a_iconst (v := nI 3) (pc' := 3) dX6_claims_2 (by decide) rfl ?_
  refine k_SI (pc' := 6) (ct_X6_isWithin _ _ _ _) cw_X6_196 ms_X6_isWithin rfl (by decide) (by decide) (Nat.le_of_ble_eq_true rfl) rfl dX6_claims_3 rfl ?_
  refine a_ifB_ne (pc' := 9) (tgt := 12) dX6_claims_6 (by decide) rfl (fun c_6 => ?_) (fun c_6 => ?_)
  · refine a_iconst (v := nI 0) (pc' := 13) dX6_claims_12 (by decide) rfl ?_
    refine a_is_2_5 (pc' := 14) dX6_claims_13 rfl ?_
    refine a_iconst (v := nI 0) (pc' := 15) dX6_claims_14 (by decide) rfl ?_
    refine a_is_3_5 (pc' := 16) dX6_claims_15 rfl ?_
    exact lp_X6_claims hm _ _ h1 np 0 _ _ (by omega) ⟨by simp [clmS, c_6, hnp], rfl⟩
  · refine a_ldc (pc' := 11) dX6_claims_9 cn_X6_133 rfl ?_
    refine a_iret dX6_claims_11 rfl rfl ?_
    exact fI (by simp [clmS, c_6])
