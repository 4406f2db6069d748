set_option maxRecDepth 20000 in
set_option maxHeartbeats 4000000 in
theorem ct_X7_apart (x y : Int32) (M : Mm) : Ct yX7_apart cX7_apart 2 (some .int) 0 0 [.inl x, .inl y] M (RI (apS x y) M) := by
  refine Ct.at RX7 rfl (by decide +kernel) (Nat.le_of_ble_eq_true rfl) [some (.inl x), some (.inl y)] rfl (fun G => ?_)
  refine a_il_0_2 (pc' := 1) dX7_apart_0 rfl ?_
  refine a_il_1_2 (pc' := 2) dX7_apart_1 rfl ?_
  refine a_icmp_ge (pc' := 5) (tgt := 11) dX7_apart_2 (by decide) rfl (fun c_2 => ?_) (fun c_2 => ?_)
  · refine a_il_0_2 (pc' := 12) dX7_apart_11 rfl ?_
    refine a_il_1_2 (pc' := 13) dX7_apart_12 rfl ?_
    refine a_isub (pc' := 14) dX7_apart_13 rfl ?_
    refine a_iret dX7_apart_14 rfl rfl ?_
    exact fI (by simp [apS, c_2])
  · refine a_il_1_2 (pc' := 6) dX7_apart_5 rfl ?_
    refine a_il_0_2 (pc' := 7) dX7_apart_6 rfl ?_
    refine a_isub (pc' := 8) dX7_apart_7 rfl ?_
    refine a_goto (pc' := 14) dX7_apart_8 (by decide) ?_
    refine a_iret dX7_apart_14 rfl rfl ?_
    exact fI (by simp [apS, c_2])
set_option maxRecDepth 20000 in
set_option maxHeartbeats 4000000 in
theorem ct_X7_zoneSpot {v z : Nat} (M : Mm) : Ct yX7_zoneSpot cX7_zoneSpot 2 (some .int) 0 0 [.inl (nI v), .inl (nI z)] M (RI (nI (10 + 19 * v + 5 * z)) M) := by
  refine Ct.at RX7 rfl (by decide +kernel) (Nat.le_of_ble_eq_true rfl) [some (.inl (nI v)), some (.inl (nI z))] rfl (fun G => ?_)
  refine a_bipush (v := nI 6) (pc' := 2) dX7_zoneSpot_0 (by decide) rfl ?_
  refine a_bipush (v := nI 19) (pc' := 4) dX7_zoneSpot_2 (by decide) rfl ?_
  refine a_il_0_2 (pc' := 5) dX7_zoneSpot_4 rfl ?_
  refine a_imulN (pc' := 6) dX7_zoneSpot_5 rfl ?_
  refine a_iaddN (pc' := 7) dX7_zoneSpot_6 rfl ?_
  refine a_iconst (v := nI 4) (pc' := 8) dX7_zoneSpot_7 (by decide) rfl ?_
  refine a_iaddN (pc' := 9) dX7_zoneSpot_8 rfl ?_
  refine a_iconst (v := nI 5) (pc' := 10) dX7_zoneSpot_9 (by decide) rfl ?_
  refine a_il_1_2 (pc' := 11) dX7_zoneSpot_10 rfl ?_
  refine a_imulN (pc' := 12) dX7_zoneSpot_11 rfl ?_
  refine a_iaddN (pc' := 13) dX7_zoneSpot_12 rfl ?_
  refine a_iret dX7_zoneSpot_13 rfl rfl ?_
  exact fI (congrArg nI (by omega))
set_option maxRecDepth 20000 in
set_option maxHeartbeats 4000000 in
theorem ct_X7_palletSpot {p : Nat} (M : Mm) : Ct yX7_palletSpot cX7_palletSpot 1 (some .int) 0 0 [.inl (nI p)] M (RI (nI (63 + 10 * p)) M) := by
  refine Ct.at RX7 rfl (by decide +kernel) (Nat.le_of_ble_eq_true rfl) [some (.inl (nI p))] rfl (fun G => ?_)
  refine a_bipush (v := nI 63) (pc' := 2) dX7_palletSpot_0 (by decide) rfl ?_
  refine a_bipush (v := nI 10) (pc' := 4) dX7_palletSpot_2 (by decide) rfl ?_
  refine a_il_0_1 (pc' := 5) dX7_palletSpot_4 rfl ?_
  refine a_imulN (pc' := 6) dX7_palletSpot_5 rfl ?_
  refine a_iaddN (pc' := 7) dX7_palletSpot_6 rfl ?_
  refine a_iret dX7_palletSpot_7 rfl rfl ?_
  exact fI rfl
set_option maxRecDepth 20000 in
set_option maxHeartbeats 4000000 in
theorem ct_X7_of {v w : Nat} (hv : v < 3) (hw : w < 4) (M : Mm) : Ct yX7_of cX7_of 3 (some .int) 0 0 [.inr (7, 0, 0, 0), .inl (nI v), .inl (nI w)] M (RI (M 50 (6 + 19 * v + w)) M) := by
  refine Ct.at RX7 rfl (by decide +kernel) (Nat.le_of_ble_eq_true rfl) [some (.inr (7, 0, 0, 0)), some (.inl (nI v)), some (.inl (nI w))] rfl (fun G => ?_)
  refine a_al_0_3 (pc' := 1) dX7_of_0 rfl ?_
  refine gf_7_0 (pc' := 4) fl_X7_7 dX7_of_1 rfl ?_
  refine a_bipush (v := nI 6) (pc' := 6) dX7_of_4 (by decide) rfl ?_
  refine a_bipush (v := nI 19) (pc' := 8) dX7_of_6 (by decide) rfl ?_
  refine a_il_1_3 (pc' := 9) dX7_of_8 rfl ?_
  refine a_imulN (pc' := 10) dX7_of_9 rfl ?_
  refine a_iaddN (pc' := 11) dX7_of_10 rfl ?_
  refine a_il_2_3 (pc' := 12) dX7_of_11 rfl ?_
  refine a_iaddN (pc' := 13) dX7_of_12 rfl ?_
  refine a_ialdN (pc' := 14) rfl (by omega) (by decide) dX7_of_13 rfl ?_
  refine a_iret dX7_of_14 rfl rfl ?_
  exact fI (by simp [])
set_option maxRecDepth 20000 in
set_option maxHeartbeats 4000000 in
theorem ct_X7_at {v z w : Nat} (hv : v < 3) (hz : z < 3) (hw : w < 5) (M : Mm) : Ct yX7_at cX7_at 4 (some .int) 1 21 [.inr (7, 0, 0, 0), .inl (nI v), .inl (nI z), .inl (nI w)] M (RI (M 50 (10 + 19 * v + 5 * z + w)) M) := by
  refine Ct.at RX7 rfl (by decide +kernel) (Nat.le_of_ble_eq_true rfl) [some (.inr (7, 0, 0, 0)), some (.inl (nI v)), some (.inl (nI z)), some (.inl (nI w))] rfl (fun G => ?_)
  refine a_al_0_4 (pc' := 1) dX7_at_0 rfl ?_
  refine gf_7_0 (pc' := 4) fl_X7_7 dX7_at_1 rfl ?_
  refine a_il_1_4 (pc' := 5) dX7_at_4 rfl ?_
  refine a_il_2_4 (pc' := 6) dX7_at_5 rfl ?_
  refine k_SI (pc' := 9) (ct_X7_zoneSpot _) cw_X7_47 ms_X7_zoneSpot rfl (by decide) (by decide) (Nat.le_of_ble_eq_true rfl) rfl dX7_at_6 rfl ?_
  refine a_il_3_4 (pc' := 10) dX7_at_9 rfl ?_
  refine a_iaddN (pc' := 11) dX7_at_10 rfl ?_
  refine a_ialdN (pc' := 12) rfl (by omega) (by decide) dX7_at_11 rfl ?_
  refine a_iret dX7_at_12 rfl rfl ?_
  exact fI (by simp [])
set_option maxRecDepth 20000 in
set_option maxHeartbeats 4000000 in
theorem ct_X7_its {p w : Nat} (hp : p < 12) (hw : w < 10) (M : Mm) : Ct yX7_its cX7_its 3 (some .int) 1 20 [.inr (7, 0, 0, 0), .inl (nI p), .inl (nI w)] M (RI (M 50 (63 + 10 * p + w)) M) := by
  refine Ct.at RX7 rfl (by decide +kernel) (Nat.le_of_ble_eq_true rfl) [some (.inr (7, 0, 0, 0)), some (.inl (nI p)), some (.inl (nI w))] rfl (fun G => ?_)
  refine a_al_0_3 (pc' := 1) dX7_its_0 rfl ?_
  refine gf_7_0 (pc' := 4) fl_X7_7 dX7_its_1 rfl ?_
  refine a_il_1_3 (pc' := 5) dX7_its_4 rfl ?_
  refine k_SI (pc' := 8) (ct_X7_palletSpot _) cw_X7_51 ms_X7_palletSpot rfl (by decide) (by decide) (Nat.le_of_ble_eq_true rfl) rfl dX7_its_5 rfl ?_
  refine a_il_2_3 (pc' := 9) dX7_its_8 rfl ?_
  refine a_bipush (v := nI 10) (pc' := 11) dX7_its_9 (by decide) rfl ?_
  refine a_icmp_ne (pc' := 14) (tgt := 19) dX7_its_11 (by decide) rfl (fun c_11 => ?_) (fun c_11 => absurd c_11 (by rw [nI_eqm]; omega))
  refine a_il_2_3 (pc' := 20) dX7_its_19 rfl ?_
  refine a_iaddN (pc' := 21) dX7_its_20 rfl ?_
  refine a_ialdN (pc' := 22) rfl (by omega) (by decide) dX7_its_21 rfl ?_
  refine a_iret dX7_its_22 rfl rfl ?_
  exact fI (by simp [])
set_option maxRecDepth 20000 in
set_option maxHeartbeats 4000000 in
theorem ct_X7_its10 {p : Nat} (hp : p < 12) (M : Mm) : Ct yX7_its cX7_its 3 (some .int) 1 20 [.inr (7, 0, 0, 0), .inl (nI p), .inl (nI 10)] M (RI (M 50 (63 + 10 * p + 9)) M) := by
  refine Ct.at RX7 rfl (by decide +kernel) (Nat.le_of_ble_eq_true rfl) [some (.inr (7, 0, 0, 0)), some (.inl (nI p)), some (.inl (nI 10))] rfl (fun G => ?_)
  refine a_al_0_3 (pc' := 1) dX7_its_0 rfl ?_
  refine gf_7_0 (pc' := 4) fl_X7_7 dX7_its_1 rfl ?_
  refine a_il_1_3 (pc' := 5) dX7_its_4 rfl ?_
  refine k_SI (pc' := 8) (ct_X7_palletSpot _) cw_X7_51 ms_X7_palletSpot rfl (by decide) (by decide) (Nat.le_of_ble_eq_true rfl) rfl dX7_its_5 rfl ?_
  refine a_il_2_3 (pc' := 9) dX7_its_8 rfl ?_
  refine a_bipush (v := nI 10) (pc' := 11) dX7_its_9 (by decide) rfl ?_
  refine a_icmp_ne (pc' := 14) (tgt := 19) dX7_its_11 (by decide) rfl (fun c_11 => absurd (by decide) c_11) (fun c_11 => ?_)
  refine a_bipush (v := nI 9) (pc' := 16) dX7_its_14 (by decide) rfl ?_
  refine a_goto (pc' := 20) dX7_its_16 (by decide) ?_
  refine a_iaddN (pc' := 21) dX7_its_20 rfl ?_
  refine a_ialdN (pc' := 22) rfl (by omega) (by decide) dX7_its_21 rfl ?_
  refine a_iret dX7_its_22 rfl rfl ?_
  exact fI (by simp [])
set_option maxRecDepth 20000 in
set_option maxHeartbeats 4000000 in
theorem ct_X7_reading {v z : Nat} (hv : v < 3) (hz : z < 3) (M : Mm) : Ct yX7_reading cX7_reading 4 (some .int) 2 44 [.inr (7, 0, 0, 0), .inl (nI v), .inl (nI z)] M (RI (rdg (M 50) (10 + 19 * v + 5 * z)) M) := by
  refine Ct.at RX7 rfl (by decide +kernel) (Nat.le_of_ble_eq_true rfl) [some (.inr (7, 0, 0, 0)), some (.inl (nI v)), some (.inl (nI z)), none] rfl (fun G => ?_)
  refine a_al_0_4 (pc' := 1) dX7_reading_0 rfl ?_
  refine a_il_1_4 (pc' := 2) dX7_reading_1 rfl ?_
  refine a_il_2_4 (pc' := 3) dX7_reading_2 rfl ?_
  refine a_iconst (v := nI 1) (pc' := 4) dX7_reading_3 (by decide) rfl ?_
  refine k_VI (pc' := 7) (ct_X7_at (by omega) (by omega) (by omega) _) cw_X7_55 mi_X7_at se_X7_at rfl rfl rfl rfl (by decide) (by decide) (Nat.le_of_ble_eq_true rfl) rfl dX7_reading_4 rfl ?_
  refine a_is_3_4 (pc' := 8) dX7_reading_7 rfl ?_
  refine a_il_3_4 (pc' := 9) dX7_reading_8 rfl ?_
  refine a_iconst (v := nI 2) (pc' := 10) dX7_reading_9 (by decide) rfl ?_
  refine a_icmp_ne (pc' := 13) (tgt := 23) dX7_reading_10 (by decide) rfl (fun c_10 => ?_) (fun c_10 => ?_)
  · refine a_al_0_4 (pc' := 24) dX7_reading_23 rfl ?_
    refine a_il_1_4 (pc' := 25) dX7_reading_24 rfl ?_
    refine a_il_2_4 (pc' := 26) dX7_reading_25 rfl ?_
    refine a_iconst (v := nI 0) (pc' := 27) dX7_reading_26 (by decide) rfl ?_
    refine k_VI (pc' := 30) (ct_X7_at (by omega) (by omega) (by omega) _) cw_X7_55 mi_X7_at se_X7_at rfl rfl rfl rfl (by decide) (by decide) (Nat.le_of_ble_eq_true rfl) rfl dX7_reading_27 rfl ?_
    refine a_il_3_4 (pc' := 31) dX7_reading_30 rfl ?_
    refine a_iconst (v := nI 1) (pc' := 32) dX7_reading_31 (by decide) rfl ?_
    refine a_icmp_ne (pc' := 35) (tgt := 45) dX7_reading_32 (by decide) rfl (fun c_32 => ?_) (fun c_32 => ?_)
    · refine a_iconst (v := nI 0) (pc' := 46) dX7_reading_45 (by decide) rfl ?_
      refine a_iadd (pc' := 47) dX7_reading_46 rfl ?_
      refine a_iret dX7_reading_47 rfl rfl ?_
      exact fI (by simp [rdg, c_10, c_32, nI_eqm, nI_0, Int32.add_zero])
    · refine a_al_0_4 (pc' := 36) dX7_reading_35 rfl ?_
      refine a_il_1_4 (pc' := 37) dX7_reading_36 rfl ?_
      refine a_il_2_4 (pc' := 38) dX7_reading_37 rfl ?_
      refine a_iconst (v := nI 2) (pc' := 39) dX7_reading_38 (by decide) rfl ?_
      refine k_VI (pc' := 42) (ct_X7_at (by omega) (by omega) (by omega) _) cw_X7_55 mi_X7_at se_X7_at rfl rfl rfl rfl (by decide) (by decide) (Nat.le_of_ble_eq_true rfl) rfl dX7_reading_39 rfl ?_
      refine a_goto (pc' := 46) dX7_reading_42 (by decide) ?_
      refine a_iadd (pc' := 47) dX7_reading_46 rfl ?_
      refine a_iret dX7_reading_47 rfl rfl ?_
      exact fI (by simp [rdg, c_10, c_32, nI_eqm, nI_0, Int32.add_zero])
  · refine a_al_0_4 (pc' := 14) dX7_reading_13 rfl ?_
    refine a_il_1_4 (pc' := 15) dX7_reading_14 rfl ?_
    refine a_il_2_4 (pc' := 16) dX7_reading_15 rfl ?_
    refine a_iconst (v := nI 2) (pc' := 17) dX7_reading_16 (by decide) rfl ?_
    refine k_VI (pc' := 20) (ct_X7_at (by omega) (by omega) (by omega) _) cw_X7_55 mi_X7_at se_X7_at rfl rfl rfl rfl (by decide) (by decide) (Nat.le_of_ble_eq_true rfl) rfl dX7_reading_17 rfl ?_
    refine a_goto (pc' := 47) dX7_reading_20 (by decide) ?_
    refine a_iret dX7_reading_47 rfl rfl ?_
    exact fI (by simp [rdg, c_10, nI_eqm, nI_0, Int32.add_zero])
set_option maxRecDepth 20000 in
set_option maxHeartbeats 4000000 in
theorem ct_X7_told {v z : Nat} (hv : v < 3) (hz : z < 3) (M : Mm) : Ct yX7_told cX7_told 4 (some .int) 3 67 [.inr (7, 0, 0, 0), .inl (nI v), .inl (nI z)] M (RI (toldF (M 50) v z) M) := by
  refine Ct.at RX7 rfl (by decide +kernel) (Nat.le_of_ble_eq_true rfl) [some (.inr (7, 0, 0, 0)), some (.inl (nI v)), some (.inl (nI z)), none] rfl (fun G => ?_)
  refine a_al_0_4 (pc' := 1) dX7_told_0 rfl ?_
  refine a_il_1_4 (pc' := 2) dX7_told_1 rfl ?_
  refine a_il_2_4 (pc' := 3) dX7_told_2 rfl ?_
  refine a_iconst (v := nI 3) (pc' := 4) dX7_told_3 (by decide) rfl ?_
  refine k_VI (pc' := 7) (ct_X7_at (by omega) (by omega) (by omega) _) cw_X7_55 mi_X7_at se_X7_at rfl rfl rfl rfl (by decide) (by decide) (Nat.le_of_ble_eq_true rfl) rfl dX7_told_4 rfl ?_
  refine a_if_ne (pc' := 10) (tgt := 17) dX7_told_7 (by decide) rfl (fun c_7 => ?_) (fun c_7 => ?_)
  · refine a_al_0_4 (pc' := 18) dX7_told_17 rfl ?_
    refine a_il_1_4 (pc' := 19) dX7_told_18 rfl ?_
    refine a_il_2_4 (pc' := 20) dX7_told_19 rfl ?_
    refine a_iconst (v := nI 1) (pc' := 21) dX7_told_20 (by decide) rfl ?_
    refine a_iaddN (pc' := 22) dX7_told_21 rfl ?_
    refine a_iconst (v := nI 3) (pc' := 23) dX7_told_22 (by decide) rfl ?_
    refine a_iremN (pc' := 24) (by omega) (by decide) (by decide) dX7_told_23 rfl ?_
    refine k_VI (pc' := 27) (ct_X7_reading (by omega) (by omega) _) cw_X7_59 mi_X7_reading se_X7_reading rfl rfl rfl rfl (by decide) (by decide) (Nat.le_of_ble_eq_true rfl) rfl dX7_told_24 rfl ?_
    refine a_al_0_4 (pc' := 28) dX7_told_27 rfl ?_
    refine a_il_1_4 (pc' := 29) dX7_told_28 rfl ?_
    refine a_il_2_4 (pc' := 30) dX7_told_29 rfl ?_
    refine a_iconst (v := nI 2) (pc' := 31) dX7_told_30 (by decide) rfl ?_
    refine a_iaddN (pc' := 32) dX7_told_31 rfl ?_
    refine a_iconst (v := nI 3) (pc' := 33) dX7_told_32 (by decide) rfl ?_
    refine a_iremN (pc' := 34) (by omega) (by decide) (by decide) dX7_told_33 rfl ?_
    refine k_VI (pc' := 37) (ct_X7_reading (by omega) (by omega) _) cw_X7_59 mi_X7_reading se_X7_reading rfl rfl rfl rfl (by decide) (by decide) (Nat.le_of_ble_eq_true rfl) rfl dX7_told_34 rfl ?_
    refine a_iadd (pc' := 38) dX7_told_37 rfl ?_
    refine a_is_3_4 (pc' := 39) dX7_told_38 rfl ?_
    refine a_il_3_4 (pc' := 40) dX7_told_39 rfl ?_
    refine a_iconst (v := nI 1) (pc' := 41) dX7_told_40 (by decide) rfl ?_
    refine a_ishr (pc' := 42) dX7_told_41 rfl ?_
    refine a_iret dX7_told_42 rfl rfl ?_
    exact fI (by simp [toldF, c_7, fdS_shr])
  · refine a_al_0_4 (pc' := 11) dX7_told_10 rfl ?_
    refine a_il_1_4 (pc' := 12) dX7_told_11 rfl ?_
    refine a_il_2_4 (pc' := 13) dX7_told_12 rfl ?_
    refine k_VI (pc' := 16) (ct_X7_reading (by omega) (by omega) _) cw_X7_59 mi_X7_reading se_X7_reading rfl rfl rfl rfl (by decide) (by decide) (Nat.le_of_ble_eq_true rfl) rfl dX7_told_13 rfl ?_
    refine a_iret dX7_told_16 rfl rfl ?_
    exact fI (by simp [toldF, c_7, fdS_shr])
set_option maxRecDepth 20000 in
set_option maxHeartbeats 4000000 in
theorem ct_X7_isVan {nv : Nat} (hn : nv ≤ 3) (x : Int32) (M : Mm) (h0 : M 50 0 = nI nv) : Ct yX7_isVan cX7_isVan 2 (some .boolean) 1 22 [.inr (7, 0, 0, 0), .inl x] M (RT (hvS (M 50) x) M) := by
  refine Ct.at RX7 rfl (by decide +kernel) (Nat.le_of_ble_eq_true rfl) [some (.inr (7, 0, 0, 0)), some (.inl x)] rfl (fun G => ?_)
  refine a_il_1_2 (pc' := 1) dX7_isVan_0 rfl ?_
  refine a_iconst (v := nI 0) (pc' := 2) dX7_isVan_1 (by decide) rfl ?_
  refine a_al_0_2 (pc' := 3) dX7_isVan_2 rfl ?_
  refine gf_7_0 (pc' := 6) fl_X7_7 dX7_isVan_3 rfl ?_
  refine a_iconst (v := nI 0) (pc' := 7) dX7_isVan_6 (by decide) rfl ?_
  refine a_ialdN (pc' := 8) rfl (by omega) (by decide) dX7_isVan_7 rfl ?_
  refine a_iconst (v := nI 1) (pc' := 9) dX7_isVan_8 (by decide) rfl ?_
  refine a_isub (pc' := 10) dX7_isVan_9 rfl ?_
  refine k_SI (pc' := 13) (ct_X7_in _ _ _ _) cw_X7_43 ms_X7_in rfl (by decide) (by decide) (Nat.le_of_ble_eq_true rfl) rfl dX7_isVan_10 rfl ?_
  refine a_iret dX7_isVan_13 rfl (n_bI _) ?_
  exact fI (bI_inj.mpr (isVan_eq x h0 (by omega)))
set_option maxRecDepth 20000 in
set_option maxHeartbeats 4000000 in
theorem ct_X7_isPallet {np : Nat} (hm : np ≤ 12) (x : Int32) (M : Mm) (h1 : M 50 1 = nI np) : Ct yX7_isPallet cX7_isPallet 2 (some .boolean) 1 22 [.inr (7, 0, 0, 0), .inl x] M (RT (hpS (M 50) x) M) := by
  refine Ct.at RX7 rfl (by decide +kernel) (Nat.le_of_ble_eq_true rfl) [some (.inr (7, 0, 0, 0)), some (.inl x)] rfl (fun G => ?_)
  refine a_il_1_2 (pc' := 1) dX7_isPallet_0 rfl ?_
  refine a_iconst (v := nI 0) (pc' := 2) dX7_isPallet_1 (by decide) rfl ?_
  refine a_al_0_2 (pc' := 3) dX7_isPallet_2 rfl ?_
  refine gf_7_0 (pc' := 6) fl_X7_7 dX7_isPallet_3 rfl ?_
  refine a_iconst (v := nI 1) (pc' := 7) dX7_isPallet_6 (by decide) rfl ?_
  refine a_ialdN (pc' := 8) rfl (by omega) (by decide) dX7_isPallet_7 rfl ?_
  refine a_iconst (v := nI 1) (pc' := 9) dX7_isPallet_8 (by decide) rfl ?_
  refine a_isub (pc' := 10) dX7_isPallet_9 rfl ?_
  refine k_SI (pc' := 13) (ct_X7_in _ _ _ _) cw_X7_43 ms_X7_in rfl (by decide) (by decide) (Nat.le_of_ble_eq_true rfl) rfl dX7_isPallet_10 rfl ?_
  refine a_iret dX7_isPallet_13 rfl (n_bI _) ?_
  exact fI (bI_inj.mpr (isPal_eq x h1 (by omega)))
set_option maxRecDepth 20000 in
set_option maxHeartbeats 4000000 in
theorem ct_X7_isZone (x : Int32) (M : Mm) : Ct yX7_isZone cX7_isZone 1 (some .boolean) 1 22 [.inl x] M (RT (inn x (nI 0) (nI 2)) M) := by
  refine Ct.at RX7 rfl (by decide +kernel) (Nat.le_of_ble_eq_true rfl) [some (.inl x)] rfl (fun G => ?_)
  refine a_il_0_1 (pc' := 1) dX7_isZone_0 rfl ?_
  refine a_iconst (v := nI 0) (pc' := 2) dX7_isZone_1 (by decide) rfl ?_
  refine a_iconst (v := nI 2) (pc' := 3) dX7_isZone_2 (by decide) rfl ?_
  refine k_SI (pc' := 6) (ct_X7_in _ _ _ _) cw_X7_43 ms_X7_in rfl (by decide) (by decide) (Nat.le_of_ble_eq_true rfl) rfl dX7_isZone_3 rfl ?_
  refine a_iret dX7_isZone_6 rfl (n_bI _) ?_
  exact fI (bI_inj.mpr (by simp []))
set_option maxRecDepth 20000 in
set_option maxHeartbeats 4000000 in
theorem ct_X7_isOdd {v z : Nat} (hv : v < 3) (hz : z < 3) (M : Mm) (hb : ∀ z, z < 3 → bt (-1000) 1000 (rdg (M 50) (10 + 19 * v + 5 * z))) : Ct yX7_isOdd cX7_isOdd 6 (some .boolean) 3 67 [.inr (7, 0, 0, 0), .inl (nI v), .inl (nI z)] M (RT (oddF (M 50) v z (M 50 4)) M) := by
  have e0 : abS (rdg (M 50) (10 + 19 * v + 5 * z) - rdg (M 50) (10 + 19 * v + 5 * ((z + 1) % 3))) = apS (rdg (M 50) (10 + 19 * v + 5 * z)) (rdg (M 50) (10 + 19 * v + 5 * ((z + 1) % 3))) := ap_ab (hb _ (by omega)) (hb _ (by omega))
  have e1 : abS (rdg (M 50) (10 + 19 * v + 5 * z) - rdg (M 50) (10 + 19 * v + 5 * ((z + 2) % 3))) = apS (rdg (M 50) (10 + 19 * v + 5 * z)) (rdg (M 50) (10 + 19 * v + 5 * ((z + 2) % 3))) := ap_ab (hb _ (by omega)) (hb _ (by omega))
  have e2 : abS (rdg (M 50) (10 + 19 * v + 5 * ((z + 1) % 3)) - rdg (M 50) (10 + 19 * v + 5 * ((z + 2) % 3))) = apS (rdg (M 50) (10 + 19 * v + 5 * ((z + 1) % 3))) (rdg (M 50) (10 + 19 * v + 5 * ((z + 2) % 3))) := ap_ab (hb _ (by omega)) (hb _ (by omega))
  refine Ct.at RX7 rfl (by decide +kernel) (Nat.le_of_ble_eq_true rfl) [some (.inr (7, 0, 0, 0)), some (.inl (nI v)), some (.inl (nI z)), none, none, none] rfl (fun G => ?_)
  refine a_al_0_6 (pc' := 1) dX7_isOdd_0 rfl ?_
  refine a_il_1_6 (pc' := 2) dX7_isOdd_1 rfl ?_
  refine a_il_2_6 (pc' := 3) dX7_isOdd_2 rfl ?_
  refine k_VI (pc' := 6) (ct_X7_reading (by omega) (by omega) _) cw_X7_59 mi_X7_reading se_X7_reading rfl rfl rfl rfl (by decide) (by decide) (Nat.le_of_ble_eq_true rfl) rfl dX7_isOdd_3 rfl ?_
  refine a_is_3_6 (pc' := 7) dX7_isOdd_6 rfl ?_
  refine a_al_0_6 (pc' := 8) dX7_isOdd_7 rfl ?_
  refine a_il_1_6 (pc' := 9) dX7_isOdd_8 rfl ?_
  refine a_il_2_6 (pc' := 10) dX7_isOdd_9 rfl ?_
  refine a_iconst (v := nI 1) (pc' := 11) dX7_isOdd_10 (by decide) rfl ?_
  refine a_iaddN (pc' := 12) dX7_isOdd_11 rfl ?_
  refine a_iconst (v := nI 3) (pc' := 13) dX7_isOdd_12 (by decide) rfl ?_
  refine a_iremN (pc' := 14) (by omega) (by decide) (by decide) dX7_isOdd_13 rfl ?_
  refine k_VI (pc' := 17) (ct_X7_reading (by omega) (by omega) _) cw_X7_59 mi_X7_reading se_X7_reading rfl rfl rfl rfl (by decide) (by decide) (Nat.le_of_ble_eq_true rfl) rfl dX7_isOdd_14 rfl ?_
  refine a_is_4_6 (pc' := 19) dX7_isOdd_17 rfl ?_
  refine a_al_0_6 (pc' := 20) dX7_isOdd_19 rfl ?_
  refine a_il_1_6 (pc' := 21) dX7_isOdd_20 rfl ?_
  refine a_il_2_6 (pc' := 22) dX7_isOdd_21 rfl ?_
  refine a_iconst (v := nI 2) (pc' := 23) dX7_isOdd_22 (by decide) rfl ?_
  refine a_iaddN (pc' := 24) dX7_isOdd_23 rfl ?_
  refine a_iconst (v := nI 3) (pc' := 25) dX7_isOdd_24 (by decide) rfl ?_
  refine a_iremN (pc' := 26) (by omega) (by decide) (by decide) dX7_isOdd_25 rfl ?_
  refine k_VI (pc' := 29) (ct_X7_reading (by omega) (by omega) _) cw_X7_59 mi_X7_reading se_X7_reading rfl rfl rfl rfl (by decide) (by decide) (Nat.le_of_ble_eq_true rfl) rfl dX7_isOdd_26 rfl ?_
  refine a_is_5_6 (pc' := 31) dX7_isOdd_29 rfl ?_
  refine a_il_3_6 (pc' := 32) dX7_isOdd_31 rfl ?_
  refine a_il_4_6 (pc' := 34) dX7_isOdd_32 rfl ?_
  refine k_SI (pc' := 37) (ct_X7_apart _ _ _) cw_X7_62 ms_X7_apart rfl (by decide) (by decide) (Nat.le_of_ble_eq_true rfl) rfl dX7_isOdd_34 rfl ?_
  refine a_al_0_6 (pc' := 38) dX7_isOdd_37 rfl ?_
  refine gf_7_0 (pc' := 41) fl_X7_7 dX7_isOdd_38 rfl ?_
  refine a_iconst (v := nI 4) (pc' := 42) dX7_isOdd_41 (by decide) rfl ?_
  refine a_ialdN (pc' := 43) rfl (by omega) (by decide) dX7_isOdd_42 rfl ?_
  refine a_icmp_le (pc' := 46) (tgt := 81) dX7_isOdd_43 (by decide) rfl (fun c_43 => ?_) (fun c_43 => ?_)
  · refine a_iconst (v := nI 0) (pc' := 82) dX7_isOdd_81 (by decide) rfl ?_
    refine a_iret dX7_isOdd_82 rfl rfl ?_
    exact fB0 (by simp [oddF, c_43, e0, e1, e2, -Int32.not_le, -Int32.not_lt])
  · refine a_il_3_6 (pc' := 47) dX7_isOdd_46 rfl ?_
    refine a_il_5_6 (pc' := 49) dX7_isOdd_47 rfl ?_
    refine k_SI (pc' := 52) (ct_X7_apart _ _ _) cw_X7_62 ms_X7_apart rfl (by decide) (by decide) (Nat.le_of_ble_eq_true rfl) rfl dX7_isOdd_49 rfl ?_
    refine a_al_0_6 (pc' := 53) dX7_isOdd_52 rfl ?_
    refine gf_7_0 (pc' := 56) fl_X7_7 dX7_isOdd_53 rfl ?_
    refine a_iconst (v := nI 4) (pc' := 57) dX7_isOdd_56 (by decide) rfl ?_
    refine a_ialdN (pc' := 58) rfl (by omega) (by decide) dX7_isOdd_57 rfl ?_
    refine a_icmp_le (pc' := 61) (tgt := 81) dX7_isOdd_58 (by decide) rfl (fun c_58 => ?_) (fun c_58 => ?_)
    · refine a_iconst (v := nI 0) (pc' := 82) dX7_isOdd_81 (by decide) rfl ?_
      refine a_iret dX7_isOdd_82 rfl rfl ?_
      exact fB0 (by simp [oddF, c_43, c_58, e0, e1, e2, -Int32.not_le, -Int32.not_lt])
    · refine a_il_4_6 (pc' := 63) dX7_isOdd_61 rfl ?_
      refine a_il_5_6 (pc' := 65) dX7_isOdd_63 rfl ?_
      refine k_SI (pc' := 68) (ct_X7_apart _ _ _) cw_X7_62 ms_X7_apart rfl (by decide) (by decide) (Nat.le_of_ble_eq_true rfl) rfl dX7_isOdd_65 rfl ?_
      refine a_al_0_6 (pc' := 69) dX7_isOdd_68 rfl ?_
      refine gf_7_0 (pc' := 72) fl_X7_7 dX7_isOdd_69 rfl ?_
      refine a_iconst (v := nI 4) (pc' := 73) dX7_isOdd_72 (by decide) rfl ?_
      refine a_ialdN (pc' := 74) rfl (by omega) (by decide) dX7_isOdd_73 rfl ?_
      refine a_icmp_gt (pc' := 77) (tgt := 81) dX7_isOdd_74 (by decide) rfl (fun c_74 => ?_) (fun c_74 => ?_)
      · refine a_iconst (v := nI 0) (pc' := 82) dX7_isOdd_81 (by decide) rfl ?_
        refine a_iret dX7_isOdd_82 rfl rfl ?_
        exact fB0 (by simp [oddF, c_43, c_58, c_74, e0, e1, e2, -Int32.not_le, -Int32.not_lt])
      · refine a_iconst (v := nI 1) (pc' := 78) dX7_isOdd_77 (by decide) rfl ?_
        refine a_goto (pc' := 82) dX7_isOdd_78 (by decide) ?_
        refine a_iret dX7_isOdd_82 rfl rfl ?_
        exact fB1 (by simp [oddF, c_43, c_58, c_74, e0, e1, e2, -Int32.not_le, -Int32.not_lt])
set_option maxRecDepth 20000 in
set_option maxHeartbeats 4000000 in
theorem lp_X7_copies {G : Gl} {Φ : Option OV → Mm → Prop} {r r' : Nat} (ho : okO (9, r, 183, 0) = true) (ho' : okO (9, r', 183, 0) = true) (hne : r' ≠ r) (M0 : Mm) : ∀ (n p : Nat) , p + n = 183 → (Φ none (setR M0 r (cpR (M0 r) (M0 r') 0 183))) → AW G cX7_copies RX7 3 0 0 none Φ 2 [some (.inr (9, r, 183, 0)), some (.inr (9, r', 183, 0)), some (.inl (nI p))] [] (setR M0 r (cpR (M0 r) (M0 r') 0 p)) := by
  intro n
  induction n with
  | zero =>
    intro p  he  hΦ
    refine a_il_2_3 (pc' := 3) dX7_copies_2 rfl ?_
    refine a_sipush (v := nI 183) (pc' := 6) dX7_copies_3 (by decide) rfl ?_
    refine a_icmp_ge (pc' := 9) (tgt := 21) dX7_copies_6 (by decide) rfl (fun c_6 => ?_) (fun c_6 => absurd (nI_le (by omega) (by omega)) c_6)
    refine a_vret dX7_copies_21 rfl ?_
    obtain rfl : p = 183 := by omega
    exact hΦ
  | succ n ih =>
    intro p  he  hΦ
    refine a_il_2_3 (pc' := 3) dX7_copies_2 rfl ?_
    refine a_sipush (v := nI 183) (pc' := 6) dX7_copies_3 (by decide) rfl ?_
    refine a_icmp_ge (pc' := 9) (tgt := 21) dX7_copies_6 (by decide) rfl (fun c_6 => absurd c_6 (nI_ge (by omega) (by omega))) (fun c_6 => ?_)
    refine a_al_0_3 (pc' := 10) dX7_copies_9 rfl ?_
    refine a_il_2_3 (pc' := 11) dX7_copies_10 rfl ?_
    refine a_al_1_3 (pc' := 12) dX7_copies_11 rfl ?_
    refine a_il_2_3 (pc' := 13) dX7_copies_12 rfl ?_
    refine a_ialdN (pc' := 14) (by assumption) (by omega) (by decide) dX7_copies_13 rfl ?_
    refine a_iastN (pc' := 15) (by assumption) (by omega) (by decide) dX7_copies_14 rfl ?_
    refine a_iN_2_3 (m := p + 1) (pc' := 18) dX7_copies_15 (nI_add _ _) rfl ?_
    refine a_goto (pc' := 2) dX7_copies_18 (by decide) ?_
    rw [wr_eq, setR_same, setR_setR, setR_ne _ _ hne, show upd (cpR (M0 r) (M0 r') 0 p) p (M0 r' p) = cpR (M0 r) (M0 r') 0 (p + 1) from by simpa using cpR_succ (M0 r) (M0 r') 0 p]
    exact ih (p + 1) (by omega) hΦ
set_option maxRecDepth 20000 in
set_option maxHeartbeats 4000000 in
theorem ct_X7_copies {r r' : Nat} (ho : okO (9, r, 183, 0) = true) (ho' : okO (9, r', 183, 0) = true) (hne : r' ≠ r) (M : Mm) : Ct yX7_copies cX7_copies 3 none 0 0 [.inr (9, r, 183, 0), .inr (9, r', 183, 0)] M (RV (setR M r (cpR (M r) (M r') 0 183))) := by
  refine Ct.at RX7 rfl (by decide +kernel) (Nat.le_of_ble_eq_true rfl) [some (.inr (9, r, 183, 0)), some (.inr (9, r', 183, 0)), none] rfl (fun G => ?_)
  refine a_iconst (v := nI 0) (pc' := 1) dX7_copies_0 (by decide) rfl ?_
  refine a_is_2_3 (pc' := 2) dX7_copies_1 rfl ?_
  have e0 : setR M r (cpR (M r) (M r') 0 0) = M := by rw [cpR_0, setR_self]
  rw [← e0]
  exact lp_X7_copies ho ho' hne M 183 0 (by omega) (by rw [e0]; exact fV rfl)
set_option maxRecDepth 20000 in
set_option maxHeartbeats 4000000 in
theorem ct_X7_hold (M : Mm) : Ct yX7_hold cX7_hold 1 none 1 22 [.inr (7, 0, 0, 0)] M (RV (hM M)) := by
  refine Ct.at RX7 rfl (by decide +kernel) (Nat.le_of_ble_eq_true rfl) [some (.inr (7, 0, 0, 0))] rfl (fun G => ?_)
  refine a_al_0_1 (pc' := 1) dX7_hold_0 rfl ?_
  refine gf_7_2 (pc' := 4) fl_X7_16 dX7_hold_1 rfl ?_
  refine a_al_0_1 (pc' := 5) dX7_hold_4 rfl ?_
  refine gf_7_0 (pc' := 8) fl_X7_7 dX7_hold_5 rfl ?_
  refine k_SV (pc' := 11) (ct_X7_copies rfl rfl (by decide) _) cw_X7_35 ms_X7_copies rfl (by decide) (by decide) (Nat.le_of_ble_eq_true rfl) rfl dX7_hold_8 rfl ?_
  refine a_vret dX7_hold_11 rfl ?_
  exact fV rfl
set_option maxRecDepth 20000 in
set_option maxHeartbeats 4000000 in
theorem lp_X7_ends1 {G : Gl} {Φ : Option OV → Mm → Prop} (r : Int32) (M0 : Mm) : ∀ (n p : Nat) , p + n = 915 → (AW G cX7_ends RX7 3 0 0 (some .int) Φ 40 [some (.inr (7, 0, 0, 0)), some (.inl r), some (.inl (nI 915))] [] (setR M0 51 (shP (M0 51) 915))) → AW G cX7_ends RX7 3 0 0 (some .int) Φ 11 [some (.inr (7, 0, 0, 0)), some (.inl r), some (.inl (nI p))] [] (setR M0 51 (shP (M0 51) p)) := by
  intro n
  induction n with
  | zero =>
    intro p  he  hΦ
    refine a_il_2_3 (pc' := 12) dX7_ends_11 rfl ?_
    refine a_sipush (v := nI 915) (pc' := 15) dX7_ends_12 (by decide) rfl ?_
    refine a_icmp_ge (pc' := 18) (tgt := 40) dX7_ends_15 (by decide) rfl (fun c_15 => ?_) (fun c_15 => absurd (nI_le (by omega) (by omega)) c_15)
    obtain rfl : p = 915 := by omega
    exact hΦ
  | succ n ih =>
    intro p  he  hΦ
    refine a_il_2_3 (pc' := 12) dX7_ends_11 rfl ?_
    refine a_sipush (v := nI 915) (pc' := 15) dX7_ends_12 (by decide) rfl ?_
    refine a_icmp_ge (pc' := 18) (tgt := 40) dX7_ends_15 (by decide) rfl (fun c_15 => absurd c_15 (nI_ge (by omega) (by omega))) (fun c_15 => ?_)
    refine a_al_0_3 (pc' := 19) dX7_ends_18 rfl ?_
    refine gf_7_1 (pc' := 22) fl_X7_13 dX7_ends_19 rfl ?_
    refine a_il_2_3 (pc' := 23) dX7_ends_22 rfl ?_
    refine a_al_0_3 (pc' := 24) dX7_ends_23 rfl ?_
    refine gf_7_1 (pc' := 27) fl_X7_13 dX7_ends_24 rfl ?_
    refine a_il_2_3 (pc' := 28) dX7_ends_27 rfl ?_
    refine a_sipush (v := nI 183) (pc' := 31) dX7_ends_28 (by decide) rfl ?_
    refine a_iaddN (pc' := 32) dX7_ends_31 rfl ?_
    refine a_ialdN (pc' := 33) rfl (by omega) (by decide) dX7_ends_32 rfl ?_
    refine a_iastN (pc' := 34) rfl (by omega) (by decide) dX7_ends_33 rfl ?_
    refine a_iN_2_3 (m := p + 1) (pc' := 37) dX7_ends_34 (nI_add _ _) rfl ?_
    refine a_goto (pc' := 11) dX7_ends_37 (by decide) ?_
    rw [wr_eq, setR_same, setR_setR, shP_succ]
    exact ih (p + 1) (by omega) hΦ
set_option maxRecDepth 20000 in
set_option maxHeartbeats 4000000 in
theorem lp_X7_ends2 {G : Gl} {Φ : Option OV → Mm → Prop} {k : Nat} (hk : k < 6) (r : Int32) (M0 : Mm) (h6 : M0 60 0 = nI k) : ∀ (n p : Nat) , p + n = 183 → (Φ (some (.inl r)) (setR (setR M0 51 (puP (M0 51) (M0 52) k 183)) 60 (upd (M0 60) 0 (nI (k + 1))))) → AW G cX7_ends RX7 3 0 0 (some .int) Φ 52 [some (.inr (7, 0, 0, 0)), some (.inl r), some (.inl (nI p))] [] (setR M0 51 (puP (M0 51) (M0 52) k p)) := by
  intro n
  induction n with
  | zero =>
    intro p  he  hΦ
    refine a_il_2_3 (pc' := 53) dX7_ends_52 rfl ?_
    refine a_sipush (v := nI 183) (pc' := 56) dX7_ends_53 (by decide) rfl ?_
    refine a_icmp_ge (pc' := 59) (tgt := 86) dX7_ends_56 (by decide) rfl (fun c_56 => ?_) (fun c_56 => absurd (nI_le (by omega) (by omega)) c_56)
    refine a_al_0_3 (pc' := 87) dX7_ends_86 rfl ?_
    refine a_dup (pc' := 88) dX7_ends_87 rfl ?_
    refine gf_7_4 (pc' := 91) fl_X7_39 dX7_ends_88 rfl ?_
    rw [setR_ne _ _ (by decide), h6]
    refine a_iconst (v := nI 1) (pc' := 92) dX7_ends_91 (by decide) rfl ?_
    refine a_iaddN (pc' := 93) dX7_ends_92 rfl ?_
    refine pf_7_4 (pc' := 96) fl_X7_39 dX7_ends_93 rfl ?_
    refine a_il_1_3 (pc' := 97) dX7_ends_96 rfl ?_
    refine a_iret dX7_ends_97 rfl rfl ?_
    obtain rfl : p = 183 := by omega
    rw [wr_eq, setR_ne _ _ (show (60 : Nat) ≠ 51 by decide)]
    exact hΦ
  | succ n ih =>
    intro p  he  hΦ
    refine a_il_2_3 (pc' := 53) dX7_ends_52 rfl ?_
    refine a_sipush (v := nI 183) (pc' := 56) dX7_ends_53 (by decide) rfl ?_
    refine a_icmp_ge (pc' := 59) (tgt := 86) dX7_ends_56 (by decide) rfl (fun c_56 => absurd c_56 (nI_ge (by omega) (by omega))) (fun c_56 => ?_)
    refine a_al_0_3 (pc' := 60) dX7_ends_59 rfl ?_
    refine gf_7_1 (pc' := 63) fl_X7_13 dX7_ends_60 rfl ?_
    refine a_sipush (v := nI 183) (pc' := 66) dX7_ends_63 (by decide) rfl ?_
    refine a_al_0_3 (pc' := 67) dX7_ends_66 rfl ?_
    refine gf_7_4 (pc' := 70) fl_X7_39 dX7_ends_67 rfl ?_
    rw [setR_ne _ _ (by decide), h6]
    refine a_imulN (pc' := 71) dX7_ends_70 rfl ?_
    refine a_il_2_3 (pc' := 72) dX7_ends_71 rfl ?_
    refine a_iaddN (pc' := 73) dX7_ends_72 rfl ?_
    refine a_al_0_3 (pc' := 74) dX7_ends_73 rfl ?_
    refine gf_7_2 (pc' := 77) fl_X7_16 dX7_ends_74 rfl ?_
    refine a_il_2_3 (pc' := 78) dX7_ends_77 rfl ?_
    refine a_ialdN (pc' := 79) rfl (by omega) (by decide) dX7_ends_78 rfl ?_
    refine a_iastN (pc' := 80) rfl (by omega) (by decide) dX7_ends_79 rfl ?_
    refine a_iN_2_3 (m := p + 1) (pc' := 83) dX7_ends_80 (nI_add _ _) rfl ?_
    refine a_goto (pc' := 52) dX7_ends_83 (by decide) ?_
    rw [setR_ne _ _ (show (52 : Nat) ≠ 51 by decide), wr_eq, setR_same, setR_setR, puP_succ _ _ _ (by omega)]
    exact ih (p + 1) (by omega) hΦ
set_option maxRecDepth 20000 in
set_option maxHeartbeats 4000000 in
theorem ct_X7_ends {k : Nat} (hk : k ≤ 6) (r : Int32) (M : Mm) (h6 : M 60 0 = nI k) : Ct yX7_ends cX7_ends 3 (some .int) 0 0 [.inr (7, 0, 0, 0), .inl r] M (RI r (endM M k)) := by
  refine Ct.at RX7 rfl (by decide +kernel) (Nat.le_of_ble_eq_true rfl) [some (.inr (7, 0, 0, 0)), some (.inl r), none] rfl (fun G => ?_)
  refine a_al_0_3 (pc' := 1) dX7_ends_0 rfl ?_
  refine gf_7_4 (pc' := 4) fl_X7_39 dX7_ends_1 rfl ?_
  rw [h6]
  refine a_bipush (v := nI 6) (pc' := 6) dX7_ends_4 (by decide) rfl ?_
  refine a_icmp_ne (pc' := 9) (tgt := 50) dX7_ends_6 (by decide) rfl (fun c_6 => ?_) (fun c_6 => ?_)
  · refine a_iconst (v := nI 0) (pc' := 51) dX7_ends_50 (by decide) rfl ?_
    refine a_is_2_3 (pc' := 52) dX7_ends_51 rfl ?_
    have hk5 : k < 6 := by
      rcases Nat.lt_or_ge k 6 with w9 | w9
      · exact w9
      · exact absurd (by rw [show k = 6 by omega]) c_6
    have e0 : setR M 51 (puP (M 51) (M 52) k 0) = M := by rw [puP_0, setR_self]
    refine a_castS rfl e0.symm ?_
    refine lp_X7_ends2 hk5 r M h6 183 0 (by omega) ?_
    exact fIM rfl (by unfold endM; rw [if_neg (by omega : ¬ k = 6), if_neg (by omega : ¬ k = 6)])
  · refine a_iconst (v := nI 0) (pc' := 10) dX7_ends_9 (by decide) rfl ?_
    refine a_is_2_3 (pc' := 11) dX7_ends_10 rfl ?_
    have e0 : setR M 51 (shP (M 51) 0) = M := by rw [shP_0, setR_self]
    refine a_castS rfl e0.symm ?_
    refine lp_X7_ends1 r M 915 0 (by omega) ?_
    have hk6 : k = 6 := hk6_of c_6 (by omega)
    refine a_al_0_3 (pc' := 41) dX7_ends_40 rfl ?_
    refine a_dup (pc' := 42) dX7_ends_41 rfl ?_
    refine gf_7_4 (pc' := 45) fl_X7_39 dX7_ends_42 rfl ?_
    rw [setR_ne _ _ (by decide), h6, hk6]
    refine a_iconst (v := nI 1) (pc' := 46) dX7_ends_45 (by decide) rfl ?_
    refine a_isubN (pc' := 47) (by omega) dX7_ends_46 rfl ?_
    refine pf_7_4 (pc' := 50) fl_X7_39 dX7_ends_47 rfl ?_
    refine a_iconst (v := nI 0) (pc' := 51) dX7_ends_50 (by decide) rfl ?_
    refine a_is_2_3 (pc' := 52) dX7_ends_51 rfl ?_
    rw [wr_eq, setR_ne _ _ (show (60 : Nat) ≠ 51 by decide)]
    generalize hM1 : setR (setR M 51 (shP (M 51) 915)) 60 (upd (M 60) 0 (nI 5)) = M1
    have h61 : M1 60 0 = nI 5 := by rw [← hM1, setR_same]; rfl
    have e1 : setR M1 51 (puP (M1 51) (M1 52) 5 0) = M1 := by rw [puP_0, setR_self]
    refine a_castS rfl e1.symm ?_
    refine lp_X7_ends2 (k := 5) (by decide) r M1 h61 183 0 (by omega) ?_
    refine fIM rfl ?_
    subst hM1
    unfold endM
    subst hk6
    rw [if_pos rfl, if_pos rfl]
    rw [setR_ne _ _ (show (51 : Nat) ≠ 60 by decide), setR_same, setR_ne _ _ (show (52 : Nat) ≠ 60 by decide), setR_ne _ _ (show (52 : Nat) ≠ 51 by decide), setR_same, upd_upd, setR_comm _ _ _ (show (60 : Nat) ≠ 51 by decide), setR_setR, setR_setR]
