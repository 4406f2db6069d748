set_option maxRecDepth 20000 in
set_option maxHeartbeats 4000000 in
theorem ct_X0_row {v z t : Nat} (hv : v < 3) (hz : z < 3) (ht : t < 2) (M : Mm) : Ct yX0_row cX0_row 5 (some (.array .int)) 0 0 [.inr (0, 0, 0, 0), .inl (nI v), .inl (nI z), .inl (nI t)] M (RO (9, 30 + 9 * t + (v * 3 + z), 601, 0) M) := by
  refine Ct.at RX0 rfl (by decide +kernel) (Nat.le_of_ble_eq_true rfl) [some (.inr (0, 0, 0, 0)), some (.inl (nI v)), some (.inl (nI z)), some (.inl (nI t)), none] rfl (fun G => ?_)
  refine a_il_1_5 (pc' := 1) dX0_row_0 rfl ?_
  refine a_iconst (v := nI 3) (pc' := 2) dX0_row_1 (by decide) rfl ?_
  refine a_imulN (pc' := 3) dX0_row_2 rfl ?_
  refine a_il_2_5 (pc' := 4) dX0_row_3 rfl ?_
  refine a_iaddN (pc' := 5) dX0_row_4 rfl ?_
  refine a_is_4_5 (pc' := 7) dX0_row_5 rfl ?_
  refine a_il_3_5 (pc' := 8) dX0_row_7 rfl ?_
  refine a_if_ne (pc' := 11) (tgt := 21) dX0_row_8 (by decide) rfl (fun c_8 => ?_) (fun c_8 => ?_)
  · obtain rfl : t = 1 := by
      have : t ≠ 0 := fun w9 => c_8 (by rw [w9]; rfl)
      omega
    refine a_al_0_5 (pc' := 22) dX0_row_21 rfl ?_
    refine gf_0_1 (pc' := 25) fl_X0_16 dX0_row_22 rfl ?_
    refine a_il_4_5 (pc' := 27) dX0_row_25 rfl ?_
    refine aN_14 (j := (v * 3) + z) (pc' := 28) (by omega) (by omega) dX0_row_27 rfl ?_
    refine a_aret dX0_row_28 rfl ?_
    exact ⟨rfl, rfl⟩
  · obtain rfl : t = 0 := (nI_eq (by omega) (by decide)).mp c_8
    refine a_al_0_5 (pc' := 12) dX0_row_11 rfl ?_
    refine gf_0_0 (pc' := 15) fl_X0_11 dX0_row_12 rfl ?_
    refine a_il_4_5 (pc' := 17) dX0_row_15 rfl ?_
    refine aN_14 (j := (v * 3) + z) (pc' := 18) (by omega) (by omega) dX0_row_17 rfl ?_
    refine a_goto (pc' := 28) dX0_row_18 (by decide) ?_
    refine a_aret dX0_row_28 rfl ?_
    exact ⟨rfl, rfl⟩
set_option maxRecDepth 20000 in
set_option maxHeartbeats 4000000 in
theorem ct_X0_write {q v t : Nat} (hq : q < 9) (hv : v < 3) (ht : t < 601) (M : Mm) : Ct yX0_write cX0_write 5 none 2 45 [.inr (0, 0, 0, 0), .inl (nI v), .inl (nI t), .inr (4, q, v, 0)] M (RV (histW M q v t)) := by
  refine Ct.at RX0 rfl (by decide +kernel) (Nat.le_of_ble_eq_true rfl) [some (.inr (0, 0, 0, 0)), some (.inl (nI v)), some (.inl (nI t)), some (.inr (4, q, v, 0)), none] rfl (fun G => ?_)
  refine a_iconst (v := nI 0) (pc' := 1) dX0_write_0 (by decide) rfl ?_
  refine a_is_4_5 (pc' := 3) dX0_write_1 rfl ?_
  refine a_il_4_5 (pc' := 5) dX0_write_3 rfl ?_
  refine a_iconst (v := nI 3) (pc' := 6) dX0_write_5 (by decide) rfl ?_
  refine a_icmp_ge (pc' := 9) (tgt := 51) dX0_write_6 (by decide) rfl (fun c_6 => absurd c_6 (by decide)) (fun c_6 => ?_)
  refine a_al_0_5 (pc' := 10) dX0_write_9 rfl ?_
  refine a_il_1_5 (pc' := 11) dX0_write_10 rfl ?_
  refine a_il_4_5 (pc' := 13) dX0_write_11 rfl ?_
  refine a_iconst (v := nI 0) (pc' := 14) dX0_write_13 (by decide) rfl ?_
  refine k_VO (pc' := 17) (ct_X0_row (by omega) (by omega) (by omega) _) cw_X0_19 mi_X0_row se_X0_row rfl rfl rfl rfl (by decide) (by decide) (Nat.le_of_ble_eq_true rfl) rfl dX0_write_14 rfl ?_
  refine a_il_2_5 (pc' := 18) dX0_write_17 rfl ?_
  refine a_al_3_5 (pc' := 19) dX0_write_18 rfl ?_
  refine gf_4_4 (pc' := 22) (by omega) (by omega) fl_X0_23 dX0_write_19 rfl ?_
  refine a_il_4_5 (pc' := 24) dX0_write_22 rfl ?_
  refine aN_13 (j := 0) (pc' := 25) (by omega) (by omega) (by omega) dX0_write_24 rfl ?_
  refine gf_5_0 (pc' := 28) (by omega) (by omega) (by omega) fl_X0_29 dX0_write_25 rfl ?_
  refine a_iastN (pc' := 29) (ok9h (by omega) (by omega)) (by omega) (by decide) dX0_write_28 rfl ?_
  refine a_al_0_5 (pc' := 30) dX0_write_29 rfl ?_
  refine a_il_1_5 (pc' := 31) dX0_write_30 rfl ?_
  refine a_il_4_5 (pc' := 33) dX0_write_31 rfl ?_
  refine a_iconst (v := nI 1) (pc' := 34) dX0_write_33 (by decide) rfl ?_
  refine k_VO (pc' := 37) (ct_X0_row (by omega) (by omega) (by omega) _) cw_X0_19 mi_X0_row se_X0_row rfl rfl rfl rfl (by decide) (by decide) (Nat.le_of_ble_eq_true rfl) rfl dX0_write_34 rfl ?_
  refine a_il_2_5 (pc' := 38) dX0_write_37 rfl ?_
  refine a_al_3_5 (pc' := 39) dX0_write_38 rfl ?_
  refine a_il_4_5 (pc' := 41) dX0_write_39 rfl ?_
  refine k_VI (pc' := 44) (ct_X4_toldIn (by omega) (by omega) (by omega) _) cw_X0_35 mi_X4_toldIn se_X4_toldIn (ok4 (by omega) (by omega)) rfl rfl rfl (by decide) (by decide) (Nat.le_of_ble_eq_true rfl) rfl dX0_write_41 rfl ?_
  refine a_iastN (pc' := 45) (ok9h (by omega) (by omega)) (by omega) (by decide) dX0_write_44 rfl ?_
  refine a_iN_4_5 (m := 1) (pc' := 48) dX0_write_45 (nI_add _ _) rfl ?_
  refine a_goto (pc' := 3) dX0_write_48 (by decide) ?_
  refine a_il_4_5 (pc' := 5) dX0_write_3 rfl ?_
  refine a_iconst (v := nI 3) (pc' := 6) dX0_write_5 (by decide) rfl ?_
  refine a_icmp_ge (pc' := 9) (tgt := 51) dX0_write_6 (by decide) rfl (fun c_6_2 => absurd c_6_2 (by decide)) (fun c_6_2 => ?_)
  refine a_al_0_5 (pc' := 10) dX0_write_9 rfl ?_
  refine a_il_1_5 (pc' := 11) dX0_write_10 rfl ?_
  refine a_il_4_5 (pc' := 13) dX0_write_11 rfl ?_
  refine a_iconst (v := nI 0) (pc' := 14) dX0_write_13 (by decide) rfl ?_
  refine k_VO (pc' := 17) (ct_X0_row (by omega) (by omega) (by omega) _) cw_X0_19 mi_X0_row se_X0_row rfl rfl rfl rfl (by decide) (by decide) (Nat.le_of_ble_eq_true rfl) rfl dX0_write_14 rfl ?_
  refine a_il_2_5 (pc' := 18) dX0_write_17 rfl ?_
  refine a_al_3_5 (pc' := 19) dX0_write_18 rfl ?_
  refine gf_4_4 (pc' := 22) (by omega) (by omega) fl_X0_23 dX0_write_19 rfl ?_
  refine a_il_4_5 (pc' := 24) dX0_write_22 rfl ?_
  refine aN_13 (j := 1) (pc' := 25) (by omega) (by omega) (by omega) dX0_write_24 rfl ?_
  refine gf_5_0 (pc' := 28) (by omega) (by omega) (by omega) fl_X0_29 dX0_write_25 rfl ?_
  refine a_iastN (pc' := 29) (ok9h (by omega) (by omega)) (by omega) (by decide) dX0_write_28 rfl ?_
  refine a_al_0_5 (pc' := 30) dX0_write_29 rfl ?_
  refine a_il_1_5 (pc' := 31) dX0_write_30 rfl ?_
  refine a_il_4_5 (pc' := 33) dX0_write_31 rfl ?_
  refine a_iconst (v := nI 1) (pc' := 34) dX0_write_33 (by decide) rfl ?_
  refine k_VO (pc' := 37) (ct_X0_row (by omega) (by omega) (by omega) _) cw_X0_19 mi_X0_row se_X0_row rfl rfl rfl rfl (by decide) (by decide) (Nat.le_of_ble_eq_true rfl) rfl dX0_write_34 rfl ?_
  refine a_il_2_5 (pc' := 38) dX0_write_37 rfl ?_
  refine a_al_3_5 (pc' := 39) dX0_write_38 rfl ?_
  refine a_il_4_5 (pc' := 41) dX0_write_39 rfl ?_
  refine k_VI (pc' := 44) (ct_X4_toldIn (by omega) (by omega) (by omega) _) cw_X0_35 mi_X4_toldIn se_X4_toldIn (ok4 (by omega) (by omega)) rfl rfl rfl (by decide) (by decide) (Nat.le_of_ble_eq_true rfl) rfl dX0_write_41 rfl ?_
  refine a_iastN (pc' := 45) (ok9h (by omega) (by omega)) (by omega) (by decide) dX0_write_44 rfl ?_
  refine a_iN_4_5 (m := 2) (pc' := 48) dX0_write_45 (nI_add _ _) rfl ?_
  refine a_goto (pc' := 3) dX0_write_48 (by decide) ?_
  refine a_il_4_5 (pc' := 5) dX0_write_3 rfl ?_
  refine a_iconst (v := nI 3) (pc' := 6) dX0_write_5 (by decide) rfl ?_
  refine a_icmp_ge (pc' := 9) (tgt := 51) dX0_write_6 (by decide) rfl (fun c_6_3 => absurd c_6_3 (by decide)) (fun c_6_3 => ?_)
  refine a_al_0_5 (pc' := 10) dX0_write_9 rfl ?_
  refine a_il_1_5 (pc' := 11) dX0_write_10 rfl ?_
  refine a_il_4_5 (pc' := 13) dX0_write_11 rfl ?_
  refine a_iconst (v := nI 0) (pc' := 14) dX0_write_13 (by decide) rfl ?_
  refine k_VO (pc' := 17) (ct_X0_row (by omega) (by omega) (by omega) _) cw_X0_19 mi_X0_row se_X0_row rfl rfl rfl rfl (by decide) (by decide) (Nat.le_of_ble_eq_true rfl) rfl dX0_write_14 rfl ?_
  refine a_il_2_5 (pc' := 18) dX0_write_17 rfl ?_
  refine a_al_3_5 (pc' := 19) dX0_write_18 rfl ?_
  refine gf_4_4 (pc' := 22) (by omega) (by omega) fl_X0_23 dX0_write_19 rfl ?_
  refine a_il_4_5 (pc' := 24) dX0_write_22 rfl ?_
  refine aN_13 (j := 2) (pc' := 25) (by omega) (by omega) (by omega) dX0_write_24 rfl ?_
  refine gf_5_0 (pc' := 28) (by omega) (by omega) (by omega) fl_X0_29 dX0_write_25 rfl ?_
  refine a_iastN (pc' := 29) (ok9h (by omega) (by omega)) (by omega) (by decide) dX0_write_28 rfl ?_
  refine a_al_0_5 (pc' := 30) dX0_write_29 rfl ?_
  refine a_il_1_5 (pc' := 31) dX0_write_30 rfl ?_
  refine a_il_4_5 (pc' := 33) dX0_write_31 rfl ?_
  refine a_iconst (v := nI 1) (pc' := 34) dX0_write_33 (by decide) rfl ?_
  refine k_VO (pc' := 37) (ct_X0_row (by omega) (by omega) (by omega) _) cw_X0_19 mi_X0_row se_X0_row rfl rfl rfl rfl (by decide) (by decide) (Nat.le_of_ble_eq_true rfl) rfl dX0_write_34 rfl ?_
  refine a_il_2_5 (pc' := 38) dX0_write_37 rfl ?_
  refine a_al_3_5 (pc' := 39) dX0_write_38 rfl ?_
  refine a_il_4_5 (pc' := 41) dX0_write_39 rfl ?_
  refine k_VI (pc' := 44) (ct_X4_toldIn (by omega) (by omega) (by omega) _) cw_X0_35 mi_X4_toldIn se_X4_toldIn (ok4 (by omega) (by omega)) rfl rfl rfl (by decide) (by decide) (Nat.le_of_ble_eq_true rfl) rfl dX0_write_41 rfl ?_
  refine a_iastN (pc' := 45) (ok9h (by omega) (by omega)) (by omega) (by decide) dX0_write_44 rfl ?_
  refine a_iN_4_5 (m := 3) (pc' := 48) dX0_write_45 (nI_add _ _) rfl ?_
  refine a_goto (pc' := 3) dX0_write_48 (by decide) ?_
  refine a_il_4_5 (pc' := 5) dX0_write_3 rfl ?_
  refine a_iconst (v := nI 3) (pc' := 6) dX0_write_5 (by decide) rfl ?_
  refine a_icmp_ge (pc' := 9) (tgt := 51) dX0_write_6 (by decide) rfl (fun c_6_4 => ?_) (fun c_6_4 => absurd (by decide) c_6_4)
  refine a_vret dX0_write_51 rfl ?_
  refine fV ?_
  simp (disch := omega) only [histW, hw1, wr_rne]
set_option maxRecDepth 20000 in
set_option maxHeartbeats 4000000 in
theorem lp_X3_letPass_v {G : Gl} {Φ : Option OV → Mm → Prop} {q nv np t : Nat} (hq : q < 9) (hn : nv ≤ 3) (hm : np ≤ 12) (ht : t < 601) (x1 x4 : Option OV) : ∀ (n p : Nat) (M : Mm) (acc : Int32), p + n = nv → (sOK (M q) nv np) → (M q 2 = nI t) → (AW G cX3_letPass RX3 6 4 94 (some .int) Φ 94 [some (.inr (3, q, 0, 0)), x1, some (.inr (0, 0, 0, 0)), some (.inl (cVansN q t n p M acc)), x4, some (.inl (nI nv))] [] (cVans q t n p M)) → AW G cX3_letPass RX3 6 4 94 (some .int) Φ 53 [some (.inr (3, q, 0, 0)), x1, some (.inr (0, 0, 0, 0)), some (.inl acc), x4, some (.inl (nI p))] [] M := by
  intro n
  induction n with
  | zero =>
    intro p M acc he hs h2 hΦ
    refine a_il_5_6 (pc' := 55) dX3_letPass_53 rfl ?_
    refine a_al_0_6 (pc' := 56) dX3_letPass_55 rfl ?_
    refine gf_3_4 (pc' := 59) (by omega) fl_X3_38 dX3_letPass_56 rfl ?_
    rw [hs.1]
    refine a_icmp_ge (pc' := 62) (tgt := 94) dX3_letPass_59 (by decide) rfl (fun c_59 => ?_) (fun c_59 => absurd (nI_le (by omega) (by omega)) c_59)
    obtain rfl : p = nv := by omega
    exact hΦ
  | succ n ih =>
    intro p M acc he hs h2 hΦ
    refine a_il_5_6 (pc' := 55) dX3_letPass_53 rfl ?_
    refine a_al_0_6 (pc' := 56) dX3_letPass_55 rfl ?_
    refine gf_3_4 (pc' := 59) (by omega) fl_X3_38 dX3_letPass_56 rfl ?_
    rw [hs.1]
    refine a_icmp_ge (pc' := 62) (tgt := 94) dX3_letPass_59 (by decide) rfl (fun c_59 => absurd c_59 (nI_ge (by omega) (by omega))) (fun c_59 => ?_)
    refine a_il_3_6 (pc' := 63) dX3_letPass_62 rfl ?_
    refine a_al_0_6 (pc' := 64) dX3_letPass_63 rfl ?_
    refine a_il_5_6 (pc' := 66) dX3_letPass_64 rfl ?_
    refine k_VI (pc' := 69) (ct_X3_minuteInVan (by omega) (by omega) (by omega) _ hs.2.1 hs.2.2) cw_X3_136 mi_X3_minuteInVan se_X3_minuteInVan (ok3 (by omega)) rfl rfl rfl (by decide) (by decide) (Nat.le_of_ble_eq_true rfl) rfl dX3_letPass_66 rfl ?_
    refine a_iadd (pc' := 70) dX3_letPass_69 rfl ?_
    refine a_is_3_6 (pc' := 71) dX3_letPass_70 rfl ?_
    refine a_al_2_6 (pc' := 72) dX3_letPass_71 rfl ?_
    refine a_il_5_6 (pc' := 74) dX3_letPass_72 rfl ?_
    refine a_al_0_6 (pc' := 75) dX3_letPass_74 rfl ?_
    refine gf_3_0 (pc' := 78) (by omega) fl_X3_35 dX3_letPass_75 rfl ?_
    simp only [setR_same]
    rw [minF_lo _ (by decide), h2]
    refine a_al_0_6 (pc' := 79) dX3_letPass_78 rfl ?_
    refine gf_3_6 (pc' := 82) (by omega) fl_X3_23 dX3_letPass_79 rfl ?_
    refine a_il_5_6 (pc' := 84) dX3_letPass_82 rfl ?_
    refine aN_12 (j := p) (pc' := 85) (by omega) (by omega) dX3_letPass_84 rfl ?_
    refine k_VV (pc' := 88) (ct_X0_write (by omega) (by omega) (by omega) _) cw_X3_139 mi_X0_write se_X0_write rfl rfl rfl rfl (by decide) (by decide) (Nat.le_of_ble_eq_true rfl) rfl dX3_letPass_85 rfl ?_
    refine a_iN_5_6 (m := p + 1) (pc' := 91) dX3_letPass_88 (nI_add _ _) rfl ?_
    refine a_goto (pc' := 53) dX3_letPass_91 (by decide) ?_
    refine ih (p + 1) _ _ (by omega) ?_ ?_ hΦ
    · rw [show histW (setR M q (minF (M q) p)) q p t = cVan q t M p from rfl, cVan_q _ _ _ _ hq]; exact hs.min (by omega)
    · rw [show histW (setR M q (minF (M q) p)) q p t = cVan q t M p from rfl, cVan_q _ _ _ _ hq, minF_lo _ (by decide)]; exact h2
set_option maxRecDepth 20000 in
set_option maxHeartbeats 4000000 in
theorem lp_X3_letPass {G : Gl} {Φ : Option OV → Mm → Prop} {q nv np m : Nat} (hq : q < 9) (hn : nv ≤ 3) (hm : np ≤ 12) (hm3 : m ≤ 300) : ∀ (n p : Nat) (t : Nat) (M : Mm) (acc : Int32) (x5 : Option OV), p + n = m → (sOK (M q) nv np) → (M q 2 = nI t) → (t + n < 601) → (Φ (some (.inl (cPassN q nv n t M acc))) (cPass q nv n t M)) → AW G cX3_letPass RX3 6 4 94 (some .int) Φ 34 [some (.inr (3, q, 0, 0)), some (.inl (nI m)), some (.inr (0, 0, 0, 0)), some (.inl acc), some (.inl (nI p)), x5] [] M := by
  intro n
  induction n with
  | zero =>
    intro p t M acc x5 he hs h2 ht hΦ
    refine a_il_4_6 (pc' := 36) dX3_letPass_34 rfl ?_
    refine a_il_1_6 (pc' := 37) dX3_letPass_36 rfl ?_
    refine a_icmp_ge (pc' := 40) (tgt := 100) dX3_letPass_37 (by decide) rfl (fun c_37 => ?_) (fun c_37 => absurd (nI_le (by omega) (by omega)) c_37)
    refine a_il_3_6 (pc' := 101) dX3_letPass_100 rfl ?_
    refine a_iret dX3_letPass_101 rfl rfl ?_
    exact hΦ
  | succ n ih =>
    intro p t M acc x5 he hs h2 ht hΦ
    refine a_il_4_6 (pc' := 36) dX3_letPass_34 rfl ?_
    refine a_il_1_6 (pc' := 37) dX3_letPass_36 rfl ?_
    refine a_icmp_ge (pc' := 40) (tgt := 100) dX3_letPass_37 (by decide) rfl (fun c_37 => absurd c_37 (nI_ge (by omega) (by omega))) (fun c_37 => ?_)
    refine a_al_0_6 (pc' := 41) dX3_letPass_40 rfl ?_
    refine a_dup (pc' := 42) dX3_letPass_41 rfl ?_
    refine gf_3_0 (pc' := 45) (by omega) fl_X3_35 dX3_letPass_42 rfl ?_
    refine a_iconst (v := nI 1) (pc' := 46) dX3_letPass_45 (by decide) rfl ?_
    refine a_iadd (pc' := 47) dX3_letPass_46 rfl ?_
    rw [h2, nI_add]
    refine pf_3_0 (pc' := 50) (by omega) fl_X3_35 dX3_letPass_47 rfl ?_
    refine a_iconst (v := nI 0) (pc' := 51) dX3_letPass_50 (by decide) rfl ?_
    refine a_is_5_6 (pc' := 53) dX3_letPass_51 rfl ?_
    rw [wr_eq]
    have hu : sOK (setR M q (upd (M q) 2 (nI (t + 1))) q) nv np := by
      rw [setR_same]
      exact ⟨hs.1, hs.2.1, hs.2.2.of fun p' _ => by rw [upd_at, if_neg (by omega)]⟩
    have hu2 : setR M q (upd (M q) 2 (nI (t + 1))) q 2 = nI (t + 1) := by rw [setR_same]; rfl
    refine lp_X3_letPass_v hq hn hm (t := t + 1) (by omega) _ _ nv 0 _ _ (by omega) hu hu2 ?_
    refine a_iN_4_6 (m := p + 1) (pc' := 97) dX3_letPass_94 (nI_add _ _) rfl ?_
    refine a_goto (pc' := 34) dX3_letPass_97 (by decide) ?_
    obtain ⟨k1, k2⟩ := cVans_ok hq (t := t + 1) nv 0 _ (by omega) hu hu2
    exact ih (p + 1) (t + 1) _ _ _ (by omega) k1 k2 (by omega) hΦ
set_option maxRecDepth 20000 in
set_option maxHeartbeats 4000000 in
theorem ct_X3_letPass {q nv np t : Nat} (hq : q < 9) (hn : nv ≤ 3) (hm : np ≤ 12) (x : Int32) (M : Mm) (hs : sOK (M q) nv np) (h2 : M q 2 = nI t) (ht : t ≤ 600) : Ct yX3_letPass cX3_letPass 6 (some .int) 4 94 [.inr (3, q, 0, 0), .inl x, .inr (0, 0, 0, 0)] M (RI (psR q M x) (psM q M x)) := by
  refine Ct.at RX3 rfl (by decide +kernel) (Nat.le_of_ble_eq_true rfl) [some (.inr (3, q, 0, 0)), some (.inl x), some (.inr (0, 0, 0, 0)), none, none, none] rfl (fun G => ?_)
  refine a_il_1_6 (pc' := 1) dX3_letPass_0 rfl ?_
  refine a_iconst (v := nI 1) (pc' := 2) dX3_letPass_1 (by decide) rfl ?_
  refine a_sipush (v := nI 300) (pc' := 5) dX3_letPass_2 (by decide) rfl ?_
  refine k_NI (pc' := 8) (ct_X6_isWithin _ _ _ _) cw_X3_55 ms_X6_isWithin rfl (by decide) (by decide) (Nat.le_of_ble_eq_true rfl) rfl dX3_letPass_5 rfl ?_
  refine a_ifB_ne (pc' := 11) (tgt := 14) dX3_letPass_8 (by decide) rfl (fun c_8 => ?_) (fun c_8 => ?_)
  · obtain ⟨m, hm1, hm3, rfl⟩ := inn_nI (a := 1) (b := 300) c_8 (by decide)
    have hcm : vN (nI m) = m := vN_nI (by omega)
    refine a_al_0_6 (pc' := 15) dX3_letPass_14 rfl ?_
    refine gf_3_0 (pc' := 18) (by omega) fl_X3_35 dX3_letPass_15 rfl ?_
    refine a_il_1_6 (pc' := 19) dX3_letPass_18 rfl ?_
    refine a_iadd (pc' := 20) dX3_letPass_19 rfl ?_
    refine a_sipush (v := nI 600) (pc' := 23) dX3_letPass_20 (by decide) rfl ?_
    refine a_icmp_le (pc' := 26) (tgt := 29) dX3_letPass_23 (by decide) rfl (fun c_23 => ?_) (fun c_23 => ?_)
    · refine a_iconst (v := nI 0) (pc' := 30) dX3_letPass_29 (by decide) rfl ?_
      refine a_is_3_6 (pc' := 31) dX3_letPass_30 rfl ?_
      refine a_iconst (v := nI 0) (pc' := 32) dX3_letPass_31 (by decide) rfl ?_
      refine a_is_4_6 (pc' := 34) dX3_letPass_32 rfl ?_
      have hsum : t + m < 601 := by
        have h9 : nI (t + m) ≤ nI 600 := by rw [← nI_add, ← h2]; exact c_23
        have := (nI_leI (by omega) (by decide)).mp h9
        omega
      refine lp_X3_letPass hq hn hm hm3 m 0 t _ _ _ (by omega) hs h2 hsum ⟨?_, ?_⟩
      · simp only [psR, c_8, psB, c_23, hcm, h2, vN_nI (show t < 2147483648 by omega), show nvF (M q) = nv from by unfold nvF; rw [hs.1]; exact nI_clamp (by omega)]
        rw [h2] at c_23
        simp [c_23]
      · simp only [psM, c_8, psB, c_23, hcm, h2, vN_nI (show t < 2147483648 by omega), show nvF (M q) = nv from by unfold nvF; rw [hs.1]; exact nI_clamp (by omega)]
        rw [h2] at c_23
        simp [c_23]
    · refine a_ldc (pc' := 28) dX3_letPass_26 cn_X3_84 rfl ?_
      refine a_iret dX3_letPass_28 rfl rfl ?_
      refine fIM ?_ ?_
      · simp [psR, psB, c_8, c_23, -Int32.not_le, -Int32.not_lt]
      · simp [psM, psB, c_8, c_23, -Int32.not_le, -Int32.not_lt]
  · refine a_ldc (pc' := 13) dX3_letPass_11 cn_X3_83 rfl ?_
    refine a_iret dX3_letPass_13 rfl rfl ?_
    refine fIM ?_ ?_
    · simp [psR, psB, c_8, -Int32.not_le, -Int32.not_lt]
    · simp [psM, psB, c_8, -Int32.not_le, -Int32.not_lt]
