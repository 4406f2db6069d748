theorem nIz1 : ¬ nI 1 = 0 := by decide
theorem nIz2 : ¬ nI 2 = 0 := by decide
theorem nI1z : ¬ (0 : Int32) = nI 1 := by decide
theorem nI2z : ¬ (0 : Int32) = nI 2 := by decide
def vOK (F : Nat → Int32) : Prop := ∀ p, p < 12 → ∃ v, v < 3 ∧ F (63 + 10 * p) = nI v
set_option maxRecDepth 20000 in
set_option maxHeartbeats 4000000 in
theorem ct_X3_changeNumber {q : Nat} (hq : q < 9) (w x : Int32) (M : Mm) : Ct yX3_changeNumber cX3_changeNumber 4 (some .int) 1 22 [.inr (3, q, 0, 0), .inl w, .inl x] M (RI (numR (M q) w x) (setR M q (numF (M q) w x))) := by
  refine Ct.at RX3 rfl (by decide +kernel) (Nat.le_of_ble_eq_true rfl) [some (.inr (3, q, 0, 0)), some (.inl w), some (.inl x), none] rfl (fun G => ?_)
  refine a_il_1_4 (pc' := 1) dX3_changeNumber_0 rfl ?_
  refine a_if_ne (pc' := 4) (tgt := 30) dX3_changeNumber_1 (by decide) rfl (fun c_1 => ?_) (fun c_1 => ?_)
  · refine a_il_1_4 (pc' := 31) dX3_changeNumber_30 rfl ?_
    refine a_iconst (v := nI 1) (pc' := 32) dX3_changeNumber_31 (by decide) rfl ?_
    refine a_icmp_ne (pc' := 35) (tgt := 58) dX3_changeNumber_32 (by decide) rfl (fun c_32 => ?_) (fun c_32 => ?_)
    · refine a_il_1_4 (pc' := 59) dX3_changeNumber_58 rfl ?_
      refine a_iconst (v := nI 2) (pc' := 60) dX3_changeNumber_59 (by decide) rfl ?_
      refine a_icmp_ne (pc' := 63) (tgt := 86) dX3_changeNumber_60 (by decide) rfl (fun c_60 => ?_) (fun c_60 => ?_)
      · refine a_ldc (pc' := 88) dX3_changeNumber_86 cn_X3_83 rfl ?_
        refine a_is_3_4 (pc' := 89) dX3_changeNumber_88 rfl ?_
        refine a_il_3_4 (pc' := 90) dX3_changeNumber_89 rfl ?_
        refine a_iret dX3_changeNumber_90 rfl rfl ?_
        refine fIM ?_ ?_
        · simp_all [numR, numS, nI_eqm, nI_0, nIz1, nIz2, nI1z, nI2z, wr_eq, setR_same]
        · simp_all [numF, numS, nI_eqm, nI_0, nIz1, nIz2, nI1z, nI2z, wr_eq, setR_self]
      · refine a_il_2_4 (pc' := 64) dX3_changeNumber_63 rfl ?_
        refine a_iconst (v := nI 1) (pc' := 65) dX3_changeNumber_64 (by decide) rfl ?_
        refine a_bipush (v := nI 30) (pc' := 67) dX3_changeNumber_65 (by decide) rfl ?_
        refine k_NI (pc' := 70) (ct_X6_isWithin _ _ _ _) cw_X3_55 ms_X6_isWithin rfl (by decide) (by decide) (Nat.le_of_ble_eq_true rfl) rfl dX3_changeNumber_67 rfl ?_
        refine a_ifB_eq (pc' := 73) (tgt := 86) dX3_changeNumber_70 (by decide) rfl (fun c_70 => ?_) (fun c_70 => ?_)
        · refine a_ldc (pc' := 88) dX3_changeNumber_86 cn_X3_83 rfl ?_
          refine a_is_3_4 (pc' := 89) dX3_changeNumber_88 rfl ?_
          refine a_il_3_4 (pc' := 90) dX3_changeNumber_89 rfl ?_
          refine a_iret dX3_changeNumber_90 rfl rfl ?_
          refine fIM ?_ ?_
          · simp_all [numR, numS, nI_eqm, nI_0, nIz1, nIz2, nI1z, nI2z, wr_eq, setR_same]
          · simp_all [numF, numS, nI_eqm, nI_0, nIz1, nIz2, nI1z, nI2z, wr_eq, setR_self]
        · refine a_al_0_4 (pc' := 74) dX3_changeNumber_73 rfl ?_
          refine gf_3_3 (pc' := 77) (by omega) fl_X3_18 dX3_changeNumber_74 rfl ?_
          refine a_is_3_4 (pc' := 78) dX3_changeNumber_77 rfl ?_
          refine a_al_0_4 (pc' := 79) dX3_changeNumber_78 rfl ?_
          refine a_il_2_4 (pc' := 80) dX3_changeNumber_79 rfl ?_
          refine pf_3_3 (pc' := 83) (by omega) fl_X3_18 dX3_changeNumber_80 rfl ?_
          refine a_goto (pc' := 89) dX3_changeNumber_83 (by decide) ?_
          refine a_il_3_4 (pc' := 90) dX3_changeNumber_89 rfl ?_
          refine a_iret dX3_changeNumber_90 rfl rfl ?_
          refine fIM ?_ ?_
          · simp_all [numR, numS, nI_eqm, nI_0, nIz1, nIz2, nI1z, nI2z, wr_eq, setR_same]
          · simp_all [numF, numS, nI_eqm, nI_0, nIz1, nIz2, nI1z, nI2z, wr_eq, setR_self]
    · refine a_il_2_4 (pc' := 36) dX3_changeNumber_35 rfl ?_
      refine a_iconst (v := nI 5) (pc' := 37) dX3_changeNumber_36 (by decide) rfl ?_
      refine a_bipush (v := nI 100) (pc' := 39) dX3_changeNumber_37 (by decide) rfl ?_
      refine k_NI (pc' := 42) (ct_X6_isWithin _ _ _ _) cw_X3_55 ms_X6_isWithin rfl (by decide) (by decide) (Nat.le_of_ble_eq_true rfl) rfl dX3_changeNumber_39 rfl ?_
      refine a_ifB_eq (pc' := 45) (tgt := 58) dX3_changeNumber_42 (by decide) rfl (fun c_42 => ?_) (fun c_42 => ?_)
      · refine a_il_1_4 (pc' := 59) dX3_changeNumber_58 rfl ?_
        refine a_iconst (v := nI 2) (pc' := 60) dX3_changeNumber_59 (by decide) rfl ?_
        refine a_icmp_ne (pc' := 63) (tgt := 86) dX3_changeNumber_60 (by decide) rfl (fun c_60_2 => ?_) (fun c_60_2 => ?_)
        · refine a_ldc (pc' := 88) dX3_changeNumber_86 cn_X3_83 rfl ?_
          refine a_is_3_4 (pc' := 89) dX3_changeNumber_88 rfl ?_
          refine a_il_3_4 (pc' := 90) dX3_changeNumber_89 rfl ?_
          refine a_iret dX3_changeNumber_90 rfl rfl ?_
          refine fIM ?_ ?_
          · simp_all [numR, numS, nI_eqm, nI_0, nIz1, nIz2, nI1z, nI2z, wr_eq, setR_same]
          · simp_all [numF, numS, nI_eqm, nI_0, nIz1, nIz2, nI1z, nI2z, wr_eq, setR_self]
        · refine a_il_2_4 (pc' := 64) dX3_changeNumber_63 rfl ?_
          refine a_iconst (v := nI 1) (pc' := 65) dX3_changeNumber_64 (by decide) rfl ?_
          refine a_bipush (v := nI 30) (pc' := 67) dX3_changeNumber_65 (by decide) rfl ?_
          refine k_NI (pc' := 70) (ct_X6_isWithin _ _ _ _) cw_X3_55 ms_X6_isWithin rfl (by decide) (by decide) (Nat.le_of_ble_eq_true rfl) rfl dX3_changeNumber_67 rfl ?_
          refine a_ifB_eq (pc' := 73) (tgt := 86) dX3_changeNumber_70 (by decide) rfl (fun c_70_2 => ?_) (fun c_70_2 => ?_)
          · refine a_ldc (pc' := 88) dX3_changeNumber_86 cn_X3_83 rfl ?_
            refine a_is_3_4 (pc' := 89) dX3_changeNumber_88 rfl ?_
            refine a_il_3_4 (pc' := 90) dX3_changeNumber_89 rfl ?_
            refine a_iret dX3_changeNumber_90 rfl rfl ?_
            refine fIM ?_ ?_
            · simp_all [numR, numS, nI_eqm, nI_0, nIz1, nIz2, nI1z, nI2z, wr_eq, setR_same]
            · simp_all [numF, numS, nI_eqm, nI_0, nIz1, nIz2, nI1z, nI2z, wr_eq, setR_self]
          · refine a_al_0_4 (pc' := 74) dX3_changeNumber_73 rfl ?_
            refine gf_3_3 (pc' := 77) (by omega) fl_X3_18 dX3_changeNumber_74 rfl ?_
            refine a_is_3_4 (pc' := 78) dX3_changeNumber_77 rfl ?_
            refine a_al_0_4 (pc' := 79) dX3_changeNumber_78 rfl ?_
            refine a_il_2_4 (pc' := 80) dX3_changeNumber_79 rfl ?_
            refine pf_3_3 (pc' := 83) (by omega) fl_X3_18 dX3_changeNumber_80 rfl ?_
            refine a_goto (pc' := 89) dX3_changeNumber_83 (by decide) ?_
            refine a_il_3_4 (pc' := 90) dX3_changeNumber_89 rfl ?_
            refine a_iret dX3_changeNumber_90 rfl rfl ?_
            refine fIM ?_ ?_
            · simp_all [numR, numS, nI_eqm, nI_0, nIz1, nIz2, nI1z, nI2z, wr_eq, setR_same]
            · simp_all [numF, numS, nI_eqm, nI_0, nIz1, nIz2, nI1z, nI2z, wr_eq, setR_self]
      · refine a_al_0_4 (pc' := 46) dX3_changeNumber_45 rfl ?_
        refine gf_3_2 (pc' := 49) (by omega) fl_X3_15 dX3_changeNumber_46 rfl ?_
        refine a_is_3_4 (pc' := 50) dX3_changeNumber_49 rfl ?_
        refine a_al_0_4 (pc' := 51) dX3_changeNumber_50 rfl ?_
        refine a_il_2_4 (pc' := 52) dX3_changeNumber_51 rfl ?_
        refine pf_3_2 (pc' := 55) (by omega) fl_X3_15 dX3_changeNumber_52 rfl ?_
        refine a_goto (pc' := 89) dX3_changeNumber_55 (by decide) ?_
        refine a_il_3_4 (pc' := 90) dX3_changeNumber_89 rfl ?_
        refine a_iret dX3_changeNumber_90 rfl rfl ?_
        refine fIM ?_ ?_
        · simp_all [numR, numS, nI_eqm, nI_0, nIz1, nIz2, nI1z, nI2z, wr_eq, setR_same]
        · simp_all [numF, numS, nI_eqm, nI_0, nIz1, nIz2, nI1z, nI2z, wr_eq, setR_self]
  · refine a_il_2_4 (pc' := 5) dX3_changeNumber_4 rfl ?_
    refine a_sipush (v := (-200)) (pc' := 8) dX3_changeNumber_5 (by decide) rfl ?_
    refine a_sipush (v := nI 450) (pc' := 11) dX3_changeNumber_8 (by decide) rfl ?_
    refine k_NI (pc' := 14) (ct_X6_isWithin _ _ _ _) cw_X3_55 ms_X6_isWithin rfl (by decide) (by decide) (Nat.le_of_ble_eq_true rfl) rfl dX3_changeNumber_11 rfl ?_
    refine a_ifB_eq (pc' := 17) (tgt := 30) dX3_changeNumber_14 (by decide) rfl (fun c_14 => ?_) (fun c_14 => ?_)
    · refine a_il_1_4 (pc' := 31) dX3_changeNumber_30 rfl ?_
      refine a_iconst (v := nI 1) (pc' := 32) dX3_changeNumber_31 (by decide) rfl ?_
      refine a_icmp_ne (pc' := 35) (tgt := 58) dX3_changeNumber_32 (by decide) rfl (fun c_32_2 => ?_) (fun c_32_2 => ?_)
      · refine a_il_1_4 (pc' := 59) dX3_changeNumber_58 rfl ?_
        refine a_iconst (v := nI 2) (pc' := 60) dX3_changeNumber_59 (by decide) rfl ?_
        refine a_icmp_ne (pc' := 63) (tgt := 86) dX3_changeNumber_60 (by decide) rfl (fun c_60_3 => ?_) (fun c_60_3 => ?_)
        · refine a_ldc (pc' := 88) dX3_changeNumber_86 cn_X3_83 rfl ?_
          refine a_is_3_4 (pc' := 89) dX3_changeNumber_88 rfl ?_
          refine a_il_3_4 (pc' := 90) dX3_changeNumber_89 rfl ?_
          refine a_iret dX3_changeNumber_90 rfl rfl ?_
          refine fIM ?_ ?_
          · simp_all [numR, numS, nI_eqm, nI_0, nIz1, nIz2, nI1z, nI2z, wr_eq, setR_same]
          · simp_all [numF, numS, nI_eqm, nI_0, nIz1, nIz2, nI1z, nI2z, wr_eq, setR_self]
        · refine a_il_2_4 (pc' := 64) dX3_changeNumber_63 rfl ?_
          refine a_iconst (v := nI 1) (pc' := 65) dX3_changeNumber_64 (by decide) rfl ?_
          refine a_bipush (v := nI 30) (pc' := 67) dX3_changeNumber_65 (by decide) rfl ?_
          refine k_NI (pc' := 70) (ct_X6_isWithin _ _ _ _) cw_X3_55 ms_X6_isWithin rfl (by decide) (by decide) (Nat.le_of_ble_eq_true rfl) rfl dX3_changeNumber_67 rfl ?_
          refine a_ifB_eq (pc' := 73) (tgt := 86) dX3_changeNumber_70 (by decide) rfl (fun c_70_3 => ?_) (fun c_70_3 => ?_)
          · refine a_ldc (pc' := 88) dX3_changeNumber_86 cn_X3_83 rfl ?_
            refine a_is_3_4 (pc' := 89) dX3_changeNumber_88 rfl ?_
            refine a_il_3_4 (pc' := 90) dX3_changeNumber_89 rfl ?_
            refine a_iret dX3_changeNumber_90 rfl rfl ?_
            refine fIM ?_ ?_
            · simp_all [numR, numS, nI_eqm, nI_0, nIz1, nIz2, nI1z, nI2z, wr_eq, setR_same]
            · simp_all [numF, numS, nI_eqm, nI_0, nIz1, nIz2, nI1z, nI2z, wr_eq, setR_self]
          · refine a_al_0_4 (pc' := 74) dX3_changeNumber_73 rfl ?_
            refine gf_3_3 (pc' := 77) (by omega) fl_X3_18 dX3_changeNumber_74 rfl ?_
            refine a_is_3_4 (pc' := 78) dX3_changeNumber_77 rfl ?_
            refine a_al_0_4 (pc' := 79) dX3_changeNumber_78 rfl ?_
            refine a_il_2_4 (pc' := 80) dX3_changeNumber_79 rfl ?_
            refine pf_3_3 (pc' := 83) (by omega) fl_X3_18 dX3_changeNumber_80 rfl ?_
            refine a_goto (pc' := 89) dX3_changeNumber_83 (by decide) ?_
            refine a_il_3_4 (pc' := 90) dX3_changeNumber_89 rfl ?_
            refine a_iret dX3_changeNumber_90 rfl rfl ?_
            refine fIM ?_ ?_
            · simp_all [numR, numS, nI_eqm, nI_0, nIz1, nIz2, nI1z, nI2z, wr_eq, setR_same]
            · simp_all [numF, numS, nI_eqm, nI_0, nIz1, nIz2, nI1z, nI2z, wr_eq, setR_self]
      · refine a_il_2_4 (pc' := 36) dX3_changeNumber_35 rfl ?_
        refine a_iconst (v := nI 5) (pc' := 37) dX3_changeNumber_36 (by decide) rfl ?_
        refine a_bipush (v := nI 100) (pc' := 39) dX3_changeNumber_37 (by decide) rfl ?_
        refine k_NI (pc' := 42) (ct_X6_isWithin _ _ _ _) cw_X3_55 ms_X6_isWithin rfl (by decide) (by decide) (Nat.le_of_ble_eq_true rfl) rfl dX3_changeNumber_39 rfl ?_
        refine a_ifB_eq (pc' := 45) (tgt := 58) dX3_changeNumber_42 (by decide) rfl (fun c_42_2 => ?_) (fun c_42_2 => ?_)
        · refine a_il_1_4 (pc' := 59) dX3_changeNumber_58 rfl ?_
          refine a_iconst (v := nI 2) (pc' := 60) dX3_changeNumber_59 (by decide) rfl ?_
          refine a_icmp_ne (pc' := 63) (tgt := 86) dX3_changeNumber_60 (by decide) rfl (fun c_60_4 => ?_) (fun c_60_4 => ?_)
          · refine a_ldc (pc' := 88) dX3_changeNumber_86 cn_X3_83 rfl ?_
            refine a_is_3_4 (pc' := 89) dX3_changeNumber_88 rfl ?_
            refine a_il_3_4 (pc' := 90) dX3_changeNumber_89 rfl ?_
            refine a_iret dX3_changeNumber_90 rfl rfl ?_
            refine fIM ?_ ?_
            · simp_all [numR, numS, nI_eqm, nI_0, nIz1, nIz2, nI1z, nI2z, wr_eq, setR_same]
            · simp_all [numF, numS, nI_eqm, nI_0, nIz1, nIz2, nI1z, nI2z, wr_eq, setR_self]
          · refine a_il_2_4 (pc' := 64) dX3_changeNumber_63 rfl ?_
            refine a_iconst (v := nI 1) (pc' := 65) dX3_changeNumber_64 (by decide) rfl ?_
            refine a_bipush (v := nI 30) (pc' := 67) dX3_changeNumber_65 (by decide) rfl ?_
            refine k_NI (pc' := 70) (ct_X6_isWithin _ _ _ _) cw_X3_55 ms_X6_isWithin rfl (by decide) (by decide) (Nat.le_of_ble_eq_true rfl) rfl dX3_changeNumber_67 rfl ?_
            refine a_ifB_eq (pc' := 73) (tgt := 86) dX3_changeNumber_70 (by decide) rfl (fun c_70_4 => ?_) (fun c_70_4 => ?_)
            · refine a_ldc (pc' := 88) dX3_changeNumber_86 cn_X3_83 rfl ?_
              refine a_is_3_4 (pc' := 89) dX3_changeNumber_88 rfl ?_
              refine a_il_3_4 (pc' := 90) dX3_changeNumber_89 rfl ?_
              refine a_iret dX3_changeNumber_90 rfl rfl ?_
              refine fIM ?_ ?_
              · simp_all [numR, numS, nI_eqm, nI_0, nIz1, nIz2, nI1z, nI2z, wr_eq, setR_same]
              · simp_all [numF, numS, nI_eqm, nI_0, nIz1, nIz2, nI1z, nI2z, wr_eq, setR_self]
            · refine a_al_0_4 (pc' := 74) dX3_changeNumber_73 rfl ?_
              refine gf_3_3 (pc' := 77) (by omega) fl_X3_18 dX3_changeNumber_74 rfl ?_
              refine a_is_3_4 (pc' := 78) dX3_changeNumber_77 rfl ?_
              refine a_al_0_4 (pc' := 79) dX3_changeNumber_78 rfl ?_
              refine a_il_2_4 (pc' := 80) dX3_changeNumber_79 rfl ?_
              refine pf_3_3 (pc' := 83) (by omega) fl_X3_18 dX3_changeNumber_80 rfl ?_
              refine a_goto (pc' := 89) dX3_changeNumber_83 (by decide) ?_
              refine a_il_3_4 (pc' := 90) dX3_changeNumber_89 rfl ?_
              refine a_iret dX3_changeNumber_90 rfl rfl ?_
              refine fIM ?_ ?_
              · simp_all [numR, numS, nI_eqm, nI_0, nIz1, nIz2, nI1z, nI2z, wr_eq, setR_same]
              · simp_all [numF, numS, nI_eqm, nI_0, nIz1, nIz2, nI1z, nI2z, wr_eq, setR_self]
        · refine a_al_0_4 (pc' := 46) dX3_changeNumber_45 rfl ?_
          refine gf_3_2 (pc' := 49) (by omega) fl_X3_15 dX3_changeNumber_46 rfl ?_
          refine a_is_3_4 (pc' := 50) dX3_changeNumber_49 rfl ?_
          refine a_al_0_4 (pc' := 51) dX3_changeNumber_50 rfl ?_
          refine a_il_2_4 (pc' := 52) dX3_changeNumber_51 rfl ?_
          refine pf_3_2 (pc' := 55) (by omega) fl_X3_15 dX3_changeNumber_52 rfl ?_
          refine a_goto (pc' := 89) dX3_changeNumber_55 (by decide) ?_
          refine a_il_3_4 (pc' := 90) dX3_changeNumber_89 rfl ?_
          refine a_iret dX3_changeNumber_90 rfl rfl ?_
          refine fIM ?_ ?_
          · simp_all [numR, numS, nI_eqm, nI_0, nIz1, nIz2, nI1z, nI2z, wr_eq, setR_same]
          · simp_all [numF, numS, nI_eqm, nI_0, nIz1, nIz2, nI1z, nI2z, wr_eq, setR_self]
    · refine a_al_0_4 (pc' := 18) dX3_changeNumber_17 rfl ?_
      refine gf_3_1 (pc' := 21) (by omega) fl_X3_9 dX3_changeNumber_18 rfl ?_
      refine a_is_3_4 (pc' := 22) dX3_changeNumber_21 rfl ?_
      refine a_al_0_4 (pc' := 23) dX3_changeNumber_22 rfl ?_
      refine a_il_2_4 (pc' := 24) dX3_changeNumber_23 rfl ?_
      refine pf_3_1 (pc' := 27) (by omega) fl_X3_9 dX3_changeNumber_24 rfl ?_
      refine a_goto (pc' := 89) dX3_changeNumber_27 (by decide) ?_
      refine a_il_3_4 (pc' := 90) dX3_changeNumber_89 rfl ?_
      refine a_iret dX3_changeNumber_90 rfl rfl ?_
      refine fIM ?_ ?_
      · simp_all [numR, numS, nI_eqm, nI_0, nIz1, nIz2, nI1z, nI2z, wr_eq, setR_same]
      · simp_all [numF, numS, nI_eqm, nI_0, nIz1, nIz2, nI1z, nI2z, wr_eq, setR_self]
set_option maxRecDepth 20000 in
set_option maxHeartbeats 4000000 in
theorem ct_X3_changeVan {q nv : Nat} (hq : q < 9) (hn : nv ≤ 3) (x sp c : Int32) (M : Mm) (h0 : M q 0 = nI nv) : Ct yX3_changeVan cX3_changeVan 5 (some .int) 2 43 [.inr (3, q, 0, 0), .inl x, .inl sp, .inl c] M (RI (vanR (M q) x sp c) (setR M q (vanF (M q) x sp c))) := by
  refine Ct.at RX3 rfl (by decide +kernel) (Nat.le_of_ble_eq_true rfl) [some (.inr (3, q, 0, 0)), some (.inl x), some (.inl sp), some (.inl c), none] rfl (fun G => ?_)
  refine a_al_0_5 (pc' := 1) dX3_changeVan_0 rfl ?_
  refine a_il_1_5 (pc' := 2) dX3_changeVan_1 rfl ?_
  refine k_VI (pc' := 5) (ct_X3_hasVan (by omega) _ _) cw_X3_51 mi_X3_hasVan se_X3_hasVan (ok3 (by omega)) rfl rfl rfl (by decide) (by decide) (Nat.le_of_ble_eq_true rfl) rfl dX3_changeVan_2 rfl ?_
  refine a_ifB_eq (pc' := 8) (tgt := 16) dX3_changeVan_5 (by decide) rfl (fun c_5 => ?_) (fun c_5 => ?_)
  · refine a_ldc (pc' := 18) dX3_changeVan_16 cn_X3_83 rfl ?_
    refine a_iret dX3_changeVan_18 rfl rfl ?_
    refine fIM ?_ ?_
    · first
      | (simp [vanR, vanF, c_5, hcl, wr_eq, setR_same, setR_setR, setR_self, upd_at, -Int32.not_le, -Int32.not_lt]; done)
      | simp [vanR, vanF, c_5, wr_eq, setR_same, setR_setR, setR_self, upd_at, -Int32.not_le, -Int32.not_lt]
    · first
      | (simp [vanR, vanF, c_5, hcl, wr_eq, setR_same, setR_setR, setR_self, upd_at, -Int32.not_le, -Int32.not_lt]; done)
      | simp [vanR, vanF, c_5, wr_eq, setR_same, setR_setR, setR_self, upd_at, -Int32.not_le, -Int32.not_lt]
  · refine a_il_2_5 (pc' := 9) dX3_changeVan_8 rfl ?_
    refine a_il_3_5 (pc' := 10) dX3_changeVan_9 rfl ?_
    refine k_NI (pc' := 13) (ct_X6_isVanSetting _ _ _) cw_X3_79 ms_X6_isVanSetting rfl (by decide) (by decide) (Nat.le_of_ble_eq_true rfl) rfl dX3_changeVan_10 rfl ?_
    refine a_ifB_ne (pc' := 16) (tgt := 19) dX3_changeVan_13 (by decide) rfl (fun c_13 => ?_) (fun c_13 => ?_)
    · obtain ⟨v, hv, rfl⟩ := hvS_nI c_5 h0 (by omega)
      have hcl : vN (nI v) = v := vN_nI (by omega)
      refine a_al_0_5 (pc' := 20) dX3_changeVan_19 rfl ?_
      refine gf_3_6 (pc' := 23) (by omega) fl_X3_23 dX3_changeVan_20 rfl ?_
      refine a_il_1_5 (pc' := 24) dX3_changeVan_23 rfl ?_
      refine aN_12 (j := v) (pc' := 25) (by omega) (by omega) dX3_changeVan_24 rfl ?_
      refine gf_4_0 (pc' := 28) (by omega) (by omega) fl_X3_89 dX3_changeVan_25 rfl ?_
      refine a_is_4_5 (pc' := 30) dX3_changeVan_28 rfl ?_
      refine a_al_0_5 (pc' := 31) dX3_changeVan_30 rfl ?_
      refine gf_3_6 (pc' := 34) (by omega) fl_X3_23 dX3_changeVan_31 rfl ?_
      refine a_il_1_5 (pc' := 35) dX3_changeVan_34 rfl ?_
      refine aN_12 (j := v) (pc' := 36) (by omega) (by omega) dX3_changeVan_35 rfl ?_
      refine a_il_2_5 (pc' := 37) dX3_changeVan_36 rfl ?_
      refine pf_4_0 (pc' := 40) (by omega) (by omega) fl_X3_89 dX3_changeVan_37 rfl ?_
      refine a_al_0_5 (pc' := 41) dX3_changeVan_40 rfl ?_
      refine gf_3_6 (pc' := 44) (by omega) fl_X3_23 dX3_changeVan_41 rfl ?_
      refine a_il_1_5 (pc' := 45) dX3_changeVan_44 rfl ?_
      refine aN_12 (j := v) (pc' := 46) (by omega) (by omega) dX3_changeVan_45 rfl ?_
      refine a_il_3_5 (pc' := 47) dX3_changeVan_46 rfl ?_
      refine pf_4_1 (pc' := 50) (by omega) (by omega) fl_X3_92 dX3_changeVan_47 rfl ?_
      refine a_il_4_5 (pc' := 52) dX3_changeVan_50 rfl ?_
      refine a_iret dX3_changeVan_52 rfl rfl ?_
      refine fIM ?_ ?_
      · first
        | (simp [vanR, vanF, c_5, c_13, hcl, wr_eq, setR_same, setR_setR, setR_self, upd_at, -Int32.not_le, -Int32.not_lt]; done)
        | simp [vanR, vanF, c_5, c_13, wr_eq, setR_same, setR_setR, setR_self, upd_at, -Int32.not_le, -Int32.not_lt]
      · first
        | (simp [vanR, vanF, c_5, c_13, hcl, wr_eq, setR_same, setR_setR, setR_self, upd_at, -Int32.not_le, -Int32.not_lt]; done)
        | simp [vanR, vanF, c_5, c_13, wr_eq, setR_same, setR_setR, setR_self, upd_at, -Int32.not_le, -Int32.not_lt]
    · refine a_ldc (pc' := 18) dX3_changeVan_16 cn_X3_83 rfl ?_
      refine a_iret dX3_changeVan_18 rfl rfl ?_
      refine fIM ?_ ?_
      · first
        | (simp [vanR, vanF, c_5, c_13, hcl, wr_eq, setR_same, setR_setR, setR_self, upd_at, -Int32.not_le, -Int32.not_lt]; done)
        | simp [vanR, vanF, c_5, c_13, wr_eq, setR_same, setR_setR, setR_self, upd_at, -Int32.not_le, -Int32.not_lt]
      · first
        | (simp [vanR, vanF, c_5, c_13, hcl, wr_eq, setR_same, setR_setR, setR_self, upd_at, -Int32.not_le, -Int32.not_lt]; done)
        | simp [vanR, vanF, c_5, c_13, wr_eq, setR_same, setR_setR, setR_self, upd_at, -Int32.not_le, -Int32.not_lt]
set_option maxRecDepth 20000 in
set_option maxHeartbeats 4000000 in
theorem ct_X3_changeProbe {q nv : Nat} (hq : q < 9) (hn : nv ≤ 3) (x z m y : Int32) (M : Mm) (h0 : M q 0 = nI nv) : Ct yX3_changeProbe cX3_changeProbe 7 (some .int) 2 44 [.inr (3, q, 0, 0), .inl x, .inl z, .inl m, .inl y] M (RI (prbR (M q) x z m y) (setR M q (prbF (M q) x z m y))) := by
  refine Ct.at RX3 rfl (by decide +kernel) (Nat.le_of_ble_eq_true rfl) [some (.inr (3, q, 0, 0)), some (.inl x), some (.inl z), some (.inl m), some (.inl y), none, none] rfl (fun G => ?_)
  refine a_al_0_7 (pc' := 1) dX3_changeProbe_0 rfl ?_
  refine a_il_1_7 (pc' := 2) dX3_changeProbe_1 rfl ?_
  refine a_il_2_7 (pc' := 3) dX3_changeProbe_2 rfl ?_
  refine k_VI (pc' := 6) (ct_X3_hasZone (by omega) _ _ _) cw_X3_95 mi_X3_hasZone se_X3_hasZone (ok3 (by omega)) rfl rfl rfl (by decide) (by decide) (Nat.le_of_ble_eq_true rfl) rfl dX3_changeProbe_3 rfl ?_
  refine a_ifB_eq (pc' := 9) (tgt := 18) dX3_changeProbe_6 (by decide) rfl (fun c_6 => ?_) (fun c_6 => ?_)
  · refine a_ldc (pc' := 20) dX3_changeProbe_18 cn_X3_83 rfl ?_
    refine a_iret dX3_changeProbe_20 rfl rfl ?_
    refine fIM ?_ ?_
    · first
      | (simp [prbR, prbF, c_6, hcl, hcz, wr_eq, setR_same, setR_setR, setR_self, upd_at, -Int32.not_le, -Int32.not_lt]; done)
      | simp [prbR, prbF, c_6, wr_eq, setR_same, setR_setR, setR_self, upd_at, -Int32.not_le, -Int32.not_lt]
    · first
      | (simp [prbR, prbF, c_6, hcl, hcz, wr_eq, setR_same, setR_setR, setR_self, upd_at, -Int32.not_le, -Int32.not_lt]; done)
      | simp [prbR, prbF, c_6, wr_eq, setR_same, setR_setR, setR_self, upd_at, -Int32.not_le, -Int32.not_lt]
  · refine a_il_3_7 (pc' := 10) dX3_changeProbe_9 rfl ?_
    refine a_il_4_7 (pc' := 12) dX3_changeProbe_10 rfl ?_
    refine k_NI (pc' := 15) (ct_X6_isProbeSetting _ _ _) cw_X3_98 ms_X6_isProbeSetting rfl (by decide) (by decide) (Nat.le_of_ble_eq_true rfl) rfl dX3_changeProbe_12 rfl ?_
    refine a_ifB_ne (pc' := 18) (tgt := 21) dX3_changeProbe_15 (by decide) rfl (fun c_15 => ?_) (fun c_15 => ?_)
    · obtain ⟨v, z, hv, hz, rfl, rfl⟩ := hzS_nI c_6 h0 (by omega)
      have hcl : vN (nI v) = v := vN_nI (by omega)
      have hcz : vN (nI z) = z := vN_nI (by omega)
      refine a_al_0_7 (pc' := 22) dX3_changeProbe_21 rfl ?_
      refine gf_3_6 (pc' := 25) (by omega) fl_X3_23 dX3_changeProbe_22 rfl ?_
      refine a_il_1_7 (pc' := 26) dX3_changeProbe_25 rfl ?_
      refine aN_12 (j := v) (pc' := 27) (by omega) (by omega) dX3_changeProbe_26 rfl ?_
      refine gf_4_4 (pc' := 30) (by omega) (by omega) fl_X3_59 dX3_changeProbe_27 rfl ?_
      refine a_il_2_7 (pc' := 31) dX3_changeProbe_30 rfl ?_
      refine aN_13 (j := z) (pc' := 32) (by omega) (by omega) (by omega) dX3_changeProbe_31 rfl ?_
      refine a_as_5_7 (pc' := 34) dX3_changeProbe_32 rfl ?_
      refine a_al_5_7 (pc' := 36) dX3_changeProbe_34 rfl ?_
      refine gf_5_1 (pc' := 39) (by omega) (by omega) (by omega) fl_X3_101 dX3_changeProbe_36 rfl ?_
      refine a_is_6_7 (pc' := 41) dX3_changeProbe_39 rfl ?_
      refine a_al_5_7 (pc' := 43) dX3_changeProbe_41 rfl ?_
      refine a_il_3_7 (pc' := 44) dX3_changeProbe_43 rfl ?_
      refine pf_5_1 (pc' := 47) (by omega) (by omega) (by omega) fl_X3_101 dX3_changeProbe_44 rfl ?_
      refine a_al_5_7 (pc' := 49) dX3_changeProbe_47 rfl ?_
      refine a_il_4_7 (pc' := 51) dX3_changeProbe_49 rfl ?_
      refine pf_5_2 (pc' := 54) (by omega) (by omega) (by omega) fl_X3_104 dX3_changeProbe_51 rfl ?_
      refine a_il_6_7 (pc' := 56) dX3_changeProbe_54 rfl ?_
      refine a_iret dX3_changeProbe_56 rfl rfl ?_
      refine fIM ?_ ?_
      · first
        | (simp [prbR, prbF, c_6, c_15, hcl, hcz, wr_eq, setR_same, setR_setR, setR_self, upd_at, -Int32.not_le, -Int32.not_lt]; done)
        | simp [prbR, prbF, c_6, c_15, wr_eq, setR_same, setR_setR, setR_self, upd_at, -Int32.not_le, -Int32.not_lt]
      · first
        | (simp [prbR, prbF, c_6, c_15, hcl, hcz, wr_eq, setR_same, setR_setR, setR_self, upd_at, -Int32.not_le, -Int32.not_lt]; done)
        | simp [prbR, prbF, c_6, c_15, wr_eq, setR_same, setR_setR, setR_self, upd_at, -Int32.not_le, -Int32.not_lt]
    · refine a_ldc (pc' := 20) dX3_changeProbe_18 cn_X3_83 rfl ?_
      refine a_iret dX3_changeProbe_20 rfl rfl ?_
      refine fIM ?_ ?_
      · first
        | (simp [prbR, prbF, c_6, c_15, hcl, hcz, wr_eq, setR_same, setR_setR, setR_self, upd_at, -Int32.not_le, -Int32.not_lt]; done)
        | simp [prbR, prbF, c_6, c_15, wr_eq, setR_same, setR_setR, setR_self, upd_at, -Int32.not_le, -Int32.not_lt]
      · first
        | (simp [prbR, prbF, c_6, c_15, hcl, hcz, wr_eq, setR_same, setR_setR, setR_self, upd_at, -Int32.not_le, -Int32.not_lt]; done)
        | simp [prbR, prbF, c_6, c_15, wr_eq, setR_same, setR_setR, setR_self, upd_at, -Int32.not_le, -Int32.not_lt]
set_option maxRecDepth 20000 in
set_option maxHeartbeats 4000000 in
theorem ct_X3_mendProbe {q nv : Nat} (hq : q < 9) (hn : nv ≤ 3) (x z : Int32) (M : Mm) (h0 : M q 0 = nI nv) : Ct yX3_mendProbe cX3_mendProbe 5 (some .int) 2 44 [.inr (3, q, 0, 0), .inl x, .inl z] M (RI (repR (M q) x z) (setR M q (repF (M q) x z))) := by
  refine Ct.at RX3 rfl (by decide +kernel) (Nat.le_of_ble_eq_true rfl) [some (.inr (3, q, 0, 0)), some (.inl x), some (.inl z), none, none] rfl (fun G => ?_)
  refine a_al_0_5 (pc' := 1) dX3_mendProbe_0 rfl ?_
  refine a_il_1_5 (pc' := 2) dX3_mendProbe_1 rfl ?_
  refine a_il_2_5 (pc' := 3) dX3_mendProbe_2 rfl ?_
  refine k_VI (pc' := 6) (ct_X3_hasZone (by omega) _ _ _) cw_X3_95 mi_X3_hasZone se_X3_hasZone (ok3 (by omega)) rfl rfl rfl (by decide) (by decide) (Nat.le_of_ble_eq_true rfl) rfl dX3_mendProbe_3 rfl ?_
  refine a_ifB_ne (pc' := 9) (tgt := 12) dX3_mendProbe_6 (by decide) rfl (fun c_6 => ?_) (fun c_6 => ?_)
  · obtain ⟨v, z, hv, hz, rfl, rfl⟩ := hzS_nI c_6 h0 (by omega)
    have hcl : vN (nI v) = v := vN_nI (by omega)
    have hcz : vN (nI z) = z := vN_nI (by omega)
    refine a_al_0_5 (pc' := 13) dX3_mendProbe_12 rfl ?_
    refine gf_3_6 (pc' := 16) (by omega) fl_X3_23 dX3_mendProbe_13 rfl ?_
    refine a_il_1_5 (pc' := 17) dX3_mendProbe_16 rfl ?_
    refine aN_12 (j := v) (pc' := 18) (by omega) (by omega) dX3_mendProbe_17 rfl ?_
    refine gf_4_4 (pc' := 21) (by omega) (by omega) fl_X3_59 dX3_mendProbe_18 rfl ?_
    refine a_il_2_5 (pc' := 22) dX3_mendProbe_21 rfl ?_
    refine aN_13 (j := z) (pc' := 23) (by omega) (by omega) (by omega) dX3_mendProbe_22 rfl ?_
    refine a_as_3_5 (pc' := 24) dX3_mendProbe_23 rfl ?_
    refine a_al_3_5 (pc' := 25) dX3_mendProbe_24 rfl ?_
    refine gf_5_3 (pc' := 28) (by omega) (by omega) (by omega) fl_X3_63 dX3_mendProbe_25 rfl ?_
    refine a_if_eq (pc' := 31) (tgt := 35) dX3_mendProbe_28 (by decide) rfl (fun c_28 => ?_) (fun c_28 => ?_)
    · refine a_iconst (v := nI 0) (pc' := 36) dX3_mendProbe_35 (by decide) rfl ?_
      refine a_is_4_5 (pc' := 38) dX3_mendProbe_36 rfl ?_
      refine a_al_3_5 (pc' := 39) dX3_mendProbe_38 rfl ?_
      refine k_VV (pc' := 42) (ct_X5_mend (by omega) (by omega) (by omega) _) cw_X3_107 mi_X5_mend se_X5_mend (ok5 (by omega) (by omega) (by omega)) rfl rfl rfl (by decide) (by decide) (Nat.le_of_ble_eq_true rfl) rfl dX3_mendProbe_39 rfl ?_
      refine a_il_4_5 (pc' := 44) dX3_mendProbe_42 rfl ?_
      refine a_iret dX3_mendProbe_44 rfl rfl ?_
      refine fIM ?_ ?_
      · first
        | (simp [repR, repF, c_6, c_28, hcl, hcz, wr_eq, setR_same, setR_setR, setR_self, upd_at, -Int32.not_le, -Int32.not_lt]; done)
        | simp [repR, repF, c_6, c_28, wr_eq, setR_same, setR_setR, setR_self, upd_at, -Int32.not_le, -Int32.not_lt]
      · first
        | (simp [repR, repF, c_6, c_28, hcl, hcz, wr_eq, setR_same, setR_setR, setR_self, upd_at, -Int32.not_le, -Int32.not_lt]; done)
        | simp [repR, repF, c_6, c_28, wr_eq, setR_same, setR_setR, setR_self, upd_at, -Int32.not_le, -Int32.not_lt]
    · refine a_iconst (v := nI 1) (pc' := 32) dX3_mendProbe_31 (by decide) rfl ?_
      refine a_goto (pc' := 36) dX3_mendProbe_32 (by decide) ?_
      refine a_is_4_5 (pc' := 38) dX3_mendProbe_36 rfl ?_
      refine a_al_3_5 (pc' := 39) dX3_mendProbe_38 rfl ?_
      refine k_VV (pc' := 42) (ct_X5_mend (by omega) (by omega) (by omega) _) cw_X3_107 mi_X5_mend se_X5_mend (ok5 (by omega) (by omega) (by omega)) rfl rfl rfl (by decide) (by decide) (Nat.le_of_ble_eq_true rfl) rfl dX3_mendProbe_39 rfl ?_
      refine a_il_4_5 (pc' := 44) dX3_mendProbe_42 rfl ?_
      refine a_iret dX3_mendProbe_44 rfl rfl ?_
      refine fIM ?_ ?_
      · first
        | (simp [repR, repF, c_6, c_28, hcl, hcz, wr_eq, setR_same, setR_setR, setR_self, upd_at, -Int32.not_le, -Int32.not_lt]; done)
        | simp [repR, repF, c_6, c_28, wr_eq, setR_same, setR_setR, setR_self, upd_at, -Int32.not_le, -Int32.not_lt]
      · first
        | (simp [repR, repF, c_6, c_28, hcl, hcz, wr_eq, setR_same, setR_setR, setR_self, upd_at, -Int32.not_le, -Int32.not_lt]; done)
        | simp [repR, repF, c_6, c_28, wr_eq, setR_same, setR_setR, setR_self, upd_at, -Int32.not_le, -Int32.not_lt]
  · refine a_ldc (pc' := 11) dX3_mendProbe_9 cn_X3_83 rfl ?_
    refine a_iret dX3_mendProbe_11 rfl rfl ?_
    refine fIM ?_ ?_
    · first
      | (simp [repR, repF, c_6, hcl, hcz, wr_eq, setR_same, setR_setR, setR_self, upd_at, -Int32.not_le, -Int32.not_lt]; done)
      | simp [repR, repF, c_6, wr_eq, setR_same, setR_setR, setR_self, upd_at, -Int32.not_le, -Int32.not_lt]
    · first
      | (simp [repR, repF, c_6, hcl, hcz, wr_eq, setR_same, setR_setR, setR_self, upd_at, -Int32.not_le, -Int32.not_lt]; done)
      | simp [repR, repF, c_6, wr_eq, setR_same, setR_setR, setR_self, upd_at, -Int32.not_le, -Int32.not_lt]
set_option maxRecDepth 20000 in
set_option maxHeartbeats 4000000 in
theorem ct_X3_putVan {q nv : Nat} (hq : q < 9) (hn : nv ≤ 3) (sp c : Int32) (M : Mm) (h0 : M q 0 = nI nv) : Ct yX3_putVan cX3_putVan 4 (some .int) 2 44 [.inr (3, q, 0, 0), .inl sp, .inl c] M (RI (newR (M q) sp c) (setR M q (newF (M q) sp c))) := by
  refine Ct.at RX3 rfl (by decide +kernel) (Nat.le_of_ble_eq_true rfl) [some (.inr (3, q, 0, 0)), some (.inl sp), some (.inl c), none] rfl (fun G => ?_)
  refine a_il_1_4 (pc' := 1) dX3_putVan_0 rfl ?_
  refine a_il_2_4 (pc' := 2) dX3_putVan_1 rfl ?_
  refine k_NI (pc' := 5) (ct_X6_isVanSetting _ _ _) cw_X3_79 ms_X6_isVanSetting rfl (by decide) (by decide) (Nat.le_of_ble_eq_true rfl) rfl dX3_putVan_2 rfl ?_
  refine a_ifB_ne (pc' := 8) (tgt := 11) dX3_putVan_5 (by decide) rfl (fun c_5 => ?_) (fun c_5 => ?_)
  · refine a_al_0_4 (pc' := 12) dX3_putVan_11 rfl ?_
    refine gf_3_4 (pc' := 15) (by omega) fl_X3_38 dX3_putVan_12 rfl ?_
    refine a_iconst (v := nI 3) (pc' := 16) dX3_putVan_15 (by decide) rfl ?_
    refine a_icmp_lt (pc' := 19) (tgt := 22) dX3_putVan_16 (by decide) rfl (fun c_16 => ?_) (fun c_16 => ?_)
    · have hv : nv < 3 := (nI_ltI (by omega) (by decide)).mp (by rw [← h0]; exact c_16)
      have c9 : nI nv < nI 3 := nI_lt hv (by decide)
      have hnv : nvF (M q) = nv := by unfold nvF; rw [h0]; exact nI_clamp (by omega)
      have hst : ∀ t, startV (M q) nv sp c t 0 = nI nv := fun t => by rw [startV_hi _ _ _ _ hv (Or.inl (by decide)), h0]
      refine a_al_0_4 (pc' := 23) dX3_putVan_22 rfl ?_
      refine gf_3_4 (pc' := 26) (by omega) fl_X3_38 dX3_putVan_23 rfl ?_
      rw [h0]
      refine a_is_3_4 (pc' := 27) dX3_putVan_26 rfl ?_
      refine a_al_0_4 (pc' := 28) dX3_putVan_27 rfl ?_
      refine gf_3_6 (pc' := 31) (by omega) fl_X3_23 dX3_putVan_28 rfl ?_
      refine a_il_3_4 (pc' := 32) dX3_putVan_31 rfl ?_
      refine aN_12 (j := nv) (pc' := 33) (by omega) (by omega) dX3_putVan_32 rfl ?_
      refine a_il_1_4 (pc' := 34) dX3_putVan_33 rfl ?_
      refine a_il_2_4 (pc' := 35) dX3_putVan_34 rfl ?_
      refine a_al_0_4 (pc' := 36) dX3_putVan_35 rfl ?_
      refine gf_3_0 (pc' := 39) (by omega) fl_X3_35 dX3_putVan_36 rfl ?_
      refine k_VV (pc' := 42) (ct_X4_start (by omega) (by omega) _ _ _ _) cw_X3_85 mi_X4_start se_X4_start (ok4 (by omega) (by omega)) rfl rfl rfl (by decide) (by decide) (Nat.le_of_ble_eq_true rfl) rfl dX3_putVan_39 rfl ?_
      refine a_al_0_4 (pc' := 43) dX3_putVan_42 rfl ?_
      refine a_dup (pc' := 44) dX3_putVan_43 rfl ?_
      refine gf_3_4 (pc' := 47) (by omega) fl_X3_38 dX3_putVan_44 rfl ?_
      refine a_iconst (v := nI 1) (pc' := 48) dX3_putVan_47 (by decide) rfl ?_
      refine a_iadd (pc' := 49) dX3_putVan_48 rfl ?_
      refine pf_3_4 (pc' := 52) (by omega) fl_X3_38 dX3_putVan_49 rfl ?_
      refine a_il_3_4 (pc' := 53) dX3_putVan_52 rfl ?_
      refine a_iret dX3_putVan_53 rfl rfl ?_
      refine fIM ?_ ?_
      · first
        | (simp [newR, newF, c_5, c_16, h0, hnv, hst, c9, wr_eq, setR_same, setR_setR, setR_self, upd_at, -Int32.not_le, -Int32.not_lt]; done)
        | simp [newR, newF, c_5, c_16, wr_eq, setR_same, setR_setR, setR_self, upd_at, -Int32.not_le, -Int32.not_lt]
      · first
        | (simp [newR, newF, c_5, c_16, h0, hnv, hst, c9, wr_eq, setR_same, setR_setR, setR_self, upd_at, -Int32.not_le, -Int32.not_lt]; done)
        | simp [newR, newF, c_5, c_16, wr_eq, setR_same, setR_setR, setR_self, upd_at, -Int32.not_le, -Int32.not_lt]
    · refine a_ldc (pc' := 21) dX3_putVan_19 cn_X3_84 rfl ?_
      refine a_iret dX3_putVan_21 rfl rfl ?_
      refine fIM ?_ ?_
      · first
        | (simp [newR, newF, c_5, c_16, h0, hnv, hst, c9, wr_eq, setR_same, setR_setR, setR_self, upd_at, -Int32.not_le, -Int32.not_lt]; done)
        | simp [newR, newF, c_5, c_16, wr_eq, setR_same, setR_setR, setR_self, upd_at, -Int32.not_le, -Int32.not_lt]
      · first
        | (simp [newR, newF, c_5, c_16, h0, hnv, hst, c9, wr_eq, setR_same, setR_setR, setR_self, upd_at, -Int32.not_le, -Int32.not_lt]; done)
        | simp [newR, newF, c_5, c_16, wr_eq, setR_same, setR_setR, setR_self, upd_at, -Int32.not_le, -Int32.not_lt]
  · refine a_ldc (pc' := 10) dX3_putVan_8 cn_X3_83 rfl ?_
    refine a_iret dX3_putVan_10 rfl rfl ?_
    refine fIM ?_ ?_
    · first
      | (simp [newR, newF, c_5, h0, hnv, hst, c9, wr_eq, setR_same, setR_setR, setR_self, upd_at, -Int32.not_le, -Int32.not_lt]; done)
      | simp [newR, newF, c_5, wr_eq, setR_same, setR_setR, setR_self, upd_at, -Int32.not_le, -Int32.not_lt]
    · first
      | (simp [newR, newF, c_5, h0, hnv, hst, c9, wr_eq, setR_same, setR_setR, setR_self, upd_at, -Int32.not_le, -Int32.not_lt]; done)
      | simp [newR, newF, c_5, wr_eq, setR_same, setR_setR, setR_self, upd_at, -Int32.not_le, -Int32.not_lt]
set_option maxRecDepth 20000 in
set_option maxHeartbeats 4000000 in
theorem ct_X3_putPallet {q nv np : Nat} (hq : q < 9) (hn : nv ≤ 3) (hm : np ≤ 12) (x z l a w : Int32) (M : Mm) (h0 : M q 0 = nI nv) (h1 : M q 1 = nI np) : Ct yX3_putPallet cX3_putPallet 7 (some .int) 2 45 [.inr (3, q, 0, 0), .inl x, .inl z, .inl l, .inl a, .inl w] M (RI (ldR (M q) x z l a w) (setR M q (ldF (M q) x z l a w))) := by
  refine Ct.at RX3 rfl (by decide +kernel) (Nat.le_of_ble_eq_true rfl) [some (.inr (3, q, 0, 0)), some (.inl x), some (.inl z), some (.inl l), some (.inl a), some (.inl w), none] rfl (fun G => ?_)
  refine a_al_0_7 (pc' := 1) dX3_putPallet_0 rfl ?_
  refine a_il_1_7 (pc' := 2) dX3_putPallet_1 rfl ?_
  refine a_il_2_7 (pc' := 3) dX3_putPallet_2 rfl ?_
  refine k_VI (pc' := 6) (ct_X3_hasZone (by omega) _ _ _) cw_X3_95 mi_X3_hasZone se_X3_hasZone (ok3 (by omega)) rfl rfl rfl (by decide) (by decide) (Nat.le_of_ble_eq_true rfl) rfl dX3_putPallet_3 rfl ?_
  refine a_ifB_eq (pc' := 9) (tgt := 16) dX3_putPallet_6 (by decide) rfl (fun c_6 => ?_) (fun c_6 => ?_)
  · refine a_ldc (pc' := 18) dX3_putPallet_16 cn_X3_83 rfl ?_
    refine a_iret dX3_putPallet_18 rfl rfl ?_
    refine fIM ?_ ?_
    · first
      | (simp [ldR, ldF, ldB, ldC, c_6, hcl, hnp, h1, hst, c9, wr_eq, setR_same, setR_setR, setR_self, upd_at, -Int32.not_le, -Int32.not_lt]; done)
      | (simp [ldR, ldF, ldB, ldC, c_6, hcl, hnp, wr_eq, setR_same, setR_setR, setR_self, upd_at, -Int32.not_le, -Int32.not_lt]; done)
      | simp [ldR, ldF, ldB, ldC, c_6, wr_eq, setR_same, setR_setR, setR_self, upd_at, -Int32.not_le, -Int32.not_lt]
    · first
      | (simp [ldR, ldF, ldB, ldC, c_6, hcl, hnp, h1, hst, c9, wr_eq, setR_same, setR_setR, setR_self, upd_at, -Int32.not_le, -Int32.not_lt]; done)
      | (simp [ldR, ldF, ldB, ldC, c_6, hcl, hnp, wr_eq, setR_same, setR_setR, setR_self, upd_at, -Int32.not_le, -Int32.not_lt]; done)
      | simp [ldR, ldF, ldB, ldC, c_6, wr_eq, setR_same, setR_setR, setR_self, upd_at, -Int32.not_le, -Int32.not_lt]
  · refine a_il_3_7 (pc' := 10) dX3_putPallet_9 rfl ?_
    refine k_NI (pc' := 13) (ct_X6_isLimit _ _) cw_X3_110 ms_X6_isLimit rfl (by decide) (by decide) (Nat.le_of_ble_eq_true rfl) rfl dX3_putPallet_10 rfl ?_
    refine a_ifB_ne (pc' := 16) (tgt := 19) dX3_putPallet_13 (by decide) rfl (fun c_13 => ?_) (fun c_13 => ?_)
    · refine a_il_4_7 (pc' := 21) dX3_putPallet_19 rfl ?_
      refine a_iconst (v := nI 0) (pc' := 22) dX3_putPallet_21 (by decide) rfl ?_
      refine a_sipush (v := nI 600) (pc' := 25) dX3_putPallet_22 (by decide) rfl ?_
      refine k_NI (pc' := 28) (ct_X6_isWithin _ _ _ _) cw_X3_55 ms_X6_isWithin rfl (by decide) (by decide) (Nat.le_of_ble_eq_true rfl) rfl dX3_putPallet_25 rfl ?_
      refine a_ifB_eq (pc' := 31) (tgt := 39) dX3_putPallet_28 (by decide) rfl (fun c_28 => ?_) (fun c_28 => ?_)
      · refine a_ldc (pc' := 41) dX3_putPallet_39 cn_X3_83 rfl ?_
        refine a_iret dX3_putPallet_41 rfl rfl ?_
        refine fIM ?_ ?_
        · first
          | (simp [ldR, ldF, ldB, ldC, c_6, c_13, c_28, hcl, hnp, h1, hst, c9, wr_eq, setR_same, setR_setR, setR_self, upd_at, -Int32.not_le, -Int32.not_lt]; done)
          | (simp [ldR, ldF, ldB, ldC, c_6, c_13, c_28, hcl, hnp, wr_eq, setR_same, setR_setR, setR_self, upd_at, -Int32.not_le, -Int32.not_lt]; done)
          | simp [ldR, ldF, ldB, ldC, c_6, c_13, c_28, wr_eq, setR_same, setR_setR, setR_self, upd_at, -Int32.not_le, -Int32.not_lt]
        · first
          | (simp [ldR, ldF, ldB, ldC, c_6, c_13, c_28, hcl, hnp, h1, hst, c9, wr_eq, setR_same, setR_setR, setR_self, upd_at, -Int32.not_le, -Int32.not_lt]; done)
          | (simp [ldR, ldF, ldB, ldC, c_6, c_13, c_28, hcl, hnp, wr_eq, setR_same, setR_setR, setR_self, upd_at, -Int32.not_le, -Int32.not_lt]; done)
          | simp [ldR, ldF, ldB, ldC, c_6, c_13, c_28, wr_eq, setR_same, setR_setR, setR_self, upd_at, -Int32.not_le, -Int32.not_lt]
      · refine a_il_5_7 (pc' := 33) dX3_putPallet_31 rfl ?_
        refine k_NI (pc' := 36) (ct_X6_isPrice _ _) cw_X3_113 ms_X6_isPrice rfl (by decide) (by decide) (Nat.le_of_ble_eq_true rfl) rfl dX3_putPallet_33 rfl ?_
        refine a_ifB_ne (pc' := 39) (tgt := 42) dX3_putPallet_36 (by decide) rfl (fun c_36 => ?_) (fun c_36 => ?_)
        · obtain ⟨v, z0, hv, hz, rfl, rfl⟩ := hzS_nI c_6 h0 (by omega)
          have hcl : vN (nI v) = v := vN_nI (by omega)
          have hcz : vN (nI z0) = z0 := vN_nI (by omega)
          have hnp : npF (M q) = np := by unfold npF; rw [h1]; exact nI_clamp (by omega)
          refine a_al_0_7 (pc' := 43) dX3_putPallet_42 rfl ?_
          refine gf_3_6 (pc' := 46) (by omega) fl_X3_23 dX3_putPallet_43 rfl ?_
          refine a_il_1_7 (pc' := 47) dX3_putPallet_46 rfl ?_
          refine aN_12 (j := v) (pc' := 48) (by omega) (by omega) dX3_putPallet_47 rfl ?_
          refine gf_4_2 (pc' := 51) (by omega) (by omega) fl_X3_116 dX3_putPallet_48 rfl ?_
          refine a_if_ne (pc' := 54) (tgt := 57) dX3_putPallet_51 (by decide) rfl (fun c_51 => ?_) (fun c_51 => ?_)
          · refine a_al_0_7 (pc' := 58) dX3_putPallet_57 rfl ?_
            refine gf_3_5 (pc' := 61) (by omega) fl_X3_41 dX3_putPallet_58 rfl ?_
            refine a_bipush (v := nI 12) (pc' := 63) dX3_putPallet_61 (by decide) rfl ?_
            refine a_icmp_ge (pc' := 66) (tgt := 76) dX3_putPallet_63 (by decide) rfl (fun c_63 => ?_) (fun c_63 => ?_)
            · refine a_ldc (pc' := 78) dX3_putPallet_76 cn_X3_84 rfl ?_
              refine a_iret dX3_putPallet_78 rfl rfl ?_
              refine fIM ?_ ?_
              · first
                | (simp [ldR, ldF, ldB, ldC, c_6, c_13, c_28, c_36, c_51, c_63, hcl, hnp, h1, hst, c9, wr_eq, setR_same, setR_setR, setR_self, upd_at, -Int32.not_le, -Int32.not_lt]; done)
                | (simp [ldR, ldF, ldB, ldC, c_6, c_13, c_28, c_36, c_51, c_63, hcl, hnp, wr_eq, setR_same, setR_setR, setR_self, upd_at, -Int32.not_le, -Int32.not_lt]; done)
                | simp [ldR, ldF, ldB, ldC, c_6, c_13, c_28, c_36, c_51, c_63, wr_eq, setR_same, setR_setR, setR_self, upd_at, -Int32.not_le, -Int32.not_lt]
              · first
                | (simp [ldR, ldF, ldB, ldC, c_6, c_13, c_28, c_36, c_51, c_63, hcl, hnp, h1, hst, c9, wr_eq, setR_same, setR_setR, setR_self, upd_at, -Int32.not_le, -Int32.not_lt]; done)
                | (simp [ldR, ldF, ldB, ldC, c_6, c_13, c_28, c_36, c_51, c_63, hcl, hnp, wr_eq, setR_same, setR_setR, setR_self, upd_at, -Int32.not_le, -Int32.not_lt]; done)
                | simp [ldR, ldF, ldB, ldC, c_6, c_13, c_28, c_36, c_51, c_63, wr_eq, setR_same, setR_setR, setR_self, upd_at, -Int32.not_le, -Int32.not_lt]
            · refine a_al_0_7 (pc' := 67) dX3_putPallet_66 rfl ?_
              refine a_il_1_7 (pc' := 68) dX3_putPallet_67 rfl ?_
              refine a_il_2_7 (pc' := 69) dX3_putPallet_68 rfl ?_
              refine k_VI (pc' := 72) (ct_X3_palletsInZone (by omega) (by omega) _ _ _ h1) cw_X3_120 mi_X3_palletsInZone se_X3_palletsInZone (ok3 (by omega)) rfl rfl rfl (by decide) (by decide) (Nat.le_of_ble_eq_true rfl) rfl dX3_putPallet_69 rfl ?_
              refine a_iconst (v := nI 3) (pc' := 73) dX3_putPallet_72 (by decide) rfl ?_
              refine a_icmp_lt (pc' := 76) (tgt := 79) dX3_putPallet_73 (by decide) rfl (fun c_73 => ?_) (fun c_73 => ?_)
              · have hp : np < 12 := by
                  rcases Nat.lt_or_ge np 12 with w9 | w9
                  · exact w9
                  · exact absurd (by rw [h1]; exact nI_le w9 (by omega)) c_63
                have c9 : ¬ nI 12 ≤ nI np := nI_ge hp (by decide)
                have hst : ∀ a1 a2 a3 a4 a5, startP (M q) np a1 a2 a3 a4 a5 1 = nI np := fun a1 a2 a3 a4 a5 => by rw [startP_ne _ _ _ _ _ _ (Or.inl (by omega)), h1]
                refine a_al_0_7 (pc' := 80) dX3_putPallet_79 rfl ?_
                refine gf_3_5 (pc' := 83) (by omega) fl_X3_41 dX3_putPallet_80 rfl ?_
                rw [h1]
                refine a_is_6_7 (pc' := 85) dX3_putPallet_83 rfl ?_
                refine a_al_0_7 (pc' := 86) dX3_putPallet_85 rfl ?_
                refine gf_3_7 (pc' := 89) (by omega) fl_X3_29 dX3_putPallet_86 rfl ?_
                refine a_il_6_7 (pc' := 91) dX3_putPallet_89 rfl ?_
                refine aN_10 (j := np) (pc' := 92) (by omega) (by omega) dX3_putPallet_91 rfl ?_
                refine a_il_1_7 (pc' := 93) dX3_putPallet_92 rfl ?_
                refine a_il_2_7 (pc' := 94) dX3_putPallet_93 rfl ?_
                refine a_il_3_7 (pc' := 95) dX3_putPallet_94 rfl ?_
                refine a_il_4_7 (pc' := 97) dX3_putPallet_95 rfl ?_
                refine a_il_5_7 (pc' := 99) dX3_putPallet_97 rfl ?_
                refine k_VV (pc' := 102) (ct_X1_start (by omega) (by omega) _ _ _ _ _ _) cw_X3_124 mi_X1_start se_X1_start (ok1 (by omega) (by omega)) rfl rfl rfl (by decide) (by decide) (Nat.le_of_ble_eq_true rfl) rfl dX3_putPallet_99 rfl ?_
                refine a_al_0_7 (pc' := 103) dX3_putPallet_102 rfl ?_
                refine a_dup (pc' := 104) dX3_putPallet_103 rfl ?_
                refine gf_3_5 (pc' := 107) (by omega) fl_X3_41 dX3_putPallet_104 rfl ?_
                refine a_iconst (v := nI 1) (pc' := 108) dX3_putPallet_107 (by decide) rfl ?_
                refine a_iadd (pc' := 109) dX3_putPallet_108 rfl ?_
                refine pf_3_5 (pc' := 112) (by omega) fl_X3_41 dX3_putPallet_109 rfl ?_
                refine a_il_6_7 (pc' := 114) dX3_putPallet_112 rfl ?_
                refine a_iret dX3_putPallet_114 rfl rfl ?_
                refine fIM ?_ ?_
                · first
                  | (simp [ldR, ldF, ldB, ldC, c_6, c_13, c_28, c_36, c_51, c_63, c_73, hcl, hnp, h1, hst, c9, wr_eq, setR_same, setR_setR, setR_self, upd_at, -Int32.not_le, -Int32.not_lt]; done)
                  | (simp [ldR, ldF, ldB, ldC, c_6, c_13, c_28, c_36, c_51, c_63, c_73, hcl, hnp, wr_eq, setR_same, setR_setR, setR_self, upd_at, -Int32.not_le, -Int32.not_lt]; done)
                  | simp [ldR, ldF, ldB, ldC, c_6, c_13, c_28, c_36, c_51, c_63, c_73, wr_eq, setR_same, setR_setR, setR_self, upd_at, -Int32.not_le, -Int32.not_lt]
                · first
                  | (simp [ldR, ldF, ldB, ldC, c_6, c_13, c_28, c_36, c_51, c_63, c_73, hcl, hnp, h1, hst, c9, wr_eq, setR_same, setR_setR, setR_self, upd_at, -Int32.not_le, -Int32.not_lt]; done)
                  | (simp [ldR, ldF, ldB, ldC, c_6, c_13, c_28, c_36, c_51, c_63, c_73, hcl, hnp, wr_eq, setR_same, setR_setR, setR_self, upd_at, -Int32.not_le, -Int32.not_lt]; done)
                  | simp [ldR, ldF, ldB, ldC, c_6, c_13, c_28, c_36, c_51, c_63, c_73, wr_eq, setR_same, setR_setR, setR_self, upd_at, -Int32.not_le, -Int32.not_lt]
              · refine a_ldc (pc' := 78) dX3_putPallet_76 cn_X3_84 rfl ?_
                refine a_iret dX3_putPallet_78 rfl rfl ?_
                refine fIM ?_ ?_
                · first
                  | (simp [ldR, ldF, ldB, ldC, c_6, c_13, c_28, c_36, c_51, c_63, c_73, hcl, hnp, h1, hst, c9, wr_eq, setR_same, setR_setR, setR_self, upd_at, -Int32.not_le, -Int32.not_lt]; done)
                  | (simp [ldR, ldF, ldB, ldC, c_6, c_13, c_28, c_36, c_51, c_63, c_73, hcl, hnp, wr_eq, setR_same, setR_setR, setR_self, upd_at, -Int32.not_le, -Int32.not_lt]; done)
                  | simp [ldR, ldF, ldB, ldC, c_6, c_13, c_28, c_36, c_51, c_63, c_73, wr_eq, setR_same, setR_setR, setR_self, upd_at, -Int32.not_le, -Int32.not_lt]
                · first
                  | (simp [ldR, ldF, ldB, ldC, c_6, c_13, c_28, c_36, c_51, c_63, c_73, hcl, hnp, h1, hst, c9, wr_eq, setR_same, setR_setR, setR_self, upd_at, -Int32.not_le, -Int32.not_lt]; done)
                  | (simp [ldR, ldF, ldB, ldC, c_6, c_13, c_28, c_36, c_51, c_63, c_73, hcl, hnp, wr_eq, setR_same, setR_setR, setR_self, upd_at, -Int32.not_le, -Int32.not_lt]; done)
                  | simp [ldR, ldF, ldB, ldC, c_6, c_13, c_28, c_36, c_51, c_63, c_73, wr_eq, setR_same, setR_setR, setR_self, upd_at, -Int32.not_le, -Int32.not_lt]
          · refine a_ldc (pc' := 56) dX3_putPallet_54 cn_X3_119 rfl ?_
            refine a_iret dX3_putPallet_56 rfl rfl ?_
            refine fIM ?_ ?_
            · first
              | (simp [ldR, ldF, ldB, ldC, c_6, c_13, c_28, c_36, c_51, hcl, hnp, h1, hst, c9, wr_eq, setR_same, setR_setR, setR_self, upd_at, -Int32.not_le, -Int32.not_lt]; done)
              | (simp [ldR, ldF, ldB, ldC, c_6, c_13, c_28, c_36, c_51, hcl, hnp, wr_eq, setR_same, setR_setR, setR_self, upd_at, -Int32.not_le, -Int32.not_lt]; done)
              | simp [ldR, ldF, ldB, ldC, c_6, c_13, c_28, c_36, c_51, wr_eq, setR_same, setR_setR, setR_self, upd_at, -Int32.not_le, -Int32.not_lt]
            · first
              | (simp [ldR, ldF, ldB, ldC, c_6, c_13, c_28, c_36, c_51, hcl, hnp, h1, hst, c9, wr_eq, setR_same, setR_setR, setR_self, upd_at, -Int32.not_le, -Int32.not_lt]; done)
              | (simp [ldR, ldF, ldB, ldC, c_6, c_13, c_28, c_36, c_51, hcl, hnp, wr_eq, setR_same, setR_setR, setR_self, upd_at, -Int32.not_le, -Int32.not_lt]; done)
              | simp [ldR, ldF, ldB, ldC, c_6, c_13, c_28, c_36, c_51, wr_eq, setR_same, setR_setR, setR_self, upd_at, -Int32.not_le, -Int32.not_lt]
        · refine a_ldc (pc' := 41) dX3_putPallet_39 cn_X3_83 rfl ?_
          refine a_iret dX3_putPallet_41 rfl rfl ?_
          refine fIM ?_ ?_
          · first
            | (simp [ldR, ldF, ldB, ldC, c_6, c_13, c_28, c_36, hcl, hnp, h1, hst, c9, wr_eq, setR_same, setR_setR, setR_self, upd_at, -Int32.not_le, -Int32.not_lt]; done)
            | (simp [ldR, ldF, ldB, ldC, c_6, c_13, c_28, c_36, hcl, hnp, wr_eq, setR_same, setR_setR, setR_self, upd_at, -Int32.not_le, -Int32.not_lt]; done)
            | simp [ldR, ldF, ldB, ldC, c_6, c_13, c_28, c_36, wr_eq, setR_same, setR_setR, setR_self, upd_at, -Int32.not_le, -Int32.not_lt]
          · first
            | (simp [ldR, ldF, ldB, ldC, c_6, c_13, c_28, c_36, hcl, hnp, h1, hst, c9, wr_eq, setR_same, setR_setR, setR_self, upd_at, -Int32.not_le, -Int32.not_lt]; done)
            | (simp [ldR, ldF, ldB, ldC, c_6, c_13, c_28, c_36, hcl, hnp, wr_eq, setR_same, setR_setR, setR_self, upd_at, -Int32.not_le, -Int32.not_lt]; done)
            | simp [ldR, ldF, ldB, ldC, c_6, c_13, c_28, c_36, wr_eq, setR_same, setR_setR, setR_self, upd_at, -Int32.not_le, -Int32.not_lt]
    · refine a_ldc (pc' := 18) dX3_putPallet_16 cn_X3_83 rfl ?_
      refine a_iret dX3_putPallet_18 rfl rfl ?_
      refine fIM ?_ ?_
      · first
        | (simp [ldR, ldF, ldB, ldC, c_6, c_13, hcl, hnp, h1, hst, c9, wr_eq, setR_same, setR_setR, setR_self, upd_at, -Int32.not_le, -Int32.not_lt]; done)
        | (simp [ldR, ldF, ldB, ldC, c_6, c_13, hcl, hnp, wr_eq, setR_same, setR_setR, setR_self, upd_at, -Int32.not_le, -Int32.not_lt]; done)
        | simp [ldR, ldF, ldB, ldC, c_6, c_13, wr_eq, setR_same, setR_setR, setR_self, upd_at, -Int32.not_le, -Int32.not_lt]
      · first
        | (simp [ldR, ldF, ldB, ldC, c_6, c_13, hcl, hnp, h1, hst, c9, wr_eq, setR_same, setR_setR, setR_self, upd_at, -Int32.not_le, -Int32.not_lt]; done)
        | (simp [ldR, ldF, ldB, ldC, c_6, c_13, hcl, hnp, wr_eq, setR_same, setR_setR, setR_self, upd_at, -Int32.not_le, -Int32.not_lt]; done)
        | simp [ldR, ldF, ldB, ldC, c_6, c_13, wr_eq, setR_same, setR_setR, setR_self, upd_at, -Int32.not_le, -Int32.not_lt]
set_option maxRecDepth 20000 in
set_option maxHeartbeats 4000000 in
theorem ct_X3_turnDoor {q nv np : Nat} (hq : q < 9) (hn : nv ≤ 3) (hm : np ≤ 12) (x y : Int32) (M : Mm) (h0 : M q 0 = nI nv) (h1 : M q 1 = nI np) : Ct yX3_turnDoor cX3_turnDoor 4 (some .int) 2 44 [.inr (3, q, 0, 0), .inl x, .inl y] M (RI (drR (M q) x y) (setR M q (drF (M q) x y))) := by
  refine Ct.at RX3 rfl (by decide +kernel) (Nat.le_of_ble_eq_true rfl) [some (.inr (3, q, 0, 0)), some (.inl x), some (.inl y), none] rfl (fun G => ?_)
  refine a_al_0_4 (pc' := 1) dX3_turnDoor_0 rfl ?_
  refine a_il_1_4 (pc' := 2) dX3_turnDoor_1 rfl ?_
  refine k_VI (pc' := 5) (ct_X3_hasVan (by omega) _ _) cw_X3_51 mi_X3_hasVan se_X3_hasVan (ok3 (by omega)) rfl rfl rfl (by decide) (by decide) (Nat.le_of_ble_eq_true rfl) rfl dX3_turnDoor_2 rfl ?_
  refine a_ifB_eq (pc' := 8) (tgt := 17) dX3_turnDoor_5 (by decide) rfl (fun c_5 => ?_) (fun c_5 => ?_)
  · refine a_ldc (pc' := 19) dX3_turnDoor_17 cn_X3_83 rfl ?_
    refine a_iret dX3_turnDoor_19 rfl rfl ?_
    refine fIM ?_ ?_
    · first
      | (simp [drR, drF, drB, c_5, hcl, hnp, wr_eq, setR_same, setR_setR, setR_self, upd_at, -Int32.not_le, -Int32.not_lt]; done)
      | simp [drR, drF, drB, c_5, wr_eq, setR_same, setR_setR, setR_self, upd_at, -Int32.not_le, -Int32.not_lt]
    · first
      | (simp [drR, drF, drB, c_5, hcl, hnp, wr_eq, setR_same, setR_setR, setR_self, upd_at, -Int32.not_le, -Int32.not_lt]; done)
      | simp [drR, drF, drB, c_5, wr_eq, setR_same, setR_setR, setR_self, upd_at, -Int32.not_le, -Int32.not_lt]
  · refine a_il_2_4 (pc' := 9) dX3_turnDoor_8 rfl ?_
    refine a_iconst (v := nI 0) (pc' := 10) dX3_turnDoor_9 (by decide) rfl ?_
    refine a_iconst (v := nI 1) (pc' := 11) dX3_turnDoor_10 (by decide) rfl ?_
    refine k_NI (pc' := 14) (ct_X6_isWithin _ _ _ _) cw_X3_55 ms_X6_isWithin rfl (by decide) (by decide) (Nat.le_of_ble_eq_true rfl) rfl dX3_turnDoor_11 rfl ?_
    refine a_ifB_ne (pc' := 17) (tgt := 20) dX3_turnDoor_14 (by decide) rfl (fun c_14 => ?_) (fun c_14 => ?_)
    · obtain ⟨v, hv, rfl⟩ := hvS_nI c_5 h0 (by omega)
      have hcl : vN (nI v) = v := vN_nI (by omega)
      have hnp : npF (M q) = np := by unfold npF; rw [h1]; exact nI_clamp (by omega)
      obtain ⟨y0, -, hy, rfl⟩ := inn_nI (a := 0) (b := 1) c_14 (by decide)
      refine a_il_2_4 (pc' := 21) dX3_turnDoor_20 rfl ?_
      refine a_iconst (v := nI 1) (pc' := 22) dX3_turnDoor_21 (by decide) rfl ?_
      refine a_icmp_ne (pc' := 25) (tgt := 29) dX3_turnDoor_22 (by decide) rfl (fun c_22 => ?_) (fun c_22 => ?_)
      · obtain rfl : y0 = 0 := by
          have : y0 ≠ 1 := fun w9 => c_22 (by rw [w9])
          omega
        refine a_iconst (v := nI 0) (pc' := 30) dX3_turnDoor_29 (by decide) rfl ?_
        refine a_is_3_4 (pc' := 31) dX3_turnDoor_30 rfl ?_
        refine a_al_0_4 (pc' := 32) dX3_turnDoor_31 rfl ?_
        refine gf_3_6 (pc' := 35) (by omega) fl_X3_23 dX3_turnDoor_32 rfl ?_
        refine a_il_1_4 (pc' := 36) dX3_turnDoor_35 rfl ?_
        refine aN_12 (j := v) (pc' := 37) (by omega) (by omega) dX3_turnDoor_36 rfl ?_
        refine gf_4_2 (pc' := 40) (by omega) (by omega) fl_X3_116 dX3_turnDoor_37 rfl ?_
        refine a_il_3_4 (pc' := 41) dX3_turnDoor_40 rfl ?_
        refine a_icmp_ne (pc' := 44) (tgt := 47) dX3_turnDoor_41 (by decide) rfl (fun c_41 => ?_) (fun c_41 => ?_)
        · refine a_al_0_4 (pc' := 48) dX3_turnDoor_47 rfl ?_
          refine gf_3_6 (pc' := 51) (by omega) fl_X3_23 dX3_turnDoor_48 rfl ?_
          refine a_il_1_4 (pc' := 52) dX3_turnDoor_51 rfl ?_
          refine aN_12 (j := v) (pc' := 53) (by omega) (by omega) dX3_turnDoor_52 rfl ?_
          refine a_il_3_4 (pc' := 54) dX3_turnDoor_53 rfl ?_
          refine pf_4_2 (pc' := 57) (by omega) (by omega) (Or.inl rfl) fl_X3_116 dX3_turnDoor_54 rfl ?_
          refine a_al_0_4 (pc' := 58) dX3_turnDoor_57 rfl ?_
          refine a_il_1_4 (pc' := 59) dX3_turnDoor_58 rfl ?_
          refine k_VI (pc' := 62) (ct_X3_palletsIn (by omega) (by omega) _ _ (by rw [wr_eq, setR_same, upd_at, if_neg (by omega)]; exact h1)) cw_X3_127 mi_X3_palletsIn se_X3_palletsIn (ok3 (by omega)) rfl rfl rfl (by decide) (by decide) (Nat.le_of_ble_eq_true rfl) rfl dX3_turnDoor_59 rfl ?_
          refine k_SI (pc' := 65) (ct_J6_bitCount_0f7a4 _ _) cw_X3_131 ms_J6_bitCount_0f7a4 rfl (by decide) (by decide) (Nat.le_of_ble_eq_true rfl) rfl dX3_turnDoor_62 rfl ?_
          refine a_iret dX3_turnDoor_65 rfl rfl ?_
          refine fIM ?_ ?_
          · first
            | (simp [drR, drF, drB, c_5, c_14, c_22, c_41, hcl, hnp, wr_eq, setR_same, setR_setR, setR_self, upd_at, -Int32.not_le, -Int32.not_lt]; done)
            | simp [drR, drF, drB, c_5, c_14, c_22, c_41, wr_eq, setR_same, setR_setR, setR_self, upd_at, -Int32.not_le, -Int32.not_lt]
          · first
            | (simp [drR, drF, drB, c_5, c_14, c_22, c_41, hcl, hnp, wr_eq, setR_same, setR_setR, setR_self, upd_at, -Int32.not_le, -Int32.not_lt]; done)
            | simp [drR, drF, drB, c_5, c_14, c_22, c_41, wr_eq, setR_same, setR_setR, setR_self, upd_at, -Int32.not_le, -Int32.not_lt]
        · refine a_ldc (pc' := 46) dX3_turnDoor_44 cn_X3_119 rfl ?_
          refine a_iret dX3_turnDoor_46 rfl rfl ?_
          refine fIM ?_ ?_
          · first
            | (simp [drR, drF, drB, c_5, c_14, c_22, c_41, hcl, hnp, wr_eq, setR_same, setR_setR, setR_self, upd_at, -Int32.not_le, -Int32.not_lt]; done)
            | simp [drR, drF, drB, c_5, c_14, c_22, c_41, wr_eq, setR_same, setR_setR, setR_self, upd_at, -Int32.not_le, -Int32.not_lt]
          · first
            | (simp [drR, drF, drB, c_5, c_14, c_22, c_41, hcl, hnp, wr_eq, setR_same, setR_setR, setR_self, upd_at, -Int32.not_le, -Int32.not_lt]; done)
            | simp [drR, drF, drB, c_5, c_14, c_22, c_41, wr_eq, setR_same, setR_setR, setR_self, upd_at, -Int32.not_le, -Int32.not_lt]
      · obtain rfl : y0 = 1 := (nI_eq (by omega) (by decide)).mp c_22
        refine a_iconst (v := nI 1) (pc' := 26) dX3_turnDoor_25 (by decide) rfl ?_
        refine a_goto (pc' := 30) dX3_turnDoor_26 (by decide) ?_
        refine a_is_3_4 (pc' := 31) dX3_turnDoor_30 rfl ?_
        refine a_al_0_4 (pc' := 32) dX3_turnDoor_31 rfl ?_
        refine gf_3_6 (pc' := 35) (by omega) fl_X3_23 dX3_turnDoor_32 rfl ?_
        refine a_il_1_4 (pc' := 36) dX3_turnDoor_35 rfl ?_
        refine aN_12 (j := v) (pc' := 37) (by omega) (by omega) dX3_turnDoor_36 rfl ?_
        refine gf_4_2 (pc' := 40) (by omega) (by omega) fl_X3_116 dX3_turnDoor_37 rfl ?_
        refine a_il_3_4 (pc' := 41) dX3_turnDoor_40 rfl ?_
        refine a_icmp_ne (pc' := 44) (tgt := 47) dX3_turnDoor_41 (by decide) rfl (fun c_41_2 => ?_) (fun c_41_2 => ?_)
        · refine a_al_0_4 (pc' := 48) dX3_turnDoor_47 rfl ?_
          refine gf_3_6 (pc' := 51) (by omega) fl_X3_23 dX3_turnDoor_48 rfl ?_
          refine a_il_1_4 (pc' := 52) dX3_turnDoor_51 rfl ?_
          refine aN_12 (j := v) (pc' := 53) (by omega) (by omega) dX3_turnDoor_52 rfl ?_
          refine a_il_3_4 (pc' := 54) dX3_turnDoor_53 rfl ?_
          refine pf_4_2 (pc' := 57) (by omega) (by omega) (Or.inr rfl) fl_X3_116 dX3_turnDoor_54 rfl ?_
          refine a_al_0_4 (pc' := 58) dX3_turnDoor_57 rfl ?_
          refine a_il_1_4 (pc' := 59) dX3_turnDoor_58 rfl ?_
          refine k_VI (pc' := 62) (ct_X3_palletsIn (by omega) (by omega) _ _ (by rw [wr_eq, setR_same, upd_at, if_neg (by omega)]; exact h1)) cw_X3_127 mi_X3_palletsIn se_X3_palletsIn (ok3 (by omega)) rfl rfl rfl (by decide) (by decide) (Nat.le_of_ble_eq_true rfl) rfl dX3_turnDoor_59 rfl ?_
          refine k_SI (pc' := 65) (ct_J6_bitCount_0f7a4 _ _) cw_X3_131 ms_J6_bitCount_0f7a4 rfl (by decide) (by decide) (Nat.le_of_ble_eq_true rfl) rfl dX3_turnDoor_62 rfl ?_
          refine a_iret dX3_turnDoor_65 rfl rfl ?_
          refine fIM ?_ ?_
          · first
            | (simp [drR, drF, drB, c_5, c_14, c_22, c_41_2, hcl, hnp, wr_eq, setR_same, setR_setR, setR_self, upd_at, -Int32.not_le, -Int32.not_lt]; done)
            | simp [drR, drF, drB, c_5, c_14, c_22, c_41_2, wr_eq, setR_same, setR_setR, setR_self, upd_at, -Int32.not_le, -Int32.not_lt]
          · first
            | (simp [drR, drF, drB, c_5, c_14, c_22, c_41_2, hcl, hnp, wr_eq, setR_same, setR_setR, setR_self, upd_at, -Int32.not_le, -Int32.not_lt]; done)
            | simp [drR, drF, drB, c_5, c_14, c_22, c_41_2, wr_eq, setR_same, setR_setR, setR_self, upd_at, -Int32.not_le, -Int32.not_lt]
        · refine a_ldc (pc' := 46) dX3_turnDoor_44 cn_X3_119 rfl ?_
          refine a_iret dX3_turnDoor_46 rfl rfl ?_
          refine fIM ?_ ?_
          · first
            | (simp [drR, drF, drB, c_5, c_14, c_22, c_41_2, hcl, hnp, wr_eq, setR_same, setR_setR, setR_self, upd_at, -Int32.not_le, -Int32.not_lt]; done)
            | simp [drR, drF, drB, c_5, c_14, c_22, c_41_2, wr_eq, setR_same, setR_setR, setR_self, upd_at, -Int32.not_le, -Int32.not_lt]
          · first
            | (simp [drR, drF, drB, c_5, c_14, c_22, c_41_2, hcl, hnp, wr_eq, setR_same, setR_setR, setR_self, upd_at, -Int32.not_le, -Int32.not_lt]; done)
            | simp [drR, drF, drB, c_5, c_14, c_22, c_41_2, wr_eq, setR_same, setR_setR, setR_self, upd_at, -Int32.not_le, -Int32.not_lt]
    · refine a_ldc (pc' := 19) dX3_turnDoor_17 cn_X3_83 rfl ?_
      refine a_iret dX3_turnDoor_19 rfl rfl ?_
      refine fIM ?_ ?_
      · first
        | (simp [drR, drF, drB, c_5, c_14, hcl, hnp, wr_eq, setR_same, setR_setR, setR_self, upd_at, -Int32.not_le, -Int32.not_lt]; done)
        | simp [drR, drF, drB, c_5, c_14, wr_eq, setR_same, setR_setR, setR_self, upd_at, -Int32.not_le, -Int32.not_lt]
      · first
        | (simp [drR, drF, drB, c_5, c_14, hcl, hnp, wr_eq, setR_same, setR_setR, setR_self, upd_at, -Int32.not_le, -Int32.not_lt]; done)
        | simp [drR, drF, drB, c_5, c_14, wr_eq, setR_same, setR_setR, setR_self, upd_at, -Int32.not_le, -Int32.not_lt]
set_option maxRecDepth 20000 in
set_option maxHeartbeats 4000000 in
theorem ct_X3_handOver {q np : Nat} (hq : q < 9) (hm : np ≤ 12) (x : Int32) (M : Mm) (h1 : M q 1 = nI np) (hvo : vOK (M q)) : Ct yX3_handOver cX3_handOver 3 (some .int) 1 21 [.inr (3, q, 0, 0), .inl x] M (RI (dlR (M q) x) (setR M q (dlF (M q) x))) := by
  refine Ct.at RX3 rfl (by decide +kernel) (Nat.le_of_ble_eq_true rfl) [some (.inr (3, q, 0, 0)), some (.inl x), none] rfl (fun G => ?_)
  refine a_al_0_3 (pc' := 1) dX3_handOver_0 rfl ?_
  refine a_il_1_3 (pc' := 2) dX3_handOver_1 rfl ?_
  refine k_VI (pc' := 5) (ct_X3_hasPallet (by omega) _ _) cw_X3_158 mi_X3_hasPallet se_X3_hasPallet (ok3 (by omega)) rfl rfl rfl (by decide) (by decide) (Nat.le_of_ble_eq_true rfl) rfl dX3_handOver_2 rfl ?_
  refine a_ifB_ne (pc' := 8) (tgt := 11) dX3_handOver_5 (by decide) rfl (fun c_5 => ?_) (fun c_5 => ?_)
  · obtain ⟨p, hp, rfl⟩ := hpS_nI c_5 h1 (by omega)
    have hcl : vN (nI p) = p := vN_nI (by omega)
    obtain ⟨v, hv, ev⟩ := hvo p (by omega)
    have hcv : vN (nI v) = v := vN_nI (by omega)
    refine a_al_0_3 (pc' := 12) dX3_handOver_11 rfl ?_
    refine gf_3_7 (pc' := 15) (by omega) fl_X3_29 dX3_handOver_12 rfl ?_
    refine a_il_1_3 (pc' := 16) dX3_handOver_15 rfl ?_
    refine aN_10 (j := p) (pc' := 17) (by omega) (by omega) dX3_handOver_16 rfl ?_
    refine a_as_2_3 (pc' := 18) dX3_handOver_17 rfl ?_
    refine a_al_2_3 (pc' := 19) dX3_handOver_18 rfl ?_
    refine gf_1_5 (pc' := 22) (by omega) (by omega) fl_X3_161 dX3_handOver_19 rfl ?_
    refine a_if_ne (pc' := 25) (tgt := 40) dX3_handOver_22 (by decide) rfl (fun c_22 => ?_) (fun c_22 => ?_)
    · refine a_ldc (pc' := 42) dX3_handOver_40 cn_X3_119 rfl ?_
      refine a_iret dX3_handOver_42 rfl rfl ?_
      refine fIM ?_ ?_
      · first
        | (simp [dlR, dlF, dlB, dlv, c_5, c_22, hcl, ev, hcv, nI_0, wr_eq, setR_same, setR_setR, setR_self, upd_at, -Int32.not_le, -Int32.not_lt]; done)
        | simp [dlR, dlF, dlB, dlv, c_5, c_22, nI_0, wr_eq, setR_same, setR_setR, setR_self, upd_at, -Int32.not_le, -Int32.not_lt]
      · first
        | (simp [dlR, dlF, dlB, dlv, c_5, c_22, hcl, ev, hcv, nI_0, wr_eq, setR_same, setR_setR, setR_self, upd_at, -Int32.not_le, -Int32.not_lt]; done)
        | simp [dlR, dlF, dlB, dlv, c_5, c_22, nI_0, wr_eq, setR_same, setR_setR, setR_self, upd_at, -Int32.not_le, -Int32.not_lt]
    · refine a_al_0_3 (pc' := 26) dX3_handOver_25 rfl ?_
      refine gf_3_6 (pc' := 29) (by omega) fl_X3_23 dX3_handOver_26 rfl ?_
      refine a_al_2_3 (pc' := 30) dX3_handOver_29 rfl ?_
      refine gf_1_0 (pc' := 33) (by omega) (by omega) fl_X3_164 dX3_handOver_30 rfl ?_
      rw [ev]
      refine aN_12 (j := v) (pc' := 34) (by omega) (by omega) dX3_handOver_33 rfl ?_
      refine gf_4_2 (pc' := 37) (by omega) (by omega) fl_X3_116 dX3_handOver_34 rfl ?_
      refine a_if_ne (pc' := 40) (tgt := 43) dX3_handOver_37 (by decide) rfl (fun c_37 => ?_) (fun c_37 => ?_)
      · refine a_al_2_3 (pc' := 44) dX3_handOver_43 rfl ?_
        refine a_al_2_3 (pc' := 45) dX3_handOver_44 rfl ?_
        refine k_VI (pc' := 48) (ct_X1_isOverdue (by omega) (by omega) _) cw_X3_75 mi_X1_isOverdue se_X1_isOverdue (ok1 (by omega) (by omega)) rfl rfl rfl (by decide) (by decide) (Nat.le_of_ble_eq_true rfl) rfl dX3_handOver_45 rfl ?_
        refine a_ifB_eq (pc' := 51) (tgt := 55) dX3_handOver_48 (by decide) rfl (fun c_48 => ?_) (fun c_48 => ?_)
        · refine a_iconst (v := nI 1) (pc' := 56) dX3_handOver_55 (by decide) rfl ?_
          refine pf_1_5 (pc' := 59) (by omega) (by omega) fl_X3_161 dX3_handOver_56 rfl ?_
          refine a_al_2_3 (pc' := 60) dX3_handOver_59 rfl ?_
          refine gf_1_5 (pc' := 63) (by omega) (by omega) fl_X3_161 dX3_handOver_60 rfl ?_
          refine a_iret dX3_handOver_63 rfl rfl ?_
          refine fIM ?_ ?_
          · first
            | (simp [dlR, dlF, dlB, dlv, c_5, c_22, c_37, c_48, hcl, ev, hcv, nI_0, wr_eq, setR_same, setR_setR, setR_self, upd_at, -Int32.not_le, -Int32.not_lt]; done)
            | simp [dlR, dlF, dlB, dlv, c_5, c_22, c_37, c_48, nI_0, wr_eq, setR_same, setR_setR, setR_self, upd_at, -Int32.not_le, -Int32.not_lt]
          · first
            | (simp [dlR, dlF, dlB, dlv, c_5, c_22, c_37, c_48, hcl, ev, hcv, nI_0, wr_eq, setR_same, setR_setR, setR_self, upd_at, -Int32.not_le, -Int32.not_lt]; done)
            | simp [dlR, dlF, dlB, dlv, c_5, c_22, c_37, c_48, nI_0, wr_eq, setR_same, setR_setR, setR_self, upd_at, -Int32.not_le, -Int32.not_lt]
        · refine a_iconst (v := nI 2) (pc' := 52) dX3_handOver_51 (by decide) rfl ?_
          refine a_goto (pc' := 56) dX3_handOver_52 (by decide) ?_
          refine pf_1_5 (pc' := 59) (by omega) (by omega) fl_X3_161 dX3_handOver_56 rfl ?_
          refine a_al_2_3 (pc' := 60) dX3_handOver_59 rfl ?_
          refine gf_1_5 (pc' := 63) (by omega) (by omega) fl_X3_161 dX3_handOver_60 rfl ?_
          refine a_iret dX3_handOver_63 rfl rfl ?_
          refine fIM ?_ ?_
          · first
            | (simp [dlR, dlF, dlB, dlv, c_5, c_22, c_37, c_48, hcl, ev, hcv, nI_0, wr_eq, setR_same, setR_setR, setR_self, upd_at, -Int32.not_le, -Int32.not_lt]; done)
            | simp [dlR, dlF, dlB, dlv, c_5, c_22, c_37, c_48, nI_0, wr_eq, setR_same, setR_setR, setR_self, upd_at, -Int32.not_le, -Int32.not_lt]
          · first
            | (simp [dlR, dlF, dlB, dlv, c_5, c_22, c_37, c_48, hcl, ev, hcv, nI_0, wr_eq, setR_same, setR_setR, setR_self, upd_at, -Int32.not_le, -Int32.not_lt]; done)
            | simp [dlR, dlF, dlB, dlv, c_5, c_22, c_37, c_48, nI_0, wr_eq, setR_same, setR_setR, setR_self, upd_at, -Int32.not_le, -Int32.not_lt]
      · refine a_ldc (pc' := 42) dX3_handOver_40 cn_X3_119 rfl ?_
        refine a_iret dX3_handOver_42 rfl rfl ?_
        refine fIM ?_ ?_
        · first
          | (simp [dlR, dlF, dlB, dlv, c_5, c_22, c_37, hcl, ev, hcv, nI_0, wr_eq, setR_same, setR_setR, setR_self, upd_at, -Int32.not_le, -Int32.not_lt]; done)
          | simp [dlR, dlF, dlB, dlv, c_5, c_22, c_37, nI_0, wr_eq, setR_same, setR_setR, setR_self, upd_at, -Int32.not_le, -Int32.not_lt]
        · first
          | (simp [dlR, dlF, dlB, dlv, c_5, c_22, c_37, hcl, ev, hcv, nI_0, wr_eq, setR_same, setR_setR, setR_self, upd_at, -Int32.not_le, -Int32.not_lt]; done)
          | simp [dlR, dlF, dlB, dlv, c_5, c_22, c_37, nI_0, wr_eq, setR_same, setR_setR, setR_self, upd_at, -Int32.not_le, -Int32.not_lt]
  · refine a_ldc (pc' := 10) dX3_handOver_8 cn_X3_83 rfl ?_
    refine a_iret dX3_handOver_10 rfl rfl ?_
    refine fIM ?_ ?_
    · first
      | (simp [dlR, dlF, dlB, dlv, c_5, hcl, ev, hcv, nI_0, wr_eq, setR_same, setR_setR, setR_self, upd_at, -Int32.not_le, -Int32.not_lt]; done)
      | simp [dlR, dlF, dlB, dlv, c_5, nI_0, wr_eq, setR_same, setR_setR, setR_self, upd_at, -Int32.not_le, -Int32.not_lt]
    · first
      | (simp [dlR, dlF, dlB, dlv, c_5, hcl, ev, hcv, nI_0, wr_eq, setR_same, setR_setR, setR_self, upd_at, -Int32.not_le, -Int32.not_lt]; done)
      | simp [dlR, dlF, dlB, dlv, c_5, nI_0, wr_eq, setR_same, setR_setR, setR_self, upd_at, -Int32.not_le, -Int32.not_lt]
set_option maxRecDepth 20000 in
set_option maxHeartbeats 4000000 in
theorem lp_X3_minuteInVan {G : Gl} {Φ : Option OV → Mm → Prop} {q np v : Nat} (hq : q < 9) (hn : np ≤ 12) (hv : v < 3) (r : Int32) : ∀ (n p : Nat) (M : Mm), p + n = np → (M q 1 = nI np) → (zOK (M q)) → (Φ (some (.inl r)) (setR M q (addL (M q) v n p))) → AW G cX3_minuteInVan RX3 5 3 70 (some .int) Φ 35 [some (.inr (3, q, 0, 0)), some (.inl (nI v)), some (.inr (4, q, v, 0)), some (.inl r), some (.inl (nI p))] [] M := by
  intro n
  induction n with
  | zero =>
    intro p M he h1 hzo hΦ
    refine a_il_4_5 (pc' := 37) dX3_minuteInVan_35 rfl ?_
    refine a_al_0_5 (pc' := 38) dX3_minuteInVan_37 rfl ?_
    refine gf_3_5 (pc' := 41) (by omega) fl_X3_41 dX3_minuteInVan_38 rfl ?_
    rw [h1]
    refine a_icmp_ge (pc' := 44) (tgt := 75) dX3_minuteInVan_41 (by decide) rfl (fun c_41 => ?_) (fun c_41 => absurd (nI_le (by omega) (by omega)) c_41)
    refine a_il_3_5 (pc' := 76) dX3_minuteInVan_75 rfl ?_
    refine a_iret dX3_minuteInVan_76 rfl rfl ?_
    rw [show setR M q (addL (M q) v 0 p) = M from setR_self M q] at hΦ
    exact hΦ
  | succ n ih =>
    intro p M he h1 hzo hΦ
    have hzp := hzo.at (p := p) (by omega)
    refine a_il_4_5 (pc' := 37) dX3_minuteInVan_35 rfl ?_
    refine a_al_0_5 (pc' := 38) dX3_minuteInVan_37 rfl ?_
    refine gf_3_5 (pc' := 41) (by omega) fl_X3_41 dX3_minuteInVan_38 rfl ?_
    rw [h1]
    refine a_icmp_ge (pc' := 44) (tgt := 75) dX3_minuteInVan_41 (by decide) rfl (fun c_41 => absurd c_41 (nI_ge (by omega) (by omega))) (fun c_41 => ?_)
    refine a_al_0_5 (pc' := 45) dX3_minuteInVan_44 rfl ?_
    refine gf_3_7 (pc' := 48) (by omega) fl_X3_29 dX3_minuteInVan_45 rfl ?_
    refine a_il_4_5 (pc' := 50) dX3_minuteInVan_48 rfl ?_
    refine aN_10 (j := p) (pc' := 51) (by omega) (by omega) dX3_minuteInVan_50 rfl ?_
    refine a_il_1_5 (pc' := 52) dX3_minuteInVan_51 rfl ?_
    refine k_VI (pc' := 55) (ct_X1_isIn (by omega) (by omega) _ _) cw_X3_69 mi_X1_isIn se_X1_isIn (ok1 (by omega) (by omega)) rfl rfl rfl (by decide) (by decide) (Nat.le_of_ble_eq_true rfl) rfl dX3_minuteInVan_52 rfl ?_
    refine a_ifB_eq (pc' := 58) (tgt := 69) dX3_minuteInVan_55 (by decide) rfl (fun c_55 => ?_) (fun c_55 => ?_)
    · refine a_iN_4_5 (m := p + 1) (pc' := 72) dX3_minuteInVan_69 (nI_add _ _) rfl ?_
      refine a_goto (pc' := 35) dX3_minuteInVan_72 (by decide) ?_
      exact ih (p + 1) _ (by omega) h1 hzo (by simpa [addL, c_55] using hΦ)
    · refine a_al_0_5 (pc' := 59) dX3_minuteInVan_58 rfl ?_
      refine gf_3_7 (pc' := 62) (by omega) fl_X3_29 dX3_minuteInVan_59 rfl ?_
      refine a_il_4_5 (pc' := 64) dX3_minuteInVan_62 rfl ?_
      refine aN_10 (j := p) (pc' := 65) (by omega) (by omega) dX3_minuteInVan_64 rfl ?_
      refine a_al_2_5 (pc' := 66) dX3_minuteInVan_65 rfl ?_
      refine k_VV (pc' := 69) (ct_X1_addMinute (by omega) (by omega) (by omega) hzp.1 _ hzp.2) cw_X3_155 mi_X1_addMinute se_X1_addMinute (ok1 (by omega) (by omega)) rfl rfl rfl (by decide) (by decide) (Nat.le_of_ble_eq_true rfl) rfl dX3_minuteInVan_66 rfl ?_
      refine a_iN_4_5 (m := p + 1) (pc' := 72) dX3_minuteInVan_69 (nI_add _ _) rfl ?_
      refine a_goto (pc' := 35) dX3_minuteInVan_72 (by decide) ?_
      exact ih (p + 1) _ (by omega) (by rw [setR_same, addP_ne _ (by omega) (by omega) (by omega)]; exact h1) (by rw [setR_same]; exact hzo.addP _ _ _) (by simpa [addL, setR_same, setR_setR, c_55] using hΦ)
set_option maxRecDepth 20000 in
set_option maxHeartbeats 4000000 in
theorem ct_X3_minuteInVan {q np v : Nat} (hq : q < 9) (hn : np ≤ 12) (hv : v < 3) (M : Mm) (h1 : M q 1 = nI np) (hzo : zOK (M q)) : Ct yX3_minuteInVan cX3_minuteInVan 5 (some .int) 3 70 [.inr (3, q, 0, 0), .inl (nI v)] M (RI (minN (M q) v) (setR M q (minF (M q) v))) := by
  refine Ct.at RX3 rfl (by decide +kernel) (Nat.le_of_ble_eq_true rfl) [some (.inr (3, q, 0, 0)), some (.inl (nI v)), none, none, none] rfl (fun G => ?_)
  refine a_al_0_5 (pc' := 1) dX3_minuteInVan_0 rfl ?_
  refine gf_3_6 (pc' := 4) (by omega) fl_X3_23 dX3_minuteInVan_1 rfl ?_
  refine a_il_1_5 (pc' := 5) dX3_minuteInVan_4 rfl ?_
  refine aN_12 (j := v) (pc' := 6) (by omega) (by omega) dX3_minuteInVan_5 rfl ?_
  refine a_as_2_5 (pc' := 7) dX3_minuteInVan_6 rfl ?_
  refine a_al_2_5 (pc' := 8) dX3_minuteInVan_7 rfl ?_
  refine a_al_0_5 (pc' := 9) dX3_minuteInVan_8 rfl ?_
  refine gf_3_1 (pc' := 12) (by omega) fl_X3_9 dX3_minuteInVan_9 rfl ?_
  refine k_VV (pc' := 15) (ct_X4_changeTemperatures (by omega) (by omega) _ _) cw_X3_145 mi_X4_changeTemperatures se_X4_changeTemperatures (ok4 (by omega) (by omega)) rfl rfl rfl (by decide) (by decide) (Nat.le_of_ble_eq_true rfl) rfl dX3_minuteInVan_12 rfl ?_
  refine a_al_2_5 (pc' := 16) dX3_minuteInVan_15 rfl ?_
  refine k_VV (pc' := 19) (ct_X4_mixAir (by omega) (by omega) _) cw_X3_149 mi_X4_mixAir se_X4_mixAir (ok4 (by omega) (by omega)) rfl rfl rfl (by decide) (by decide) (Nat.le_of_ble_eq_true rfl) rfl dX3_minuteInVan_16 rfl ?_
  simp only [setR_same, setR_setR]
  rw [show mixA (heatA (M q) v (M q 3)) v = midF (M q) v from rfl]
  refine a_al_2_5 (pc' := 20) dX3_minuteInVan_19 rfl ?_
  refine a_al_0_5 (pc' := 21) dX3_minuteInVan_20 rfl ?_
  refine gf_3_2 (pc' := 24) (by omega) fl_X3_15 dX3_minuteInVan_21 rfl ?_
  refine a_al_0_5 (pc' := 25) dX3_minuteInVan_24 rfl ?_
  refine gf_3_3 (pc' := 28) (by omega) fl_X3_18 dX3_minuteInVan_25 rfl ?_
  simp only [setR_same]
  rw [midF_lo _ (by decide), midF_lo _ (by decide)]
  refine k_VI (pc' := 31) (ct_X4_findProbes (by omega) (by omega) _ _ _) cw_X3_152 mi_X4_findProbes se_X4_findProbes (ok4 (by omega) (by omega)) rfl rfl rfl (by decide) (by decide) (Nat.le_of_ble_eq_true rfl) rfl dX3_minuteInVan_28 rfl ?_
  refine a_is_3_5 (pc' := 32) dX3_minuteInVan_31 rfl ?_
  refine a_iconst (v := nI 0) (pc' := 33) dX3_minuteInVan_32 (by decide) rfl ?_
  refine a_is_4_5 (pc' := 35) dX3_minuteInVan_33 rfl ?_
  refine lp_X3_minuteInVan hq hn hv _ np 0 _ (by omega) ?_ ?_ ?_
  · simp only [setR_same]; rw [findA_lo _ _ _ (by decide), midF_lo _ (by decide)]; exact h1
  · simp only [setR_same]; exact (hzo.mid hv).find hv _ _
  · refine ⟨by simp only [setR_same]; rfl, ?_⟩
    simp only [setR_same, setR_setR]
    unfold minF
    rw [show npF (M q) = np from by unfold npF; rw [h1]; exact nI_clamp (by omega)]
