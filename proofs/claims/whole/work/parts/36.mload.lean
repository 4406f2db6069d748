/-- at most three pallets in a zone -/
def QZ (F : Nat → Int32) : Prop := ∀ v z, v < 3 → z < 3 → ∃ k, k ≤ 3 ∧ pzL F (nI v) (nI z) (npF F) 0 (nI 0) = nI k
theorem ldC_f {F : Nat → Int32} {x z : Int32} {np : Nat} (h1 : F 1 = nI np) (hm : np ≤ 12) (hnp : npF F = np) (h : nI np = nI 12 ∨ pzL F x z np 0 (nI 0) = nI 3) : ldC F x z = false := by
  unfold ldC
  rcases h with h | h
  · rw [h1, h]; simp
  · rw [hnp, h]
    have : ¬ nI 3 < nI 3 := by decide
    simp [this]
theorem ldC_t {F : Nat → Int32} {x z : Int32} {np : Nat} (h1 : F 1 = nI np) (hp : np < 12) (hnp : npF F = np) (h : ¬ pzL F x z np 0 (nI 0) = nI 3) (hq : ∃ k, k ≤ 3 ∧ pzL F x z np 0 (nI 0) = nI k) : ldC F x z = true := by
  obtain ⟨k, hk, e⟩ := hq
  have hk3 : k < 3 := by
    have : k ≠ 3 := fun q => h (by rw [e, q])
    omega
  unfold ldC
  rw [hnp, e, h1]
  have e1 : ¬ nI 12 ≤ nI np := nI_ge hp (by decide)
  have e2 : nI k < nI 3 := nI_lt hk3 (by decide)
  simp only [e1, e2, decide_false, decide_true, Bool.not_false, Bool.and_self]
theorem pal_eq (F : Nat → Int32) {p : Nat} (hp : p < 12) (v z l a w : Int32) : upd (upd (upd (upd (upd (upd (upd (upd (upd (upd (upd (upd (upd (upd (upd (upd F (63 + 10 * p + 0) (nI 0)) (63 + 10 * p + 1) (nI 0)) (63 + 10 * p + 2) (nI 0)) (63 + 10 * p + 3) (nI 0)) (63 + 10 * p + 4) (nI 0)) (63 + 10 * p + 5) (nI 0)) (63 + 10 * p + 6) (nI 0)) (63 + 10 * p + 7) (nI 0)) (63 + 10 * p + 8) (nI 0)) (63 + 10 * p + 9) (nI 0)) (63 + 10 * p + 0) v) (63 + 10 * p + 1) z) (63 + 10 * p + 2) l) (63 + 10 * p + 3) a) (63 + 10 * p + 4) w) 1 (F 1 + nI 1) = upd (startP F p v z l a w) 1 (F 1 + nI 1) := by
  funext i
  simp only [upd_at]
  by_cases h0 : i = 1
  · rw [if_pos h0, if_pos h0]
  · rw [if_neg h0, if_neg h0]
    by_cases h : 63 + 10 * p ≤ i ∧ i < 73 + 10 * p
    · obtain ⟨j, hj, rfl⟩ : ∃ j, j < 10 ∧ i = 63 + 10 * p + j := ⟨i - (63 + 10 * p), by omega, by omega⟩
      simp only [startP, upd_at]
      rcases (by omega : j = 0 ∨ j = 1 ∨ j = 2 ∨ j = 3 ∨ j = 4 ∨ j = 5 ∨ j = 6 ∨ j = 7 ∨ j = 8 ∨ j = 9) with rfl | rfl | rfl | rfl | rfl | rfl | rfl | rfl | rfl | rfl <;> repeat (first | rw [if_pos (by omega)] | rw [if_neg (by omega)])
    · rw [startP_ne F v z l a w (by omega)]
      repeat rw [if_neg (by omega)]
set_option maxRecDepth 20000 in
set_option maxHeartbeats 4000000 in
theorem ct_X7_loadPallet {k : Nat} (hk : k ≤ 6) {nv : Nat} (hn : nv ≤ 3) {np : Nat} (hm : np ≤ 12) (x z l a w : Int32) (M : Mm) (h6 : M 60 0 = nI k) (h0 : M 50 0 = nI nv) (h1 : M 50 1 = nI np) (hq : QZ (M 50)) : Ct yX7_loadPallet cX7_loadPallet 9 (some .int) 3 66 [.inr (7, 0, 0, 0), .inl x, .inl z, .inl l, .inl a, .inl w] M (RI (ldR (M 50) x z l a w) (mE M k (ldB (M 50) x z l a w && !decide (M 50 (6 + 19 * vN x + 2) = 0) && ldC (M 50) x z) (ldF (M 50) x z l a w))) := by
  refine Ct.at RX7 rfl (by decide +kernel) (Nat.le_of_ble_eq_true rfl) [some (.inr (7, 0, 0, 0)), some (.inl x), some (.inl z), some (.inl l), some (.inl a), some (.inl w), none, none, none] rfl (fun G => ?_)
  refine a_al_0_9 (pc' := 1) dX7_loadPallet_0 rfl ?_
  refine a_il_1_9 (pc' := 2) dX7_loadPallet_1 rfl ?_
  refine k_VI (pc' := 5) (ct_X7_isVan (by omega) _ _ (by assumption)) cw_X7_88 mi_X7_isVan se_X7_isVan rfl rfl rfl rfl (by decide) (by decide) (Nat.le_of_ble_eq_true rfl) rfl dX7_loadPallet_2 rfl ?_
  refine a_ifB_eq (pc' := 8) (tgt := 52) dX7_loadPallet_5 (by decide) rfl (fun c_5 => ?_) (fun c_5 => ?_)
  · refine a_ldc (pc' := 54) dX7_loadPallet_52 cn_X7_92 rfl ?_
    refine a_iret dX7_loadPallet_54 rfl rfl ?_
    exact fIM (by simp [ldR, ldF, ldB, hzS, c_5, -Int32.not_le, -Int32.not_lt]) (by simp [mE, ldR, ldF, ldB, hzS, c_5, -Int32.not_le, -Int32.not_lt])
  · refine a_il_2_9 (pc' := 9) dX7_loadPallet_8 rfl ?_
    refine k_SI (pc' := 12) (ct_X7_isZone _ _) cw_X7_108 ms_X7_isZone rfl (by decide) (by decide) (Nat.le_of_ble_eq_true rfl) rfl dX7_loadPallet_9 rfl ?_
    refine a_ifB_eq (pc' := 15) (tgt := 52) dX7_loadPallet_12 (by decide) rfl (fun c_12 => ?_) (fun c_12 => ?_)
    · refine a_ldc (pc' := 54) dX7_loadPallet_52 cn_X7_92 rfl ?_
      refine a_iret dX7_loadPallet_54 rfl rfl ?_
      exact fIM (by simp [ldR, ldF, ldB, hzS, c_5, c_12, -Int32.not_le, -Int32.not_lt]) (by simp [mE, ldR, ldF, ldB, hzS, c_5, c_12, -Int32.not_le, -Int32.not_lt])
    · refine a_il_3_9 (pc' := 16) dX7_loadPallet_15 rfl ?_
      refine a_sipush (v := (-300)) (pc' := 19) dX7_loadPallet_16 (by decide) rfl ?_
      refine a_sipush (v := nI 300) (pc' := 22) dX7_loadPallet_19 (by decide) rfl ?_
      refine k_SI (pc' := 25) (ct_X7_in _ _ _ _) cw_X7_43 ms_X7_in rfl (by decide) (by decide) (Nat.le_of_ble_eq_true rfl) rfl dX7_loadPallet_22 rfl ?_
      refine a_ifB_eq (pc' := 28) (tgt := 52) dX7_loadPallet_25 (by decide) rfl (fun c_25 => ?_) (fun c_25 => ?_)
      · refine a_ldc (pc' := 54) dX7_loadPallet_52 cn_X7_92 rfl ?_
        refine a_iret dX7_loadPallet_54 rfl rfl ?_
        exact fIM (by simp [ldR, ldF, ldB, hzS, c_5, c_12, c_25, -Int32.not_le, -Int32.not_lt]) (by simp [mE, ldR, ldF, ldB, hzS, c_5, c_12, c_25, -Int32.not_le, -Int32.not_lt])
      · refine a_il_4_9 (pc' := 30) dX7_loadPallet_28 rfl ?_
        refine a_iconst (v := nI 0) (pc' := 31) dX7_loadPallet_30 (by decide) rfl ?_
        refine a_sipush (v := nI 600) (pc' := 34) dX7_loadPallet_31 (by decide) rfl ?_
        refine k_SI (pc' := 37) (ct_X7_in _ _ _ _) cw_X7_43 ms_X7_in rfl (by decide) (by decide) (Nat.le_of_ble_eq_true rfl) rfl dX7_loadPallet_34 rfl ?_
        refine a_ifB_eq (pc' := 40) (tgt := 52) dX7_loadPallet_37 (by decide) rfl (fun c_37 => ?_) (fun c_37 => ?_)
        · refine a_ldc (pc' := 54) dX7_loadPallet_52 cn_X7_92 rfl ?_
          refine a_iret dX7_loadPallet_54 rfl rfl ?_
          exact fIM (by simp [ldR, ldF, ldB, hzS, c_5, c_12, c_25, c_37, -Int32.not_le, -Int32.not_lt]) (by simp [mE, ldR, ldF, ldB, hzS, c_5, c_12, c_25, c_37, -Int32.not_le, -Int32.not_lt])
        · refine a_il_5_9 (pc' := 42) dX7_loadPallet_40 rfl ?_
          refine a_iconst (v := nI 0) (pc' := 43) dX7_loadPallet_42 (by decide) rfl ?_
          refine a_sipush (v := nI 9999) (pc' := 46) dX7_loadPallet_43 (by decide) rfl ?_
          refine k_SI (pc' := 49) (ct_X7_in _ _ _ _) cw_X7_43 ms_X7_in rfl (by decide) (by decide) (Nat.le_of_ble_eq_true rfl) rfl dX7_loadPallet_46 rfl ?_
          refine a_ifB_ne (pc' := 52) (tgt := 55) dX7_loadPallet_49 (by decide) rfl (fun c_49 => ?_) (fun c_49 => ?_)
          · obtain ⟨v, z0, hv, hz, rfl, rfl⟩ := hzS_nI (show hzS (M 50) x z = true by simp [hzS, c_5, c_12]) h0 (by omega)
            have hcl : vN (nI v) = v := vN_nI (by omega)
            have hcz : vN (nI z0) = z0 := vN_nI (by omega)
            have hnp : npF (M 50) = np := by unfold npF; rw [h1]; exact nI_clamp (by omega)
            refine a_al_0_9 (pc' := 56) dX7_loadPallet_55 rfl ?_
            refine a_il_1_9 (pc' := 57) dX7_loadPallet_56 rfl ?_
            refine a_iconst (v := nI 2) (pc' := 58) dX7_loadPallet_57 (by decide) rfl ?_
            refine k_VI (pc' := 61) (ct_X7_of (by omega) (by omega) _) cw_X7_65 mi_X7_of se_X7_of rfl rfl rfl rfl (by decide) (by decide) (Nat.le_of_ble_eq_true rfl) rfl dX7_loadPallet_58 rfl ?_
            refine a_if_ne (pc' := 64) (tgt := 67) dX7_loadPallet_61 (by decide) rfl (fun c_61 => ?_) (fun c_61 => ?_)
            · refine a_al_0_9 (pc' := 68) dX7_loadPallet_67 rfl ?_
              refine gf_7_0 (pc' := 71) fl_X7_7 dX7_loadPallet_68 rfl ?_
              refine a_iconst (v := nI 1) (pc' := 72) dX7_loadPallet_71 (by decide) rfl ?_
              refine a_ialdN (pc' := 73) rfl (by omega) (by decide) dX7_loadPallet_72 rfl ?_
              rw [h1]
              refine a_bipush (v := nI 12) (pc' := 75) dX7_loadPallet_73 (by decide) rfl ?_
              refine a_icmp_eq (pc' := 78) (tgt := 88) dX7_loadPallet_75 (by decide) rfl (fun c_75 => ?_) (fun c_75 => ?_)
              · have hlc : ldC (M 50) (nI v) (nI z0) = false := ldC_f h1 hm hnp (Or.inl c_75)
                refine a_ldc (pc' := 90) dX7_loadPallet_88 cn_X7_100 rfl ?_
                refine a_iret dX7_loadPallet_90 rfl rfl ?_
                exact fIM (by simp [ldR, ldF, ldB, hzS, hcl, hlc, c_5, c_12, c_25, c_37, c_49, c_61, c_75, -Int32.not_le, -Int32.not_lt]) (by simp [mE, ldR, ldF, ldB, hzS, hcl, hlc, c_5, c_12, c_25, c_37, c_49, c_61, c_75, -Int32.not_le, -Int32.not_lt])
              · refine a_al_0_9 (pc' := 79) dX7_loadPallet_78 rfl ?_
                refine a_il_1_9 (pc' := 80) dX7_loadPallet_79 rfl ?_
                refine a_il_2_9 (pc' := 81) dX7_loadPallet_80 rfl ?_
                refine k_VI (pc' := 84) (ct_X7_manyIn hm _ _ _ h1) cw_X7_132 mi_X7_manyIn se_X7_manyIn rfl rfl rfl rfl (by decide) (by decide) (Nat.le_of_ble_eq_true rfl) rfl dX7_loadPallet_81 rfl ?_
                refine a_iconst (v := nI 3) (pc' := 85) dX7_loadPallet_84 (by decide) rfl ?_
                refine a_icmp_ne (pc' := 88) (tgt := 91) dX7_loadPallet_85 (by decide) rfl (fun c_85 => ?_) (fun c_85 => ?_)
                · have hp : np < 12 := by
                    have : np ≠ 12 := fun q => c_75 (by rw [q])
                    omega
                  have hlc : ldC (M 50) (nI v) (nI z0) = true := ldC_t h1 hp hnp c_85 (by have := hq v z0 (by omega) hz; rwa [hnp] at this)
                  refine a_al_0_9 (pc' := 92) dX7_loadPallet_91 rfl ?_
                  refine k_VV (pc' := 95) (ct_X7_hold _) cw_X7_117 mi_X7_hold se_X7_hold rfl rfl rfl rfl (by decide) (by decide) (Nat.le_of_ble_eq_true rfl) rfl dX7_loadPallet_92 rfl ?_
                  refine a_al_0_9 (pc' := 96) dX7_loadPallet_95 rfl ?_
                  refine gf_7_0 (pc' := 99) fl_X7_7 dX7_loadPallet_96 rfl ?_
                  refine a_iconst (v := nI 1) (pc' := 100) dX7_loadPallet_99 (by decide) rfl ?_
                  refine a_ialdN (pc' := 101) rfl (by omega) (by decide) dX7_loadPallet_100 rfl ?_
                  simp (disch := decide) only [hM_ne]
                  rw [h1]
                  refine a_is_6_9 (pc' := 103) dX7_loadPallet_101 rfl ?_
                  refine a_il_6_9 (pc' := 105) dX7_loadPallet_103 rfl ?_
                  refine k_SI (pc' := 108) (ct_X7_palletSpot _) cw_X7_51 ms_X7_palletSpot rfl (by decide) (by decide) (Nat.le_of_ble_eq_true rfl) rfl dX7_loadPallet_105 rfl ?_
                  refine a_is_7_9 (pc' := 110) dX7_loadPallet_108 rfl ?_
                  refine a_iconst (v := nI 0) (pc' := 111) dX7_loadPallet_110 (by decide) rfl ?_
                  refine a_is_8_9 (pc' := 113) dX7_loadPallet_111 rfl ?_
                  refine a_il_8_9 (pc' := 115) dX7_loadPallet_113 rfl ?_
                  refine a_bipush (v := nI 10) (pc' := 117) dX7_loadPallet_115 (by decide) rfl ?_
                  refine a_icmp_ge (pc' := 120) (tgt := 137) dX7_loadPallet_117 (by decide) rfl (fun c_117 => absurd c_117 (by decide)) (fun c_117 => ?_)
                  refine a_al_0_9 (pc' := 121) dX7_loadPallet_120 rfl ?_
                  refine gf_7_0 (pc' := 124) fl_X7_7 dX7_loadPallet_121 rfl ?_
                  refine a_il_7_9 (pc' := 126) dX7_loadPallet_124 rfl ?_
                  refine a_il_8_9 (pc' := 128) dX7_loadPallet_126 rfl ?_
                  refine a_iaddN (pc' := 129) dX7_loadPallet_128 rfl ?_
                  refine a_iconst (v := nI 0) (pc' := 130) dX7_loadPallet_129 (by decide) rfl ?_
                  refine a_iastN (pc' := 131) rfl (by omega) (by decide) dX7_loadPallet_130 rfl ?_
                  refine a_iN_8_9 (m := 1) (pc' := 134) dX7_loadPallet_131 (nI_add _ _) rfl ?_
                  refine a_goto (pc' := 113) dX7_loadPallet_134 (by decide) ?_
                  refine a_il_8_9 (pc' := 115) dX7_loadPallet_113 rfl ?_
                  refine a_bipush (v := nI 10) (pc' := 117) dX7_loadPallet_115 (by decide) rfl ?_
                  refine a_icmp_ge (pc' := 120) (tgt := 137) dX7_loadPallet_117 (by decide) rfl (fun c_117_2 => absurd c_117_2 (by decide)) (fun c_117_2 => ?_)
                  refine a_al_0_9 (pc' := 121) dX7_loadPallet_120 rfl ?_
                  refine gf_7_0 (pc' := 124) fl_X7_7 dX7_loadPallet_121 rfl ?_
                  refine a_il_7_9 (pc' := 126) dX7_loadPallet_124 rfl ?_
                  refine a_il_8_9 (pc' := 128) dX7_loadPallet_126 rfl ?_
                  refine a_iaddN (pc' := 129) dX7_loadPallet_128 rfl ?_
                  refine a_iconst (v := nI 0) (pc' := 130) dX7_loadPallet_129 (by decide) rfl ?_
                  refine a_iastN (pc' := 131) rfl (by omega) (by decide) dX7_loadPallet_130 rfl ?_
                  refine a_iN_8_9 (m := 2) (pc' := 134) dX7_loadPallet_131 (nI_add _ _) rfl ?_
                  refine a_goto (pc' := 113) dX7_loadPallet_134 (by decide) ?_
                  refine a_il_8_9 (pc' := 115) dX7_loadPallet_113 rfl ?_
                  refine a_bipush (v := nI 10) (pc' := 117) dX7_loadPallet_115 (by decide) rfl ?_
                  refine a_icmp_ge (pc' := 120) (tgt := 137) dX7_loadPallet_117 (by decide) rfl (fun c_117_3 => absurd c_117_3 (by decide)) (fun c_117_3 => ?_)
                  refine a_al_0_9 (pc' := 121) dX7_loadPallet_120 rfl ?_
                  refine gf_7_0 (pc' := 124) fl_X7_7 dX7_loadPallet_121 rfl ?_
                  refine a_il_7_9 (pc' := 126) dX7_loadPallet_124 rfl ?_
                  refine a_il_8_9 (pc' := 128) dX7_loadPallet_126 rfl ?_
                  refine a_iaddN (pc' := 129) dX7_loadPallet_128 rfl ?_
                  refine a_iconst (v := nI 0) (pc' := 130) dX7_loadPallet_129 (by decide) rfl ?_
                  refine a_iastN (pc' := 131) rfl (by omega) (by decide) dX7_loadPallet_130 rfl ?_
                  refine a_iN_8_9 (m := 3) (pc' := 134) dX7_loadPallet_131 (nI_add _ _) rfl ?_
                  refine a_goto (pc' := 113) dX7_loadPallet_134 (by decide) ?_
                  refine a_il_8_9 (pc' := 115) dX7_loadPallet_113 rfl ?_
                  refine a_bipush (v := nI 10) (pc' := 117) dX7_loadPallet_115 (by decide) rfl ?_
                  refine a_icmp_ge (pc' := 120) (tgt := 137) dX7_loadPallet_117 (by decide) rfl (fun c_117_4 => absurd c_117_4 (by decide)) (fun c_117_4 => ?_)
                  refine a_al_0_9 (pc' := 121) dX7_loadPallet_120 rfl ?_
                  refine gf_7_0 (pc' := 124) fl_X7_7 dX7_loadPallet_121 rfl ?_
                  refine a_il_7_9 (pc' := 126) dX7_loadPallet_124 rfl ?_
                  refine a_il_8_9 (pc' := 128) dX7_loadPallet_126 rfl ?_
                  refine a_iaddN (pc' := 129) dX7_loadPallet_128 rfl ?_
                  refine a_iconst (v := nI 0) (pc' := 130) dX7_loadPallet_129 (by decide) rfl ?_
                  refine a_iastN (pc' := 131) rfl (by omega) (by decide) dX7_loadPallet_130 rfl ?_
                  refine a_iN_8_9 (m := 4) (pc' := 134) dX7_loadPallet_131 (nI_add _ _) rfl ?_
                  refine a_goto (pc' := 113) dX7_loadPallet_134 (by decide) ?_
                  refine a_il_8_9 (pc' := 115) dX7_loadPallet_113 rfl ?_
                  refine a_bipush (v := nI 10) (pc' := 117) dX7_loadPallet_115 (by decide) rfl ?_
                  refine a_icmp_ge (pc' := 120) (tgt := 137) dX7_loadPallet_117 (by decide) rfl (fun c_117_5 => absurd c_117_5 (by decide)) (fun c_117_5 => ?_)
                  refine a_al_0_9 (pc' := 121) dX7_loadPallet_120 rfl ?_
                  refine gf_7_0 (pc' := 124) fl_X7_7 dX7_loadPallet_121 rfl ?_
                  refine a_il_7_9 (pc' := 126) dX7_loadPallet_124 rfl ?_
                  refine a_il_8_9 (pc' := 128) dX7_loadPallet_126 rfl ?_
                  refine a_iaddN (pc' := 129) dX7_loadPallet_128 rfl ?_
                  refine a_iconst (v := nI 0) (pc' := 130) dX7_loadPallet_129 (by decide) rfl ?_
                  refine a_iastN (pc' := 131) rfl (by omega) (by decide) dX7_loadPallet_130 rfl ?_
                  refine a_iN_8_9 (m := 5) (pc' := 134) dX7_loadPallet_131 (nI_add _ _) rfl ?_
                  refine a_goto (pc' := 113) dX7_loadPallet_134 (by decide) ?_
                  refine a_il_8_9 (pc' := 115) dX7_loadPallet_113 rfl ?_
                  refine a_bipush (v := nI 10) (pc' := 117) dX7_loadPallet_115 (by decide) rfl ?_
                  refine a_icmp_ge (pc' := 120) (tgt := 137) dX7_loadPallet_117 (by decide) rfl (fun c_117_6 => absurd c_117_6 (by decide)) (fun c_117_6 => ?_)
                  refine a_al_0_9 (pc' := 121) dX7_loadPallet_120 rfl ?_
                  refine gf_7_0 (pc' := 124) fl_X7_7 dX7_loadPallet_121 rfl ?_
                  refine a_il_7_9 (pc' := 126) dX7_loadPallet_124 rfl ?_
                  refine a_il_8_9 (pc' := 128) dX7_loadPallet_126 rfl ?_
                  refine a_iaddN (pc' := 129) dX7_loadPallet_128 rfl ?_
                  refine a_iconst (v := nI 0) (pc' := 130) dX7_loadPallet_129 (by decide) rfl ?_
                  refine a_iastN (pc' := 131) rfl (by omega) (by decide) dX7_loadPallet_130 rfl ?_
                  refine a_iN_8_9 (m := 6) (pc' := 134) dX7_loadPallet_131 (nI_add _ _) rfl ?_
                  refine a_goto (pc' := 113) dX7_loadPallet_134 (by decide) ?_
                  refine a_il_8_9 (pc' := 115) dX7_loadPallet_113 rfl ?_
                  refine a_bipush (v := nI 10) (pc' := 117) dX7_loadPallet_115 (by decide) rfl ?_
                  refine a_icmp_ge (pc' := 120) (tgt := 137) dX7_loadPallet_117 (by decide) rfl (fun c_117_7 => absurd c_117_7 (by decide)) (fun c_117_7 => ?_)
                  refine a_al_0_9 (pc' := 121) dX7_loadPallet_120 rfl ?_
                  refine gf_7_0 (pc' := 124) fl_X7_7 dX7_loadPallet_121 rfl ?_
                  refine a_il_7_9 (pc' := 126) dX7_loadPallet_124 rfl ?_
                  refine a_il_8_9 (pc' := 128) dX7_loadPallet_126 rfl ?_
                  refine a_iaddN (pc' := 129) dX7_loadPallet_128 rfl ?_
                  refine a_iconst (v := nI 0) (pc' := 130) dX7_loadPallet_129 (by decide) rfl ?_
                  refine a_iastN (pc' := 131) rfl (by omega) (by decide) dX7_loadPallet_130 rfl ?_
                  refine a_iN_8_9 (m := 7) (pc' := 134) dX7_loadPallet_131 (nI_add _ _) rfl ?_
                  refine a_goto (pc' := 113) dX7_loadPallet_134 (by decide) ?_
                  refine a_il_8_9 (pc' := 115) dX7_loadPallet_113 rfl ?_
                  refine a_bipush (v := nI 10) (pc' := 117) dX7_loadPallet_115 (by decide) rfl ?_
                  refine a_icmp_ge (pc' := 120) (tgt := 137) dX7_loadPallet_117 (by decide) rfl (fun c_117_8 => absurd c_117_8 (by decide)) (fun c_117_8 => ?_)
                  refine a_al_0_9 (pc' := 121) dX7_loadPallet_120 rfl ?_
                  refine gf_7_0 (pc' := 124) fl_X7_7 dX7_loadPallet_121 rfl ?_
                  refine a_il_7_9 (pc' := 126) dX7_loadPallet_124 rfl ?_
                  refine a_il_8_9 (pc' := 128) dX7_loadPallet_126 rfl ?_
                  refine a_iaddN (pc' := 129) dX7_loadPallet_128 rfl ?_
                  refine a_iconst (v := nI 0) (pc' := 130) dX7_loadPallet_129 (by decide) rfl ?_
                  refine a_iastN (pc' := 131) rfl (by omega) (by decide) dX7_loadPallet_130 rfl ?_
                  refine a_iN_8_9 (m := 8) (pc' := 134) dX7_loadPallet_131 (nI_add _ _) rfl ?_
                  refine a_goto (pc' := 113) dX7_loadPallet_134 (by decide) ?_
                  refine a_il_8_9 (pc' := 115) dX7_loadPallet_113 rfl ?_
                  refine a_bipush (v := nI 10) (pc' := 117) dX7_loadPallet_115 (by decide) rfl ?_
                  refine a_icmp_ge (pc' := 120) (tgt := 137) dX7_loadPallet_117 (by decide) rfl (fun c_117_9 => absurd c_117_9 (by decide)) (fun c_117_9 => ?_)
                  refine a_al_0_9 (pc' := 121) dX7_loadPallet_120 rfl ?_
                  refine gf_7_0 (pc' := 124) fl_X7_7 dX7_loadPallet_121 rfl ?_
                  refine a_il_7_9 (pc' := 126) dX7_loadPallet_124 rfl ?_
                  refine a_il_8_9 (pc' := 128) dX7_loadPallet_126 rfl ?_
                  refine a_iaddN (pc' := 129) dX7_loadPallet_128 rfl ?_
                  refine a_iconst (v := nI 0) (pc' := 130) dX7_loadPallet_129 (by decide) rfl ?_
                  refine a_iastN (pc' := 131) rfl (by omega) (by decide) dX7_loadPallet_130 rfl ?_
                  refine a_iN_8_9 (m := 9) (pc' := 134) dX7_loadPallet_131 (nI_add _ _) rfl ?_
                  refine a_goto (pc' := 113) dX7_loadPallet_134 (by decide) ?_
                  refine a_il_8_9 (pc' := 115) dX7_loadPallet_113 rfl ?_
                  refine a_bipush (v := nI 10) (pc' := 117) dX7_loadPallet_115 (by decide) rfl ?_
                  refine a_icmp_ge (pc' := 120) (tgt := 137) dX7_loadPallet_117 (by decide) rfl (fun c_117_10 => absurd c_117_10 (by decide)) (fun c_117_10 => ?_)
                  refine a_al_0_9 (pc' := 121) dX7_loadPallet_120 rfl ?_
                  refine gf_7_0 (pc' := 124) fl_X7_7 dX7_loadPallet_121 rfl ?_
                  refine a_il_7_9 (pc' := 126) dX7_loadPallet_124 rfl ?_
                  refine a_il_8_9 (pc' := 128) dX7_loadPallet_126 rfl ?_
                  refine a_iaddN (pc' := 129) dX7_loadPallet_128 rfl ?_
                  refine a_iconst (v := nI 0) (pc' := 130) dX7_loadPallet_129 (by decide) rfl ?_
                  refine a_iastN (pc' := 131) rfl (by omega) (by decide) dX7_loadPallet_130 rfl ?_
                  refine a_iN_8_9 (m := 10) (pc' := 134) dX7_loadPallet_131 (nI_add _ _) rfl ?_
                  refine a_goto (pc' := 113) dX7_loadPallet_134 (by decide) ?_
                  refine a_il_8_9 (pc' := 115) dX7_loadPallet_113 rfl ?_
                  refine a_bipush (v := nI 10) (pc' := 117) dX7_loadPallet_115 (by decide) rfl ?_
                  refine a_icmp_ge (pc' := 120) (tgt := 137) dX7_loadPallet_117 (by decide) rfl (fun c_117_11 => ?_) (fun c_117_11 => absurd (by decide) c_117_11)
                  refine a_al_0_9 (pc' := 138) dX7_loadPallet_137 rfl ?_
                  refine gf_7_0 (pc' := 141) fl_X7_7 dX7_loadPallet_138 rfl ?_
                  refine a_il_7_9 (pc' := 143) dX7_loadPallet_141 rfl ?_
                  refine a_iconst (v := nI 0) (pc' := 144) dX7_loadPallet_143 (by decide) rfl ?_
                  refine a_iaddN (pc' := 145) dX7_loadPallet_144 rfl ?_
                  refine a_il_1_9 (pc' := 146) dX7_loadPallet_145 rfl ?_
                  refine a_iastN (pc' := 147) rfl (by omega) (by decide) dX7_loadPallet_146 rfl ?_
                  refine a_al_0_9 (pc' := 148) dX7_loadPallet_147 rfl ?_
                  refine gf_7_0 (pc' := 151) fl_X7_7 dX7_loadPallet_148 rfl ?_
                  refine a_il_7_9 (pc' := 153) dX7_loadPallet_151 rfl ?_
                  refine a_iconst (v := nI 1) (pc' := 154) dX7_loadPallet_153 (by decide) rfl ?_
                  refine a_iaddN (pc' := 155) dX7_loadPallet_154 rfl ?_
                  refine a_il_2_9 (pc' := 156) dX7_loadPallet_155 rfl ?_
                  refine a_iastN (pc' := 157) rfl (by omega) (by decide) dX7_loadPallet_156 rfl ?_
                  refine a_al_0_9 (pc' := 158) dX7_loadPallet_157 rfl ?_
                  refine gf_7_0 (pc' := 161) fl_X7_7 dX7_loadPallet_158 rfl ?_
                  refine a_il_7_9 (pc' := 163) dX7_loadPallet_161 rfl ?_
                  refine a_iconst (v := nI 2) (pc' := 164) dX7_loadPallet_163 (by decide) rfl ?_
                  refine a_iaddN (pc' := 165) dX7_loadPallet_164 rfl ?_
                  refine a_il_3_9 (pc' := 166) dX7_loadPallet_165 rfl ?_
                  refine a_iastN (pc' := 167) rfl (by omega) (by decide) dX7_loadPallet_166 rfl ?_
                  refine a_al_0_9 (pc' := 168) dX7_loadPallet_167 rfl ?_
                  refine gf_7_0 (pc' := 171) fl_X7_7 dX7_loadPallet_168 rfl ?_
                  refine a_il_7_9 (pc' := 173) dX7_loadPallet_171 rfl ?_
                  refine a_iconst (v := nI 3) (pc' := 174) dX7_loadPallet_173 (by decide) rfl ?_
                  refine a_iaddN (pc' := 175) dX7_loadPallet_174 rfl ?_
                  refine a_il_4_9 (pc' := 177) dX7_loadPallet_175 rfl ?_
                  refine a_iastN (pc' := 178) rfl (by omega) (by decide) dX7_loadPallet_177 rfl ?_
                  refine a_al_0_9 (pc' := 179) dX7_loadPallet_178 rfl ?_
                  refine gf_7_0 (pc' := 182) fl_X7_7 dX7_loadPallet_179 rfl ?_
                  refine a_il_7_9 (pc' := 184) dX7_loadPallet_182 rfl ?_
                  refine a_iconst (v := nI 4) (pc' := 185) dX7_loadPallet_184 (by decide) rfl ?_
                  refine a_iaddN (pc' := 186) dX7_loadPallet_185 rfl ?_
                  refine a_il_5_9 (pc' := 188) dX7_loadPallet_186 rfl ?_
                  refine a_iastN (pc' := 189) rfl (by omega) (by decide) dX7_loadPallet_188 rfl ?_
                  refine a_al_0_9 (pc' := 190) dX7_loadPallet_189 rfl ?_
                  refine gf_7_0 (pc' := 193) fl_X7_7 dX7_loadPallet_190 rfl ?_
                  refine a_iconst (v := nI 1) (pc' := 194) dX7_loadPallet_193 (by decide) rfl ?_
                  refine a_dup2 (pc' := 195) dX7_loadPallet_194 rfl ?_
                  refine a_ialdN (pc' := 196) rfl (by omega) (by decide) dX7_loadPallet_195 rfl ?_
                  simp (disch := omega) only [wr_eq, setR_same, setR_setR, upd_ne, hM_ne]
                  refine a_iconst (v := nI 1) (pc' := 197) dX7_loadPallet_196 (by decide) rfl ?_
                  refine a_iadd (pc' := 198) dX7_loadPallet_197 rfl ?_
                  refine a_iastN (pc' := 199) rfl (by omega) (by decide) dX7_loadPallet_198 rfl ?_
                  refine a_al_0_9 (pc' := 200) dX7_loadPallet_199 rfl ?_
                  refine a_il_6_9 (pc' := 202) dX7_loadPallet_200 rfl ?_
                  refine k_VI (pc' := 205) (ct_X7_ends hk _ _ (by simp (disch := decide) only [wr_rne, setR_same, setR_ne, hM_ne]; exact h6)) cw_X7_111 mi_X7_ends se_X7_ends rfl rfl rfl rfl (by decide) (by decide) (Nat.le_of_ble_eq_true rfl) rfl dX7_loadPallet_202 rfl ?_
                  refine a_iret dX7_loadPallet_205 rfl rfl ?_
                  refine fIM (by (try simp (disch := decide) only [wr_rne, setR_same, setR_ne, hM_ne]); rw [ldR, if_pos (by simp [ldB, hzS, c_5, c_12, c_25, c_37, c_49]), if_neg (by rw [hcl]; exact c_61), if_pos hlc, h1]) ?_
                  rw [mE, if_pos (by simp [ldB, hzS, hcl, c_5, c_12, c_25, c_37, c_49, c_61, hlc])]
                  refine congrArg (fun X => endM X k) ?_
                  simp (disch := decide) only [wr_eq, setR_same, setR_setR, hM_ne]
                  refine congrArg (setR (hM M) 50) ?_
                  rw [ldF, if_pos (by simp [ldB, hzS, c_5, c_12, c_25, c_37, c_49]), if_neg (by rw [hcl]; exact c_61), if_pos hlc, hnp]
                  exact pal_eq (M 50) hp _ _ _ _ _
                · have hlc : ldC (M 50) (nI v) (nI z0) = false := ldC_f h1 hm hnp (Or.inr c_85)
                  refine a_ldc (pc' := 90) dX7_loadPallet_88 cn_X7_100 rfl ?_
                  refine a_iret dX7_loadPallet_90 rfl rfl ?_
                  exact fIM (by simp [ldR, ldF, ldB, hzS, hcl, hlc, c_5, c_12, c_25, c_37, c_49, c_61, c_75, c_85, -Int32.not_le, -Int32.not_lt]) (by simp [mE, ldR, ldF, ldB, hzS, hcl, hlc, c_5, c_12, c_25, c_37, c_49, c_61, c_75, c_85, -Int32.not_le, -Int32.not_lt])
            · refine a_ldc (pc' := 66) dX7_loadPallet_64 cn_X7_93 rfl ?_
              refine a_iret dX7_loadPallet_66 rfl rfl ?_
              exact fIM (by simp [ldR, ldF, ldB, hzS, hcl, c_5, c_12, c_25, c_37, c_49, c_61, -Int32.not_le, -Int32.not_lt]) (by simp [mE, ldR, ldF, ldB, hzS, hcl, c_5, c_12, c_25, c_37, c_49, c_61, -Int32.not_le, -Int32.not_lt])
          · refine a_ldc (pc' := 54) dX7_loadPallet_52 cn_X7_92 rfl ?_
            refine a_iret dX7_loadPallet_54 rfl rfl ?_
            exact fIM (by simp [ldR, ldF, ldB, hzS, c_5, c_12, c_25, c_37, c_49, -Int32.not_le, -Int32.not_lt]) (by simp [mE, ldR, ldF, ldB, hzS, c_5, c_12, c_25, c_37, c_49, -Int32.not_le, -Int32.not_lt])
