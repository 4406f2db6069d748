theorem door_eq {x : Int32} (h : x = 0 ∨ x = 1) : (x = 0) = ¬ (x = nI 1) := by
  rcases h with rfl | rfl <;> exact propext (by decide)
theorem wF0 : warmF 0 = nI 3 := by decide
theorem wF1 : warmF 1 = nI 6 := by decide
theorem wF2 : warmF 2 = nI 12 := by decide
theorem coolF_m (t sp c : Int32) : coolF t sp c = if t ≤ sp then (if sp ≤ t then t else t + nI 1) else (if sp ≤ t - c then t - c else sp) := by
  unfold coolF mxS
  by_cases h : sp ≤ t - c
  · rw [if_pos h, if_neg (show ¬ t - c < sp from Int32.not_lt.mpr h)]
  · rw [if_neg h, if_pos (show t - c < sp from Int32.not_le.mp h)]
theorem rd_pos {x P : Int32} (hP : bt 1 30 P) (h : ¬ x < P) : ¬ x ≤ 0 := by
  intro q
  unfold bt at hP
  rw [Int32.lt_iff_toInt_lt] at h
  rw [Int32.le_iff_toInt_le, show (0 : Int32).toInt = 0 from rfl] at q
  omega
theorem rdg_find1 (F : Nat → Int32) {v z : Nat} (D P : Int32) (w y : Nat) (hz : z < 3) (hy : y < 3) : rdg (find1 F v z D P) (10 + 19 * w + 5 * y) = rdg F (10 + 19 * w + 5 * y) := by
  unfold rdg
  rw [find1_ne _ _ _ (by omega) (by omega), find1_ne _ _ _ (by omega) (by omega), find1_ne _ _ _ (by omega) (by omega)]
theorem rdf1 {F : Nat → Int32} {v z : Nat} {D P : Int32} (hz : z < 3) (h : ∀ z, z < 3 → bt (-1000) 1000 (rdg F (10 + 19 * v + 5 * z))) : ∀ y, y < 3 → bt (-1000) 1000 (rdg (find1 F v z D P) (10 + 19 * v + 5 * y)) := fun y hy => by rw [rdg_find1 _ _ _ _ _ hz hy]; exact h y hy
theorem upd_78 (F : Nat → Int32) (p : Nat) (a : Int32) : upd (upd F (63 + 10 * p + 7) a) (63 + 10 * p + 8) (F (63 + 10 * p + 8)) = upd F (63 + 10 * p + 7) a := by
  have := upd_self (upd F (63 + 10 * p + 7) a) (63 + 10 * p + 8)
  rw [upd_at, if_neg (by omega)] at this
  exact this
theorem upd_68 (F : Nat → Int32) (p : Nat) (a : Int32) : upd (upd F (63 + 10 * p + 6) a) (63 + 10 * p + 8) (F (63 + 10 * p + 8)) = upd F (63 + 10 * p + 6) a := by
  have := upd_self (upd F (63 + 10 * p + 6) a) (63 + 10 * p + 8)
  rw [upd_at, if_neg (by omega)] at this
  exact this
theorem upd_same_self (F : Nat → Int32) (i : Nat) : upd F i (F i) = F := upd_self F i
set_option maxRecDepth 20000 in
set_option maxHeartbeats 4000000 in
theorem lb_X7_heats0 {G : Gl} {Φ : Option OV → Mm → Prop} {v : Nat} (hv : v < 3) (x3 x4 x5 x6 : Option OV) (M : Mm) (hd : M 50 (6 + 19 * v + 2) = 0 ∨ M 50 (6 + 19 * v + 2) = 1) (kx : ∀ y3 y4 y5 y6 : Option OV, AW G cX7_heats RX7 7 2 44 none Φ 2 [some (.inr (7, 0, 0, 0)), some (.inl (nI v)), some (.inl (nI 1)), y3, y4, y5, y6] [] (setR M 50 (heatZ (M 50) v 0 (M 50 3)))) : AW G cX7_heats RX7 7 2 44 none Φ 2 [some (.inr (7, 0, 0, 0)), some (.inl (nI v)), some (.inl (nI 0)), x3, x4, x5, x6] [] M := by
  have hdd := door_eq hd
  refine a_il_2_7 (pc' := 3) dX7_heats_2 rfl ?_
  refine a_iconst (v := nI 3) (pc' := 4) dX7_heats_3 (by decide) rfl ?_
  refine a_icmp_ge (pc' := 7) (tgt := 148) dX7_heats_4 (by decide) rfl (fun c_4 => absurd c_4 (by decide)) (fun c_4 => ?_)
  refine a_il_1_7 (pc' := 8) dX7_heats_7 rfl ?_
  refine a_il_2_7 (pc' := 9) dX7_heats_8 rfl ?_
  refine k_SI (pc' := 12) (ct_X7_zoneSpot _) cw_X7_47 ms_X7_zoneSpot rfl (by decide) (by decide) (Nat.le_of_ble_eq_true rfl) rfl dX7_heats_9 rfl ?_
  refine a_is_3_7 (pc' := 13) dX7_heats_12 rfl ?_
  refine a_al_0_7 (pc' := 14) dX7_heats_13 rfl ?_
  refine gf_7_0 (pc' := 17) fl_X7_7 dX7_heats_14 rfl ?_
  refine a_il_3_7 (pc' := 18) dX7_heats_17 rfl ?_
  refine a_ialdN (pc' := 19) rfl (by omega) (by decide) dX7_heats_18 rfl ?_
  refine a_is_4_7 (pc' := 21) dX7_heats_19 rfl ?_
  refine a_al_0_7 (pc' := 22) dX7_heats_21 rfl ?_
  refine a_il_1_7 (pc' := 23) dX7_heats_22 rfl ?_
  refine a_iconst (v := nI 0) (pc' := 24) dX7_heats_23 (by decide) rfl ?_
  refine k_VI (pc' := 27) (ct_X7_of (by omega) (by omega) _) cw_X7_65 mi_X7_of se_X7_of rfl rfl rfl rfl (by decide) (by decide) (Nat.le_of_ble_eq_true rfl) rfl dX7_heats_24 rfl ?_
  refine a_is_5_7 (pc' := 29) dX7_heats_27 rfl ?_
  refine a_il_2_7 (pc' := 30) dX7_heats_29 rfl ?_
  refine a_if_ne (pc' := 33) (tgt := 37) dX7_heats_30 (by decide) rfl (fun c_30 => absurd (by decide) c_30) (fun c_30 => ?_)
  refine a_iconst (v := nI 3) (pc' := 34) dX7_heats_33 (by decide) rfl ?_
  refine a_goto (pc' := 49) dX7_heats_34 (by decide) ?_
  refine a_is_6_7 (pc' := 51) dX7_heats_49 rfl ?_
  refine a_al_0_7 (pc' := 52) dX7_heats_51 rfl ?_
  refine a_il_1_7 (pc' := 53) dX7_heats_52 rfl ?_
  refine a_iconst (v := nI 2) (pc' := 54) dX7_heats_53 (by decide) rfl ?_
  refine k_VI (pc' := 57) (ct_X7_of (by omega) (by omega) _) cw_X7_65 mi_X7_of se_X7_of rfl rfl rfl rfl (by decide) (by decide) (Nat.le_of_ble_eq_true rfl) rfl dX7_heats_54 rfl ?_
  refine a_iconst (v := nI 1) (pc' := 58) dX7_heats_57 (by decide) rfl ?_
  refine a_icmp_ne (pc' := 61) (tgt := 84) dX7_heats_58 (by decide) rfl (fun c_58 => ?_) (fun c_58 => ?_)
  · refine a_il_4_7 (pc' := 86) dX7_heats_84 rfl ?_
    refine a_il_5_7 (pc' := 88) dX7_heats_86 rfl ?_
    refine a_icmp_le (pc' := 91) (tgt := 124) dX7_heats_88 (by decide) rfl (fun c_88 => ?_) (fun c_88 => ?_)
    · refine a_il_4_7 (pc' := 126) dX7_heats_124 rfl ?_
      refine a_il_5_7 (pc' := 128) dX7_heats_126 rfl ?_
      refine a_icmp_ge (pc' := 131) (tgt := 134) dX7_heats_128 (by decide) rfl (fun c_128 => ?_) (fun c_128 => ?_)
      · refine a_al_0_7 (pc' := 135) dX7_heats_134 rfl ?_
        refine gf_7_0 (pc' := 138) fl_X7_7 dX7_heats_135 rfl ?_
        refine a_il_3_7 (pc' := 139) dX7_heats_138 rfl ?_
        refine a_il_4_7 (pc' := 141) dX7_heats_139 rfl ?_
        refine a_iastN (pc' := 142) rfl (by omega) (by decide) dX7_heats_141 rfl ?_
        refine a_iN_2_7 (m := 1) (pc' := 145) dX7_heats_142 (nI_add _ _) rfl ?_
        refine a_goto (pc' := 2) dX7_heats_145 (by decide) ?_
        exact a_castS (rfl) (by (try simp only [Nat.reduceMul, Nat.add_zero] at c_58 c_88 c_128); simp [wr_eq, heatZ, heat1, coolF_m, hdd, nIz1, wF0, wF1, wF2, c_58, c_88, c_128, -Int32.not_le, -Int32.not_lt]) (kx (some (.inl (nI (10 + 19 * v + 5 * 0)))) _ _ (some (.inl (nI (3)))))
      · refine a_in_4_7 (c9 := nI 1) (pc' := 134) dX7_heats_131 (by decide) rfl ?_
        refine a_al_0_7 (pc' := 135) dX7_heats_134 rfl ?_
        refine gf_7_0 (pc' := 138) fl_X7_7 dX7_heats_135 rfl ?_
        refine a_il_3_7 (pc' := 139) dX7_heats_138 rfl ?_
        refine a_il_4_7 (pc' := 141) dX7_heats_139 rfl ?_
        refine a_iastN (pc' := 142) rfl (by omega) (by decide) dX7_heats_141 rfl ?_
        refine a_iN_2_7 (m := 1) (pc' := 145) dX7_heats_142 (nI_add _ _) rfl ?_
        refine a_goto (pc' := 2) dX7_heats_145 (by decide) ?_
        exact a_castS (rfl) (by (try simp only [Nat.reduceMul, Nat.add_zero] at c_58 c_88 c_128); simp [wr_eq, heatZ, heat1, coolF_m, hdd, nIz1, wF0, wF1, wF2, c_58, c_88, c_128, -Int32.not_le, -Int32.not_lt]) (kx (some (.inl (nI (10 + 19 * v + 5 * 0)))) _ _ (some (.inl (nI (3)))))
    · refine a_il_4_7 (pc' := 93) dX7_heats_91 rfl ?_
      refine a_al_0_7 (pc' := 94) dX7_heats_93 rfl ?_
      refine a_il_1_7 (pc' := 95) dX7_heats_94 rfl ?_
      refine a_iconst (v := nI 1) (pc' := 96) dX7_heats_95 (by decide) rfl ?_
      refine k_VI (pc' := 99) (ct_X7_of (by omega) (by omega) _) cw_X7_65 mi_X7_of se_X7_of rfl rfl rfl rfl (by decide) (by decide) (Nat.le_of_ble_eq_true rfl) rfl dX7_heats_96 rfl ?_
      refine a_isub (pc' := 100) dX7_heats_99 rfl ?_
      refine a_il_5_7 (pc' := 102) dX7_heats_100 rfl ?_
      refine a_icmp_ge (pc' := 105) (tgt := 110) dX7_heats_102 (by decide) rfl (fun c_102 => ?_) (fun c_102 => ?_)
      · refine a_il_4_7 (pc' := 112) dX7_heats_110 rfl ?_
        refine a_al_0_7 (pc' := 113) dX7_heats_112 rfl ?_
        refine a_il_1_7 (pc' := 114) dX7_heats_113 rfl ?_
        refine a_iconst (v := nI 1) (pc' := 115) dX7_heats_114 (by decide) rfl ?_
        refine k_VI (pc' := 118) (ct_X7_of (by omega) (by omega) _) cw_X7_65 mi_X7_of se_X7_of rfl rfl rfl rfl (by decide) (by decide) (Nat.le_of_ble_eq_true rfl) rfl dX7_heats_115 rfl ?_
        refine a_isub (pc' := 119) dX7_heats_118 rfl ?_
        refine a_is_4_7 (pc' := 121) dX7_heats_119 rfl ?_
        refine a_goto (pc' := 134) dX7_heats_121 (by decide) ?_
        refine a_al_0_7 (pc' := 135) dX7_heats_134 rfl ?_
        refine gf_7_0 (pc' := 138) fl_X7_7 dX7_heats_135 rfl ?_
        refine a_il_3_7 (pc' := 139) dX7_heats_138 rfl ?_
        refine a_il_4_7 (pc' := 141) dX7_heats_139 rfl ?_
        refine a_iastN (pc' := 142) rfl (by omega) (by decide) dX7_heats_141 rfl ?_
        refine a_iN_2_7 (m := 1) (pc' := 145) dX7_heats_142 (nI_add _ _) rfl ?_
        refine a_goto (pc' := 2) dX7_heats_145 (by decide) ?_
        exact a_castS (rfl) (by (try simp only [Nat.reduceMul, Nat.add_zero] at c_58 c_88 c_102); simp [wr_eq, heatZ, heat1, coolF_m, hdd, nIz1, wF0, wF1, wF2, c_58, c_88, c_102, -Int32.not_le, -Int32.not_lt]) (kx (some (.inl (nI (10 + 19 * v + 5 * 0)))) _ _ (some (.inl (nI (3)))))
      · refine a_il_5_7 (pc' := 107) dX7_heats_105 rfl ?_
        refine a_goto (pc' := 119) dX7_heats_107 (by decide) ?_
        refine a_is_4_7 (pc' := 121) dX7_heats_119 rfl ?_
        refine a_goto (pc' := 134) dX7_heats_121 (by decide) ?_
        refine a_al_0_7 (pc' := 135) dX7_heats_134 rfl ?_
        refine gf_7_0 (pc' := 138) fl_X7_7 dX7_heats_135 rfl ?_
        refine a_il_3_7 (pc' := 139) dX7_heats_138 rfl ?_
        refine a_il_4_7 (pc' := 141) dX7_heats_139 rfl ?_
        refine a_iastN (pc' := 142) rfl (by omega) (by decide) dX7_heats_141 rfl ?_
        refine a_iN_2_7 (m := 1) (pc' := 145) dX7_heats_142 (nI_add _ _) rfl ?_
        refine a_goto (pc' := 2) dX7_heats_145 (by decide) ?_
        exact a_castS (rfl) (by (try simp only [Nat.reduceMul, Nat.add_zero] at c_58 c_88 c_102); simp [wr_eq, heatZ, heat1, coolF_m, hdd, nIz1, wF0, wF1, wF2, c_58, c_88, c_102, -Int32.not_le, -Int32.not_lt]) (kx (some (.inl (nI (10 + 19 * v + 5 * 0)))) _ _ (some (.inl (nI (3)))))
  · refine a_il_4_7 (pc' := 63) dX7_heats_61 rfl ?_
    refine a_al_0_7 (pc' := 64) dX7_heats_63 rfl ?_
    refine gf_7_0 (pc' := 67) fl_X7_7 dX7_heats_64 rfl ?_
    refine a_iconst (v := nI 3) (pc' := 68) dX7_heats_67 (by decide) rfl ?_
    refine a_ialdN (pc' := 69) rfl (by omega) (by decide) dX7_heats_68 rfl ?_
    refine a_il_4_7 (pc' := 71) dX7_heats_69 rfl ?_
    refine a_isub (pc' := 72) dX7_heats_71 rfl ?_
    refine a_il_6_7 (pc' := 74) dX7_heats_72 rfl ?_
    refine a_imul (pc' := 75) dX7_heats_74 rfl ?_
    refine a_bipush (v := nI 100) (pc' := 77) dX7_heats_75 (by decide) rfl ?_
    refine a_idiv (pc' := 78) dX7_heats_77 (by decide) rfl ?_
    refine a_iadd (pc' := 79) dX7_heats_78 rfl ?_
    refine a_is_4_7 (pc' := 81) dX7_heats_79 rfl ?_
    refine a_goto (pc' := 134) dX7_heats_81 (by decide) ?_
    refine a_al_0_7 (pc' := 135) dX7_heats_134 rfl ?_
    refine gf_7_0 (pc' := 138) fl_X7_7 dX7_heats_135 rfl ?_
    refine a_il_3_7 (pc' := 139) dX7_heats_138 rfl ?_
    refine a_il_4_7 (pc' := 141) dX7_heats_139 rfl ?_
    refine a_iastN (pc' := 142) rfl (by omega) (by decide) dX7_heats_141 rfl ?_
    refine a_iN_2_7 (m := 1) (pc' := 145) dX7_heats_142 (nI_add _ _) rfl ?_
    refine a_goto (pc' := 2) dX7_heats_145 (by decide) ?_
    exact a_castS (rfl) (by (try simp only [Nat.reduceMul, Nat.add_zero] at c_58); simp [wr_eq, heatZ, heat1, coolF_m, hdd, nIz1, wF0, wF1, wF2, c_58, -Int32.not_le, -Int32.not_lt]) (kx (some (.inl (nI (10 + 19 * v + 5 * 0)))) _ _ (some (.inl (nI (3)))))
set_option maxRecDepth 20000 in
set_option maxHeartbeats 4000000 in
theorem lb_X7_heats1 {G : Gl} {Φ : Option OV → Mm → Prop} {v : Nat} (hv : v < 3) (x3 x4 x5 x6 : Option OV) (M : Mm) (hd : M 50 (6 + 19 * v + 2) = 0 ∨ M 50 (6 + 19 * v + 2) = 1) (kx : ∀ y3 y4 y5 y6 : Option OV, AW G cX7_heats RX7 7 2 44 none Φ 2 [some (.inr (7, 0, 0, 0)), some (.inl (nI v)), some (.inl (nI 2)), y3, y4, y5, y6] [] (setR M 50 (heatZ (M 50) v 1 (M 50 3)))) : AW G cX7_heats RX7 7 2 44 none Φ 2 [some (.inr (7, 0, 0, 0)), some (.inl (nI v)), some (.inl (nI 1)), x3, x4, x5, x6] [] M := by
  have hdd := door_eq hd
  refine a_il_2_7 (pc' := 3) dX7_heats_2 rfl ?_
  refine a_iconst (v := nI 3) (pc' := 4) dX7_heats_3 (by decide) rfl ?_
  refine a_icmp_ge (pc' := 7) (tgt := 148) dX7_heats_4 (by decide) rfl (fun c_4 => absurd c_4 (by decide)) (fun c_4 => ?_)
  refine a_il_1_7 (pc' := 8) dX7_heats_7 rfl ?_
  refine a_il_2_7 (pc' := 9) dX7_heats_8 rfl ?_
  refine k_SI (pc' := 12) (ct_X7_zoneSpot _) cw_X7_47 ms_X7_zoneSpot rfl (by decide) (by decide) (Nat.le_of_ble_eq_true rfl) rfl dX7_heats_9 rfl ?_
  refine a_is_3_7 (pc' := 13) dX7_heats_12 rfl ?_
  refine a_al_0_7 (pc' := 14) dX7_heats_13 rfl ?_
  refine gf_7_0 (pc' := 17) fl_X7_7 dX7_heats_14 rfl ?_
  refine a_il_3_7 (pc' := 18) dX7_heats_17 rfl ?_
  refine a_ialdN (pc' := 19) rfl (by omega) (by decide) dX7_heats_18 rfl ?_
  refine a_is_4_7 (pc' := 21) dX7_heats_19 rfl ?_
  refine a_al_0_7 (pc' := 22) dX7_heats_21 rfl ?_
  refine a_il_1_7 (pc' := 23) dX7_heats_22 rfl ?_
  refine a_iconst (v := nI 0) (pc' := 24) dX7_heats_23 (by decide) rfl ?_
  refine k_VI (pc' := 27) (ct_X7_of (by omega) (by omega) _) cw_X7_65 mi_X7_of se_X7_of rfl rfl rfl rfl (by decide) (by decide) (Nat.le_of_ble_eq_true rfl) rfl dX7_heats_24 rfl ?_
  refine a_is_5_7 (pc' := 29) dX7_heats_27 rfl ?_
  refine a_il_2_7 (pc' := 30) dX7_heats_29 rfl ?_
  refine a_if_ne (pc' := 33) (tgt := 37) dX7_heats_30 (by decide) rfl (fun c_30 => ?_) (fun c_30 => absurd c_30 (by decide))
  refine a_il_2_7 (pc' := 38) dX7_heats_37 rfl ?_
  refine a_iconst (v := nI 1) (pc' := 39) dX7_heats_38 (by decide) rfl ?_
  refine a_icmp_ne (pc' := 42) (tgt := 47) dX7_heats_39 (by decide) rfl (fun c_39 => absurd (by decide) c_39) (fun c_39 => ?_)
  refine a_bipush (v := nI 6) (pc' := 44) dX7_heats_42 (by decide) rfl ?_
  refine a_goto (pc' := 49) dX7_heats_44 (by decide) ?_
  refine a_is_6_7 (pc' := 51) dX7_heats_49 rfl ?_
  refine a_al_0_7 (pc' := 52) dX7_heats_51 rfl ?_
  refine a_il_1_7 (pc' := 53) dX7_heats_52 rfl ?_
  refine a_iconst (v := nI 2) (pc' := 54) dX7_heats_53 (by decide) rfl ?_
  refine k_VI (pc' := 57) (ct_X7_of (by omega) (by omega) _) cw_X7_65 mi_X7_of se_X7_of rfl rfl rfl rfl (by decide) (by decide) (Nat.le_of_ble_eq_true rfl) rfl dX7_heats_54 rfl ?_
  refine a_iconst (v := nI 1) (pc' := 58) dX7_heats_57 (by decide) rfl ?_
  refine a_icmp_ne (pc' := 61) (tgt := 84) dX7_heats_58 (by decide) rfl (fun c_58 => ?_) (fun c_58 => ?_)
  · refine a_il_4_7 (pc' := 86) dX7_heats_84 rfl ?_
    refine a_il_5_7 (pc' := 88) dX7_heats_86 rfl ?_
    refine a_icmp_le (pc' := 91) (tgt := 124) dX7_heats_88 (by decide) rfl (fun c_88 => ?_) (fun c_88 => ?_)
    · refine a_il_4_7 (pc' := 126) dX7_heats_124 rfl ?_
      refine a_il_5_7 (pc' := 128) dX7_heats_126 rfl ?_
      refine a_icmp_ge (pc' := 131) (tgt := 134) dX7_heats_128 (by decide) rfl (fun c_128 => ?_) (fun c_128 => ?_)
      · refine a_al_0_7 (pc' := 135) dX7_heats_134 rfl ?_
        refine gf_7_0 (pc' := 138) fl_X7_7 dX7_heats_135 rfl ?_
        refine a_il_3_7 (pc' := 139) dX7_heats_138 rfl ?_
        refine a_il_4_7 (pc' := 141) dX7_heats_139 rfl ?_
        refine a_iastN (pc' := 142) rfl (by omega) (by decide) dX7_heats_141 rfl ?_
        refine a_iN_2_7 (m := 2) (pc' := 145) dX7_heats_142 (nI_add _ _) rfl ?_
        refine a_goto (pc' := 2) dX7_heats_145 (by decide) ?_
        exact a_castS (rfl) (by (try simp only [Nat.reduceMul, Nat.add_zero] at c_58 c_88 c_128); simp [wr_eq, heatZ, heat1, coolF_m, hdd, nIz1, wF0, wF1, wF2, c_58, c_88, c_128, -Int32.not_le, -Int32.not_lt]) (kx (some (.inl (nI (10 + 19 * v + 5 * 1)))) _ _ (some (.inl (nI (6)))))
      · refine a_in_4_7 (c9 := nI 1) (pc' := 134) dX7_heats_131 (by decide) rfl ?_
        refine a_al_0_7 (pc' := 135) dX7_heats_134 rfl ?_
        refine gf_7_0 (pc' := 138) fl_X7_7 dX7_heats_135 rfl ?_
        refine a_il_3_7 (pc' := 139) dX7_heats_138 rfl ?_
        refine a_il_4_7 (pc' := 141) dX7_heats_139 rfl ?_
        refine a_iastN (pc' := 142) rfl (by omega) (by decide) dX7_heats_141 rfl ?_
        refine a_iN_2_7 (m := 2) (pc' := 145) dX7_heats_142 (nI_add _ _) rfl ?_
        refine a_goto (pc' := 2) dX7_heats_145 (by decide) ?_
        exact a_castS (rfl) (by (try simp only [Nat.reduceMul, Nat.add_zero] at c_58 c_88 c_128); simp [wr_eq, heatZ, heat1, coolF_m, hdd, nIz1, wF0, wF1, wF2, c_58, c_88, c_128, -Int32.not_le, -Int32.not_lt]) (kx (some (.inl (nI (10 + 19 * v + 5 * 1)))) _ _ (some (.inl (nI (6)))))
    · refine a_il_4_7 (pc' := 93) dX7_heats_91 rfl ?_
      refine a_al_0_7 (pc' := 94) dX7_heats_93 rfl ?_
      refine a_il_1_7 (pc' := 95) dX7_heats_94 rfl ?_
      refine a_iconst (v := nI 1) (pc' := 96) dX7_heats_95 (by decide) rfl ?_
      refine k_VI (pc' := 99) (ct_X7_of (by omega) (by omega) _) cw_X7_65 mi_X7_of se_X7_of rfl rfl rfl rfl (by decide) (by decide) (Nat.le_of_ble_eq_true rfl) rfl dX7_heats_96 rfl ?_
      refine a_isub (pc' := 100) dX7_heats_99 rfl ?_
      refine a_il_5_7 (pc' := 102) dX7_heats_100 rfl ?_
      refine a_icmp_ge (pc' := 105) (tgt := 110) dX7_heats_102 (by decide) rfl (fun c_102 => ?_) (fun c_102 => ?_)
      · refine a_il_4_7 (pc' := 112) dX7_heats_110 rfl ?_
        refine a_al_0_7 (pc' := 113) dX7_heats_112 rfl ?_
        refine a_il_1_7 (pc' := 114) dX7_heats_113 rfl ?_
        refine a_iconst (v := nI 1) (pc' := 115) dX7_heats_114 (by decide) rfl ?_
        refine k_VI (pc' := 118) (ct_X7_of (by omega) (by omega) _) cw_X7_65 mi_X7_of se_X7_of rfl rfl rfl rfl (by decide) (by decide) (Nat.le_of_ble_eq_true rfl) rfl dX7_heats_115 rfl ?_
        refine a_isub (pc' := 119) dX7_heats_118 rfl ?_
        refine a_is_4_7 (pc' := 121) dX7_heats_119 rfl ?_
        refine a_goto (pc' := 134) dX7_heats_121 (by decide) ?_
        refine a_al_0_7 (pc' := 135) dX7_heats_134 rfl ?_
        refine gf_7_0 (pc' := 138) fl_X7_7 dX7_heats_135 rfl ?_
        refine a_il_3_7 (pc' := 139) dX7_heats_138 rfl ?_
        refine a_il_4_7 (pc' := 141) dX7_heats_139 rfl ?_
        refine a_iastN (pc' := 142) rfl (by omega) (by decide) dX7_heats_141 rfl ?_
        refine a_iN_2_7 (m := 2) (pc' := 145) dX7_heats_142 (nI_add _ _) rfl ?_
        refine a_goto (pc' := 2) dX7_heats_145 (by decide) ?_
        exact a_castS (rfl) (by (try simp only [Nat.reduceMul, Nat.add_zero] at c_58 c_88 c_102); simp [wr_eq, heatZ, heat1, coolF_m, hdd, nIz1, wF0, wF1, wF2, c_58, c_88, c_102, -Int32.not_le, -Int32.not_lt]) (kx (some (.inl (nI (10 + 19 * v + 5 * 1)))) _ _ (some (.inl (nI (6)))))
      · refine a_il_5_7 (pc' := 107) dX7_heats_105 rfl ?_
        refine a_goto (pc' := 119) dX7_heats_107 (by decide) ?_
        refine a_is_4_7 (pc' := 121) dX7_heats_119 rfl ?_
        refine a_goto (pc' := 134) dX7_heats_121 (by decide) ?_
        refine a_al_0_7 (pc' := 135) dX7_heats_134 rfl ?_
        refine gf_7_0 (pc' := 138) fl_X7_7 dX7_heats_135 rfl ?_
        refine a_il_3_7 (pc' := 139) dX7_heats_138 rfl ?_
        refine a_il_4_7 (pc' := 141) dX7_heats_139 rfl ?_
        refine a_iastN (pc' := 142) rfl (by omega) (by decide) dX7_heats_141 rfl ?_
        refine a_iN_2_7 (m := 2) (pc' := 145) dX7_heats_142 (nI_add _ _) rfl ?_
        refine a_goto (pc' := 2) dX7_heats_145 (by decide) ?_
        exact a_castS (rfl) (by (try simp only [Nat.reduceMul, Nat.add_zero] at c_58 c_88 c_102); simp [wr_eq, heatZ, heat1, coolF_m, hdd, nIz1, wF0, wF1, wF2, c_58, c_88, c_102, -Int32.not_le, -Int32.not_lt]) (kx (some (.inl (nI (10 + 19 * v + 5 * 1)))) _ _ (some (.inl (nI (6)))))
  · refine a_il_4_7 (pc' := 63) dX7_heats_61 rfl ?_
    refine a_al_0_7 (pc' := 64) dX7_heats_63 rfl ?_
    refine gf_7_0 (pc' := 67) fl_X7_7 dX7_heats_64 rfl ?_
    refine a_iconst (v := nI 3) (pc' := 68) dX7_heats_67 (by decide) rfl ?_
    refine a_ialdN (pc' := 69) rfl (by omega) (by decide) dX7_heats_68 rfl ?_
    refine a_il_4_7 (pc' := 71) dX7_heats_69 rfl ?_
    refine a_isub (pc' := 72) dX7_heats_71 rfl ?_
    refine a_il_6_7 (pc' := 74) dX7_heats_72 rfl ?_
    refine a_imul (pc' := 75) dX7_heats_74 rfl ?_
    refine a_bipush (v := nI 100) (pc' := 77) dX7_heats_75 (by decide) rfl ?_
    refine a_idiv (pc' := 78) dX7_heats_77 (by decide) rfl ?_
    refine a_iadd (pc' := 79) dX7_heats_78 rfl ?_
    refine a_is_4_7 (pc' := 81) dX7_heats_79 rfl ?_
    refine a_goto (pc' := 134) dX7_heats_81 (by decide) ?_
    refine a_al_0_7 (pc' := 135) dX7_heats_134 rfl ?_
    refine gf_7_0 (pc' := 138) fl_X7_7 dX7_heats_135 rfl ?_
    refine a_il_3_7 (pc' := 139) dX7_heats_138 rfl ?_
    refine a_il_4_7 (pc' := 141) dX7_heats_139 rfl ?_
    refine a_iastN (pc' := 142) rfl (by omega) (by decide) dX7_heats_141 rfl ?_
    refine a_iN_2_7 (m := 2) (pc' := 145) dX7_heats_142 (nI_add _ _) rfl ?_
    refine a_goto (pc' := 2) dX7_heats_145 (by decide) ?_
    exact a_castS (rfl) (by (try simp only [Nat.reduceMul, Nat.add_zero] at c_58); simp [wr_eq, heatZ, heat1, coolF_m, hdd, nIz1, wF0, wF1, wF2, c_58, -Int32.not_le, -Int32.not_lt]) (kx (some (.inl (nI (10 + 19 * v + 5 * 1)))) _ _ (some (.inl (nI (6)))))
set_option maxRecDepth 20000 in
set_option maxHeartbeats 4000000 in
theorem lb_X7_heats2 {G : Gl} {Φ : Option OV → Mm → Prop} {v : Nat} (hv : v < 3) (x3 x4 x5 x6 : Option OV) (M : Mm) (hd : M 50 (6 + 19 * v + 2) = 0 ∨ M 50 (6 + 19 * v + 2) = 1) (kx : ∀ y3 y4 y5 y6 : Option OV, AW G cX7_heats RX7 7 2 44 none Φ 2 [some (.inr (7, 0, 0, 0)), some (.inl (nI v)), some (.inl (nI 3)), y3, y4, y5, y6] [] (setR M 50 (heatZ (M 50) v 2 (M 50 3)))) : AW G cX7_heats RX7 7 2 44 none Φ 2 [some (.inr (7, 0, 0, 0)), some (.inl (nI v)), some (.inl (nI 2)), x3, x4, x5, x6] [] M := by
  have hdd := door_eq hd
  refine a_il_2_7 (pc' := 3) dX7_heats_2 rfl ?_
  refine a_iconst (v := nI 3) (pc' := 4) dX7_heats_3 (by decide) rfl ?_
  refine a_icmp_ge (pc' := 7) (tgt := 148) dX7_heats_4 (by decide) rfl (fun c_4 => absurd c_4 (by decide)) (fun c_4 => ?_)
  refine a_il_1_7 (pc' := 8) dX7_heats_7 rfl ?_
  refine a_il_2_7 (pc' := 9) dX7_heats_8 rfl ?_
  refine k_SI (pc' := 12) (ct_X7_zoneSpot _) cw_X7_47 ms_X7_zoneSpot rfl (by decide) (by decide) (Nat.le_of_ble_eq_true rfl) rfl dX7_heats_9 rfl ?_
  refine a_is_3_7 (pc' := 13) dX7_heats_12 rfl ?_
  refine a_al_0_7 (pc' := 14) dX7_heats_13 rfl ?_
  refine gf_7_0 (pc' := 17) fl_X7_7 dX7_heats_14 rfl ?_
  refine a_il_3_7 (pc' := 18) dX7_heats_17 rfl ?_
  refine a_ialdN (pc' := 19) rfl (by omega) (by decide) dX7_heats_18 rfl ?_
  refine a_is_4_7 (pc' := 21) dX7_heats_19 rfl ?_
  refine a_al_0_7 (pc' := 22) dX7_heats_21 rfl ?_
  refine a_il_1_7 (pc' := 23) dX7_heats_22 rfl ?_
  refine a_iconst (v := nI 0) (pc' := 24) dX7_heats_23 (by decide) rfl ?_
  refine k_VI (pc' := 27) (ct_X7_of (by omega) (by omega) _) cw_X7_65 mi_X7_of se_X7_of rfl rfl rfl rfl (by decide) (by decide) (Nat.le_of_ble_eq_true rfl) rfl dX7_heats_24 rfl ?_
  refine a_is_5_7 (pc' := 29) dX7_heats_27 rfl ?_
  refine a_il_2_7 (pc' := 30) dX7_heats_29 rfl ?_
  refine a_if_ne (pc' := 33) (tgt := 37) dX7_heats_30 (by decide) rfl (fun c_30 => ?_) (fun c_30 => absurd c_30 (by decide))
  refine a_il_2_7 (pc' := 38) dX7_heats_37 rfl ?_
  refine a_iconst (v := nI 1) (pc' := 39) dX7_heats_38 (by decide) rfl ?_
  refine a_icmp_ne (pc' := 42) (tgt := 47) dX7_heats_39 (by decide) rfl (fun c_39 => ?_) (fun c_39 => absurd c_39 (by decide))
  refine a_bipush (v := nI 12) (pc' := 49) dX7_heats_47 (by decide) rfl ?_
  refine a_is_6_7 (pc' := 51) dX7_heats_49 rfl ?_
  refine a_al_0_7 (pc' := 52) dX7_heats_51 rfl ?_
  refine a_il_1_7 (pc' := 53) dX7_heats_52 rfl ?_
  refine a_iconst (v := nI 2) (pc' := 54) dX7_heats_53 (by decide) rfl ?_
  refine k_VI (pc' := 57) (ct_X7_of (by omega) (by omega) _) cw_X7_65 mi_X7_of se_X7_of rfl rfl rfl rfl (by decide) (by decide) (Nat.le_of_ble_eq_true rfl) rfl dX7_heats_54 rfl ?_
  refine a_iconst (v := nI 1) (pc' := 58) dX7_heats_57 (by decide) rfl ?_
  refine a_icmp_ne (pc' := 61) (tgt := 84) dX7_heats_58 (by decide) rfl (fun c_58 => ?_) (fun c_58 => ?_)
  · refine a_il_4_7 (pc' := 86) dX7_heats_84 rfl ?_
    refine a_il_5_7 (pc' := 88) dX7_heats_86 rfl ?_
    refine a_icmp_le (pc' := 91) (tgt := 124) dX7_heats_88 (by decide) rfl (fun c_88 => ?_) (fun c_88 => ?_)
    · refine a_il_4_7 (pc' := 126) dX7_heats_124 rfl ?_
      refine a_il_5_7 (pc' := 128) dX7_heats_126 rfl ?_
      refine a_icmp_ge (pc' := 131) (tgt := 134) dX7_heats_128 (by decide) rfl (fun c_128 => ?_) (fun c_128 => ?_)
      · refine a_al_0_7 (pc' := 135) dX7_heats_134 rfl ?_
        refine gf_7_0 (pc' := 138) fl_X7_7 dX7_heats_135 rfl ?_
        refine a_il_3_7 (pc' := 139) dX7_heats_138 rfl ?_
        refine a_il_4_7 (pc' := 141) dX7_heats_139 rfl ?_
        refine a_iastN (pc' := 142) rfl (by omega) (by decide) dX7_heats_141 rfl ?_
        refine a_iN_2_7 (m := 3) (pc' := 145) dX7_heats_142 (nI_add _ _) rfl ?_
        refine a_goto (pc' := 2) dX7_heats_145 (by decide) ?_
        exact a_castS (rfl) (by (try simp only [Nat.reduceMul, Nat.add_zero] at c_58 c_88 c_128); simp [wr_eq, heatZ, heat1, coolF_m, hdd, nIz1, wF0, wF1, wF2, c_58, c_88, c_128, -Int32.not_le, -Int32.not_lt]) (kx (some (.inl (nI (10 + 19 * v + 5 * 2)))) _ _ (some (.inl (nI (12)))))
      · refine a_in_4_7 (c9 := nI 1) (pc' := 134) dX7_heats_131 (by decide) rfl ?_
        refine a_al_0_7 (pc' := 135) dX7_heats_134 rfl ?_
        refine gf_7_0 (pc' := 138) fl_X7_7 dX7_heats_135 rfl ?_
        refine a_il_3_7 (pc' := 139) dX7_heats_138 rfl ?_
        refine a_il_4_7 (pc' := 141) dX7_heats_139 rfl ?_
        refine a_iastN (pc' := 142) rfl (by omega) (by decide) dX7_heats_141 rfl ?_
        refine a_iN_2_7 (m := 3) (pc' := 145) dX7_heats_142 (nI_add _ _) rfl ?_
        refine a_goto (pc' := 2) dX7_heats_145 (by decide) ?_
        exact a_castS (rfl) (by (try simp only [Nat.reduceMul, Nat.add_zero] at c_58 c_88 c_128); simp [wr_eq, heatZ, heat1, coolF_m, hdd, nIz1, wF0, wF1, wF2, c_58, c_88, c_128, -Int32.not_le, -Int32.not_lt]) (kx (some (.inl (nI (10 + 19 * v + 5 * 2)))) _ _ (some (.inl (nI (12)))))
    · refine a_il_4_7 (pc' := 93) dX7_heats_91 rfl ?_
      refine a_al_0_7 (pc' := 94) dX7_heats_93 rfl ?_
      refine a_il_1_7 (pc' := 95) dX7_heats_94 rfl ?_
      refine a_iconst (v := nI 1) (pc' := 96) dX7_heats_95 (by decide) rfl ?_
      refine k_VI (pc' := 99) (ct_X7_of (by omega) (by omega) _) cw_X7_65 mi_X7_of se_X7_of rfl rfl rfl rfl (by decide) (by decide) (Nat.le_of_ble_eq_true rfl) rfl dX7_heats_96 rfl ?_
      refine a_isub (pc' := 100) dX7_heats_99 rfl ?_
      refine a_il_5_7 (pc' := 102) dX7_heats_100 rfl ?_
      refine a_icmp_ge (pc' := 105) (tgt := 110) dX7_heats_102 (by decide) rfl (fun c_102 => ?_) (fun c_102 => ?_)
      · refine a_il_4_7 (pc' := 112) dX7_heats_110 rfl ?_
        refine a_al_0_7 (pc' := 113) dX7_heats_112 rfl ?_
        refine a_il_1_7 (pc' := 114) dX7_heats_113 rfl ?_
        refine a_iconst (v := nI 1) (pc' := 115) dX7_heats_114 (by decide) rfl ?_
        refine k_VI (pc' := 118) (ct_X7_of (by omega) (by omega) _) cw_X7_65 mi_X7_of se_X7_of rfl rfl rfl rfl (by decide) (by decide) (Nat.le_of_ble_eq_true rfl) rfl dX7_heats_115 rfl ?_
        refine a_isub (pc' := 119) dX7_heats_118 rfl ?_
        refine a_is_4_7 (pc' := 121) dX7_heats_119 rfl ?_
        refine a_goto (pc' := 134) dX7_heats_121 (by decide) ?_
        refine a_al_0_7 (pc' := 135) dX7_heats_134 rfl ?_
        refine gf_7_0 (pc' := 138) fl_X7_7 dX7_heats_135 rfl ?_
        refine a_il_3_7 (pc' := 139) dX7_heats_138 rfl ?_
        refine a_il_4_7 (pc' := 141) dX7_heats_139 rfl ?_
        refine a_iastN (pc' := 142) rfl (by omega) (by decide) dX7_heats_141 rfl ?_
        refine a_iN_2_7 (m := 3) (pc' := 145) dX7_heats_142 (nI_add _ _) rfl ?_
        refine a_goto (pc' := 2) dX7_heats_145 (by decide) ?_
        exact a_castS (rfl) (by (try simp only [Nat.reduceMul, Nat.add_zero] at c_58 c_88 c_102); simp [wr_eq, heatZ, heat1, coolF_m, hdd, nIz1, wF0, wF1, wF2, c_58, c_88, c_102, -Int32.not_le, -Int32.not_lt]) (kx (some (.inl (nI (10 + 19 * v + 5 * 2)))) _ _ (some (.inl (nI (12)))))
      · refine a_il_5_7 (pc' := 107) dX7_heats_105 rfl ?_
        refine a_goto (pc' := 119) dX7_heats_107 (by decide) ?_
        refine a_is_4_7 (pc' := 121) dX7_heats_119 rfl ?_
        refine a_goto (pc' := 134) dX7_heats_121 (by decide) ?_
        refine a_al_0_7 (pc' := 135) dX7_heats_134 rfl ?_
        refine gf_7_0 (pc' := 138) fl_X7_7 dX7_heats_135 rfl ?_
        refine a_il_3_7 (pc' := 139) dX7_heats_138 rfl ?_
        refine a_il_4_7 (pc' := 141) dX7_heats_139 rfl ?_
        refine a_iastN (pc' := 142) rfl (by omega) (by decide) dX7_heats_141 rfl ?_
        refine a_iN_2_7 (m := 3) (pc' := 145) dX7_heats_142 (nI_add _ _) rfl ?_
        refine a_goto (pc' := 2) dX7_heats_145 (by decide) ?_
        exact a_castS (rfl) (by (try simp only [Nat.reduceMul, Nat.add_zero] at c_58 c_88 c_102); simp [wr_eq, heatZ, heat1, coolF_m, hdd, nIz1, wF0, wF1, wF2, c_58, c_88, c_102, -Int32.not_le, -Int32.not_lt]) (kx (some (.inl (nI (10 + 19 * v + 5 * 2)))) _ _ (some (.inl (nI (12)))))
  · refine a_il_4_7 (pc' := 63) dX7_heats_61 rfl ?_
    refine a_al_0_7 (pc' := 64) dX7_heats_63 rfl ?_
    refine gf_7_0 (pc' := 67) fl_X7_7 dX7_heats_64 rfl ?_
    refine a_iconst (v := nI 3) (pc' := 68) dX7_heats_67 (by decide) rfl ?_
    refine a_ialdN (pc' := 69) rfl (by omega) (by decide) dX7_heats_68 rfl ?_
    refine a_il_4_7 (pc' := 71) dX7_heats_69 rfl ?_
    refine a_isub (pc' := 72) dX7_heats_71 rfl ?_
    refine a_il_6_7 (pc' := 74) dX7_heats_72 rfl ?_
    refine a_imul (pc' := 75) dX7_heats_74 rfl ?_
    refine a_bipush (v := nI 100) (pc' := 77) dX7_heats_75 (by decide) rfl ?_
    refine a_idiv (pc' := 78) dX7_heats_77 (by decide) rfl ?_
    refine a_iadd (pc' := 79) dX7_heats_78 rfl ?_
    refine a_is_4_7 (pc' := 81) dX7_heats_79 rfl ?_
    refine a_goto (pc' := 134) dX7_heats_81 (by decide) ?_
    refine a_al_0_7 (pc' := 135) dX7_heats_134 rfl ?_
    refine gf_7_0 (pc' := 138) fl_X7_7 dX7_heats_135 rfl ?_
    refine a_il_3_7 (pc' := 139) dX7_heats_138 rfl ?_
    refine a_il_4_7 (pc' := 141) dX7_heats_139 rfl ?_
    refine a_iastN (pc' := 142) rfl (by omega) (by decide) dX7_heats_141 rfl ?_
    refine a_iN_2_7 (m := 3) (pc' := 145) dX7_heats_142 (nI_add _ _) rfl ?_
    refine a_goto (pc' := 2) dX7_heats_145 (by decide) ?_
    exact a_castS (rfl) (by (try simp only [Nat.reduceMul, Nat.add_zero] at c_58); simp [wr_eq, heatZ, heat1, coolF_m, hdd, nIz1, wF0, wF1, wF2, c_58, -Int32.not_le, -Int32.not_lt]) (kx (some (.inl (nI (10 + 19 * v + 5 * 2)))) _ _ (some (.inl (nI (12)))))
set_option maxRecDepth 20000 in
set_option maxHeartbeats 4000000 in
theorem ct_X7_heats {v : Nat} (hv : v < 3) (M : Mm) (hd : M 50 (6 + 19 * v + 2) = 0 ∨ M 50 (6 + 19 * v + 2) = 1) : Ct yX7_heats cX7_heats 7 none 2 44 [.inr (7, 0, 0, 0), .inl (nI v)] M (RV (setR M 50 (midF (M 50) v))) := by
  refine Ct.at RX7 rfl (by decide +kernel) (Nat.le_of_ble_eq_true rfl) [some (.inr (7, 0, 0, 0)), some (.inl (nI v)), none, none, none, none, none] rfl (fun G => ?_)
  refine a_iconst (v := nI 0) (pc' := 1) dX7_heats_0 (by decide) rfl ?_
  refine a_is_2_7 (pc' := 2) dX7_heats_1 rfl ?_
  refine lb_X7_heats0 hv _ _ _ _ _ (hd) (fun x3 x4 x5 x6 => ?_)
  refine lb_X7_heats1 hv _ _ _ _ _ (by rw [setR_same, heatZ_ne _ _ (by omega)]; exact hd) (fun x3 x4 x5 x6 => ?_)
  refine lb_X7_heats2 hv _ _ _ _ _ (by rw [setR_same, heatZ_ne _ _ (by omega), setR_same, heatZ_ne _ _ (by omega)]; exact hd) (fun x3 x4 x5 x6 => ?_)
  simp only [setR_same, setR_setR]
  rw [heatZ_ne _ _ (show (3 : Nat) ≠ 10 + 19 * v + 5 * 0 by omega), heatZ_ne _ _ (show (3 : Nat) ≠ 10 + 19 * v + 5 * 1 by omega), heatZ_ne _ _ (show (3 : Nat) ≠ 10 + 19 * v + 5 * 0 by omega)]
  rw [show heatZ (heatZ (heatZ (M 50) v 0 (M 50 3)) v 1 (M 50 3)) v 2 (M 50 3) = heatA (M 50) v (M 50 3) from rfl]
  refine a_il_2_7 (pc' := 3) dX7_heats_2 rfl ?_
  refine a_iconst (v := nI 3) (pc' := 4) dX7_heats_3 (by decide) rfl ?_
  refine a_icmp_ge (pc' := 7) (tgt := 148) dX7_heats_4 (by decide) rfl (fun c_4 => ?_) (fun c_4 => absurd (by decide) c_4)
  refine a_iconst (v := nI 0) (pc' := 149) dX7_heats_148 (by decide) rfl ?_
  refine a_is_2_7 (pc' := 150) dX7_heats_149 rfl ?_
  refine a_il_2_7 (pc' := 151) dX7_heats_150 rfl ?_
  refine a_iconst (v := nI 2) (pc' := 152) dX7_heats_151 (by decide) rfl ?_
  refine a_icmp_ge (pc' := 155) (tgt := 212) dX7_heats_152 (by decide) rfl (fun c_152 => absurd c_152 (by decide)) (fun c_152 => ?_)
  refine a_al_0_7 (pc' := 156) dX7_heats_155 rfl ?_
  refine a_il_1_7 (pc' := 157) dX7_heats_156 rfl ?_
  refine a_il_2_7 (pc' := 158) dX7_heats_157 rfl ?_
  refine a_iconst (v := nI 0) (pc' := 159) dX7_heats_158 (by decide) rfl ?_
  refine k_VI (pc' := 162) (ct_X7_at (by omega) (by omega) (by omega) _) cw_X7_55 mi_X7_at se_X7_at rfl rfl rfl rfl (by decide) (by decide) (Nat.le_of_ble_eq_true rfl) rfl dX7_heats_159 rfl ?_
  refine a_al_0_7 (pc' := 163) dX7_heats_162 rfl ?_
  refine a_il_1_7 (pc' := 164) dX7_heats_163 rfl ?_
  refine a_il_2_7 (pc' := 165) dX7_heats_164 rfl ?_
  refine a_iconst (v := nI 1) (pc' := 166) dX7_heats_165 (by decide) rfl ?_
  refine a_iaddN (pc' := 167) dX7_heats_166 rfl ?_
  refine a_iconst (v := nI 0) (pc' := 168) dX7_heats_167 (by decide) rfl ?_
  refine k_VI (pc' := 171) (ct_X7_at (by omega) (by omega) (by omega) _) cw_X7_55 mi_X7_at se_X7_at rfl rfl rfl rfl (by decide) (by decide) (Nat.le_of_ble_eq_true rfl) rfl dX7_heats_168 rfl ?_
  refine a_isub (pc' := 172) dX7_heats_171 rfl ?_
  refine a_bipush (v := nI 10) (pc' := 174) dX7_heats_172 (by decide) rfl ?_
  refine a_idiv (pc' := 175) dX7_heats_174 (by decide) rfl ?_
  refine a_is_3_7 (pc' := 176) dX7_heats_175 rfl ?_
  refine a_al_0_7 (pc' := 177) dX7_heats_176 rfl ?_
  refine gf_7_0 (pc' := 180) fl_X7_7 dX7_heats_177 rfl ?_
  refine a_il_1_7 (pc' := 181) dX7_heats_180 rfl ?_
  refine a_il_2_7 (pc' := 182) dX7_heats_181 rfl ?_
  refine k_SI (pc' := 185) (ct_X7_zoneSpot _) cw_X7_47 ms_X7_zoneSpot rfl (by decide) (by decide) (Nat.le_of_ble_eq_true rfl) rfl dX7_heats_182 rfl ?_
  refine a_dup2 (pc' := 186) dX7_heats_185 rfl ?_
  refine a_ialdN (pc' := 187) rfl (by omega) (by decide) dX7_heats_186 rfl ?_
  refine a_il_3_7 (pc' := 188) dX7_heats_187 rfl ?_
  refine a_isub (pc' := 189) dX7_heats_188 rfl ?_
  refine a_iastN (pc' := 190) rfl (by omega) (by decide) dX7_heats_189 rfl ?_
  refine a_al_0_7 (pc' := 191) dX7_heats_190 rfl ?_
  refine gf_7_0 (pc' := 194) fl_X7_7 dX7_heats_191 rfl ?_
  refine a_il_1_7 (pc' := 195) dX7_heats_194 rfl ?_
  refine a_il_2_7 (pc' := 196) dX7_heats_195 rfl ?_
  refine a_iconst (v := nI 1) (pc' := 197) dX7_heats_196 (by decide) rfl ?_
  refine a_iaddN (pc' := 198) dX7_heats_197 rfl ?_
  refine k_SI (pc' := 201) (ct_X7_zoneSpot _) cw_X7_47 ms_X7_zoneSpot rfl (by decide) (by decide) (Nat.le_of_ble_eq_true rfl) rfl dX7_heats_198 rfl ?_
  refine a_dup2 (pc' := 202) dX7_heats_201 rfl ?_
  refine a_ialdN (pc' := 203) rfl (by omega) (by decide) dX7_heats_202 rfl ?_
  refine a_il_3_7 (pc' := 204) dX7_heats_203 rfl ?_
  refine a_iadd (pc' := 205) dX7_heats_204 rfl ?_
  refine a_iastN (pc' := 206) rfl (by omega) (by decide) dX7_heats_205 rfl ?_
  refine a_iN_2_7 (m := 1) (pc' := 209) dX7_heats_206 (nI_add _ _) rfl ?_
  refine a_goto (pc' := 150) dX7_heats_209 (by decide) ?_
  refine a_il_2_7 (pc' := 151) dX7_heats_150 rfl ?_
  refine a_iconst (v := nI 2) (pc' := 152) dX7_heats_151 (by decide) rfl ?_
  refine a_icmp_ge (pc' := 155) (tgt := 212) dX7_heats_152 (by decide) rfl (fun c_152_2 => absurd c_152_2 (by decide)) (fun c_152_2 => ?_)
  refine a_al_0_7 (pc' := 156) dX7_heats_155 rfl ?_
  refine a_il_1_7 (pc' := 157) dX7_heats_156 rfl ?_
  refine a_il_2_7 (pc' := 158) dX7_heats_157 rfl ?_
  refine a_iconst (v := nI 0) (pc' := 159) dX7_heats_158 (by decide) rfl ?_
  refine k_VI (pc' := 162) (ct_X7_at (by omega) (by omega) (by omega) _) cw_X7_55 mi_X7_at se_X7_at rfl rfl rfl rfl (by decide) (by decide) (Nat.le_of_ble_eq_true rfl) rfl dX7_heats_159 rfl ?_
  refine a_al_0_7 (pc' := 163) dX7_heats_162 rfl ?_
  refine a_il_1_7 (pc' := 164) dX7_heats_163 rfl ?_
  refine a_il_2_7 (pc' := 165) dX7_heats_164 rfl ?_
  refine a_iconst (v := nI 1) (pc' := 166) dX7_heats_165 (by decide) rfl ?_
  refine a_iaddN (pc' := 167) dX7_heats_166 rfl ?_
  refine a_iconst (v := nI 0) (pc' := 168) dX7_heats_167 (by decide) rfl ?_
  refine k_VI (pc' := 171) (ct_X7_at (by omega) (by omega) (by omega) _) cw_X7_55 mi_X7_at se_X7_at rfl rfl rfl rfl (by decide) (by decide) (Nat.le_of_ble_eq_true rfl) rfl dX7_heats_168 rfl ?_
  refine a_isub (pc' := 172) dX7_heats_171 rfl ?_
  refine a_bipush (v := nI 10) (pc' := 174) dX7_heats_172 (by decide) rfl ?_
  refine a_idiv (pc' := 175) dX7_heats_174 (by decide) rfl ?_
  refine a_is_3_7 (pc' := 176) dX7_heats_175 rfl ?_
  refine a_al_0_7 (pc' := 177) dX7_heats_176 rfl ?_
  refine gf_7_0 (pc' := 180) fl_X7_7 dX7_heats_177 rfl ?_
  refine a_il_1_7 (pc' := 181) dX7_heats_180 rfl ?_
  refine a_il_2_7 (pc' := 182) dX7_heats_181 rfl ?_
  refine k_SI (pc' := 185) (ct_X7_zoneSpot _) cw_X7_47 ms_X7_zoneSpot rfl (by decide) (by decide) (Nat.le_of_ble_eq_true rfl) rfl dX7_heats_182 rfl ?_
  refine a_dup2 (pc' := 186) dX7_heats_185 rfl ?_
  refine a_ialdN (pc' := 187) rfl (by omega) (by decide) dX7_heats_186 rfl ?_
  refine a_il_3_7 (pc' := 188) dX7_heats_187 rfl ?_
  refine a_isub (pc' := 189) dX7_heats_188 rfl ?_
  refine a_iastN (pc' := 190) rfl (by omega) (by decide) dX7_heats_189 rfl ?_
  refine a_al_0_7 (pc' := 191) dX7_heats_190 rfl ?_
  refine gf_7_0 (pc' := 194) fl_X7_7 dX7_heats_191 rfl ?_
  refine a_il_1_7 (pc' := 195) dX7_heats_194 rfl ?_
  refine a_il_2_7 (pc' := 196) dX7_heats_195 rfl ?_
  refine a_iconst (v := nI 1) (pc' := 197) dX7_heats_196 (by decide) rfl ?_
  refine a_iaddN (pc' := 198) dX7_heats_197 rfl ?_
  refine k_SI (pc' := 201) (ct_X7_zoneSpot _) cw_X7_47 ms_X7_zoneSpot rfl (by decide) (by decide) (Nat.le_of_ble_eq_true rfl) rfl dX7_heats_198 rfl ?_
  refine a_dup2 (pc' := 202) dX7_heats_201 rfl ?_
  refine a_ialdN (pc' := 203) rfl (by omega) (by decide) dX7_heats_202 rfl ?_
  refine a_il_3_7 (pc' := 204) dX7_heats_203 rfl ?_
  refine a_iadd (pc' := 205) dX7_heats_204 rfl ?_
  refine a_iastN (pc' := 206) rfl (by omega) (by decide) dX7_heats_205 rfl ?_
  refine a_iN_2_7 (m := 2) (pc' := 209) dX7_heats_206 (nI_add _ _) rfl ?_
  refine a_goto (pc' := 150) dX7_heats_209 (by decide) ?_
  refine a_il_2_7 (pc' := 151) dX7_heats_150 rfl ?_
  refine a_iconst (v := nI 2) (pc' := 152) dX7_heats_151 (by decide) rfl ?_
  refine a_icmp_ge (pc' := 155) (tgt := 212) dX7_heats_152 (by decide) rfl (fun c_152_3 => ?_) (fun c_152_3 => absurd (by decide) c_152_3)
  refine a_vret dX7_heats_212 rfl ?_
  refine fV ?_
  simp only [wr_eq, setR_same, setR_setR]
  simp [midF, mixA, mix1, mixd, upd]
set_option maxRecDepth 20000 in
set_option maxHeartbeats 4000000 in
theorem lb_X7_reads {G : Gl} {Φ : Option OV → Mm → Prop} {v z : Nat} (hv : v < 3) (hz : z < 3) (n : Int32) (x4 : Option OV) (M : Mm) (hb : ∀ z, z < 3 → bt (-1000) 1000 (rdg (M 50) (10 + 19 * v + 5 * z))) (hP : bt 1 30 (M 50 5)) (kx : ∀ y4 : Option OV, AW G cX7_reads RX7 5 4 92 (some .int) Φ 4 [some (.inr (7, 0, 0, 0)), some (.inl (nI v)), some (.inl (fndN (M 50) v z (M 50 4) (M 50 5) n)), some (.inl (nI (z + 1))), y4] [] (setR M 50 (find1 (M 50) v z (M 50 4) (M 50 5)))) : AW G cX7_reads RX7 5 4 92 (some .int) Φ 4 [some (.inr (7, 0, 0, 0)), some (.inl (nI v)), some (.inl n), some (.inl (nI z)), x4] [] M := by
  have h5n : ¬ (5 = 10 + 19 * v + 5 * z + 4) := by omega
  refine a_il_3_5 (pc' := 5) dX7_reads_4 rfl ?_
  refine a_iconst (v := nI 3) (pc' := 6) dX7_reads_5 (by decide) rfl ?_
  refine a_icmp_ge (pc' := 9) (tgt := 110) dX7_reads_6 (by decide) rfl (fun c_6 => absurd c_6 (nI_ge (by omega) (by decide))) (fun c_6 => ?_)
  refine a_il_1_5 (pc' := 10) dX7_reads_9 rfl ?_
  refine a_il_3_5 (pc' := 11) dX7_reads_10 rfl ?_
  refine k_SI (pc' := 14) (ct_X7_zoneSpot _) cw_X7_47 ms_X7_zoneSpot rfl (by decide) (by decide) (Nat.le_of_ble_eq_true rfl) rfl dX7_reads_11 rfl ?_
  refine a_is_4_5 (pc' := 16) dX7_reads_14 rfl ?_
  refine a_al_0_5 (pc' := 17) dX7_reads_16 rfl ?_
  refine gf_7_0 (pc' := 20) fl_X7_7 dX7_reads_17 rfl ?_
  refine a_il_4_5 (pc' := 22) dX7_reads_20 rfl ?_
  refine a_iconst (v := nI 4) (pc' := 23) dX7_reads_22 (by decide) rfl ?_
  refine a_iaddN (pc' := 24) dX7_reads_23 rfl ?_
  refine a_al_0_5 (pc' := 25) dX7_reads_24 rfl ?_
  refine a_il_1_5 (pc' := 26) dX7_reads_25 rfl ?_
  refine a_il_3_5 (pc' := 27) dX7_reads_26 rfl ?_
  refine k_VI (pc' := 30) (ct_X7_isOdd (by omega) (by omega) _ (by assumption)) cw_X7_68 mi_X7_isOdd se_X7_isOdd rfl rfl rfl rfl (by decide) (by decide) (Nat.le_of_ble_eq_true rfl) rfl dX7_reads_27 rfl ?_
  refine a_ifB_eq (pc' := 33) (tgt := 47) dX7_reads_30 (by decide) rfl (fun c_30 => ?_) (fun c_30 => ?_)
  · refine a_iconst (v := nI 0) (pc' := 48) dX7_reads_47 (by decide) rfl ?_
    refine a_iastN (pc' := 49) rfl (by omega) (by decide) dX7_reads_48 rfl ?_
    refine a_al_0_5 (pc' := 50) dX7_reads_49 rfl ?_
    refine gf_7_0 (pc' := 53) fl_X7_7 dX7_reads_50 rfl ?_
    refine a_il_4_5 (pc' := 55) dX7_reads_53 rfl ?_
    refine a_iconst (v := nI 4) (pc' := 56) dX7_reads_55 (by decide) rfl ?_
    refine a_iaddN (pc' := 57) dX7_reads_56 rfl ?_
    refine a_ialdN (pc' := 58) rfl (by omega) (by decide) dX7_reads_57 rfl ?_
    refine a_al_0_5 (pc' := 59) dX7_reads_58 rfl ?_
    refine gf_7_0 (pc' := 62) fl_X7_7 dX7_reads_59 rfl ?_
    refine a_iconst (v := nI 5) (pc' := 63) dX7_reads_62 (by decide) rfl ?_
    refine a_ialdN (pc' := 64) rfl (by omega) (by decide) dX7_reads_63 rfl ?_
    refine a_icmp_lt (pc' := 67) (tgt := 104) dX7_reads_64 (by decide) rfl (fun c_64 => ?_) (fun c_64 => ?_)
    · refine a_iN_3_5 (m := z + 1) (pc' := 107) dX7_reads_104 (nI_add _ _) rfl ?_
      refine a_goto (pc' := 4) dX7_reads_107 (by decide) ?_
      exact a_castS (by simp [wr_eq, setR_same, upd, oddN, h5n, c_30] at c_64; simp [fndN, fndB, oddN, c_30, c_64]) (by simp [wr_eq, setR_same, upd, oddN, h5n, c_30] at c_64; simp [wr_eq, setR_same, setR_setR, find1, fndB, oddN, c_30, c_64]) (kx (some (.inl (nI (10 + 19 * v + 5 * z)))))
    · refine a_al_0_5 (pc' := 68) dX7_reads_67 rfl ?_
      refine gf_7_0 (pc' := 71) fl_X7_7 dX7_reads_68 rfl ?_
      refine a_il_4_5 (pc' := 73) dX7_reads_71 rfl ?_
      refine a_iconst (v := nI 4) (pc' := 74) dX7_reads_73 (by decide) rfl ?_
      refine a_iaddN (pc' := 75) dX7_reads_74 rfl ?_
      refine a_ialdN (pc' := 76) rfl (by omega) (by decide) dX7_reads_75 rfl ?_
      refine a_if_le (pc' := 79) (tgt := 104) dX7_reads_76 (by decide) rfl (fun c_76 => absurd c_76 (rd_pos (by rw [wr_eq, setR_same, upd_at, if_neg (by omega)]; exact hP) c_64)) (fun c_76 => ?_)
      refine a_al_0_5 (pc' := 80) dX7_reads_79 rfl ?_
      refine gf_7_0 (pc' := 83) fl_X7_7 dX7_reads_80 rfl ?_
      refine a_il_4_5 (pc' := 85) dX7_reads_83 rfl ?_
      refine a_iconst (v := nI 3) (pc' := 86) dX7_reads_85 (by decide) rfl ?_
      refine a_iaddN (pc' := 87) dX7_reads_86 rfl ?_
      refine a_ialdN (pc' := 88) rfl (by omega) (by decide) dX7_reads_87 rfl ?_
      refine a_if_ne (pc' := 91) (tgt := 104) dX7_reads_88 (by decide) rfl (fun c_88 => ?_) (fun c_88 => ?_)
      · refine a_iN_3_5 (m := z + 1) (pc' := 107) dX7_reads_104 (nI_add _ _) rfl ?_
        refine a_goto (pc' := 4) dX7_reads_107 (by decide) ?_
        exact a_castS (by simp [wr_eq, setR_same, upd, oddN, h5n, c_30] at c_64 c_88; simp [fndN, fndB, oddN, c_30, c_64, c_88]) (by simp [wr_eq, setR_same, upd, oddN, h5n, c_30] at c_64 c_88; simp [wr_eq, setR_same, setR_setR, find1, fndB, oddN, c_30, c_64, c_88]) (kx (some (.inl (nI (10 + 19 * v + 5 * z)))))
      · refine a_al_0_5 (pc' := 92) dX7_reads_91 rfl ?_
        refine gf_7_0 (pc' := 95) fl_X7_7 dX7_reads_92 rfl ?_
        refine a_il_4_5 (pc' := 97) dX7_reads_95 rfl ?_
        refine a_iconst (v := nI 3) (pc' := 98) dX7_reads_97 (by decide) rfl ?_
        refine a_iaddN (pc' := 99) dX7_reads_98 rfl ?_
        refine a_iconst (v := nI 1) (pc' := 100) dX7_reads_99 (by decide) rfl ?_
        refine a_iastN (pc' := 101) rfl (by omega) (by decide) dX7_reads_100 rfl ?_
        refine a_in_2_5 (c9 := nI 1) (pc' := 104) dX7_reads_101 (by decide) rfl ?_
        refine a_iN_3_5 (m := z + 1) (pc' := 107) dX7_reads_104 (nI_add _ _) rfl ?_
        refine a_goto (pc' := 4) dX7_reads_107 (by decide) ?_
        exact a_castS (by simp [wr_eq, setR_same, upd, oddN, h5n, c_30] at c_64 c_88; simp [fndN, fndB, oddN, c_30, c_64, c_88]) (by simp [wr_eq, setR_same, upd, oddN, h5n, c_30] at c_64 c_88; simp [wr_eq, setR_same, setR_setR, find1, fndB, oddN, c_30, c_64, c_88]) (kx (some (.inl (nI (10 + 19 * v + 5 * z)))))
  · refine a_al_0_5 (pc' := 34) dX7_reads_33 rfl ?_
    refine gf_7_0 (pc' := 37) fl_X7_7 dX7_reads_34 rfl ?_
    refine a_il_4_5 (pc' := 39) dX7_reads_37 rfl ?_
    refine a_iconst (v := nI 4) (pc' := 40) dX7_reads_39 (by decide) rfl ?_
    refine a_iaddN (pc' := 41) dX7_reads_40 rfl ?_
    refine a_ialdN (pc' := 42) rfl (by omega) (by decide) dX7_reads_41 rfl ?_
    refine a_iconst (v := nI 1) (pc' := 43) dX7_reads_42 (by decide) rfl ?_
    refine a_iadd (pc' := 44) dX7_reads_43 rfl ?_
    refine a_goto (pc' := 48) dX7_reads_44 (by decide) ?_
    refine a_iastN (pc' := 49) rfl (by omega) (by decide) dX7_reads_48 rfl ?_
    refine a_al_0_5 (pc' := 50) dX7_reads_49 rfl ?_
    refine gf_7_0 (pc' := 53) fl_X7_7 dX7_reads_50 rfl ?_
    refine a_il_4_5 (pc' := 55) dX7_reads_53 rfl ?_
    refine a_iconst (v := nI 4) (pc' := 56) dX7_reads_55 (by decide) rfl ?_
    refine a_iaddN (pc' := 57) dX7_reads_56 rfl ?_
    refine a_ialdN (pc' := 58) rfl (by omega) (by decide) dX7_reads_57 rfl ?_
    refine a_al_0_5 (pc' := 59) dX7_reads_58 rfl ?_
    refine gf_7_0 (pc' := 62) fl_X7_7 dX7_reads_59 rfl ?_
    refine a_iconst (v := nI 5) (pc' := 63) dX7_reads_62 (by decide) rfl ?_
    refine a_ialdN (pc' := 64) rfl (by omega) (by decide) dX7_reads_63 rfl ?_
    refine a_icmp_lt (pc' := 67) (tgt := 104) dX7_reads_64 (by decide) rfl (fun c_64_2 => ?_) (fun c_64_2 => ?_)
    · refine a_iN_3_5 (m := z + 1) (pc' := 107) dX7_reads_104 (nI_add _ _) rfl ?_
      refine a_goto (pc' := 4) dX7_reads_107 (by decide) ?_
      exact a_castS (by simp [wr_eq, setR_same, upd, oddN, h5n, c_30] at c_64_2; simp [fndN, fndB, oddN, c_30, c_64_2]) (by simp [wr_eq, setR_same, upd, oddN, h5n, c_30] at c_64_2; simp [wr_eq, setR_same, setR_setR, find1, fndB, oddN, c_30, c_64_2]) (kx (some (.inl (nI (10 + 19 * v + 5 * z)))))
    · refine a_al_0_5 (pc' := 68) dX7_reads_67 rfl ?_
      refine gf_7_0 (pc' := 71) fl_X7_7 dX7_reads_68 rfl ?_
      refine a_il_4_5 (pc' := 73) dX7_reads_71 rfl ?_
      refine a_iconst (v := nI 4) (pc' := 74) dX7_reads_73 (by decide) rfl ?_
      refine a_iaddN (pc' := 75) dX7_reads_74 rfl ?_
      refine a_ialdN (pc' := 76) rfl (by omega) (by decide) dX7_reads_75 rfl ?_
      refine a_if_le (pc' := 79) (tgt := 104) dX7_reads_76 (by decide) rfl (fun c_76_2 => absurd c_76_2 (rd_pos (by rw [wr_eq, setR_same, upd_at, if_neg (by omega)]; exact hP) c_64_2)) (fun c_76_2 => ?_)
      refine a_al_0_5 (pc' := 80) dX7_reads_79 rfl ?_
      refine gf_7_0 (pc' := 83) fl_X7_7 dX7_reads_80 rfl ?_
      refine a_il_4_5 (pc' := 85) dX7_reads_83 rfl ?_
      refine a_iconst (v := nI 3) (pc' := 86) dX7_reads_85 (by decide) rfl ?_
      refine a_iaddN (pc' := 87) dX7_reads_86 rfl ?_
      refine a_ialdN (pc' := 88) rfl (by omega) (by decide) dX7_reads_87 rfl ?_
      refine a_if_ne (pc' := 91) (tgt := 104) dX7_reads_88 (by decide) rfl (fun c_88_2 => ?_) (fun c_88_2 => ?_)
      · refine a_iN_3_5 (m := z + 1) (pc' := 107) dX7_reads_104 (nI_add _ _) rfl ?_
        refine a_goto (pc' := 4) dX7_reads_107 (by decide) ?_
        exact a_castS (by simp [wr_eq, setR_same, upd, oddN, h5n, c_30] at c_64_2 c_88_2; simp [fndN, fndB, oddN, c_30, c_64_2, c_88_2]) (by simp [wr_eq, setR_same, upd, oddN, h5n, c_30] at c_64_2 c_88_2; simp [wr_eq, setR_same, setR_setR, find1, fndB, oddN, c_30, c_64_2, c_88_2]) (kx (some (.inl (nI (10 + 19 * v + 5 * z)))))
      · refine a_al_0_5 (pc' := 92) dX7_reads_91 rfl ?_
        refine gf_7_0 (pc' := 95) fl_X7_7 dX7_reads_92 rfl ?_
        refine a_il_4_5 (pc' := 97) dX7_reads_95 rfl ?_
        refine a_iconst (v := nI 3) (pc' := 98) dX7_reads_97 (by decide) rfl ?_
        refine a_iaddN (pc' := 99) dX7_reads_98 rfl ?_
        refine a_iconst (v := nI 1) (pc' := 100) dX7_reads_99 (by decide) rfl ?_
        refine a_iastN (pc' := 101) rfl (by omega) (by decide) dX7_reads_100 rfl ?_
        refine a_in_2_5 (c9 := nI 1) (pc' := 104) dX7_reads_101 (by decide) rfl ?_
        refine a_iN_3_5 (m := z + 1) (pc' := 107) dX7_reads_104 (nI_add _ _) rfl ?_
        refine a_goto (pc' := 4) dX7_reads_107 (by decide) ?_
        exact a_castS (by simp [wr_eq, setR_same, upd, oddN, h5n, c_30] at c_64_2 c_88_2; simp [fndN, fndB, oddN, c_30, c_64_2, c_88_2]) (by simp [wr_eq, setR_same, upd, oddN, h5n, c_30] at c_64_2 c_88_2; simp [wr_eq, setR_same, setR_setR, find1, fndB, oddN, c_30, c_64_2, c_88_2]) (kx (some (.inl (nI (10 + 19 * v + 5 * z)))))
set_option maxRecDepth 20000 in
set_option maxHeartbeats 4000000 in
theorem ct_X7_reads {v : Nat} (hv : v < 3) (M : Mm) (hb : ∀ z, z < 3 → bt (-1000) 1000 (rdg (M 50) (10 + 19 * v + 5 * z))) (hP : bt 1 30 (M 50 5)) : Ct yX7_reads cX7_reads 5 (some .int) 4 92 [.inr (7, 0, 0, 0), .inl (nI v)] M (RI (fndA (M 50) v (M 50 4) (M 50 5)) (setR M 50 (findA (M 50) v (M 50 4) (M 50 5)))) := by
  refine Ct.at RX7 rfl (by decide +kernel) (Nat.le_of_ble_eq_true rfl) [some (.inr (7, 0, 0, 0)), some (.inl (nI v)), none, none, none] rfl (fun G => ?_)
  refine a_iconst (v := nI 0) (pc' := 1) dX7_reads_0 (by decide) rfl ?_
  refine a_is_2_5 (pc' := 2) dX7_reads_1 rfl ?_
  refine a_iconst (v := nI 0) (pc' := 3) dX7_reads_2 (by decide) rfl ?_
  refine a_is_3_5 (pc' := 4) dX7_reads_3 rfl ?_
  refine lb_X7_reads hv (z := 0) (by decide) _ _ _ (hb) (hP) (fun x4 => ?_)
  refine lb_X7_reads hv (z := 1) (by decide) _ _ _ (by simp only [setR_same]; exact rdf1 (by decide) hb) (by simp only [setR_same]; rw [find1_ne _ _ _ (by omega) (by omega)]; exact hP) (fun x4 => ?_)
  refine lb_X7_reads hv (z := 2) (by decide) _ _ _ (by simp only [setR_same]; exact rdf1 (by decide) (rdf1 (by decide) hb)) (by simp only [setR_same]; rw [find1_ne _ _ _ (by omega) (by omega), find1_ne _ _ _ (by omega) (by omega)]; exact hP) (fun x4 => ?_)
  simp only [setR_same, setR_setR]
  have e4 : ∀ (F : Nat → Int32) (z : Nat) (D P : Int32), find1 F v z D P 4 = F 4 := fun F z D P => find1_ne _ _ _ (by omega) (by omega)
  have e5 : ∀ (F : Nat → Int32) (z : Nat) (D P : Int32), find1 F v z D P 5 = F 5 := fun F z D P => find1_ne _ _ _ (by omega) (by omega)
  simp only [e4, e5]
  refine a_il_3_5 (pc' := 5) dX7_reads_4 rfl ?_
  refine a_iconst (v := nI 3) (pc' := 6) dX7_reads_5 (by decide) rfl ?_
  refine a_icmp_ge (pc' := 9) (tgt := 110) dX7_reads_6 (by decide) rfl (fun c_6 => ?_) (fun c_6 => absurd (by decide) c_6)
  refine a_il_2_5 (pc' := 111) dX7_reads_110 rfl ?_
  refine a_iret dX7_reads_111 rfl rfl ?_
  exact fIM rfl rfl
set_option maxRecDepth 20000 in
set_option maxHeartbeats 4000000 in
theorem lp_X7_warms {G : Gl} {Φ : Option OV → Mm → Prop} {np v : Nat} (hm : np ≤ 12) (hv : v < 3) : ∀ (n p : Nat) (M : Mm) (x3 x4 : Option OV), p + n = np → (M 50 1 = nI np) → (zOK (M 50)) → (M 50 (6 + 19 * v + 2) = 0 ∨ M 50 (6 + 19 * v + 2) = 1) → (Φ none (setR M 50 (addL (M 50) v n p))) → AW G cX7_warms RX7 5 4 90 none Φ 2 [some (.inr (7, 0, 0, 0)), some (.inl (nI v)), some (.inl (nI p)), x3, x4] [] M := by
  intro n
  induction n with
  | zero =>
    intro p M x3 x4 he h1 hzo hd hΦ
    refine a_il_2_5 (pc' := 3) dX7_warms_2 rfl ?_
    refine a_al_0_5 (pc' := 4) dX7_warms_3 rfl ?_
    refine gf_7_0 (pc' := 7) fl_X7_7 dX7_warms_4 rfl ?_
    refine a_iconst (v := nI 1) (pc' := 8) dX7_warms_7 (by decide) rfl ?_
    refine a_ialdN (pc' := 9) rfl (by omega) (by decide) dX7_warms_8 rfl ?_
    rw [h1]
    refine a_icmp_ge (pc' := 12) (tgt := 144) dX7_warms_9 (by decide) rfl (fun c_9 => ?_) (fun c_9 => absurd (nI_le (by omega) (by omega)) c_9)
    refine a_vret dX7_warms_144 rfl ?_
    rw [show setR M 50 (addL (M 50) v 0 p) = M from setR_self M 50] at hΦ
    exact hΦ
  | succ n ih =>
    intro p M x3 x4 he h1 hzo hd hΦ
    obtain ⟨hz3, ez⟩ := hzo.at (p := p) (by omega)
    have hdd := door_eq hd
    refine a_il_2_5 (pc' := 3) dX7_warms_2 rfl ?_
    refine a_al_0_5 (pc' := 4) dX7_warms_3 rfl ?_
    refine gf_7_0 (pc' := 7) fl_X7_7 dX7_warms_4 rfl ?_
    refine a_iconst (v := nI 1) (pc' := 8) dX7_warms_7 (by decide) rfl ?_
    refine a_ialdN (pc' := 9) rfl (by omega) (by decide) dX7_warms_8 rfl ?_
    rw [h1]
    refine a_icmp_ge (pc' := 12) (tgt := 144) dX7_warms_9 (by decide) rfl (fun c_9 => absurd c_9 (nI_ge (by omega) (by omega))) (fun c_9 => ?_)
    refine a_al_0_5 (pc' := 13) dX7_warms_12 rfl ?_
    refine a_il_2_5 (pc' := 14) dX7_warms_13 rfl ?_
    refine a_iconst (v := nI 5) (pc' := 15) dX7_warms_14 (by decide) rfl ?_
    refine k_VI (pc' := 18) (ct_X7_its (w := 5) (by omega) (by omega) _) cw_X7_72 mi_X7_its se_X7_its rfl rfl rfl rfl (by decide) (by decide) (Nat.le_of_ble_eq_true rfl) rfl dX7_warms_15 rfl ?_
    refine a_if_ne (pc' := 21) (tgt := 138) dX7_warms_18 (by decide) rfl (fun c_18 => ?_) (fun c_18 => ?_)
    · refine a_iN_2_5 (m := p + 1) (pc' := 141) dX7_warms_138 (nI_add _ _) rfl ?_
      refine a_goto (pc' := 2) dX7_warms_141 (by decide) ?_
      try simp only [Nat.add_zero] at c_18
      exact ih (p + 1) _ _ _ (by omega) h1 hzo hd (by simpa [addL, inP, c_18] using hΦ)
    · refine a_al_0_5 (pc' := 22) dX7_warms_21 rfl ?_
      refine a_il_2_5 (pc' := 23) dX7_warms_22 rfl ?_
      refine a_iconst (v := nI 0) (pc' := 24) dX7_warms_23 (by decide) rfl ?_
      refine k_VI (pc' := 27) (ct_X7_its (w := 0) (by omega) (by omega) _) cw_X7_72 mi_X7_its se_X7_its rfl rfl rfl rfl (by decide) (by decide) (Nat.le_of_ble_eq_true rfl) rfl dX7_warms_24 rfl ?_
      refine a_il_1_5 (pc' := 28) dX7_warms_27 rfl ?_
      refine a_icmp_ne (pc' := 31) (tgt := 138) dX7_warms_28 (by decide) rfl (fun c_28 => ?_) (fun c_28 => ?_)
      · refine a_iN_2_5 (m := p + 1) (pc' := 141) dX7_warms_138 (nI_add _ _) rfl ?_
        refine a_goto (pc' := 2) dX7_warms_141 (by decide) ?_
        try simp only [Nat.add_zero] at c_18 c_28
        exact ih (p + 1) _ _ _ (by omega) h1 hzo hd (by simpa [addL, inP, c_18, c_28] using hΦ)
      · refine a_il_2_5 (pc' := 32) dX7_warms_31 rfl ?_
        refine k_SI (pc' := 35) (ct_X7_palletSpot _) cw_X7_51 ms_X7_palletSpot rfl (by decide) (by decide) (Nat.le_of_ble_eq_true rfl) rfl dX7_warms_32 rfl ?_
        refine a_is_3_5 (pc' := 36) dX7_warms_35 rfl ?_
        refine a_al_0_5 (pc' := 37) dX7_warms_36 rfl ?_
        refine a_il_1_5 (pc' := 38) dX7_warms_37 rfl ?_
        refine a_al_0_5 (pc' := 39) dX7_warms_38 rfl ?_
        refine a_il_2_5 (pc' := 40) dX7_warms_39 rfl ?_
        refine a_iconst (v := nI 1) (pc' := 41) dX7_warms_40 (by decide) rfl ?_
        refine k_VI (pc' := 44) (ct_X7_its (w := 1) (by omega) (by omega) _) cw_X7_72 mi_X7_its se_X7_its rfl rfl rfl rfl (by decide) (by decide) (Nat.le_of_ble_eq_true rfl) rfl dX7_warms_41 rfl ?_
        rw [ez]
        refine a_iconst (v := nI 0) (pc' := 45) dX7_warms_44 (by decide) rfl ?_
        refine k_VI (pc' := 48) (ct_X7_at (by omega) (by omega) (by omega) _) cw_X7_55 mi_X7_at se_X7_at rfl rfl rfl rfl (by decide) (by decide) (Nat.le_of_ble_eq_true rfl) rfl dX7_warms_45 rfl ?_
        refine a_al_0_5 (pc' := 49) dX7_warms_48 rfl ?_
        refine a_il_2_5 (pc' := 50) dX7_warms_49 rfl ?_
        refine a_iconst (v := nI 2) (pc' := 51) dX7_warms_50 (by decide) rfl ?_
        refine k_VI (pc' := 54) (ct_X7_its (w := 2) (by omega) (by omega) _) cw_X7_72 mi_X7_its se_X7_its rfl rfl rfl rfl (by decide) (by decide) (Nat.le_of_ble_eq_true rfl) rfl dX7_warms_51 rfl ?_
        refine a_icmp_le (pc' := 57) (tgt := 61) dX7_warms_54 (by decide) rfl (fun c_54 => ?_) (fun c_54 => ?_)
        · refine a_iconst (v := nI 0) (pc' := 62) dX7_warms_61 (by decide) rfl ?_
          refine a_is_4_5 (pc' := 64) dX7_warms_62 rfl ?_
          refine a_al_0_5 (pc' := 65) dX7_warms_64 rfl ?_
          refine gf_7_0 (pc' := 68) fl_X7_7 dX7_warms_65 rfl ?_
          refine a_il_3_5 (pc' := 69) dX7_warms_68 rfl ?_
          refine a_al_0_5 (pc' := 70) dX7_warms_69 rfl ?_
          refine a_il_1_5 (pc' := 71) dX7_warms_70 rfl ?_
          refine a_iconst (v := nI 2) (pc' := 72) dX7_warms_71 (by decide) rfl ?_
          refine k_VI (pc' := 75) (ct_X7_of (by omega) (by omega) _) cw_X7_65 mi_X7_of se_X7_of rfl rfl rfl rfl (by decide) (by decide) (Nat.le_of_ble_eq_true rfl) rfl dX7_warms_72 rfl ?_
          refine a_iconst (v := nI 1) (pc' := 76) dX7_warms_75 (by decide) rfl ?_
          refine a_icmp_ne (pc' := 79) (tgt := 84) dX7_warms_76 (by decide) rfl (fun c_76 => ?_) (fun c_76 => ?_)
          · refine a_bipush (v := nI 7) (pc' := 86) dX7_warms_84 (by decide) rfl ?_
            refine a_iaddN (pc' := 87) dX7_warms_86 rfl ?_
            refine a_dup2 (pc' := 88) dX7_warms_87 rfl ?_
            refine a_ialdN (pc' := 89) rfl (by omega) (by decide) dX7_warms_88 rfl ?_
            refine a_il_4_5 (pc' := 91) dX7_warms_89 rfl ?_
            refine a_if_eq (pc' := 94) (tgt := 98) dX7_warms_91 (by decide) rfl (fun c_91 => ?_) (fun c_91 => absurd (by decide) c_91)
            refine a_iconst (v := nI 0) (pc' := 99) dX7_warms_98 (by decide) rfl ?_
            refine a_iadd (pc' := 100) dX7_warms_99 rfl ?_
            refine a_iastN (pc' := 101) rfl (by omega) (by decide) dX7_warms_100 rfl ?_
            refine a_al_0_5 (pc' := 102) dX7_warms_101 rfl ?_
            refine gf_7_0 (pc' := 105) fl_X7_7 dX7_warms_102 rfl ?_
            refine a_il_3_5 (pc' := 106) dX7_warms_105 rfl ?_
            refine a_bipush (v := nI 8) (pc' := 108) dX7_warms_106 (by decide) rfl ?_
            refine a_iaddN (pc' := 109) dX7_warms_108 rfl ?_
            refine a_dup2 (pc' := 110) dX7_warms_109 rfl ?_
            refine a_ialdN (pc' := 111) rfl (by omega) (by decide) dX7_warms_110 rfl ?_
            refine a_al_0_5 (pc' := 112) dX7_warms_111 rfl ?_
            refine a_il_1_5 (pc' := 113) dX7_warms_112 rfl ?_
            refine a_al_0_5 (pc' := 114) dX7_warms_113 rfl ?_
            refine a_il_2_5 (pc' := 115) dX7_warms_114 rfl ?_
            refine a_iconst (v := nI 1) (pc' := 116) dX7_warms_115 (by decide) rfl ?_
            refine k_VI (pc' := 119) (ct_X7_its (w := 1) (by omega) (by omega) _) cw_X7_72 mi_X7_its se_X7_its rfl rfl rfl rfl (by decide) (by decide) (Nat.le_of_ble_eq_true rfl) rfl dX7_warms_116 rfl ?_
            simp only [wr_eq, setR_same, upd_at]
            rw [if_neg (by omega), ez]
            refine k_VI (pc' := 122) (ct_X7_told (by omega) (by omega) _) cw_X7_75 mi_X7_told se_X7_told rfl rfl rfl rfl (by decide) (by decide) (Nat.le_of_ble_eq_true rfl) rfl dX7_warms_119 rfl ?_
            refine a_al_0_5 (pc' := 123) dX7_warms_122 rfl ?_
            refine a_il_2_5 (pc' := 124) dX7_warms_123 rfl ?_
            refine a_iconst (v := nI 2) (pc' := 125) dX7_warms_124 (by decide) rfl ?_
            refine k_VI (pc' := 128) (ct_X7_its (w := 2) (by omega) (by omega) _) cw_X7_72 mi_X7_its se_X7_its rfl rfl rfl rfl (by decide) (by decide) (Nat.le_of_ble_eq_true rfl) rfl dX7_warms_125 rfl ?_
            refine a_icmp_le (pc' := 131) (tgt := 135) dX7_warms_128 (by decide) rfl (fun c_128 => ?_) (fun c_128 => ?_)
            · refine a_iconst (v := nI 0) (pc' := 136) dX7_warms_135 (by decide) rfl ?_
              refine a_iadd (pc' := 137) dX7_warms_136 rfl ?_
              refine a_iastN (pc' := 138) rfl (by omega) (by decide) dX7_warms_137 rfl ?_
              refine a_iN_2_5 (m := p + 1) (pc' := 141) dX7_warms_138 (nI_add _ _) rfl ?_
              refine a_goto (pc' := 2) dX7_warms_141 (by decide) ?_
              try simp only [Nat.add_zero] at c_18 c_28 c_54 c_76 c_128
              refine a_castS rfl (M' := setR M 50 (addP (M 50) v p (zP (M 50) p))) (by
                try simp [wr_eq, setR_same, setR_setR, upd, nI_0, nIz1, Int32.add_zero, upd_same_self, -Int32.not_le, -Int32.not_lt] at c_128
                simp [wr_eq, setR_same, setR_setR, setR_self, addP, tellP, warmP, upd, hdd, nI_0, nIz1, upd_78, upd_68, upd_same_self, Int32.add_zero, c_18, c_28, c_54, c_76, c_128, -Int32.not_le, -Int32.not_lt]) ?_
              exact ih (p + 1) _ _ _ (by omega) (by rw [setR_same, addP_ne _ (by omega) (by omega) (by omega)]; exact h1) (by rw [setR_same]; exact hzo.addP _ _ _) (by rw [setR_same, addP_ne _ (by omega) (by omega) (by omega)]; exact hd) (by simpa [addL, inP, setR_same, setR_setR, c_18, c_28] using hΦ)
            · refine a_iconst (v := nI 1) (pc' := 132) dX7_warms_131 (by decide) rfl ?_
              refine a_goto (pc' := 136) dX7_warms_132 (by decide) ?_
              refine a_iadd (pc' := 137) dX7_warms_136 rfl ?_
              refine a_iastN (pc' := 138) rfl (by omega) (by decide) dX7_warms_137 rfl ?_
              refine a_iN_2_5 (m := p + 1) (pc' := 141) dX7_warms_138 (nI_add _ _) rfl ?_
              refine a_goto (pc' := 2) dX7_warms_141 (by decide) ?_
              try simp only [Nat.add_zero] at c_18 c_28 c_54 c_76 c_128
              refine a_castS rfl (M' := setR M 50 (addP (M 50) v p (zP (M 50) p))) (by
                try simp [wr_eq, setR_same, setR_setR, upd, nI_0, nIz1, Int32.add_zero, upd_same_self, -Int32.not_le, -Int32.not_lt] at c_128
                simp [wr_eq, setR_same, setR_setR, setR_self, addP, tellP, warmP, upd, hdd, nI_0, nIz1, upd_78, upd_68, upd_same_self, Int32.add_zero, c_18, c_28, c_54, c_76, c_128, -Int32.not_le, -Int32.not_lt]) ?_
              exact ih (p + 1) _ _ _ (by omega) (by rw [setR_same, addP_ne _ (by omega) (by omega) (by omega)]; exact h1) (by rw [setR_same]; exact hzo.addP _ _ _) (by rw [setR_same, addP_ne _ (by omega) (by omega) (by omega)]; exact hd) (by simpa [addL, inP, setR_same, setR_setR, c_18, c_28] using hΦ)
          · refine a_bipush (v := nI 6) (pc' := 81) dX7_warms_79 (by decide) rfl ?_
            refine a_goto (pc' := 86) dX7_warms_81 (by decide) ?_
            refine a_iaddN (pc' := 87) dX7_warms_86 rfl ?_
            refine a_dup2 (pc' := 88) dX7_warms_87 rfl ?_
            refine a_ialdN (pc' := 89) rfl (by omega) (by decide) dX7_warms_88 rfl ?_
            refine a_il_4_5 (pc' := 91) dX7_warms_89 rfl ?_
            refine a_if_eq (pc' := 94) (tgt := 98) dX7_warms_91 (by decide) rfl (fun c_91_2 => ?_) (fun c_91_2 => absurd (by decide) c_91_2)
            refine a_iconst (v := nI 0) (pc' := 99) dX7_warms_98 (by decide) rfl ?_
            refine a_iadd (pc' := 100) dX7_warms_99 rfl ?_
            refine a_iastN (pc' := 101) rfl (by omega) (by decide) dX7_warms_100 rfl ?_
            refine a_al_0_5 (pc' := 102) dX7_warms_101 rfl ?_
            refine gf_7_0 (pc' := 105) fl_X7_7 dX7_warms_102 rfl ?_
            refine a_il_3_5 (pc' := 106) dX7_warms_105 rfl ?_
            refine a_bipush (v := nI 8) (pc' := 108) dX7_warms_106 (by decide) rfl ?_
            refine a_iaddN (pc' := 109) dX7_warms_108 rfl ?_
            refine a_dup2 (pc' := 110) dX7_warms_109 rfl ?_
            refine a_ialdN (pc' := 111) rfl (by omega) (by decide) dX7_warms_110 rfl ?_
            refine a_al_0_5 (pc' := 112) dX7_warms_111 rfl ?_
            refine a_il_1_5 (pc' := 113) dX7_warms_112 rfl ?_
            refine a_al_0_5 (pc' := 114) dX7_warms_113 rfl ?_
            refine a_il_2_5 (pc' := 115) dX7_warms_114 rfl ?_
            refine a_iconst (v := nI 1) (pc' := 116) dX7_warms_115 (by decide) rfl ?_
            refine k_VI (pc' := 119) (ct_X7_its (w := 1) (by omega) (by omega) _) cw_X7_72 mi_X7_its se_X7_its rfl rfl rfl rfl (by decide) (by decide) (Nat.le_of_ble_eq_true rfl) rfl dX7_warms_116 rfl ?_
            simp only [wr_eq, setR_same, upd_at]
            rw [if_neg (by omega), ez]
            refine k_VI (pc' := 122) (ct_X7_told (by omega) (by omega) _) cw_X7_75 mi_X7_told se_X7_told rfl rfl rfl rfl (by decide) (by decide) (Nat.le_of_ble_eq_true rfl) rfl dX7_warms_119 rfl ?_
            refine a_al_0_5 (pc' := 123) dX7_warms_122 rfl ?_
            refine a_il_2_5 (pc' := 124) dX7_warms_123 rfl ?_
            refine a_iconst (v := nI 2) (pc' := 125) dX7_warms_124 (by decide) rfl ?_
            refine k_VI (pc' := 128) (ct_X7_its (w := 2) (by omega) (by omega) _) cw_X7_72 mi_X7_its se_X7_its rfl rfl rfl rfl (by decide) (by decide) (Nat.le_of_ble_eq_true rfl) rfl dX7_warms_125 rfl ?_
            refine a_icmp_le (pc' := 131) (tgt := 135) dX7_warms_128 (by decide) rfl (fun c_128_2 => ?_) (fun c_128_2 => ?_)
            · refine a_iconst (v := nI 0) (pc' := 136) dX7_warms_135 (by decide) rfl ?_
              refine a_iadd (pc' := 137) dX7_warms_136 rfl ?_
              refine a_iastN (pc' := 138) rfl (by omega) (by decide) dX7_warms_137 rfl ?_
              refine a_iN_2_5 (m := p + 1) (pc' := 141) dX7_warms_138 (nI_add _ _) rfl ?_
              refine a_goto (pc' := 2) dX7_warms_141 (by decide) ?_
              try simp only [Nat.add_zero] at c_18 c_28 c_54 c_76 c_128_2
              refine a_castS rfl (M' := setR M 50 (addP (M 50) v p (zP (M 50) p))) (by
                try simp [wr_eq, setR_same, setR_setR, upd, nI_0, nIz1, Int32.add_zero, upd_same_self, -Int32.not_le, -Int32.not_lt] at c_128_2
                simp [wr_eq, setR_same, setR_setR, setR_self, addP, tellP, warmP, upd, hdd, nI_0, nIz1, upd_78, upd_68, upd_same_self, Int32.add_zero, c_18, c_28, c_54, c_76, c_128_2, -Int32.not_le, -Int32.not_lt]) ?_
              exact ih (p + 1) _ _ _ (by omega) (by rw [setR_same, addP_ne _ (by omega) (by omega) (by omega)]; exact h1) (by rw [setR_same]; exact hzo.addP _ _ _) (by rw [setR_same, addP_ne _ (by omega) (by omega) (by omega)]; exact hd) (by simpa [addL, inP, setR_same, setR_setR, c_18, c_28] using hΦ)
            · refine a_iconst (v := nI 1) (pc' := 132) dX7_warms_131 (by decide) rfl ?_
              refine a_goto (pc' := 136) dX7_warms_132 (by decide) ?_
              refine a_iadd (pc' := 137) dX7_warms_136 rfl ?_
              refine a_iastN (pc' := 138) rfl (by omega) (by decide) dX7_warms_137 rfl ?_
              refine a_iN_2_5 (m := p + 1) (pc' := 141) dX7_warms_138 (nI_add _ _) rfl ?_
              refine a_goto (pc' := 2) dX7_warms_141 (by decide) ?_
              try simp only [Nat.add_zero] at c_18 c_28 c_54 c_76 c_128_2
              refine a_castS rfl (M' := setR M 50 (addP (M 50) v p (zP (M 50) p))) (by
                try simp [wr_eq, setR_same, setR_setR, upd, nI_0, nIz1, Int32.add_zero, upd_same_self, -Int32.not_le, -Int32.not_lt] at c_128_2
                simp [wr_eq, setR_same, setR_setR, setR_self, addP, tellP, warmP, upd, hdd, nI_0, nIz1, upd_78, upd_68, upd_same_self, Int32.add_zero, c_18, c_28, c_54, c_76, c_128_2, -Int32.not_le, -Int32.not_lt]) ?_
              exact ih (p + 1) _ _ _ (by omega) (by rw [setR_same, addP_ne _ (by omega) (by omega) (by omega)]; exact h1) (by rw [setR_same]; exact hzo.addP _ _ _) (by rw [setR_same, addP_ne _ (by omega) (by omega) (by omega)]; exact hd) (by simpa [addL, inP, setR_same, setR_setR, c_18, c_28] using hΦ)
        · refine a_iconst (v := nI 1) (pc' := 58) dX7_warms_57 (by decide) rfl ?_
          refine a_goto (pc' := 62) dX7_warms_58 (by decide) ?_
          refine a_is_4_5 (pc' := 64) dX7_warms_62 rfl ?_
          refine a_al_0_5 (pc' := 65) dX7_warms_64 rfl ?_
          refine gf_7_0 (pc' := 68) fl_X7_7 dX7_warms_65 rfl ?_
          refine a_il_3_5 (pc' := 69) dX7_warms_68 rfl ?_
          refine a_al_0_5 (pc' := 70) dX7_warms_69 rfl ?_
          refine a_il_1_5 (pc' := 71) dX7_warms_70 rfl ?_
          refine a_iconst (v := nI 2) (pc' := 72) dX7_warms_71 (by decide) rfl ?_
          refine k_VI (pc' := 75) (ct_X7_of (by omega) (by omega) _) cw_X7_65 mi_X7_of se_X7_of rfl rfl rfl rfl (by decide) (by decide) (Nat.le_of_ble_eq_true rfl) rfl dX7_warms_72 rfl ?_
          refine a_iconst (v := nI 1) (pc' := 76) dX7_warms_75 (by decide) rfl ?_
          refine a_icmp_ne (pc' := 79) (tgt := 84) dX7_warms_76 (by decide) rfl (fun c_76_2 => ?_) (fun c_76_2 => ?_)
          · refine a_bipush (v := nI 7) (pc' := 86) dX7_warms_84 (by decide) rfl ?_
            refine a_iaddN (pc' := 87) dX7_warms_86 rfl ?_
            refine a_dup2 (pc' := 88) dX7_warms_87 rfl ?_
            refine a_ialdN (pc' := 89) rfl (by omega) (by decide) dX7_warms_88 rfl ?_
            refine a_il_4_5 (pc' := 91) dX7_warms_89 rfl ?_
            refine a_if_eq (pc' := 94) (tgt := 98) dX7_warms_91 (by decide) rfl (fun c_91_3 => absurd c_91_3 (by decide)) (fun c_91_3 => ?_)
            refine a_iconst (v := nI 1) (pc' := 95) dX7_warms_94 (by decide) rfl ?_
            refine a_goto (pc' := 99) dX7_warms_95 (by decide) ?_
            refine a_iadd (pc' := 100) dX7_warms_99 rfl ?_
            refine a_iastN (pc' := 101) rfl (by omega) (by decide) dX7_warms_100 rfl ?_
            refine a_al_0_5 (pc' := 102) dX7_warms_101 rfl ?_
            refine gf_7_0 (pc' := 105) fl_X7_7 dX7_warms_102 rfl ?_
            refine a_il_3_5 (pc' := 106) dX7_warms_105 rfl ?_
            refine a_bipush (v := nI 8) (pc' := 108) dX7_warms_106 (by decide) rfl ?_
            refine a_iaddN (pc' := 109) dX7_warms_108 rfl ?_
            refine a_dup2 (pc' := 110) dX7_warms_109 rfl ?_
            refine a_ialdN (pc' := 111) rfl (by omega) (by decide) dX7_warms_110 rfl ?_
            refine a_al_0_5 (pc' := 112) dX7_warms_111 rfl ?_
            refine a_il_1_5 (pc' := 113) dX7_warms_112 rfl ?_
            refine a_al_0_5 (pc' := 114) dX7_warms_113 rfl ?_
            refine a_il_2_5 (pc' := 115) dX7_warms_114 rfl ?_
            refine a_iconst (v := nI 1) (pc' := 116) dX7_warms_115 (by decide) rfl ?_
            refine k_VI (pc' := 119) (ct_X7_its (w := 1) (by omega) (by omega) _) cw_X7_72 mi_X7_its se_X7_its rfl rfl rfl rfl (by decide) (by decide) (Nat.le_of_ble_eq_true rfl) rfl dX7_warms_116 rfl ?_
            simp only [wr_eq, setR_same, upd_at]
            rw [if_neg (by omega), ez]
            refine k_VI (pc' := 122) (ct_X7_told (by omega) (by omega) _) cw_X7_75 mi_X7_told se_X7_told rfl rfl rfl rfl (by decide) (by decide) (Nat.le_of_ble_eq_true rfl) rfl dX7_warms_119 rfl ?_
            refine a_al_0_5 (pc' := 123) dX7_warms_122 rfl ?_
            refine a_il_2_5 (pc' := 124) dX7_warms_123 rfl ?_
            refine a_iconst (v := nI 2) (pc' := 125) dX7_warms_124 (by decide) rfl ?_
            refine k_VI (pc' := 128) (ct_X7_its (w := 2) (by omega) (by omega) _) cw_X7_72 mi_X7_its se_X7_its rfl rfl rfl rfl (by decide) (by decide) (Nat.le_of_ble_eq_true rfl) rfl dX7_warms_125 rfl ?_
            refine a_icmp_le (pc' := 131) (tgt := 135) dX7_warms_128 (by decide) rfl (fun c_128_3 => ?_) (fun c_128_3 => ?_)
            · refine a_iconst (v := nI 0) (pc' := 136) dX7_warms_135 (by decide) rfl ?_
              refine a_iadd (pc' := 137) dX7_warms_136 rfl ?_
              refine a_iastN (pc' := 138) rfl (by omega) (by decide) dX7_warms_137 rfl ?_
              refine a_iN_2_5 (m := p + 1) (pc' := 141) dX7_warms_138 (nI_add _ _) rfl ?_
              refine a_goto (pc' := 2) dX7_warms_141 (by decide) ?_
              try simp only [Nat.add_zero] at c_18 c_28 c_54 c_76_2 c_128_3
              refine a_castS rfl (M' := setR M 50 (addP (M 50) v p (zP (M 50) p))) (by
                try simp [wr_eq, setR_same, setR_setR, upd, nI_0, nIz1, Int32.add_zero, upd_same_self, -Int32.not_le, -Int32.not_lt] at c_128_3
                simp [wr_eq, setR_same, setR_setR, setR_self, addP, tellP, warmP, upd, hdd, nI_0, nIz1, upd_78, upd_68, upd_same_self, Int32.add_zero, c_18, c_28, c_54, c_76_2, c_128_3, -Int32.not_le, -Int32.not_lt]) ?_
              exact ih (p + 1) _ _ _ (by omega) (by rw [setR_same, addP_ne _ (by omega) (by omega) (by omega)]; exact h1) (by rw [setR_same]; exact hzo.addP _ _ _) (by rw [setR_same, addP_ne _ (by omega) (by omega) (by omega)]; exact hd) (by simpa [addL, inP, setR_same, setR_setR, c_18, c_28] using hΦ)
            · refine a_iconst (v := nI 1) (pc' := 132) dX7_warms_131 (by decide) rfl ?_
              refine a_goto (pc' := 136) dX7_warms_132 (by decide) ?_
              refine a_iadd (pc' := 137) dX7_warms_136 rfl ?_
              refine a_iastN (pc' := 138) rfl (by omega) (by decide) dX7_warms_137 rfl ?_
              refine a_iN_2_5 (m := p + 1) (pc' := 141) dX7_warms_138 (nI_add _ _) rfl ?_
              refine a_goto (pc' := 2) dX7_warms_141 (by decide) ?_
              try simp only [Nat.add_zero] at c_18 c_28 c_54 c_76_2 c_128_3
              refine a_castS rfl (M' := setR M 50 (addP (M 50) v p (zP (M 50) p))) (by
                try simp [wr_eq, setR_same, setR_setR, upd, nI_0, nIz1, Int32.add_zero, upd_same_self, -Int32.not_le, -Int32.not_lt] at c_128_3
                simp [wr_eq, setR_same, setR_setR, setR_self, addP, tellP, warmP, upd, hdd, nI_0, nIz1, upd_78, upd_68, upd_same_self, Int32.add_zero, c_18, c_28, c_54, c_76_2, c_128_3, -Int32.not_le, -Int32.not_lt]) ?_
              exact ih (p + 1) _ _ _ (by omega) (by rw [setR_same, addP_ne _ (by omega) (by omega) (by omega)]; exact h1) (by rw [setR_same]; exact hzo.addP _ _ _) (by rw [setR_same, addP_ne _ (by omega) (by omega) (by omega)]; exact hd) (by simpa [addL, inP, setR_same, setR_setR, c_18, c_28] using hΦ)
          · refine a_bipush (v := nI 6) (pc' := 81) dX7_warms_79 (by decide) rfl ?_
            refine a_goto (pc' := 86) dX7_warms_81 (by decide) ?_
            refine a_iaddN (pc' := 87) dX7_warms_86 rfl ?_
            refine a_dup2 (pc' := 88) dX7_warms_87 rfl ?_
            refine a_ialdN (pc' := 89) rfl (by omega) (by decide) dX7_warms_88 rfl ?_
            refine a_il_4_5 (pc' := 91) dX7_warms_89 rfl ?_
            refine a_if_eq (pc' := 94) (tgt := 98) dX7_warms_91 (by decide) rfl (fun c_91_4 => absurd c_91_4 (by decide)) (fun c_91_4 => ?_)
            refine a_iconst (v := nI 1) (pc' := 95) dX7_warms_94 (by decide) rfl ?_
            refine a_goto (pc' := 99) dX7_warms_95 (by decide) ?_
            refine a_iadd (pc' := 100) dX7_warms_99 rfl ?_
            refine a_iastN (pc' := 101) rfl (by omega) (by decide) dX7_warms_100 rfl ?_
            refine a_al_0_5 (pc' := 102) dX7_warms_101 rfl ?_
            refine gf_7_0 (pc' := 105) fl_X7_7 dX7_warms_102 rfl ?_
            refine a_il_3_5 (pc' := 106) dX7_warms_105 rfl ?_
            refine a_bipush (v := nI 8) (pc' := 108) dX7_warms_106 (by decide) rfl ?_
            refine a_iaddN (pc' := 109) dX7_warms_108 rfl ?_
            refine a_dup2 (pc' := 110) dX7_warms_109 rfl ?_
            refine a_ialdN (pc' := 111) rfl (by omega) (by decide) dX7_warms_110 rfl ?_
            refine a_al_0_5 (pc' := 112) dX7_warms_111 rfl ?_
            refine a_il_1_5 (pc' := 113) dX7_warms_112 rfl ?_
            refine a_al_0_5 (pc' := 114) dX7_warms_113 rfl ?_
            refine a_il_2_5 (pc' := 115) dX7_warms_114 rfl ?_
            refine a_iconst (v := nI 1) (pc' := 116) dX7_warms_115 (by decide) rfl ?_
            refine k_VI (pc' := 119) (ct_X7_its (w := 1) (by omega) (by omega) _) cw_X7_72 mi_X7_its se_X7_its rfl rfl rfl rfl (by decide) (by decide) (Nat.le_of_ble_eq_true rfl) rfl dX7_warms_116 rfl ?_
            simp only [wr_eq, setR_same, upd_at]
            rw [if_neg (by omega), ez]
            refine k_VI (pc' := 122) (ct_X7_told (by omega) (by omega) _) cw_X7_75 mi_X7_told se_X7_told rfl rfl rfl rfl (by decide) (by decide) (Nat.le_of_ble_eq_true rfl) rfl dX7_warms_119 rfl ?_
            refine a_al_0_5 (pc' := 123) dX7_warms_122 rfl ?_
            refine a_il_2_5 (pc' := 124) dX7_warms_123 rfl ?_
            refine a_iconst (v := nI 2) (pc' := 125) dX7_warms_124 (by decide) rfl ?_
            refine k_VI (pc' := 128) (ct_X7_its (w := 2) (by omega) (by omega) _) cw_X7_72 mi_X7_its se_X7_its rfl rfl rfl rfl (by decide) (by decide) (Nat.le_of_ble_eq_true rfl) rfl dX7_warms_125 rfl ?_
            refine a_icmp_le (pc' := 131) (tgt := 135) dX7_warms_128 (by decide) rfl (fun c_128_4 => ?_) (fun c_128_4 => ?_)
            · refine a_iconst (v := nI 0) (pc' := 136) dX7_warms_135 (by decide) rfl ?_
              refine a_iadd (pc' := 137) dX7_warms_136 rfl ?_
              refine a_iastN (pc' := 138) rfl (by omega) (by decide) dX7_warms_137 rfl ?_
              refine a_iN_2_5 (m := p + 1) (pc' := 141) dX7_warms_138 (nI_add _ _) rfl ?_
              refine a_goto (pc' := 2) dX7_warms_141 (by decide) ?_
              try simp only [Nat.add_zero] at c_18 c_28 c_54 c_76_2 c_128_4
              refine a_castS rfl (M' := setR M 50 (addP (M 50) v p (zP (M 50) p))) (by
                try simp [wr_eq, setR_same, setR_setR, upd, nI_0, nIz1, Int32.add_zero, upd_same_self, -Int32.not_le, -Int32.not_lt] at c_128_4
                simp [wr_eq, setR_same, setR_setR, setR_self, addP, tellP, warmP, upd, hdd, nI_0, nIz1, upd_78, upd_68, upd_same_self, Int32.add_zero, c_18, c_28, c_54, c_76_2, c_128_4, -Int32.not_le, -Int32.not_lt]) ?_
              exact ih (p + 1) _ _ _ (by omega) (by rw [setR_same, addP_ne _ (by omega) (by omega) (by omega)]; exact h1) (by rw [setR_same]; exact hzo.addP _ _ _) (by rw [setR_same, addP_ne _ (by omega) (by omega) (by omega)]; exact hd) (by simpa [addL, inP, setR_same, setR_setR, c_18, c_28] using hΦ)
            · refine a_iconst (v := nI 1) (pc' := 132) dX7_warms_131 (by decide) rfl ?_
              refine a_goto (pc' := 136) dX7_warms_132 (by decide) ?_
              refine a_iadd (pc' := 137) dX7_warms_136 rfl ?_
              refine a_iastN (pc' := 138) rfl (by omega) (by decide) dX7_warms_137 rfl ?_
              refine a_iN_2_5 (m := p + 1) (pc' := 141) dX7_warms_138 (nI_add _ _) rfl ?_
              refine a_goto (pc' := 2) dX7_warms_141 (by decide) ?_
              try simp only [Nat.add_zero] at c_18 c_28 c_54 c_76_2 c_128_4
              refine a_castS rfl (M' := setR M 50 (addP (M 50) v p (zP (M 50) p))) (by
                try simp [wr_eq, setR_same, setR_setR, upd, nI_0, nIz1, Int32.add_zero, upd_same_self, -Int32.not_le, -Int32.not_lt] at c_128_4
                simp [wr_eq, setR_same, setR_setR, setR_self, addP, tellP, warmP, upd, hdd, nI_0, nIz1, upd_78, upd_68, upd_same_self, Int32.add_zero, c_18, c_28, c_54, c_76_2, c_128_4, -Int32.not_le, -Int32.not_lt]) ?_
              exact ih (p + 1) _ _ _ (by omega) (by rw [setR_same, addP_ne _ (by omega) (by omega) (by omega)]; exact h1) (by rw [setR_same]; exact hzo.addP _ _ _) (by rw [setR_same, addP_ne _ (by omega) (by omega) (by omega)]; exact hd) (by simpa [addL, inP, setR_same, setR_setR, c_18, c_28] using hΦ)
set_option maxRecDepth 20000 in
set_option maxHeartbeats 4000000 in
theorem ct_X7_warms {np v : Nat} (hm : np ≤ 12) (hv : v < 3) (M : Mm) (h1 : M 50 1 = nI np) (hzo : zOK (M 50)) (hd : M 50 (6 + 19 * v + 2) = 0 ∨ M 50 (6 + 19 * v + 2) = 1) : Ct yX7_warms cX7_warms 5 none 4 90 [.inr (7, 0, 0, 0), .inl (nI v)] M (RV (setR M 50 (addL (M 50) v np 0))) := by
  refine Ct.at RX7 rfl (by decide +kernel) (Nat.le_of_ble_eq_true rfl) [some (.inr (7, 0, 0, 0)), some (.inl (nI v)), none, none, none] rfl (fun G => ?_)
  refine a_iconst (v := nI 0) (pc' := 1) dX7_warms_0 (by decide) rfl ?_
  refine a_is_2_5 (pc' := 2) dX7_warms_1 rfl ?_
  exact lp_X7_warms hm hv np 0 _ _ _ (by omega) h1 hzo hd ⟨rfl, rfl⟩
