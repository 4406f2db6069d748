theorem castZ {M : Mm} {F : Nat → Int32} (hL : LA M F) {v z : Nat} (hv : v < 3) (hz : z < 3) {x y : Int32} (h : x = y) : wr M 51 (4 + 19 * v + 5 * z) x = setR M 51 (sh (upd F (10 + 19 * v + 5 * z) y)) := by
  rw [wr_eq, hL.2.1, upd_s F x (by omega) (show 10 + 19 * v + 5 * z = 6 + (4 + 19 * v + 5 * z) by omega), h]
theorem LA.set51 {M : Mm} {F F' : Nat → Int32} (hL : LA M F) (hg : ∀ i, i < 6 → F i = F' i) (hp : ∀ i, 63 ≤ i → F i = F' i) : LA (setR M 51 (sh F')) F' := by
  refine ⟨?_, setR_same _ _ _, ?_⟩
  · rw [setR_ne _ _ (by decide), hL.1]; exact gF_congr hg
  · rw [setR_ne _ _ (by decide), hL.2.2]; exact pk_congr hp
theorem cool_law {t sp c : Int32} (ht : bt (-300) 450 t) (hs : bt (-300) 100 sp) (hc : bt 0 30 c) : coolF t sp c = if t ≤ sp then (if sp ≤ t then sp else t + nI 1) else (if c ≤ t - sp then t - c else sp) := by
  rw [coolF_m]
  unfold bt at *
  have h1 : (t - sp).toInt = t.toInt - sp.toInt := isub (by omega) (by omega)
  have h2 : (t - c).toInt = t.toInt - c.toInt := isub (by omega) (by omega)
  have e1 : (sp ≤ t - c) = (c ≤ t - sp) := by
    rw [Int32.le_iff_toInt_le, Int32.le_iff_toInt_le, h1, h2]
    exact propext ⟨fun h => by omega, fun h => by omega⟩
  by_cases h : t ≤ sp
  · rw [if_pos h, if_pos h]
    by_cases h9 : sp ≤ t
    · rw [if_pos h9, if_pos h9]
      rw [Int32.le_iff_toInt_le] at h h9
      exact Int32.toInt_inj.mp (by omega)
    · rw [if_neg h9, if_neg h9]
  · rw [if_neg h, if_neg h]
    simp only [e1]
theorem wG0 : warmF 0 = nI 3 := by decide
theorem wG1 : warmF 1 = nI 6 := by decide
theorem wG2 : warmF 2 = nI 12 := by decide
set_option maxRecDepth 20000 in
set_option maxHeartbeats 4000000 in
theorem lb_L_heata {G : Gl} {Φ : Option OV → Mm → Prop} {v : Nat} (hv : v < 3) {z : Nat} (hz : z < 2) (x5 x6 x7 : Option OV) (M : Mm) {F : Nat → Int32} (hL : LA M F) {t T : Nat} (hg : Good F t T) (kx : ∀ y5 y6 y7 : Option OV, AW G cL_vanMinute RL 8 3 68 (some .int) Φ 8 [some (.inr (9, 50, 6, 0)), some (.inr (9, 51, 57, 0)), some (.inl (nI v)), some (.inl (nI (19 * v))), some (.inl (nI (z + 1))), y5, y6, y7] [] (setR M 51 (sh (heatZ F v z (F 3))))) : AW G cL_vanMinute RL 8 3 68 (some .int) Φ 8 [some (.inr (9, 50, 6, 0)), some (.inr (9, 51, 57, 0)), some (.inl (nI v)), some (.inl (nI (19 * v))), some (.inl (nI z)), x5, x6, x7] [] M := by
  have hz3 : z < 3 := by omega
  have e0 : F (10 + 19 * v + 5 * z) = M 51 (4 + 19 * v + 5 * z) := (hL.z0 hv (by omega)).symm
  have v0 : F (6 + 19 * v) = M 51 (19 * v) := (hL.v0 hv).symm
  have v1 : F (6 + 19 * v + 1) = M 51 (19 * v + 1) := (hL.v hv 1 (by decide)).symm
  have v2 : F (6 + 19 * v + 2) = M 51 (19 * v + 2) := (hL.v hv 2 (by decide)).symm
  have g3 : F 3 = M 50 3 := (hL.g (by decide)).symm
  have hd := hg.door hv
  rw [v2] at hd
  have hdd := door_eq hd
  have h10 : ¬ nI 1 = 0 := by decide
  have hco := cool_law (hg.heat hv (z := z) (by omega)) (hg.set hv) (hg.cool hv)
  rw [e0, v0, v1] at hco
  have hw : warmF z = nI (3 + 3 * z) := by
    rcases (by omega : z = 0 ∨ z = 1) with rfl | rfl <;> decide
  refine a_il_4_8 (pc' := 10) dL_vanMinute_8 rfl ?_
  refine a_iconst (v := nI 3) (pc' := 11) dL_vanMinute_10 (by decide) rfl ?_
  refine a_icmp_ge (pc' := 14) (tgt := 156) dL_vanMinute_11 (by decide) rfl (fun c_11 => absurd c_11 (nI_ge (by omega) (by decide))) (fun c_11 => ?_)
  refine a_iconst (v := nI 3) (pc' := 15) dL_vanMinute_14 (by decide) rfl ?_
  refine a_il_2_8 (pc' := 16) dL_vanMinute_15 rfl ?_
  refine a_imulN (pc' := 17) dL_vanMinute_16 rfl ?_
  refine a_il_4_8 (pc' := 19) dL_vanMinute_17 rfl ?_
  refine a_iaddN (pc' := 20) dL_vanMinute_19 rfl ?_
  refine k_SI (pc' := 23) (ct_L_spot (v := v) (z := z) (by omega) (by omega) (by omega) _) cw_L_9 ms_L_spot rfl (by decide) (by decide) (Nat.le_of_ble_eq_true rfl) rfl dL_vanMinute_20 rfl ?_
  refine a_is_5_8 (pc' := 25) dL_vanMinute_23 rfl ?_
  refine a_al_0_8 (pc' := 26) dL_vanMinute_25 rfl ?_
  refine a_iconst (v := nI 3) (pc' := 27) dL_vanMinute_26 (by decide) rfl ?_
  refine a_ialdN (pc' := 28) rfl (by omega) (by decide) dL_vanMinute_27 rfl ?_
  refine a_al_1_8 (pc' := 29) dL_vanMinute_28 rfl ?_
  refine a_il_5_8 (pc' := 31) dL_vanMinute_29 rfl ?_
  refine a_ialdN (pc' := 32) rfl (by omega) (by decide) dL_vanMinute_31 rfl ?_
  refine a_isub (pc' := 33) dL_vanMinute_32 rfl ?_
  refine a_il_4_8 (pc' := 35) dL_vanMinute_33 rfl ?_
  refine a_iconst (v := nI 2) (pc' := 36) dL_vanMinute_35 (by decide) rfl ?_
  refine a_icmp_ne (pc' := 39) (tgt := 44) dL_vanMinute_36 (by decide) rfl (fun c_36 => ?_) (fun c_36 => absurd c_36 (by rw [nI_eqm]; omega))
  refine a_iconst (v := nI 3) (pc' := 45) dL_vanMinute_44 (by decide) rfl ?_
  refine a_iconst (v := nI 3) (pc' := 46) dL_vanMinute_45 (by decide) rfl ?_
  refine a_il_4_8 (pc' := 48) dL_vanMinute_46 rfl ?_
  refine a_imulN (pc' := 49) dL_vanMinute_48 rfl ?_
  refine a_iaddN (pc' := 50) dL_vanMinute_49 rfl ?_
  refine a_imul (pc' := 51) dL_vanMinute_50 rfl ?_
  refine a_bipush (v := nI 100) (pc' := 53) dL_vanMinute_51 (by decide) rfl ?_
  refine a_idiv (pc' := 54) dL_vanMinute_53 (by decide) rfl ?_
  refine a_is_6_8 (pc' := 56) dL_vanMinute_54 rfl ?_
  refine a_al_1_8 (pc' := 57) dL_vanMinute_56 rfl ?_
  refine a_il_5_8 (pc' := 59) dL_vanMinute_57 rfl ?_
  refine a_ialdN (pc' := 60) rfl (by omega) (by decide) dL_vanMinute_59 rfl ?_
  refine a_al_1_8 (pc' := 61) dL_vanMinute_60 rfl ?_
  refine a_il_3_8 (pc' := 62) dL_vanMinute_61 rfl ?_
  refine a_ialdN (pc' := 63) rfl (by omega) (by decide) dL_vanMinute_62 rfl ?_
  refine a_icmp_le (pc' := 66) (tgt := 101) dL_vanMinute_63 (by decide) rfl (fun c_63 => ?_) (fun c_63 => ?_)
  · refine a_al_1_8 (pc' := 102) dL_vanMinute_101 rfl ?_
    refine a_il_5_8 (pc' := 104) dL_vanMinute_102 rfl ?_
    refine a_ialdN (pc' := 105) rfl (by omega) (by decide) dL_vanMinute_104 rfl ?_
    refine a_al_1_8 (pc' := 106) dL_vanMinute_105 rfl ?_
    refine a_il_3_8 (pc' := 107) dL_vanMinute_106 rfl ?_
    refine a_ialdN (pc' := 108) rfl (by omega) (by decide) dL_vanMinute_107 rfl ?_
    refine a_icmp_ge (pc' := 111) (tgt := 120) dL_vanMinute_108 (by decide) rfl (fun c_108 => ?_) (fun c_108 => ?_)
    · refine a_al_1_8 (pc' := 121) dL_vanMinute_120 rfl ?_
      refine a_il_3_8 (pc' := 122) dL_vanMinute_121 rfl ?_
      refine a_ialdN (pc' := 123) rfl (by omega) (by decide) dL_vanMinute_122 rfl ?_
      refine a_is_7_8 (pc' := 125) dL_vanMinute_123 rfl ?_
      refine a_al_1_8 (pc' := 126) dL_vanMinute_125 rfl ?_
      refine a_il_5_8 (pc' := 128) dL_vanMinute_126 rfl ?_
      refine a_al_1_8 (pc' := 129) dL_vanMinute_128 rfl ?_
      refine a_il_3_8 (pc' := 130) dL_vanMinute_129 rfl ?_
      refine a_iconst (v := nI 2) (pc' := 131) dL_vanMinute_130 (by decide) rfl ?_
      refine a_iaddN (pc' := 132) dL_vanMinute_131 rfl ?_
      refine a_ialdN (pc' := 133) rfl (by omega) (by decide) dL_vanMinute_132 rfl ?_
      refine a_iconst (v := nI 1) (pc' := 134) dL_vanMinute_133 (by decide) rfl ?_
      refine a_icmp_ne (pc' := 137) (tgt := 147) dL_vanMinute_134 (by decide) rfl (fun c_134 => ?_) (fun c_134 => ?_)
      · refine a_il_7_8 (pc' := 149) dL_vanMinute_147 rfl ?_
        refine a_iastN (pc' := 150) rfl (by omega) (by decide) dL_vanMinute_149 rfl ?_
        refine a_iN_4_8 (m := z + 1) (pc' := 153) dL_vanMinute_150 (nI_add _ _) rfl ?_
        refine a_goto (pc' := 8) dL_vanMinute_153 (by decide) ?_
        exact a_castS (rfl) (castZ hL hv hz3 (by simp [heat1, e0, v0, v1, v2, g3, hdd, hco, hw, h10, c_63, c_108, c_134, -Int32.not_le, -Int32.not_lt])) (kx (some (.inl (nI (4 + 19 * v + 5 * z)))) _ _)
      · refine a_al_1_8 (pc' := 138) dL_vanMinute_137 rfl ?_
        refine a_il_5_8 (pc' := 140) dL_vanMinute_138 rfl ?_
        refine a_ialdN (pc' := 141) rfl (by omega) (by decide) dL_vanMinute_140 rfl ?_
        refine a_il_6_8 (pc' := 143) dL_vanMinute_141 rfl ?_
        refine a_iadd (pc' := 144) dL_vanMinute_143 rfl ?_
        refine a_goto (pc' := 149) dL_vanMinute_144 (by decide) ?_
        refine a_iastN (pc' := 150) rfl (by omega) (by decide) dL_vanMinute_149 rfl ?_
        refine a_iN_4_8 (m := z + 1) (pc' := 153) dL_vanMinute_150 (nI_add _ _) rfl ?_
        refine a_goto (pc' := 8) dL_vanMinute_153 (by decide) ?_
        exact a_castS (rfl) (castZ hL hv hz3 (by simp [heat1, e0, v0, v1, v2, g3, hdd, hco, hw, h10, c_63, c_108, c_134, -Int32.not_le, -Int32.not_lt])) (kx (some (.inl (nI (4 + 19 * v + 5 * z)))) _ _)
    · refine a_al_1_8 (pc' := 112) dL_vanMinute_111 rfl ?_
      refine a_il_5_8 (pc' := 114) dL_vanMinute_112 rfl ?_
      refine a_ialdN (pc' := 115) rfl (by omega) (by decide) dL_vanMinute_114 rfl ?_
      refine a_iconst (v := nI 1) (pc' := 116) dL_vanMinute_115 (by decide) rfl ?_
      refine a_iadd (pc' := 117) dL_vanMinute_116 rfl ?_
      refine a_goto (pc' := 123) dL_vanMinute_117 (by decide) ?_
      refine a_is_7_8 (pc' := 125) dL_vanMinute_123 rfl ?_
      refine a_al_1_8 (pc' := 126) dL_vanMinute_125 rfl ?_
      refine a_il_5_8 (pc' := 128) dL_vanMinute_126 rfl ?_
      refine a_al_1_8 (pc' := 129) dL_vanMinute_128 rfl ?_
      refine a_il_3_8 (pc' := 130) dL_vanMinute_129 rfl ?_
      refine a_iconst (v := nI 2) (pc' := 131) dL_vanMinute_130 (by decide) rfl ?_
      refine a_iaddN (pc' := 132) dL_vanMinute_131 rfl ?_
      refine a_ialdN (pc' := 133) rfl (by omega) (by decide) dL_vanMinute_132 rfl ?_
      refine a_iconst (v := nI 1) (pc' := 134) dL_vanMinute_133 (by decide) rfl ?_
      refine a_icmp_ne (pc' := 137) (tgt := 147) dL_vanMinute_134 (by decide) rfl (fun c_134_2 => ?_) (fun c_134_2 => ?_)
      · refine a_il_7_8 (pc' := 149) dL_vanMinute_147 rfl ?_
        refine a_iastN (pc' := 150) rfl (by omega) (by decide) dL_vanMinute_149 rfl ?_
        refine a_iN_4_8 (m := z + 1) (pc' := 153) dL_vanMinute_150 (nI_add _ _) rfl ?_
        refine a_goto (pc' := 8) dL_vanMinute_153 (by decide) ?_
        exact a_castS (rfl) (castZ hL hv hz3 (by simp [heat1, e0, v0, v1, v2, g3, hdd, hco, hw, h10, c_63, c_108, c_134_2, -Int32.not_le, -Int32.not_lt])) (kx (some (.inl (nI (4 + 19 * v + 5 * z)))) _ _)
      · refine a_al_1_8 (pc' := 138) dL_vanMinute_137 rfl ?_
        refine a_il_5_8 (pc' := 140) dL_vanMinute_138 rfl ?_
        refine a_ialdN (pc' := 141) rfl (by omega) (by decide) dL_vanMinute_140 rfl ?_
        refine a_il_6_8 (pc' := 143) dL_vanMinute_141 rfl ?_
        refine a_iadd (pc' := 144) dL_vanMinute_143 rfl ?_
        refine a_goto (pc' := 149) dL_vanMinute_144 (by decide) ?_
        refine a_iastN (pc' := 150) rfl (by omega) (by decide) dL_vanMinute_149 rfl ?_
        refine a_iN_4_8 (m := z + 1) (pc' := 153) dL_vanMinute_150 (nI_add _ _) rfl ?_
        refine a_goto (pc' := 8) dL_vanMinute_153 (by decide) ?_
        exact a_castS (rfl) (castZ hL hv hz3 (by simp [heat1, e0, v0, v1, v2, g3, hdd, hco, hw, h10, c_63, c_108, c_134_2, -Int32.not_le, -Int32.not_lt])) (kx (some (.inl (nI (4 + 19 * v + 5 * z)))) _ _)
  · refine a_al_1_8 (pc' := 67) dL_vanMinute_66 rfl ?_
    refine a_il_5_8 (pc' := 69) dL_vanMinute_67 rfl ?_
    refine a_ialdN (pc' := 70) rfl (by omega) (by decide) dL_vanMinute_69 rfl ?_
    refine a_al_1_8 (pc' := 71) dL_vanMinute_70 rfl ?_
    refine a_il_3_8 (pc' := 72) dL_vanMinute_71 rfl ?_
    refine a_ialdN (pc' := 73) rfl (by omega) (by decide) dL_vanMinute_72 rfl ?_
    refine a_isub (pc' := 74) dL_vanMinute_73 rfl ?_
    refine a_al_1_8 (pc' := 75) dL_vanMinute_74 rfl ?_
    refine a_il_3_8 (pc' := 76) dL_vanMinute_75 rfl ?_
    refine a_iconst (v := nI 1) (pc' := 77) dL_vanMinute_76 (by decide) rfl ?_
    refine a_iaddN (pc' := 78) dL_vanMinute_77 rfl ?_
    refine a_ialdN (pc' := 79) rfl (by omega) (by decide) dL_vanMinute_78 rfl ?_
    refine a_icmp_ge (pc' := 82) (tgt := 88) dL_vanMinute_79 (by decide) rfl (fun c_79 => ?_) (fun c_79 => ?_)
    · refine a_al_1_8 (pc' := 89) dL_vanMinute_88 rfl ?_
      refine a_il_5_8 (pc' := 91) dL_vanMinute_89 rfl ?_
      refine a_ialdN (pc' := 92) rfl (by omega) (by decide) dL_vanMinute_91 rfl ?_
      refine a_al_1_8 (pc' := 93) dL_vanMinute_92 rfl ?_
      refine a_il_3_8 (pc' := 94) dL_vanMinute_93 rfl ?_
      refine a_iconst (v := nI 1) (pc' := 95) dL_vanMinute_94 (by decide) rfl ?_
      refine a_iaddN (pc' := 96) dL_vanMinute_95 rfl ?_
      refine a_ialdN (pc' := 97) rfl (by omega) (by decide) dL_vanMinute_96 rfl ?_
      refine a_isub (pc' := 98) dL_vanMinute_97 rfl ?_
      refine a_goto (pc' := 123) dL_vanMinute_98 (by decide) ?_
      refine a_is_7_8 (pc' := 125) dL_vanMinute_123 rfl ?_
      refine a_al_1_8 (pc' := 126) dL_vanMinute_125 rfl ?_
      refine a_il_5_8 (pc' := 128) dL_vanMinute_126 rfl ?_
      refine a_al_1_8 (pc' := 129) dL_vanMinute_128 rfl ?_
      refine a_il_3_8 (pc' := 130) dL_vanMinute_129 rfl ?_
      refine a_iconst (v := nI 2) (pc' := 131) dL_vanMinute_130 (by decide) rfl ?_
      refine a_iaddN (pc' := 132) dL_vanMinute_131 rfl ?_
      refine a_ialdN (pc' := 133) rfl (by omega) (by decide) dL_vanMinute_132 rfl ?_
      refine a_iconst (v := nI 1) (pc' := 134) dL_vanMinute_133 (by decide) rfl ?_
      refine a_icmp_ne (pc' := 137) (tgt := 147) dL_vanMinute_134 (by decide) rfl (fun c_134_3 => ?_) (fun c_134_3 => ?_)
      · refine a_il_7_8 (pc' := 149) dL_vanMinute_147 rfl ?_
        refine a_iastN (pc' := 150) rfl (by omega) (by decide) dL_vanMinute_149 rfl ?_
        refine a_iN_4_8 (m := z + 1) (pc' := 153) dL_vanMinute_150 (nI_add _ _) rfl ?_
        refine a_goto (pc' := 8) dL_vanMinute_153 (by decide) ?_
        exact a_castS (rfl) (castZ hL hv hz3 (by simp [heat1, e0, v0, v1, v2, g3, hdd, hco, hw, h10, c_63, c_79, c_134_3, -Int32.not_le, -Int32.not_lt])) (kx (some (.inl (nI (4 + 19 * v + 5 * z)))) _ _)
      · refine a_al_1_8 (pc' := 138) dL_vanMinute_137 rfl ?_
        refine a_il_5_8 (pc' := 140) dL_vanMinute_138 rfl ?_
        refine a_ialdN (pc' := 141) rfl (by omega) (by decide) dL_vanMinute_140 rfl ?_
        refine a_il_6_8 (pc' := 143) dL_vanMinute_141 rfl ?_
        refine a_iadd (pc' := 144) dL_vanMinute_143 rfl ?_
        refine a_goto (pc' := 149) dL_vanMinute_144 (by decide) ?_
        refine a_iastN (pc' := 150) rfl (by omega) (by decide) dL_vanMinute_149 rfl ?_
        refine a_iN_4_8 (m := z + 1) (pc' := 153) dL_vanMinute_150 (nI_add _ _) rfl ?_
        refine a_goto (pc' := 8) dL_vanMinute_153 (by decide) ?_
        exact a_castS (rfl) (castZ hL hv hz3 (by simp [heat1, e0, v0, v1, v2, g3, hdd, hco, hw, h10, c_63, c_79, c_134_3, -Int32.not_le, -Int32.not_lt])) (kx (some (.inl (nI (4 + 19 * v + 5 * z)))) _ _)
    · refine a_al_1_8 (pc' := 83) dL_vanMinute_82 rfl ?_
      refine a_il_3_8 (pc' := 84) dL_vanMinute_83 rfl ?_
      refine a_ialdN (pc' := 85) rfl (by omega) (by decide) dL_vanMinute_84 rfl ?_
      refine a_goto (pc' := 123) dL_vanMinute_85 (by decide) ?_
      refine a_is_7_8 (pc' := 125) dL_vanMinute_123 rfl ?_
      refine a_al_1_8 (pc' := 126) dL_vanMinute_125 rfl ?_
      refine a_il_5_8 (pc' := 128) dL_vanMinute_126 rfl ?_
      refine a_al_1_8 (pc' := 129) dL_vanMinute_128 rfl ?_
      refine a_il_3_8 (pc' := 130) dL_vanMinute_129 rfl ?_
      refine a_iconst (v := nI 2) (pc' := 131) dL_vanMinute_130 (by decide) rfl ?_
      refine a_iaddN (pc' := 132) dL_vanMinute_131 rfl ?_
      refine a_ialdN (pc' := 133) rfl (by omega) (by decide) dL_vanMinute_132 rfl ?_
      refine a_iconst (v := nI 1) (pc' := 134) dL_vanMinute_133 (by decide) rfl ?_
      refine a_icmp_ne (pc' := 137) (tgt := 147) dL_vanMinute_134 (by decide) rfl (fun c_134_4 => ?_) (fun c_134_4 => ?_)
      · refine a_il_7_8 (pc' := 149) dL_vanMinute_147 rfl ?_
        refine a_iastN (pc' := 150) rfl (by omega) (by decide) dL_vanMinute_149 rfl ?_
        refine a_iN_4_8 (m := z + 1) (pc' := 153) dL_vanMinute_150 (nI_add _ _) rfl ?_
        refine a_goto (pc' := 8) dL_vanMinute_153 (by decide) ?_
        exact a_castS (rfl) (castZ hL hv hz3 (by simp [heat1, e0, v0, v1, v2, g3, hdd, hco, hw, h10, c_63, c_79, c_134_4, -Int32.not_le, -Int32.not_lt])) (kx (some (.inl (nI (4 + 19 * v + 5 * z)))) _ _)
      · refine a_al_1_8 (pc' := 138) dL_vanMinute_137 rfl ?_
        refine a_il_5_8 (pc' := 140) dL_vanMinute_138 rfl ?_
        refine a_ialdN (pc' := 141) rfl (by omega) (by decide) dL_vanMinute_140 rfl ?_
        refine a_il_6_8 (pc' := 143) dL_vanMinute_141 rfl ?_
        refine a_iadd (pc' := 144) dL_vanMinute_143 rfl ?_
        refine a_goto (pc' := 149) dL_vanMinute_144 (by decide) ?_
        refine a_iastN (pc' := 150) rfl (by omega) (by decide) dL_vanMinute_149 rfl ?_
        refine a_iN_4_8 (m := z + 1) (pc' := 153) dL_vanMinute_150 (nI_add _ _) rfl ?_
        refine a_goto (pc' := 8) dL_vanMinute_153 (by decide) ?_
        exact a_castS (rfl) (castZ hL hv hz3 (by simp [heat1, e0, v0, v1, v2, g3, hdd, hco, hw, h10, c_63, c_79, c_134_4, -Int32.not_le, -Int32.not_lt])) (kx (some (.inl (nI (4 + 19 * v + 5 * z)))) _ _)
set_option maxRecDepth 20000 in
set_option maxHeartbeats 4000000 in
theorem lb_L_heatb {G : Gl} {Φ : Option OV → Mm → Prop} {v : Nat} (hv : v < 3) {z : Nat} (hz : z = 2) (x5 x6 x7 : Option OV) (M : Mm) {F : Nat → Int32} (hL : LA M F) {t T : Nat} (hg : Good F t T) (kx : ∀ y5 y6 y7 : Option OV, AW G cL_vanMinute RL 8 3 68 (some .int) Φ 8 [some (.inr (9, 50, 6, 0)), some (.inr (9, 51, 57, 0)), some (.inl (nI v)), some (.inl (nI (19 * v))), some (.inl (nI (z + 1))), y5, y6, y7] [] (setR M 51 (sh (heatZ F v z (F 3))))) : AW G cL_vanMinute RL 8 3 68 (some .int) Φ 8 [some (.inr (9, 50, 6, 0)), some (.inr (9, 51, 57, 0)), some (.inl (nI v)), some (.inl (nI (19 * v))), some (.inl (nI z)), x5, x6, x7] [] M := by
  have hz3 : z < 3 := by omega
  have e0 : F (10 + 19 * v + 5 * z) = M 51 (4 + 19 * v + 5 * z) := (hL.z0 hv (by omega)).symm
  have v0 : F (6 + 19 * v) = M 51 (19 * v) := (hL.v0 hv).symm
  have v1 : F (6 + 19 * v + 1) = M 51 (19 * v + 1) := (hL.v hv 1 (by decide)).symm
  have v2 : F (6 + 19 * v + 2) = M 51 (19 * v + 2) := (hL.v hv 2 (by decide)).symm
  have g3 : F 3 = M 50 3 := (hL.g (by decide)).symm
  have hd := hg.door hv
  rw [v2] at hd
  have hdd := door_eq hd
  have h10 : ¬ nI 1 = 0 := by decide
  have hco := cool_law (hg.heat hv (z := z) (by omega)) (hg.set hv) (hg.cool hv)
  rw [e0, v0, v1] at hco
  have hw : warmF z = nI 12 := by subst hz; decide
  refine a_il_4_8 (pc' := 10) dL_vanMinute_8 rfl ?_
  refine a_iconst (v := nI 3) (pc' := 11) dL_vanMinute_10 (by decide) rfl ?_
  refine a_icmp_ge (pc' := 14) (tgt := 156) dL_vanMinute_11 (by decide) rfl (fun c_11 => absurd c_11 (nI_ge (by omega) (by decide))) (fun c_11 => ?_)
  refine a_iconst (v := nI 3) (pc' := 15) dL_vanMinute_14 (by decide) rfl ?_
  refine a_il_2_8 (pc' := 16) dL_vanMinute_15 rfl ?_
  refine a_imulN (pc' := 17) dL_vanMinute_16 rfl ?_
  refine a_il_4_8 (pc' := 19) dL_vanMinute_17 rfl ?_
  refine a_iaddN (pc' := 20) dL_vanMinute_19 rfl ?_
  refine k_SI (pc' := 23) (ct_L_spot (v := v) (z := z) (by omega) (by omega) (by omega) _) cw_L_9 ms_L_spot rfl (by decide) (by decide) (Nat.le_of_ble_eq_true rfl) rfl dL_vanMinute_20 rfl ?_
  refine a_is_5_8 (pc' := 25) dL_vanMinute_23 rfl ?_
  refine a_al_0_8 (pc' := 26) dL_vanMinute_25 rfl ?_
  refine a_iconst (v := nI 3) (pc' := 27) dL_vanMinute_26 (by decide) rfl ?_
  refine a_ialdN (pc' := 28) rfl (by omega) (by decide) dL_vanMinute_27 rfl ?_
  refine a_al_1_8 (pc' := 29) dL_vanMinute_28 rfl ?_
  refine a_il_5_8 (pc' := 31) dL_vanMinute_29 rfl ?_
  refine a_ialdN (pc' := 32) rfl (by omega) (by decide) dL_vanMinute_31 rfl ?_
  refine a_isub (pc' := 33) dL_vanMinute_32 rfl ?_
  refine a_il_4_8 (pc' := 35) dL_vanMinute_33 rfl ?_
  refine a_iconst (v := nI 2) (pc' := 36) dL_vanMinute_35 (by decide) rfl ?_
  refine a_icmp_ne (pc' := 39) (tgt := 44) dL_vanMinute_36 (by decide) rfl (fun c_36 => absurd (by rw [hz]) c_36) (fun c_36 => ?_)
  refine a_bipush (v := nI 12) (pc' := 41) dL_vanMinute_39 (by decide) rfl ?_
  refine a_goto (pc' := 50) dL_vanMinute_41 (by decide) ?_
  refine a_imul (pc' := 51) dL_vanMinute_50 rfl ?_
  refine a_bipush (v := nI 100) (pc' := 53) dL_vanMinute_51 (by decide) rfl ?_
  refine a_idiv (pc' := 54) dL_vanMinute_53 (by decide) rfl ?_
  refine a_is_6_8 (pc' := 56) dL_vanMinute_54 rfl ?_
  refine a_al_1_8 (pc' := 57) dL_vanMinute_56 rfl ?_
  refine a_il_5_8 (pc' := 59) dL_vanMinute_57 rfl ?_
  refine a_ialdN (pc' := 60) rfl (by omega) (by decide) dL_vanMinute_59 rfl ?_
  refine a_al_1_8 (pc' := 61) dL_vanMinute_60 rfl ?_
  refine a_il_3_8 (pc' := 62) dL_vanMinute_61 rfl ?_
  refine a_ialdN (pc' := 63) rfl (by omega) (by decide) dL_vanMinute_62 rfl ?_
  refine a_icmp_le (pc' := 66) (tgt := 101) dL_vanMinute_63 (by decide) rfl (fun c_63 => ?_) (fun c_63 => ?_)
  · refine a_al_1_8 (pc' := 102) dL_vanMinute_101 rfl ?_
    refine a_il_5_8 (pc' := 104) dL_vanMinute_102 rfl ?_
    refine a_ialdN (pc' := 105) rfl (by omega) (by decide) dL_vanMinute_104 rfl ?_
    refine a_al_1_8 (pc' := 106) dL_vanMinute_105 rfl ?_
    refine a_il_3_8 (pc' := 107) dL_vanMinute_106 rfl ?_
    refine a_ialdN (pc' := 108) rfl (by omega) (by decide) dL_vanMinute_107 rfl ?_
    refine a_icmp_ge (pc' := 111) (tgt := 120) dL_vanMinute_108 (by decide) rfl (fun c_108 => ?_) (fun c_108 => ?_)
    · refine a_al_1_8 (pc' := 121) dL_vanMinute_120 rfl ?_
      refine a_il_3_8 (pc' := 122) dL_vanMinute_121 rfl ?_
      refine a_ialdN (pc' := 123) rfl (by omega) (by decide) dL_vanMinute_122 rfl ?_
      refine a_is_7_8 (pc' := 125) dL_vanMinute_123 rfl ?_
      refine a_al_1_8 (pc' := 126) dL_vanMinute_125 rfl ?_
      refine a_il_5_8 (pc' := 128) dL_vanMinute_126 rfl ?_
      refine a_al_1_8 (pc' := 129) dL_vanMinute_128 rfl ?_
      refine a_il_3_8 (pc' := 130) dL_vanMinute_129 rfl ?_
      refine a_iconst (v := nI 2) (pc' := 131) dL_vanMinute_130 (by decide) rfl ?_
      refine a_iaddN (pc' := 132) dL_vanMinute_131 rfl ?_
      refine a_ialdN (pc' := 133) rfl (by omega) (by decide) dL_vanMinute_132 rfl ?_
      refine a_iconst (v := nI 1) (pc' := 134) dL_vanMinute_133 (by decide) rfl ?_
      refine a_icmp_ne (pc' := 137) (tgt := 147) dL_vanMinute_134 (by decide) rfl (fun c_134 => ?_) (fun c_134 => ?_)
      · refine a_il_7_8 (pc' := 149) dL_vanMinute_147 rfl ?_
        refine a_iastN (pc' := 150) rfl (by omega) (by decide) dL_vanMinute_149 rfl ?_
        refine a_iN_4_8 (m := z + 1) (pc' := 153) dL_vanMinute_150 (nI_add _ _) rfl ?_
        refine a_goto (pc' := 8) dL_vanMinute_153 (by decide) ?_
        exact a_castS (rfl) (castZ hL hv hz3 (by simp [heat1, e0, v0, v1, v2, g3, hdd, hco, hw, h10, c_63, c_108, c_134, -Int32.not_le, -Int32.not_lt])) (kx (some (.inl (nI (4 + 19 * v + 5 * z)))) _ _)
      · refine a_al_1_8 (pc' := 138) dL_vanMinute_137 rfl ?_
        refine a_il_5_8 (pc' := 140) dL_vanMinute_138 rfl ?_
        refine a_ialdN (pc' := 141) rfl (by omega) (by decide) dL_vanMinute_140 rfl ?_
        refine a_il_6_8 (pc' := 143) dL_vanMinute_141 rfl ?_
        refine a_iadd (pc' := 144) dL_vanMinute_143 rfl ?_
        refine a_goto (pc' := 149) dL_vanMinute_144 (by decide) ?_
        refine a_iastN (pc' := 150) rfl (by omega) (by decide) dL_vanMinute_149 rfl ?_
        refine a_iN_4_8 (m := z + 1) (pc' := 153) dL_vanMinute_150 (nI_add _ _) rfl ?_
        refine a_goto (pc' := 8) dL_vanMinute_153 (by decide) ?_
        exact a_castS (rfl) (castZ hL hv hz3 (by simp [heat1, e0, v0, v1, v2, g3, hdd, hco, hw, h10, c_63, c_108, c_134, -Int32.not_le, -Int32.not_lt])) (kx (some (.inl (nI (4 + 19 * v + 5 * z)))) _ _)
    · refine a_al_1_8 (pc' := 112) dL_vanMinute_111 rfl ?_
      refine a_il_5_8 (pc' := 114) dL_vanMinute_112 rfl ?_
      refine a_ialdN (pc' := 115) rfl (by omega) (by decide) dL_vanMinute_114 rfl ?_
      refine a_iconst (v := nI 1) (pc' := 116) dL_vanMinute_115 (by decide) rfl ?_
      refine a_iadd (pc' := 117) dL_vanMinute_116 rfl ?_
      refine a_goto (pc' := 123) dL_vanMinute_117 (by decide) ?_
      refine a_is_7_8 (pc' := 125) dL_vanMinute_123 rfl ?_
      refine a_al_1_8 (pc' := 126) dL_vanMinute_125 rfl ?_
      refine a_il_5_8 (pc' := 128) dL_vanMinute_126 rfl ?_
      refine a_al_1_8 (pc' := 129) dL_vanMinute_128 rfl ?_
      refine a_il_3_8 (pc' := 130) dL_vanMinute_129 rfl ?_
      refine a_iconst (v := nI 2) (pc' := 131) dL_vanMinute_130 (by decide) rfl ?_
      refine a_iaddN (pc' := 132) dL_vanMinute_131 rfl ?_
      refine a_ialdN (pc' := 133) rfl (by omega) (by decide) dL_vanMinute_132 rfl ?_
      refine a_iconst (v := nI 1) (pc' := 134) dL_vanMinute_133 (by decide) rfl ?_
      refine a_icmp_ne (pc' := 137) (tgt := 147) dL_vanMinute_134 (by decide) rfl (fun c_134_2 => ?_) (fun c_134_2 => ?_)
      · refine a_il_7_8 (pc' := 149) dL_vanMinute_147 rfl ?_
        refine a_iastN (pc' := 150) rfl (by omega) (by decide) dL_vanMinute_149 rfl ?_
        refine a_iN_4_8 (m := z + 1) (pc' := 153) dL_vanMinute_150 (nI_add _ _) rfl ?_
        refine a_goto (pc' := 8) dL_vanMinute_153 (by decide) ?_
        exact a_castS (rfl) (castZ hL hv hz3 (by simp [heat1, e0, v0, v1, v2, g3, hdd, hco, hw, h10, c_63, c_108, c_134_2, -Int32.not_le, -Int32.not_lt])) (kx (some (.inl (nI (4 + 19 * v + 5 * z)))) _ _)
      · refine a_al_1_8 (pc' := 138) dL_vanMinute_137 rfl ?_
        refine a_il_5_8 (pc' := 140) dL_vanMinute_138 rfl ?_
        refine a_ialdN (pc' := 141) rfl (by omega) (by decide) dL_vanMinute_140 rfl ?_
        refine a_il_6_8 (pc' := 143) dL_vanMinute_141 rfl ?_
        refine a_iadd (pc' := 144) dL_vanMinute_143 rfl ?_
        refine a_goto (pc' := 149) dL_vanMinute_144 (by decide) ?_
        refine a_iastN (pc' := 150) rfl (by omega) (by decide) dL_vanMinute_149 rfl ?_
        refine a_iN_4_8 (m := z + 1) (pc' := 153) dL_vanMinute_150 (nI_add _ _) rfl ?_
        refine a_goto (pc' := 8) dL_vanMinute_153 (by decide) ?_
        exact a_castS (rfl) (castZ hL hv hz3 (by simp [heat1, e0, v0, v1, v2, g3, hdd, hco, hw, h10, c_63, c_108, c_134_2, -Int32.not_le, -Int32.not_lt])) (kx (some (.inl (nI (4 + 19 * v + 5 * z)))) _ _)
  · refine a_al_1_8 (pc' := 67) dL_vanMinute_66 rfl ?_
    refine a_il_5_8 (pc' := 69) dL_vanMinute_67 rfl ?_
    refine a_ialdN (pc' := 70) rfl (by omega) (by decide) dL_vanMinute_69 rfl ?_
    refine a_al_1_8 (pc' := 71) dL_vanMinute_70 rfl ?_
    refine a_il_3_8 (pc' := 72) dL_vanMinute_71 rfl ?_
    refine a_ialdN (pc' := 73) rfl (by omega) (by decide) dL_vanMinute_72 rfl ?_
    refine a_isub (pc' := 74) dL_vanMinute_73 rfl ?_
    refine a_al_1_8 (pc' := 75) dL_vanMinute_74 rfl ?_
    refine a_il_3_8 (pc' := 76) dL_vanMinute_75 rfl ?_
    refine a_iconst (v := nI 1) (pc' := 77) dL_vanMinute_76 (by decide) rfl ?_
    refine a_iaddN (pc' := 78) dL_vanMinute_77 rfl ?_
    refine a_ialdN (pc' := 79) rfl (by omega) (by decide) dL_vanMinute_78 rfl ?_
    refine a_icmp_ge (pc' := 82) (tgt := 88) dL_vanMinute_79 (by decide) rfl (fun c_79 => ?_) (fun c_79 => ?_)
    · refine a_al_1_8 (pc' := 89) dL_vanMinute_88 rfl ?_
      refine a_il_5_8 (pc' := 91) dL_vanMinute_89 rfl ?_
      refine a_ialdN (pc' := 92) rfl (by omega) (by decide) dL_vanMinute_91 rfl ?_
      refine a_al_1_8 (pc' := 93) dL_vanMinute_92 rfl ?_
      refine a_il_3_8 (pc' := 94) dL_vanMinute_93 rfl ?_
      refine a_iconst (v := nI 1) (pc' := 95) dL_vanMinute_94 (by decide) rfl ?_
      refine a_iaddN (pc' := 96) dL_vanMinute_95 rfl ?_
      refine a_ialdN (pc' := 97) rfl (by omega) (by decide) dL_vanMinute_96 rfl ?_
      refine a_isub (pc' := 98) dL_vanMinute_97 rfl ?_
      refine a_goto (pc' := 123) dL_vanMinute_98 (by decide) ?_
      refine a_is_7_8 (pc' := 125) dL_vanMinute_123 rfl ?_
      refine a_al_1_8 (pc' := 126) dL_vanMinute_125 rfl ?_
      refine a_il_5_8 (pc' := 128) dL_vanMinute_126 rfl ?_
      refine a_al_1_8 (pc' := 129) dL_vanMinute_128 rfl ?_
      refine a_il_3_8 (pc' := 130) dL_vanMinute_129 rfl ?_
      refine a_iconst (v := nI 2) (pc' := 131) dL_vanMinute_130 (by decide) rfl ?_
      refine a_iaddN (pc' := 132) dL_vanMinute_131 rfl ?_
      refine a_ialdN (pc' := 133) rfl (by omega) (by decide) dL_vanMinute_132 rfl ?_
      refine a_iconst (v := nI 1) (pc' := 134) dL_vanMinute_133 (by decide) rfl ?_
      refine a_icmp_ne (pc' := 137) (tgt := 147) dL_vanMinute_134 (by decide) rfl (fun c_134_3 => ?_) (fun c_134_3 => ?_)
      · refine a_il_7_8 (pc' := 149) dL_vanMinute_147 rfl ?_
        refine a_iastN (pc' := 150) rfl (by omega) (by decide) dL_vanMinute_149 rfl ?_
        refine a_iN_4_8 (m := z + 1) (pc' := 153) dL_vanMinute_150 (nI_add _ _) rfl ?_
        refine a_goto (pc' := 8) dL_vanMinute_153 (by decide) ?_
        exact a_castS (rfl) (castZ hL hv hz3 (by simp [heat1, e0, v0, v1, v2, g3, hdd, hco, hw, h10, c_63, c_79, c_134_3, -Int32.not_le, -Int32.not_lt])) (kx (some (.inl (nI (4 + 19 * v + 5 * z)))) _ _)
      · refine a_al_1_8 (pc' := 138) dL_vanMinute_137 rfl ?_
        refine a_il_5_8 (pc' := 140) dL_vanMinute_138 rfl ?_
        refine a_ialdN (pc' := 141) rfl (by omega) (by decide) dL_vanMinute_140 rfl ?_
        refine a_il_6_8 (pc' := 143) dL_vanMinute_141 rfl ?_
        refine a_iadd (pc' := 144) dL_vanMinute_143 rfl ?_
        refine a_goto (pc' := 149) dL_vanMinute_144 (by decide) ?_
        refine a_iastN (pc' := 150) rfl (by omega) (by decide) dL_vanMinute_149 rfl ?_
        refine a_iN_4_8 (m := z + 1) (pc' := 153) dL_vanMinute_150 (nI_add _ _) rfl ?_
        refine a_goto (pc' := 8) dL_vanMinute_153 (by decide) ?_
        exact a_castS (rfl) (castZ hL hv hz3 (by simp [heat1, e0, v0, v1, v2, g3, hdd, hco, hw, h10, c_63, c_79, c_134_3, -Int32.not_le, -Int32.not_lt])) (kx (some (.inl (nI (4 + 19 * v + 5 * z)))) _ _)
    · refine a_al_1_8 (pc' := 83) dL_vanMinute_82 rfl ?_
      refine a_il_3_8 (pc' := 84) dL_vanMinute_83 rfl ?_
      refine a_ialdN (pc' := 85) rfl (by omega) (by decide) dL_vanMinute_84 rfl ?_
      refine a_goto (pc' := 123) dL_vanMinute_85 (by decide) ?_
      refine a_is_7_8 (pc' := 125) dL_vanMinute_123 rfl ?_
      refine a_al_1_8 (pc' := 126) dL_vanMinute_125 rfl ?_
      refine a_il_5_8 (pc' := 128) dL_vanMinute_126 rfl ?_
      refine a_al_1_8 (pc' := 129) dL_vanMinute_128 rfl ?_
      refine a_il_3_8 (pc' := 130) dL_vanMinute_129 rfl ?_
      refine a_iconst (v := nI 2) (pc' := 131) dL_vanMinute_130 (by decide) rfl ?_
      refine a_iaddN (pc' := 132) dL_vanMinute_131 rfl ?_
      refine a_ialdN (pc' := 133) rfl (by omega) (by decide) dL_vanMinute_132 rfl ?_
      refine a_iconst (v := nI 1) (pc' := 134) dL_vanMinute_133 (by decide) rfl ?_
      refine a_icmp_ne (pc' := 137) (tgt := 147) dL_vanMinute_134 (by decide) rfl (fun c_134_4 => ?_) (fun c_134_4 => ?_)
      · refine a_il_7_8 (pc' := 149) dL_vanMinute_147 rfl ?_
        refine a_iastN (pc' := 150) rfl (by omega) (by decide) dL_vanMinute_149 rfl ?_
        refine a_iN_4_8 (m := z + 1) (pc' := 153) dL_vanMinute_150 (nI_add _ _) rfl ?_
        refine a_goto (pc' := 8) dL_vanMinute_153 (by decide) ?_
        exact a_castS (rfl) (castZ hL hv hz3 (by simp [heat1, e0, v0, v1, v2, g3, hdd, hco, hw, h10, c_63, c_79, c_134_4, -Int32.not_le, -Int32.not_lt])) (kx (some (.inl (nI (4 + 19 * v + 5 * z)))) _ _)
      · refine a_al_1_8 (pc' := 138) dL_vanMinute_137 rfl ?_
        refine a_il_5_8 (pc' := 140) dL_vanMinute_138 rfl ?_
        refine a_ialdN (pc' := 141) rfl (by omega) (by decide) dL_vanMinute_140 rfl ?_
        refine a_il_6_8 (pc' := 143) dL_vanMinute_141 rfl ?_
        refine a_iadd (pc' := 144) dL_vanMinute_143 rfl ?_
        refine a_goto (pc' := 149) dL_vanMinute_144 (by decide) ?_
        refine a_iastN (pc' := 150) rfl (by omega) (by decide) dL_vanMinute_149 rfl ?_
        refine a_iN_4_8 (m := z + 1) (pc' := 153) dL_vanMinute_150 (nI_add _ _) rfl ?_
        refine a_goto (pc' := 8) dL_vanMinute_153 (by decide) ?_
        exact a_castS (rfl) (castZ hL hv hz3 (by simp [heat1, e0, v0, v1, v2, g3, hdd, hco, hw, h10, c_63, c_79, c_134_4, -Int32.not_le, -Int32.not_lt])) (kx (some (.inl (nI (4 + 19 * v + 5 * z)))) _ _)
set_option maxRecDepth 20000 in
set_option maxHeartbeats 4000000 in
theorem lb_L_mix {G : Gl} {Φ : Option OV → Mm → Prop} {v : Nat} (hv : v < 3) {z : Nat} (hz : z < 2) (x5 x6 x7 : Option OV) (M : Mm) {F : Nat → Int32} (hL : LA M F) (kx : ∀ y5 y6 : Option OV, AW G cL_vanMinute RL 8 3 68 (some .int) Φ 159 [some (.inr (9, 50, 6, 0)), some (.inr (9, 51, 57, 0)), some (.inl (nI v)), some (.inl (nI (19 * v))), some (.inl (nI (z + 1))), y5, y6, x7] [] (setR M 51 (sh (mix1 F v z)))) : AW G cL_vanMinute RL 8 3 68 (some .int) Φ 159 [some (.inr (9, 50, 6, 0)), some (.inr (9, 51, 57, 0)), some (.inl (nI v)), some (.inl (nI (19 * v))), some (.inl (nI z)), x5, x6, x7] [] M := by
  have e0 : M 51 (4 + 19 * v + 5 * z) = F (10 + 19 * v + 5 * z) := hL.z0 hv (by omega)
  have e5 : M 51 (4 + 19 * v + 5 * z + 5) = F (10 + 19 * v + 5 * (z + 1)) := by rw [show 4 + 19 * v + 5 * z + 5 = 4 + 19 * v + 5 * (z + 1) by omega]; exact hL.z0 hv (by omega)
  have hw5 : ∀ x : Int32, wr M 51 (4 + 19 * v + 5 * z) x 51 (4 + 19 * v + 5 * z + 5) = M 51 (4 + 19 * v + 5 * z + 5) := fun x => if_neg (by omega)
  refine a_il_4_8 (pc' := 161) dL_vanMinute_159 rfl ?_
  refine a_iconst (v := nI 2) (pc' := 162) dL_vanMinute_161 (by decide) rfl ?_
  refine a_icmp_ge (pc' := 165) (tgt := 218) dL_vanMinute_162 (by decide) rfl (fun c_162 => absurd c_162 (nI_ge (by omega) (by decide))) (fun c_162 => ?_)
  refine a_iconst (v := nI 3) (pc' := 166) dL_vanMinute_165 (by decide) rfl ?_
  refine a_il_2_8 (pc' := 167) dL_vanMinute_166 rfl ?_
  refine a_imulN (pc' := 168) dL_vanMinute_167 rfl ?_
  refine a_il_4_8 (pc' := 170) dL_vanMinute_168 rfl ?_
  refine a_iaddN (pc' := 171) dL_vanMinute_170 rfl ?_
  refine k_SI (pc' := 174) (ct_L_spot (v := v) (z := z) (by omega) (by omega) (by omega) _) cw_L_9 ms_L_spot rfl (by decide) (by decide) (Nat.le_of_ble_eq_true rfl) rfl dL_vanMinute_171 rfl ?_
  refine a_is_5_8 (pc' := 176) dL_vanMinute_174 rfl ?_
  refine a_al_1_8 (pc' := 177) dL_vanMinute_176 rfl ?_
  refine a_il_5_8 (pc' := 179) dL_vanMinute_177 rfl ?_
  refine a_ialdN (pc' := 180) rfl (by omega) (by decide) dL_vanMinute_179 rfl ?_
  refine a_al_1_8 (pc' := 181) dL_vanMinute_180 rfl ?_
  refine a_il_5_8 (pc' := 183) dL_vanMinute_181 rfl ?_
  refine a_iconst (v := nI 5) (pc' := 184) dL_vanMinute_183 (by decide) rfl ?_
  refine a_iaddN (pc' := 185) dL_vanMinute_184 rfl ?_
  refine a_ialdN (pc' := 186) rfl (by omega) (by decide) dL_vanMinute_185 rfl ?_
  refine a_isub (pc' := 187) dL_vanMinute_186 rfl ?_
  refine a_bipush (v := nI 10) (pc' := 189) dL_vanMinute_187 (by decide) rfl ?_
  refine a_idiv (pc' := 190) dL_vanMinute_189 (by decide) rfl ?_
  refine a_is_6_8 (pc' := 192) dL_vanMinute_190 rfl ?_
  refine a_al_1_8 (pc' := 193) dL_vanMinute_192 rfl ?_
  refine a_il_5_8 (pc' := 195) dL_vanMinute_193 rfl ?_
  refine a_dup2 (pc' := 196) dL_vanMinute_195 rfl ?_
  refine a_ialdN (pc' := 197) rfl (by omega) (by decide) dL_vanMinute_196 rfl ?_
  refine a_il_6_8 (pc' := 199) dL_vanMinute_197 rfl ?_
  refine a_isub (pc' := 200) dL_vanMinute_199 rfl ?_
  refine a_iastN (pc' := 201) rfl (by omega) (by decide) dL_vanMinute_200 rfl ?_
  refine a_al_1_8 (pc' := 202) dL_vanMinute_201 rfl ?_
  refine a_il_5_8 (pc' := 204) dL_vanMinute_202 rfl ?_
  refine a_iconst (v := nI 5) (pc' := 205) dL_vanMinute_204 (by decide) rfl ?_
  refine a_iaddN (pc' := 206) dL_vanMinute_205 rfl ?_
  refine a_dup2 (pc' := 207) dL_vanMinute_206 rfl ?_
  refine a_ialdN (pc' := 208) rfl (by omega) (by decide) dL_vanMinute_207 rfl ?_
  refine a_il_6_8 (pc' := 210) dL_vanMinute_208 rfl ?_
  refine a_iadd (pc' := 211) dL_vanMinute_210 rfl ?_
  refine a_iastN (pc' := 212) rfl (by omega) (by decide) dL_vanMinute_211 rfl ?_
  refine a_iN_4_8 (m := z + 1) (pc' := 215) dL_vanMinute_212 (nI_add _ _) rfl ?_
  refine a_goto (pc' := 159) dL_vanMinute_215 (by decide) ?_
  exact a_castS (rfl) (by
    rw [hw5, e0, e5, wr_eq, wr_eq, setR_same, setR_setR, hL.2.1, upd_s F _ (by omega) (show 10 + 19 * v + 5 * z = 6 + (4 + 19 * v + 5 * z) by omega), upd_s _ _ (by omega) (show 10 + 19 * v + 5 * (z + 1) = 6 + (4 + 19 * v + 5 * z + 5) by omega)]
    rfl) (kx (some (.inl (nI (4 + 19 * v + 5 * z)))) _)
theorem castZj {M : Mm} {F : Nat → Int32} (hL : LA M F) {v z : Nat} (hv : v < 3) (hz : z < 3) (j : Nat) (hj : j < 5) {x y : Int32} (h : x = y) : wr M 51 (4 + 19 * v + 5 * z + j) x = setR M 51 (sh (upd F (10 + 19 * v + 5 * z + j) y)) := by
  rw [wr_eq, hL.2.1, upd_s F x (by omega) (show 10 + 19 * v + 5 * z + j = 6 + (4 + 19 * v + 5 * z + j) by omega), h]
set_option maxRecDepth 20000 in
set_option maxHeartbeats 4000000 in
theorem lb_L_find {G : Gl} {Φ : Option OV → Mm → Prop} {v : Nat} (hv : v < 3) {z : Nat} (hz : z < 3) (acc : Int32) (x6 x7 : Option OV) (M : Mm) {F : Nat → Int32} (hL : LA M F) (hb : ∀ z, z < 3 → bt (-1000) 1000 (rdg F (10 + 19 * v + 5 * z))) (hP : bt 1 30 (F 5)) (kx : ∀ y6 y7 : Option OV, AW G cL_vanMinute RL 8 3 68 (some .int) Φ 226 [some (.inr (9, 50, 6, 0)), some (.inr (9, 51, 57, 0)), some (.inl (nI v)), some (.inl (nI (19 * v))), some (.inl (fndN F v z (F 4) (F 5) acc)), some (.inl (nI (3 * v + z + 1))), y6, y7] [] (setR M 51 (sh (find1 F v z (F 4) (F 5))))) : AW G cL_vanMinute RL 8 3 68 (some .int) Φ 226 [some (.inr (9, 50, 6, 0)), some (.inr (9, 51, 57, 0)), some (.inl (nI v)), some (.inl (nI (19 * v))), some (.inl acc), some (.inl (nI (3 * v + z))), x6, x7] [] M := by
  have e4 : F (10 + 19 * v + 5 * z + 4) = M 51 (4 + 19 * v + 5 * z + 4) := (hL.z hv hz 4 (by decide)).symm
  have hL1 : LA (setR M 51 (sh (upd F (10 + 19 * v + 5 * z + 4) (oddN F v z (F 4))))) (upd F (10 + 19 * v + 5 * z + 4) (oddN F v z (F 4))) := hL.set51 (fun i hi => by rw [upd_at, if_neg (by omega)]) (fun i hi => by rw [upd_at, if_neg (by omega)])
  have r4 : (setR M 51 (sh (upd F (10 + 19 * v + 5 * z + 4) (oddN F v z (F 4))))) 51 (4 + 19 * v + 5 * z + 4) = oddN F v z (F 4) := by rw [hL1.z hv hz 4 (by decide), upd_at, if_pos rfl]
  have r3 : (setR M 51 (sh (upd F (10 + 19 * v + 5 * z + 4) (oddN F v z (F 4))))) 51 (4 + 19 * v + 5 * z + 3) = F (10 + 19 * v + 5 * z + 3) := by rw [hL1.z hv hz 3 (by decide), upd_at, if_neg (by omega)]
  have r5 : (setR M 51 (sh (upd F (10 + 19 * v + 5 * z + 4) (oddN F v z (F 4))))) 50 5 = F 5 := by rw [hL1.g (by decide), upd_at, if_neg (by omega)]
  have hle : oddN F v z (F 4) ≤ 0 → oddN F v z (F 4) < F 5 := fun h => Decidable.byContradiction fun q => rd_pos hP q h
  have hself : upd (upd F (10 + 19 * v + 5 * z + 4) (oddN F v z (F 4))) (10 + 19 * v + 5 * z + 3) (F (10 + 19 * v + 5 * z + 3)) = (upd F (10 + 19 * v + 5 * z + 4) (oddN F v z (F 4))) := by
    have := upd_self (upd F (10 + 19 * v + 5 * z + 4) (oddN F v z (F 4))) (10 + 19 * v + 5 * z + 3)
    rw [upd_at, if_neg (by omega)] at this
    exact this
  refine a_il_5_8 (pc' := 228) dL_vanMinute_226 rfl ?_
  refine a_iconst (v := nI 3) (pc' := 229) dL_vanMinute_228 (by decide) rfl ?_
  refine a_il_2_8 (pc' := 230) dL_vanMinute_229 rfl ?_
  refine a_imulN (pc' := 231) dL_vanMinute_230 rfl ?_
  refine a_iconst (v := nI 3) (pc' := 232) dL_vanMinute_231 (by decide) rfl ?_
  refine a_iaddN (pc' := 233) dL_vanMinute_232 rfl ?_
  refine a_icmp_ge (pc' := 236) (tgt := 350) dL_vanMinute_233 (by decide) rfl (fun c_233 => absurd c_233 (nI_ge (by omega) (by omega))) (fun c_233 => ?_)
  refine a_il_5_8 (pc' := 238) dL_vanMinute_236 rfl ?_
  refine k_SI (pc' := 241) (ct_L_spot (v := v) (z := z) (by omega) (by omega) (by omega) _) cw_L_9 ms_L_spot rfl (by decide) (by decide) (Nat.le_of_ble_eq_true rfl) rfl dL_vanMinute_238 rfl ?_
  refine a_is_6_8 (pc' := 243) dL_vanMinute_241 rfl ?_
  refine a_al_1_8 (pc' := 244) dL_vanMinute_243 rfl ?_
  refine a_il_6_8 (pc' := 246) dL_vanMinute_244 rfl ?_
  refine a_iconst (v := nI 4) (pc' := 247) dL_vanMinute_246 (by decide) rfl ?_
  refine a_iaddN (pc' := 248) dL_vanMinute_247 rfl ?_
  refine a_al_0_8 (pc' := 249) dL_vanMinute_248 rfl ?_
  refine a_al_1_8 (pc' := 250) dL_vanMinute_249 rfl ?_
  refine a_il_5_8 (pc' := 252) dL_vanMinute_250 rfl ?_
  refine k_SI (pc' := 255) (ct_L_isOdd (v := v) (z := z) (by omega) (by omega) (by omega) _ hL (hb)) cw_L_23 ms_L_isOdd rfl (by decide) (by decide) (Nat.le_of_ble_eq_true rfl) rfl dL_vanMinute_252 rfl ?_
  refine a_ifB_eq (pc' := 258) (tgt := 269) dL_vanMinute_255 (by decide) rfl (fun c_255 => ?_) (fun c_255 => ?_)
  · refine a_iconst (v := nI 0) (pc' := 270) dL_vanMinute_269 (by decide) rfl ?_
    refine a_iastN (pc' := 271) rfl (by omega) (by decide) dL_vanMinute_270 rfl ?_
    rw [castZj hL hv hz 4 (by decide) (show _ = oddN F v z (F 4) from by simp [oddN, e4, c_255])]
    refine a_al_1_8 (pc' := 272) dL_vanMinute_271 rfl ?_
    refine a_il_6_8 (pc' := 274) dL_vanMinute_272 rfl ?_
    refine a_iconst (v := nI 4) (pc' := 275) dL_vanMinute_274 (by decide) rfl ?_
    refine a_iaddN (pc' := 276) dL_vanMinute_275 rfl ?_
    refine a_ialdN (pc' := 277) rfl (by omega) (by decide) dL_vanMinute_276 rfl ?_
    rw [r4]
    refine a_if_le (pc' := 280) (tgt := 305) dL_vanMinute_277 (by decide) rfl (fun c_277 => ?_) (fun c_277 => ?_)
    · refine a_iconst (v := nI 0) (pc' := 306) dL_vanMinute_305 (by decide) rfl ?_
      refine a_is_7_8 (pc' := 308) dL_vanMinute_306 rfl ?_
      refine a_al_1_8 (pc' := 309) dL_vanMinute_308 rfl ?_
      refine a_il_6_8 (pc' := 311) dL_vanMinute_309 rfl ?_
      refine a_iconst (v := nI 3) (pc' := 312) dL_vanMinute_311 (by decide) rfl ?_
      refine a_iaddN (pc' := 313) dL_vanMinute_312 rfl ?_
      refine a_il_7_8 (pc' := 315) dL_vanMinute_313 rfl ?_
      refine a_if_eq (pc' := 318) (tgt := 322) dL_vanMinute_315 (by decide) rfl (fun c_315 => ?_) (fun c_315 => absurd (by decide) c_315)
      refine a_al_1_8 (pc' := 323) dL_vanMinute_322 rfl ?_
      refine a_il_6_8 (pc' := 325) dL_vanMinute_323 rfl ?_
      refine a_iconst (v := nI 3) (pc' := 326) dL_vanMinute_325 (by decide) rfl ?_
      refine a_iaddN (pc' := 327) dL_vanMinute_326 rfl ?_
      refine a_ialdN (pc' := 328) rfl (by omega) (by decide) dL_vanMinute_327 rfl ?_
      rw [r3]
      refine a_iastN (pc' := 329) rfl (by omega) (by decide) dL_vanMinute_328 rfl ?_
      refine a_il_4_8 (pc' := 331) dL_vanMinute_329 rfl ?_
      refine a_il_7_8 (pc' := 333) dL_vanMinute_331 rfl ?_
      refine a_if_eq (pc' := 336) (tgt := 340) dL_vanMinute_333 (by decide) rfl (fun c_333 => ?_) (fun c_333 => absurd (by decide) c_333)
      refine a_iconst (v := nI 0) (pc' := 341) dL_vanMinute_340 (by decide) rfl ?_
      refine a_iadd (pc' := 342) dL_vanMinute_341 rfl ?_
      refine a_is_4_8 (pc' := 344) dL_vanMinute_342 rfl ?_
      refine a_iN_5_8 (m := 3 * v + z + 1) (pc' := 347) dL_vanMinute_344 (nI_add _ _) rfl ?_
      refine a_goto (pc' := 226) dL_vanMinute_347 (by decide) ?_
      exact a_castS (by
        have hfb : ¬ fndB F v z (F 4) (F 5) = true := by simp [fndB, hle c_277, -Int32.not_le, -Int32.not_lt]
        rw [show fndN F v z (F 4) (F 5) acc = acc from if_neg hfb, nI_0, Int32.add_zero]) (by
        have hfb : ¬ fndB F v z (F 4) (F 5) = true := by simp [fndB, hle c_277, -Int32.not_le, -Int32.not_lt]
        rw [castZj hL1 hv hz 3 (by decide) rfl, setR_setR, hself, show find1 F v z (F 4) (F 5) = _ from if_neg hfb]) (kx (some (.inl (nI (4 + 19 * v + 5 * z)))) (some (.inl (nI (0)))))
    · refine a_al_1_8 (pc' := 281) dL_vanMinute_280 rfl ?_
      refine a_il_6_8 (pc' := 283) dL_vanMinute_281 rfl ?_
      refine a_iconst (v := nI 4) (pc' := 284) dL_vanMinute_283 (by decide) rfl ?_
      refine a_iaddN (pc' := 285) dL_vanMinute_284 rfl ?_
      refine a_ialdN (pc' := 286) rfl (by omega) (by decide) dL_vanMinute_285 rfl ?_
      rw [r4]
      refine a_al_0_8 (pc' := 287) dL_vanMinute_286 rfl ?_
      refine a_iconst (v := nI 5) (pc' := 288) dL_vanMinute_287 (by decide) rfl ?_
      refine a_ialdN (pc' := 289) rfl (by omega) (by decide) dL_vanMinute_288 rfl ?_
      rw [r5]
      refine a_icmp_lt (pc' := 292) (tgt := 305) dL_vanMinute_289 (by decide) rfl (fun c_289 => ?_) (fun c_289 => ?_)
      · refine a_iconst (v := nI 0) (pc' := 306) dL_vanMinute_305 (by decide) rfl ?_
        refine a_is_7_8 (pc' := 308) dL_vanMinute_306 rfl ?_
        refine a_al_1_8 (pc' := 309) dL_vanMinute_308 rfl ?_
        refine a_il_6_8 (pc' := 311) dL_vanMinute_309 rfl ?_
        refine a_iconst (v := nI 3) (pc' := 312) dL_vanMinute_311 (by decide) rfl ?_
        refine a_iaddN (pc' := 313) dL_vanMinute_312 rfl ?_
        refine a_il_7_8 (pc' := 315) dL_vanMinute_313 rfl ?_
        refine a_if_eq (pc' := 318) (tgt := 322) dL_vanMinute_315 (by decide) rfl (fun c_315_2 => ?_) (fun c_315_2 => absurd (by decide) c_315_2)
        refine a_al_1_8 (pc' := 323) dL_vanMinute_322 rfl ?_
        refine a_il_6_8 (pc' := 325) dL_vanMinute_323 rfl ?_
        refine a_iconst (v := nI 3) (pc' := 326) dL_vanMinute_325 (by decide) rfl ?_
        refine a_iaddN (pc' := 327) dL_vanMinute_326 rfl ?_
        refine a_ialdN (pc' := 328) rfl (by omega) (by decide) dL_vanMinute_327 rfl ?_
        rw [r3]
        refine a_iastN (pc' := 329) rfl (by omega) (by decide) dL_vanMinute_328 rfl ?_
        refine a_il_4_8 (pc' := 331) dL_vanMinute_329 rfl ?_
        refine a_il_7_8 (pc' := 333) dL_vanMinute_331 rfl ?_
        refine a_if_eq (pc' := 336) (tgt := 340) dL_vanMinute_333 (by decide) rfl (fun c_333_2 => ?_) (fun c_333_2 => absurd (by decide) c_333_2)
        refine a_iconst (v := nI 0) (pc' := 341) dL_vanMinute_340 (by decide) rfl ?_
        refine a_iadd (pc' := 342) dL_vanMinute_341 rfl ?_
        refine a_is_4_8 (pc' := 344) dL_vanMinute_342 rfl ?_
        refine a_iN_5_8 (m := 3 * v + z + 1) (pc' := 347) dL_vanMinute_344 (nI_add _ _) rfl ?_
        refine a_goto (pc' := 226) dL_vanMinute_347 (by decide) ?_
        exact a_castS (by
          have hfb : ¬ fndB F v z (F 4) (F 5) = true := by simp [fndB, c_289, -Int32.not_le, -Int32.not_lt]
          rw [show fndN F v z (F 4) (F 5) acc = acc from if_neg hfb, nI_0, Int32.add_zero]) (by
          have hfb : ¬ fndB F v z (F 4) (F 5) = true := by simp [fndB, c_289, -Int32.not_le, -Int32.not_lt]
          rw [castZj hL1 hv hz 3 (by decide) rfl, setR_setR, hself, show find1 F v z (F 4) (F 5) = _ from if_neg hfb]) (kx (some (.inl (nI (4 + 19 * v + 5 * z)))) (some (.inl (nI (0)))))
      · refine a_al_1_8 (pc' := 293) dL_vanMinute_292 rfl ?_
        refine a_il_6_8 (pc' := 295) dL_vanMinute_293 rfl ?_
        refine a_iconst (v := nI 3) (pc' := 296) dL_vanMinute_295 (by decide) rfl ?_
        refine a_iaddN (pc' := 297) dL_vanMinute_296 rfl ?_
        refine a_ialdN (pc' := 298) rfl (by omega) (by decide) dL_vanMinute_297 rfl ?_
        rw [r3]
        refine a_if_ne (pc' := 301) (tgt := 305) dL_vanMinute_298 (by decide) rfl (fun c_298 => ?_) (fun c_298 => ?_)
        · refine a_iconst (v := nI 0) (pc' := 306) dL_vanMinute_305 (by decide) rfl ?_
          refine a_is_7_8 (pc' := 308) dL_vanMinute_306 rfl ?_
          refine a_al_1_8 (pc' := 309) dL_vanMinute_308 rfl ?_
          refine a_il_6_8 (pc' := 311) dL_vanMinute_309 rfl ?_
          refine a_iconst (v := nI 3) (pc' := 312) dL_vanMinute_311 (by decide) rfl ?_
          refine a_iaddN (pc' := 313) dL_vanMinute_312 rfl ?_
          refine a_il_7_8 (pc' := 315) dL_vanMinute_313 rfl ?_
          refine a_if_eq (pc' := 318) (tgt := 322) dL_vanMinute_315 (by decide) rfl (fun c_315_3 => ?_) (fun c_315_3 => absurd (by decide) c_315_3)
          refine a_al_1_8 (pc' := 323) dL_vanMinute_322 rfl ?_
          refine a_il_6_8 (pc' := 325) dL_vanMinute_323 rfl ?_
          refine a_iconst (v := nI 3) (pc' := 326) dL_vanMinute_325 (by decide) rfl ?_
          refine a_iaddN (pc' := 327) dL_vanMinute_326 rfl ?_
          refine a_ialdN (pc' := 328) rfl (by omega) (by decide) dL_vanMinute_327 rfl ?_
          rw [r3]
          refine a_iastN (pc' := 329) rfl (by omega) (by decide) dL_vanMinute_328 rfl ?_
          refine a_il_4_8 (pc' := 331) dL_vanMinute_329 rfl ?_
          refine a_il_7_8 (pc' := 333) dL_vanMinute_331 rfl ?_
          refine a_if_eq (pc' := 336) (tgt := 340) dL_vanMinute_333 (by decide) rfl (fun c_333_3 => ?_) (fun c_333_3 => absurd (by decide) c_333_3)
          refine a_iconst (v := nI 0) (pc' := 341) dL_vanMinute_340 (by decide) rfl ?_
          refine a_iadd (pc' := 342) dL_vanMinute_341 rfl ?_
          refine a_is_4_8 (pc' := 344) dL_vanMinute_342 rfl ?_
          refine a_iN_5_8 (m := 3 * v + z + 1) (pc' := 347) dL_vanMinute_344 (nI_add _ _) rfl ?_
          refine a_goto (pc' := 226) dL_vanMinute_347 (by decide) ?_
          exact a_castS (by
            have hfb : ¬ fndB F v z (F 4) (F 5) = true := by simp [fndB, c_289, c_298, -Int32.not_le, -Int32.not_lt]
            rw [show fndN F v z (F 4) (F 5) acc = acc from if_neg hfb, nI_0, Int32.add_zero]) (by
            have hfb : ¬ fndB F v z (F 4) (F 5) = true := by simp [fndB, c_289, c_298, -Int32.not_le, -Int32.not_lt]
            rw [castZj hL1 hv hz 3 (by decide) rfl, setR_setR, hself, show find1 F v z (F 4) (F 5) = _ from if_neg hfb]) (kx (some (.inl (nI (4 + 19 * v + 5 * z)))) (some (.inl (nI (0)))))
        · refine a_iconst (v := nI 1) (pc' := 302) dL_vanMinute_301 (by decide) rfl ?_
          refine a_goto (pc' := 306) dL_vanMinute_302 (by decide) ?_
          refine a_is_7_8 (pc' := 308) dL_vanMinute_306 rfl ?_
          refine a_al_1_8 (pc' := 309) dL_vanMinute_308 rfl ?_
          refine a_il_6_8 (pc' := 311) dL_vanMinute_309 rfl ?_
          refine a_iconst (v := nI 3) (pc' := 312) dL_vanMinute_311 (by decide) rfl ?_
          refine a_iaddN (pc' := 313) dL_vanMinute_312 rfl ?_
          refine a_il_7_8 (pc' := 315) dL_vanMinute_313 rfl ?_
          refine a_if_eq (pc' := 318) (tgt := 322) dL_vanMinute_315 (by decide) rfl (fun c_315_4 => absurd c_315_4 (by decide)) (fun c_315_4 => ?_)
          refine a_iconst (v := nI 1) (pc' := 319) dL_vanMinute_318 (by decide) rfl ?_
          refine a_goto (pc' := 328) dL_vanMinute_319 (by decide) ?_
          refine a_iastN (pc' := 329) rfl (by omega) (by decide) dL_vanMinute_328 rfl ?_
          refine a_il_4_8 (pc' := 331) dL_vanMinute_329 rfl ?_
          refine a_il_7_8 (pc' := 333) dL_vanMinute_331 rfl ?_
          refine a_if_eq (pc' := 336) (tgt := 340) dL_vanMinute_333 (by decide) rfl (fun c_333_4 => absurd c_333_4 (by decide)) (fun c_333_4 => ?_)
          refine a_iconst (v := nI 1) (pc' := 337) dL_vanMinute_336 (by decide) rfl ?_
          refine a_goto (pc' := 341) dL_vanMinute_337 (by decide) ?_
          refine a_iadd (pc' := 342) dL_vanMinute_341 rfl ?_
          refine a_is_4_8 (pc' := 344) dL_vanMinute_342 rfl ?_
          refine a_iN_5_8 (m := 3 * v + z + 1) (pc' := 347) dL_vanMinute_344 (nI_add _ _) rfl ?_
          refine a_goto (pc' := 226) dL_vanMinute_347 (by decide) ?_
          exact a_castS (by
            have hfb : fndB F v z (F 4) (F 5) = true := by simp [fndB, c_289, c_298, -Int32.not_le, -Int32.not_lt]
            rw [show fndN F v z (F 4) (F 5) acc = acc + nI 1 from if_pos hfb]) (by
            have hfb : fndB F v z (F 4) (F 5) = true := by simp [fndB, c_289, c_298, -Int32.not_le, -Int32.not_lt]
            rw [castZj hL1 hv hz 3 (by decide) rfl, setR_setR, show find1 F v z (F 4) (F 5) = _ from if_pos hfb]) (kx (some (.inl (nI (4 + 19 * v + 5 * z)))) (some (.inl (nI (1)))))
  · refine a_al_1_8 (pc' := 259) dL_vanMinute_258 rfl ?_
    refine a_il_6_8 (pc' := 261) dL_vanMinute_259 rfl ?_
    refine a_iconst (v := nI 4) (pc' := 262) dL_vanMinute_261 (by decide) rfl ?_
    refine a_iaddN (pc' := 263) dL_vanMinute_262 rfl ?_
    refine a_ialdN (pc' := 264) rfl (by omega) (by decide) dL_vanMinute_263 rfl ?_
    refine a_iconst (v := nI 1) (pc' := 265) dL_vanMinute_264 (by decide) rfl ?_
    refine a_iadd (pc' := 266) dL_vanMinute_265 rfl ?_
    refine a_goto (pc' := 270) dL_vanMinute_266 (by decide) ?_
    refine a_iastN (pc' := 271) rfl (by omega) (by decide) dL_vanMinute_270 rfl ?_
    rw [castZj hL hv hz 4 (by decide) (show _ = oddN F v z (F 4) from by simp [oddN, e4, c_255])]
    refine a_al_1_8 (pc' := 272) dL_vanMinute_271 rfl ?_
    refine a_il_6_8 (pc' := 274) dL_vanMinute_272 rfl ?_
    refine a_iconst (v := nI 4) (pc' := 275) dL_vanMinute_274 (by decide) rfl ?_
    refine a_iaddN (pc' := 276) dL_vanMinute_275 rfl ?_
    refine a_ialdN (pc' := 277) rfl (by omega) (by decide) dL_vanMinute_276 rfl ?_
    rw [r4]
    refine a_if_le (pc' := 280) (tgt := 305) dL_vanMinute_277 (by decide) rfl (fun c_277_2 => ?_) (fun c_277_2 => ?_)
    · refine a_iconst (v := nI 0) (pc' := 306) dL_vanMinute_305 (by decide) rfl ?_
      refine a_is_7_8 (pc' := 308) dL_vanMinute_306 rfl ?_
      refine a_al_1_8 (pc' := 309) dL_vanMinute_308 rfl ?_
      refine a_il_6_8 (pc' := 311) dL_vanMinute_309 rfl ?_
      refine a_iconst (v := nI 3) (pc' := 312) dL_vanMinute_311 (by decide) rfl ?_
      refine a_iaddN (pc' := 313) dL_vanMinute_312 rfl ?_
      refine a_il_7_8 (pc' := 315) dL_vanMinute_313 rfl ?_
      refine a_if_eq (pc' := 318) (tgt := 322) dL_vanMinute_315 (by decide) rfl (fun c_315_5 => ?_) (fun c_315_5 => absurd (by decide) c_315_5)
      refine a_al_1_8 (pc' := 323) dL_vanMinute_322 rfl ?_
      refine a_il_6_8 (pc' := 325) dL_vanMinute_323 rfl ?_
      refine a_iconst (v := nI 3) (pc' := 326) dL_vanMinute_325 (by decide) rfl ?_
      refine a_iaddN (pc' := 327) dL_vanMinute_326 rfl ?_
      refine a_ialdN (pc' := 328) rfl (by omega) (by decide) dL_vanMinute_327 rfl ?_
      rw [r3]
      refine a_iastN (pc' := 329) rfl (by omega) (by decide) dL_vanMinute_328 rfl ?_
      refine a_il_4_8 (pc' := 331) dL_vanMinute_329 rfl ?_
      refine a_il_7_8 (pc' := 333) dL_vanMinute_331 rfl ?_
      refine a_if_eq (pc' := 336) (tgt := 340) dL_vanMinute_333 (by decide) rfl (fun c_333_5 => ?_) (fun c_333_5 => absurd (by decide) c_333_5)
      refine a_iconst (v := nI 0) (pc' := 341) dL_vanMinute_340 (by decide) rfl ?_
      refine a_iadd (pc' := 342) dL_vanMinute_341 rfl ?_
      refine a_is_4_8 (pc' := 344) dL_vanMinute_342 rfl ?_
      refine a_iN_5_8 (m := 3 * v + z + 1) (pc' := 347) dL_vanMinute_344 (nI_add _ _) rfl ?_
      refine a_goto (pc' := 226) dL_vanMinute_347 (by decide) ?_
      exact a_castS (by
        have hfb : ¬ fndB F v z (F 4) (F 5) = true := by simp [fndB, hle c_277_2, -Int32.not_le, -Int32.not_lt]
        rw [show fndN F v z (F 4) (F 5) acc = acc from if_neg hfb, nI_0, Int32.add_zero]) (by
        have hfb : ¬ fndB F v z (F 4) (F 5) = true := by simp [fndB, hle c_277_2, -Int32.not_le, -Int32.not_lt]
        rw [castZj hL1 hv hz 3 (by decide) rfl, setR_setR, hself, show find1 F v z (F 4) (F 5) = _ from if_neg hfb]) (kx (some (.inl (nI (4 + 19 * v + 5 * z)))) (some (.inl (nI (0)))))
    · refine a_al_1_8 (pc' := 281) dL_vanMinute_280 rfl ?_
      refine a_il_6_8 (pc' := 283) dL_vanMinute_281 rfl ?_
      refine a_iconst (v := nI 4) (pc' := 284) dL_vanMinute_283 (by decide) rfl ?_
      refine a_iaddN (pc' := 285) dL_vanMinute_284 rfl ?_
      refine a_ialdN (pc' := 286) rfl (by omega) (by decide) dL_vanMinute_285 rfl ?_
      rw [r4]
      refine a_al_0_8 (pc' := 287) dL_vanMinute_286 rfl ?_
      refine a_iconst (v := nI 5) (pc' := 288) dL_vanMinute_287 (by decide) rfl ?_
      refine a_ialdN (pc' := 289) rfl (by omega) (by decide) dL_vanMinute_288 rfl ?_
      rw [r5]
      refine a_icmp_lt (pc' := 292) (tgt := 305) dL_vanMinute_289 (by decide) rfl (fun c_289_2 => ?_) (fun c_289_2 => ?_)
      · refine a_iconst (v := nI 0) (pc' := 306) dL_vanMinute_305 (by decide) rfl ?_
        refine a_is_7_8 (pc' := 308) dL_vanMinute_306 rfl ?_
        refine a_al_1_8 (pc' := 309) dL_vanMinute_308 rfl ?_
        refine a_il_6_8 (pc' := 311) dL_vanMinute_309 rfl ?_
        refine a_iconst (v := nI 3) (pc' := 312) dL_vanMinute_311 (by decide) rfl ?_
        refine a_iaddN (pc' := 313) dL_vanMinute_312 rfl ?_
        refine a_il_7_8 (pc' := 315) dL_vanMinute_313 rfl ?_
        refine a_if_eq (pc' := 318) (tgt := 322) dL_vanMinute_315 (by decide) rfl (fun c_315_6 => ?_) (fun c_315_6 => absurd (by decide) c_315_6)
        refine a_al_1_8 (pc' := 323) dL_vanMinute_322 rfl ?_
        refine a_il_6_8 (pc' := 325) dL_vanMinute_323 rfl ?_
        refine a_iconst (v := nI 3) (pc' := 326) dL_vanMinute_325 (by decide) rfl ?_
        refine a_iaddN (pc' := 327) dL_vanMinute_326 rfl ?_
        refine a_ialdN (pc' := 328) rfl (by omega) (by decide) dL_vanMinute_327 rfl ?_
        rw [r3]
        refine a_iastN (pc' := 329) rfl (by omega) (by decide) dL_vanMinute_328 rfl ?_
        refine a_il_4_8 (pc' := 331) dL_vanMinute_329 rfl ?_
        refine a_il_7_8 (pc' := 333) dL_vanMinute_331 rfl ?_
        refine a_if_eq (pc' := 336) (tgt := 340) dL_vanMinute_333 (by decide) rfl (fun c_333_6 => ?_) (fun c_333_6 => absurd (by decide) c_333_6)
        refine a_iconst (v := nI 0) (pc' := 341) dL_vanMinute_340 (by decide) rfl ?_
        refine a_iadd (pc' := 342) dL_vanMinute_341 rfl ?_
        refine a_is_4_8 (pc' := 344) dL_vanMinute_342 rfl ?_
        refine a_iN_5_8 (m := 3 * v + z + 1) (pc' := 347) dL_vanMinute_344 (nI_add _ _) rfl ?_
        refine a_goto (pc' := 226) dL_vanMinute_347 (by decide) ?_
        exact a_castS (by
          have hfb : ¬ fndB F v z (F 4) (F 5) = true := by simp [fndB, c_289_2, -Int32.not_le, -Int32.not_lt]
          rw [show fndN F v z (F 4) (F 5) acc = acc from if_neg hfb, nI_0, Int32.add_zero]) (by
          have hfb : ¬ fndB F v z (F 4) (F 5) = true := by simp [fndB, c_289_2, -Int32.not_le, -Int32.not_lt]
          rw [castZj hL1 hv hz 3 (by decide) rfl, setR_setR, hself, show find1 F v z (F 4) (F 5) = _ from if_neg hfb]) (kx (some (.inl (nI (4 + 19 * v + 5 * z)))) (some (.inl (nI (0)))))
      · refine a_al_1_8 (pc' := 293) dL_vanMinute_292 rfl ?_
        refine a_il_6_8 (pc' := 295) dL_vanMinute_293 rfl ?_
        refine a_iconst (v := nI 3) (pc' := 296) dL_vanMinute_295 (by decide) rfl ?_
        refine a_iaddN (pc' := 297) dL_vanMinute_296 rfl ?_
        refine a_ialdN (pc' := 298) rfl (by omega) (by decide) dL_vanMinute_297 rfl ?_
        rw [r3]
        refine a_if_ne (pc' := 301) (tgt := 305) dL_vanMinute_298 (by decide) rfl (fun c_298_2 => ?_) (fun c_298_2 => ?_)
        · refine a_iconst (v := nI 0) (pc' := 306) dL_vanMinute_305 (by decide) rfl ?_
          refine a_is_7_8 (pc' := 308) dL_vanMinute_306 rfl ?_
          refine a_al_1_8 (pc' := 309) dL_vanMinute_308 rfl ?_
          refine a_il_6_8 (pc' := 311) dL_vanMinute_309 rfl ?_
          refine a_iconst (v := nI 3) (pc' := 312) dL_vanMinute_311 (by decide) rfl ?_
          refine a_iaddN (pc' := 313) dL_vanMinute_312 rfl ?_
          refine a_il_7_8 (pc' := 315) dL_vanMinute_313 rfl ?_
          refine a_if_eq (pc' := 318) (tgt := 322) dL_vanMinute_315 (by decide) rfl (fun c_315_7 => ?_) (fun c_315_7 => absurd (by decide) c_315_7)
          refine a_al_1_8 (pc' := 323) dL_vanMinute_322 rfl ?_
          refine a_il_6_8 (pc' := 325) dL_vanMinute_323 rfl ?_
          refine a_iconst (v := nI 3) (pc' := 326) dL_vanMinute_325 (by decide) rfl ?_
          refine a_iaddN (pc' := 327) dL_vanMinute_326 rfl ?_
          refine a_ialdN (pc' := 328) rfl (by omega) (by decide) dL_vanMinute_327 rfl ?_
          rw [r3]
          refine a_iastN (pc' := 329) rfl (by omega) (by decide) dL_vanMinute_328 rfl ?_
          refine a_il_4_8 (pc' := 331) dL_vanMinute_329 rfl ?_
          refine a_il_7_8 (pc' := 333) dL_vanMinute_331 rfl ?_
          refine a_if_eq (pc' := 336) (tgt := 340) dL_vanMinute_333 (by decide) rfl (fun c_333_7 => ?_) (fun c_333_7 => absurd (by decide) c_333_7)
          refine a_iconst (v := nI 0) (pc' := 341) dL_vanMinute_340 (by decide) rfl ?_
          refine a_iadd (pc' := 342) dL_vanMinute_341 rfl ?_
          refine a_is_4_8 (pc' := 344) dL_vanMinute_342 rfl ?_
          refine a_iN_5_8 (m := 3 * v + z + 1) (pc' := 347) dL_vanMinute_344 (nI_add _ _) rfl ?_
          refine a_goto (pc' := 226) dL_vanMinute_347 (by decide) ?_
          exact a_castS (by
            have hfb : ¬ fndB F v z (F 4) (F 5) = true := by simp [fndB, c_289_2, c_298_2, -Int32.not_le, -Int32.not_lt]
            rw [show fndN F v z (F 4) (F 5) acc = acc from if_neg hfb, nI_0, Int32.add_zero]) (by
            have hfb : ¬ fndB F v z (F 4) (F 5) = true := by simp [fndB, c_289_2, c_298_2, -Int32.not_le, -Int32.not_lt]
            rw [castZj hL1 hv hz 3 (by decide) rfl, setR_setR, hself, show find1 F v z (F 4) (F 5) = _ from if_neg hfb]) (kx (some (.inl (nI (4 + 19 * v + 5 * z)))) (some (.inl (nI (0)))))
        · refine a_iconst (v := nI 1) (pc' := 302) dL_vanMinute_301 (by decide) rfl ?_
          refine a_goto (pc' := 306) dL_vanMinute_302 (by decide) ?_
          refine a_is_7_8 (pc' := 308) dL_vanMinute_306 rfl ?_
          refine a_al_1_8 (pc' := 309) dL_vanMinute_308 rfl ?_
          refine a_il_6_8 (pc' := 311) dL_vanMinute_309 rfl ?_
          refine a_iconst (v := nI 3) (pc' := 312) dL_vanMinute_311 (by decide) rfl ?_
          refine a_iaddN (pc' := 313) dL_vanMinute_312 rfl ?_
          refine a_il_7_8 (pc' := 315) dL_vanMinute_313 rfl ?_
          refine a_if_eq (pc' := 318) (tgt := 322) dL_vanMinute_315 (by decide) rfl (fun c_315_8 => absurd c_315_8 (by decide)) (fun c_315_8 => ?_)
          refine a_iconst (v := nI 1) (pc' := 319) dL_vanMinute_318 (by decide) rfl ?_
          refine a_goto (pc' := 328) dL_vanMinute_319 (by decide) ?_
          refine a_iastN (pc' := 329) rfl (by omega) (by decide) dL_vanMinute_328 rfl ?_
          refine a_il_4_8 (pc' := 331) dL_vanMinute_329 rfl ?_
          refine a_il_7_8 (pc' := 333) dL_vanMinute_331 rfl ?_
          refine a_if_eq (pc' := 336) (tgt := 340) dL_vanMinute_333 (by decide) rfl (fun c_333_8 => absurd c_333_8 (by decide)) (fun c_333_8 => ?_)
          refine a_iconst (v := nI 1) (pc' := 337) dL_vanMinute_336 (by decide) rfl ?_
          refine a_goto (pc' := 341) dL_vanMinute_337 (by decide) ?_
          refine a_iadd (pc' := 342) dL_vanMinute_341 rfl ?_
          refine a_is_4_8 (pc' := 344) dL_vanMinute_342 rfl ?_
          refine a_iN_5_8 (m := 3 * v + z + 1) (pc' := 347) dL_vanMinute_344 (nI_add _ _) rfl ?_
          refine a_goto (pc' := 226) dL_vanMinute_347 (by decide) ?_
          exact a_castS (by
            have hfb : fndB F v z (F 4) (F 5) = true := by simp [fndB, c_289_2, c_298_2, -Int32.not_le, -Int32.not_lt]
            rw [show fndN F v z (F 4) (F 5) acc = acc + nI 1 from if_pos hfb]) (by
            have hfb : fndB F v z (F 4) (F 5) = true := by simp [fndB, c_289_2, c_298_2, -Int32.not_le, -Int32.not_lt]
            rw [castZj hL1 hv hz 3 (by decide) rfl, setR_setR, show find1 F v z (F 4) (F 5) = _ from if_pos hfb]) (kx (some (.inl (nI (4 + 19 * v + 5 * z)))) (some (.inl (nI (1)))))
set_option maxRecDepth 20000 in
set_option maxHeartbeats 4000000 in
theorem ct_L_vanMinute {v : Nat} (hv : v < 3) (M : Mm) {F : Nat → Int32} (hL : LA M F) {t T : Nat} (hg : Good F t T) : Ct yL_vanMinute cL_vanMinute 8 (some .int) 3 68 [.inr (9, 50, 6, 0), .inr (9, 51, 57, 0), .inl (nI v)] M (RI (minN F v) (setR M 51 (sh (findA (midF F v) v (F 4) (F 5))))) := by
  refine Ct.at RL rfl (by decide +kernel) (Nat.le_of_ble_eq_true rfl) [some (.inr (9, 50, 6, 0)), some (.inr (9, 51, 57, 0)), some (.inl (nI v)), none, none, none, none, none] rfl (fun G => ?_)
  refine a_bipush (v := nI 19) (pc' := 2) dL_vanMinute_0 (by decide) rfl ?_
  refine a_il_2_8 (pc' := 3) dL_vanMinute_2 rfl ?_
  refine a_imulN (pc' := 4) dL_vanMinute_3 rfl ?_
  refine a_is_3_8 (pc' := 5) dL_vanMinute_4 rfl ?_
  refine a_iconst (v := nI 0) (pc' := 6) dL_vanMinute_5 (by decide) rfl ?_
  refine a_is_4_8 (pc' := 8) dL_vanMinute_6 rfl ?_
  have hL1 := hL.set51 (F' := heatZ F v 0 (F 3)) (fun i hi => (heatZ_ne _ _ (by omega)).symm) (fun i hi => (heatZ_ne _ _ (by omega)).symm)
  have hg1 : Good (heatZ F v 0 (F 3)) t T := hg.kheatZ hv (by decide) hg.out
  have hL2 := hL1.set51 (F' := heatZ (heatZ F v 0 (F 3)) v 1 (F 3)) (fun i hi => (heatZ_ne _ _ (by omega)).symm) (fun i hi => (heatZ_ne _ _ (by omega)).symm)
  have hg2 : Good (heatZ (heatZ F v 0 (F 3)) v 1 (F 3)) t T := hg1.kheatZ hv (by decide) hg.out
  have hL3 := hL2.set51 (F' := heatA F v (F 3)) (fun i hi => (heatZ_ne _ _ (by omega)).symm) (fun i hi => (heatZ_ne _ _ (by omega)).symm)
  have f3 : heatZ F v 0 (F 3) 3 = F 3 := heatZ_ne _ _ (by omega)
  have f32 : heatZ (heatZ F v 0 (F 3)) v 1 (F 3) 3 = F 3 := (heatZ_ne _ _ (by omega)).trans f3
  refine lb_L_heata hv (z := 0) (by decide) _ _ _ _ hL hg (fun x5 x6 x7 => ?_)
  refine lb_L_heata hv (z := 1) (by decide) _ _ _ _ hL1 hg1 (fun x5 x6 x7 => ?_)
  rw [f3]
  refine lb_L_heatb hv (z := 2) rfl _ _ _ _ hL2 hg2 (fun x5 x6 x7 => ?_)
  rw [f32, show heatZ (heatZ (heatZ F v 0 (F 3)) v 1 (F 3)) v 2 (F 3) = heatA F v (F 3) from rfl]
  refine a_il_4_8 (pc' := 10) dL_vanMinute_8 rfl ?_
  refine a_iconst (v := nI 3) (pc' := 11) dL_vanMinute_10 (by decide) rfl ?_
  refine a_icmp_ge (pc' := 14) (tgt := 156) dL_vanMinute_11 (by decide) rfl (fun c_11 => ?_) (fun c_11 => absurd (by decide) c_11)
  refine a_iconst (v := nI 0) (pc' := 157) dL_vanMinute_156 (by decide) rfl ?_
  refine a_is_4_8 (pc' := 159) dL_vanMinute_157 rfl ?_
  have hL4 := hL3.set51 (F' := mix1 (heatA F v (F 3)) v 0) (fun i hi => (mix1_ne _ (by omega) (by omega)).symm) (fun i hi => (mix1_ne _ (by omega) (by omega)).symm)
  have hL5 := hL4.set51 (F' := midF F v) (fun i hi => (mix1_ne _ (by omega) (by omega)).symm) (fun i hi => (mix1_ne _ (by omega) (by omega)).symm)
  refine lb_L_mix hv (z := 0) (by decide) _ _ _ _ hL3 (fun x5 x6 => ?_)
  refine lb_L_mix hv (z := 1) (by decide) _ _ _ _ hL4 (fun x5 x6 => ?_)
  rw [show mix1 (mix1 (heatA F v (F 3)) v 0) v 1 = midF F v from rfl]
  refine a_il_4_8 (pc' := 161) dL_vanMinute_159 rfl ?_
  refine a_iconst (v := nI 2) (pc' := 162) dL_vanMinute_161 (by decide) rfl ?_
  refine a_icmp_ge (pc' := 165) (tgt := 218) dL_vanMinute_162 (by decide) rfl (fun c_162 => ?_) (fun c_162 => absurd (by decide) c_162)
  refine a_iconst (v := nI 0) (pc' := 219) dL_vanMinute_218 (by decide) rfl ?_
  refine a_is_4_8 (pc' := 221) dL_vanMinute_219 rfl ?_
  refine a_iconst (v := nI 3) (pc' := 222) dL_vanMinute_221 (by decide) rfl ?_
  refine a_il_2_8 (pc' := 223) dL_vanMinute_222 rfl ?_
  refine a_imulN (pc' := 224) dL_vanMinute_223 rfl ?_
  refine a_is_5_8 (pc' := 226) dL_vanMinute_224 rfl ?_
  have hgm : Good (midF F v) t T := hg.kmid hv
  have m4 : midF F v 4 = F 4 := midF_lo _ (by decide)
  have m5 : midF F v 5 = F 5 := midF_lo _ (by decide)
  have hb0 : ∀ z, z < 3 → bt (-1000) 1000 (rdg (midF F v) (10 + 19 * v + 5 * z)) := fun z hz => hgm.rdg hv hz
  have k4 : ∀ (G : Nat → Int32) (z : Nat) (D P : Int32), find1 G v z D P 4 = G 4 := fun G z D P => find1_ne _ _ _ (by omega) (by omega)
  have k5 : ∀ (G : Nat → Int32) (z : Nat) (D P : Int32), find1 G v z D P 5 = G 5 := fun G z D P => find1_ne _ _ _ (by omega) (by omega)
  have hL6 := hL5.set51 (F' := find1 (midF F v) v 0 (F 4) (F 5)) (fun i hi => (find1_ne _ _ _ (by omega) (by omega)).symm) (fun i hi => (find1_ne _ _ _ (by omega) (by omega)).symm)
  have hg6 : Good (find1 (midF F v) v 0 (F 4) (F 5)) t T := hgm.kfind1 hv (by decide)
  have hL7 := hL6.set51 (F' := find1 (find1 (midF F v) v 0 (F 4) (F 5)) v 1 (F 4) (F 5)) (fun i hi => (find1_ne _ _ _ (by omega) (by omega)).symm) (fun i hi => (find1_ne _ _ _ (by omega) (by omega)).symm)
  have hg7 : Good (find1 (find1 (midF F v) v 0 (F 4) (F 5)) v 1 (F 4) (F 5)) t T := hg6.kfind1 hv (by decide)
  refine lb_L_find hv (z := 0) (by decide) _ _ _ _ hL5 hb0 (by rw [m5]; exact hg.pat) (fun x6 x7 => ?_)
  rw [m4, m5]
  refine lb_L_find hv (z := 1) (by decide) _ _ _ _ hL6 (fun z hz => hg6.rdg hv hz) hg6.pat (fun x6 x7 => ?_)
  rw [k4, k5, m4, m5]
  refine lb_L_find hv (z := 2) (by decide) _ _ _ _ hL7 (fun z hz => hg7.rdg hv hz) hg7.pat (fun x6 x7 => ?_)
  rw [k4, k5, k4, k5, m4, m5]
  refine a_il_5_8 (pc' := 228) dL_vanMinute_226 rfl ?_
  refine a_iconst (v := nI 3) (pc' := 229) dL_vanMinute_228 (by decide) rfl ?_
  refine a_il_2_8 (pc' := 230) dL_vanMinute_229 rfl ?_
  refine a_imulN (pc' := 231) dL_vanMinute_230 rfl ?_
  refine a_iconst (v := nI 3) (pc' := 232) dL_vanMinute_231 (by decide) rfl ?_
  refine a_iaddN (pc' := 233) dL_vanMinute_232 rfl ?_
  refine a_icmp_ge (pc' := 236) (tgt := 350) dL_vanMinute_233 (by decide) rfl (fun c_233 => ?_) (fun c_233 => absurd (nI_le (by omega) (by omega)) c_233)
  refine a_il_4_8 (pc' := 352) dL_vanMinute_350 rfl ?_
  refine a_iret dL_vanMinute_352 rfl rfl ?_
  refine fIM rfl ?_
  simp only [setR_setR]
  rfl
