def dtb (F : Nat → Int32) (s : Int32) (np : Nat) : Bool := decide (valL F s np 0 (nI 0) = 0)
def dtD (F : Nat → Int32) (s : Int32) (np : Nat) : Int32 := if valL F s np 0 (nI 0) = 0 then bitL s 12 0 (nI 0) else valL F s np 0 (nI 0)
def mdFF (F : Nat → Int32) (s c : Int32) (np : Nat) : (Nat → Int32) × Int32 := (dsF s c (dtD F s np) (dtb F s np) np 0 F, dsN s c (dtD F s np) (dtb F s np) np 0 F c)
def mdF (F : Nat → Int32) (s c : Int32) (np : Nat) : Nat → Int32 := dgF s np 0 (mdFF F s c np).1 (mdFF F s c np).2
def mdG (F : Nat → Int32) (s c : Int32) (np : Nat) : Int32 := dgN s np 0 (mdFF F s c np).1 (mdFF F s c np).2 (nI 0)
def mdtR (F : Nat → Int32) (s c : Int32) : Int32 := if dtB F s c then (if mayL F s (npF F) 0 true then mdG F s c (npF F) else (-100002)) else (-100001)
theorem lt1_0 (s : Int32) : (s < nI 1) = (s ≤ 0) := by
  refine propext ?_
  rw [Int32.lt_iff_toInt_lt, Int32.le_iff_toInt_le, i1, show (0 : Int32).toInt = 0 from rfl]
  omega
theorem dsF_lo (s c D : Int32) (b : Bool) {i : Nat} (hi : i < 63) : ∀ {n p : Nat} {F : Nat → Int32}, dsF s c D b n p F i = F i := by
  intro n
  induction n with
  | zero => intro p F; rfl
  | succ n ih =>
    intro p F
    unfold dsF
    split
    · rw [ih]; unfold ds1; rw [upd_at, if_neg (by omega), upd_at, if_neg (by omega)]
    · exact ih
theorem shl1 : ∀ p : Nat, p < 13 → nI 1 <<< (nI p &&& 31) = nI (2 ^ p) := by decide
/-- a set of pallets, as a number -/
theorem dt_set {F : Nat → Int32} {s c : Int32} {np : Nat} (h1 : F 1 = nI np) (hm : np ≤ 12) (h : dtB F s c = true) : ∃ j, 1 ≤ j ∧ j < 2 ^ np ∧ s = nI j := by
  simp only [dtB, Bool.and_eq_true, Bool.not_eq_true', decide_eq_false_iff_not] at h
  obtain ⟨j, hj1, hj, rfl⟩ := nlt1 h.1.1
  rw [h1, shl1 np (by omega)] at h
  refine ⟨j, hj1, ?_, rfl⟩
  have h2 : 2 ^ np ≤ 2 ^ 12 := Nat.pow_le_pow_right (by decide) hm
  rcases Nat.lt_or_ge j (2 ^ np) with q | q
  · exact q
  · exact absurd (nI_le q hj) h.1.2
set_option maxRecDepth 20000 in
theorem bit_nz64 : ∀ a : Nat, a < 64 → ∀ b : Nat, b < 64 → 1 ≤ 64 * a + b → ¬ bitL (nI (64 * a + b)) 12 0 (nI 0) = 0 := by decide +kernel
theorem bit_nz' {j : Nat} (h1 : 1 ≤ j) (h : j < 4096) : ¬ bitL (nI j) 12 0 (nI 0) = 0 := by
  have := bit_nz64 (j / 64) (by omega) (j % 64) (by omega)
  rw [show 64 * (j / 64) + j % 64 = j by omega] at this
  exact this h1
set_option maxRecDepth 20000 in
set_option maxHeartbeats 4000000 in
theorem ct_X7_detour {np k : Nat} (hm : np ≤ 12) (hk : k ≤ 6) (s c : Int32) (M : Mm) (h1 : M 50 1 = nI np) (h6 : M 60 0 = nI k) : Ct yX7_detour cX7_detour 9 (some .int) 2 42 [.inr (7, 0, 0, 0), .inl s, .inl c] M (RI (mdtR (M 50) s c) (mE M k (dtB (M 50) s c && mayL (M 50) s (npF (M 50)) 0 true) (mdF (M 50) s c (npF (M 50))))) := by
  have hnp : npF (M 50) = np := by unfold npF; rw [h1]; exact nI_clamp (by omega)
  refine Ct.at RX7 rfl (by decide +kernel) (Nat.le_of_ble_eq_true rfl) [some (.inr (7, 0, 0, 0)), some (.inl s), some (.inl c), none, none, none, none, none, none] rfl (fun G => ?_)
  refine a_il_1_9 (pc' := 1) dX7_detour_0 rfl ?_
  refine a_if_le (pc' := 4) (tgt := 27) dX7_detour_1 (by decide) rfl (fun c_1 => ?_) (fun c_1 => ?_)
  · refine a_ldc (pc' := 29) dX7_detour_27 cn_X7_92 rfl ?_
    refine a_iret dX7_detour_29 rfl rfl ?_
    have hdt : dtB (M 50) s c = false := by simp [dtB, lt1_0, c_1, -Int32.not_le, -Int32.not_lt]
    exact fIM (by simp [mdtR, hdt]) (by simp [mE, hdt])
  · refine a_il_1_9 (pc' := 5) dX7_detour_4 rfl ?_
    refine a_iconst (v := nI 1) (pc' := 6) dX7_detour_5 (by decide) rfl ?_
    refine a_al_0_9 (pc' := 7) dX7_detour_6 rfl ?_
    refine gf_7_0 (pc' := 10) fl_X7_7 dX7_detour_7 rfl ?_
    refine a_iconst (v := nI 1) (pc' := 11) dX7_detour_10 (by decide) rfl ?_
    refine a_ialdN (pc' := 12) rfl (by omega) (by decide) dX7_detour_11 rfl ?_
    refine a_ishl (pc' := 13) dX7_detour_12 rfl ?_
    refine a_icmp_ge (pc' := 16) (tgt := 27) dX7_detour_13 (by decide) rfl (fun c_13 => ?_) (fun c_13 => ?_)
    · refine a_ldc (pc' := 29) dX7_detour_27 cn_X7_92 rfl ?_
      refine a_iret dX7_detour_29 rfl rfl ?_
      have hdt : dtB (M 50) s c = false := by simp [dtB, lt1_0, c_1, c_13, -Int32.not_le, -Int32.not_lt]
      exact fIM (by simp [mdtR, hdt]) (by simp [mE, hdt])
    · refine a_il_2_9 (pc' := 17) dX7_detour_16 rfl ?_
      refine a_iconst (v := nI 0) (pc' := 18) dX7_detour_17 (by decide) rfl ?_
      refine a_sipush (v := nI 9999) (pc' := 21) dX7_detour_18 (by decide) rfl ?_
      refine k_SI (pc' := 24) (ct_X7_in _ _ _ _) cw_X7_43 ms_X7_in rfl (by decide) (by decide) (Nat.le_of_ble_eq_true rfl) rfl dX7_detour_21 rfl ?_
      refine a_ifB_ne (pc' := 27) (tgt := 30) dX7_detour_24 (by decide) rfl (fun c_24 => ?_) (fun c_24 => ?_)
      · refine a_iconst (v := nI 0) (pc' := 31) dX7_detour_30 (by decide) rfl ?_
        refine a_is_3_9 (pc' := 32) dX7_detour_31 rfl ?_
        refine a_iconst (v := nI 1) (pc' := 33) dX7_detour_32 (by decide) rfl ?_
        refine a_is_4_9 (pc' := 35) dX7_detour_33 rfl ?_
        refine a_iconst (v := nI 0) (pc' := 36) dX7_detour_35 (by decide) rfl ?_
        refine a_is_5_9 (pc' := 38) dX7_detour_36 rfl ?_
        have hdt : dtB (M 50) s c = true := by simp [dtB, lt1_0, c_1, c_13, c_24, -Int32.not_le, -Int32.not_lt]
        have hs := dt_set h1 hm hdt
        obtain ⟨js, hs1, hs2, hsj⟩ := hs
        have hbz : ¬ bitL s 12 0 (nI 0) = 0 := by
          have h2 : 2 ^ np ≤ 2 ^ 12 := Nat.pow_le_pow_right (by decide) hm
          rw [hsj]; exact bit_nz' hs1 (by omega)
        refine lp_X7_detour1 hm s c _ _ M h1 np 0 (nI 0) true _ (by omega) (fun x6 => ?_)
        refine a_il_4_9 (pc' := 121) dX7_detour_119 rfl ?_
        refine a_ifB_ne (pc' := 124) (tgt := 127) dX7_detour_121 (by decide) rfl (fun c_121 => ?_) (fun c_121 => ?_)
        · refine a_al_0_9 (pc' := 128) dX7_detour_127 rfl ?_
          refine k_VV (pc' := 131) (ct_X7_hold _) cw_X7_117 mi_X7_hold se_X7_hold rfl rfl rfl rfl (by decide) (by decide) (Nat.le_of_ble_eq_true rfl) rfl dX7_detour_128 rfl ?_
          refine a_il_3_9 (pc' := 132) dX7_detour_131 rfl ?_
          refine a_if_ne (pc' := 135) (tgt := 139) dX7_detour_132 (by decide) rfl (fun c_132 => ?_) (fun c_132 => ?_)
          · refine a_iconst (v := nI 0) (pc' := 140) dX7_detour_139 (by decide) rfl ?_
            refine a_is_5_9 (pc' := 142) dX7_detour_140 rfl ?_
            refine a_il_5_9 (pc' := 144) dX7_detour_142 rfl ?_
            refine a_if_eq (pc' := 147) (tgt := 154) dX7_detour_144 (by decide) rfl (fun c_144 => ?_) (fun c_144 => absurd (by decide) c_144)
            refine a_il_3_9 (pc' := 155) dX7_detour_154 rfl ?_
            refine a_is_3_9 (pc' := 156) dX7_detour_155 rfl ?_
            refine a_il_2_9 (pc' := 157) dX7_detour_156 rfl ?_
            refine a_is_6_9 (pc' := 159) dX7_detour_157 rfl ?_
            refine a_iconst (v := nI 0) (pc' := 160) dX7_detour_159 (by decide) rfl ?_
            refine a_is_7_9 (pc' := 162) dX7_detour_160 rfl ?_
            have hb : dtb (M 50) s np = false := decide_eq_false c_132
            have hDD : dtD (M 50) s np = valL (M 50) s np 0 (nI 0) := if_neg c_132
            refine lp_X7_detour2 hm s c (valL (M 50) s np 0 (nI 0)) c_132 false _ np 0 (hM M) c _ (by omega) (by rw [hM_ne _ (by decide)]; exact h1) (fun x8 => ?_)
            rw [hM_ne _ (show (50 : Nat) ≠ 52 by decide)]
            refine a_iconst (v := nI 0) (pc' := 247) dX7_detour_246 (by decide) rfl ?_
            refine a_is_7_9 (pc' := 249) dX7_detour_247 rfl ?_
            refine a_iconst (v := nI 0) (pc' := 250) dX7_detour_249 (by decide) rfl ?_
            refine a_is_8_9 (pc' := 252) dX7_detour_250 rfl ?_
            refine lp_X7_detour3 hm hk s c _ _ _ np 0 _ _ _ (by omega) (by rw [setR_same, dsF_lo _ _ _ _ (by decide)]; exact h1) (by rw [setR_ne _ _ (by decide), hM_ne _ (by decide)]; exact h6) ?_
            rw [setR_same, setR_setR]
            refine fIM ?_ ?_
            · simp only [mdtR, hdt, hnp, c_121, if_true, mdG, mdFF, hb, hDD]
            · rw [mE, if_pos (by rw [hdt, hnp, c_121]; rfl), hnp]
              simp only [mdF, mdG, mdFF, hb, hDD]
          · refine a_iconst (v := nI 1) (pc' := 136) dX7_detour_135 (by decide) rfl ?_
            refine a_goto (pc' := 140) dX7_detour_136 (by decide) ?_
            refine a_is_5_9 (pc' := 142) dX7_detour_140 rfl ?_
            refine a_il_5_9 (pc' := 144) dX7_detour_142 rfl ?_
            refine a_if_eq (pc' := 147) (tgt := 154) dX7_detour_144 (by decide) rfl (fun c_144_2 => absurd c_144_2 (by decide)) (fun c_144_2 => ?_)
            refine a_il_1_9 (pc' := 148) dX7_detour_147 rfl ?_
            refine k_SI (pc' := 151) (ct_X7_bits _ _) cw_X7_97 ms_X7_bits rfl (by decide) (by decide) (Nat.le_of_ble_eq_true rfl) rfl dX7_detour_148 rfl ?_
            refine a_goto (pc' := 155) dX7_detour_151 (by decide) ?_
            refine a_is_3_9 (pc' := 156) dX7_detour_155 rfl ?_
            refine a_il_2_9 (pc' := 157) dX7_detour_156 rfl ?_
            refine a_is_6_9 (pc' := 159) dX7_detour_157 rfl ?_
            refine a_iconst (v := nI 0) (pc' := 160) dX7_detour_159 (by decide) rfl ?_
            refine a_is_7_9 (pc' := 162) dX7_detour_160 rfl ?_
            have hb : dtb (M 50) s np = true := decide_eq_true c_132
            have hDD : dtD (M 50) s np = bitL s 12 0 (nI 0) := if_pos c_132
            refine lp_X7_detour2 hm s c (bitL s 12 0 (nI 0)) hbz true _ np 0 (hM M) c _ (by omega) (by rw [hM_ne _ (by decide)]; exact h1) (fun x8 => ?_)
            rw [hM_ne _ (show (50 : Nat) ≠ 52 by decide)]
            refine a_iconst (v := nI 0) (pc' := 247) dX7_detour_246 (by decide) rfl ?_
            refine a_is_7_9 (pc' := 249) dX7_detour_247 rfl ?_
            refine a_iconst (v := nI 0) (pc' := 250) dX7_detour_249 (by decide) rfl ?_
            refine a_is_8_9 (pc' := 252) dX7_detour_250 rfl ?_
            refine lp_X7_detour3 hm hk s c _ _ _ np 0 _ _ _ (by omega) (by rw [setR_same, dsF_lo _ _ _ _ (by decide)]; exact h1) (by rw [setR_ne _ _ (by decide), hM_ne _ (by decide)]; exact h6) ?_
            rw [setR_same, setR_setR]
            refine fIM ?_ ?_
            · simp only [mdtR, hdt, hnp, c_121, if_true, mdG, mdFF, hb, hDD]
            · rw [mE, if_pos (by rw [hdt, hnp, c_121]; rfl), hnp]
              simp only [mdF, mdG, mdFF, hb, hDD]
        · refine a_ldc (pc' := 126) dX7_detour_124 cn_X7_93 rfl ?_
          refine a_iret dX7_detour_126 rfl rfl ?_
          exact fIM (by simp [mdtR, hdt, hnp, c_121]) (by simp [mE, hnp, c_121])
      · refine a_ldc (pc' := 29) dX7_detour_27 cn_X7_92 rfl ?_
        refine a_iret dX7_detour_29 rfl rfl ?_
        have hdt : dtB (M 50) s c = false := by simp [dtB, lt1_0, c_1, c_13, c_24, -Int32.not_le, -Int32.not_lt]
        exact fIM (by simp [mdtR, hdt]) (by simp [mE, hdt])
