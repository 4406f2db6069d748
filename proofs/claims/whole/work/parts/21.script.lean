def apB (n : Nat) (x : Int32) : Bool := inn x (nI 0) (nI 255) && decide (nI n < nI 80)
def apR (n : Nat) (x : Int32) : Int32 := if inn x (nI 0) (nI 255) then (if nI n < nI 80 then nI (n + 1) else (-100003)) else (-100001)
def apM (M : Mm) (n : Nat) (x : Int32) : Mm := if apB n x then setR (setR M 22 (upd (M 22) n x)) 21 (upd (M 21) 0 (nI (n + 1))) else M
theorem upd_upd (F : Nat → Int32) (i : Nat) (x y : Int32) : upd (upd F i x) i y = upd F i y := by
  funext j; simp only [upd]; split <;> rfl
theorem u1 (F : Nat → Int32) (x : Int32) : upd F 1 x 1 = x := rfl
theorem u0 (F : Nat → Int32) (x : Int32) : upd F 1 x 0 = F 0 := rfl
theorem u2 (F : Nat → Int32) (x : Int32) : upd F 1 x 2 = F 2 := rfl
def rdV (T : Nat → Int32) (n a : Nat) : Int32 := if rnOK T n (skp T n a) then nI (rnV T n (skp T n a)) else (-1)
def rdE (T : Nat → Int32) (n a : Nat) : Nat := if rnOK T n (skp T n a) then rnE T n (skp T n a) else skp T n a
theorem i2c_s {j : Nat} (h : j < 65536) : ((nI j).toUInt32 % 65536).toInt32 = nI j := by
  rw [pk_char, pk_tn (by omega), Nat.mod_eq_of_lt h]
set_option maxRecDepth 20000 in
set_option maxHeartbeats 4000000 in
theorem ct_X2_isLetter (c : Int32) (M : Mm) : Ct yX2_isLetter cX2_isLetter 1 (some .boolean) 0 0 [.inl c] M (RT (letB c) M) := by
  refine Ct.at RX2 rfl (by decide +kernel) (Nat.le_of_ble_eq_true rfl) [some (.inl c)] rfl (fun G => ?_)
  refine a_il_0_1 (pc' := 1) dX2_isLetter_0 rfl ?_
  refine a_bipush (v := nI 111) (pc' := 3) dX2_isLetter_1 (by decide) rfl ?_
  refine a_icmp_eq (pc' := 6) (tgt := 30) dX2_isLetter_3 (by decide) rfl (fun c_3 => ?_) (fun c_3 => ?_)
  · refine a_iconst (v := nI 1) (pc' := 31) dX2_isLetter_30 (by decide) rfl ?_
    refine a_goto (pc' := 35) dX2_isLetter_31 (by decide) ?_
    refine a_iret dX2_isLetter_35 rfl rfl ?_
    exact fB1 (by simp [letB, c_3])
  · refine a_il_0_1 (pc' := 7) dX2_isLetter_6 rfl ?_
    refine a_bipush (v := nI 99) (pc' := 9) dX2_isLetter_7 (by decide) rfl ?_
    refine a_icmp_eq (pc' := 12) (tgt := 30) dX2_isLetter_9 (by decide) rfl (fun c_9 => ?_) (fun c_9 => ?_)
    · refine a_iconst (v := nI 1) (pc' := 31) dX2_isLetter_30 (by decide) rfl ?_
      refine a_goto (pc' := 35) dX2_isLetter_31 (by decide) ?_
      refine a_iret dX2_isLetter_35 rfl rfl ?_
      exact fB1 (by simp [letB, c_3, c_9])
    · refine a_il_0_1 (pc' := 13) dX2_isLetter_12 rfl ?_
      refine a_bipush (v := nI 119) (pc' := 15) dX2_isLetter_13 (by decide) rfl ?_
      refine a_icmp_eq (pc' := 18) (tgt := 30) dX2_isLetter_15 (by decide) rfl (fun c_15 => ?_) (fun c_15 => ?_)
      · refine a_iconst (v := nI 1) (pc' := 31) dX2_isLetter_30 (by decide) rfl ?_
        refine a_goto (pc' := 35) dX2_isLetter_31 (by decide) ?_
        refine a_iret dX2_isLetter_35 rfl rfl ?_
        exact fB1 (by simp [letB, c_3, c_9, c_15])
      · refine a_il_0_1 (pc' := 19) dX2_isLetter_18 rfl ?_
        refine a_bipush (v := nI 100) (pc' := 21) dX2_isLetter_19 (by decide) rfl ?_
        refine a_icmp_eq (pc' := 24) (tgt := 30) dX2_isLetter_21 (by decide) rfl (fun c_21 => ?_) (fun c_21 => ?_)
        · refine a_iconst (v := nI 1) (pc' := 31) dX2_isLetter_30 (by decide) rfl ?_
          refine a_goto (pc' := 35) dX2_isLetter_31 (by decide) ?_
          refine a_iret dX2_isLetter_35 rfl rfl ?_
          exact fB1 (by simp [letB, c_3, c_9, c_15, c_21])
        · refine a_il_0_1 (pc' := 25) dX2_isLetter_24 rfl ?_
          refine a_bipush (v := nI 114) (pc' := 27) dX2_isLetter_25 (by decide) rfl ?_
          refine a_icmp_ne (pc' := 30) (tgt := 34) dX2_isLetter_27 (by decide) rfl (fun c_27 => ?_) (fun c_27 => ?_)
          · refine a_iconst (v := nI 0) (pc' := 35) dX2_isLetter_34 (by decide) rfl ?_
            refine a_iret dX2_isLetter_35 rfl rfl ?_
            exact fB0 (by simp [letB, c_3, c_9, c_15, c_21, c_27])
          · refine a_iconst (v := nI 1) (pc' := 31) dX2_isLetter_30 (by decide) rfl ?_
            refine a_goto (pc' := 35) dX2_isLetter_31 (by decide) ?_
            refine a_iret dX2_isLetter_35 rfl rfl ?_
            exact fB1 (by simp [letB, c_3, c_9, c_15, c_21, c_27])
set_option maxRecDepth 20000 in
set_option maxHeartbeats 4000000 in
theorem ct_X2_isDigit (c : Int32) (M : Mm) : Ct yX2_isDigit cX2_isDigit 1 (some .boolean) 0 0 [.inl c] M (RT (inn c (nI 48) (nI 57)) M) := by
  refine Ct.at RX2 rfl (by decide +kernel) (Nat.le_of_ble_eq_true rfl) [some (.inl c)] rfl (fun G => ?_)
  refine a_il_0_1 (pc' := 1) dX2_isDigit_0 rfl ?_
  refine a_bipush (v := nI 48) (pc' := 3) dX2_isDigit_1 (by decide) rfl ?_
  refine a_icmp_lt (pc' := 6) (tgt := 16) dX2_isDigit_3 (by decide) rfl (fun c_3 => ?_) (fun c_3 => ?_)
  · refine a_iconst (v := nI 0) (pc' := 17) dX2_isDigit_16 (by decide) rfl ?_
    refine a_iret dX2_isDigit_17 rfl rfl ?_
    exact fB0 (by simp [inn, c_3])
  · refine a_il_0_1 (pc' := 7) dX2_isDigit_6 rfl ?_
    refine a_bipush (v := nI 57) (pc' := 9) dX2_isDigit_7 (by decide) rfl ?_
    refine a_icmp_gt (pc' := 12) (tgt := 16) dX2_isDigit_9 (by decide) rfl (fun c_9 => ?_) (fun c_9 => ?_)
    · refine a_iconst (v := nI 0) (pc' := 17) dX2_isDigit_16 (by decide) rfl ?_
      refine a_iret dX2_isDigit_17 rfl rfl ?_
      exact fB0 (by simp [inn, c_3, c_9])
    · refine a_iconst (v := nI 1) (pc' := 13) dX2_isDigit_12 (by decide) rfl ?_
      refine a_goto (pc' := 17) dX2_isDigit_13 (by decide) ?_
      refine a_iret dX2_isDigit_17 rfl rfl ?_
      exact fB1 (by simp [inn, c_3, c_9])
set_option maxRecDepth 20000 in
set_option maxHeartbeats 4000000 in
theorem ct_X2_append {n : Nat} (hn : n ≤ 80) (x : Int32) (M : Mm) (hl : M 21 0 = nI n) : Ct yX2_append cX2_append 2 (some .int) 1 22 [.inr (2, 0, 0, 0), .inl x] M (RI (apR n x) (apM M n x)) := by
  refine Ct.at RX2 rfl (by decide +kernel) (Nat.le_of_ble_eq_true rfl) [some (.inr (2, 0, 0, 0)), some (.inl x)] rfl (fun G => ?_)
  refine a_il_1_2 (pc' := 1) dX2_append_0 rfl ?_
  refine a_iconst (v := nI 0) (pc' := 2) dX2_append_1 (by decide) rfl ?_
  refine a_sipush (v := nI 255) (pc' := 5) dX2_append_2 (by decide) rfl ?_
  refine k_NI (pc' := 8) (ct_X6_isWithin _ _ _ _) cw_X2_25 ms_X6_isWithin rfl (by decide) (by decide) (Nat.le_of_ble_eq_true rfl) rfl dX2_append_5 rfl ?_
  refine a_ifB_ne (pc' := 11) (tgt := 14) dX2_append_8 (by decide) rfl (fun c_8 => ?_) (fun c_8 => ?_)
  · obtain ⟨j, -, hj, rfl⟩ := inn_nI (a := 0) (b := 255) c_8 (by decide)
    refine a_al_0_2 (pc' := 15) dX2_append_14 rfl ?_
    refine gf_2_1 (pc' := 18) fl_X2_30 dX2_append_15 rfl ?_
    refine a_bipush (v := nI 80) (pc' := 20) dX2_append_18 (by decide) rfl ?_
    refine a_icmp_lt (pc' := 23) (tgt := 26) dX2_append_20 (by decide) rfl (fun c_20 => ?_) (fun c_20 => ?_)
    · have hn2 : n < 80 := (nI_ltI (by omega) (by decide)).mp (by rw [← hl]; exact c_20)
      refine a_al_0_2 (pc' := 27) dX2_append_26 rfl ?_
      refine gf_2_0 (pc' := 30) fl_X2_9 dX2_append_27 rfl ?_
      refine a_al_0_2 (pc' := 31) dX2_append_30 rfl ?_
      refine gf_2_1 (pc' := 34) fl_X2_30 dX2_append_31 rfl ?_
      rw [hl]
      refine a_il_1_2 (pc' := 35) dX2_append_34 rfl ?_
      refine a_i2c (pc' := 36) dX2_append_35 rfl ?_
      rw [show ((nI j).toUInt32 % 65536).toInt32 = nI j from i2c_s (by omega)]
      refine a_castN (pc' := 37) (by omega) (pk_charN (by omega)).1 dX2_append_36 rfl ?_
      refine a_al_0_2 (pc' := 38) dX2_append_37 rfl ?_
      refine a_dup (pc' := 39) dX2_append_38 rfl ?_
      refine gf_2_1 (pc' := 42) fl_X2_30 dX2_append_39 rfl ?_
      refine a_iconst (v := nI 1) (pc' := 43) dX2_append_42 (by decide) rfl ?_
      refine a_iadd (pc' := 44) dX2_append_43 rfl ?_
      refine pf_2_1 (pc' := 47) fl_X2_30 dX2_append_44 rfl ?_
      refine a_al_0_2 (pc' := 48) dX2_append_47 rfl ?_
      refine gf_2_1 (pc' := 51) fl_X2_30 dX2_append_48 rfl ?_
      refine a_iret dX2_append_51 rfl rfl ?_
      rw [hl] at c_20
      refine fIM ?_ ?_
      · simp [apR, c_8, wr_rne, wr_eq, setR_same, upd_at, hl, nI_add, c_20]
      · simp [apM, apB, c_8, wr_eq, setR_same, setR_ne, upd_at, hl, nI_add, c_20]
    · refine a_ldc (pc' := 25) dX2_append_23 cn_X2_34 rfl ?_
      refine a_iret dX2_append_25 rfl rfl ?_
      rw [hl] at c_20
      refine fIM ?_ ?_
      · simp [apR, c_8, c_20, -Int32.not_le, -Int32.not_lt]
      · simp [apM, apB, c_8, c_20, -Int32.not_le, -Int32.not_lt]
  · refine a_ldc (pc' := 13) dX2_append_11 cn_X2_29 rfl ?_
    refine a_iret dX2_append_13 rfl rfl ?_
    refine fIM ?_ ?_
    · simp [apR, c_8]
    · simp [apM, apB, c_8]
set_option maxRecDepth 20000 in
set_option maxHeartbeats 4000000 in
theorem lp_X2_skip {G : Gl} {Φ : Option OV → Mm → Prop} {n : Nat} (hn : n ≤ 80) : ∀ (m a : Nat) (M : Mm), a + m = n → M 21 0 = nI n → M 21 1 = nI a → Φ none (setR M 21 (upd (M 21) 1 (nI (skipL (M 22) m a)))) → AW G cX2_skipSpaces RX2 1 0 0 none Φ 0 [some (.inr (2, 0, 0, 0))] [] M := by
  intro m
  induction m with
  | zero =>
    intro a M he hl ha hΦ
    refine a_al_0_1 (pc' := 1) dX2_skipSpaces_0 rfl ?_
    refine gf_2_2 (pc' := 4) fl_X2_35 dX2_skipSpaces_1 rfl ?_
    refine a_al_0_1 (pc' := 5) dX2_skipSpaces_4 rfl ?_
    refine gf_2_1 (pc' := 8) fl_X2_30 dX2_skipSpaces_5 rfl ?_
    rw [ha, hl]
    refine a_icmp_ge (pc' := 11) (tgt := 38) dX2_skipSpaces_8 (by decide) rfl (fun c_8 => ?_) (fun c_8 => absurd (nI_le (by omega) (by omega)) c_8)
    refine a_vret dX2_skipSpaces_38 rfl ?_
    rw [show setR M 21 (upd (M 21) 1 (nI (skipL (M 22) 0 a))) = M from by rw [show nI (skipL (M 22) 0 a) = M 21 1 from ha.symm, upd_self, setR_self]] at hΦ
    exact hΦ
  | succ m ih =>
    intro a M he hl ha hΦ
    refine a_al_0_1 (pc' := 1) dX2_skipSpaces_0 rfl ?_
    refine gf_2_2 (pc' := 4) fl_X2_35 dX2_skipSpaces_1 rfl ?_
    refine a_al_0_1 (pc' := 5) dX2_skipSpaces_4 rfl ?_
    refine gf_2_1 (pc' := 8) fl_X2_30 dX2_skipSpaces_5 rfl ?_
    rw [ha, hl]
    refine a_icmp_ge (pc' := 11) (tgt := 38) dX2_skipSpaces_8 (by decide) rfl (fun c_8 => absurd c_8 (nI_ge (by omega) (by omega))) (fun c_8 => ?_)
    refine a_al_0_1 (pc' := 12) dX2_skipSpaces_11 rfl ?_
    refine gf_2_0 (pc' := 15) fl_X2_9 dX2_skipSpaces_12 rfl ?_
    refine a_al_0_1 (pc' := 16) dX2_skipSpaces_15 rfl ?_
    refine gf_2_2 (pc' := 19) fl_X2_35 dX2_skipSpaces_16 rfl ?_
    rw [ha]
    refine a_caldN (pc' := 20) (by omega) dX2_skipSpaces_19 rfl ?_
    refine a_bipush (v := nI 32) (pc' := 22) dX2_skipSpaces_20 (by decide) rfl ?_
    refine a_icmp_ne (pc' := 25) (tgt := 38) dX2_skipSpaces_22 (by decide) rfl (fun c_22 => ?_) (fun c_22 => ?_)
    · refine a_vret dX2_skipSpaces_38 rfl ?_
      rw [show setR M 21 (upd (M 21) 1 (nI (skipL (M 22) (m + 1) a))) = M from by rw [show skipL (M 22) (m + 1) a = a from by simp [skipL, c_22], ← ha, upd_self, setR_self]] at hΦ
      exact hΦ
    · refine a_al_0_1 (pc' := 26) dX2_skipSpaces_25 rfl ?_
      refine a_dup (pc' := 27) dX2_skipSpaces_26 rfl ?_
      refine gf_2_2 (pc' := 30) fl_X2_35 dX2_skipSpaces_27 rfl ?_
      refine a_iconst (v := nI 1) (pc' := 31) dX2_skipSpaces_30 (by decide) rfl ?_
      refine a_iadd (pc' := 32) dX2_skipSpaces_31 rfl ?_
      rw [ha, nI_add]
      refine pf_2_2 (pc' := 35) fl_X2_35 dX2_skipSpaces_32 rfl ?_
      refine a_goto (pc' := 0) dX2_skipSpaces_35 (by decide) ?_
      refine ih (a + 1) _ (by omega) ?_ ?_ ?_
      · simp [wr_eq, setR_same, upd_at]; exact hl
      · simp [wr_eq, setR_same, upd_at]
      · simpa [skipL, c_22, wr_eq, setR_same, setR_setR, setR_ne, upd_upd] using hΦ
set_option maxRecDepth 20000 in
set_option maxHeartbeats 4000000 in
theorem ct_X2_skipSpaces {n a : Nat} (hn : n ≤ 80) (ha9 : a ≤ n) (M : Mm) (hl : M 21 0 = nI n) (ha : M 21 1 = nI a) : Ct yX2_skipSpaces cX2_skipSpaces 1 none 0 0 [.inr (2, 0, 0, 0)] M (RV (setR M 21 (upd (M 21) 1 (nI (skp (M 22) n a))))) := by
  refine Ct.at RX2 rfl (by decide +kernel) (Nat.le_of_ble_eq_true rfl) [some (.inr (2, 0, 0, 0))] rfl (fun G => ?_)
  exact lp_X2_skip hn (n - a) a M (by omega) hl ha ⟨rfl, rfl⟩
set_option maxRecDepth 20000 in
set_option maxHeartbeats 4000000 in
theorem ct_X2_readSign {n a : Nat} (hn : n ≤ 80) (ha9 : a ≤ n) (s : Int32) (M : Mm) (hl : M 21 0 = nI n) (ha : M 21 1 = nI a) : Ct yX2_readSign cX2_readSign 2 (some .boolean) 1 20 [.inr (2, 0, 0, 0), .inl s] M (RI (bI (sgnB (M 22) n a s)) (setR M 21 (upd (M 21) 1 (nI (sgnE (M 22) n a s))))) := by
  refine Ct.at RX2 rfl (by decide +kernel) (Nat.le_of_ble_eq_true rfl) [some (.inr (2, 0, 0, 0)), some (.inl s)] rfl (fun G => ?_)
  refine a_al_0_2 (pc' := 1) dX2_readSign_0 rfl ?_
  refine k_VV (pc' := 4) (ct_X2_skipSpaces (by omega) (by omega) _ (by assumption) (by assumption)) cw_X2_41 mi_X2_skipSpaces se_X2_skipSpaces rfl rfl rfl rfl (by decide) (by decide) (Nat.le_of_ble_eq_true rfl) rfl dX2_readSign_1 rfl ?_
  have hb := skp_b (M 22) ha9
  refine a_al_0_2 (pc' := 5) dX2_readSign_4 rfl ?_
  refine gf_2_2 (pc' := 8) fl_X2_35 dX2_readSign_5 rfl ?_
  refine a_al_0_2 (pc' := 9) dX2_readSign_8 rfl ?_
  refine gf_2_1 (pc' := 12) fl_X2_30 dX2_readSign_9 rfl ?_
  simp only [setR_same, u1, u0, hl]
  refine a_icmp_ge (pc' := 15) (tgt := 28) dX2_readSign_12 (by decide) rfl (fun c_12 => ?_) (fun c_12 => ?_)
  · have e12 : ¬ skp (M 22) n a < n := fun w9 => absurd c_12 (nI_ge w9 (by omega))
    refine a_iconst (v := nI 0) (pc' := 29) dX2_readSign_28 (by decide) rfl ?_
    refine a_iret dX2_readSign_29 rfl rfl ?_
    refine fIM ?_ ?_
    · rw [show sgnB (M 22) n a s = false from by simp [sgnB, e12]]; rfl
    · simp [sgnE, sgnB, e12]
  · have e12 : skp (M 22) n a < n := Nat.not_le.mp fun w9 => c_12 (nI_le w9 (by omega))
    refine a_al_0_2 (pc' := 16) dX2_readSign_15 rfl ?_
    refine gf_2_0 (pc' := 19) fl_X2_9 dX2_readSign_16 rfl ?_
    refine a_al_0_2 (pc' := 20) dX2_readSign_19 rfl ?_
    refine gf_2_2 (pc' := 23) fl_X2_35 dX2_readSign_20 rfl ?_
    simp only [setR_same, u1]
    refine a_caldN (pc' := 24) (by omega) dX2_readSign_23 rfl ?_
    refine a_il_1_2 (pc' := 25) dX2_readSign_24 rfl ?_
    refine a_icmp_eq (pc' := 28) (tgt := 30) dX2_readSign_25 (by decide) rfl (fun c_25 => ?_) (fun c_25 => ?_)
    · rw [setR_ne _ _ (by decide)] at c_25
      have e25 : M 22 (skp (M 22) n a) = s := c_25
      refine a_al_0_2 (pc' := 31) dX2_readSign_30 rfl ?_
      refine a_dup (pc' := 32) dX2_readSign_31 rfl ?_
      refine gf_2_2 (pc' := 35) fl_X2_35 dX2_readSign_32 rfl ?_
      refine a_iconst (v := nI 1) (pc' := 36) dX2_readSign_35 (by decide) rfl ?_
      refine a_iadd (pc' := 37) dX2_readSign_36 rfl ?_
      simp only [setR_same, u1, nI_add]
      refine pf_2_2 (pc' := 40) fl_X2_35 dX2_readSign_37 rfl ?_
      refine a_iconst (v := nI 1) (pc' := 41) dX2_readSign_40 (by decide) rfl ?_
      refine a_iret dX2_readSign_41 rfl rfl ?_
      refine fIM ?_ ?_
      · rw [show sgnB (M 22) n a s = true from by simp [sgnB, e12, e25]]; rfl
      · simp [sgnE, sgnB, e12, e25, wr_eq, setR_same, setR_setR, upd_upd]
    · rw [setR_ne _ _ (by decide)] at c_25
      have e25 : ¬ M 22 (skp (M 22) n a) = s := c_25
      refine a_iconst (v := nI 0) (pc' := 29) dX2_readSign_28 (by decide) rfl ?_
      refine a_iret dX2_readSign_29 rfl rfl ?_
      refine fIM ?_ ?_
      · rw [show sgnB (M 22) n a s = false from by simp [sgnB, e12, e25]]; rfl
      · simp [sgnE, sgnB, e12, e25]
set_option maxRecDepth 20000 in
set_option maxHeartbeats 4000000 in
theorem lp_rn1 {G : Gl} {Φ : Option OV → Mm → Prop} {n0 : Nat} (hn : n0 ≤ 80) (x2 x3 x4 : Option OV) (M : Mm) (hl : M 21 0 = nI n0) : ∀ (n p : Nat) , p + n = n0 → (AW G cX2_readNumber RX2 5 1 20 (some .int) Φ 35 [some (.inr (2, 0, 0, 0)), some (.inl (nI (digL (M 22) n p))), x2, x3, x4] [] M) → AW G cX2_readNumber RX2 5 1 20 (some .int) Φ 9 [some (.inr (2, 0, 0, 0)), some (.inl (nI p)), x2, x3, x4] [] M := by
  intro n
  induction n with
  | zero =>
    intro p  he  hΦ
    refine a_il_1_5 (pc' := 10) dX2_readNumber_9 rfl ?_
    refine a_al_0_5 (pc' := 11) dX2_readNumber_10 rfl ?_
    refine gf_2_1 (pc' := 14) fl_X2_30 dX2_readNumber_11 rfl ?_
    rw [hl]
    refine a_icmp_ge (pc' := 17) (tgt := 35) dX2_readNumber_14 (by decide) rfl (fun c_14 => ?_) (fun c_14 => absurd (nI_le (by omega) (by omega)) c_14)
    exact hΦ
  | succ n ih =>
    intro p  he  hΦ
    refine a_il_1_5 (pc' := 10) dX2_readNumber_9 rfl ?_
    refine a_al_0_5 (pc' := 11) dX2_readNumber_10 rfl ?_
    refine gf_2_1 (pc' := 14) fl_X2_30 dX2_readNumber_11 rfl ?_
    rw [hl]
    refine a_icmp_ge (pc' := 17) (tgt := 35) dX2_readNumber_14 (by decide) rfl (fun c_14 => absurd c_14 (nI_ge (by omega) (by omega))) (fun c_14 => ?_)
    refine a_al_0_5 (pc' := 18) dX2_readNumber_17 rfl ?_
    refine gf_2_0 (pc' := 21) fl_X2_9 dX2_readNumber_18 rfl ?_
    refine a_il_1_5 (pc' := 22) dX2_readNumber_21 rfl ?_
    refine a_caldN (pc' := 23) (by omega) dX2_readNumber_22 rfl ?_
    refine k_SI (pc' := 26) (ct_X2_isDigit _ _) cw_X2_59 ms_X2_isDigit rfl (by decide) (by decide) (Nat.le_of_ble_eq_true rfl) rfl dX2_readNumber_23 rfl ?_
    refine a_ifB_eq (pc' := 29) (tgt := 35) dX2_readNumber_26 (by decide) rfl (fun c_26 => ?_) (fun c_26 => ?_)
    · simpa [digL, c_26] using hΦ
    · refine a_iN_1_5 (m := p + 1) (pc' := 32) dX2_readNumber_29 (nI_add _ _) rfl ?_
      refine a_goto (pc' := 9) dX2_readNumber_32 (by decide) ?_
      exact ih (p + 1) (by omega) (by simpa [digL, c_26] using hΦ)
set_option maxRecDepth 20000 in
set_option maxHeartbeats 4000000 in
theorem lp_rn2 {G : Gl} {Φ : Option OV → Mm → Prop} {e : Nat} (he80 : e ≤ 80) (x2 : Option OV) (M : Mm) : ∀ (n p : Nat) (v : Nat), p + n = e → (∀ j, p ≤ j → j < e → ∃ d, d ≤ 9 ∧ M 22 j = nI (48 + d)) → (AW G cX2_readNumber RX2 5 1 20 (some .int) Φ 108 [some (.inr (2, 0, 0, 0)), some (.inl (nI e)), x2, some (.inl (nI (numL (M 22) n p v))), some (.inl (nI e))] [] M) → AW G cX2_readNumber RX2 5 1 20 (some .int) Φ 80 [some (.inr (2, 0, 0, 0)), some (.inl (nI e)), x2, some (.inl (nI v)), some (.inl (nI p))] [] M := by
  intro n
  induction n with
  | zero =>
    intro p v he hj hΦ
    refine a_il_4_5 (pc' := 82) dX2_readNumber_80 rfl ?_
    refine a_il_1_5 (pc' := 83) dX2_readNumber_82 rfl ?_
    refine a_icmp_ge (pc' := 86) (tgt := 108) dX2_readNumber_83 (by decide) rfl (fun c_83 => ?_) (fun c_83 => absurd (nI_le (by omega) (by omega)) c_83)
    obtain rfl : p = e := by omega
    exact hΦ
  | succ n ih =>
    intro p v he hj hΦ
    obtain ⟨d, hd9, ed⟩ := hj p (Nat.le_refl _) (by omega)
    refine a_il_4_5 (pc' := 82) dX2_readNumber_80 rfl ?_
    refine a_il_1_5 (pc' := 83) dX2_readNumber_82 rfl ?_
    refine a_icmp_ge (pc' := 86) (tgt := 108) dX2_readNumber_83 (by decide) rfl (fun c_83 => absurd c_83 (nI_ge (by omega) (by omega))) (fun c_83 => ?_)
    refine a_il_3_5 (pc' := 87) dX2_readNumber_86 rfl ?_
    refine a_bipush (v := nI 10) (pc' := 89) dX2_readNumber_87 (by decide) rfl ?_
    refine a_imulN (pc' := 90) dX2_readNumber_89 rfl ?_
    refine a_al_0_5 (pc' := 91) dX2_readNumber_90 rfl ?_
    refine gf_2_0 (pc' := 94) fl_X2_9 dX2_readNumber_91 rfl ?_
    refine a_il_4_5 (pc' := 96) dX2_readNumber_94 rfl ?_
    refine a_caldN (pc' := 97) (by omega) dX2_readNumber_96 rfl ?_
    rw [ed]
    refine a_bipush (v := nI 48) (pc' := 99) dX2_readNumber_97 (by decide) rfl ?_
    refine a_isubN (pc' := 100) (by omega) dX2_readNumber_99 rfl ?_
    refine a_iaddN (pc' := 101) dX2_readNumber_100 rfl ?_
    refine a_is_3_5 (pc' := 102) dX2_readNumber_101 rfl ?_
    refine a_iN_4_5 (m := p + 1) (pc' := 105) dX2_readNumber_102 (nI_add _ _) rfl ?_
    refine a_goto (pc' := 80) dX2_readNumber_105 (by decide) ?_
    refine ih (p + 1) _ (by omega) (fun j h8 h9 => hj j (by omega) h9) ?_
    rw [show numL (M 22) (n + 1) p v = numL (M 22) n (p + 1) (10 * v + ((M 22 p).toNatClampNeg - 48)) from rfl, ed, nI_clamp (by omega)] at hΦ
    rw [Nat.mul_comm v 10]
    exact hΦ
set_option maxRecDepth 20000 in
set_option maxHeartbeats 4000000 in
theorem ct_X2_readNumber {n a : Nat} (hn : n ≤ 80) (ha9 : a ≤ n) (M : Mm) (hl : M 21 0 = nI n) (ha : M 21 1 = nI a) : Ct yX2_readNumber cX2_readNumber 5 (some .int) 1 20 [.inr (2, 0, 0, 0)] M (RI (rdV (M 22) n a) (setR M 21 (upd (M 21) 1 (nI (rdE (M 22) n a))))) := by
  refine Ct.at RX2 rfl (by decide +kernel) (Nat.le_of_ble_eq_true rfl) [some (.inr (2, 0, 0, 0)), none, none, none, none] rfl (fun G => ?_)
  refine a_al_0_5 (pc' := 1) dX2_readNumber_0 rfl ?_
  refine k_VV (pc' := 4) (ct_X2_skipSpaces (by omega) (by omega) _ (by assumption) (by assumption)) cw_X2_41 mi_X2_skipSpaces se_X2_skipSpaces rfl rfl rfl rfl (by decide) (by decide) (Nat.le_of_ble_eq_true rfl) rfl dX2_readNumber_1 rfl ?_
  have hbb := skp_b (M 22) ha9
  generalize hb : skp (M 22) n a = b at hbb ⊢
  refine a_al_0_5 (pc' := 5) dX2_readNumber_4 rfl ?_
  refine gf_2_2 (pc' := 8) fl_X2_35 dX2_readNumber_5 rfl ?_
  simp only [setR_same, u1]
  refine a_is_1_5 (pc' := 9) dX2_readNumber_8 rfl ?_
  refine lp_rn1 hn _ _ _ _ (by simp only [setR_same, u0]; exact hl) (n - b) b (by omega) ?_
  rw [show digL (setR M 21 (upd (M 21) 1 (nI b)) 22) (n - b) b = rnE (M 22) n b from by rw [setR_ne _ _ (by decide)]; rfl]
  have hee := rnE_b (M 22) hbb.2
  have hdg := fun j h1 h2 => rnE_at (M 22) (n := n) (a := b) (j := j) h1 h2
  generalize he : rnE (M 22) n b = e at hee hdg ⊢
  have q0 : nI (e - b) = 0 ↔ e - b = 0 := by rw [← nI_0]; exact nI_eq (by omega) (by decide)
  have q3 : nI 3 < nI (e - b) ↔ 3 < e - b := nI_ltI (by decide) (by omega)
  have q1 : nI (e - b) ≤ nI 1 ↔ e - b ≤ 1 := nI_leI (by omega) (by decide)
  refine a_il_1_5 (pc' := 36) dX2_readNumber_35 rfl ?_
  refine a_al_0_5 (pc' := 37) dX2_readNumber_36 rfl ?_
  refine gf_2_2 (pc' := 40) fl_X2_35 dX2_readNumber_37 rfl ?_
  simp only [setR_same, u1]
  refine a_isubN (pc' := 41) (by omega) dX2_readNumber_40 rfl ?_
  refine a_is_2_5 (pc' := 42) dX2_readNumber_41 rfl ?_
  refine a_il_2_5 (pc' := 43) dX2_readNumber_42 rfl ?_
  refine a_if_eq (pc' := 46) (tgt := 70) dX2_readNumber_43 (by decide) rfl (fun c_43 => ?_) (fun c_43 => ?_)
  · refine a_iconst (v := (-1)) (pc' := 71) dX2_readNumber_70 (by decide) rfl ?_
    refine a_iret dX2_readNumber_71 rfl rfl ?_
    rw [q0] at c_43
    have hok : rnOK (M 22) n b = false := by
      unfold rnOK
      rw [he]
      simp [c_43]
    refine fIM ?_ ?_
    · simp [rdV, hb, hok]
    · simp [rdE, hb, hok]
  · refine a_il_2_5 (pc' := 47) dX2_readNumber_46 rfl ?_
    refine a_iconst (v := nI 3) (pc' := 48) dX2_readNumber_47 (by decide) rfl ?_
    refine a_icmp_gt (pc' := 51) (tgt := 70) dX2_readNumber_48 (by decide) rfl (fun c_48 => ?_) (fun c_48 => ?_)
    · refine a_iconst (v := (-1)) (pc' := 71) dX2_readNumber_70 (by decide) rfl ?_
      refine a_iret dX2_readNumber_71 rfl rfl ?_
      rw [q0] at c_43
      rw [q3] at c_48
      have hok : rnOK (M 22) n b = false := by
        unfold rnOK
        rw [he]
        simp [c_48]
      refine fIM ?_ ?_
      · simp [rdV, hb, hok]
      · simp [rdE, hb, hok]
    · refine a_il_2_5 (pc' := 52) dX2_readNumber_51 rfl ?_
      refine a_iconst (v := nI 1) (pc' := 53) dX2_readNumber_52 (by decide) rfl ?_
      refine a_icmp_le (pc' := 56) (tgt := 72) dX2_readNumber_53 (by decide) rfl (fun c_53 => ?_) (fun c_53 => ?_)
      · refine a_iconst (v := nI 0) (pc' := 73) dX2_readNumber_72 (by decide) rfl ?_
        refine a_is_3_5 (pc' := 74) dX2_readNumber_73 rfl ?_
        refine a_al_0_5 (pc' := 75) dX2_readNumber_74 rfl ?_
        refine gf_2_2 (pc' := 78) fl_X2_35 dX2_readNumber_75 rfl ?_
        simp only [setR_same, u1]
        refine a_is_4_5 (pc' := 80) dX2_readNumber_78 rfl ?_
        rw [q0] at c_43
        rw [q3] at c_48
        rw [q1] at c_53
        have hok : rnOK (M 22) n b = true := by
          unfold rnOK
          rw [he]
          simp only [c_43, c_48, show ¬ 1 < e - b by omega, decide_false, Bool.not_false, Bool.false_and, Bool.and_self]
        refine lp_rn2 (e := e) (by omega) _ _ (e - b) b 0 (by omega) (fun j h1 h2 => by rw [setR_ne _ _ (by decide)]; exact hdg j h1 h2) ?_
        refine a_al_0_5 (pc' := 109) dX2_readNumber_108 rfl ?_
        refine a_il_1_5 (pc' := 110) dX2_readNumber_109 rfl ?_
        refine pf_2_2 (pc' := 113) fl_X2_35 dX2_readNumber_110 rfl ?_
        refine a_il_3_5 (pc' := 114) dX2_readNumber_113 rfl ?_
        refine a_iret dX2_readNumber_114 rfl rfl ?_
        refine fIM ?_ ?_
        · simp [rdV, hb, hok, rnV, he, setR_ne]
        · simp [rdE, hb, hok, he, wr_eq, setR_same, setR_setR, upd_upd]
      · refine a_al_0_5 (pc' := 57) dX2_readNumber_56 rfl ?_
        refine gf_2_0 (pc' := 60) fl_X2_9 dX2_readNumber_57 rfl ?_
        refine a_al_0_5 (pc' := 61) dX2_readNumber_60 rfl ?_
        refine gf_2_2 (pc' := 64) fl_X2_35 dX2_readNumber_61 rfl ?_
        have hb80 : b < 80 := by
          have h43 := c_43
          rw [q0] at h43
          omega
        simp only [setR_same, u1]
        refine a_caldN (pc' := 65) (by omega) dX2_readNumber_64 rfl ?_
        refine a_bipush (v := nI 48) (pc' := 67) dX2_readNumber_65 (by decide) rfl ?_
        refine a_icmp_ne (pc' := 70) (tgt := 72) dX2_readNumber_67 (by decide) rfl (fun c_67 => ?_) (fun c_67 => ?_)
        · refine a_iconst (v := nI 0) (pc' := 73) dX2_readNumber_72 (by decide) rfl ?_
          refine a_is_3_5 (pc' := 74) dX2_readNumber_73 rfl ?_
          refine a_al_0_5 (pc' := 75) dX2_readNumber_74 rfl ?_
          refine gf_2_2 (pc' := 78) fl_X2_35 dX2_readNumber_75 rfl ?_
          simp only [setR_same, u1]
          refine a_is_4_5 (pc' := 80) dX2_readNumber_78 rfl ?_
          rw [q0] at c_43
          rw [q3] at c_48
          rw [q1] at c_53
          rw [setR_ne _ _ (by decide)] at c_67
          have hok : rnOK (M 22) n b = true := by
            unfold rnOK
            rw [he]
            simp only [c_43, c_48, c_67, decide_false, Bool.not_false, Bool.and_false, Bool.and_self]
          refine lp_rn2 (e := e) (by omega) _ _ (e - b) b 0 (by omega) (fun j h1 h2 => by rw [setR_ne _ _ (by decide)]; exact hdg j h1 h2) ?_
          refine a_al_0_5 (pc' := 109) dX2_readNumber_108 rfl ?_
          refine a_il_1_5 (pc' := 110) dX2_readNumber_109 rfl ?_
          refine pf_2_2 (pc' := 113) fl_X2_35 dX2_readNumber_110 rfl ?_
          refine a_il_3_5 (pc' := 114) dX2_readNumber_113 rfl ?_
          refine a_iret dX2_readNumber_114 rfl rfl ?_
          refine fIM ?_ ?_
          · simp [rdV, hb, hok, rnV, he, setR_ne]
          · simp [rdE, hb, hok, he, wr_eq, setR_same, setR_setR, upd_upd]
        · refine a_iconst (v := (-1)) (pc' := 71) dX2_readNumber_70 (by decide) rfl ?_
          refine a_iret dX2_readNumber_71 rfl rfl ?_
          rw [q0] at c_43
          rw [q3] at c_48
          rw [q1] at c_53
          rw [setR_ne _ _ (by decide)] at c_67
          have hok : rnOK (M 22) n b = false := by
            unfold rnOK
            rw [he]
            simp [c_67, show 1 < e - b by omega]
          refine fIM ?_ ?_
          · simp [rdV, hb, hok]
          · simp [rdE, hb, hok]
