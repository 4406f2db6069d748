theorem let114 : letB (nI 114) = true := by decide
theorem nI_m1 {v : Nat} (h : v ≤ 999) : ¬ nI v = -1 := by
  intro w
  have := congrArg Int32.toInt w
  rw [nI_toInt (by omega)] at this
  have e : (-1 : Int32).toInt = -1 := by decide
  omega
theorem rdV_v {T : Nat → Int32} {n a : Nat} (h : rnOK T n (skp T n a) = true) : rdV T n a = nI (rnV T n (skp T n a)) := by unfold rdV; rw [if_pos h]
theorem rdV_ok {T : Nat → Int32} {n a : Nat} (h : ¬ rdV T n a = -1) : rnOK T n (skp T n a) = true := by
  unfold rdV at h
  by_cases w : rnOK T n (skp T n a) = true
  · exact w
  · rw [if_neg w] at h; exact absurd rfl h
theorem rdV_no {T : Nat → Int32} {n a : Nat} (h : rdV T n a = -1) : rnOK T n (skp T n a) = false := by
  cases w : rnOK T n (skp T n a) with
  | false => rfl
  | true => rw [rdV_v w] at h; exact absurd h (nI_m1 (rnV_le T w))
theorem rdE_ok {T : Nat → Int32} {n a : Nat} (h : rnOK T n (skp T n a) = true) : rdE T n a = rnE T n (skp T n a) := by unfold rdE; rw [if_pos h]
theorem rdE_no {T : Nat → Int32} {n a : Nat} (h : rnOK T n (skp T n a) = false) : rdE T n a = skp T n a := by unfold rdE; rw [if_neg (by rw [h]; decide)]
/-- behind readCommand -/
def rcQ (M : Mm) (n a c : Nat) : Option OV → Mm → Prop := fun v M' =>
  v = some (.inl (bI (cmOK (M 22) n a))) ∧ M' 21 = upd (M 21) 1 (nI (cmE (M 22) n a)) ∧ (∀ j, j ≠ c → M' 23 j = M 23 j ∧ M' 24 j = M 24 j ∧ M' 25 j = M 25 j) ∧
  (cmOK (M 22) n a = true → M' 23 c = M 22 a ∧ M' 24 c = nI (cm1 (M 22) n a) ∧ (M 22 a = nI 114 → M' 25 c = nI (cm2 (M 22) n a))) ∧ ∀ r, r ≠ 21 → r ≠ 23 → r ≠ 24 → r ≠ 25 → M' r = M r
set_option maxRecDepth 20000 in
set_option maxHeartbeats 4000000 in
theorem ct_X2_readCommand {n a c : Nat} (hn : n ≤ 80) (ha9 : a < n) (hc : c < 80) (M : Mm) (hl : M 21 0 = nI n) (ha : M 21 1 = nI a) : Ct yX2_readCommand cX2_readCommand 3 (some .boolean) 2 44 [.inr (2, 0, 0, 0), .inl (nI c)] M (rcQ M n a c) := by
  have hb := cm_b (M 22) ha9
  refine Ct.at RX2 rfl (by decide +kernel) (Nat.le_of_ble_eq_true rfl) [some (.inr (2, 0, 0, 0)), some (.inl (nI c)), none] rfl (fun G => ?_)
  refine a_al_0_3 (pc' := 1) dX2_readCommand_0 rfl ?_
  refine gf_2_0 (pc' := 4) fl_X2_9 dX2_readCommand_1 rfl ?_
  refine a_al_0_3 (pc' := 5) dX2_readCommand_4 rfl ?_
  refine gf_2_2 (pc' := 8) fl_X2_35 dX2_readCommand_5 rfl ?_
  rw [ha]
  refine a_caldN (pc' := 9) (by omega) dX2_readCommand_8 rfl ?_
  refine a_is_2_3 (pc' := 10) dX2_readCommand_9 rfl ?_
  refine a_il_2_3 (pc' := 11) dX2_readCommand_10 rfl ?_
  refine k_SI (pc' := 14) (ct_X2_isLetter _ _) cw_X2_48 ms_X2_isLetter rfl (by decide) (by decide) (Nat.le_of_ble_eq_true rfl) rfl dX2_readCommand_11 rfl ?_
  refine a_ifB_ne (pc' := 17) (tgt := 19) dX2_readCommand_14 (by decide) rfl (fun c_14 => ?_) (fun c_14 => ?_)
  · refine a_al_0_3 (pc' := 20) dX2_readCommand_19 rfl ?_
    refine a_dup (pc' := 21) dX2_readCommand_20 rfl ?_
    refine gf_2_2 (pc' := 24) fl_X2_35 dX2_readCommand_21 rfl ?_
    rw [ha]
    refine a_iconst (v := nI 1) (pc' := 25) dX2_readCommand_24 (by decide) rfl ?_
    refine a_iaddN (pc' := 26) dX2_readCommand_25 rfl ?_
    refine pf_2_2 (pc' := 29) fl_X2_35 dX2_readCommand_26 rfl ?_
    refine a_al_0_3 (pc' := 30) dX2_readCommand_29 rfl ?_
    refine gf_2_3 (pc' := 33) fl_X2_15 dX2_readCommand_30 rfl ?_
    refine a_il_1_3 (pc' := 34) dX2_readCommand_33 rfl ?_
    refine a_il_2_3 (pc' := 35) dX2_readCommand_34 rfl ?_
    refine a_iastN (pc' := 36) rfl (by omega) (by decide) dX2_readCommand_35 rfl ?_
    refine a_al_0_3 (pc' := 37) dX2_readCommand_36 rfl ?_
    refine gf_2_4 (pc' := 40) fl_X2_19 dX2_readCommand_37 rfl ?_
    refine a_il_1_3 (pc' := 41) dX2_readCommand_40 rfl ?_
    refine a_al_0_3 (pc' := 42) dX2_readCommand_41 rfl ?_
    refine k_VI (pc' := 45) (ct_X2_readNumber hn (a := a + 1) (by omega) _ (by simp (disch := decide) only [wr_eq, setR_same, setR_setR, setR_ne, upd_upd, u1, u0]; exact hl) (by simp (disch := decide) only [wr_eq, setR_same, setR_setR, setR_ne, upd_upd, u1, u0])) cw_X2_52 mi_X2_readNumber se_X2_readNumber rfl rfl rfl rfl (by decide) (by decide) (Nat.le_of_ble_eq_true rfl) rfl dX2_readCommand_42 rfl ?_
    simp (disch := decide) only [wr_eq, setR_same, setR_setR, setR_ne, upd_upd, u1, u0]
    refine a_iastN (pc' := 46) rfl (by omega) (by decide) dX2_readCommand_45 rfl ?_
    refine a_al_0_3 (pc' := 47) dX2_readCommand_46 rfl ?_
    refine gf_2_4 (pc' := 50) fl_X2_19 dX2_readCommand_47 rfl ?_
    refine a_il_1_3 (pc' := 51) dX2_readCommand_50 rfl ?_
    refine a_ialdN (pc' := 52) rfl (by omega) (by decide) dX2_readCommand_51 rfl ?_
    simp (disch := decide) only [wr_eq, setR_same, setR_setR, setR_ne, upd_upd, u1, u0]
    rw [pk_us]
    refine a_iconst (v := (-1)) (pc' := 53) dX2_readCommand_52 (by decide) rfl ?_
    refine a_icmp_ne (pc' := 56) (tgt := 58) dX2_readCommand_53 (by decide) rfl (fun c_53 => ?_) (fun c_53 => ?_)
    · have k2 : rnOK (M 22) n (cmA (M 22) n a) = true := rdV_ok c_53
      rw [show rdE (M 22) n (a + 1) = cmB (M 22) n a from rdE_ok k2, show rdV (M 22) n (a + 1) = nI (cm1 (M 22) n a) from rdV_v k2]
      refine a_il_2_3 (pc' := 59) dX2_readCommand_58 rfl ?_
      refine a_bipush (v := nI 114) (pc' := 61) dX2_readCommand_59 (by decide) rfl ?_
      refine a_icmp_ne (pc' := 64) (tgt := 97) dX2_readCommand_61 (by decide) rfl (fun c_61 => ?_) (fun c_61 => ?_)
      · have eD : cmB (M 22) n a = cmD (M 22) n a := by unfold cmD; rw [if_neg c_61]
        rw [eD]
        refine a_al_0_3 (pc' := 98) dX2_readCommand_97 rfl ?_
        refine a_bipush (v := nI 59) (pc' := 100) dX2_readCommand_98 (by decide) rfl ?_
        refine k_VI (pc' := 103) (ct_X2_readSign hn (a := cmD (M 22) n a) (by omega) _ _ (by simp (disch := decide) only [wr_eq, setR_same, setR_setR, setR_ne, upd_upd, u1, u0]; exact hl) (by simp (disch := decide) only [wr_eq, setR_same, setR_setR, setR_ne, upd_upd, u1, u0])) cw_X2_56 mi_X2_readSign se_X2_readSign rfl rfl rfl rfl (by decide) (by decide) (Nat.le_of_ble_eq_true rfl) rfl dX2_readCommand_100 rfl ?_
        try simp (disch := decide) only [wr_eq, setR_same, setR_setR, setR_ne, upd_upd, u1, u0]
        refine a_iret dX2_readCommand_103 rfl (n_bI _) ?_
        have hok : cmOK (M 22) n a = sgnB (M 22) n (cmD (M 22) n a) (nI 59) := by simp [cmOK, c_14, k2, c_61, let114]
        have hE : cmE (M 22) n a = sgnE (M 22) n (cmD (M 22) n a) (nI 59) := by simp [cmE, c_14, k2, c_61, let114]
        refine ⟨by rw [hok], ?_, fun j hj => ?_, fun hh => ?_, fun r r1 r2 r3 r4 => ?_⟩
        · rw [hE]
          first
          | rfl
          | simp (disch := decide) only [wr_eq, setR_same, setR_setR, setR_ne, upd_upd, u1, u0]
        · simp [wr_eq, setR_same, setR_ne, upd_at, hj]
        · exact ⟨by simp [wr_eq, setR_same, setR_ne, upd_at], by simp [wr_eq, setR_same, setR_ne, upd_at], fun w9 => absurd w9 c_61⟩
        · simp [wr_eq, setR_ne, r1, r2, r3, r4]
      · try simp (disch := decide) only [wr_eq, setR_same, setR_setR, setR_ne, upd_upd, u1, u0]
        refine a_al_0_3 (pc' := 65) dX2_readCommand_64 rfl ?_
        refine a_bipush (v := nI 46) (pc' := 67) dX2_readCommand_65 (by decide) rfl ?_
        refine k_VI (pc' := 70) (ct_X2_readSign hn (a := cmB (M 22) n a) (by omega) _ _ (by simp (disch := decide) only [wr_eq, setR_same, setR_setR, setR_ne, upd_upd, u1, u0]; exact hl) (by simp (disch := decide) only [wr_eq, setR_same, setR_setR, setR_ne, upd_upd, u1, u0])) cw_X2_56 mi_X2_readSign se_X2_readSign rfl rfl rfl rfl (by decide) (by decide) (Nat.le_of_ble_eq_true rfl) rfl dX2_readCommand_67 rfl ?_
        try simp (disch := decide) only [wr_eq, setR_same, setR_setR, setR_ne, upd_upd, u1, u0]
        refine a_ifB_ne (pc' := 73) (tgt := 75) dX2_readCommand_70 (by decide) rfl (fun c_70 => ?_) (fun c_70 => ?_)
        · refine a_al_0_3 (pc' := 76) dX2_readCommand_75 rfl ?_
          refine gf_2_5 (pc' := 79) fl_X2_22 dX2_readCommand_76 rfl ?_
          refine a_il_1_3 (pc' := 80) dX2_readCommand_79 rfl ?_
          refine a_al_0_3 (pc' := 81) dX2_readCommand_80 rfl ?_
          refine k_VI (pc' := 84) (ct_X2_readNumber hn (a := sgnE (M 22) n (cmB (M 22) n a) (nI 46)) (sgnE_b _ _ (by omega)).2 _ (by simp (disch := decide) only [wr_eq, setR_same, setR_setR, setR_ne, upd_upd, u1, u0]; exact hl) (by simp (disch := decide) only [wr_eq, setR_same, setR_setR, setR_ne, upd_upd, u1, u0])) cw_X2_52 mi_X2_readNumber se_X2_readNumber rfl rfl rfl rfl (by decide) (by decide) (Nat.le_of_ble_eq_true rfl) rfl dX2_readCommand_81 rfl ?_
          try simp (disch := decide) only [wr_eq, setR_same, setR_setR, setR_ne, upd_upd, u1, u0]
          refine a_iastN (pc' := 85) rfl (by omega) (by decide) dX2_readCommand_84 rfl ?_
          refine a_al_0_3 (pc' := 86) dX2_readCommand_85 rfl ?_
          refine gf_2_5 (pc' := 89) fl_X2_22 dX2_readCommand_86 rfl ?_
          refine a_il_1_3 (pc' := 90) dX2_readCommand_89 rfl ?_
          refine a_ialdN (pc' := 91) rfl (by omega) (by decide) dX2_readCommand_90 rfl ?_
          simp (disch := decide) only [wr_eq, setR_same, setR_setR, setR_ne, upd_upd, u1, u0]
          rw [pk_us]
          refine a_iconst (v := (-1)) (pc' := 92) dX2_readCommand_91 (by decide) rfl ?_
          refine a_icmp_ne (pc' := 95) (tgt := 97) dX2_readCommand_92 (by decide) rfl (fun c_92 => ?_) (fun c_92 => ?_)
          · have k4 : rnOK (M 22) n (cmC (M 22) n a) = true := rdV_ok (a := sgnE (M 22) n (cmB (M 22) n a) (nI 46)) c_92
            have eD : rdE (M 22) n (sgnE (M 22) n (cmB (M 22) n a) (nI 46)) = cmD (M 22) n a := by unfold cmD; rw [if_pos c_61]; exact rdE_ok (a := sgnE (M 22) n (cmB (M 22) n a) (nI 46)) k4
            rw [eD, show rdV (M 22) n (sgnE (M 22) n (cmB (M 22) n a) (nI 46)) = nI (cm2 (M 22) n a) from rdV_v (a := sgnE (M 22) n (cmB (M 22) n a) (nI 46)) k4]
            refine a_al_0_3 (pc' := 98) dX2_readCommand_97 rfl ?_
            refine a_bipush (v := nI 59) (pc' := 100) dX2_readCommand_98 (by decide) rfl ?_
            refine k_VI (pc' := 103) (ct_X2_readSign hn (a := cmD (M 22) n a) (by omega) _ _ (by simp (disch := decide) only [wr_eq, setR_same, setR_setR, setR_ne, upd_upd, u1, u0]; exact hl) (by simp (disch := decide) only [wr_eq, setR_same, setR_setR, setR_ne, upd_upd, u1, u0])) cw_X2_56 mi_X2_readSign se_X2_readSign rfl rfl rfl rfl (by decide) (by decide) (Nat.le_of_ble_eq_true rfl) rfl dX2_readCommand_100 rfl ?_
            try simp (disch := decide) only [wr_eq, setR_same, setR_setR, setR_ne, upd_upd, u1, u0]
            refine a_iret dX2_readCommand_103 rfl (n_bI _) ?_
            have hok : cmOK (M 22) n a = sgnB (M 22) n (cmD (M 22) n a) (nI 59) := by simp [cmOK, c_14, k2, c_61, let114, c_70, k4]
            have hE : cmE (M 22) n a = sgnE (M 22) n (cmD (M 22) n a) (nI 59) := by simp [cmE, c_14, k2, c_61, let114, c_70, k4]
            refine ⟨by rw [hok], ?_, fun j hj => ?_, fun hh => ?_, fun r r1 r2 r3 r4 => ?_⟩
            · rw [hE]
              first
              | rfl
              | simp (disch := decide) only [wr_eq, setR_same, setR_setR, setR_ne, upd_upd, u1, u0]
            · simp [wr_eq, setR_same, setR_ne, upd_at, hj]
            · exact ⟨by simp [wr_eq, setR_same, setR_ne, upd_at], by simp [wr_eq, setR_same, setR_ne, upd_at], fun _ => by simp [wr_eq, setR_same, setR_ne, upd_at]⟩
            · simp [wr_eq, setR_ne, r1, r2, r3, r4]
          · refine a_iconst (v := nI 0) (pc' := 96) dX2_readCommand_95 (by decide) rfl ?_
            refine a_iret dX2_readCommand_96 rfl rfl ?_
            have k4 : rnOK (M 22) n (cmC (M 22) n a) = false := rdV_no (a := sgnE (M 22) n (cmB (M 22) n a) (nI 46)) c_92
            have hok : cmOK (M 22) n a = false := by simp [cmOK, c_14, k2, c_61, let114, c_70, k4]
            have hE : cmE (M 22) n a = rdE (M 22) n (sgnE (M 22) n (cmB (M 22) n a) (nI 46)) := by simp only [cmE, c_14, k2, c_61, let114, c_70, k4]; simp [rdE_no (a := sgnE (M 22) n (cmB (M 22) n a) (nI 46)) k4]; rfl
            refine ⟨by rw [hok]; rfl, ?_, fun j hj => ?_, fun hh => ?_, fun r r1 r2 r3 r4 => ?_⟩
            · rw [hE]
              first
              | rfl
              | simp (disch := decide) only [wr_eq, setR_same, setR_setR, setR_ne, upd_upd, u1, u0]
            · simp [wr_eq, setR_same, setR_ne, upd_at, hj]
            · rw [hok] at hh; cases hh
            · simp [wr_eq, setR_ne, r1, r2, r3, r4]
        · refine a_iconst (v := nI 0) (pc' := 74) dX2_readCommand_73 (by decide) rfl ?_
          refine a_iret dX2_readCommand_74 rfl rfl ?_
          have hok : cmOK (M 22) n a = false := by simp [cmOK, c_14, k2, c_61, let114, c_70]
          have hE : cmE (M 22) n a = sgnE (M 22) n (cmB (M 22) n a) (nI 46) := by simp [cmE, c_14, k2, c_61, let114, c_70, sgnE]
          refine ⟨by rw [hok]; rfl, ?_, fun j hj => ?_, fun hh => ?_, fun r r1 r2 r3 r4 => ?_⟩
          · rw [hE]
            first
            | rfl
            | simp (disch := decide) only [wr_eq, setR_same, setR_setR, setR_ne, upd_upd, u1, u0]
          · simp [wr_eq, setR_same, setR_ne, upd_at, hj]
          · rw [hok] at hh; cases hh
          · simp [wr_eq, setR_ne, r1, r2, r3, r4]
    · refine a_iconst (v := nI 0) (pc' := 57) dX2_readCommand_56 (by decide) rfl ?_
      refine a_iret dX2_readCommand_57 rfl rfl ?_
      have k2 : rnOK (M 22) n (cmA (M 22) n a) = false := rdV_no c_53
      have hok : cmOK (M 22) n a = false := by simp [cmOK, c_14, k2]
      have hE : cmE (M 22) n a = rdE (M 22) n (a + 1) := by simp only [cmE, c_14, k2]; simp [rdE_no (a := a + 1) k2]; rfl
      refine ⟨by rw [hok]; rfl, ?_, fun j hj => ?_, fun hh => ?_, fun r r1 r2 r3 r4 => ?_⟩
      · rw [hE]
        first
        | rfl
        | simp (disch := decide) only [wr_eq, setR_same, setR_setR, setR_ne, upd_upd, u1, u0]
      · simp [wr_eq, setR_same, setR_ne, upd_at, hj]
      · rw [hok] at hh; cases hh
      · simp [wr_eq, setR_ne, r1, r2, r3, r4]
  · refine a_iconst (v := nI 0) (pc' := 18) dX2_readCommand_17 (by decide) rfl ?_
    refine a_iret dX2_readCommand_18 rfl rfl ?_
    have hok : cmOK (M 22) n a = false := by simp [cmOK, c_14]
    have hE : cmE (M 22) n a = a := by simp [cmE, c_14]
    refine ⟨by rw [hok]; rfl, ?_, fun j hj => ?_, fun hh => ?_, fun r r1 r2 r3 r4 => ?_⟩
    · rw [hE]
      first
      | rfl
      | rw [← ha, upd_self]
    · simp [wr_eq, setR_same, setR_ne, upd_at, hj]
    · rw [hok] at hh; cases hh
    · simp [wr_eq, setR_ne, r1, r2, r3, r4]
