def undC (n : Nat) : Int32 := if nI n = 0 then (-100002) else nI (n - 1)
def undCM (M : Mm) (fr n : Nat) : Mm := if nI n = 0 then M else undM M fr n
theorem GG.bok {F : Nat → Int32} (h : GG F) : BoolOK F := by obtain ⟨t, -, h⟩ := h; exact h.bok
theorem nI_m1' {v : Nat} (h : v < 2147483648) : ¬ nI v = -1 := fun q => by
  have := congrArg Int32.toInt q
  rw [nI_toInt (by omega), show ((-1 : Int32)).toInt = -1 from rfl] at this
  omega
/-- n commands from the k-th on: the one that fails, if one does, and what is then -/
def exL : Nat → Nat → Mm → Option Nat × Mm
  | 0, _, M => (none, M)
  | n + 1, k, M => if errS (exR M (M 23 k) (M 24 k) (M 25 k)) = true then (some k, exM M (M 23 k) (M 24 k) (M 25 k)) else exL n (k + 1) (exM M (M 23 k) (M 24 k) (M 25 k))
def exA (r : Option Nat) (c : Nat) : Int32 := match r with
  | some k => (-300000) - nI k
  | none => nI c
def exZ (r : Option Nat × Mm) (c fr : Nat) : Mm := match r.1 with
  | some _ => setR r.2 0 (r.2 (2 + fr))
  | none => ktM (wr r.2 21 0 (nI 0)) (nI c)
/-- behind runScript -/
def rsQ (M : Mm) (n fr : Nat) : Option OV → Mm → Prop := fun v M' =>
  (∃ c, v = some (.inl ((-200000) - nI (cmE (M 22) n (pth (M 22) n c)))) ∧ pth (M 22) n c < n ∧ cmOK (M 22) n (pth (M 22) n c) = false ∧ (∀ j, j < c → pth (M 22) n j < n ∧ cmOK (M 22) n (pth (M 22) n j) = true) ∧ (∀ r, r ≠ 21 → r ≠ 23 → r ≠ 24 → r ≠ 25 → M' r = M r) ∧ M' 21 0 = nI n) ∨
  (∃ c M1, c ≤ 80 ∧ (∀ j, j < c → pth (M 22) n j < n ∧ cmOK (M 22) n (pth (M 22) n j) = true) ∧ n ≤ pth (M 22) n c ∧ M1 21 0 = nI n ∧ (∀ r, r ≠ 21 → r ≠ 23 → r ≠ 24 → r ≠ 25 → M1 r = M r) ∧ (∀ j, j < c → M1 23 j = M 22 (pth (M 22) n j) ∧ M1 24 j = nI (cm1 (M 22) n (pth (M 22) n j)) ∧ (M 22 (pth (M 22) n j) = nI 114 → M1 25 j = nI (cm2 (M 22) n (pth (M 22) n j)))) ∧ v = some (.inl (exA (exL c 0 (ntM M1)).1 c)) ∧ M' = exZ (exL c 0 (ntM M1)) c fr)
set_option maxRecDepth 20000 in
set_option maxHeartbeats 4000000 in
theorem ct_X6_undo {fr : Nat} (hfr : fr < 7) {n : Nat} (hn : n ≤ 6) (M : Mm) (hf : M 20 0 = nI fr) (hs : M 20 1 = nI n) (hB : BoolOK (M (2 + pfr fr))) : Ct yX6_undo cX6_undo 1 (some .int) 3 65 [.inr (6, 0, 0, 0)] M (RI (undC n) (undCM M fr n)) := by
  refine Ct.at RX6 rfl (by decide +kernel) (Nat.le_of_ble_eq_true rfl) [some (.inr (6, 0, 0, 0))] rfl (fun G => ?_)
  refine a_al_0_1 (pc' := 1) dX6_undo_0 rfl ?_
  refine gf_6_4 (pc' := 4) fl_X6_127 dX6_undo_1 rfl ?_
  rw [hs]
  refine a_if_ne (pc' := 7) (tgt := 10) dX6_undo_4 (by decide) rfl (fun c_4 => ?_) (fun c_4 => ?_)
  · refine a_al_0_1 (pc' := 11) dX6_undo_10 rfl ?_
    refine a_al_0_1 (pc' := 12) dX6_undo_11 rfl ?_
    refine gf_6_3 (pc' := 15) fl_X6_101 dX6_undo_12 rfl ?_
    have hn1 : 1 ≤ n := by
      rcases Nat.eq_zero_or_pos n with q | q
      · exact absurd (by rw [q]; rfl) c_4
      · exact q
    have hn0 : ¬ nI n = 0 := c_4
    rw [hf]
    refine a_if_ne (pc' := 18) (tgt := 23) dX6_undo_15 (by decide) rfl (fun c_15 => ?_) (fun c_15 => ?_)
    · have hf1 : 1 ≤ fr := by
        rcases Nat.eq_zero_or_pos fr with q | q
        · exact absurd (by rw [q]; rfl) c_15
        · exact q
      have hpf : pfr fr = fr - 1 := by unfold pfr; rw [if_neg (by omega)]
      refine a_al_0_1 (pc' := 24) dX6_undo_23 rfl ?_
      refine gf_6_3 (pc' := 27) fl_X6_101 dX6_undo_24 rfl ?_
      rw [hf]
      refine a_iconst (v := nI 1) (pc' := 28) dX6_undo_27 (by decide) rfl ?_
      refine a_isubN (pc' := 29) (by omega) dX6_undo_28 rfl ?_
      refine pf_6_3 (pc' := 32) fl_X6_101 dX6_undo_29 rfl ?_
      refine a_al_0_1 (pc' := 33) dX6_undo_32 rfl ?_
      refine gf_6_0 (pc' := 36) fl_X6_10 dX6_undo_33 rfl ?_
      refine a_al_0_1 (pc' := 37) dX6_undo_36 rfl ?_
      refine gf_6_2 (pc' := 40) fl_X6_19 dX6_undo_37 rfl ?_
      refine a_al_0_1 (pc' := 41) dX6_undo_40 rfl ?_
      refine gf_6_3 (pc' := 44) fl_X6_101 dX6_undo_41 rfl ?_
      rw [wr_eq, setR_same, upd_at, if_pos rfl]
      refine aN_11 (j := (fr - 1)) (pc' := 45) (by omega) dX6_undo_44 rfl ?_
      refine k_VV (pc' := 48) (ct_X3_copyFrom (q := 0) (q' := 2 + (fr - 1)) (by decide) (by omega) (by omega) _ (by rw [setR_ne _ _ (by omega), ← hpf]; exact hB)) cw_X6_104 mi_X3_copyFrom se_X3_copyFrom (ok3 (by omega)) rfl rfl rfl (by decide) (by decide) (Nat.le_of_ble_eq_true rfl) rfl dX6_undo_45 rfl ?_
      refine a_al_0_1 (pc' := 49) dX6_undo_48 rfl ?_
      refine a_dup (pc' := 50) dX6_undo_49 rfl ?_
      refine gf_6_4 (pc' := 53) fl_X6_127 dX6_undo_50 rfl ?_
      rw [setR_ne _ _ (by decide), setR_same, upd_at, if_neg (by decide), hs]
      refine a_iconst (v := nI 1) (pc' := 54) dX6_undo_53 (by decide) rfl ?_
      refine a_isubN (pc' := 55) (by omega) dX6_undo_54 rfl ?_
      refine pf_6_4 (pc' := 58) fl_X6_127 dX6_undo_55 rfl ?_
      refine a_al_0_1 (pc' := 59) dX6_undo_58 rfl ?_
      refine gf_6_4 (pc' := 62) fl_X6_127 dX6_undo_59 rfl ?_
      refine a_iret dX6_undo_62 rfl rfl ?_
      refine fIM (by rw [wr_eq, setR_same, upd_at, if_pos rfl, undC, if_neg hn0]) ?_
      rw [undCM, if_neg hn0, undM, hpf, wr_eq, setR_ne _ _ (show (20 : Nat) ≠ 0 by decide), setR_same, setR_ne M _ (show _ ≠ (20 : Nat) by omega), setR_comm _ _ _ (show (0 : Nat) ≠ 20 by decide), setR_setR, setR_comm _ _ _ (show (0 : Nat) ≠ 20 by decide)]
    · have hf0 : fr = 0 := by
        have := (nI_eqm fr 0).mp c_15
        omega
      have hpf : pfr fr = 6 := by unfold pfr; rw [if_pos hf0]
      refine a_bipush (v := nI 6) (pc' := 20) dX6_undo_18 (by decide) rfl ?_
      refine a_goto (pc' := 29) dX6_undo_20 (by decide) ?_
      refine pf_6_3 (pc' := 32) fl_X6_101 dX6_undo_29 rfl ?_
      refine a_al_0_1 (pc' := 33) dX6_undo_32 rfl ?_
      refine gf_6_0 (pc' := 36) fl_X6_10 dX6_undo_33 rfl ?_
      refine a_al_0_1 (pc' := 37) dX6_undo_36 rfl ?_
      refine gf_6_2 (pc' := 40) fl_X6_19 dX6_undo_37 rfl ?_
      refine a_al_0_1 (pc' := 41) dX6_undo_40 rfl ?_
      refine gf_6_3 (pc' := 44) fl_X6_101 dX6_undo_41 rfl ?_
      rw [wr_eq, setR_same, upd_at, if_pos rfl]
      refine aN_11 (j := 6) (pc' := 45) (by omega) dX6_undo_44 rfl ?_
      refine k_VV (pc' := 48) (ct_X3_copyFrom (q := 0) (q' := 2 + 6) (by decide) (by omega) (by omega) _ (by rw [setR_ne _ _ (by omega), ← hpf]; exact hB)) cw_X6_104 mi_X3_copyFrom se_X3_copyFrom (ok3 (by omega)) rfl rfl rfl (by decide) (by decide) (Nat.le_of_ble_eq_true rfl) rfl dX6_undo_45 rfl ?_
      refine a_al_0_1 (pc' := 49) dX6_undo_48 rfl ?_
      refine a_dup (pc' := 50) dX6_undo_49 rfl ?_
      refine gf_6_4 (pc' := 53) fl_X6_127 dX6_undo_50 rfl ?_
      rw [setR_ne _ _ (by decide), setR_same, upd_at, if_neg (by decide), hs]
      refine a_iconst (v := nI 1) (pc' := 54) dX6_undo_53 (by decide) rfl ?_
      refine a_isubN (pc' := 55) (by omega) dX6_undo_54 rfl ?_
      refine pf_6_4 (pc' := 58) fl_X6_127 dX6_undo_55 rfl ?_
      refine a_al_0_1 (pc' := 59) dX6_undo_58 rfl ?_
      refine gf_6_4 (pc' := 62) fl_X6_127 dX6_undo_59 rfl ?_
      refine a_iret dX6_undo_62 rfl rfl ?_
      refine fIM (by rw [wr_eq, setR_same, upd_at, if_pos rfl, undC, if_neg hn0]) ?_
      rw [undCM, if_neg hn0, undM, hpf, wr_eq, setR_ne _ _ (show (20 : Nat) ≠ 0 by decide), setR_same, setR_ne M _ (show _ ≠ (20 : Nat) by omega), setR_comm _ _ _ (show (0 : Nat) ≠ 20 by decide), setR_setR, setR_comm _ _ _ (show (0 : Nat) ≠ 20 by decide)]
  · refine a_ldc (pc' := 9) dX6_undo_7 cn_X6_225 rfl ?_
    refine a_iret dX6_undo_9 rfl rfl ?_
    exact fIM (by simp [undC, c_4]) (by simp [undCM, c_4])
set_option maxRecDepth 20000 in
set_option maxHeartbeats 4000000 in
theorem ct_X6_runCommand {nv np t : Nat} (hn : nv ≤ 3) (hm : np ≤ 12) (ht : t ≤ 600) {k : Nat} (hk : k < 80) (M : Mm) (hs : sOK (M 0) nv np) (h2 : M 0 2 = nI t) (hvo : vOK (M 0)) : Ct yX6_runCommand cX6_runCommand 3 (some .int) 5 119 [.inr (6, 0, 0, 0), .inl (nI k)] M (RI (exR M (M 23 k) (M 24 k) (M 25 k)) (exM M (M 23 k) (M 24 k) (M 25 k))) := by
  refine Ct.at RX6 rfl (by decide +kernel) (Nat.le_of_ble_eq_true rfl) [some (.inr (6, 0, 0, 0)), some (.inl (nI k)), none] rfl (fun G => ?_)
  refine a_al_0_3 (pc' := 1) dX6_runCommand_0 rfl ?_
  refine gf_6_6 (pc' := 4) fl_X6_33 dX6_runCommand_1 rfl ?_
  refine gf_2_4 (pc' := 7) fl_X6_239 dX6_runCommand_4 rfl ?_
  refine a_il_1_3 (pc' := 8) dX6_runCommand_7 rfl ?_
  refine a_ialdN (pc' := 9) rfl (by omega) (by decide) dX6_runCommand_8 rfl ?_
  refine a_is_2_3 (pc' := 10) dX6_runCommand_9 rfl ?_
  refine a_al_0_3 (pc' := 11) dX6_runCommand_10 rfl ?_
  refine gf_6_6 (pc' := 14) fl_X6_33 dX6_runCommand_11 rfl ?_
  refine gf_2_3 (pc' := 17) fl_X6_243 dX6_runCommand_14 rfl ?_
  refine a_il_1_3 (pc' := 18) dX6_runCommand_17 rfl ?_
  refine a_ialdN (pc' := 19) rfl (by omega) (by decide) dX6_runCommand_18 rfl ?_
  by_cases s_19_99 : M 23 k = nI 99
  · rw [s_19_99]
    refine a_lsw (tgt := 70) (off := 51) dX6_runCommand_19 (by decide) (by decide) (by decide) ?_
    refine a_al_0_3 (pc' := 71) dX6_runCommand_70 rfl ?_
    refine gf_6_0 (pc' := 74) fl_X6_10 dX6_runCommand_71 rfl ?_
    refine a_il_2_3 (pc' := 75) dX6_runCommand_74 rfl ?_
    refine a_iconst (v := nI 0) (pc' := 76) dX6_runCommand_75 (by decide) rfl ?_
    refine k_VI (pc' := 79) (ct_X3_turnDoor (q := 0) (by decide) hn hm _ _ _ hs.1 hs.2.1) cw_X6_66 mi_X3_turnDoor se_X3_turnDoor (ok3 (by omega)) rfl rfl rfl (by decide) (by decide) (Nat.le_of_ble_eq_true rfl) rfl dX6_runCommand_76 rfl ?_
    refine a_iret dX6_runCommand_79 rfl rfl ?_
    have hx : True := trivial
    exact fIM (by simp [exR, nI_eqm, s_19_99]) (by simp [exM, nI_eqm, s_19_99])
  by_cases s_19_100 : M 23 k = nI 100
  · rw [s_19_100]
    refine a_lsw (tgt := 93) (off := 74) dX6_runCommand_19 (by decide) (by decide) (by decide) ?_
    refine a_al_0_3 (pc' := 94) dX6_runCommand_93 rfl ?_
    refine gf_6_0 (pc' := 97) fl_X6_10 dX6_runCommand_94 rfl ?_
    refine a_il_2_3 (pc' := 98) dX6_runCommand_97 rfl ?_
    refine k_VI (pc' := 101) (ct_X3_handOver (q := 0) (by decide) hm _ _ hs.2.1 hvo) cw_X6_73 mi_X3_handOver se_X3_handOver (ok3 (by omega)) rfl rfl rfl (by decide) (by decide) (Nat.le_of_ble_eq_true rfl) rfl dX6_runCommand_98 rfl ?_
    refine a_iret dX6_runCommand_101 rfl rfl ?_
    have hx : True := trivial
    exact fIM (by simp [exR, nI_eqm, s_19_99, s_19_100]) (by simp [exM, nI_eqm, s_19_99, s_19_100])
  by_cases s_19_111 : M 23 k = nI 111
  · rw [s_19_111]
    refine a_lsw (tgt := 60) (off := 41) dX6_runCommand_19 (by decide) (by decide) (by decide) ?_
    refine a_al_0_3 (pc' := 61) dX6_runCommand_60 rfl ?_
    refine gf_6_0 (pc' := 64) fl_X6_10 dX6_runCommand_61 rfl ?_
    refine a_il_2_3 (pc' := 65) dX6_runCommand_64 rfl ?_
    refine a_iconst (v := nI 1) (pc' := 66) dX6_runCommand_65 (by decide) rfl ?_
    refine k_VI (pc' := 69) (ct_X3_turnDoor (q := 0) (by decide) hn hm _ _ _ hs.1 hs.2.1) cw_X6_66 mi_X3_turnDoor se_X3_turnDoor (ok3 (by omega)) rfl rfl rfl (by decide) (by decide) (Nat.le_of_ble_eq_true rfl) rfl dX6_runCommand_66 rfl ?_
    refine a_iret dX6_runCommand_69 rfl rfl ?_
    have hx : True := trivial
    exact fIM (by simp [exR, nI_eqm, s_19_99, s_19_100, s_19_111]) (by simp [exM, nI_eqm, s_19_99, s_19_100, s_19_111])
  by_cases s_19_119 : M 23 k = nI 119
  · rw [s_19_119]
    refine a_lsw (tgt := 80) (off := 61) dX6_runCommand_19 (by decide) (by decide) (by decide) ?_
    refine a_al_0_3 (pc' := 81) dX6_runCommand_80 rfl ?_
    refine gf_6_0 (pc' := 84) fl_X6_10 dX6_runCommand_81 rfl ?_
    refine a_il_2_3 (pc' := 85) dX6_runCommand_84 rfl ?_
    refine a_al_0_3 (pc' := 86) dX6_runCommand_85 rfl ?_
    refine gf_6_5 (pc' := 89) fl_X6_26 dX6_runCommand_86 rfl ?_
    refine k_VI (pc' := 92) (ct_X3_letPass (q := 0) (by decide) hn hm _ _ hs h2 ht) cw_X6_69 mi_X3_letPass se_X3_letPass (ok3 (by omega)) rfl rfl rfl (by decide) (by decide) (Nat.le_of_ble_eq_true rfl) rfl dX6_runCommand_89 rfl ?_
    refine a_iret dX6_runCommand_92 rfl rfl ?_
    have hx : True := trivial
    exact fIM (by simp [exR, nI_eqm, s_19_99, s_19_100, s_19_111, s_19_119]) (by simp [exM, nI_eqm, s_19_99, s_19_100, s_19_111, s_19_119])
  refine a_lsw (tgt := 102) (off := 83) dX6_runCommand_19 (by decide) (by rw [show Op.lookupswitch.offset _ _ _ = _ from lv_osw s_19_99 (by decide)]; rw [show Op.lookupswitch.offset _ _ _ = _ from lv_osw s_19_100 (by decide)]; rw [show Op.lookupswitch.offset _ _ _ = _ from lv_osw s_19_111 (by decide)]; rw [show Op.lookupswitch.offset _ _ _ = _ from lv_osw s_19_119 (by decide)]; rfl) (by decide) ?_
  refine a_al_0_3 (pc' := 103) dX6_runCommand_102 rfl ?_
  refine gf_6_0 (pc' := 106) fl_X6_10 dX6_runCommand_103 rfl ?_
  refine a_il_2_3 (pc' := 107) dX6_runCommand_106 rfl ?_
  refine a_al_0_3 (pc' := 108) dX6_runCommand_107 rfl ?_
  refine gf_6_6 (pc' := 111) fl_X6_33 dX6_runCommand_108 rfl ?_
  refine gf_2_5 (pc' := 114) fl_X6_246 dX6_runCommand_111 rfl ?_
  refine a_il_1_3 (pc' := 115) dX6_runCommand_114 rfl ?_
  refine a_ialdN (pc' := 116) rfl (by omega) (by decide) dX6_runCommand_115 rfl ?_
  refine k_VI (pc' := 119) (ct_X3_mendProbe (q := 0) (by decide) hn _ _ _ hs.1) cw_X6_59 mi_X3_mendProbe se_X3_mendProbe (ok3 (by omega)) rfl rfl rfl (by decide) (by decide) (Nat.le_of_ble_eq_true rfl) rfl dX6_runCommand_116 rfl ?_
  refine a_iret dX6_runCommand_119 rfl rfl ?_
  have hx : True := trivial
  exact fIM (by simp [exR, nI_eqm, s_19_99, s_19_100, s_19_111, s_19_119]) (by simp [exM, nI_eqm, s_19_99, s_19_100, s_19_111, s_19_119])
set_option maxRecDepth 20000 in
set_option maxHeartbeats 4000000 in
theorem lp_X6_runScript {G : Gl} {Φ : Option OV → Mm → Prop} {fr c : Nat} (hfr : fr < 7) (hc : c ≤ 80) (x1 : Option OV) : ∀ (n p : Nat) (M : Mm), p + n = c → (M 20 0 = nI fr) → (GG (M 0)) → (BoolOK (M (2 + fr))) → (Φ (some (.inl (exA (exL n p M).1 c))) (exZ (exL n p M) c fr)) → AW G cX6_runScript RX6 4 6 141 (some .int) Φ 32 [some (.inr (6, 0, 0, 0)), x1, some (.inl (nI c)), some (.inl (nI p))] [] M := by
  intro n
  induction n with
  | zero =>
    intro p M he hf hgg hB hΦ
    refine a_il_3_4 (pc' := 33) dX6_runScript_32 rfl ?_
    refine a_il_2_4 (pc' := 34) dX6_runScript_33 rfl ?_
    refine a_icmp_ge (pc' := 37) (tgt := 75) dX6_runScript_34 (by decide) rfl (fun c_34 => ?_) (fun c_34 => absurd (nI_le (by omega) (by omega)) c_34)
    refine a_al_0_4 (pc' := 76) dX6_runScript_75 rfl ?_
    refine gf_6_6 (pc' := 79) fl_X6_33 dX6_runScript_76 rfl ?_
    refine a_iconst (v := nI 0) (pc' := 80) dX6_runScript_79 (by decide) rfl ?_
    refine pf_2_1 (pc' := 83) fl_X6_82 dX6_runScript_80 rfl ?_
    refine a_al_0_4 (pc' := 84) dX6_runScript_83 rfl ?_
    refine a_il_2_4 (pc' := 85) dX6_runScript_84 rfl ?_
    refine k_VI (pc' := 88) (ct_X6_kept _ _) cw_X6_44 mi_X6_kept se_X6_kept rfl rfl rfl rfl (by decide) (by decide) (Nat.le_of_ble_eq_true rfl) rfl dX6_runScript_85 rfl ?_
    refine a_iret dX6_runScript_88 rfl rfl ?_
    exact hΦ
  | succ n ih =>
    intro p M he hf hgg hB hΦ
    obtain ⟨t, ht, hg⟩ := hgg
    refine a_il_3_4 (pc' := 33) dX6_runScript_32 rfl ?_
    refine a_il_2_4 (pc' := 34) dX6_runScript_33 rfl ?_
    refine a_icmp_ge (pc' := 37) (tgt := 75) dX6_runScript_34 (by decide) rfl (fun c_34 => absurd c_34 (nI_ge (by omega) (by omega))) (fun c_34 => ?_)
    refine a_al_0_4 (pc' := 38) dX6_runScript_37 rfl ?_
    refine a_il_3_4 (pc' := 39) dX6_runScript_38 rfl ?_
    refine k_VI (pc' := 42) (ct_X6_runCommand (t := t) hg.nv.1 hg.np.1 ht (k := p) (by omega) _ hg.sok hg.n2 hg.vok) cw_X6_94 mi_X6_runCommand se_X6_runCommand rfl rfl rfl rfl (by decide) (by decide) (Nat.le_of_ble_eq_true rfl) rfl dX6_runScript_39 rfl ?_
    refine k_SI (pc' := 45) (ct_X6_isError _ _) cw_X6_97 ms_X6_isError rfl (by decide) (by decide) (Nat.le_of_ble_eq_true rfl) rfl dX6_runScript_42 rfl ?_
    refine a_ifB_eq (pc' := 48) (tgt := 69) dX6_runScript_45 (by decide) rfl (fun c_45 => ?_) (fun c_45 => ?_)
    · refine a_iN_3_4 (m := p + 1) (pc' := 72) dX6_runScript_69 (nI_add _ _) rfl ?_
      refine a_goto (pc' := 32) dX6_runScript_72 (by decide) ?_
      rw [show exL (n + 1) p M = exL n (p + 1) (exM M (M 23 p) (M 24 p) (M 25 p)) from if_neg (by rw [c_45]; decide)] at hΦ
      exact ih (p + 1) _ (by omega) (by rw [exM_ne _ _ _ hg.nv.1 (Or.inl (by decide)) (by decide)]; exact hf) (by rw [exM_T]; exact GG.ex ⟨t, ht, hg⟩ _ _ _) (by rw [exM_ne _ _ _ hg.nv.1 (Or.inl (by omega)) (by omega)]; exact hB) hΦ
    · refine a_al_0_4 (pc' := 49) dX6_runScript_48 rfl ?_
      refine gf_6_0 (pc' := 52) fl_X6_10 dX6_runScript_49 rfl ?_
      refine a_al_0_4 (pc' := 53) dX6_runScript_52 rfl ?_
      refine gf_6_2 (pc' := 56) fl_X6_19 dX6_runScript_53 rfl ?_
      refine a_al_0_4 (pc' := 57) dX6_runScript_56 rfl ?_
      refine gf_6_3 (pc' := 60) fl_X6_101 dX6_runScript_57 rfl ?_
      rw [exM_ne _ _ _ hg.nv.1 (Or.inl (by decide)) (by decide), hf]
      refine aN_11 (j := fr) (pc' := 61) (by omega) dX6_runScript_60 rfl ?_
      refine k_VV (pc' := 64) (ct_X3_copyFrom (q := 0) (q' := 2 + fr) (by decide) (by omega) (by omega) _ (by rw [exM_ne _ _ _ hg.nv.1 (Or.inl (by omega)) (by omega)]; exact hB)) cw_X6_104 mi_X3_copyFrom se_X3_copyFrom (ok3 (by omega)) rfl rfl rfl (by decide) (by decide) (Nat.le_of_ble_eq_true rfl) rfl dX6_runScript_61 rfl ?_
      refine a_ldc (pc' := 66) dX6_runScript_64 cn_X6_108 rfl ?_
      refine a_il_3_4 (pc' := 67) dX6_runScript_66 rfl ?_
      refine a_isub (pc' := 68) dX6_runScript_67 rfl ?_
      refine a_iret dX6_runScript_68 rfl rfl ?_
      rw [show exL (n + 1) p M = (some p, exM M (M 23 p) (M 24 p) (M 25 p)) from if_pos c_45] at hΦ
      exact hΦ
set_option maxRecDepth 20000 in
set_option maxHeartbeats 4000000 in
theorem ct_X6_runScript {fr : Nat} (hfr : fr < 7) {n : Nat} (hn : n ≤ 80) (M : Mm) (hf : M 20 0 = nI fr) (hl : M 21 0 = nI n) (hgg : GG (M 0)) : Ct yX6_runScript cX6_runScript 4 (some .int) 6 141 [.inr (6, 0, 0, 0)] M (rsQ M n fr) := by
  refine Ct.at RX6 rfl (by decide +kernel) (Nat.le_of_ble_eq_true rfl) [some (.inr (6, 0, 0, 0)), none, none, none] rfl (fun G => ?_)
  refine a_al_0_4 (pc' := 1) dX6_runScript_0 rfl ?_
  refine gf_6_6 (pc' := 4) fl_X6_33 dX6_runScript_1 rfl ?_
  refine a_callV (pc' := 7) (ct_X2_read hn _ hl) cw_X6_86 mi_X2_read se_X2_read rfl rfl rfl rfl (by decide) (by decide) (Nat.le_of_ble_eq_true rfl) rfl dX6_runScript_4 rfl (fun v M1 hq => ?_)
  obtain ⟨q1, qo, c, hc, hok, hq⟩ := hq
  have q0 : M1 0 = M 0 := qo 0 (by decide) (by decide) (by decide) (by decide)
  have q20 : M1 20 0 = nI fr := by rw [qo 20 (by decide) (by decide) (by decide) (by decide)]; exact hf
  rcases hq with ⟨rfl, qn, qc, qa⟩ | ⟨rfl, qn, qb⟩
  · refine (?_ : AW G cX6_runScript RX6 4 6 141 (some .int) _ 7 [some (.inr (6, 0, 0, 0)), none, none, none] [.inl (-1)] M1)
    refine a_is_1_4 (pc' := 8) dX6_runScript_7 rfl ?_
    refine a_il_1_4 (pc' := 9) dX6_runScript_8 rfl ?_
    refine a_iconst (v := (-1)) (pc' := 10) dX6_runScript_9 (by decide) rfl ?_
    refine a_icmp_eq (pc' := 13) (tgt := 18) dX6_runScript_10 (by decide) rfl (fun c_10 => ?_) (fun c_10 => absurd rfl c_10)
    refine a_al_0_4 (pc' := 19) dX6_runScript_18 rfl ?_
    refine k_VV (pc' := 22) (ct_X6_noteState hfr _ (by rw [qo 20 (by decide) (by decide) (by decide) (by decide)]; exact hf) (by rw [qo 0 (by decide) (by decide) (by decide) (by decide)]; exact hgg.bok)) cw_X6_37 mi_X6_noteState se_X6_noteState rfl rfl rfl rfl (by decide) (by decide) (Nat.le_of_ble_eq_true rfl) rfl dX6_runScript_19 rfl ?_
    refine a_al_0_4 (pc' := 23) dX6_runScript_22 rfl ?_
    refine gf_6_6 (pc' := 26) fl_X6_33 dX6_runScript_23 rfl ?_
    refine gf_2_6 (pc' := 29) fl_X6_91 dX6_runScript_26 rfl ?_
    rw [ntM_ne _ (show (21 : Nat) ≠ _ by rw [q20, vN_nI (by omega)]; omega), qc]
    refine a_is_2_4 (pc' := 30) dX6_runScript_29 rfl ?_
    refine a_iconst (v := nI 0) (pc' := 31) dX6_runScript_30 (by decide) rfl ?_
    refine a_is_3_4 (pc' := 32) dX6_runScript_31 rfl ?_
    refine lp_X6_runScript hfr hc _ c 0 _ (by omega) ?_ ?_ ?_ ?_
    · rw [ntM_ne _ (by rw [q20, vN_nI (by omega)]; omega)]; exact q20
    · rw [ntM_0, q0]; exact hgg
    · rw [show ntM M1 (2 + fr) = M1 0 from by unfold ntM; rw [q20, vN_nI (by omega)]; exact setR_same _ _ _, q0]; exact hgg.bok
    · exact Or.inr ⟨c, M1, hc, hok, qn, q1, qo, qa, rfl, rfl⟩
  · have hcE : cmE (M 22) n (pth (M 22) n c) < 2147483648 := by
      have := (cmE_b (M 22) qn).2
      omega
    generalize hxE : cmE (M 22) n (pth (M 22) n c) = xE at hcE
    refine (?_ : AW G cX6_runScript RX6 4 6 141 (some .int) _ 7 [some (.inr (6, 0, 0, 0)), none, none, none] [.inl (nI xE)] M1)
    refine a_is_1_4 (pc' := 8) dX6_runScript_7 rfl ?_
    refine a_il_1_4 (pc' := 9) dX6_runScript_8 rfl ?_
    refine a_iconst (v := (-1)) (pc' := 10) dX6_runScript_9 (by decide) rfl ?_
    refine a_icmp_eq (pc' := 13) (tgt := 18) dX6_runScript_10 (by decide) rfl (fun c_10 => absurd c_10 (nI_m1' hcE)) (fun c_10 => ?_)
    refine a_ldc (pc' := 15) dX6_runScript_13 cn_X6_90 rfl ?_
    refine a_il_1_4 (pc' := 16) dX6_runScript_15 rfl ?_
    refine a_isub (pc' := 17) dX6_runScript_16 rfl ?_
    refine a_iret dX6_runScript_17 rfl rfl ?_
    exact Or.inl ⟨c, by rw [hxE], qn, qb, hok, qo, q1⟩
