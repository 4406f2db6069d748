theorem AW.weak {G : Gl} {cc : ByteArray} {own : String} {nL fr lo : Nat} {rt : Option FieldType} {Φ Φ' : Option OV → Mm → Prop} {pc : Nat} {ls : List (Option OV)} {st : List OV} {M : Mm} (h : ∀ v M', Φ v M' → Φ' v M') (k : AW G cc own nL fr lo rt Φ pc ls st M) : AW G cc own nL fr lo rt Φ' pc ls st M := by
  intro A p l e R s m args below meth c cells slots Z H locs lsA hF hR hM hS hL
  exact k A p l e R s m args below meth c cells slots Z H locs lsA hF (fun v M' H' locs' lsA' pc' hΦ => hR v M' H' locs' lsA' pc' (h v M' hΦ)) hM hS hL
/-- behind isCommand -/
def mcQ (T : Nat → Int32) (n a : Nat) (M : Mm) : Option OV → Mm → Prop := fun v M' => v = some (.inl (bI (cmOK T n a))) ∧ (∀ q, q ≠ 56 → q ≠ 60 → M' q = M q) ∧ (∀ i, i ≠ 3 → i ≠ 4 → M' 60 i = M 60 i) ∧ M' 60 3 = nI (if cmOK T n a then nxP T n a else cmE T n a) ∧ M' 60 4 = T a ∧ (cmOK T n a = true → M' 56 0 = nI (cm1 T n a) ∧ (T a = nI 114 → M' 56 1 = nI (cm2 T n a)))
theorem mcQ_wr {T : Nat → Int32} {n a : Nat} {M : Mm} {x : Int32} {v : Option OV} {M9 : Mm} (h : mcQ T n a (wr M 60 4 x) v M9) : mcQ T n a M v M9 := by
  obtain ⟨h1, h2, h3, h4, h5, h6⟩ := h
  exact ⟨h1, fun q a b => (h2 q a b).trans (wr_rne _ _ _ b), fun i a b => (h3 i a b).trans (by rw [wr_eq, setR_same, upd_at, if_neg b]), h4, h5, h6⟩
set_option maxRecDepth 20000 in
set_option maxHeartbeats 4000000 in
theorem lp_X7_isCommand {G : Gl} {n a : Nat} {T : Nat → Int32} (hn : n ≤ 80) (ha : a < n) (M : Mm) (hl : M 60 2 = nI n) (hs : M 60 3 = nI a) (hT : M 55 = T) (h4 : M 60 4 = T a) (hlet : letB (T a) = true) : AW G cX7_isCommand RX7 1 4 87 (some .boolean) (mcQ T n a M) 60 [some (.inr (7, 0, 0, 0))] [] M := by
  have hb := cm_b T ha
  refine a_al_0_1 (pc' := 61) dX7_isCommand_60 rfl ?_
  refine a_dup (pc' := 62) dX7_isCommand_61 rfl ?_
  refine gf_7_9 (pc' := 65) fl_X7_147 dX7_isCommand_62 rfl ?_
  refine a_iconst (v := nI 1) (pc' := 66) dX7_isCommand_65 (by decide) rfl ?_
  refine a_iadd (pc' := 67) dX7_isCommand_66 rfl ?_
  rw [hs, nI_add]
  refine pf_7_9 (pc' := 70) fl_X7_147 dX7_isCommand_67 rfl ?_
  refine a_al_0_1 (pc' := 71) dX7_isCommand_70 rfl ?_
  refine a_iconst (v := nI 0) (pc' := 72) dX7_isCommand_71 (by decide) rfl ?_
  refine k_VQ (pc' := 75) (ct_X7_isFigure hn (T := T) (a := a + 1) (k := 0) (by decide) (by omega) _ (by rw [wr_eq, setR_same, upd_at, if_neg (by decide)]; exact hl) (by rw [wr_eq, setR_same]; rfl) (by rw [wr_rne _ _ _ (by decide)]; exact hT)) cw_X7_159 mi_X7_isFigure se_X7_isFigure rfl rfl rfl rfl (by decide) (by decide) (Nat.le_of_ble_eq_true rfl) rfl dX7_isCommand_72 rfl (fun M_72 hq_72 => ?_)
  rw [show skp T n (a + 1) = cmA T n a from rfl] at hq_72 ⊢
  obtain ⟨f1, f2, f3, f4, f5⟩ := hq_72
  have g55 : M_72 55 = T := by rw [f1 55 (by decide) (by decide), wr_rne _ _ _ (by decide)]; exact hT
  have gl : M_72 60 2 = nI n := by rw [f2 2 (by decide), wr_eq, setR_same, upd_at, if_neg (by decide)]; exact hl
  have g4 : M_72 60 4 = T a := by rw [f2 4 (by decide), wr_eq, setR_same, upd_at, if_neg (by decide)]; exact h4
  refine a_ifB_ne (pc' := 78) (tgt := 80) dX7_isCommand_75 (by decide) rfl (fun c_75 => ?_) (fun c_75 => ?_)
  · have k2 : rnOK T n (cmA T n a) = true := c_75
    have g3 : M_72 60 3 = nI (cmB T n a) := by rw [f3, if_pos k2]; rfl
    refine a_al_0_1 (pc' := 81) dX7_isCommand_80 rfl ?_
    refine gf_7_10 (pc' := 84) fl_X7_156 dX7_isCommand_81 rfl ?_
    rw [g4]
    refine a_bipush (v := nI 114) (pc' := 86) dX7_isCommand_84 (by decide) rfl ?_
    refine a_icmp_ne (pc' := 89) (tgt := 108) dX7_isCommand_86 (by decide) rfl (fun c_86 => ?_) (fun c_86 => ?_)
    · have eD : cmD T n a = cmB T n a := by unfold cmD; rw [if_neg c_86]
      refine a_al_0_1 (pc' := 109) dX7_isCommand_108 rfl ?_
      refine a_bipush (v := nI 59) (pc' := 111) dX7_isCommand_109 (by decide) rfl ?_
      refine k_VI (pc' := 114) (ct_X7_takes hn (T := T) (a := cmD T n a) (by omega) _ _ gl (by rw [eD]; exact g3) g55) cw_X7_162 mi_X7_takes se_X7_takes rfl rfl rfl rfl (by decide) (by decide) (Nat.le_of_ble_eq_true rfl) rfl dX7_isCommand_111 rfl ?_
      refine a_ifB_ne (pc' := 117) (tgt := 119) dX7_isCommand_114 (by decide) rfl (fun c_114 => ?_) (fun c_114 => ?_)
      · refine a_al_0_1 (pc' := 120) dX7_isCommand_119 rfl ?_
        refine k_VV (pc' := 123) (ct_X7_skips hn (T := T) (a := sgnE T n (cmD T n a) (nI 59)) (sgnE_b T (nI 59) (by omega)).2 _ (by rw [wr_eq, setR_same, upd_at, if_neg (by decide)]; exact gl) (by rw [wr_eq, setR_same]; rfl) (by rw [wr_rne _ _ _ (by decide)]; exact g55)) cw_X7_153 mi_X7_skips se_X7_skips rfl rfl rfl rfl (by decide) (by decide) (Nat.le_of_ble_eq_true rfl) rfl dX7_isCommand_120 rfl ?_
        refine a_iconst (v := nI 1) (pc' := 124) dX7_isCommand_123 (by decide) rfl ?_
        refine a_iret dX7_isCommand_124 rfl rfl ?_
        have hok : cmOK T n a = true := by simp [cmOK, hlet, k2, c_86, let114, c_114]
        have hE : cmE T n a = sgnE T n (cmD T n a) (nI 59) := by simp [cmE, hlet, k2, c_86, let114]
        refine ⟨by rw [hok]; rfl, ?_, ?_, ?_, ?_, ?_⟩
        · intro q h1 h2; rw [wr_rne _ _ _ h2, wr_rne _ _ _ h2, f1 q h1 h2, wr_rne _ _ _ h2]
        · intro i h1 h2; rw [wr_eq, setR_same, upd_at, if_neg h1, wr_eq, setR_same, upd_at, if_neg h1, f2 i h1, wr_eq, setR_same, upd_at, if_neg h1]
        · rw [hok, if_pos rfl, nxP, hE, wr_eq, setR_same]; rfl
        · rw [wr_eq, setR_same, upd_at, if_neg (show ¬ (4 : Nat) = 3 by decide), wr_eq, setR_same, upd_at, if_neg (show ¬ (4 : Nat) = 3 by decide)]; exact g4
        · intro _
          exact ⟨by rw [wr_rne _ _ _ (show (56 : Nat) ≠ 60 by decide), wr_rne _ _ _ (show (56 : Nat) ≠ 60 by decide), f4 k2]; rfl, fun w9 => absurd w9 c_86⟩
      · refine a_iconst (v := nI 0) (pc' := 118) dX7_isCommand_117 (by decide) rfl ?_
        refine a_iret dX7_isCommand_118 rfl rfl ?_
        have hok : cmOK T n a = false := by simp [cmOK, hlet, k2, c_86, let114, c_114]
        have hE : cmE T n a = sgnE T n (cmD T n a) (nI 59) := by simp [cmE, hlet, k2, c_86, let114]
        refine ⟨by rw [hok]; rfl, ?_, ?_, ?_, ?_, ?_⟩
        · intro q h1 h2; rw [wr_rne _ _ _ h2, f1 q h1 h2, wr_rne _ _ _ h2]
        · intro i h1 h2; rw [wr_eq, setR_same, upd_at, if_neg h1, f2 i h1, wr_eq, setR_same, upd_at, if_neg h1]
        · rw [hok]; simp only [Bool.false_eq_true, if_false]; rw [hE, wr_eq, setR_same]; rfl
        · rw [wr_eq, setR_same, upd_at, if_neg (show ¬ (4 : Nat) = 3 by decide)]; exact g4
        · intro h; rw [hok] at h; cases h
    · refine a_al_0_1 (pc' := 90) dX7_isCommand_89 rfl ?_
      refine a_bipush (v := nI 46) (pc' := 92) dX7_isCommand_90 (by decide) rfl ?_
      refine k_VI (pc' := 95) (ct_X7_takes hn (T := T) (a := cmB T n a) (by omega) _ _ gl g3 g55) cw_X7_162 mi_X7_takes se_X7_takes rfl rfl rfl rfl (by decide) (by decide) (Nat.le_of_ble_eq_true rfl) rfl dX7_isCommand_92 rfl ?_
      refine a_ifB_eq (pc' := 98) (tgt := 106) dX7_isCommand_95 (by decide) rfl (fun c_95 => ?_) (fun c_95 => ?_)
      · refine a_iconst (v := nI 0) (pc' := 107) dX7_isCommand_106 (by decide) rfl ?_
        refine a_iret dX7_isCommand_107 rfl rfl ?_
        have hok : cmOK T n a = false := by simp [cmOK, hlet, k2, c_86, let114, c_95]
        have hE : cmE T n a = sgnE T n (cmB T n a) (nI 46) := by simp [cmE, hlet, k2, c_86, let114, c_95, sgnE]
        refine ⟨by rw [hok]; rfl, ?_, ?_, ?_, ?_, fun h => by rw [hok] at h; cases h⟩
        · intro q h1 h2; rw [wr_rne _ _ _ h2, f1 q h1 h2, wr_rne _ _ _ h2]
        · intro i h1 h2; rw [wr_eq, setR_same, upd_at, if_neg h1, f2 i h1, wr_eq, setR_same, upd_at, if_neg h1]
        · rw [hok]; simp only [Bool.false_eq_true, if_false]; rw [hE, wr_eq, setR_same]; rfl
        · rw [wr_eq, setR_same, upd_at, if_neg (by decide)]; exact g4
      · refine a_al_0_1 (pc' := 99) dX7_isCommand_98 rfl ?_
        refine a_iconst (v := nI 1) (pc' := 100) dX7_isCommand_99 (by decide) rfl ?_
        refine k_VQ (pc' := 103) (ct_X7_isFigure hn (T := T) (a := sgnE T n (cmB T n a) (nI 46)) (k := 1) (by decide) (sgnE_b T (nI 46) (by omega)).2 _ (by rw [wr_eq, setR_same, upd_at, if_neg (by decide)]; exact gl) (by rw [wr_eq, setR_same]; rfl) (by rw [wr_rne _ _ _ (by decide)]; exact g55)) cw_X7_159 mi_X7_isFigure se_X7_isFigure rfl rfl rfl rfl (by decide) (by decide) (Nat.le_of_ble_eq_true rfl) rfl dX7_isCommand_100 rfl (fun M_100 hq_100 => ?_)
        rw [show skp T n (sgnE T n (cmB T n a) (nI 46)) = cmC T n a from rfl] at hq_100 ⊢
        obtain ⟨e1, e2, e3, e4, e5⟩ := hq_100
        have d55 : M_100 55 = T := by rw [e1 55 (by decide) (by decide), wr_rne _ _ _ (by decide)]; exact g55
        have dl : M_100 60 2 = nI n := by rw [e2 2 (by decide), wr_eq, setR_same, upd_at, if_neg (by decide)]; exact gl
        refine a_ifB_ne (pc' := 106) (tgt := 108) dX7_isCommand_103 (by decide) rfl (fun c_103 => ?_) (fun c_103 => ?_)
        · have k4 : rnOK T n (cmC T n a) = true := c_103
          have eD : cmD T n a = rnE T n (cmC T n a) := by unfold cmD; rw [if_pos c_86]
          have d3 : M_100 60 3 = nI (cmD T n a) := by rw [e3, eD, if_pos k4]
          refine a_al_0_1 (pc' := 109) dX7_isCommand_108 rfl ?_
          refine a_bipush (v := nI 59) (pc' := 111) dX7_isCommand_109 (by decide) rfl ?_
          refine k_VI (pc' := 114) (ct_X7_takes hn (T := T) (a := cmD T n a) (by omega) _ _ dl d3 d55) cw_X7_162 mi_X7_takes se_X7_takes rfl rfl rfl rfl (by decide) (by decide) (Nat.le_of_ble_eq_true rfl) rfl dX7_isCommand_111 rfl ?_
          refine a_ifB_ne (pc' := 117) (tgt := 119) dX7_isCommand_114 (by decide) rfl (fun c_114_2 => ?_) (fun c_114_2 => ?_)
          · refine a_al_0_1 (pc' := 120) dX7_isCommand_119 rfl ?_
            refine k_VV (pc' := 123) (ct_X7_skips hn (T := T) (a := sgnE T n (cmD T n a) (nI 59)) (sgnE_b T (nI 59) (by omega)).2 _ (by rw [wr_eq, setR_same, upd_at, if_neg (by decide)]; exact dl) (by rw [wr_eq, setR_same]; rfl) (by rw [wr_rne _ _ _ (by decide)]; exact d55)) cw_X7_153 mi_X7_skips se_X7_skips rfl rfl rfl rfl (by decide) (by decide) (Nat.le_of_ble_eq_true rfl) rfl dX7_isCommand_120 rfl ?_
            refine a_iconst (v := nI 1) (pc' := 124) dX7_isCommand_123 (by decide) rfl ?_
            refine a_iret dX7_isCommand_124 rfl rfl ?_
            have hok : cmOK T n a = true := by simp [cmOK, hlet, k2, c_86, let114, c_95, k4, c_114_2]
            have hE : cmE T n a = sgnE T n (cmD T n a) (nI 59) := by simp [cmE, hlet, k2, c_86, let114, c_95, k4]
            refine ⟨by rw [hok]; rfl, ?_, ?_, ?_, ?_, ?_⟩
            · intro q h1 h2; rw [wr_rne _ _ _ h2, wr_rne _ _ _ h2, e1 q h1 h2, wr_rne _ _ _ h2, f1 q h1 h2, wr_rne _ _ _ h2]
            · intro i h1 h2; rw [wr_eq, setR_same, upd_at, if_neg h1, wr_eq, setR_same, upd_at, if_neg h1, e2 i h1, wr_eq, setR_same, upd_at, if_neg h1, f2 i h1, wr_eq, setR_same, upd_at, if_neg h1]
            · rw [hok, if_pos rfl, nxP, hE, wr_eq, setR_same]; rfl
            · rw [wr_eq, setR_same, upd_at, if_neg (show ¬ (4 : Nat) = 3 by decide), wr_eq, setR_same, upd_at, if_neg (show ¬ (4 : Nat) = 3 by decide)]; rw [e2 4 (by decide), wr_eq, setR_same, upd_at, if_neg (by decide)]; exact g4
            · intro _
              exact ⟨by rw [wr_rne _ _ _ (show (56 : Nat) ≠ 60 by decide), wr_rne _ _ _ (show (56 : Nat) ≠ 60 by decide), e5 0 (by decide), wr_rne _ _ _ (show (56 : Nat) ≠ 60 by decide), f4 k2]; rfl, fun _ => by rw [wr_rne _ _ _ (show (56 : Nat) ≠ 60 by decide), wr_rne _ _ _ (show (56 : Nat) ≠ 60 by decide), e4 k4]; rfl⟩
          · refine a_iconst (v := nI 0) (pc' := 118) dX7_isCommand_117 (by decide) rfl ?_
            refine a_iret dX7_isCommand_118 rfl rfl ?_
            have hok : cmOK T n a = false := by simp [cmOK, hlet, k2, c_86, let114, c_95, k4, c_114_2]
            have hE : cmE T n a = sgnE T n (cmD T n a) (nI 59) := by simp [cmE, hlet, k2, c_86, let114, c_95, k4]
            refine ⟨by rw [hok]; rfl, ?_, ?_, ?_, ?_, ?_⟩
            · intro q h1 h2; rw [wr_rne _ _ _ h2, e1 q h1 h2, wr_rne _ _ _ h2, f1 q h1 h2, wr_rne _ _ _ h2]
            · intro i h1 h2; rw [wr_eq, setR_same, upd_at, if_neg h1, e2 i h1, wr_eq, setR_same, upd_at, if_neg h1, f2 i h1, wr_eq, setR_same, upd_at, if_neg h1]
            · rw [hok]; simp only [Bool.false_eq_true, if_false]; rw [hE, wr_eq, setR_same]; rfl
            · rw [wr_eq, setR_same, upd_at, if_neg (show ¬ (4 : Nat) = 3 by decide)]; rw [e2 4 (by decide), wr_eq, setR_same, upd_at, if_neg (by decide)]; exact g4
            · intro h; rw [hok] at h; cases h
        · refine a_iconst (v := nI 0) (pc' := 107) dX7_isCommand_106 (by decide) rfl ?_
          refine a_iret dX7_isCommand_107 rfl rfl ?_
          have k4 : rnOK T n (cmC T n a) = false := c_103
          have hok : cmOK T n a = false := by simp [cmOK, hlet, k2, c_86, let114, c_95, k4]
          have hE : cmE T n a = cmC T n a := by simp [cmE, hlet, k2, c_86, let114, c_95, k4]
          refine ⟨by rw [hok]; rfl, ?_, ?_, ?_, ?_, fun h => by rw [hok] at h; cases h⟩
          · intro q h1 h2; rw [e1 q h1 h2, wr_rne _ _ _ h2, f1 q h1 h2, wr_rne _ _ _ h2]
          · intro i h1 h2; rw [e2 i h1, wr_eq, setR_same, upd_at, if_neg h1, f2 i h1, wr_eq, setR_same, upd_at, if_neg h1]
          · rw [hok]; simp only [Bool.false_eq_true, if_false]; rw [hE, e3, k4]; try rfl
          · rw [e2 4 (by decide), wr_eq, setR_same, upd_at, if_neg (by decide)]; exact g4
  · refine a_iconst (v := nI 0) (pc' := 79) dX7_isCommand_78 (by decide) rfl ?_
    refine a_iret dX7_isCommand_79 rfl rfl ?_
    have k2 : rnOK T n (cmA T n a) = false := c_75
    have hok : cmOK T n a = false := by simp [cmOK, hlet, k2]
    have hE : cmE T n a = cmA T n a := by simp [cmE, hlet, k2]
    refine ⟨by rw [hok]; rfl, ?_, ?_, ?_, g4, fun h => by rw [hok] at h; cases h⟩
    · intro q h1 h2; rw [f1 q h1 h2, wr_rne _ _ _ h2]
    · intro i h1 h2; rw [f2 i h1, wr_eq, setR_same, upd_at, if_neg h1]
    · rw [f3, k2, hok]; simp only [Bool.false_eq_true, if_false]; rw [hE]
set_option maxRecDepth 20000 in
set_option maxHeartbeats 4000000 in
theorem ct_X7_isCommand {n a : Nat} (hn : n ≤ 80) (ha : a < n) (M : Mm) (hl : M 60 2 = nI n) (hs : M 60 3 = nI a) : Ct yX7_isCommand cX7_isCommand 1 (some .boolean) 4 87 [.inr (7, 0, 0, 0)] M (mcQ (M 55) n a M) := by
  refine Ct.at RX7 rfl (by decide +kernel) (Nat.le_of_ble_eq_true rfl) [some (.inr (7, 0, 0, 0))] rfl (fun G => ?_)
  refine a_al_0_1 (pc' := 1) dX7_isCommand_0 rfl ?_
  refine a_al_0_1 (pc' := 2) dX7_isCommand_1 rfl ?_
  refine gf_7_7 (pc' := 5) fl_X7_29 dX7_isCommand_2 rfl ?_
  refine a_al_0_1 (pc' := 6) dX7_isCommand_5 rfl ?_
  refine gf_7_9 (pc' := 9) fl_X7_147 dX7_isCommand_6 rfl ?_
  rw [hs]
  refine a_ialdN (pc' := 10) rfl (by omega) (by decide) dX7_isCommand_9 rfl ?_
  refine pf_7_10 (pc' := 13) fl_X7_156 dX7_isCommand_10 rfl ?_
  refine a_al_0_1 (pc' := 14) dX7_isCommand_13 rfl ?_
  refine gf_7_10 (pc' := 17) fl_X7_156 dX7_isCommand_14 rfl ?_
  rw [show wr M 60 4 (M 55 a) 60 4 = M 55 a from by rw [wr_eq, setR_same]; rfl]
  refine a_bipush (v := nI 111) (pc' := 19) dX7_isCommand_17 (by decide) rfl ?_
  refine a_icmp_eq (pc' := 22) (tgt := 60) dX7_isCommand_19 (by decide) rfl (fun c_19 => ?_) (fun c_19 => ?_)
  · refine AW.weak ?_ (lp_X7_isCommand (T := M 55) hn ha _ (by rw [wr_eq, setR_same, upd_at, if_neg (by decide)]; exact hl) (by rw [wr_eq, setR_same, upd_at, if_neg (by decide)]; exact hs) (wr_rne _ _ _ (by decide)) (by rw [wr_eq, setR_same]; rfl) (by simp [letB, c_19]))
    exact fun v M9 h => mcQ_wr h
  · refine a_al_0_1 (pc' := 23) dX7_isCommand_22 rfl ?_
    refine gf_7_10 (pc' := 26) fl_X7_156 dX7_isCommand_23 rfl ?_
    rw [show wr M 60 4 (M 55 a) 60 4 = M 55 a from by rw [wr_eq, setR_same]; rfl]
    refine a_bipush (v := nI 99) (pc' := 28) dX7_isCommand_26 (by decide) rfl ?_
    refine a_icmp_eq (pc' := 31) (tgt := 60) dX7_isCommand_28 (by decide) rfl (fun c_28 => ?_) (fun c_28 => ?_)
    · refine AW.weak ?_ (lp_X7_isCommand (T := M 55) hn ha _ (by rw [wr_eq, setR_same, upd_at, if_neg (by decide)]; exact hl) (by rw [wr_eq, setR_same, upd_at, if_neg (by decide)]; exact hs) (wr_rne _ _ _ (by decide)) (by rw [wr_eq, setR_same]; rfl) (by simp [letB, c_28]))
      exact fun v M9 h => mcQ_wr h
    · refine a_al_0_1 (pc' := 32) dX7_isCommand_31 rfl ?_
      refine gf_7_10 (pc' := 35) fl_X7_156 dX7_isCommand_32 rfl ?_
      rw [show wr M 60 4 (M 55 a) 60 4 = M 55 a from by rw [wr_eq, setR_same]; rfl]
      refine a_bipush (v := nI 119) (pc' := 37) dX7_isCommand_35 (by decide) rfl ?_
      refine a_icmp_eq (pc' := 40) (tgt := 60) dX7_isCommand_37 (by decide) rfl (fun c_37 => ?_) (fun c_37 => ?_)
      · refine AW.weak ?_ (lp_X7_isCommand (T := M 55) hn ha _ (by rw [wr_eq, setR_same, upd_at, if_neg (by decide)]; exact hl) (by rw [wr_eq, setR_same, upd_at, if_neg (by decide)]; exact hs) (wr_rne _ _ _ (by decide)) (by rw [wr_eq, setR_same]; rfl) (by simp [letB, c_37]))
        exact fun v M9 h => mcQ_wr h
      · refine a_al_0_1 (pc' := 41) dX7_isCommand_40 rfl ?_
        refine gf_7_10 (pc' := 44) fl_X7_156 dX7_isCommand_41 rfl ?_
        rw [show wr M 60 4 (M 55 a) 60 4 = M 55 a from by rw [wr_eq, setR_same]; rfl]
        refine a_bipush (v := nI 100) (pc' := 46) dX7_isCommand_44 (by decide) rfl ?_
        refine a_icmp_eq (pc' := 49) (tgt := 60) dX7_isCommand_46 (by decide) rfl (fun c_46 => ?_) (fun c_46 => ?_)
        · refine AW.weak ?_ (lp_X7_isCommand (T := M 55) hn ha _ (by rw [wr_eq, setR_same, upd_at, if_neg (by decide)]; exact hl) (by rw [wr_eq, setR_same, upd_at, if_neg (by decide)]; exact hs) (wr_rne _ _ _ (by decide)) (by rw [wr_eq, setR_same]; rfl) (by simp [letB, c_46]))
          exact fun v M9 h => mcQ_wr h
        · refine a_al_0_1 (pc' := 50) dX7_isCommand_49 rfl ?_
          refine gf_7_10 (pc' := 53) fl_X7_156 dX7_isCommand_50 rfl ?_
          rw [show wr M 60 4 (M 55 a) 60 4 = M 55 a from by rw [wr_eq, setR_same]; rfl]
          refine a_bipush (v := nI 114) (pc' := 55) dX7_isCommand_53 (by decide) rfl ?_
          refine a_icmp_eq (pc' := 58) (tgt := 60) dX7_isCommand_55 (by decide) rfl (fun c_55 => ?_) (fun c_55 => ?_)
          · refine AW.weak ?_ (lp_X7_isCommand (T := M 55) hn ha _ (by rw [wr_eq, setR_same, upd_at, if_neg (by decide)]; exact hl) (by rw [wr_eq, setR_same, upd_at, if_neg (by decide)]; exact hs) (wr_rne _ _ _ (by decide)) (by rw [wr_eq, setR_same]; rfl) (by simp [letB, c_55]))
            exact fun v M9 h => mcQ_wr h
          · refine a_iconst (v := nI 0) (pc' := 59) dX7_isCommand_58 (by decide) rfl ?_
            refine a_iret dX7_isCommand_59 rfl rfl ?_
            have hlet : letB (M 55 a) = false := by simp [letB, c_19, c_28, c_37, c_46, c_55]
            have hok : cmOK (M 55) n a = false := by simp [cmOK, hlet]
            have hE : cmE (M 55) n a = a := by simp [cmE, hlet]
            refine ⟨by rw [hok]; rfl, fun q h1 h2 => wr_rne _ _ _ h2, fun i h1 h2 => by rw [wr_eq, setR_same, upd_at, if_neg h2], ?_, by rw [wr_eq, setR_same]; rfl, fun h => by rw [hok] at h; cases h⟩
            rw [hok]; simp only [Bool.false_eq_true, if_false]; rw [hE, wr_eq, setR_same, upd_at, if_neg (by decide)]; exact hs
