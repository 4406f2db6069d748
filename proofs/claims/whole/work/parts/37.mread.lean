def fndK (F : Nat → Int32) : Nat → Nat → Int32 → Int32
  | 0, _, a => a
  | n + 1, k, a => fndK F n (k + 1) (a + F (10 + 19 * (k / 3) + 5 * (k % 3) + 3))
theorem fnd1_eq {F : Nat → Int32} (hB : BoolOK F) {v z : Nat} (hv : v < 3) (hz : z < 3) (a : Int32) : a + F (10 + 19 * v + 5 * z + 3) = fnd1 F v z a := by
  unfold fnd1
  rcases hB.2 v z hv hz with e | e
  · rw [e, if_pos rfl, Int32.add_zero]
  · rw [e, if_neg (by decide)]; rfl
theorem fndK_L {F : Nat → Int32} (hB : BoolOK F) : ∀ (n v : Nat) (a : Int32), v + n ≤ 3 → fndK F (3 * n) (3 * v) a = fndL F n v a := by
  intro n
  induction n with
  | zero => intro v a _; rfl
  | succ n ih =>
    intro v a hv
    rw [show 3 * (n + 1) = 3 * n + 1 + 1 + 1 by omega]
    unfold fndK fndK fndK fndL
    rw [show (3 * v) / 3 = v by omega, show (3 * v) % 3 = 0 by omega, show (3 * v + 1) / 3 = v by omega, show (3 * v + 1) % 3 = 1 by omega, show (3 * v + 1 + 1) / 3 = v by omega, show (3 * v + 1 + 1) % 3 = 2 by omega, show 3 * v + 1 + 1 + 1 = 3 * (v + 1) by omega]
    rw [ih (v + 1) _ (by omega), fnd1_eq hB (v := v) (z := 0) (by omega) (by decide), fnd1_eq hB (v := v) (z := 1) (by omega) (by decide), fnd1_eq hB (v := v) (z := 2) (by omega) (by decide)]
theorem fndK_eq {F : Nat → Int32} (hB : BoolOK F) {nv : Nat} (hn : nv ≤ 3) (a : Int32) : fndK F (3 * nv) 0 a = fndL F nv 0 a := fndK_L hB nv 0 a (by omega)
def mcS (M : Mm) (w : Int32) : Int32 := if w = nI 0 then M 50 0 else if w = nI 1 then M 50 1 else if w = nI 2 then M 50 2 else if w = nI 3 then M 50 3 else if w = nI 4 then M 50 4 else if w = nI 5 then M 50 5 else if w = nI 6 then M 60 2 else if w = nI 7 then M 60 0 else if w = nI 8 then fndL (M 50) (nvF (M 50)) 0 (nI 0) else (-100001)
theorem inn_lit {a b j : Nat} (h1 : a ≤ j) (h2 : j ≤ b) (hb : b < 2147483648) : inn (nI j) (nI a) (nI b) = true := by
  unfold inn
  rw [show decide (nI j < nI a) = false from decide_eq_false (nI_nlt h1 (by omega)), show decide (nI b < nI j) = false from decide_eq_false (nI_nlt h2 (by omega))]; rfl
theorem inn_ne {w : Int32} {a b j : Nat} (h : inn w (nI a) (nI b) = false) (h1 : a ≤ j) (h2 : j ≤ b) (hb : b < 2147483648) : ¬ w = nI j := fun q => by
  rw [q, inn_lit h1 h2 hb] at h
  exact absurd h (by decide)
theorem vqS_out (F : Nat → Int32) (x : Int32) {w : Int32} (h : inn w (nI 0) (nI 3) = false) : -100001 = vqS F x w := by
  unfold vqS
  rw [if_neg (inn_ne h (by decide) (by decide) (by decide)), if_neg (inn_ne h (by decide) (by decide) (by decide)), if_neg (inn_ne h (by decide) (by decide) (by decide)), if_neg (inn_ne h (by decide) (by decide) (by decide)), ite_self]
theorem pqS_out (F : Nat → Int32) (x : Int32) {w : Int32} (h : inn w (nI 0) (nI 10) = false) : -100001 = pqS F x w := by
  unfold pqS propP
  simp only [if_neg (inn_ne (j := 0) h (by decide) (by decide) (by decide)), if_neg (inn_ne (j := 1) h (by decide) (by decide) (by decide)), if_neg (inn_ne (j := 2) h (by decide) (by decide) (by decide)), if_neg (inn_ne (j := 3) h (by decide) (by decide) (by decide)), if_neg (inn_ne (j := 4) h (by decide) (by decide) (by decide)), if_neg (inn_ne (j := 5) h (by decide) (by decide) (by decide)), if_neg (inn_ne (j := 6) h (by decide) (by decide) (by decide)), if_neg (inn_ne (j := 7) h (by decide) (by decide) (by decide)), if_neg (inn_ne (j := 8) h (by decide) (by decide) (by decide)), if_neg (inn_ne (j := 9) h (by decide) (by decide) (by decide)), if_neg (inn_ne (j := 10) h (by decide) (by decide) (by decide)), ite_self]
theorem rejP_eq {F : Nat → Int32} {p : Nat} (hst : F (63 + 10 * p + 5) = nI 0 ∨ F (63 + 10 * p + 5) = nI 1 ∨ F (63 + 10 * p + 5) = nI 2 ∨ F (63 + 10 * p + 5) = nI 3) : (rejP F p = true) = (nI 2 ≤ F (63 + 10 * p + 5)) := by
  unfold rejP
  rcases hst with e | e | e | e <;> rw [e] <;> exact propext (by decide)
theorem nI3z : ¬ nI 3 = 0 := by decide
theorem nI13 : ¬ nI 1 = nI 3 := by decide
def clm1 (F : Nat → Int32) (p : Nat) (x : Int32) : Int32 := if x = 0 then claimP F p else claimByP F p x
def clmM (F : Nat → Int32) (p : Nat) (x : Int32) : Int32 := if causeP F p = 0 then nI 0 else if x = 0 then F (63 + 10 * p + 4) + F (63 + 10 * p + 9) else if causeP F p = nI 3 ∨ x = nI 3 then (if causeP F p = x then F (63 + 10 * p + 4) + F (63 + 10 * p + 9) else nI 0) else if x = nI 1 then (F (63 + 10 * p + 4) + F (63 + 10 * p + 9)) * F (63 + 10 * p + 6) / (F (63 + 10 * p + 6) + F (63 + 10 * p + 7)) else F (63 + 10 * p + 4) + F (63 + 10 * p + 9) - (F (63 + 10 * p + 4) + F (63 + 10 * p + 9)) * F (63 + 10 * p + 6) / (F (63 + 10 * p + 6) + F (63 + 10 * p + 7))
theorem cause_pos {F : Nat → Int32} {p : Nat} (hal : bt 0 600 (F (63 + 10 * p + 3))) (h0 : ¬ causeP F p = 0) (h3 : ¬ causeP F p = nI 3) : rejP F p = true ∧ ¬ F (63 + 10 * p + 6) + F (63 + 10 * p + 7) ≤ 0 := by
  unfold causeP at h0 h3
  by_cases hr : rejP F p = true
  · refine ⟨hr, fun q => ?_⟩
    rw [if_pos hr] at h3
    by_cases hl : F (63 + 10 * p + 3) < F (63 + 10 * p + 6) + F (63 + 10 * p + 7)
    · unfold bt at hal
      rw [Int32.lt_iff_toInt_lt] at hl
      rw [Int32.le_iff_toInt_le, show (0 : Int32).toInt = 0 from rfl] at q
      omega
    · rw [if_neg hl] at h3
      exact h3 rfl
  · rw [if_neg hr] at h0
    exact absurd rfl h0
theorem clm_nz {F : Nat → Int32} {p : Nat} (hal : bt 0 600 (F (63 + 10 * p + 3))) (h0 : ¬ causeP F p = 0) (h3 : ¬ causeP F p = nI 3) : ¬ F (63 + 10 * p + 6) + F (63 + 10 * p + 7) = 0 := fun q => (cause_pos hal h0 h3).2 (by rw [q]; decide)
theorem cause_0 {F : Nat → Int32} {p : Nat} (h : causeP F p = 0) : rejP F p = false := by
  unfold causeP at h
  by_cases hr : rejP F p = true
  · rw [if_pos hr] at h
    split at h
    · split at h
      · exact absurd h (by decide)
      · exact absurd h (by decide)
    · exact absurd h (by decide)
  · exact Bool.not_eq_true _ ▸ hr
theorem clm_eq {F : Nat → Int32} {p : Nat} {x : Int32} (hst : F (63 + 10 * p + 5) = nI 0 ∨ F (63 + 10 * p + 5) = nI 1 ∨ F (63 + 10 * p + 5) = nI 2 ∨ F (63 + 10 * p + 5) = nI 3) (hal : bt 0 600 (F (63 + 10 * p + 3))) : clm1 F p x = clmM F p x := by
  by_cases h0 : causeP F p = 0
  · have hr := cause_0 h0
    have hc : claimP F p = 0 := by unfold claimP; rw [hr]; rfl
    have hd : doorP F p = 0 := by
      unfold doorP
      rw [hc, Int32.zero_mul, Int32.zero_div]
      split <;> rfl
    unfold clm1 clmM
    rw [if_pos h0, hc]
    unfold claimByP
    rw [h0, hc, hd]
    by_cases hx : x = 0
    · rw [if_pos hx]; rfl
    · rw [if_neg hx]
      split
      · split <;> rfl
      · split <;> rfl
  · have hr : rejP F p = true := by
      by_cases h3 : causeP F p = nI 3
      · unfold causeP at h3
        by_cases hr : rejP F p = true
        · exact hr
        · rw [if_neg hr] at h3; exact absurd h3 (by decide)
      · exact (cause_pos hal h0 h3).1
    have hc : claimP F p = F (63 + 10 * p + 4) + F (63 + 10 * p + 9) := by unfold claimP; rw [if_pos hr]
    unfold clm1 clmM claimByP
    rw [if_neg h0, hc]
    by_cases hx : x = 0
    · rw [if_pos hx, if_pos hx]
    · rw [if_neg hx, if_neg hx]
      by_cases h3 : causeP F p = nI 3
      · rw [if_pos (Or.inl h3), if_pos (Or.inl h3)]
      · by_cases hx3 : x = nI 3
        · rw [if_pos (Or.inr hx3), if_pos (Or.inr hx3)]
        · have hd : doorP F p = (F (63 + 10 * p + 4) + F (63 + 10 * p + 9)) * F (63 + 10 * p + 6) / (F (63 + 10 * p + 6) + F (63 + 10 * p + 7)) := by
            unfold doorP; rw [if_neg (cause_pos hal h0 h3).2, hc]
          have hn : ¬ (causeP F p = nI 3 ∨ x = nI 3) := fun q => q.elim h3 hx3
          rw [if_neg hn, if_neg hn, hd]
/-- the two logs hold the same -/
def LG (M : Mm) : Prop := ∀ v z k j, v < 3 → z < 3 → k < 2 → 1 ≤ j → j ≤ 600 → M 54 (18 * (j - 1) + 6 * v + 2 * z + k) = hrow M v z k j
def enS (M : Mm) (v z j k : Nat) : Int32 := if M 50 2 < nI j then (-100009) else if M 50 (6 + 19 * v + 3) < nI j then hrow M v z k j else (-100009)
def logG (F : Nat → Int32) (h : Nat → Nat → Nat → Nat → Int32) (x z t w : Int32) : Int32 := if logB F x z t w then (if F 2 < t then (-100009) else if F (6 + 19 * vN x + 3) < t then h (vN x) (vN z) (vN w) (vN t) else (-100009)) else (-100001)
theorem logG_S (M : Mm) (x z t w : Int32) : logS M x z t w = logG (M 0) (hrow M) x z t w := rfl
set_option maxRecDepth 20000 in
set_option maxHeartbeats 4000000 in
theorem lp_X7_count {G : Gl} {Φ : Option OV → Mm → Prop} {nv : Nat} (hn : nv ≤ 3) (x1 : Option OV) (M : Mm) (h0 : M 50 0 = nI nv) : ∀ (n p : Nat) (acc : Int32), p + n = 3 * nv → (Φ (some (.inl (fndK (M 50) n p acc))) M) → AW G cX7_count RX7 4 2 44 (some .int) Φ 71 [some (.inr (7, 0, 0, 0)), x1, some (.inl acc), some (.inl (nI p))] [] M := by
  intro n
  induction n with
  | zero =>
    intro p acc he  hΦ
    refine a_il_3_4 (pc' := 72) dX7_count_71 rfl ?_
    refine a_iconst (v := nI 3) (pc' := 73) dX7_count_72 (by decide) rfl ?_
    refine a_al_0_4 (pc' := 74) dX7_count_73 rfl ?_
    refine gf_7_0 (pc' := 77) fl_X7_7 dX7_count_74 rfl ?_
    refine a_iconst (v := nI 0) (pc' := 78) dX7_count_77 (by decide) rfl ?_
    refine a_ialdN (pc' := 79) rfl (by omega) (by decide) dX7_count_78 rfl ?_
    rw [h0]
    refine a_imulN (pc' := 80) dX7_count_79 rfl ?_
    refine a_icmp_ge (pc' := 83) (tgt := 103) dX7_count_80 (by decide) rfl (fun c_80 => ?_) (fun c_80 => absurd (nI_le (by omega) (by omega)) c_80)
    refine a_il_2_4 (pc' := 104) dX7_count_103 rfl ?_
    refine a_iret dX7_count_104 rfl rfl ?_
    exact hΦ
  | succ n ih =>
    intro p acc he  hΦ
    refine a_il_3_4 (pc' := 72) dX7_count_71 rfl ?_
    refine a_iconst (v := nI 3) (pc' := 73) dX7_count_72 (by decide) rfl ?_
    refine a_al_0_4 (pc' := 74) dX7_count_73 rfl ?_
    refine gf_7_0 (pc' := 77) fl_X7_7 dX7_count_74 rfl ?_
    refine a_iconst (v := nI 0) (pc' := 78) dX7_count_77 (by decide) rfl ?_
    refine a_ialdN (pc' := 79) rfl (by omega) (by decide) dX7_count_78 rfl ?_
    rw [h0]
    refine a_imulN (pc' := 80) dX7_count_79 rfl ?_
    refine a_icmp_ge (pc' := 83) (tgt := 103) dX7_count_80 (by decide) rfl (fun c_80 => absurd c_80 (nI_ge (by omega) (by omega))) (fun c_80 => ?_)
    refine a_il_2_4 (pc' := 84) dX7_count_83 rfl ?_
    refine a_al_0_4 (pc' := 85) dX7_count_84 rfl ?_
    refine a_il_3_4 (pc' := 86) dX7_count_85 rfl ?_
    refine a_iconst (v := nI 3) (pc' := 87) dX7_count_86 (by decide) rfl ?_
    refine a_idivN (pc' := 88) (by omega) (by decide) (by decide) dX7_count_87 rfl ?_
    refine a_il_3_4 (pc' := 89) dX7_count_88 rfl ?_
    refine a_iconst (v := nI 3) (pc' := 90) dX7_count_89 (by decide) rfl ?_
    refine a_iremN (pc' := 91) (by omega) (by decide) (by decide) dX7_count_90 rfl ?_
    refine a_iconst (v := nI 3) (pc' := 92) dX7_count_91 (by decide) rfl ?_
    refine k_VI (pc' := 95) (ct_X7_at (by omega) (by omega) (by omega) _) cw_X7_55 mi_X7_at se_X7_at rfl rfl rfl rfl (by decide) (by decide) (Nat.le_of_ble_eq_true rfl) rfl dX7_count_92 rfl ?_
    refine a_iadd (pc' := 96) dX7_count_95 rfl ?_
    refine a_is_2_4 (pc' := 97) dX7_count_96 rfl ?_
    refine a_iN_3_4 (m := p + 1) (pc' := 100) dX7_count_97 (nI_add _ _) rfl ?_
    refine a_goto (pc' := 71) dX7_count_100 (by decide) ?_
    exact ih (p + 1) _ (by omega) hΦ
set_option maxRecDepth 20000 in
set_option maxHeartbeats 4000000 in
theorem ct_X7_count {nv : Nat} (hn : nv ≤ 3) (w : Int32) (M : Mm) (h0 : M 50 0 = nI nv) (hB : BoolOK (M 50)) : Ct yX7_count cX7_count 4 (some .int) 2 44 [.inr (7, 0, 0, 0), .inl w] M (RI (mcS M w) M) := by
  have hnv : nvF (M 50) = nv := by unfold nvF; rw [h0]; exact nI_clamp (by omega)
  refine Ct.at RX7 rfl (by decide +kernel) (Nat.le_of_ble_eq_true rfl) [some (.inr (7, 0, 0, 0)), some (.inl w), none, none] rfl (fun G => ?_)
  refine a_iconst (v := nI 0) (pc' := 1) dX7_count_0 (by decide) rfl ?_
  refine a_is_2_4 (pc' := 2) dX7_count_1 rfl ?_
  refine a_il_1_4 (pc' := 3) dX7_count_2 rfl ?_
  by_cases s_3_0 : w = nI 0
  · rw [s_3_0]
    refine a_tswI (tgt := 52) (off := 49) dX7_count_3 (by decide) (by decide) (by decide) (by decide) ?_
    refine a_al_0_4 (pc' := 53) dX7_count_52 rfl ?_
    refine gf_7_0 (pc' := 56) fl_X7_7 dX7_count_53 rfl ?_
    refine a_il_1_4 (pc' := 57) dX7_count_56 rfl ?_
    refine a_ialdN (pc' := 58) rfl (by omega) (by decide) dX7_count_57 rfl ?_
    refine a_iret dX7_count_58 rfl rfl ?_
    exact fI (by simp [mcS, s_3_0, nI_eqm])
  by_cases s_3_1 : w = nI 1
  · rw [s_3_1]
    refine a_tswI (tgt := 52) (off := 49) dX7_count_3 (by decide) (by decide) (by decide) (by decide) ?_
    refine a_al_0_4 (pc' := 53) dX7_count_52 rfl ?_
    refine gf_7_0 (pc' := 56) fl_X7_7 dX7_count_53 rfl ?_
    refine a_il_1_4 (pc' := 57) dX7_count_56 rfl ?_
    refine a_ialdN (pc' := 58) rfl (by omega) (by decide) dX7_count_57 rfl ?_
    refine a_iret dX7_count_58 rfl rfl ?_
    exact fI (by simp [mcS, s_3_0, s_3_1, nI_eqm])
  by_cases s_3_2 : w = nI 2
  · rw [s_3_2]
    refine a_tswI (tgt := 52) (off := 49) dX7_count_3 (by decide) (by decide) (by decide) (by decide) ?_
    refine a_al_0_4 (pc' := 53) dX7_count_52 rfl ?_
    refine gf_7_0 (pc' := 56) fl_X7_7 dX7_count_53 rfl ?_
    refine a_il_1_4 (pc' := 57) dX7_count_56 rfl ?_
    refine a_ialdN (pc' := 58) rfl (by omega) (by decide) dX7_count_57 rfl ?_
    refine a_iret dX7_count_58 rfl rfl ?_
    exact fI (by simp [mcS, s_3_0, s_3_1, s_3_2, nI_eqm])
  by_cases s_3_3 : w = nI 3
  · rw [s_3_3]
    refine a_tswI (tgt := 52) (off := 49) dX7_count_3 (by decide) (by decide) (by decide) (by decide) ?_
    refine a_al_0_4 (pc' := 53) dX7_count_52 rfl ?_
    refine gf_7_0 (pc' := 56) fl_X7_7 dX7_count_53 rfl ?_
    refine a_il_1_4 (pc' := 57) dX7_count_56 rfl ?_
    refine a_ialdN (pc' := 58) rfl (by omega) (by decide) dX7_count_57 rfl ?_
    refine a_iret dX7_count_58 rfl rfl ?_
    exact fI (by simp [mcS, s_3_0, s_3_1, s_3_2, s_3_3, nI_eqm])
  by_cases s_3_4 : w = nI 4
  · rw [s_3_4]
    refine a_tswI (tgt := 52) (off := 49) dX7_count_3 (by decide) (by decide) (by decide) (by decide) ?_
    refine a_al_0_4 (pc' := 53) dX7_count_52 rfl ?_
    refine gf_7_0 (pc' := 56) fl_X7_7 dX7_count_53 rfl ?_
    refine a_il_1_4 (pc' := 57) dX7_count_56 rfl ?_
    refine a_ialdN (pc' := 58) rfl (by omega) (by decide) dX7_count_57 rfl ?_
    refine a_iret dX7_count_58 rfl rfl ?_
    exact fI (by simp [mcS, s_3_0, s_3_1, s_3_2, s_3_3, s_3_4, nI_eqm])
  by_cases s_3_5 : w = nI 5
  · rw [s_3_5]
    refine a_tswI (tgt := 52) (off := 49) dX7_count_3 (by decide) (by decide) (by decide) (by decide) ?_
    refine a_al_0_4 (pc' := 53) dX7_count_52 rfl ?_
    refine gf_7_0 (pc' := 56) fl_X7_7 dX7_count_53 rfl ?_
    refine a_il_1_4 (pc' := 57) dX7_count_56 rfl ?_
    refine a_ialdN (pc' := 58) rfl (by omega) (by decide) dX7_count_57 rfl ?_
    refine a_iret dX7_count_58 rfl rfl ?_
    exact fI (by simp [mcS, s_3_0, s_3_1, s_3_2, s_3_3, s_3_4, s_3_5, nI_eqm])
  by_cases s_3_6 : w = nI 6
  · rw [s_3_6]
    refine a_tswI (tgt := 59) (off := 56) dX7_count_3 (by decide) (by decide) (by decide) (by decide) ?_
    refine a_al_0_4 (pc' := 60) dX7_count_59 rfl ?_
    refine gf_7_8 (pc' := 63) fl_X7_144 dX7_count_60 rfl ?_
    refine a_iret dX7_count_63 rfl rfl ?_
    exact fI (by simp [mcS, s_3_0, s_3_1, s_3_2, s_3_3, s_3_4, s_3_5, s_3_6, nI_eqm])
  by_cases s_3_7 : w = nI 7
  · rw [s_3_7]
    refine a_tswI (tgt := 64) (off := 61) dX7_count_3 (by decide) (by decide) (by decide) (by decide) ?_
    refine a_al_0_4 (pc' := 65) dX7_count_64 rfl ?_
    refine gf_7_4 (pc' := 68) fl_X7_39 dX7_count_65 rfl ?_
    refine a_iret dX7_count_68 rfl rfl ?_
    exact fI (by simp [mcS, s_3_0, s_3_1, s_3_2, s_3_3, s_3_4, s_3_5, s_3_6, s_3_7, nI_eqm])
  by_cases s_3_8 : w = nI 8
  · rw [s_3_8]
    refine a_tswI (tgt := 69) (off := 66) dX7_count_3 (by decide) (by decide) (by decide) (by decide) ?_
    refine a_iconst (v := nI 0) (pc' := 70) dX7_count_69 (by decide) rfl ?_
    refine a_is_3_4 (pc' := 71) dX7_count_70 rfl ?_
    exact lp_X7_count hn _ M h0 (3 * nv) 0 _ (by omega) ⟨by simp [mcS, nI_eqm, hnv, fndK_eq hB hn], rfl⟩
  refine a_tswO (tgt := 105) dX7_count_3 (tsw_out8 s_3_0 s_3_1 s_3_2 s_3_3 s_3_4 s_3_5 s_3_6 s_3_7 s_3_8) (by decide) ?_
  refine a_ldc (pc' := 107) dX7_count_105 cn_X7_92 rfl ?_
  refine a_iret dX7_count_107 rfl rfl ?_
  exact fI (by simp [mcS, s_3_0, s_3_1, s_3_2, s_3_3, s_3_4, s_3_5, s_3_6, s_3_7, s_3_8, nI_eqm])
set_option maxRecDepth 20000 in
set_option maxHeartbeats 4000000 in
theorem ct_X7_van {nv : Nat} (hn : nv ≤ 3) {np : Nat} (hm : np ≤ 12) (x w : Int32) (M : Mm) (h0 : M 50 0 = nI nv) (h1 : M 50 1 = nI np) (hB : BoolOK (M 50)) : Ct yX7_van cX7_van 3 (some .int) 3 65 [.inr (7, 0, 0, 0), .inl x, .inl w] M (RI (vqS (M 50) x w) M) := by
  refine Ct.at RX7 rfl (by decide +kernel) (Nat.le_of_ble_eq_true rfl) [some (.inr (7, 0, 0, 0)), some (.inl x), some (.inl w)] rfl (fun G => ?_)
  refine a_al_0_3 (pc' := 1) dX7_van_0 rfl ?_
  refine a_il_1_3 (pc' := 2) dX7_van_1 rfl ?_
  refine k_VI (pc' := 5) (ct_X7_isVan (by omega) _ _ (by assumption)) cw_X7_88 mi_X7_isVan se_X7_isVan rfl rfl rfl rfl (by decide) (by decide) (Nat.le_of_ble_eq_true rfl) rfl dX7_van_2 rfl ?_
  refine a_ifB_eq (pc' := 8) (tgt := 17) dX7_van_5 (by decide) rfl (fun c_5 => ?_) (fun c_5 => ?_)
  · refine a_ldc (pc' := 19) dX7_van_17 cn_X7_92 rfl ?_
    refine a_iret dX7_van_19 rfl rfl ?_
    exact fI (by simp [vqS, c_5])
  · refine a_il_2_3 (pc' := 9) dX7_van_8 rfl ?_
    refine a_iconst (v := nI 0) (pc' := 10) dX7_van_9 (by decide) rfl ?_
    refine a_iconst (v := nI 3) (pc' := 11) dX7_van_10 (by decide) rfl ?_
    refine k_SI (pc' := 14) (ct_X7_in _ _ _ _) cw_X7_43 ms_X7_in rfl (by decide) (by decide) (Nat.le_of_ble_eq_true rfl) rfl dX7_van_11 rfl ?_
    refine a_ifB_ne (pc' := 17) (tgt := 20) dX7_van_14 (by decide) rfl (fun c_14 => ?_) (fun c_14 => ?_)
    · obtain ⟨v, hv, rfl⟩ := hvS_nI c_5 h0 (by omega)
      have hcl : vN (nI v) = v := vN_nI (by omega)
      obtain ⟨j, -, hj, rfl⟩ := inn_nI (a := 0) (b := 3) c_14 (by decide)
      have hnp : npF (M 50) = np := by unfold npF; rw [h1]; exact nI_clamp (by omega)
      refine a_il_2_3 (pc' := 21) dX7_van_20 rfl ?_
      refine a_iconst (v := nI 3) (pc' := 22) dX7_van_21 (by decide) rfl ?_
      refine a_icmp_ge (pc' := 25) (tgt := 34) dX7_van_22 (by decide) rfl (fun c_22 => ?_) (fun c_22 => ?_)
      · have hj3 : 3 ≤ j := (nI_leI (by omega) (by omega)).mp c_22
        refine a_al_0_3 (pc' := 35) dX7_van_34 rfl ?_
        refine a_il_1_3 (pc' := 36) dX7_van_35 rfl ?_
        refine k_VI (pc' := 39) (ct_X7_inVan hm _ _ h1) cw_X7_94 mi_X7_inVan se_X7_inVan rfl rfl rfl rfl (by decide) (by decide) (Nat.le_of_ble_eq_true rfl) rfl dX7_van_36 rfl ?_
        refine a_iret dX7_van_39 rfl rfl ?_
        refine fI ?_
        obtain rfl : j = 3 := by omega
        simp [vqS, c_5, hcl, hnp, nI_eqm]
      · have hj3 : j < 3 := by
          rcases Nat.lt_or_ge j 3 with q | q
          · exact q
          · exact absurd (nI_le q (by omega)) c_22
        have hfd : (if M 50 (6 + 19 * v + 2) = 0 then nI 0 else nI 1) = M 50 (6 + 19 * v + 2) := by
          rcases hB.1 v (by omega) with e | e <;> rw [e] <;> decide
        refine a_al_0_3 (pc' := 26) dX7_van_25 rfl ?_
        refine a_il_1_3 (pc' := 27) dX7_van_26 rfl ?_
        refine a_il_2_3 (pc' := 28) dX7_van_27 rfl ?_
        refine k_VI (pc' := 31) (ct_X7_of (by omega) (by omega) _) cw_X7_65 mi_X7_of se_X7_of rfl rfl rfl rfl (by decide) (by decide) (Nat.le_of_ble_eq_true rfl) rfl dX7_van_28 rfl ?_
        refine a_goto (pc' := 39) dX7_van_31 (by decide) ?_
        refine a_iret dX7_van_39 rfl rfl ?_
        refine fI ?_
        rcases (by omega : j = 0 ∨ j = 1 ∨ j = 2) with rfl | rfl | rfl
        · simp [vqS, c_5, hcl]
        · simp [vqS, c_5, hcl, nI_eqm]
        · simp [vqS, c_5, hcl, nI_eqm, hfd]
    · refine a_ldc (pc' := 19) dX7_van_17 cn_X7_92 rfl ?_
      refine a_iret dX7_van_19 rfl rfl ?_
      exact fI (vqS_out _ _ c_14)
set_option maxRecDepth 20000 in
set_option maxHeartbeats 4000000 in
theorem ct_X7_zone {nv : Nat} (hn : nv ≤ 3) (x z w : Int32) (M : Mm) (h0 : M 50 0 = nI nv) (hB : BoolOK (M 50)) : Ct yX7_zone cX7_zone 4 (some .int) 4 90 [.inr (7, 0, 0, 0), .inl x, .inl z, .inl w] M (RI (zqS (M 50) x z w) M) := by
  refine Ct.at RX7 rfl (by decide +kernel) (Nat.le_of_ble_eq_true rfl) [some (.inr (7, 0, 0, 0)), some (.inl x), some (.inl z), some (.inl w)] rfl (fun G => ?_)
  refine a_al_0_4 (pc' := 1) dX7_zone_0 rfl ?_
  refine a_il_1_4 (pc' := 2) dX7_zone_1 rfl ?_
  refine k_VI (pc' := 5) (ct_X7_isVan (by omega) _ _ (by assumption)) cw_X7_88 mi_X7_isVan se_X7_isVan rfl rfl rfl rfl (by decide) (by decide) (Nat.le_of_ble_eq_true rfl) rfl dX7_zone_2 rfl ?_
  refine a_ifB_eq (pc' := 8) (tgt := 15) dX7_zone_5 (by decide) rfl (fun c_5 => ?_) (fun c_5 => ?_)
  · refine a_ldc (pc' := 17) dX7_zone_15 cn_X7_92 rfl ?_
    refine a_iret dX7_zone_17 rfl rfl ?_
    exact fI (by first | (simp [zqS, hzS, nI_eqm, hcl, hcz, hfd, c_5]; done) | simp [zqS, hzS, c_5])
  · refine a_il_2_4 (pc' := 9) dX7_zone_8 rfl ?_
    refine k_SI (pc' := 12) (ct_X7_isZone _ _) cw_X7_108 ms_X7_isZone rfl (by decide) (by decide) (Nat.le_of_ble_eq_true rfl) rfl dX7_zone_9 rfl ?_
    refine a_ifB_ne (pc' := 15) (tgt := 18) dX7_zone_12 (by decide) rfl (fun c_12 => ?_) (fun c_12 => ?_)
    · obtain ⟨v, z, hv, hz, rfl, rfl⟩ := hzS_nI (show hzS (M 50) x z = true by simp [hzS, c_5, c_12]) h0 (by omega)
      have hcl : vN (nI v) = v := vN_nI (by omega)
      have hcz : vN (nI z) = z := vN_nI (by omega)
      have hfd : (if M 50 (10 + 19 * v + 5 * z + 3) = 0 then nI 0 else nI 1) = M 50 (10 + 19 * v + 5 * z + 3) := by
        rcases hB.2 v z (by omega) hz with e | e <;> rw [e] <;> decide
      refine a_il_3_4 (pc' := 19) dX7_zone_18 rfl ?_
      by_cases s_19_0 : w = nI 0
      · rw [s_19_0]
        refine a_tswI (tgt := 56) (off := 37) dX7_zone_19 (by decide) (by decide) (by decide) (by decide) ?_
        refine a_al_0_4 (pc' := 57) dX7_zone_56 rfl ?_
        refine a_il_1_4 (pc' := 58) dX7_zone_57 rfl ?_
        refine a_il_2_4 (pc' := 59) dX7_zone_58 rfl ?_
        refine a_iconst (v := nI 0) (pc' := 60) dX7_zone_59 (by decide) rfl ?_
        refine k_VI (pc' := 63) (ct_X7_at (by omega) (by omega) (by omega) _) cw_X7_55 mi_X7_at se_X7_at rfl rfl rfl rfl (by decide) (by decide) (Nat.le_of_ble_eq_true rfl) rfl dX7_zone_60 rfl ?_
        refine a_iret dX7_zone_63 rfl rfl ?_
        exact fI (by first | (simp [zqS, hzS, nI_eqm, hcl, hcz, hfd, c_5, c_12, s_19_0]; done) | simp [zqS, hzS, c_5, c_12, s_19_0])
      by_cases s_19_1 : w = nI 1
      · rw [s_19_1]
        refine a_tswI (tgt := 64) (off := 45) dX7_zone_19 (by decide) (by decide) (by decide) (by decide) ?_
        refine a_al_0_4 (pc' := 65) dX7_zone_64 rfl ?_
        refine a_il_1_4 (pc' := 66) dX7_zone_65 rfl ?_
        refine a_il_2_4 (pc' := 67) dX7_zone_66 rfl ?_
        refine k_VI (pc' := 70) (ct_X7_reading (by omega) (by omega) _) cw_X7_59 mi_X7_reading se_X7_reading rfl rfl rfl rfl (by decide) (by decide) (Nat.le_of_ble_eq_true rfl) rfl dX7_zone_67 rfl ?_
        refine a_iret dX7_zone_70 rfl rfl ?_
        exact fI (by first | (simp [zqS, hzS, nI_eqm, hcl, hcz, hfd, c_5, c_12, s_19_0, s_19_1]; done) | simp [zqS, hzS, c_5, c_12, s_19_0, s_19_1])
      by_cases s_19_2 : w = nI 2
      · rw [s_19_2]
        refine a_tswI (tgt := 71) (off := 52) dX7_zone_19 (by decide) (by decide) (by decide) (by decide) ?_
        refine a_al_0_4 (pc' := 72) dX7_zone_71 rfl ?_
        refine a_il_1_4 (pc' := 73) dX7_zone_72 rfl ?_
        refine a_il_2_4 (pc' := 74) dX7_zone_73 rfl ?_
        refine k_VI (pc' := 77) (ct_X7_told (by omega) (by omega) _) cw_X7_75 mi_X7_told se_X7_told rfl rfl rfl rfl (by decide) (by decide) (Nat.le_of_ble_eq_true rfl) rfl dX7_zone_74 rfl ?_
        refine a_iret dX7_zone_77 rfl rfl ?_
        exact fI (by first | (simp [zqS, hzS, nI_eqm, hcl, hcz, hfd, c_5, c_12, s_19_0, s_19_1, s_19_2]; done) | simp [zqS, hzS, c_5, c_12, s_19_0, s_19_1, s_19_2])
      by_cases s_19_3 : w = nI 3
      · rw [s_19_3]
        refine a_tswI (tgt := 78) (off := 59) dX7_zone_19 (by decide) (by decide) (by decide) (by decide) ?_
        refine a_al_0_4 (pc' := 79) dX7_zone_78 rfl ?_
        refine a_il_1_4 (pc' := 80) dX7_zone_79 rfl ?_
        refine a_il_2_4 (pc' := 81) dX7_zone_80 rfl ?_
        refine a_iconst (v := nI 1) (pc' := 82) dX7_zone_81 (by decide) rfl ?_
        refine k_VI (pc' := 85) (ct_X7_at (by omega) (by omega) (by omega) _) cw_X7_55 mi_X7_at se_X7_at rfl rfl rfl rfl (by decide) (by decide) (Nat.le_of_ble_eq_true rfl) rfl dX7_zone_82 rfl ?_
        refine a_iret dX7_zone_85 rfl rfl ?_
        exact fI (by first | (simp [zqS, hzS, nI_eqm, hcl, hcz, hfd, c_5, c_12, s_19_0, s_19_1, s_19_2, s_19_3]; done) | simp [zqS, hzS, c_5, c_12, s_19_0, s_19_1, s_19_2, s_19_3])
      by_cases s_19_4 : w = nI 4
      · rw [s_19_4]
        refine a_tswI (tgt := 86) (off := 67) dX7_zone_19 (by decide) (by decide) (by decide) (by decide) ?_
        refine a_al_0_4 (pc' := 87) dX7_zone_86 rfl ?_
        refine a_il_1_4 (pc' := 88) dX7_zone_87 rfl ?_
        refine a_il_2_4 (pc' := 89) dX7_zone_88 rfl ?_
        refine a_iconst (v := nI 3) (pc' := 90) dX7_zone_89 (by decide) rfl ?_
        refine k_VI (pc' := 93) (ct_X7_at (by omega) (by omega) (by omega) _) cw_X7_55 mi_X7_at se_X7_at rfl rfl rfl rfl (by decide) (by decide) (Nat.le_of_ble_eq_true rfl) rfl dX7_zone_90 rfl ?_
        refine a_iret dX7_zone_93 rfl rfl ?_
        exact fI (by first | (simp [zqS, hzS, nI_eqm, hcl, hcz, hfd, c_5, c_12, s_19_0, s_19_1, s_19_2, s_19_3, s_19_4]; done) | simp [zqS, hzS, c_5, c_12, s_19_0, s_19_1, s_19_2, s_19_3, s_19_4])
      by_cases s_19_5 : w = nI 5
      · rw [s_19_5]
        refine a_tswI (tgt := 94) (off := 75) dX7_zone_19 (by decide) (by decide) (by decide) (by decide) ?_
        refine a_al_0_4 (pc' := 95) dX7_zone_94 rfl ?_
        refine a_il_1_4 (pc' := 96) dX7_zone_95 rfl ?_
        refine a_il_2_4 (pc' := 97) dX7_zone_96 rfl ?_
        refine a_iconst (v := nI 4) (pc' := 98) dX7_zone_97 (by decide) rfl ?_
        refine k_VI (pc' := 101) (ct_X7_at (by omega) (by omega) (by omega) _) cw_X7_55 mi_X7_at se_X7_at rfl rfl rfl rfl (by decide) (by decide) (Nat.le_of_ble_eq_true rfl) rfl dX7_zone_98 rfl ?_
        refine a_iret dX7_zone_101 rfl rfl ?_
        exact fI (by first | (simp [zqS, hzS, nI_eqm, hcl, hcz, hfd, c_5, c_12, s_19_0, s_19_1, s_19_2, s_19_3, s_19_4, s_19_5]; done) | simp [zqS, hzS, c_5, c_12, s_19_0, s_19_1, s_19_2, s_19_3, s_19_4, s_19_5])
      refine a_tswO (tgt := 102) dX7_zone_19 (tsw_out5 s_19_0 s_19_1 s_19_2 s_19_3 s_19_4 s_19_5) (by decide) ?_
      refine a_ldc (pc' := 104) dX7_zone_102 cn_X7_92 rfl ?_
      refine a_iret dX7_zone_104 rfl rfl ?_
      exact fI (by first | (simp [zqS, hzS, nI_eqm, hcl, hcz, hfd, c_5, c_12, s_19_0, s_19_1, s_19_2, s_19_3, s_19_4, s_19_5]; done) | simp [zqS, hzS, c_5, c_12, s_19_0, s_19_1, s_19_2, s_19_3, s_19_4, s_19_5])
    · refine a_ldc (pc' := 17) dX7_zone_15 cn_X7_92 rfl ?_
      refine a_iret dX7_zone_17 rfl rfl ?_
      exact fI (by first | (simp [zqS, hzS, nI_eqm, hcl, hcz, hfd, c_5, c_12]; done) | simp [zqS, hzS, c_5, c_12])
set_option maxRecDepth 20000 in
set_option maxHeartbeats 4000000 in
theorem ct_X7_cause {p : Nat} (hp : p < 12) (M : Mm) (hst : M 50 (63 + 10 * p + 5) = nI 0 ∨ M 50 (63 + 10 * p + 5) = nI 1 ∨ M 50 (63 + 10 * p + 5) = nI 2 ∨ M 50 (63 + 10 * p + 5) = nI 3) : Ct yX7_cause cX7_cause 2 (some .int) 2 42 [.inr (7, 0, 0, 0), .inl (nI p)] M (RI (causeP (M 50) p) M) := by
  have hrj := rejP_eq hst
  refine Ct.at RX7 rfl (by decide +kernel) (Nat.le_of_ble_eq_true rfl) [some (.inr (7, 0, 0, 0)), some (.inl (nI p))] rfl (fun G => ?_)
  refine a_al_0_2 (pc' := 1) dX7_cause_0 rfl ?_
  refine a_il_1_2 (pc' := 2) dX7_cause_1 rfl ?_
  refine a_iconst (v := nI 5) (pc' := 3) dX7_cause_2 (by decide) rfl ?_
  refine k_VI (pc' := 6) (ct_X7_its (w := 5) (by omega) (by omega) _) cw_X7_72 mi_X7_its se_X7_its rfl rfl rfl rfl (by decide) (by decide) (Nat.le_of_ble_eq_true rfl) rfl dX7_cause_3 rfl ?_
  refine a_iconst (v := nI 2) (pc' := 7) dX7_cause_6 (by decide) rfl ?_
  refine a_icmp_ge (pc' := 10) (tgt := 12) dX7_cause_7 (by decide) rfl (fun c_7 => ?_) (fun c_7 => ?_)
  · refine a_al_0_2 (pc' := 13) dX7_cause_12 rfl ?_
    refine a_il_1_2 (pc' := 14) dX7_cause_13 rfl ?_
    refine a_bipush (v := nI 6) (pc' := 16) dX7_cause_14 (by decide) rfl ?_
    refine k_VI (pc' := 19) (ct_X7_its (w := 6) (by omega) (by omega) _) cw_X7_72 mi_X7_its se_X7_its rfl rfl rfl rfl (by decide) (by decide) (Nat.le_of_ble_eq_true rfl) rfl dX7_cause_16 rfl ?_
    refine a_al_0_2 (pc' := 20) dX7_cause_19 rfl ?_
    refine a_il_1_2 (pc' := 21) dX7_cause_20 rfl ?_
    refine a_bipush (v := nI 7) (pc' := 23) dX7_cause_21 (by decide) rfl ?_
    refine k_VI (pc' := 26) (ct_X7_its (w := 7) (by omega) (by omega) _) cw_X7_72 mi_X7_its se_X7_its rfl rfl rfl rfl (by decide) (by decide) (Nat.le_of_ble_eq_true rfl) rfl dX7_cause_23 rfl ?_
    refine a_iadd (pc' := 27) dX7_cause_26 rfl ?_
    refine a_al_0_2 (pc' := 28) dX7_cause_27 rfl ?_
    refine a_il_1_2 (pc' := 29) dX7_cause_28 rfl ?_
    refine a_iconst (v := nI 3) (pc' := 30) dX7_cause_29 (by decide) rfl ?_
    refine k_VI (pc' := 33) (ct_X7_its (w := 3) (by omega) (by omega) _) cw_X7_72 mi_X7_its se_X7_its rfl rfl rfl rfl (by decide) (by decide) (Nat.le_of_ble_eq_true rfl) rfl dX7_cause_30 rfl ?_
    refine a_icmp_gt (pc' := 36) (tgt := 38) dX7_cause_33 (by decide) rfl (fun c_33 => ?_) (fun c_33 => ?_)
    · refine a_al_0_2 (pc' := 39) dX7_cause_38 rfl ?_
      refine a_il_1_2 (pc' := 40) dX7_cause_39 rfl ?_
      refine a_bipush (v := nI 6) (pc' := 42) dX7_cause_40 (by decide) rfl ?_
      refine k_VI (pc' := 45) (ct_X7_its (w := 6) (by omega) (by omega) _) cw_X7_72 mi_X7_its se_X7_its rfl rfl rfl rfl (by decide) (by decide) (Nat.le_of_ble_eq_true rfl) rfl dX7_cause_42 rfl ?_
      refine a_al_0_2 (pc' := 46) dX7_cause_45 rfl ?_
      refine a_il_1_2 (pc' := 47) dX7_cause_46 rfl ?_
      refine a_bipush (v := nI 7) (pc' := 49) dX7_cause_47 (by decide) rfl ?_
      refine k_VI (pc' := 52) (ct_X7_its (w := 7) (by omega) (by omega) _) cw_X7_72 mi_X7_its se_X7_its rfl rfl rfl rfl (by decide) (by decide) (Nat.le_of_ble_eq_true rfl) rfl dX7_cause_49 rfl ?_
      refine a_icmp_lt (pc' := 55) (tgt := 59) dX7_cause_52 (by decide) rfl (fun c_52 => ?_) (fun c_52 => ?_)
      · refine a_iconst (v := nI 2) (pc' := 60) dX7_cause_59 (by decide) rfl ?_
        refine a_iret dX7_cause_60 rfl rfl ?_
        exact fI (by simp [causeP, hrj, c_7, c_33, c_52, -Int32.not_le, -Int32.not_lt])
      · refine a_iconst (v := nI 1) (pc' := 56) dX7_cause_55 (by decide) rfl ?_
        refine a_goto (pc' := 60) dX7_cause_56 (by decide) ?_
        refine a_iret dX7_cause_60 rfl rfl ?_
        exact fI (by simp [causeP, hrj, c_7, c_33, c_52, -Int32.not_le, -Int32.not_lt])
    · refine a_iconst (v := nI 3) (pc' := 37) dX7_cause_36 (by decide) rfl ?_
      refine a_iret dX7_cause_37 rfl rfl ?_
      exact fI (by simp [causeP, hrj, c_7, c_33, -Int32.not_le, -Int32.not_lt])
  · refine a_iconst (v := nI 0) (pc' := 11) dX7_cause_10 (by decide) rfl ?_
    refine a_iret dX7_cause_11 rfl rfl ?_
    exact fI (by simp [causeP, hrj, c_7, -Int32.not_le, -Int32.not_lt])
theorem ct_X7_itsG {p w : Nat} (hp : p < 12) (hw : w ≤ 10) (M : Mm) : Ct yX7_its cX7_its 3 (some .int) 1 20 [.inr (7, 0, 0, 0), .inl (nI p), .inl (nI w)] M (RI (M 50 (63 + 10 * p + (if w = 10 then 9 else w))) M) := by
  by_cases h : w = 10
  · subst h; exact ct_X7_its10 hp M
  · rw [if_neg h]; exact ct_X7_its hp (by omega) M
set_option maxRecDepth 20000 in
set_option maxHeartbeats 4000000 in
theorem ct_X7_pallet {np : Nat} (hm : np ≤ 12) (x w : Int32) (M : Mm) (h1 : M 50 1 = nI np) (hg : ∃ t T, Good (M 50) t T) : Ct yX7_pallet cX7_pallet 3 (some .int) 3 63 [.inr (7, 0, 0, 0), .inl x, .inl w] M (RI (pqS (M 50) x w) M) := by
  refine Ct.at RX7 rfl (by decide +kernel) (Nat.le_of_ble_eq_true rfl) [some (.inr (7, 0, 0, 0)), some (.inl x), some (.inl w)] rfl (fun G => ?_)
  refine a_al_0_3 (pc' := 1) dX7_pallet_0 rfl ?_
  refine a_il_1_3 (pc' := 2) dX7_pallet_1 rfl ?_
  refine k_VI (pc' := 5) (ct_X7_isPallet (by omega) _ _ (by assumption)) cw_X7_105 mi_X7_isPallet se_X7_isPallet rfl rfl rfl rfl (by decide) (by decide) (Nat.le_of_ble_eq_true rfl) rfl dX7_pallet_2 rfl ?_
  refine a_ifB_eq (pc' := 8) (tgt := 18) dX7_pallet_5 (by decide) rfl (fun c_5 => ?_) (fun c_5 => ?_)
  · refine a_ldc (pc' := 20) dX7_pallet_18 cn_X7_92 rfl ?_
    refine a_iret dX7_pallet_20 rfl rfl ?_
    exact fI (by simp [pqS, c_5])
  · refine a_il_2_3 (pc' := 9) dX7_pallet_8 rfl ?_
    refine a_iconst (v := nI 0) (pc' := 10) dX7_pallet_9 (by decide) rfl ?_
    refine a_bipush (v := nI 10) (pc' := 12) dX7_pallet_10 (by decide) rfl ?_
    refine k_SI (pc' := 15) (ct_X7_in _ _ _ _) cw_X7_43 ms_X7_in rfl (by decide) (by decide) (Nat.le_of_ble_eq_true rfl) rfl dX7_pallet_12 rfl ?_
    refine a_ifB_ne (pc' := 18) (tgt := 21) dX7_pallet_15 (by decide) rfl (fun c_15 => ?_) (fun c_15 => ?_)
    · obtain ⟨p, hp, rfl⟩ := hpS_nI c_5 h1 (by omega)
      have hcl : vN (nI p) = p := vN_nI (by omega)
      obtain ⟨j, -, hj, rfl⟩ := inn_nI (a := 0) (b := 10) c_15 (by decide)
      obtain ⟨t, T, hg⟩ := hg
      refine a_il_2_3 (pc' := 22) dX7_pallet_21 rfl ?_
      refine a_bipush (v := nI 9) (pc' := 24) dX7_pallet_22 (by decide) rfl ?_
      refine a_icmp_ne (pc' := 27) (tgt := 35) dX7_pallet_24 (by decide) rfl (fun c_24 => ?_) (fun c_24 => ?_)
      · refine a_al_0_3 (pc' := 36) dX7_pallet_35 rfl ?_
        refine a_il_1_3 (pc' := 37) dX7_pallet_36 rfl ?_
        refine a_il_2_3 (pc' := 38) dX7_pallet_37 rfl ?_
        refine k_VI (pc' := 41) (ct_X7_itsG (p := p) (w := j) (by omega) hj _) cw_X7_72 mi_X7_its se_X7_its rfl rfl rfl rfl (by decide) (by decide) (Nat.le_of_ble_eq_true rfl) rfl dX7_pallet_38 rfl ?_
        refine a_iret dX7_pallet_41 rfl rfl ?_
        refine fI ?_
        have e9 : j ≠ 9 := fun q => c_24 (by rw [q])
        rcases (by omega : j = 0 ∨ j = 1 ∨ j = 2 ∨ j = 3 ∨ j = 4 ∨ j = 5 ∨ j = 6 ∨ j = 7 ∨ j = 8 ∨ j = 10) with rfl | rfl | rfl | rfl | rfl | rfl | rfl | rfl | rfl | rfl <;> simp [pqS, propP, c_5, hcl, nI_eqm]
      · refine a_al_0_3 (pc' := 28) dX7_pallet_27 rfl ?_
        refine a_il_1_3 (pc' := 29) dX7_pallet_28 rfl ?_
        refine k_VI (pc' := 32) (ct_X7_cause (p := p) (by omega) _ (hg.state (by omega))) cw_X7_177 mi_X7_cause se_X7_cause rfl rfl rfl rfl (by decide) (by decide) (Nat.le_of_ble_eq_true rfl) rfl dX7_pallet_29 rfl ?_
        refine a_goto (pc' := 41) dX7_pallet_32 (by decide) ?_
        refine a_iret dX7_pallet_41 rfl rfl ?_
        refine fI ?_
        have e9 := (nI_eqm j 9).mp c_24
        obtain rfl : j = 9 := by omega
        simp [pqS, propP, c_5, hcl, nI_eqm]
    · refine a_ldc (pc' := 20) dX7_pallet_18 cn_X7_92 rfl ?_
      refine a_iret dX7_pallet_20 rfl rfl ?_
      exact fI (pqS_out _ _ c_15)
set_option maxRecDepth 20000 in
set_option maxHeartbeats 4000000 in
theorem ct_X7_claim {p : Nat} (hp : p < 12) (x : Int32) (M : Mm) (hst : M 50 (63 + 10 * p + 5) = nI 0 ∨ M 50 (63 + 10 * p + 5) = nI 1 ∨ M 50 (63 + 10 * p + 5) = nI 2 ∨ M 50 (63 + 10 * p + 5) = nI 3) (hal : bt 0 600 (M 50 (63 + 10 * p + 3))) : Ct yX7_claim cX7_claim 6 (some .int) 3 63 [.inr (7, 0, 0, 0), .inl (nI p), .inl x] M (RI (clm1 (M 50) p x) M) := by
  refine Ct.at RX7 rfl (by decide +kernel) (Nat.le_of_ble_eq_true rfl) [some (.inr (7, 0, 0, 0)), some (.inl (nI p)), some (.inl x), none, none, none] rfl (fun G => ?_)
  refine a_al_0_6 (pc' := 1) dX7_claim_0 rfl ?_
  refine a_il_1_6 (pc' := 2) dX7_claim_1 rfl ?_
  refine k_VI (pc' := 5) (ct_X7_cause (by omega) _ (by assumption)) cw_X7_177 mi_X7_cause se_X7_cause rfl rfl rfl rfl (by decide) (by decide) (Nat.le_of_ble_eq_true rfl) rfl dX7_claim_2 rfl ?_
  refine a_is_3_6 (pc' := 6) dX7_claim_5 rfl ?_
  refine a_il_3_6 (pc' := 7) dX7_claim_6 rfl ?_
  refine a_if_ne (pc' := 10) (tgt := 12) dX7_claim_7 (by decide) rfl (fun c_7 => ?_) (fun c_7 => ?_)
  · refine a_al_0_6 (pc' := 13) dX7_claim_12 rfl ?_
    refine a_il_1_6 (pc' := 14) dX7_claim_13 rfl ?_
    refine a_iconst (v := nI 4) (pc' := 15) dX7_claim_14 (by decide) rfl ?_
    refine k_VI (pc' := 18) (ct_X7_its (w := 4) (by omega) (by omega) _) cw_X7_72 mi_X7_its se_X7_its rfl rfl rfl rfl (by decide) (by decide) (Nat.le_of_ble_eq_true rfl) rfl dX7_claim_15 rfl ?_
    refine a_al_0_6 (pc' := 19) dX7_claim_18 rfl ?_
    refine a_il_1_6 (pc' := 20) dX7_claim_19 rfl ?_
    refine a_bipush (v := nI 10) (pc' := 22) dX7_claim_20 (by decide) rfl ?_
    refine k_VI (pc' := 25) (ct_X7_its10 (by omega) _) cw_X7_72 mi_X7_its se_X7_its rfl rfl rfl rfl (by decide) (by decide) (Nat.le_of_ble_eq_true rfl) rfl dX7_claim_22 rfl ?_
    refine a_iadd (pc' := 26) dX7_claim_25 rfl ?_
    refine a_is_4_6 (pc' := 28) dX7_claim_26 rfl ?_
    refine a_il_2_6 (pc' := 29) dX7_claim_28 rfl ?_
    refine a_if_ne (pc' := 32) (tgt := 35) dX7_claim_29 (by decide) rfl (fun c_29 => ?_) (fun c_29 => ?_)
    · refine a_il_3_6 (pc' := 36) dX7_claim_35 rfl ?_
      refine a_iconst (v := nI 3) (pc' := 37) dX7_claim_36 (by decide) rfl ?_
      refine a_icmp_eq (pc' := 40) (tgt := 45) dX7_claim_37 (by decide) rfl (fun c_37 => ?_) (fun c_37 => ?_)
      · refine a_il_3_6 (pc' := 46) dX7_claim_45 rfl ?_
        refine a_il_2_6 (pc' := 47) dX7_claim_46 rfl ?_
        refine a_icmp_ne (pc' := 50) (tgt := 55) dX7_claim_47 (by decide) rfl (fun c_47 => ?_) (fun c_47 => ?_)
        · refine a_iconst (v := nI 0) (pc' := 56) dX7_claim_55 (by decide) rfl ?_
          refine a_iret dX7_claim_56 rfl rfl ?_
          refine fI ?_
          rw [clm_eq hst hal]
          clear hst hal
          simp_all [clmM, nI3z, nIz1, nI13, -Int32.not_le, -Int32.not_lt]
        · refine a_il_4_6 (pc' := 52) dX7_claim_50 rfl ?_
          refine a_goto (pc' := 56) dX7_claim_52 (by decide) ?_
          refine a_iret dX7_claim_56 rfl rfl ?_
          refine fI ?_
          rw [clm_eq hst hal]
          clear hst hal
          simp_all [clmM, nI3z, nIz1, nI13, -Int32.not_le, -Int32.not_lt]
      · refine a_il_2_6 (pc' := 41) dX7_claim_40 rfl ?_
        refine a_iconst (v := nI 3) (pc' := 42) dX7_claim_41 (by decide) rfl ?_
        refine a_icmp_ne (pc' := 45) (tgt := 57) dX7_claim_42 (by decide) rfl (fun c_42 => ?_) (fun c_42 => ?_)
        · refine a_il_4_6 (pc' := 59) dX7_claim_57 rfl ?_
          refine a_al_0_6 (pc' := 60) dX7_claim_59 rfl ?_
          refine a_il_1_6 (pc' := 61) dX7_claim_60 rfl ?_
          refine a_bipush (v := nI 6) (pc' := 63) dX7_claim_61 (by decide) rfl ?_
          refine k_VI (pc' := 66) (ct_X7_its (w := 6) (by omega) (by omega) _) cw_X7_72 mi_X7_its se_X7_its rfl rfl rfl rfl (by decide) (by decide) (Nat.le_of_ble_eq_true rfl) rfl dX7_claim_63 rfl ?_
          refine a_imul (pc' := 67) dX7_claim_66 rfl ?_
          refine a_al_0_6 (pc' := 68) dX7_claim_67 rfl ?_
          refine a_il_1_6 (pc' := 69) dX7_claim_68 rfl ?_
          refine a_bipush (v := nI 6) (pc' := 71) dX7_claim_69 (by decide) rfl ?_
          refine k_VI (pc' := 74) (ct_X7_its (w := 6) (by omega) (by omega) _) cw_X7_72 mi_X7_its se_X7_its rfl rfl rfl rfl (by decide) (by decide) (Nat.le_of_ble_eq_true rfl) rfl dX7_claim_71 rfl ?_
          refine a_al_0_6 (pc' := 75) dX7_claim_74 rfl ?_
          refine a_il_1_6 (pc' := 76) dX7_claim_75 rfl ?_
          refine a_bipush (v := nI 7) (pc' := 78) dX7_claim_76 (by decide) rfl ?_
          refine k_VI (pc' := 81) (ct_X7_its (w := 7) (by omega) (by omega) _) cw_X7_72 mi_X7_its se_X7_its rfl rfl rfl rfl (by decide) (by decide) (Nat.le_of_ble_eq_true rfl) rfl dX7_claim_78 rfl ?_
          refine a_iadd (pc' := 82) dX7_claim_81 rfl ?_
          refine a_idiv (pc' := 83) dX7_claim_82 (clm_nz hal c_7 c_37) rfl ?_
          refine a_is_5_6 (pc' := 85) dX7_claim_83 rfl ?_
          refine a_il_2_6 (pc' := 86) dX7_claim_85 rfl ?_
          refine a_iconst (v := nI 1) (pc' := 87) dX7_claim_86 (by decide) rfl ?_
          refine a_icmp_ne (pc' := 90) (tgt := 95) dX7_claim_87 (by decide) rfl (fun c_87 => ?_) (fun c_87 => ?_)
          · refine a_il_4_6 (pc' := 97) dX7_claim_95 rfl ?_
            refine a_il_5_6 (pc' := 99) dX7_claim_97 rfl ?_
            refine a_isub (pc' := 100) dX7_claim_99 rfl ?_
            refine a_iret dX7_claim_100 rfl rfl ?_
            refine fI ?_
            rw [clm_eq hst hal]
            clear hst hal
            simp_all [clmM, nI3z, nIz1, nI13, -Int32.not_le, -Int32.not_lt]
          · refine a_il_5_6 (pc' := 92) dX7_claim_90 rfl ?_
            refine a_goto (pc' := 100) dX7_claim_92 (by decide) ?_
            refine a_iret dX7_claim_100 rfl rfl ?_
            refine fI ?_
            rw [clm_eq hst hal]
            clear hst hal
            simp_all [clmM, nI3z, nIz1, nI13, -Int32.not_le, -Int32.not_lt]
        · refine a_il_3_6 (pc' := 46) dX7_claim_45 rfl ?_
          refine a_il_2_6 (pc' := 47) dX7_claim_46 rfl ?_
          refine a_icmp_ne (pc' := 50) (tgt := 55) dX7_claim_47 (by decide) rfl (fun c_47_2 => ?_) (fun c_47_2 => ?_)
          · refine a_iconst (v := nI 0) (pc' := 56) dX7_claim_55 (by decide) rfl ?_
            refine a_iret dX7_claim_56 rfl rfl ?_
            refine fI ?_
            rw [clm_eq hst hal]
            clear hst hal
            simp_all [clmM, nI3z, nIz1, nI13, -Int32.not_le, -Int32.not_lt]
          · refine a_il_4_6 (pc' := 52) dX7_claim_50 rfl ?_
            refine a_goto (pc' := 56) dX7_claim_52 (by decide) ?_
            refine a_iret dX7_claim_56 rfl rfl ?_
            refine fI ?_
            rw [clm_eq hst hal]
            clear hst hal
            simp_all [clmM, nI3z, nIz1, nI13, -Int32.not_le, -Int32.not_lt]
    · refine a_il_4_6 (pc' := 34) dX7_claim_32 rfl ?_
      refine a_iret dX7_claim_34 rfl rfl ?_
      refine fI ?_
      rw [clm_eq hst hal]
      clear hst hal
      simp_all [clmM, nI3z, nIz1, nI13, -Int32.not_le, -Int32.not_lt]
  · refine a_iconst (v := nI 0) (pc' := 11) dX7_claim_10 (by decide) rfl ?_
    refine a_iret dX7_claim_11 rfl rfl ?_
    refine fI ?_
    rw [clm_eq hst hal]
    clear hst hal
    simp_all [clmM, nI3z, nIz1, nI13, -Int32.not_le, -Int32.not_lt]
set_option maxRecDepth 20000 in
set_option maxHeartbeats 4000000 in
theorem lp_X7_claims {G : Gl} {Φ : Option OV → Mm → Prop} {np : Nat} (hm : np ≤ 12) (x : Int32) (M : Mm) (h1 : M 50 1 = nI np) (hg : ∃ t T, Good (M 50) t T) : ∀ (n p : Nat) (acc : Int32), p + n = np → (Φ (some (.inl (clmL (M 50) x n p acc))) M) → AW G cX7_claims RX7 4 4 88 (some .int) Φ 16 [some (.inr (7, 0, 0, 0)), some (.inl x), some (.inl acc), some (.inl (nI p))] [] M := by
  intro n
  induction n with
  | zero =>
    intro p acc he  hΦ
    refine a_il_3_4 (pc' := 17) dX7_claims_16 rfl ?_
    refine a_al_0_4 (pc' := 18) dX7_claims_17 rfl ?_
    refine gf_7_0 (pc' := 21) fl_X7_7 dX7_claims_18 rfl ?_
    refine a_iconst (v := nI 1) (pc' := 22) dX7_claims_21 (by decide) rfl ?_
    refine a_ialdN (pc' := 23) rfl (by omega) (by decide) dX7_claims_22 rfl ?_
    rw [h1]
    refine a_icmp_ge (pc' := 26) (tgt := 41) dX7_claims_23 (by decide) rfl (fun c_23 => ?_) (fun c_23 => absurd (nI_le (by omega) (by omega)) c_23)
    refine a_il_2_4 (pc' := 42) dX7_claims_41 rfl ?_
    refine a_iret dX7_claims_42 rfl rfl ?_
    exact hΦ
  | succ n ih =>
    intro p acc he  hΦ
    refine a_il_3_4 (pc' := 17) dX7_claims_16 rfl ?_
    refine a_al_0_4 (pc' := 18) dX7_claims_17 rfl ?_
    refine gf_7_0 (pc' := 21) fl_X7_7 dX7_claims_18 rfl ?_
    refine a_iconst (v := nI 1) (pc' := 22) dX7_claims_21 (by decide) rfl ?_
    refine a_ialdN (pc' := 23) rfl (by omega) (by decide) dX7_claims_22 rfl ?_
    rw [h1]
    refine a_icmp_ge (pc' := 26) (tgt := 41) dX7_claims_23 (by decide) rfl (fun c_23 => absurd c_23 (nI_ge (by omega) (by omega))) (fun c_23 => ?_)
    refine a_il_2_4 (pc' := 27) dX7_claims_26 rfl ?_
    refine a_al_0_4 (pc' := 28) dX7_claims_27 rfl ?_
    refine a_il_3_4 (pc' := 29) dX7_claims_28 rfl ?_
    refine a_il_1_4 (pc' := 30) dX7_claims_29 rfl ?_
    refine k_VI (pc' := 33) (ct_X7_claim (p := p) (by omega) _ _ (by obtain ⟨t, T, hg⟩ := hg; exact hg.state (by omega)) (by obtain ⟨t, T, hg⟩ := hg; exact hg.allow (by omega))) cw_X7_180 mi_X7_claim se_X7_claim rfl rfl rfl rfl (by decide) (by decide) (Nat.le_of_ble_eq_true rfl) rfl dX7_claims_30 rfl ?_
    refine a_iadd (pc' := 34) dX7_claims_33 rfl ?_
    refine a_is_2_4 (pc' := 35) dX7_claims_34 rfl ?_
    refine a_iN_3_4 (m := p + 1) (pc' := 38) dX7_claims_35 (nI_add _ _) rfl ?_
    refine a_goto (pc' := 16) dX7_claims_38 (by decide) ?_
    exact ih (p + 1) _ (by omega) hΦ
set_option maxRecDepth 20000 in
set_option maxHeartbeats 4000000 in
theorem ct_X7_claims {np : Nat} (hm : np ≤ 12) (x : Int32) (M : Mm) (h1 : M 50 1 = nI np) (hg : ∃ t T, Good (M 50) t T) : Ct yX7_claims cX7_claims 4 (some .int) 4 88 [.inr (7, 0, 0, 0), .inl x] M (RI (clmS (M 50) x) M) := by
  have hnp : npF (M 50) = np := by unfold npF; rw [h1]; exact nI_clamp (by omega)
  refine Ct.at RX7 rfl (by decide +kernel) (Nat.le_of_ble_eq_true rfl) [some (.inr (7, 0, 0, 0)), some (.inl x), none, none] rfl (fun G => ?_)
  refine a_il_1_4 (pc' := 1) dX7_claims_0 rfl ?_
  refine a_iconst (v := nI 0) (pc' := 2) dX7_claims_1 (by decide) rfl ?_
  refine a_iconst (v := nI 3) (pc' := 3) dX7_claims_2 (by decide) rfl ?_
  refine k_SI (pc' := 6) (ct_X7_in _ _ _ _) cw_X7_43 ms_X7_in rfl (by decide) (by decide) (Nat.le_of_ble_eq_true rfl) rfl dX7_claims_3 rfl ?_
  refine a_ifB_ne (pc' := 9) (tgt := 12) dX7_claims_6 (by decide) rfl (fun c_6 => ?_) (fun c_6 => ?_)
  · refine a_iconst (v := nI 0) (pc' := 13) dX7_claims_12 (by decide) rfl ?_
    refine a_is_2_4 (pc' := 14) dX7_claims_13 rfl ?_
    refine a_iconst (v := nI 0) (pc' := 15) dX7_claims_14 (by decide) rfl ?_
    refine a_is_3_4 (pc' := 16) dX7_claims_15 rfl ?_
    exact lp_X7_claims hm _ _ h1 hg np 0 _ (by omega) ⟨by simp [clmS, c_6, hnp], rfl⟩
  · refine a_ldc (pc' := 11) dX7_claims_9 cn_X7_92 rfl ?_
    refine a_iret dX7_claims_11 rfl rfl ?_
    exact fI (by simp [clmS, c_6])
set_option maxRecDepth 20000 in
set_option maxHeartbeats 4000000 in
theorem ct_X7_entry {v z j k t : Nat} (hv : v < 3) (hz : z < 3) (hj1 : 1 ≤ j) (hj : j < 2 ^ 31) (hk : k < 2) (ht : t ≤ 600) (M : Mm) (h2 : M 50 2 = nI t) (hL : LG M) : Ct yX7_entry cX7_entry 5 (some .int) 1 22 [.inr (7, 0, 0, 0), .inl (nI v), .inl (nI z), .inl (nI j), .inl (nI k)] M (RI (enS M v z j k) M) := by
  refine Ct.at RX7 rfl (by decide +kernel) (Nat.le_of_ble_eq_true rfl) [some (.inr (7, 0, 0, 0)), some (.inl (nI v)), some (.inl (nI z)), some (.inl (nI j)), some (.inl (nI k))] rfl (fun G => ?_)
  refine a_il_3_5 (pc' := 1) dX7_entry_0 rfl ?_
  refine a_al_0_5 (pc' := 2) dX7_entry_1 rfl ?_
  refine gf_7_0 (pc' := 5) fl_X7_7 dX7_entry_2 rfl ?_
  refine a_iconst (v := nI 2) (pc' := 6) dX7_entry_5 (by decide) rfl ?_
  refine a_ialdN (pc' := 7) rfl (by omega) (by decide) dX7_entry_6 rfl ?_
  refine a_icmp_gt (pc' := 10) (tgt := 20) dX7_entry_7 (by decide) rfl (fun c_7 => ?_) (fun c_7 => ?_)
  · refine a_ldc (pc' := 22) dX7_entry_20 cn_X7_183 rfl ?_
    refine a_goto (pc' := 48) dX7_entry_22 (by decide) ?_
    refine a_iret dX7_entry_48 rfl rfl ?_
    exact fI (by simp [enS, c_7, -Int32.not_le, -Int32.not_lt])
  · refine a_il_3_5 (pc' := 11) dX7_entry_10 rfl ?_
    refine a_al_0_5 (pc' := 12) dX7_entry_11 rfl ?_
    refine a_il_1_5 (pc' := 13) dX7_entry_12 rfl ?_
    refine a_iconst (v := nI 3) (pc' := 14) dX7_entry_13 (by decide) rfl ?_
    refine k_VI (pc' := 17) (ct_X7_of (by omega) (by omega) _) cw_X7_65 mi_X7_of se_X7_of rfl rfl rfl rfl (by decide) (by decide) (Nat.le_of_ble_eq_true rfl) rfl dX7_entry_14 rfl ?_
    refine a_icmp_gt (pc' := 20) (tgt := 25) dX7_entry_17 (by decide) rfl (fun c_17 => ?_) (fun c_17 => ?_)
    · have hjt : j ≤ 600 := by
        rcases Nat.lt_or_ge t j with q | q
        · exact absurd (by rw [h2]; exact nI_lt q hj) c_7
        · omega
      refine a_al_0_5 (pc' := 26) dX7_entry_25 rfl ?_
      refine gf_7_5 (pc' := 29) fl_X7_22 dX7_entry_26 rfl ?_
      refine a_bipush (v := nI 18) (pc' := 31) dX7_entry_29 (by decide) rfl ?_
      refine a_il_3_5 (pc' := 32) dX7_entry_31 rfl ?_
      refine a_iconst (v := nI 1) (pc' := 33) dX7_entry_32 (by decide) rfl ?_
      refine a_isubN (pc' := 34) (by omega) dX7_entry_33 rfl ?_
      refine a_imulN (pc' := 35) dX7_entry_34 rfl ?_
      refine a_bipush (v := nI 6) (pc' := 37) dX7_entry_35 (by decide) rfl ?_
      refine a_il_1_5 (pc' := 38) dX7_entry_37 rfl ?_
      refine a_imulN (pc' := 39) dX7_entry_38 rfl ?_
      refine a_iaddN (pc' := 40) dX7_entry_39 rfl ?_
      refine a_iconst (v := nI 2) (pc' := 41) dX7_entry_40 (by decide) rfl ?_
      refine a_il_2_5 (pc' := 42) dX7_entry_41 rfl ?_
      refine a_imulN (pc' := 43) dX7_entry_42 rfl ?_
      refine a_iaddN (pc' := 44) dX7_entry_43 rfl ?_
      refine a_il_4_5 (pc' := 46) dX7_entry_44 rfl ?_
      refine a_iaddN (pc' := 47) dX7_entry_46 rfl ?_
      refine a_ialdN (pc' := 48) rfl (by omega) (by decide) dX7_entry_47 rfl ?_
      refine a_iret dX7_entry_48 rfl rfl ?_
      refine fI ?_
      rw [hL v z k j hv hz hk hj1 hjt]
      simp [enS, c_7, c_17, -Int32.not_le, -Int32.not_lt]
    · refine a_ldc (pc' := 22) dX7_entry_20 cn_X7_183 rfl ?_
      refine a_goto (pc' := 48) dX7_entry_22 (by decide) ?_
      refine a_iret dX7_entry_48 rfl rfl ?_
      exact fI (by simp [enS, c_7, c_17, -Int32.not_le, -Int32.not_lt])
set_option maxRecDepth 20000 in
set_option maxHeartbeats 4000000 in
theorem ct_X7_log {nv : Nat} (hn : nv ≤ 3) {t : Nat} (ht : t ≤ 600) (x z y w : Int32) (M : Mm) (h0 : M 50 0 = nI nv) (h2 : M 50 2 = nI t) (hL : LG M) : Ct yX7_log cX7_log 5 (some .int) 2 46 [.inr (7, 0, 0, 0), .inl x, .inl z, .inl y, .inl w] M (RI (logG (M 50) (hrow M) x z y w) M) := by
  refine Ct.at RX7 rfl (by decide +kernel) (Nat.le_of_ble_eq_true rfl) [some (.inr (7, 0, 0, 0)), some (.inl x), some (.inl z), some (.inl y), some (.inl w)] rfl (fun G => ?_)
  refine a_al_0_5 (pc' := 1) dX7_log_0 rfl ?_
  refine a_il_1_5 (pc' := 2) dX7_log_1 rfl ?_
  refine k_VI (pc' := 5) (ct_X7_isVan (by omega) _ _ (by assumption)) cw_X7_88 mi_X7_isVan se_X7_isVan rfl rfl rfl rfl (by decide) (by decide) (Nat.le_of_ble_eq_true rfl) rfl dX7_log_2 rfl ?_
  refine a_ifB_eq (pc' := 8) (tgt := 30) dX7_log_5 (by decide) rfl (fun c_5 => ?_) (fun c_5 => ?_)
  · refine a_ldc (pc' := 32) dX7_log_30 cn_X7_92 rfl ?_
    refine a_iret dX7_log_32 rfl rfl ?_
    exact fI (by simp [logG, logB, hzS, c_5, -Int32.not_le, -Int32.not_lt])
  · refine a_il_2_5 (pc' := 9) dX7_log_8 rfl ?_
    refine k_SI (pc' := 12) (ct_X7_isZone _ _) cw_X7_108 ms_X7_isZone rfl (by decide) (by decide) (Nat.le_of_ble_eq_true rfl) rfl dX7_log_9 rfl ?_
    refine a_ifB_eq (pc' := 15) (tgt := 30) dX7_log_12 (by decide) rfl (fun c_12 => ?_) (fun c_12 => ?_)
    · refine a_ldc (pc' := 32) dX7_log_30 cn_X7_92 rfl ?_
      refine a_iret dX7_log_32 rfl rfl ?_
      exact fI (by simp [logG, logB, hzS, c_5, c_12, -Int32.not_le, -Int32.not_lt])
    · refine a_il_3_5 (pc' := 16) dX7_log_15 rfl ?_
      refine a_iconst (v := nI 1) (pc' := 17) dX7_log_16 (by decide) rfl ?_
      refine a_icmp_lt (pc' := 20) (tgt := 30) dX7_log_17 (by decide) rfl (fun c_17 => ?_) (fun c_17 => ?_)
      · refine a_ldc (pc' := 32) dX7_log_30 cn_X7_92 rfl ?_
        refine a_iret dX7_log_32 rfl rfl ?_
        exact fI (by simp [logG, logB, hzS, c_5, c_12, c_17, -Int32.not_le, -Int32.not_lt])
      · refine a_il_4_5 (pc' := 22) dX7_log_20 rfl ?_
        refine a_iconst (v := nI 0) (pc' := 23) dX7_log_22 (by decide) rfl ?_
        refine a_iconst (v := nI 1) (pc' := 24) dX7_log_23 (by decide) rfl ?_
        refine k_SI (pc' := 27) (ct_X7_in _ _ _ _) cw_X7_43 ms_X7_in rfl (by decide) (by decide) (Nat.le_of_ble_eq_true rfl) rfl dX7_log_24 rfl ?_
        refine a_ifB_ne (pc' := 30) (tgt := 33) dX7_log_27 (by decide) rfl (fun c_27 => ?_) (fun c_27 => ?_)
        · obtain ⟨v, z, hv, hz, rfl, rfl⟩ := hzS_nI (show hzS (M 50) x z = true by simp [hzS, c_5, c_12]) h0 (by omega)
          have hcl : vN (nI v) = v := vN_nI (by omega)
          have hcz : vN (nI z) = z := vN_nI (by omega)
          obtain ⟨k, -, hk, rfl⟩ := inn_nI (a := 0) (b := 1) c_27 (by decide)
          obtain ⟨j, hj1, hj, rfl⟩ := nlt1 c_17
          have hck : vN (nI k) = k := vN_nI (by omega)
          have hcj : vN (nI j) = j := vN_nI (by omega)
          refine a_al_0_5 (pc' := 34) dX7_log_33 rfl ?_
          refine a_il_1_5 (pc' := 35) dX7_log_34 rfl ?_
          refine a_il_2_5 (pc' := 36) dX7_log_35 rfl ?_
          refine a_il_3_5 (pc' := 37) dX7_log_36 rfl ?_
          refine a_il_4_5 (pc' := 39) dX7_log_37 rfl ?_
          refine k_VI (pc' := 42) (ct_X7_entry (t := t) (by omega) (by omega) hj1 hj (by omega) ht _ h2 hL) cw_X7_184 mi_X7_entry se_X7_entry rfl rfl rfl rfl (by decide) (by decide) (Nat.le_of_ble_eq_true rfl) rfl dX7_log_39 rfl ?_
          refine a_iret dX7_log_42 rfl rfl ?_
          exact fI (by simp [logG, logB, hzS, hcl, hcz, hck, hcj, enS, c_5, c_12, c_17, c_27, -Int32.not_le, -Int32.not_lt])
        · refine a_ldc (pc' := 32) dX7_log_30 cn_X7_92 rfl ?_
          refine a_iret dX7_log_32 rfl rfl ?_
          exact fI (by simp [logG, logB, hzS, c_5, c_12, c_17, c_27, -Int32.not_le, -Int32.not_lt])
