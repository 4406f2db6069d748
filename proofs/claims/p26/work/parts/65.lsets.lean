theorem or_nI0 (x : Int32) : x ||| nI 0 = x := by rw [nI_0, Int32.or_zero]
theorem many_step : ∀ s : Nat, s < 64 → 0 < s → nI s &&& nI (s - 1) = nI (s &&& (s - 1)) ∧ bcS (nI s) = nI 1 + bcS (nI (s &&& (s - 1))) ∧ (s &&& (s - 1)) < s := by decide +kernel
theorem and1_01 (x : Int32) : x &&& nI 1 = nI 0 ∨ x &&& nI 1 = nI 1 := by
  rw [pk_and x (m := nI 1) 1 (by decide)]
  have : x.toBitVec.toNat % 2 ^ 1 = 0 ∨ x.toBitVec.toNat % 2 ^ 1 = 1 := by omega
  rcases this with h | h
  · exact Or.inl (by rw [h])
  · exact Or.inr (by rw [h])
theorem bit_mul (s p y : Int32) : ((s >>> (p &&& 31)) &&& nI 1) * y = if bitB s p then y else 0 := by
  unfold bitB
  rcases and1_01 (s >>> (p &&& 31)) with h | h
  · rw [h, show decide (nI 0 = nI 1) = false from by decide, nI_0, Int32.zero_mul]; rfl
  · rw [h, show decide (nI 1 = nI 1) = true from by decide, show nI 1 = (1 : Int32) from rfl, Int32.one_mul]; rfl
set_option maxRecDepth 20000 in
set_option maxHeartbeats 4000000 in
theorem lp_L_inside {G : Gl} {Φ : Option OV → Mm → Prop} {np : Nat} (hm : np ≤ 6) (x : Int32) (M : Mm) {F : Nat → Int32} (hL : LA M F) (hvo : vOK F) (hzo : zOK F) (h1 : F 1 = nI np) : ∀ (n p : Nat) (acc : Int32), p + n = np → (Φ (some (.inl (pinL F x n p acc))) M) → AW G cL_inside RL 5 0 0 (some .int) Φ 5 [some (.inr (9, 50, 6, 0)), some (.inr (9, 52, 60, 0)), some (.inl x), some (.inl acc), some (.inl (nI p))] [] M := by
  intro n
  induction n with
  | zero =>
    intro p acc he  hΦ
    refine a_il_4_5 (pc' := 7) dL_inside_5 rfl ?_
    refine a_al_0_5 (pc' := 8) dL_inside_7 rfl ?_
    refine a_iconst (v := nI 1) (pc' := 9) dL_inside_8 (by decide) rfl ?_
    refine a_ialdN (pc' := 10) rfl (by omega) (by decide) dL_inside_9 rfl ?_
    rw [hL.g (show 1 < 6 by decide), h1]
    refine a_icmp_ge (pc' := 13) (tgt := 55) dL_inside_10 (by decide) rfl (fun c_10 => ?_) (fun c_10 => absurd (nI_le (by omega) (by omega)) c_10)
    refine a_il_3_5 (pc' := 56) dL_inside_55 rfl ?_
    refine a_iret dL_inside_56 rfl rfl ?_
    exact hΦ
  | succ n ih =>
    intro p acc he  hΦ
    obtain ⟨w, hw, ev⟩ := hvo p (by omega)
    obtain ⟨z, hz, ez⟩ := hzo p (by omega)
    have hp6 : p < 6 := by omega
    have hp0 : M 52 (10 * p) = nI (3 * w + z) := by rw [hL.p0 hp6, ev, ez, pk_mul, nI_add]
    have hp4 : M 52 (10 * p + 4) = F (63 + 10 * p + 5) := hL.p hp6 4 5 (by decide) (by decide) rfl
    have h3w : (3 * w + z) / 3 = w := by omega
    refine a_il_4_5 (pc' := 7) dL_inside_5 rfl ?_
    refine a_al_0_5 (pc' := 8) dL_inside_7 rfl ?_
    refine a_iconst (v := nI 1) (pc' := 9) dL_inside_8 (by decide) rfl ?_
    refine a_ialdN (pc' := 10) rfl (by omega) (by decide) dL_inside_9 rfl ?_
    rw [hL.g (show 1 < 6 by decide), h1]
    refine a_icmp_ge (pc' := 13) (tgt := 55) dL_inside_10 (by decide) rfl (fun c_10 => absurd c_10 (nI_ge (by omega) (by omega))) (fun c_10 => ?_)
    refine a_il_3_5 (pc' := 14) dL_inside_13 rfl ?_
    refine a_al_1_5 (pc' := 15) dL_inside_14 rfl ?_
    refine a_bipush (v := nI 10) (pc' := 17) dL_inside_15 (by decide) rfl ?_
    refine a_il_4_5 (pc' := 19) dL_inside_17 rfl ?_
    refine a_imulN (pc' := 20) dL_inside_19 rfl ?_
    refine a_iconst (v := nI 4) (pc' := 21) dL_inside_20 (by decide) rfl ?_
    refine a_iaddN (pc' := 22) dL_inside_21 rfl ?_
    refine a_ialdN (pc' := 23) rfl (by omega) (by decide) dL_inside_22 rfl ?_
    rw [hp4]
    refine a_if_ne (pc' := 26) (tgt := 46) dL_inside_23 (by decide) rfl (fun c_23 => ?_) (fun c_23 => ?_)
    · refine a_iconst (v := nI 0) (pc' := 47) dL_inside_46 (by decide) rfl ?_
      refine a_ior (pc' := 48) dL_inside_47 rfl ?_
      refine a_is_3_5 (pc' := 49) dL_inside_48 rfl ?_
      refine a_iN_4_5 (m := p + 1) (pc' := 52) dL_inside_49 (nI_add _ _) rfl ?_
      refine a_goto (pc' := 5) dL_inside_52 (by decide) ?_
      exact ih (p + 1) _ (by omega) (by simpa [pinL, inP, ev, or_nI0, c_23] using hΦ)
    · refine a_al_1_5 (pc' := 27) dL_inside_26 rfl ?_
      refine a_bipush (v := nI 10) (pc' := 29) dL_inside_27 (by decide) rfl ?_
      refine a_il_4_5 (pc' := 31) dL_inside_29 rfl ?_
      refine a_imulN (pc' := 32) dL_inside_31 rfl ?_
      refine a_ialdN (pc' := 33) rfl (by omega) (by decide) dL_inside_32 rfl ?_
      rw [hp0]
      refine a_iconst (v := nI 3) (pc' := 34) dL_inside_33 (by decide) rfl ?_
      refine a_idivN (pc' := 35) (by omega) (by decide) (by decide) dL_inside_34 rfl ?_
      rw [h3w]
      refine a_il_2_5 (pc' := 36) dL_inside_35 rfl ?_
      refine a_icmp_ne (pc' := 39) (tgt := 46) dL_inside_36 (by decide) rfl (fun c_36 => ?_) (fun c_36 => ?_)
      · refine a_iconst (v := nI 0) (pc' := 47) dL_inside_46 (by decide) rfl ?_
        refine a_ior (pc' := 48) dL_inside_47 rfl ?_
        refine a_is_3_5 (pc' := 49) dL_inside_48 rfl ?_
        refine a_iN_4_5 (m := p + 1) (pc' := 52) dL_inside_49 (nI_add _ _) rfl ?_
        refine a_goto (pc' := 5) dL_inside_52 (by decide) ?_
        exact ih (p + 1) _ (by omega) (by simpa [pinL, inP, ev, or_nI0, c_23, c_36] using hΦ)
      · refine a_iconst (v := nI 1) (pc' := 40) dL_inside_39 (by decide) rfl ?_
        refine a_il_4_5 (pc' := 42) dL_inside_40 rfl ?_
        refine a_ishl (pc' := 43) dL_inside_42 rfl ?_
        refine a_goto (pc' := 47) dL_inside_43 (by decide) ?_
        refine a_ior (pc' := 48) dL_inside_47 rfl ?_
        refine a_is_3_5 (pc' := 49) dL_inside_48 rfl ?_
        refine a_iN_4_5 (m := p + 1) (pc' := 52) dL_inside_49 (nI_add _ _) rfl ?_
        refine a_goto (pc' := 5) dL_inside_52 (by decide) ?_
        exact ih (p + 1) _ (by omega) (by simpa [pinL, inP, ev, or_nI0, c_23, c_36] using hΦ)
set_option maxRecDepth 20000 in
set_option maxHeartbeats 4000000 in
theorem ct_L_inside {np : Nat} (hm : np ≤ 6) (x : Int32) (M : Mm) {F : Nat → Int32} (hL : LA M F) (hvo : vOK F) (hzo : zOK F) (h1 : F 1 = nI np) : Ct yL_inside cL_inside 5 (some .int) 0 0 [.inr (9, 50, 6, 0), .inr (9, 52, 60, 0), .inl x] M (RI (pinL F x np 0 (nI 0)) M) := by
  refine Ct.at RL rfl (by decide +kernel) (Nat.le_of_ble_eq_true rfl) [some (.inr (9, 50, 6, 0)), some (.inr (9, 52, 60, 0)), some (.inl x), none, none] rfl (fun G => ?_)
  refine a_iconst (v := nI 0) (pc' := 1) dL_inside_0 (by decide) rfl ?_
  refine a_is_3_5 (pc' := 2) dL_inside_1 rfl ?_
  refine a_iconst (v := nI 0) (pc' := 3) dL_inside_2 (by decide) rfl ?_
  refine a_is_4_5 (pc' := 5) dL_inside_3 rfl ?_
  exact lp_L_inside hm x M hL hvo hzo h1 np 0 _ (by omega) ⟨rfl, rfl⟩
theorem nI_le0 {k : Nat} (h0 : 0 < k) (h : k < 2147483648) : ¬ nI k ≤ 0 := fun q => by
  rw [Int32.le_iff_toInt_le, nI_toInt (by omega), show (0 : Int32).toInt = 0 from rfl] at q
  omega
set_option maxRecDepth 20000 in
set_option maxHeartbeats 4000000 in
theorem lp_L_many {G : Gl} {Φ : Option OV → Mm → Prop} (x0 : Option OV) (M : Mm) : ∀ (n s : Nat) (acc : Int32), s ≤ n → s < 64 → Φ (some (.inl (acc + bcS (nI s)))) M → AW G cL_many RL 3 0 0 (some .int) Φ 4 [x0, some (.inl acc), some (.inl (nI s))] [] M := by
  intro n
  induction n with
  | zero =>
    intro s acc hs h64 hΦ
    have hs0 : s = 0 := by omega
    refine a_il_2_3 (pc' := 5) dL_many_4 rfl ?_
    refine a_if_le (pc' := 8) (tgt := 20) dL_many_5 (by decide) rfl (fun c_5 => ?_) (fun c_5 => absurd (by rw [hs0]; decide) c_5)
    refine a_il_1_3 (pc' := 21) dL_many_20 rfl ?_
    refine a_iret dL_many_21 rfl rfl ?_
    subst hs0
    rw [show bcS (nI 0) = 0 from by decide, Int32.add_zero] at hΦ
    exact hΦ
  | succ n ih =>
    intro s acc hs h64 hΦ
    by_cases hs0 : s = 0
    · skip
      refine a_il_2_3 (pc' := 5) dL_many_4 rfl ?_
      refine a_if_le (pc' := 8) (tgt := 20) dL_many_5 (by decide) rfl (fun c_5 => ?_) (fun c_5 => absurd (by rw [hs0]; decide) c_5)
      refine a_il_1_3 (pc' := 21) dL_many_20 rfl ?_
      refine a_iret dL_many_21 rfl rfl ?_
      subst hs0
      rw [show bcS (nI 0) = 0 from by decide, Int32.add_zero] at hΦ
      exact hΦ
    · obtain ⟨m1, m2, m3⟩ := many_step s h64 (by omega)
      refine a_il_2_3 (pc' := 5) dL_many_4 rfl ?_
      refine a_if_le (pc' := 8) (tgt := 20) dL_many_5 (by decide) rfl (fun c_5 => absurd c_5 (nI_le0 (by omega) (by omega))) (fun c_5 => ?_)
      refine a_in_1_3 (c9 := nI 1) (pc' := 11) dL_many_8 (by decide) rfl ?_
      refine a_il_2_3 (pc' := 12) dL_many_11 rfl ?_
      refine a_il_2_3 (pc' := 13) dL_many_12 rfl ?_
      refine a_iconst (v := nI 1) (pc' := 14) dL_many_13 (by decide) rfl ?_
      refine a_isubN (pc' := 15) (by omega) dL_many_14 rfl ?_
      refine a_iand (pc' := 16) dL_many_15 rfl ?_
      rw [m1]
      refine a_is_2_3 (pc' := 17) dL_many_16 rfl ?_
      refine a_goto (pc' := 4) dL_many_17 (by decide) ?_
      refine ih (s &&& (s - 1)) _ (by omega) (by omega) ?_
      rw [m2, ← Int32.add_assoc] at hΦ
      exact hΦ
set_option maxRecDepth 20000 in
set_option maxHeartbeats 4000000 in
theorem ct_L_many {s : Nat} (hs : s < 64) (M : Mm) : Ct yL_many cL_many 3 (some .int) 0 0 [.inl (nI s)] M (RI (bcS (nI s)) M) := by
  refine Ct.at RL rfl (by decide +kernel) (Nat.le_of_ble_eq_true rfl) [some (.inl (nI s)), none, none] rfl (fun G => ?_)
  refine a_iconst (v := nI 0) (pc' := 1) dL_many_0 (by decide) rfl ?_
  refine a_is_1_3 (pc' := 2) dL_many_1 rfl ?_
  refine a_il_0_3 (pc' := 3) dL_many_2 rfl ?_
  refine a_is_2_3 (pc' := 4) dL_many_3 rfl ?_
  exact lp_L_many _ M s s _ (Nat.le_refl _) hs ⟨by rw [nI_0, Int32.zero_add], rfl⟩
set_option maxRecDepth 20000 in
set_option maxHeartbeats 4000000 in
theorem ct_L_cause {p : Nat} (hp : p < 6) (M : Mm) {F : Nat → Int32} (hL : LA M F) (hst : F (63 + 10 * p + 5) = nI 0 ∨ F (63 + 10 * p + 5) = nI 1 ∨ F (63 + 10 * p + 5) = nI 2 ∨ F (63 + 10 * p + 5) = nI 3) : Ct yL_cause cL_cause 4 (some .int) 0 0 [.inr (9, 52, 60, 0), .inl (nI p)] M (RI (causeP F p) M) := by
  have hp6 := hp
  have hp4 : M 52 (10 * p + 4) = F (63 + 10 * p + 5) := hL.p hp6 4 5 (by decide) (by decide) rfl
  have hp2 : M 52 (10 * p + 2) = F (63 + 10 * p + 3) := hL.p hp6 2 3 (by decide) (by decide) rfl
  have hp5 : M 52 (10 * p + 5) = F (63 + 10 * p + 6) := hL.p hp6 5 6 (by decide) (by decide) rfl
  have hp6c : M 52 (10 * p + 6) = F (63 + 10 * p + 7) := hL.p hp6 6 7 (by decide) (by decide) rfl
  have hrej : rejP F p = decide (nI 2 ≤ F (63 + 10 * p + 5)) := by
    unfold rejP
    rcases hst with h | h | h | h <;> rw [h] <;> decide
  refine Ct.at RL rfl (by decide +kernel) (Nat.le_of_ble_eq_true rfl) [some (.inr (9, 52, 60, 0)), some (.inl (nI p)), none, none] rfl (fun G => ?_)
  refine a_bipush (v := nI 10) (pc' := 2) dL_cause_0 (by decide) rfl ?_
  refine a_il_1_4 (pc' := 3) dL_cause_2 rfl ?_
  refine a_imulN (pc' := 4) dL_cause_3 rfl ?_
  refine a_is_2_4 (pc' := 5) dL_cause_4 rfl ?_
  refine a_al_0_4 (pc' := 6) dL_cause_5 rfl ?_
  refine a_il_2_4 (pc' := 7) dL_cause_6 rfl ?_
  refine a_iconst (v := nI 5) (pc' := 8) dL_cause_7 (by decide) rfl ?_
  refine a_iaddN (pc' := 9) dL_cause_8 rfl ?_
  refine a_ialdN (pc' := 10) rfl (by omega) (by decide) dL_cause_9 rfl ?_
  rw [hp5]
  refine a_al_0_4 (pc' := 11) dL_cause_10 rfl ?_
  refine a_il_2_4 (pc' := 12) dL_cause_11 rfl ?_
  refine a_bipush (v := nI 6) (pc' := 14) dL_cause_12 (by decide) rfl ?_
  refine a_iaddN (pc' := 15) dL_cause_14 rfl ?_
  refine a_ialdN (pc' := 16) rfl (by omega) (by decide) dL_cause_15 rfl ?_
  rw [hp6c]
  refine a_iadd (pc' := 17) dL_cause_16 rfl ?_
  refine a_is_3_4 (pc' := 18) dL_cause_17 rfl ?_
  refine a_al_0_4 (pc' := 19) dL_cause_18 rfl ?_
  refine a_il_2_4 (pc' := 20) dL_cause_19 rfl ?_
  refine a_iconst (v := nI 4) (pc' := 21) dL_cause_20 (by decide) rfl ?_
  refine a_iaddN (pc' := 22) dL_cause_21 rfl ?_
  refine a_ialdN (pc' := 23) rfl (by omega) (by decide) dL_cause_22 rfl ?_
  rw [hp4]
  refine a_iconst (v := nI 2) (pc' := 24) dL_cause_23 (by decide) rfl ?_
  refine a_icmp_ge (pc' := 27) (tgt := 31) dL_cause_24 (by decide) rfl (fun c_24 => ?_) (fun c_24 => ?_)
  · refine a_il_3_4 (pc' := 32) dL_cause_31 rfl ?_
    refine a_al_0_4 (pc' := 33) dL_cause_32 rfl ?_
    refine a_il_2_4 (pc' := 34) dL_cause_33 rfl ?_
    refine a_iconst (v := nI 2) (pc' := 35) dL_cause_34 (by decide) rfl ?_
    refine a_iaddN (pc' := 36) dL_cause_35 rfl ?_
    refine a_ialdN (pc' := 37) rfl (by omega) (by decide) dL_cause_36 rfl ?_
    rw [hp2]
    refine a_icmp_gt (pc' := 40) (tgt := 44) dL_cause_37 (by decide) rfl (fun c_37 => ?_) (fun c_37 => ?_)
    · refine a_al_0_4 (pc' := 45) dL_cause_44 rfl ?_
      refine a_il_2_4 (pc' := 46) dL_cause_45 rfl ?_
      refine a_iconst (v := nI 5) (pc' := 47) dL_cause_46 (by decide) rfl ?_
      refine a_iaddN (pc' := 48) dL_cause_47 rfl ?_
      refine a_ialdN (pc' := 49) rfl (by omega) (by decide) dL_cause_48 rfl ?_
      rw [hp5]
      refine a_al_0_4 (pc' := 50) dL_cause_49 rfl ?_
      refine a_il_2_4 (pc' := 51) dL_cause_50 rfl ?_
      refine a_bipush (v := nI 6) (pc' := 53) dL_cause_51 (by decide) rfl ?_
      refine a_iaddN (pc' := 54) dL_cause_53 rfl ?_
      refine a_ialdN (pc' := 55) rfl (by omega) (by decide) dL_cause_54 rfl ?_
      rw [hp6c]
      refine a_icmp_ge (pc' := 58) (tgt := 62) dL_cause_55 (by decide) rfl (fun c_55 => ?_) (fun c_55 => ?_)
      · refine a_iconst (v := nI 1) (pc' := 63) dL_cause_62 (by decide) rfl ?_
        refine a_iret dL_cause_63 rfl rfl ?_
        exact fI (by simp [causeP, hrej, c_24, c_37, Int32.not_lt.mpr c_55, -Int32.not_le, -Int32.not_lt])
      · refine a_iconst (v := nI 2) (pc' := 59) dL_cause_58 (by decide) rfl ?_
        refine a_goto (pc' := 63) dL_cause_59 (by decide) ?_
        refine a_iret dL_cause_63 rfl rfl ?_
        exact fI (by simp [causeP, hrej, c_24, c_37, Int32.not_le.mp c_55, -Int32.not_le, -Int32.not_lt])
    · refine a_iconst (v := nI 3) (pc' := 41) dL_cause_40 (by decide) rfl ?_
      refine a_goto (pc' := 63) dL_cause_41 (by decide) ?_
      refine a_iret dL_cause_63 rfl rfl ?_
      exact fI (by simp [causeP, hrej, c_24, c_37, -Int32.not_le, -Int32.not_lt])
  · refine a_iconst (v := nI 0) (pc' := 28) dL_cause_27 (by decide) rfl ?_
    refine a_goto (pc' := 63) dL_cause_28 (by decide) ?_
    refine a_iret dL_cause_63 rfl rfl ?_
    exact fI (by simp [causeP, hrej, c_24, -Int32.not_le, -Int32.not_lt])
set_option maxRecDepth 20000 in
set_option maxHeartbeats 4000000 in
theorem lp_L_shares1 {G : Gl} {Φ : Option OV → Mm → Prop} {np : Nat} (hm : np ≤ 6) (s c : Int32) (x6 x7 : Option OV) (M : Mm) {F : Nat → Int32} (hL : LA M F) (h1 : F 1 = nI np) : ∀ (n p : Nat) (acc : Int32), p + n = np → (AW G cL_shares RL 8 1 22 (some .int) Φ 41 [some (.inr (9, 50, 6, 0)), some (.inr (9, 52, 60, 0)), some (.inl s), some (.inl c), some (.inl (valL F s n p acc)), some (.inl (nI np)), x6, x7] [] M) → AW G cL_shares RL 8 1 22 (some .int) Φ 6 [some (.inr (9, 50, 6, 0)), some (.inr (9, 52, 60, 0)), some (.inl s), some (.inl c), some (.inl acc), some (.inl (nI p)), x6, x7] [] M := by
  intro n
  induction n with
  | zero =>
    intro p acc he  hΦ
    refine a_il_5_8 (pc' := 8) dL_shares_6 rfl ?_
    refine a_al_0_8 (pc' := 9) dL_shares_8 rfl ?_
    refine a_iconst (v := nI 1) (pc' := 10) dL_shares_9 (by decide) rfl ?_
    refine a_ialdN (pc' := 11) rfl (by omega) (by decide) dL_shares_10 rfl ?_
    rw [hL.g (show 1 < 6 by decide), h1]
    refine a_icmp_ge (pc' := 14) (tgt := 41) dL_shares_11 (by decide) rfl (fun c_11 => ?_) (fun c_11 => absurd (nI_le (by omega) (by omega)) c_11)
    obtain rfl : p = np := by omega
    exact hΦ
  | succ n ih =>
    intro p acc he  hΦ
    refine a_il_5_8 (pc' := 8) dL_shares_6 rfl ?_
    refine a_al_0_8 (pc' := 9) dL_shares_8 rfl ?_
    refine a_iconst (v := nI 1) (pc' := 10) dL_shares_9 (by decide) rfl ?_
    refine a_ialdN (pc' := 11) rfl (by omega) (by decide) dL_shares_10 rfl ?_
    rw [hL.g (show 1 < 6 by decide), h1]
    refine a_icmp_ge (pc' := 14) (tgt := 41) dL_shares_11 (by decide) rfl (fun c_11 => absurd c_11 (nI_ge (by omega) (by omega))) (fun c_11 => ?_)
    refine a_il_4_8 (pc' := 16) dL_shares_14 rfl ?_
    refine a_il_2_8 (pc' := 17) dL_shares_16 rfl ?_
    refine a_il_5_8 (pc' := 19) dL_shares_17 rfl ?_
    refine a_ishr (pc' := 20) dL_shares_19 rfl ?_
    refine a_iconst (v := nI 1) (pc' := 21) dL_shares_20 (by decide) rfl ?_
    refine a_iand (pc' := 22) dL_shares_21 rfl ?_
    refine a_al_1_8 (pc' := 23) dL_shares_22 rfl ?_
    refine a_bipush (v := nI 10) (pc' := 25) dL_shares_23 (by decide) rfl ?_
    refine a_il_5_8 (pc' := 27) dL_shares_25 rfl ?_
    refine a_imulN (pc' := 28) dL_shares_27 rfl ?_
    refine a_iconst (v := nI 3) (pc' := 29) dL_shares_28 (by decide) rfl ?_
    refine a_iaddN (pc' := 30) dL_shares_29 rfl ?_
    refine a_ialdN (pc' := 31) rfl (by omega) (by decide) dL_shares_30 rfl ?_
    rw [hL.p (by omega) 3 4 (by decide) (by decide) rfl]
    refine a_imul (pc' := 32) dL_shares_31 rfl ?_
    rw [bit_mul]
    refine a_iadd (pc' := 33) dL_shares_32 rfl ?_
    refine a_is_4_8 (pc' := 35) dL_shares_33 rfl ?_
    refine a_iN_5_8 (m := p + 1) (pc' := 38) dL_shares_35 (nI_add _ _) rfl ?_
    refine a_goto (pc' := 6) dL_shares_38 (by decide) ?_
    refine ih (p + 1) _ (by omega) ?_
    unfold valL at hΦ
    by_cases hb : bitB s (nI p) = true
    · rw [if_pos hb] at hΦ ⊢; exact hΦ
    · rw [if_neg hb, Int32.add_zero]; rw [if_neg hb] at hΦ; exact hΦ
theorem ds1_lo (s c D : Int32) (b : Bool) (F : Nat → Int32) (p : Nat) {i : Nat} (hi : i < 63) : ds1 s c D b F p i = F i := by unfold ds1; rw [upd_at, if_neg (by omega), upd_at, if_neg (by omega)]
theorem dg1_lo (F : Nat → Int32) (p : Nat) (l : Int32) {i : Nat} (hi : i < 63) : dg1 F p l i = F i := by unfold dg1; rw [upd_at, if_neg (by omega)]
theorem share_set {M : Mm} {F : Nat → Int32} (hL : LA M F) {p : Nat} (hp : p < 6) (s c D : Int32) (b : Bool) {x : Int32} (hx : x = c * (if b then nI 1 else F (63 + 10 * p + 4)) / D) : wr (wr M 52 (10 * p + 8) x) 52 (10 * p + 4) (nI 3) = LM M (ds1 s c D b F p) := by
  rw [wr_eq, wr_eq, setR_same, setR_setR, hL.2.2, upd_p F _ hp (by decide) (by decide) (show 63 + 10 * p + 9 = 63 + 10 * p + 8 + 1 from rfl), upd_p _ _ hp (by decide) (by decide) (show 63 + 10 * p + 5 = 63 + 10 * p + 4 + 1 from rfl), hx]
  exact hL.at52 (F' := ds1 s c D b F p) (fun i hi => (ds1_lo s c D b F p hi).symm)
theorem give_set {M : Mm} {F : Nat → Int32} (hL : LA M F) {p : Nat} (hp : p < 6) (l : Int32) {x : Int32} (hx : x = if l ≤ 0 then F (63 + 10 * p + 9) else F (63 + 10 * p + 9) + nI 1) : wr M 52 (10 * p + 8) x = LM M (dg1 F p l) := by
  rw [wr_eq, hL.2.2, upd_p F _ hp (by decide) (by decide) (show 63 + 10 * p + 9 = 63 + 10 * p + 8 + 1 from rfl), hx]
  exact hL.at52 (F' := dg1 F p l) (fun i hi => (dg1_lo F p l hi).symm)
set_option maxRecDepth 20000 in
set_option maxHeartbeats 4000000 in
theorem lp_L_shares2a {G : Gl} {Φ : Option OV → Mm → Prop} {np : Nat} (hm : np ≤ 6) {j : Nat} (hj : j < 64) (c D V : Int32) (hV : V = 0) (hD : ¬ bcS (nI j) = 0) (hDe : D = bcS (nI j)) : ∀ (n p : Nat) (M : Mm) (F : Nat → Int32) (lf : Int32) (x7 : Option OV), p + n = np → (LA M F) → (F 1 = nI np) → (AW G cL_shares RL 8 1 22 (some .int) Φ 134 [some (.inr (9, 50, 6, 0)), some (.inr (9, 52, 60, 0)), some (.inl (nI j)), some (.inl c), some (.inl V), some (.inl (dsN (nI j) c D true n p F lf)), some (.inl (nI np)), x7] [] (LM M (dsF (nI j) c D true n p F))) → AW G cL_shares RL 8 1 22 (some .int) Φ 47 [some (.inr (9, 50, 6, 0)), some (.inr (9, 52, 60, 0)), some (.inl (nI j)), some (.inl c), some (.inl V), some (.inl lf), some (.inl (nI p)), x7] [] M := by
  intro n
  induction n with
  | zero =>
    intro p M F lf x7 he hL h1 hΦ
    refine a_il_6_8 (pc' := 49) dL_shares_47 rfl ?_
    refine a_al_0_8 (pc' := 50) dL_shares_49 rfl ?_
    refine a_iconst (v := nI 1) (pc' := 51) dL_shares_50 (by decide) rfl ?_
    refine a_ialdN (pc' := 52) rfl (by omega) (by decide) dL_shares_51 rfl ?_
    rw [hL.g (show 1 < 6 by decide), h1]
    refine a_icmp_ge (pc' := 55) (tgt := 134) dL_shares_52 (by decide) rfl (fun c_52 => ?_) (fun c_52 => absurd (nI_le (by omega) (by omega)) c_52)
    obtain rfl : p = np := by omega
    rw [show LM M (dsF (nI j) c D true 0 p F) = M from hL.LM] at hΦ
    exact hΦ
  | succ n ih =>
    intro p M F lf x7 he hL h1 hΦ
    have hp6 : p < 6 := by omega
    refine a_il_6_8 (pc' := 49) dL_shares_47 rfl ?_
    refine a_al_0_8 (pc' := 50) dL_shares_49 rfl ?_
    refine a_iconst (v := nI 1) (pc' := 51) dL_shares_50 (by decide) rfl ?_
    refine a_ialdN (pc' := 52) rfl (by omega) (by decide) dL_shares_51 rfl ?_
    rw [hL.g (show 1 < 6 by decide), h1]
    refine a_icmp_ge (pc' := 55) (tgt := 134) dL_shares_52 (by decide) rfl (fun c_52 => absurd c_52 (nI_ge (by omega) (by omega))) (fun c_52 => ?_)
    refine a_il_2_8 (pc' := 56) dL_shares_55 rfl ?_
    refine a_il_6_8 (pc' := 58) dL_shares_56 rfl ?_
    refine a_ishr (pc' := 59) dL_shares_58 rfl ?_
    refine a_iconst (v := nI 1) (pc' := 60) dL_shares_59 (by decide) rfl ?_
    refine a_iand (pc' := 61) dL_shares_60 rfl ?_
    refine a_iconst (v := nI 1) (pc' := 62) dL_shares_61 (by decide) rfl ?_
    refine a_icmp_ne (pc' := 65) (tgt := 128) dL_shares_62 (by decide) rfl (fun c_62 => ?_) (fun c_62 => ?_)
    · refine a_iN_6_8 (m := p + 1) (pc' := 131) dL_shares_128 (nI_add _ _) rfl ?_
      refine a_goto (pc' := 47) dL_shares_131 (by decide) ?_
      refine ih (p + 1) _ _ _ _ (by omega) hL h1 ?_
      simpa [dsF, dsN, bitB, c_62] using hΦ
    · refine a_al_1_8 (pc' := 66) dL_shares_65 rfl ?_
      refine a_bipush (v := nI 10) (pc' := 68) dL_shares_66 (by decide) rfl ?_
      refine a_il_6_8 (pc' := 70) dL_shares_68 rfl ?_
      refine a_imulN (pc' := 71) dL_shares_70 rfl ?_
      refine a_bipush (v := nI 8) (pc' := 73) dL_shares_71 (by decide) rfl ?_
      refine a_iaddN (pc' := 74) dL_shares_73 rfl ?_
      refine a_il_4_8 (pc' := 76) dL_shares_74 rfl ?_
      refine a_if_ne (pc' := 79) (tgt := 88) dL_shares_76 (by decide) rfl (fun c_76 => absurd hV c_76) (fun c_76 => ?_)
      refine a_il_3_8 (pc' := 80) dL_shares_79 rfl ?_
      refine a_il_2_8 (pc' := 81) dL_shares_80 rfl ?_
      refine k_SI (pc' := 84) (ct_L_many hj _) cw_L_39 ms_L_many rfl (by decide) (by decide) (Nat.le_of_ble_eq_true rfl) rfl dL_shares_81 rfl ?_
      refine a_idiv (pc' := 85) dL_shares_84 hD rfl ?_
      refine a_goto (pc' := 102) dL_shares_85 (by decide) ?_
      refine a_iastN (pc' := 103) rfl (by omega) (by decide) dL_shares_102 rfl ?_
      refine a_al_1_8 (pc' := 104) dL_shares_103 rfl ?_
      refine a_bipush (v := nI 10) (pc' := 106) dL_shares_104 (by decide) rfl ?_
      refine a_il_6_8 (pc' := 108) dL_shares_106 rfl ?_
      refine a_imulN (pc' := 109) dL_shares_108 rfl ?_
      refine a_iconst (v := nI 4) (pc' := 110) dL_shares_109 (by decide) rfl ?_
      refine a_iaddN (pc' := 111) dL_shares_110 rfl ?_
      refine a_iconst (v := nI 3) (pc' := 112) dL_shares_111 (by decide) rfl ?_
      refine a_iastN (pc' := 113) rfl (by omega) (by decide) dL_shares_112 rfl ?_
      refine a_castS rfl (share_set hL hp6 (nI j) c D true (by rw [if_pos rfl, show nI 1 = (1 : Int32) from rfl, Int32.mul_one, hDe])) ?_
      refine a_il_5_8 (pc' := 115) dL_shares_113 rfl ?_
      refine a_al_1_8 (pc' := 116) dL_shares_115 rfl ?_
      refine a_bipush (v := nI 10) (pc' := 118) dL_shares_116 (by decide) rfl ?_
      refine a_il_6_8 (pc' := 120) dL_shares_118 rfl ?_
      refine a_imulN (pc' := 121) dL_shares_120 rfl ?_
      refine a_bipush (v := nI 8) (pc' := 123) dL_shares_121 (by decide) rfl ?_
      refine a_iaddN (pc' := 124) dL_shares_123 rfl ?_
      refine a_ialdN (pc' := 125) rfl (by omega) (by decide) dL_shares_124 rfl ?_
      rw [LM_LA.p hp6 8 9 (by decide) (by decide) rfl]
      refine a_isub (pc' := 126) dL_shares_125 rfl ?_
      refine a_is_5_8 (pc' := 128) dL_shares_126 rfl ?_
      refine a_iN_6_8 (m := p + 1) (pc' := 131) dL_shares_128 (nI_add _ _) rfl ?_
      refine a_goto (pc' := 47) dL_shares_131 (by decide) ?_
      rw [show ds1 (nI j) c D true F p (63 + 10 * p + 9) = c * (if true = true then nI 1 else F (63 + 10 * p + 4)) / D from by unfold ds1; rw [upd_at, if_neg (by omega), upd_at, if_pos rfl]]
      refine ih (p + 1) _ _ _ _ (by omega) LM_LA (by rw [ds1_lo _ _ _ _ _ _ (by decide)]; exact h1) ?_
      rw [LM_LM]
      have hbt : bitB (nI j) (nI p) = true := by simp [bitB, c_62]
      simp only [dsF, dsN, hbt, if_true] at hΦ
      exact hΦ
set_option maxRecDepth 20000 in
set_option maxHeartbeats 4000000 in
theorem lp_L_shares2b {G : Gl} {Φ : Option OV → Mm → Prop} {np : Nat} (hm : np ≤ 6) {j : Nat} (hj : j < 64) (c D V : Int32) (hV : ¬ V = 0) (hD : ¬ V = 0) (hDe : D = V) : ∀ (n p : Nat) (M : Mm) (F : Nat → Int32) (lf : Int32) (x7 : Option OV), p + n = np → (LA M F) → (F 1 = nI np) → (AW G cL_shares RL 8 1 22 (some .int) Φ 134 [some (.inr (9, 50, 6, 0)), some (.inr (9, 52, 60, 0)), some (.inl (nI j)), some (.inl c), some (.inl V), some (.inl (dsN (nI j) c D false n p F lf)), some (.inl (nI np)), x7] [] (LM M (dsF (nI j) c D false n p F))) → AW G cL_shares RL 8 1 22 (some .int) Φ 47 [some (.inr (9, 50, 6, 0)), some (.inr (9, 52, 60, 0)), some (.inl (nI j)), some (.inl c), some (.inl V), some (.inl lf), some (.inl (nI p)), x7] [] M := by
  intro n
  induction n with
  | zero =>
    intro p M F lf x7 he hL h1 hΦ
    refine a_il_6_8 (pc' := 49) dL_shares_47 rfl ?_
    refine a_al_0_8 (pc' := 50) dL_shares_49 rfl ?_
    refine a_iconst (v := nI 1) (pc' := 51) dL_shares_50 (by decide) rfl ?_
    refine a_ialdN (pc' := 52) rfl (by omega) (by decide) dL_shares_51 rfl ?_
    rw [hL.g (show 1 < 6 by decide), h1]
    refine a_icmp_ge (pc' := 55) (tgt := 134) dL_shares_52 (by decide) rfl (fun c_52 => ?_) (fun c_52 => absurd (nI_le (by omega) (by omega)) c_52)
    obtain rfl : p = np := by omega
    rw [show LM M (dsF (nI j) c D false 0 p F) = M from hL.LM] at hΦ
    exact hΦ
  | succ n ih =>
    intro p M F lf x7 he hL h1 hΦ
    have hp6 : p < 6 := by omega
    refine a_il_6_8 (pc' := 49) dL_shares_47 rfl ?_
    refine a_al_0_8 (pc' := 50) dL_shares_49 rfl ?_
    refine a_iconst (v := nI 1) (pc' := 51) dL_shares_50 (by decide) rfl ?_
    refine a_ialdN (pc' := 52) rfl (by omega) (by decide) dL_shares_51 rfl ?_
    rw [hL.g (show 1 < 6 by decide), h1]
    refine a_icmp_ge (pc' := 55) (tgt := 134) dL_shares_52 (by decide) rfl (fun c_52 => absurd c_52 (nI_ge (by omega) (by omega))) (fun c_52 => ?_)
    refine a_il_2_8 (pc' := 56) dL_shares_55 rfl ?_
    refine a_il_6_8 (pc' := 58) dL_shares_56 rfl ?_
    refine a_ishr (pc' := 59) dL_shares_58 rfl ?_
    refine a_iconst (v := nI 1) (pc' := 60) dL_shares_59 (by decide) rfl ?_
    refine a_iand (pc' := 61) dL_shares_60 rfl ?_
    refine a_iconst (v := nI 1) (pc' := 62) dL_shares_61 (by decide) rfl ?_
    refine a_icmp_ne (pc' := 65) (tgt := 128) dL_shares_62 (by decide) rfl (fun c_62 => ?_) (fun c_62 => ?_)
    · refine a_iN_6_8 (m := p + 1) (pc' := 131) dL_shares_128 (nI_add _ _) rfl ?_
      refine a_goto (pc' := 47) dL_shares_131 (by decide) ?_
      refine ih (p + 1) _ _ _ _ (by omega) hL h1 ?_
      simpa [dsF, dsN, bitB, c_62] using hΦ
    · refine a_al_1_8 (pc' := 66) dL_shares_65 rfl ?_
      refine a_bipush (v := nI 10) (pc' := 68) dL_shares_66 (by decide) rfl ?_
      refine a_il_6_8 (pc' := 70) dL_shares_68 rfl ?_
      refine a_imulN (pc' := 71) dL_shares_70 rfl ?_
      refine a_bipush (v := nI 8) (pc' := 73) dL_shares_71 (by decide) rfl ?_
      refine a_iaddN (pc' := 74) dL_shares_73 rfl ?_
      refine a_il_4_8 (pc' := 76) dL_shares_74 rfl ?_
      refine a_if_ne (pc' := 79) (tgt := 88) dL_shares_76 (by decide) rfl (fun c_76 => ?_) (fun c_76 => absurd c_76 hV)
      refine a_il_3_8 (pc' := 89) dL_shares_88 rfl ?_
      refine a_al_1_8 (pc' := 90) dL_shares_89 rfl ?_
      refine a_bipush (v := nI 10) (pc' := 92) dL_shares_90 (by decide) rfl ?_
      refine a_il_6_8 (pc' := 94) dL_shares_92 rfl ?_
      refine a_imulN (pc' := 95) dL_shares_94 rfl ?_
      refine a_iconst (v := nI 3) (pc' := 96) dL_shares_95 (by decide) rfl ?_
      refine a_iaddN (pc' := 97) dL_shares_96 rfl ?_
      refine a_ialdN (pc' := 98) rfl (by omega) (by decide) dL_shares_97 rfl ?_
      rw [hL.p hp6 3 4 (by decide) (by decide) rfl]
      refine a_imul (pc' := 99) dL_shares_98 rfl ?_
      refine a_il_4_8 (pc' := 101) dL_shares_99 rfl ?_
      refine a_idiv (pc' := 102) dL_shares_101 hD rfl ?_
      refine a_iastN (pc' := 103) rfl (by omega) (by decide) dL_shares_102 rfl ?_
      refine a_al_1_8 (pc' := 104) dL_shares_103 rfl ?_
      refine a_bipush (v := nI 10) (pc' := 106) dL_shares_104 (by decide) rfl ?_
      refine a_il_6_8 (pc' := 108) dL_shares_106 rfl ?_
      refine a_imulN (pc' := 109) dL_shares_108 rfl ?_
      refine a_iconst (v := nI 4) (pc' := 110) dL_shares_109 (by decide) rfl ?_
      refine a_iaddN (pc' := 111) dL_shares_110 rfl ?_
      refine a_iconst (v := nI 3) (pc' := 112) dL_shares_111 (by decide) rfl ?_
      refine a_iastN (pc' := 113) rfl (by omega) (by decide) dL_shares_112 rfl ?_
      refine a_castS rfl (share_set hL hp6 (nI j) c D false (by rw [hDe]; rfl)) ?_
      refine a_il_5_8 (pc' := 115) dL_shares_113 rfl ?_
      refine a_al_1_8 (pc' := 116) dL_shares_115 rfl ?_
      refine a_bipush (v := nI 10) (pc' := 118) dL_shares_116 (by decide) rfl ?_
      refine a_il_6_8 (pc' := 120) dL_shares_118 rfl ?_
      refine a_imulN (pc' := 121) dL_shares_120 rfl ?_
      refine a_bipush (v := nI 8) (pc' := 123) dL_shares_121 (by decide) rfl ?_
      refine a_iaddN (pc' := 124) dL_shares_123 rfl ?_
      refine a_ialdN (pc' := 125) rfl (by omega) (by decide) dL_shares_124 rfl ?_
      rw [LM_LA.p hp6 8 9 (by decide) (by decide) rfl]
      refine a_isub (pc' := 126) dL_shares_125 rfl ?_
      refine a_is_5_8 (pc' := 128) dL_shares_126 rfl ?_
      refine a_iN_6_8 (m := p + 1) (pc' := 131) dL_shares_128 (nI_add _ _) rfl ?_
      refine a_goto (pc' := 47) dL_shares_131 (by decide) ?_
      rw [show ds1 (nI j) c D false F p (63 + 10 * p + 9) = c * (if false = true then nI 1 else F (63 + 10 * p + 4)) / D from by unfold ds1; rw [upd_at, if_neg (by omega), upd_at, if_pos rfl]]
      refine ih (p + 1) _ _ _ _ (by omega) LM_LA (by rw [ds1_lo _ _ _ _ _ _ (by decide)]; exact h1) ?_
      rw [LM_LM]
      have hbt : bitB (nI j) (nI p) = true := by simp [bitB, c_62]
      simp only [dsF, dsN, hbt, if_true] at hΦ
      exact hΦ
set_option maxRecDepth 20000 in
set_option maxHeartbeats 4000000 in
theorem lp_L_shares3 {G : Gl} {Φ : Option OV → Mm → Prop} {np : Nat} (hm : np ≤ 6) {j : Nat} (c : Int32) (x4 : Option OV) : ∀ (n p : Nat) (M : Mm) (F : Nat → Int32) (lf mo : Int32), p + n = np → (LA M F) → (F 1 = nI np) → (Φ (some (.inl (dgN (nI j) n p F lf mo))) (LM M (dgF (nI j) n p F lf))) → AW G cL_shares RL 8 1 22 (some .int) Φ 140 [some (.inr (9, 50, 6, 0)), some (.inr (9, 52, 60, 0)), some (.inl (nI j)), some (.inl c), x4, some (.inl lf), some (.inl mo), some (.inl (nI p))] [] M := by
  intro n
  induction n with
  | zero =>
    intro p M F lf mo he hL h1 hΦ
    refine a_il_7_8 (pc' := 142) dL_shares_140 rfl ?_
    refine a_al_0_8 (pc' := 143) dL_shares_142 rfl ?_
    refine a_iconst (v := nI 1) (pc' := 144) dL_shares_143 (by decide) rfl ?_
    refine a_ialdN (pc' := 145) rfl (by omega) (by decide) dL_shares_144 rfl ?_
    rw [hL.g (show 1 < 6 by decide), h1]
    refine a_icmp_ge (pc' := 148) (tgt := 222) dL_shares_145 (by decide) rfl (fun c_145 => ?_) (fun c_145 => absurd (nI_le (by omega) (by omega)) c_145)
    refine a_il_6_8 (pc' := 224) dL_shares_222 rfl ?_
    refine a_iret dL_shares_224 rfl rfl ?_
    rw [show LM M (dgF (nI j) 0 p F lf) = M from hL.LM] at hΦ
    exact hΦ
  | succ n ih =>
    intro p M F lf mo he hL h1 hΦ
    have hp6 : p < 6 := by omega
    refine a_il_7_8 (pc' := 142) dL_shares_140 rfl ?_
    refine a_al_0_8 (pc' := 143) dL_shares_142 rfl ?_
    refine a_iconst (v := nI 1) (pc' := 144) dL_shares_143 (by decide) rfl ?_
    refine a_ialdN (pc' := 145) rfl (by omega) (by decide) dL_shares_144 rfl ?_
    rw [hL.g (show 1 < 6 by decide), h1]
    refine a_icmp_ge (pc' := 148) (tgt := 222) dL_shares_145 (by decide) rfl (fun c_145 => absurd c_145 (nI_ge (by omega) (by omega))) (fun c_145 => ?_)
    refine a_il_2_8 (pc' := 149) dL_shares_148 rfl ?_
    refine a_il_7_8 (pc' := 151) dL_shares_149 rfl ?_
    refine a_ishr (pc' := 152) dL_shares_151 rfl ?_
    refine a_iconst (v := nI 1) (pc' := 153) dL_shares_152 (by decide) rfl ?_
    refine a_iand (pc' := 154) dL_shares_153 rfl ?_
    refine a_iconst (v := nI 1) (pc' := 155) dL_shares_154 (by decide) rfl ?_
    refine a_icmp_ne (pc' := 158) (tgt := 216) dL_shares_155 (by decide) rfl (fun c_155 => ?_) (fun c_155 => ?_)
    · refine a_iN_7_8 (m := p + 1) (pc' := 219) dL_shares_216 (nI_add _ _) rfl ?_
      refine a_goto (pc' := 140) dL_shares_219 (by decide) ?_
      refine ih (p + 1) _ _ _ _ (by omega) hL h1 ?_
      simpa [dgF, dgN, bitB, c_155] using hΦ
    · refine a_al_1_8 (pc' := 159) dL_shares_158 rfl ?_
      refine a_bipush (v := nI 10) (pc' := 161) dL_shares_159 (by decide) rfl ?_
      refine a_il_7_8 (pc' := 163) dL_shares_161 rfl ?_
      refine a_imulN (pc' := 164) dL_shares_163 rfl ?_
      refine a_bipush (v := nI 8) (pc' := 166) dL_shares_164 (by decide) rfl ?_
      refine a_iaddN (pc' := 167) dL_shares_166 rfl ?_
      refine a_dup2 (pc' := 168) dL_shares_167 rfl ?_
      refine a_ialdN (pc' := 169) rfl (by omega) (by decide) dL_shares_168 rfl ?_
      rw [hL.p hp6 8 9 (by decide) (by decide) rfl]
      refine a_il_5_8 (pc' := 171) dL_shares_169 rfl ?_
      refine a_if_le (pc' := 174) (tgt := 178) dL_shares_171 (by decide) rfl (fun c_171 => ?_) (fun c_171 => ?_)
      · refine a_iconst (v := nI 0) (pc' := 179) dL_shares_178 (by decide) rfl ?_
        refine a_iadd (pc' := 180) dL_shares_179 rfl ?_
        refine a_iastN (pc' := 181) rfl (by omega) (by decide) dL_shares_180 rfl ?_
        refine a_castS rfl (give_set hL hp6 lf (by rw [if_pos c_171, nI_0, Int32.add_zero])) ?_
        refine a_in_5_8 (c9 := (-1)) (pc' := 184) dL_shares_181 (by decide) rfl ?_
        refine a_al_1_8 (pc' := 185) dL_shares_184 rfl ?_
        refine a_bipush (v := nI 10) (pc' := 187) dL_shares_185 (by decide) rfl ?_
        refine a_il_7_8 (pc' := 189) dL_shares_187 rfl ?_
        refine a_imulN (pc' := 190) dL_shares_189 rfl ?_
        refine a_bipush (v := nI 8) (pc' := 192) dL_shares_190 (by decide) rfl ?_
        refine a_iaddN (pc' := 193) dL_shares_192 rfl ?_
        refine a_ialdN (pc' := 194) rfl (by omega) (by decide) dL_shares_193 rfl ?_
        rw [LM_LA.p hp6 8 9 (by decide) (by decide) rfl]
        refine a_il_6_8 (pc' := 196) dL_shares_194 rfl ?_
        refine a_icmp_le (pc' := 199) (tgt := 212) dL_shares_196 (by decide) rfl (fun c_196 => ?_) (fun c_196 => ?_)
        · refine a_il_6_8 (pc' := 214) dL_shares_212 rfl ?_
          refine a_is_6_8 (pc' := 216) dL_shares_214 rfl ?_
          refine a_iN_7_8 (m := p + 1) (pc' := 219) dL_shares_216 (nI_add _ _) rfl ?_
          refine a_goto (pc' := 140) dL_shares_219 (by decide) ?_
          have hbt : bitB (nI j) (nI p) = true := by simp [bitB, c_155]
          have hmx : mxS mo (dg1 F p lf (63 + 10 * p + 9)) = mo := by
            unfold mxS
            exact if_neg (Int32.not_lt.mpr c_196)
          simp only [dgF, dgN, hbt, if_true, hmx] at hΦ
          refine ih (p + 1) _ _ _ _ (by omega) LM_LA (by rw [dg1_lo _ _ _ (by decide)]; exact h1) ?_
          rw [LM_LM]
          exact hΦ
        · refine a_al_1_8 (pc' := 200) dL_shares_199 rfl ?_
          refine a_bipush (v := nI 10) (pc' := 202) dL_shares_200 (by decide) rfl ?_
          refine a_il_7_8 (pc' := 204) dL_shares_202 rfl ?_
          refine a_imulN (pc' := 205) dL_shares_204 rfl ?_
          refine a_bipush (v := nI 8) (pc' := 207) dL_shares_205 (by decide) rfl ?_
          refine a_iaddN (pc' := 208) dL_shares_207 rfl ?_
          refine a_ialdN (pc' := 209) rfl (by omega) (by decide) dL_shares_208 rfl ?_
          rw [LM_LA.p hp6 8 9 (by decide) (by decide) rfl]
          refine a_goto (pc' := 214) dL_shares_209 (by decide) ?_
          refine a_is_6_8 (pc' := 216) dL_shares_214 rfl ?_
          refine a_iN_7_8 (m := p + 1) (pc' := 219) dL_shares_216 (nI_add _ _) rfl ?_
          refine a_goto (pc' := 140) dL_shares_219 (by decide) ?_
          have hbt : bitB (nI j) (nI p) = true := by simp [bitB, c_155]
          have hmx : mxS mo (dg1 F p lf (63 + 10 * p + 9)) = dg1 F p lf (63 + 10 * p + 9) := by
            unfold mxS
            exact if_pos (Int32.not_le.mp c_196)
          simp only [dgF, dgN, hbt, if_true, hmx] at hΦ
          refine ih (p + 1) _ _ _ _ (by omega) LM_LA (by rw [dg1_lo _ _ _ (by decide)]; exact h1) ?_
          rw [LM_LM]
          exact hΦ
      · refine a_iconst (v := nI 1) (pc' := 175) dL_shares_174 (by decide) rfl ?_
        refine a_goto (pc' := 179) dL_shares_175 (by decide) ?_
        refine a_iadd (pc' := 180) dL_shares_179 rfl ?_
        refine a_iastN (pc' := 181) rfl (by omega) (by decide) dL_shares_180 rfl ?_
        refine a_castS rfl (give_set hL hp6 lf (by rw [if_neg c_171])) ?_
        refine a_in_5_8 (c9 := (-1)) (pc' := 184) dL_shares_181 (by decide) rfl ?_
        refine a_al_1_8 (pc' := 185) dL_shares_184 rfl ?_
        refine a_bipush (v := nI 10) (pc' := 187) dL_shares_185 (by decide) rfl ?_
        refine a_il_7_8 (pc' := 189) dL_shares_187 rfl ?_
        refine a_imulN (pc' := 190) dL_shares_189 rfl ?_
        refine a_bipush (v := nI 8) (pc' := 192) dL_shares_190 (by decide) rfl ?_
        refine a_iaddN (pc' := 193) dL_shares_192 rfl ?_
        refine a_ialdN (pc' := 194) rfl (by omega) (by decide) dL_shares_193 rfl ?_
        rw [LM_LA.p hp6 8 9 (by decide) (by decide) rfl]
        refine a_il_6_8 (pc' := 196) dL_shares_194 rfl ?_
        refine a_icmp_le (pc' := 199) (tgt := 212) dL_shares_196 (by decide) rfl (fun c_196_2 => ?_) (fun c_196_2 => ?_)
        · refine a_il_6_8 (pc' := 214) dL_shares_212 rfl ?_
          refine a_is_6_8 (pc' := 216) dL_shares_214 rfl ?_
          refine a_iN_7_8 (m := p + 1) (pc' := 219) dL_shares_216 (nI_add _ _) rfl ?_
          refine a_goto (pc' := 140) dL_shares_219 (by decide) ?_
          have hbt : bitB (nI j) (nI p) = true := by simp [bitB, c_155]
          have hmx : mxS mo (dg1 F p lf (63 + 10 * p + 9)) = mo := by
            unfold mxS
            exact if_neg (Int32.not_lt.mpr c_196_2)
          simp only [dgF, dgN, hbt, if_true, hmx] at hΦ
          refine ih (p + 1) _ _ _ _ (by omega) LM_LA (by rw [dg1_lo _ _ _ (by decide)]; exact h1) ?_
          rw [LM_LM]
          exact hΦ
        · refine a_al_1_8 (pc' := 200) dL_shares_199 rfl ?_
          refine a_bipush (v := nI 10) (pc' := 202) dL_shares_200 (by decide) rfl ?_
          refine a_il_7_8 (pc' := 204) dL_shares_202 rfl ?_
          refine a_imulN (pc' := 205) dL_shares_204 rfl ?_
          refine a_bipush (v := nI 8) (pc' := 207) dL_shares_205 (by decide) rfl ?_
          refine a_iaddN (pc' := 208) dL_shares_207 rfl ?_
          refine a_ialdN (pc' := 209) rfl (by omega) (by decide) dL_shares_208 rfl ?_
          rw [LM_LA.p hp6 8 9 (by decide) (by decide) rfl]
          refine a_goto (pc' := 214) dL_shares_209 (by decide) ?_
          refine a_is_6_8 (pc' := 216) dL_shares_214 rfl ?_
          refine a_iN_7_8 (m := p + 1) (pc' := 219) dL_shares_216 (nI_add _ _) rfl ?_
          refine a_goto (pc' := 140) dL_shares_219 (by decide) ?_
          have hbt : bitB (nI j) (nI p) = true := by simp [bitB, c_155]
          have hmx : mxS mo (dg1 F p lf (63 + 10 * p + 9)) = dg1 F p lf (63 + 10 * p + 9) := by
            unfold mxS
            exact if_pos (Int32.not_le.mp c_196_2)
          simp only [dgF, dgN, hbt, if_true, hmx] at hΦ
          refine ih (p + 1) _ _ _ _ (by omega) LM_LA (by rw [dg1_lo _ _ _ (by decide)]; exact h1) ?_
          rw [LM_LM]
          exact hΦ
theorem dsF_lo63 {s c D : Int32} {b : Bool} {n p : Nat} {F : Nat → Int32} : dsF s c D b n p F 1 = F 1 := by
  induction n generalizing p F with
  | zero => rfl
  | succ n ih =>
    unfold dsF
    split
    · rw [ih, ds1_lo _ _ _ _ _ _ (by decide)]
    · exact ih
set_option maxRecDepth 20000 in
set_option maxHeartbeats 4000000 in
theorem ct_L_shares {np : Nat} (hm : np ≤ 6) {j : Nat} (hj1 : 1 ≤ j) (hj : j < 64) (c : Int32) (M : Mm) {F : Nat → Int32} (hL : LA M F) (h1 : F 1 = nI np) : Ct yL_shares cL_shares 8 (some .int) 1 22 [.inr (9, 50, 6, 0), .inr (9, 52, 60, 0), .inl (nI j), .inl c] M (RI (mdG F (nI j) c np) (LM M (mdF F (nI j) c np))) := by
  have hbc : ¬ bcS (nI j) = 0 := by rw [← bits_bc (by omega)]; exact bit_nz' hj1 (by omega)
  refine Ct.at RL rfl (by decide +kernel) (Nat.le_of_ble_eq_true rfl) [some (.inr (9, 50, 6, 0)), some (.inr (9, 52, 60, 0)), some (.inl (nI j)), some (.inl c), none, none, none, none] rfl (fun G => ?_)
  refine a_iconst (v := nI 0) (pc' := 1) dL_shares_0 (by decide) rfl ?_
  refine a_is_4_8 (pc' := 3) dL_shares_1 rfl ?_
  refine a_iconst (v := nI 0) (pc' := 4) dL_shares_3 (by decide) rfl ?_
  refine a_is_5_8 (pc' := 6) dL_shares_4 rfl ?_
  refine lp_L_shares1 hm (nI j) c _ _ M hL h1 np 0 _ (by omega) ?_
  refine a_il_3_8 (pc' := 42) dL_shares_41 rfl ?_
  refine a_is_5_8 (pc' := 44) dL_shares_42 rfl ?_
  refine a_iconst (v := nI 0) (pc' := 45) dL_shares_44 (by decide) rfl ?_
  refine a_is_6_8 (pc' := 47) dL_shares_45 rfl ?_
  by_cases hV : valL F (nI j) np 0 (nI 0) = 0
  · have hb : dtb F (nI j) np = true := decide_eq_true hV
    have hDD : dtD F (nI j) np = bcS (nI j) := (if_pos hV).trans (bits_bc (by omega))
    refine lp_L_shares2a hm hj c (dtD F (nI j) np) _ hV (hbc) (hDD) np 0 _ _ _ _ (by omega) hL h1 ?_
    rw [hDD]
    refine a_iconst (v := nI 0) (pc' := 135) dL_shares_134 (by decide) rfl ?_
    refine a_is_6_8 (pc' := 137) dL_shares_135 rfl ?_
    refine a_iconst (v := nI 0) (pc' := 138) dL_shares_137 (by decide) rfl ?_
    refine a_is_7_8 (pc' := 140) dL_shares_138 rfl ?_
    refine lp_L_shares3 hm (j := j) c _ np 0 _ _ _ _ (by omega) LM_LA (by rw [dsF_lo63]; exact h1) ?_
    rw [LM_LM]
    refine fIM ?_ ?_
    · simp only [mdG, mdFF, hb, hDD]
    · simp only [mdF, mdFF, hb, hDD]
  · have hb : dtb F (nI j) np = false := decide_eq_false hV
    have hDD : dtD F (nI j) np = valL F (nI j) np 0 (nI 0) := if_neg hV
    refine lp_L_shares2b hm hj c (dtD F (nI j) np) _ hV (hV) (hDD) np 0 _ _ _ _ (by omega) hL h1 ?_
    rw [hDD]
    refine a_iconst (v := nI 0) (pc' := 135) dL_shares_134 (by decide) rfl ?_
    refine a_is_6_8 (pc' := 137) dL_shares_135 rfl ?_
    refine a_iconst (v := nI 0) (pc' := 138) dL_shares_137 (by decide) rfl ?_
    refine a_is_7_8 (pc' := 140) dL_shares_138 rfl ?_
    refine lp_L_shares3 hm (j := j) c _ np 0 _ _ _ _ (by omega) LM_LA (by rw [dsF_lo63]; exact h1) ?_
    rw [LM_LM]
    refine fIM ?_ ?_
    · simp only [mdG, mdFF, hb, hDD]
    · simp only [mdF, mdFF, hb, hDD]
