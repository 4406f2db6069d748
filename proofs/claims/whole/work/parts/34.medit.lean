def bitL (x : Int32) : Nat → Nat → Int32 → Int32
  | 0, _, a => a
  | n + 1, p, a => bitL x n (p + 1) (a + (x >>> (nI p &&& 31) &&& nI 1))
set_option maxRecDepth 20000 in
theorem bits_bc64 : ∀ a : Nat, a < 64 → ∀ b : Nat, b < 64 → bitL (nI (64 * a + b)) 12 0 (nI 0) = bcS (nI (64 * a + b)) := by decide +kernel
theorem bits_bc {x : Nat} (h : x < 4096) : bitL (nI x) 12 0 (nI 0) = bcS (nI x) := by
  have := bits_bc64 (x / 64) (by omega) (x % 64) (by omega)
  rwa [show 64 * (x / 64) + x % 64 = x by omega] at this
theorem shl_nI : ∀ p : Nat, p < 12 → nI 1 <<< (nI p &&& 31) = nI (2 ^ p) := by decide
theorem or_nI (a b : Nat) : nI a ||| nI b = nI (a ||| b) := by
  apply Int32.toBitVec_inj.mp
  rw [Int32.toBitVec_or]
  simp [nI]
theorem pin_lt (F : Nat → Int32) (x : Int32) : ∀ (n p a : Nat), p + n ≤ 12 → a < 4096 → ∃ b, b < 4096 ∧ pinL F x n p (nI a) = nI b := by
  intro n
  induction n with
  | zero => intro p a _ h; exact ⟨a, h, rfl⟩
  | succ n ih =>
    intro p a hp ha
    unfold pinL
    split
    · rw [shl_nI p (by omega), or_nI]
      refine ih (p + 1) _ (by omega) ?_
      have h2 : 2 ^ p < 2 ^ 12 := Nat.pow_lt_pow_right (by decide) (by omega)
      exact Nat.or_lt_two_pow (n := 12) ha h2
    · exact ih (p + 1) a (by omega) ha
theorem bits_pin (F : Nat → Int32) (x : Int32) {np : Nat} (hm : np ≤ 12) : bitL (pinL F x np 0 (nI 0)) 12 0 (nI 0) = bcS (pinL F x np 0 (nI 0)) := by
  obtain ⟨b, hb, e⟩ := pin_lt F x np 0 0 (by omega) (by decide)
  rw [e]
  exact bits_bc hb
theorem mVans_ne (r : Bool) (t : Nat) {q : Nat} (h : q ≠ 50) (h2 : q ≠ 54) : ∀ (n v : Nat) (M : Mm), mVans r t n v M q = M q := by
  intro n
  induction n with
  | zero => intro v M; rfl
  | succ n ih => intro v M; unfold mVans; rw [ih, mVan_ne _ _ _ _ h h2]
theorem mMin_ne (r : Bool) (nv t : Nat) (M : Mm) {q : Nat} (h : q ≠ 50) (h2 : q ≠ 54) : mMin r nv t M q = M q := by unfold mMin; rw [mVans_ne _ _ h h2, setR_ne _ _ h]
theorem mPass_ne (nv : Nat) {q : Nat} (h : q ≠ 50) (h2 : q ≠ 54) : ∀ (n t : Nat) (M : Mm), mPass nv n t M q = M q := by
  intro n
  induction n with
  | zero => intro t M; rfl
  | succ n ih => intro t M; unfold mPass; rw [ih, mMin_ne _ _ _ _ h h2]
theorem mpsM_ne (M : Mm) (x : Int32) {q : Nat} (h : q ≠ 50) (h2 : q ≠ 54) : mpsM M x q = M q := by
  unfold mpsM
  split
  · split
    · exact mPass_ne _ h h2 _ _ _
    · rfl
  · rfl
set_option maxRecDepth 20000 in
set_option maxHeartbeats 4000000 in
theorem lp_X7_inVan {G : Gl} {Φ : Option OV → Mm → Prop} {np : Nat} (hm : np ≤ 12) (x : Int32) (M : Mm) (h1 : M 50 1 = nI np) : ∀ (n p : Nat) (acc : Int32), p + n = np → (Φ (some (.inl (pinL (M 50) x n p acc))) M) → AW G cX7_inVan RX7 4 2 42 (some .int) Φ 4 [some (.inr (7, 0, 0, 0)), some (.inl x), some (.inl acc), some (.inl (nI p))] [] M := by
  intro n
  induction n with
  | zero =>
    intro p acc he  hΦ
    refine a_il_3_4 (pc' := 5) dX7_inVan_4 rfl ?_
    refine a_al_0_4 (pc' := 6) dX7_inVan_5 rfl ?_
    refine gf_7_0 (pc' := 9) fl_X7_7 dX7_inVan_6 rfl ?_
    refine a_iconst (v := nI 1) (pc' := 10) dX7_inVan_9 (by decide) rfl ?_
    refine a_ialdN (pc' := 11) rfl (by omega) (by decide) dX7_inVan_10 rfl ?_
    rw [h1]
    refine a_icmp_ge (pc' := 14) (tgt := 49) dX7_inVan_11 (by decide) rfl (fun c_11 => ?_) (fun c_11 => absurd (nI_le (by omega) (by omega)) c_11)
    refine a_il_2_4 (pc' := 50) dX7_inVan_49 rfl ?_
    refine a_iret dX7_inVan_50 rfl rfl ?_
    exact hΦ
  | succ n ih =>
    intro p acc he  hΦ
    refine a_il_3_4 (pc' := 5) dX7_inVan_4 rfl ?_
    refine a_al_0_4 (pc' := 6) dX7_inVan_5 rfl ?_
    refine gf_7_0 (pc' := 9) fl_X7_7 dX7_inVan_6 rfl ?_
    refine a_iconst (v := nI 1) (pc' := 10) dX7_inVan_9 (by decide) rfl ?_
    refine a_ialdN (pc' := 11) rfl (by omega) (by decide) dX7_inVan_10 rfl ?_
    rw [h1]
    refine a_icmp_ge (pc' := 14) (tgt := 49) dX7_inVan_11 (by decide) rfl (fun c_11 => absurd c_11 (nI_ge (by omega) (by omega))) (fun c_11 => ?_)
    refine a_il_2_4 (pc' := 15) dX7_inVan_14 rfl ?_
    refine a_al_0_4 (pc' := 16) dX7_inVan_15 rfl ?_
    refine a_il_3_4 (pc' := 17) dX7_inVan_16 rfl ?_
    refine a_iconst (v := nI 5) (pc' := 18) dX7_inVan_17 (by decide) rfl ?_
    refine k_VI (pc' := 21) (ct_X7_its (w := 5) (by omega) (by omega) _) cw_X7_72 mi_X7_its se_X7_its rfl rfl rfl rfl (by decide) (by decide) (Nat.le_of_ble_eq_true rfl) rfl dX7_inVan_18 rfl ?_
    refine a_if_ne (pc' := 24) (tgt := 40) dX7_inVan_21 (by decide) rfl (fun c_21 => ?_) (fun c_21 => ?_)
    · refine a_iconst (v := nI 0) (pc' := 41) dX7_inVan_40 (by decide) rfl ?_
      refine a_ior (pc' := 42) dX7_inVan_41 rfl ?_
      refine a_is_2_4 (pc' := 43) dX7_inVan_42 rfl ?_
      refine a_iN_3_4 (m := p + 1) (pc' := 46) dX7_inVan_43 (nI_add _ _) rfl ?_
      refine a_goto (pc' := 4) dX7_inVan_46 (by decide) ?_
      try simp only [Nat.add_zero] at c_21
      exact ih (p + 1) _ (by omega) (by simpa [pinL, inP, nI_0, Int32.or_zero, c_21] using hΦ)
    · refine a_al_0_4 (pc' := 25) dX7_inVan_24 rfl ?_
      refine a_il_3_4 (pc' := 26) dX7_inVan_25 rfl ?_
      refine a_iconst (v := nI 0) (pc' := 27) dX7_inVan_26 (by decide) rfl ?_
      refine k_VI (pc' := 30) (ct_X7_its (w := 0) (by omega) (by omega) _) cw_X7_72 mi_X7_its se_X7_its rfl rfl rfl rfl (by decide) (by decide) (Nat.le_of_ble_eq_true rfl) rfl dX7_inVan_27 rfl ?_
      refine a_il_1_4 (pc' := 31) dX7_inVan_30 rfl ?_
      refine a_icmp_ne (pc' := 34) (tgt := 40) dX7_inVan_31 (by decide) rfl (fun c_31 => ?_) (fun c_31 => ?_)
      · refine a_iconst (v := nI 0) (pc' := 41) dX7_inVan_40 (by decide) rfl ?_
        refine a_ior (pc' := 42) dX7_inVan_41 rfl ?_
        refine a_is_2_4 (pc' := 43) dX7_inVan_42 rfl ?_
        refine a_iN_3_4 (m := p + 1) (pc' := 46) dX7_inVan_43 (nI_add _ _) rfl ?_
        refine a_goto (pc' := 4) dX7_inVan_46 (by decide) ?_
        try simp only [Nat.add_zero] at c_21 c_31
        exact ih (p + 1) _ (by omega) (by simpa [pinL, inP, nI_0, Int32.or_zero, c_21, c_31] using hΦ)
      · refine a_iconst (v := nI 1) (pc' := 35) dX7_inVan_34 (by decide) rfl ?_
        refine a_il_3_4 (pc' := 36) dX7_inVan_35 rfl ?_
        refine a_ishl (pc' := 37) dX7_inVan_36 rfl ?_
        refine a_goto (pc' := 41) dX7_inVan_37 (by decide) ?_
        refine a_ior (pc' := 42) dX7_inVan_41 rfl ?_
        refine a_is_2_4 (pc' := 43) dX7_inVan_42 rfl ?_
        refine a_iN_3_4 (m := p + 1) (pc' := 46) dX7_inVan_43 (nI_add _ _) rfl ?_
        refine a_goto (pc' := 4) dX7_inVan_46 (by decide) ?_
        try simp only [Nat.add_zero] at c_21 c_31
        exact ih (p + 1) _ (by omega) (by simpa [pinL, inP, nI_0, Int32.or_zero, c_21, c_31] using hΦ)
set_option maxRecDepth 20000 in
set_option maxHeartbeats 4000000 in
theorem ct_X7_inVan {np : Nat} (hm : np ≤ 12) (x : Int32) (M : Mm) (h1 : M 50 1 = nI np) : Ct yX7_inVan cX7_inVan 4 (some .int) 2 42 [.inr (7, 0, 0, 0), .inl x] M (RI (pinL (M 50) x np 0 (nI 0)) M) := by
  refine Ct.at RX7 rfl (by decide +kernel) (Nat.le_of_ble_eq_true rfl) [some (.inr (7, 0, 0, 0)), some (.inl x), none, none] rfl (fun G => ?_)
  refine a_iconst (v := nI 0) (pc' := 1) dX7_inVan_0 (by decide) rfl ?_
  refine a_is_2_4 (pc' := 2) dX7_inVan_1 rfl ?_
  refine a_iconst (v := nI 0) (pc' := 3) dX7_inVan_2 (by decide) rfl ?_
  refine a_is_3_4 (pc' := 4) dX7_inVan_3 rfl ?_
  exact lp_X7_inVan hm _ _ h1 np 0 _ (by omega) ⟨rfl, rfl⟩
set_option maxRecDepth 20000 in
set_option maxHeartbeats 4000000 in
theorem lp_X7_manyIn {G : Gl} {Φ : Option OV → Mm → Prop} {np : Nat} (hm : np ≤ 12) (x z : Int32) (M : Mm) (h1 : M 50 1 = nI np) : ∀ (n p : Nat) (acc : Int32), p + n = np → (Φ (some (.inl (pzL (M 50) x z n p acc))) M) → AW G cX7_manyIn RX7 5 2 42 (some .int) Φ 5 [some (.inr (7, 0, 0, 0)), some (.inl x), some (.inl z), some (.inl acc), some (.inl (nI p))] [] M := by
  intro n
  induction n with
  | zero =>
    intro p acc he  hΦ
    refine a_il_4_5 (pc' := 7) dX7_manyIn_5 rfl ?_
    refine a_al_0_5 (pc' := 8) dX7_manyIn_7 rfl ?_
    refine gf_7_0 (pc' := 11) fl_X7_7 dX7_manyIn_8 rfl ?_
    refine a_iconst (v := nI 1) (pc' := 12) dX7_manyIn_11 (by decide) rfl ?_
    refine a_ialdN (pc' := 13) rfl (by omega) (by decide) dX7_manyIn_12 rfl ?_
    rw [h1]
    refine a_icmp_ge (pc' := 16) (tgt := 62) dX7_manyIn_13 (by decide) rfl (fun c_13 => ?_) (fun c_13 => absurd (nI_le (by omega) (by omega)) c_13)
    refine a_il_3_5 (pc' := 63) dX7_manyIn_62 rfl ?_
    refine a_iret dX7_manyIn_63 rfl rfl ?_
    exact hΦ
  | succ n ih =>
    intro p acc he  hΦ
    refine a_il_4_5 (pc' := 7) dX7_manyIn_5 rfl ?_
    refine a_al_0_5 (pc' := 8) dX7_manyIn_7 rfl ?_
    refine gf_7_0 (pc' := 11) fl_X7_7 dX7_manyIn_8 rfl ?_
    refine a_iconst (v := nI 1) (pc' := 12) dX7_manyIn_11 (by decide) rfl ?_
    refine a_ialdN (pc' := 13) rfl (by omega) (by decide) dX7_manyIn_12 rfl ?_
    rw [h1]
    refine a_icmp_ge (pc' := 16) (tgt := 62) dX7_manyIn_13 (by decide) rfl (fun c_13 => absurd c_13 (nI_ge (by omega) (by omega))) (fun c_13 => ?_)
    refine a_il_3_5 (pc' := 17) dX7_manyIn_16 rfl ?_
    refine a_al_0_5 (pc' := 18) dX7_manyIn_17 rfl ?_
    refine a_il_4_5 (pc' := 20) dX7_manyIn_18 rfl ?_
    refine a_iconst (v := nI 5) (pc' := 21) dX7_manyIn_20 (by decide) rfl ?_
    refine k_VI (pc' := 24) (ct_X7_its (w := 5) (by omega) (by omega) _) cw_X7_72 mi_X7_its se_X7_its rfl rfl rfl rfl (by decide) (by decide) (Nat.le_of_ble_eq_true rfl) rfl dX7_manyIn_21 rfl ?_
    refine a_if_ne (pc' := 27) (tgt := 53) dX7_manyIn_24 (by decide) rfl (fun c_24 => ?_) (fun c_24 => ?_)
    · refine a_iconst (v := nI 0) (pc' := 54) dX7_manyIn_53 (by decide) rfl ?_
      refine a_iadd (pc' := 55) dX7_manyIn_54 rfl ?_
      refine a_is_3_5 (pc' := 56) dX7_manyIn_55 rfl ?_
      refine a_iN_4_5 (m := p + 1) (pc' := 59) dX7_manyIn_56 (nI_add _ _) rfl ?_
      refine a_goto (pc' := 5) dX7_manyIn_59 (by decide) ?_
      try simp only [Nat.add_zero] at c_24
      exact ih (p + 1) _ (by omega) (by simpa [pzL, inP, nI_0, Int32.add_zero, c_24] using hΦ)
    · refine a_al_0_5 (pc' := 28) dX7_manyIn_27 rfl ?_
      refine a_il_4_5 (pc' := 30) dX7_manyIn_28 rfl ?_
      refine a_iconst (v := nI 0) (pc' := 31) dX7_manyIn_30 (by decide) rfl ?_
      refine k_VI (pc' := 34) (ct_X7_its (w := 0) (by omega) (by omega) _) cw_X7_72 mi_X7_its se_X7_its rfl rfl rfl rfl (by decide) (by decide) (Nat.le_of_ble_eq_true rfl) rfl dX7_manyIn_31 rfl ?_
      refine a_il_1_5 (pc' := 35) dX7_manyIn_34 rfl ?_
      refine a_icmp_ne (pc' := 38) (tgt := 53) dX7_manyIn_35 (by decide) rfl (fun c_35 => ?_) (fun c_35 => ?_)
      · refine a_iconst (v := nI 0) (pc' := 54) dX7_manyIn_53 (by decide) rfl ?_
        refine a_iadd (pc' := 55) dX7_manyIn_54 rfl ?_
        refine a_is_3_5 (pc' := 56) dX7_manyIn_55 rfl ?_
        refine a_iN_4_5 (m := p + 1) (pc' := 59) dX7_manyIn_56 (nI_add _ _) rfl ?_
        refine a_goto (pc' := 5) dX7_manyIn_59 (by decide) ?_
        try simp only [Nat.add_zero] at c_24 c_35
        exact ih (p + 1) _ (by omega) (by simpa [pzL, inP, nI_0, Int32.add_zero, c_24, c_35] using hΦ)
      · refine a_al_0_5 (pc' := 39) dX7_manyIn_38 rfl ?_
        refine a_il_4_5 (pc' := 41) dX7_manyIn_39 rfl ?_
        refine a_iconst (v := nI 1) (pc' := 42) dX7_manyIn_41 (by decide) rfl ?_
        refine k_VI (pc' := 45) (ct_X7_its (w := 1) (by omega) (by omega) _) cw_X7_72 mi_X7_its se_X7_its rfl rfl rfl rfl (by decide) (by decide) (Nat.le_of_ble_eq_true rfl) rfl dX7_manyIn_42 rfl ?_
        refine a_il_2_5 (pc' := 46) dX7_manyIn_45 rfl ?_
        refine a_icmp_ne (pc' := 49) (tgt := 53) dX7_manyIn_46 (by decide) rfl (fun c_46 => ?_) (fun c_46 => ?_)
        · refine a_iconst (v := nI 0) (pc' := 54) dX7_manyIn_53 (by decide) rfl ?_
          refine a_iadd (pc' := 55) dX7_manyIn_54 rfl ?_
          refine a_is_3_5 (pc' := 56) dX7_manyIn_55 rfl ?_
          refine a_iN_4_5 (m := p + 1) (pc' := 59) dX7_manyIn_56 (nI_add _ _) rfl ?_
          refine a_goto (pc' := 5) dX7_manyIn_59 (by decide) ?_
          try simp only [Nat.add_zero] at c_24 c_35 c_46
          exact ih (p + 1) _ (by omega) (by simpa [pzL, inP, nI_0, Int32.add_zero, c_24, c_35, c_46] using hΦ)
        · refine a_iconst (v := nI 1) (pc' := 50) dX7_manyIn_49 (by decide) rfl ?_
          refine a_goto (pc' := 54) dX7_manyIn_50 (by decide) ?_
          refine a_iadd (pc' := 55) dX7_manyIn_54 rfl ?_
          refine a_is_3_5 (pc' := 56) dX7_manyIn_55 rfl ?_
          refine a_iN_4_5 (m := p + 1) (pc' := 59) dX7_manyIn_56 (nI_add _ _) rfl ?_
          refine a_goto (pc' := 5) dX7_manyIn_59 (by decide) ?_
          try simp only [Nat.add_zero] at c_24 c_35 c_46
          exact ih (p + 1) _ (by omega) (by simpa [pzL, inP, nI_0, Int32.add_zero, c_24, c_35, c_46] using hΦ)
set_option maxRecDepth 20000 in
set_option maxHeartbeats 4000000 in
theorem ct_X7_manyIn {np : Nat} (hm : np ≤ 12) (x z : Int32) (M : Mm) (h1 : M 50 1 = nI np) : Ct yX7_manyIn cX7_manyIn 5 (some .int) 2 42 [.inr (7, 0, 0, 0), .inl x, .inl z] M (RI (pzL (M 50) x z np 0 (nI 0)) M) := by
  refine Ct.at RX7 rfl (by decide +kernel) (Nat.le_of_ble_eq_true rfl) [some (.inr (7, 0, 0, 0)), some (.inl x), some (.inl z), none, none] rfl (fun G => ?_)
  refine a_iconst (v := nI 0) (pc' := 1) dX7_manyIn_0 (by decide) rfl ?_
  refine a_is_3_5 (pc' := 2) dX7_manyIn_1 rfl ?_
  refine a_iconst (v := nI 0) (pc' := 3) dX7_manyIn_2 (by decide) rfl ?_
  refine a_is_4_5 (pc' := 5) dX7_manyIn_3 rfl ?_
  exact lp_X7_manyIn hm _ _ _ h1 np 0 _ (by omega) ⟨rfl, rfl⟩
set_option maxRecDepth 20000 in
set_option maxHeartbeats 4000000 in
theorem lp_X7_bits {G : Gl} {Φ : Option OV → Mm → Prop} (x : Int32) (M : Mm) : ∀ (n p : Nat) (acc : Int32), p + n = 12 → (Φ (some (.inl (bitL x n p acc))) M) → AW G cX7_bits RX7 3 0 0 (some .int) Φ 4 [some (.inl x), some (.inl acc), some (.inl (nI p))] [] M := by
  intro n
  induction n with
  | zero =>
    intro p acc he  hΦ
    refine a_il_2_3 (pc' := 5) dX7_bits_4 rfl ?_
    refine a_bipush (v := nI 12) (pc' := 7) dX7_bits_5 (by decide) rfl ?_
    refine a_icmp_ge (pc' := 10) (tgt := 24) dX7_bits_7 (by decide) rfl (fun c_7 => ?_) (fun c_7 => absurd (nI_le (by omega) (by omega)) c_7)
    refine a_il_1_3 (pc' := 25) dX7_bits_24 rfl ?_
    refine a_iret dX7_bits_25 rfl rfl ?_
    exact hΦ
  | succ n ih =>
    intro p acc he  hΦ
    refine a_il_2_3 (pc' := 5) dX7_bits_4 rfl ?_
    refine a_bipush (v := nI 12) (pc' := 7) dX7_bits_5 (by decide) rfl ?_
    refine a_icmp_ge (pc' := 10) (tgt := 24) dX7_bits_7 (by decide) rfl (fun c_7 => absurd c_7 (nI_ge (by omega) (by omega))) (fun c_7 => ?_)
    refine a_il_1_3 (pc' := 11) dX7_bits_10 rfl ?_
    refine a_il_0_3 (pc' := 12) dX7_bits_11 rfl ?_
    refine a_il_2_3 (pc' := 13) dX7_bits_12 rfl ?_
    refine a_ishr (pc' := 14) dX7_bits_13 rfl ?_
    refine a_iconst (v := nI 1) (pc' := 15) dX7_bits_14 (by decide) rfl ?_
    refine a_iand (pc' := 16) dX7_bits_15 rfl ?_
    refine a_iadd (pc' := 17) dX7_bits_16 rfl ?_
    refine a_is_1_3 (pc' := 18) dX7_bits_17 rfl ?_
    refine a_iN_2_3 (m := p + 1) (pc' := 21) dX7_bits_18 (nI_add _ _) rfl ?_
    refine a_goto (pc' := 4) dX7_bits_21 (by decide) ?_
    exact ih (p + 1) _ (by omega) (by simpa [bitL] using hΦ)
set_option maxRecDepth 20000 in
set_option maxHeartbeats 4000000 in
theorem ct_X7_bits (x : Int32) (M : Mm) : Ct yX7_bits cX7_bits 3 (some .int) 0 0 [.inl x] M (RI (bitL x 12 0 (nI 0)) M) := by
  refine Ct.at RX7 rfl (by decide +kernel) (Nat.le_of_ble_eq_true rfl) [some (.inl x), none, none] rfl (fun G => ?_)
  refine a_iconst (v := nI 0) (pc' := 1) dX7_bits_0 (by decide) rfl ?_
  refine a_is_1_3 (pc' := 2) dX7_bits_1 rfl ?_
  refine a_iconst (v := nI 0) (pc' := 3) dX7_bits_2 (by decide) rfl ?_
  refine a_is_2_3 (pc' := 4) dX7_bits_3 rfl ?_
  exact lp_X7_bits _ _ 12 0 _ (by omega) ⟨rfl, rfl⟩
set_option maxRecDepth 20000 in
set_option maxHeartbeats 4000000 in
theorem ct_X7_doors {nv : Nat} (hn : nv ≤ 3) {np : Nat} (hm : np ≤ 12) (x y : Int32) (M : Mm) (h0 : M 50 0 = nI nv) (h1 : M 50 1 = nI np) : Ct yX7_doors cX7_doors 3 (some .int) 3 65 [.inr (7, 0, 0, 0), .inl x, .inl y] M (RI (drR (M 50) x y) (setR M 50 (drF (M 50) x y))) := by
  refine Ct.at RX7 rfl (by decide +kernel) (Nat.le_of_ble_eq_true rfl) [some (.inr (7, 0, 0, 0)), some (.inl x), some (.inl y)] rfl (fun G => ?_)
  refine a_al_0_3 (pc' := 1) dX7_doors_0 rfl ?_
  refine a_il_1_3 (pc' := 2) dX7_doors_1 rfl ?_
  refine k_VI (pc' := 5) (ct_X7_isVan (by omega) _ _ (by assumption)) cw_X7_88 mi_X7_isVan se_X7_isVan rfl rfl rfl rfl (by decide) (by decide) (Nat.le_of_ble_eq_true rfl) rfl dX7_doors_2 rfl ?_
  refine a_ifB_eq (pc' := 8) (tgt := 17) dX7_doors_5 (by decide) rfl (fun c_5 => ?_) (fun c_5 => ?_)
  · refine a_ldc (pc' := 19) dX7_doors_17 cn_X7_92 rfl ?_
    refine a_iret dX7_doors_19 rfl rfl ?_
    refine fIM ?_ ?_
    · first
      | (simp [drR, drF, drB, c_5, hcl, hnp, hbc, wr_eq, setR_same, setR_setR, setR_self, upd_at, -Int32.not_le, -Int32.not_lt]; done)
      | (simp [drR, drF, drB, c_5, hcl, hnp, wr_eq, setR_same, setR_setR, setR_self, upd_at, -Int32.not_le, -Int32.not_lt]; done)
      | simp [drR, drF, drB, c_5, wr_eq, setR_same, setR_setR, setR_self, upd_at, -Int32.not_le, -Int32.not_lt]
    · first
      | (simp [drR, drF, drB, c_5, hcl, hnp, hbc, wr_eq, setR_same, setR_setR, setR_self, upd_at, -Int32.not_le, -Int32.not_lt]; done)
      | (simp [drR, drF, drB, c_5, hcl, hnp, wr_eq, setR_same, setR_setR, setR_self, upd_at, -Int32.not_le, -Int32.not_lt]; done)
      | simp [drR, drF, drB, c_5, wr_eq, setR_same, setR_setR, setR_self, upd_at, -Int32.not_le, -Int32.not_lt]
  · refine a_il_2_3 (pc' := 9) dX7_doors_8 rfl ?_
    refine a_iconst (v := nI 0) (pc' := 10) dX7_doors_9 (by decide) rfl ?_
    refine a_iconst (v := nI 1) (pc' := 11) dX7_doors_10 (by decide) rfl ?_
    refine k_SI (pc' := 14) (ct_X7_in _ _ _ _) cw_X7_43 ms_X7_in rfl (by decide) (by decide) (Nat.le_of_ble_eq_true rfl) rfl dX7_doors_11 rfl ?_
    refine a_ifB_ne (pc' := 17) (tgt := 20) dX7_doors_14 (by decide) rfl (fun c_14 => ?_) (fun c_14 => ?_)
    · obtain ⟨v, hv, rfl⟩ := hvS_nI c_5 h0 (by omega)
      have hcl : vN (nI v) = v := vN_nI (by omega)
      have hnp : npF (M 50) = np := by unfold npF; rw [h1]; exact nI_clamp (by omega)
      have hbc : ∀ F : Nat → Int32, bitL (pinL F (nI v) np 0 (nI 0)) 12 0 (nI 0) = bcS (pinL F (nI v) np 0 (nI 0)) := fun F => bits_pin F _ hm
      refine a_al_0_3 (pc' := 21) dX7_doors_20 rfl ?_
      refine a_il_1_3 (pc' := 22) dX7_doors_21 rfl ?_
      refine a_iconst (v := nI 2) (pc' := 23) dX7_doors_22 (by decide) rfl ?_
      refine k_VI (pc' := 26) (ct_X7_of (by omega) (by omega) _) cw_X7_65 mi_X7_of se_X7_of rfl rfl rfl rfl (by decide) (by decide) (Nat.le_of_ble_eq_true rfl) rfl dX7_doors_23 rfl ?_
      refine a_il_2_3 (pc' := 27) dX7_doors_26 rfl ?_
      refine a_icmp_ne (pc' := 30) (tgt := 33) dX7_doors_27 (by decide) rfl (fun c_27 => ?_) (fun c_27 => ?_)
      · refine a_al_0_3 (pc' := 34) dX7_doors_33 rfl ?_
        refine gf_7_0 (pc' := 37) fl_X7_7 dX7_doors_34 rfl ?_
        refine a_bipush (v := nI 6) (pc' := 39) dX7_doors_37 (by decide) rfl ?_
        refine a_bipush (v := nI 19) (pc' := 41) dX7_doors_39 (by decide) rfl ?_
        refine a_il_1_3 (pc' := 42) dX7_doors_41 rfl ?_
        refine a_imulN (pc' := 43) dX7_doors_42 rfl ?_
        refine a_iaddN (pc' := 44) dX7_doors_43 rfl ?_
        refine a_iconst (v := nI 2) (pc' := 45) dX7_doors_44 (by decide) rfl ?_
        refine a_iaddN (pc' := 46) dX7_doors_45 rfl ?_
        refine a_il_2_3 (pc' := 47) dX7_doors_46 rfl ?_
        refine a_iastN (pc' := 48) rfl (by omega) (by decide) dX7_doors_47 rfl ?_
        refine a_al_0_3 (pc' := 49) dX7_doors_48 rfl ?_
        refine a_il_1_3 (pc' := 50) dX7_doors_49 rfl ?_
        refine k_VI (pc' := 53) (ct_X7_inVan hm _ _ (by rw [wr_eq, setR_same, upd_at, if_neg (by omega)]; exact h1)) cw_X7_94 mi_X7_inVan se_X7_inVan rfl rfl rfl rfl (by decide) (by decide) (Nat.le_of_ble_eq_true rfl) rfl dX7_doors_50 rfl ?_
        refine k_SI (pc' := 56) (ct_X7_bits _ _) cw_X7_97 ms_X7_bits rfl (by decide) (by decide) (Nat.le_of_ble_eq_true rfl) rfl dX7_doors_53 rfl ?_
        refine a_iret dX7_doors_56 rfl rfl ?_
        refine fIM ?_ ?_
        · first
          | (simp [drR, drF, drB, c_5, c_14, c_27, hcl, hnp, hbc, wr_eq, setR_same, setR_setR, setR_self, upd_at, -Int32.not_le, -Int32.not_lt]; done)
          | (simp [drR, drF, drB, c_5, c_14, c_27, hcl, hnp, wr_eq, setR_same, setR_setR, setR_self, upd_at, -Int32.not_le, -Int32.not_lt]; done)
          | simp [drR, drF, drB, c_5, c_14, c_27, wr_eq, setR_same, setR_setR, setR_self, upd_at, -Int32.not_le, -Int32.not_lt]
        · first
          | (simp [drR, drF, drB, c_5, c_14, c_27, hcl, hnp, hbc, wr_eq, setR_same, setR_setR, setR_self, upd_at, -Int32.not_le, -Int32.not_lt]; done)
          | (simp [drR, drF, drB, c_5, c_14, c_27, hcl, hnp, wr_eq, setR_same, setR_setR, setR_self, upd_at, -Int32.not_le, -Int32.not_lt]; done)
          | simp [drR, drF, drB, c_5, c_14, c_27, wr_eq, setR_same, setR_setR, setR_self, upd_at, -Int32.not_le, -Int32.not_lt]
      · refine a_ldc (pc' := 32) dX7_doors_30 cn_X7_93 rfl ?_
        refine a_iret dX7_doors_32 rfl rfl ?_
        refine fIM ?_ ?_
        · first
          | (simp [drR, drF, drB, c_5, c_14, c_27, hcl, hnp, hbc, wr_eq, setR_same, setR_setR, setR_self, upd_at, -Int32.not_le, -Int32.not_lt]; done)
          | (simp [drR, drF, drB, c_5, c_14, c_27, hcl, hnp, wr_eq, setR_same, setR_setR, setR_self, upd_at, -Int32.not_le, -Int32.not_lt]; done)
          | simp [drR, drF, drB, c_5, c_14, c_27, wr_eq, setR_same, setR_setR, setR_self, upd_at, -Int32.not_le, -Int32.not_lt]
        · first
          | (simp [drR, drF, drB, c_5, c_14, c_27, hcl, hnp, hbc, wr_eq, setR_same, setR_setR, setR_self, upd_at, -Int32.not_le, -Int32.not_lt]; done)
          | (simp [drR, drF, drB, c_5, c_14, c_27, hcl, hnp, wr_eq, setR_same, setR_setR, setR_self, upd_at, -Int32.not_le, -Int32.not_lt]; done)
          | simp [drR, drF, drB, c_5, c_14, c_27, wr_eq, setR_same, setR_setR, setR_self, upd_at, -Int32.not_le, -Int32.not_lt]
    · refine a_ldc (pc' := 19) dX7_doors_17 cn_X7_92 rfl ?_
      refine a_iret dX7_doors_19 rfl rfl ?_
      refine fIM ?_ ?_
      · first
        | (simp [drR, drF, drB, c_5, c_14, hcl, hnp, hbc, wr_eq, setR_same, setR_setR, setR_self, upd_at, -Int32.not_le, -Int32.not_lt]; done)
        | (simp [drR, drF, drB, c_5, c_14, hcl, hnp, wr_eq, setR_same, setR_setR, setR_self, upd_at, -Int32.not_le, -Int32.not_lt]; done)
        | simp [drR, drF, drB, c_5, c_14, wr_eq, setR_same, setR_setR, setR_self, upd_at, -Int32.not_le, -Int32.not_lt]
      · first
        | (simp [drR, drF, drB, c_5, c_14, hcl, hnp, hbc, wr_eq, setR_same, setR_setR, setR_self, upd_at, -Int32.not_le, -Int32.not_lt]; done)
        | (simp [drR, drF, drB, c_5, c_14, hcl, hnp, wr_eq, setR_same, setR_setR, setR_self, upd_at, -Int32.not_le, -Int32.not_lt]; done)
        | simp [drR, drF, drB, c_5, c_14, wr_eq, setR_same, setR_setR, setR_self, upd_at, -Int32.not_le, -Int32.not_lt]
set_option maxRecDepth 20000 in
set_option maxHeartbeats 4000000 in
theorem ct_X7_delivers {np : Nat} (hm : np ≤ 12) (x : Int32) (M : Mm) (h1 : M 50 1 = nI np) (hvo : vOK (M 50)) : Ct yX7_delivers cX7_delivers 2 (some .int) 2 43 [.inr (7, 0, 0, 0), .inl x] M (RI (dlR (M 50) x) (setR M 50 (dlF (M 50) x))) := by
  refine Ct.at RX7 rfl (by decide +kernel) (Nat.le_of_ble_eq_true rfl) [some (.inr (7, 0, 0, 0)), some (.inl x)] rfl (fun G => ?_)
  refine a_al_0_2 (pc' := 1) dX7_delivers_0 rfl ?_
  refine a_il_1_2 (pc' := 2) dX7_delivers_1 rfl ?_
  refine k_VI (pc' := 5) (ct_X7_isPallet (by omega) _ _ (by assumption)) cw_X7_105 mi_X7_isPallet se_X7_isPallet rfl rfl rfl rfl (by decide) (by decide) (Nat.le_of_ble_eq_true rfl) rfl dX7_delivers_2 rfl ?_
  refine a_ifB_ne (pc' := 8) (tgt := 11) dX7_delivers_5 (by decide) rfl (fun c_5 => ?_) (fun c_5 => ?_)
  · obtain ⟨p, hp, rfl⟩ := hpS_nI c_5 h1 (by omega)
    have hcl : vN (nI p) = p := vN_nI (by omega)
    obtain ⟨v, hv, ev⟩ := hvo p (by omega)
    have hcv : vN (nI v) = v := vN_nI (by omega)
    refine a_al_0_2 (pc' := 12) dX7_delivers_11 rfl ?_
    refine a_il_1_2 (pc' := 13) dX7_delivers_12 rfl ?_
    refine a_iconst (v := nI 5) (pc' := 14) dX7_delivers_13 (by decide) rfl ?_
    refine k_VI (pc' := 17) (ct_X7_its (w := 5) (by omega) (by omega) _) cw_X7_72 mi_X7_its se_X7_its rfl rfl rfl rfl (by decide) (by decide) (Nat.le_of_ble_eq_true rfl) rfl dX7_delivers_14 rfl ?_
    refine a_if_ne (pc' := 20) (tgt := 34) dX7_delivers_17 (by decide) rfl (fun c_17 => ?_) (fun c_17 => ?_)
    · refine a_ldc (pc' := 36) dX7_delivers_34 cn_X7_93 rfl ?_
      refine a_iret dX7_delivers_36 rfl rfl ?_
      try simp only [Nat.add_zero] at c_5 c_17
      refine fIM ?_ ?_
      · first
        | (simp [dlR, dlF, dlB, dlv, ovP, c_5, c_17, hcl, ev, hcv, wr_eq, setR_same, setR_setR, setR_self, upd_at, nI_0, -Int32.not_le, -Int32.not_lt]; done)
        | simp [dlR, dlF, dlB, dlv, ovP, c_5, c_17, wr_eq, setR_same, setR_setR, setR_self, upd_at, nI_0, -Int32.not_le, -Int32.not_lt]
      · first
        | (simp [dlR, dlF, dlB, dlv, ovP, c_5, c_17, hcl, ev, hcv, wr_eq, setR_same, setR_setR, setR_self, upd_at, nI_0, -Int32.not_le, -Int32.not_lt]; done)
        | simp [dlR, dlF, dlB, dlv, ovP, c_5, c_17, wr_eq, setR_same, setR_setR, setR_self, upd_at, nI_0, -Int32.not_le, -Int32.not_lt]
    · refine a_al_0_2 (pc' := 21) dX7_delivers_20 rfl ?_
      refine a_al_0_2 (pc' := 22) dX7_delivers_21 rfl ?_
      refine a_il_1_2 (pc' := 23) dX7_delivers_22 rfl ?_
      refine a_iconst (v := nI 0) (pc' := 24) dX7_delivers_23 (by decide) rfl ?_
      refine k_VI (pc' := 27) (ct_X7_its (w := 0) (by omega) (by omega) _) cw_X7_72 mi_X7_its se_X7_its rfl rfl rfl rfl (by decide) (by decide) (Nat.le_of_ble_eq_true rfl) rfl dX7_delivers_24 rfl ?_
      rw [show (63 + 10 * p + 0) = 63 + 10 * p from rfl, ev]
      refine a_iconst (v := nI 2) (pc' := 28) dX7_delivers_27 (by decide) rfl ?_
      refine k_VI (pc' := 31) (ct_X7_of (by omega) (by omega) _) cw_X7_65 mi_X7_of se_X7_of rfl rfl rfl rfl (by decide) (by decide) (Nat.le_of_ble_eq_true rfl) rfl dX7_delivers_28 rfl ?_
      refine a_if_ne (pc' := 34) (tgt := 37) dX7_delivers_31 (by decide) rfl (fun c_31 => ?_) (fun c_31 => ?_)
      · refine a_al_0_2 (pc' := 38) dX7_delivers_37 rfl ?_
        refine gf_7_0 (pc' := 41) fl_X7_7 dX7_delivers_38 rfl ?_
        refine a_il_1_2 (pc' := 42) dX7_delivers_41 rfl ?_
        refine k_SI (pc' := 45) (ct_X7_palletSpot _) cw_X7_51 ms_X7_palletSpot rfl (by decide) (by decide) (Nat.le_of_ble_eq_true rfl) rfl dX7_delivers_42 rfl ?_
        refine a_iconst (v := nI 5) (pc' := 46) dX7_delivers_45 (by decide) rfl ?_
        refine a_iaddN (pc' := 47) dX7_delivers_46 rfl ?_
        refine a_al_0_2 (pc' := 48) dX7_delivers_47 rfl ?_
        refine a_il_1_2 (pc' := 49) dX7_delivers_48 rfl ?_
        refine a_bipush (v := nI 8) (pc' := 51) dX7_delivers_49 (by decide) rfl ?_
        refine k_VI (pc' := 54) (ct_X7_its (w := 8) (by omega) (by omega) _) cw_X7_72 mi_X7_its se_X7_its rfl rfl rfl rfl (by decide) (by decide) (Nat.le_of_ble_eq_true rfl) rfl dX7_delivers_51 rfl ?_
        refine a_al_0_2 (pc' := 55) dX7_delivers_54 rfl ?_
        refine a_il_1_2 (pc' := 56) dX7_delivers_55 rfl ?_
        refine a_iconst (v := nI 3) (pc' := 57) dX7_delivers_56 (by decide) rfl ?_
        refine k_VI (pc' := 60) (ct_X7_its (w := 3) (by omega) (by omega) _) cw_X7_72 mi_X7_its se_X7_its rfl rfl rfl rfl (by decide) (by decide) (Nat.le_of_ble_eq_true rfl) rfl dX7_delivers_57 rfl ?_
        refine a_icmp_le (pc' := 63) (tgt := 67) dX7_delivers_60 (by decide) rfl (fun c_60 => ?_) (fun c_60 => ?_)
        · refine a_iconst (v := nI 1) (pc' := 68) dX7_delivers_67 (by decide) rfl ?_
          refine a_iastN (pc' := 69) rfl (by omega) (by decide) dX7_delivers_68 rfl ?_
          refine a_al_0_2 (pc' := 70) dX7_delivers_69 rfl ?_
          refine a_il_1_2 (pc' := 71) dX7_delivers_70 rfl ?_
          refine a_iconst (v := nI 5) (pc' := 72) dX7_delivers_71 (by decide) rfl ?_
          refine k_VI (pc' := 75) (ct_X7_its (w := 5) (by omega) (by omega) _) cw_X7_72 mi_X7_its se_X7_its rfl rfl rfl rfl (by decide) (by decide) (Nat.le_of_ble_eq_true rfl) rfl dX7_delivers_72 rfl ?_
          refine a_iret dX7_delivers_75 rfl rfl ?_
          try simp only [Nat.add_zero] at c_5 c_17 c_31 c_60
          refine fIM ?_ ?_
          · first
            | (simp [dlR, dlF, dlB, dlv, ovP, c_5, c_17, c_31, c_60, hcl, ev, hcv, wr_eq, setR_same, setR_setR, setR_self, upd_at, nI_0, -Int32.not_le, -Int32.not_lt]; done)
            | simp [dlR, dlF, dlB, dlv, ovP, c_5, c_17, c_31, c_60, wr_eq, setR_same, setR_setR, setR_self, upd_at, nI_0, -Int32.not_le, -Int32.not_lt]
          · first
            | (simp [dlR, dlF, dlB, dlv, ovP, c_5, c_17, c_31, c_60, hcl, ev, hcv, wr_eq, setR_same, setR_setR, setR_self, upd_at, nI_0, -Int32.not_le, -Int32.not_lt]; done)
            | simp [dlR, dlF, dlB, dlv, ovP, c_5, c_17, c_31, c_60, wr_eq, setR_same, setR_setR, setR_self, upd_at, nI_0, -Int32.not_le, -Int32.not_lt]
        · refine a_iconst (v := nI 2) (pc' := 64) dX7_delivers_63 (by decide) rfl ?_
          refine a_goto (pc' := 68) dX7_delivers_64 (by decide) ?_
          refine a_iastN (pc' := 69) rfl (by omega) (by decide) dX7_delivers_68 rfl ?_
          refine a_al_0_2 (pc' := 70) dX7_delivers_69 rfl ?_
          refine a_il_1_2 (pc' := 71) dX7_delivers_70 rfl ?_
          refine a_iconst (v := nI 5) (pc' := 72) dX7_delivers_71 (by decide) rfl ?_
          refine k_VI (pc' := 75) (ct_X7_its (w := 5) (by omega) (by omega) _) cw_X7_72 mi_X7_its se_X7_its rfl rfl rfl rfl (by decide) (by decide) (Nat.le_of_ble_eq_true rfl) rfl dX7_delivers_72 rfl ?_
          refine a_iret dX7_delivers_75 rfl rfl ?_
          try simp only [Nat.add_zero] at c_5 c_17 c_31 c_60
          refine fIM ?_ ?_
          · first
            | (simp [dlR, dlF, dlB, dlv, ovP, c_5, c_17, c_31, c_60, hcl, ev, hcv, wr_eq, setR_same, setR_setR, setR_self, upd_at, nI_0, -Int32.not_le, -Int32.not_lt]; done)
            | simp [dlR, dlF, dlB, dlv, ovP, c_5, c_17, c_31, c_60, wr_eq, setR_same, setR_setR, setR_self, upd_at, nI_0, -Int32.not_le, -Int32.not_lt]
          · first
            | (simp [dlR, dlF, dlB, dlv, ovP, c_5, c_17, c_31, c_60, hcl, ev, hcv, wr_eq, setR_same, setR_setR, setR_self, upd_at, nI_0, -Int32.not_le, -Int32.not_lt]; done)
            | simp [dlR, dlF, dlB, dlv, ovP, c_5, c_17, c_31, c_60, wr_eq, setR_same, setR_setR, setR_self, upd_at, nI_0, -Int32.not_le, -Int32.not_lt]
      · refine a_ldc (pc' := 36) dX7_delivers_34 cn_X7_93 rfl ?_
        refine a_iret dX7_delivers_36 rfl rfl ?_
        try simp only [Nat.add_zero] at c_5 c_17 c_31
        refine fIM ?_ ?_
        · first
          | (simp [dlR, dlF, dlB, dlv, ovP, c_5, c_17, c_31, hcl, ev, hcv, wr_eq, setR_same, setR_setR, setR_self, upd_at, nI_0, -Int32.not_le, -Int32.not_lt]; done)
          | simp [dlR, dlF, dlB, dlv, ovP, c_5, c_17, c_31, wr_eq, setR_same, setR_setR, setR_self, upd_at, nI_0, -Int32.not_le, -Int32.not_lt]
        · first
          | (simp [dlR, dlF, dlB, dlv, ovP, c_5, c_17, c_31, hcl, ev, hcv, wr_eq, setR_same, setR_setR, setR_self, upd_at, nI_0, -Int32.not_le, -Int32.not_lt]; done)
          | simp [dlR, dlF, dlB, dlv, ovP, c_5, c_17, c_31, wr_eq, setR_same, setR_setR, setR_self, upd_at, nI_0, -Int32.not_le, -Int32.not_lt]
  · refine a_ldc (pc' := 10) dX7_delivers_8 cn_X7_92 rfl ?_
    refine a_iret dX7_delivers_10 rfl rfl ?_
    try simp only [Nat.add_zero] at c_5
    refine fIM ?_ ?_
    · first
      | (simp [dlR, dlF, dlB, dlv, ovP, c_5, hcl, ev, hcv, wr_eq, setR_same, setR_setR, setR_self, upd_at, nI_0, -Int32.not_le, -Int32.not_lt]; done)
      | simp [dlR, dlF, dlB, dlv, ovP, c_5, wr_eq, setR_same, setR_setR, setR_self, upd_at, nI_0, -Int32.not_le, -Int32.not_lt]
    · first
      | (simp [dlR, dlF, dlB, dlv, ovP, c_5, hcl, ev, hcv, wr_eq, setR_same, setR_setR, setR_self, upd_at, nI_0, -Int32.not_le, -Int32.not_lt]; done)
      | simp [dlR, dlF, dlB, dlv, ovP, c_5, wr_eq, setR_same, setR_setR, setR_self, upd_at, nI_0, -Int32.not_le, -Int32.not_lt]
set_option maxRecDepth 20000 in
set_option maxHeartbeats 4000000 in
theorem ct_X7_repairs {nv : Nat} (hn : nv ≤ 3) (x z : Int32) (M : Mm) (h0 : M 50 0 = nI nv) (hB : BoolOK (M 50)) : Ct yX7_repairs cX7_repairs 5 (some .int) 2 43 [.inr (7, 0, 0, 0), .inl x, .inl z] M (RI (repR (M 50) x z) (setR M 50 (repF (M 50) x z))) := by
  refine Ct.at RX7 rfl (by decide +kernel) (Nat.le_of_ble_eq_true rfl) [some (.inr (7, 0, 0, 0)), some (.inl x), some (.inl z), none, none] rfl (fun G => ?_)
  refine a_al_0_5 (pc' := 1) dX7_repairs_0 rfl ?_
  refine a_il_1_5 (pc' := 2) dX7_repairs_1 rfl ?_
  refine k_VI (pc' := 5) (ct_X7_isVan (by omega) _ _ (by assumption)) cw_X7_88 mi_X7_isVan se_X7_isVan rfl rfl rfl rfl (by decide) (by decide) (Nat.le_of_ble_eq_true rfl) rfl dX7_repairs_2 rfl ?_
  refine a_ifB_eq (pc' := 8) (tgt := 15) dX7_repairs_5 (by decide) rfl (fun c_5 => ?_) (fun c_5 => ?_)
  · refine a_ldc (pc' := 17) dX7_repairs_15 cn_X7_92 rfl ?_
    refine a_iret dX7_repairs_17 rfl rfl ?_
    refine fIM ?_ ?_
    · first
      | (simp [repR, repF, hzS, mendF, c_5, hcl, hcz, hfd, wr_eq, setR_same, setR_setR, setR_self, upd_at, -Int32.not_le, -Int32.not_lt]; done)
      | simp [repR, repF, hzS, mendF, c_5, wr_eq, setR_same, setR_setR, setR_self, upd_at, -Int32.not_le, -Int32.not_lt]
    · first
      | (simp [repR, repF, hzS, mendF, c_5, hcl, hcz, hfd, wr_eq, setR_same, setR_setR, setR_self, upd_at, -Int32.not_le, -Int32.not_lt]; done)
      | simp [repR, repF, hzS, mendF, c_5, wr_eq, setR_same, setR_setR, setR_self, upd_at, -Int32.not_le, -Int32.not_lt]
  · refine a_il_2_5 (pc' := 9) dX7_repairs_8 rfl ?_
    refine k_SI (pc' := 12) (ct_X7_isZone _ _) cw_X7_108 ms_X7_isZone rfl (by decide) (by decide) (Nat.le_of_ble_eq_true rfl) rfl dX7_repairs_9 rfl ?_
    refine a_ifB_ne (pc' := 15) (tgt := 18) dX7_repairs_12 (by decide) rfl (fun c_12 => ?_) (fun c_12 => ?_)
    · obtain ⟨v, z, hv, hz, rfl, rfl⟩ := hzS_nI (show hzS (M 50) x z = true by simp [hzS, c_5, c_12]) h0 (by omega)
      have hcl : vN (nI v) = v := vN_nI (by omega)
      have hcz : vN (nI z) = z := vN_nI (by omega)
      have hfd : (if M 50 (10 + 19 * v + 5 * z + 3) = 0 then nI 0 else nI 1) = M 50 (10 + 19 * v + 5 * z + 3) := by
        rcases hB.2 v z (by omega) hz with e | e <;> rw [e] <;> decide
      refine a_il_1_5 (pc' := 19) dX7_repairs_18 rfl ?_
      refine a_il_2_5 (pc' := 20) dX7_repairs_19 rfl ?_
      refine k_SI (pc' := 23) (ct_X7_zoneSpot _) cw_X7_47 ms_X7_zoneSpot rfl (by decide) (by decide) (Nat.le_of_ble_eq_true rfl) rfl dX7_repairs_20 rfl ?_
      refine a_is_3_5 (pc' := 24) dX7_repairs_23 rfl ?_
      refine a_al_0_5 (pc' := 25) dX7_repairs_24 rfl ?_
      refine gf_7_0 (pc' := 28) fl_X7_7 dX7_repairs_25 rfl ?_
      refine a_il_3_5 (pc' := 29) dX7_repairs_28 rfl ?_
      refine a_iconst (v := nI 3) (pc' := 30) dX7_repairs_29 (by decide) rfl ?_
      refine a_iaddN (pc' := 31) dX7_repairs_30 rfl ?_
      refine a_ialdN (pc' := 32) rfl (by omega) (by decide) dX7_repairs_31 rfl ?_
      refine a_is_4_5 (pc' := 34) dX7_repairs_32 rfl ?_
      refine a_al_0_5 (pc' := 35) dX7_repairs_34 rfl ?_
      refine gf_7_0 (pc' := 38) fl_X7_7 dX7_repairs_35 rfl ?_
      refine a_il_3_5 (pc' := 39) dX7_repairs_38 rfl ?_
      refine a_iconst (v := nI 1) (pc' := 40) dX7_repairs_39 (by decide) rfl ?_
      refine a_iaddN (pc' := 41) dX7_repairs_40 rfl ?_
      refine a_iconst (v := nI 0) (pc' := 42) dX7_repairs_41 (by decide) rfl ?_
      refine a_iastN (pc' := 43) rfl (by omega) (by decide) dX7_repairs_42 rfl ?_
      refine a_al_0_5 (pc' := 44) dX7_repairs_43 rfl ?_
      refine gf_7_0 (pc' := 47) fl_X7_7 dX7_repairs_44 rfl ?_
      refine a_il_3_5 (pc' := 48) dX7_repairs_47 rfl ?_
      refine a_iconst (v := nI 2) (pc' := 49) dX7_repairs_48 (by decide) rfl ?_
      refine a_iaddN (pc' := 50) dX7_repairs_49 rfl ?_
      refine a_iconst (v := nI 0) (pc' := 51) dX7_repairs_50 (by decide) rfl ?_
      refine a_iastN (pc' := 52) rfl (by omega) (by decide) dX7_repairs_51 rfl ?_
      refine a_al_0_5 (pc' := 53) dX7_repairs_52 rfl ?_
      refine gf_7_0 (pc' := 56) fl_X7_7 dX7_repairs_53 rfl ?_
      refine a_il_3_5 (pc' := 57) dX7_repairs_56 rfl ?_
      refine a_iconst (v := nI 3) (pc' := 58) dX7_repairs_57 (by decide) rfl ?_
      refine a_iaddN (pc' := 59) dX7_repairs_58 rfl ?_
      refine a_iconst (v := nI 0) (pc' := 60) dX7_repairs_59 (by decide) rfl ?_
      refine a_iastN (pc' := 61) rfl (by omega) (by decide) dX7_repairs_60 rfl ?_
      refine a_al_0_5 (pc' := 62) dX7_repairs_61 rfl ?_
      refine gf_7_0 (pc' := 65) fl_X7_7 dX7_repairs_62 rfl ?_
      refine a_il_3_5 (pc' := 66) dX7_repairs_65 rfl ?_
      refine a_iconst (v := nI 4) (pc' := 67) dX7_repairs_66 (by decide) rfl ?_
      refine a_iaddN (pc' := 68) dX7_repairs_67 rfl ?_
      refine a_iconst (v := nI 0) (pc' := 69) dX7_repairs_68 (by decide) rfl ?_
      refine a_iastN (pc' := 70) rfl (by omega) (by decide) dX7_repairs_69 rfl ?_
      refine a_il_4_5 (pc' := 72) dX7_repairs_70 rfl ?_
      refine a_iret dX7_repairs_72 rfl rfl ?_
      refine fIM ?_ ?_
      · first
        | (simp [repR, repF, hzS, mendF, c_5, c_12, hcl, hcz, hfd, wr_eq, setR_same, setR_setR, setR_self, upd_at, -Int32.not_le, -Int32.not_lt]; done)
        | simp [repR, repF, hzS, mendF, c_5, c_12, wr_eq, setR_same, setR_setR, setR_self, upd_at, -Int32.not_le, -Int32.not_lt]
      · first
        | (simp [repR, repF, hzS, mendF, c_5, c_12, hcl, hcz, hfd, wr_eq, setR_same, setR_setR, setR_self, upd_at, -Int32.not_le, -Int32.not_lt]; done)
        | simp [repR, repF, hzS, mendF, c_5, c_12, wr_eq, setR_same, setR_setR, setR_self, upd_at, -Int32.not_le, -Int32.not_lt]
    · refine a_ldc (pc' := 17) dX7_repairs_15 cn_X7_92 rfl ?_
      refine a_iret dX7_repairs_17 rfl rfl ?_
      refine fIM ?_ ?_
      · first
        | (simp [repR, repF, hzS, mendF, c_5, c_12, hcl, hcz, hfd, wr_eq, setR_same, setR_setR, setR_self, upd_at, -Int32.not_le, -Int32.not_lt]; done)
        | simp [repR, repF, hzS, mendF, c_5, c_12, wr_eq, setR_same, setR_setR, setR_self, upd_at, -Int32.not_le, -Int32.not_lt]
      · first
        | (simp [repR, repF, hzS, mendF, c_5, c_12, hcl, hcz, hfd, wr_eq, setR_same, setR_setR, setR_self, upd_at, -Int32.not_le, -Int32.not_lt]; done)
        | simp [repR, repF, hzS, mendF, c_5, c_12, wr_eq, setR_same, setR_setR, setR_self, upd_at, -Int32.not_le, -Int32.not_lt]
set_option maxRecDepth 20000 in
set_option maxHeartbeats 4000000 in
theorem ct_X7_done {k : Nat} (hk : k ≤ 6) (r : Int32) (M : Mm) (h6 : M 60 0 = nI k) : Ct yX7_done cX7_done 2 (some .int) 1 22 [.inr (7, 0, 0, 0), .inl r] M (RI r (doM M k r)) := by
  refine Ct.at RX7 rfl (by decide +kernel) (Nat.le_of_ble_eq_true rfl) [some (.inr (7, 0, 0, 0)), some (.inl r)] rfl (fun G => ?_)
  refine a_il_1_2 (pc' := 1) dX7_done_0 rfl ?_
  refine a_if_ge (pc' := 4) (tgt := 8) dX7_done_1 (by decide) rfl (fun c_1 => ?_) (fun c_1 => ?_)
  · refine a_al_0_2 (pc' := 9) dX7_done_8 rfl ?_
    refine a_il_1_2 (pc' := 10) dX7_done_9 rfl ?_
    refine k_VI (pc' := 13) (ct_X7_ends (by omega) _ _ (by assumption)) cw_X7_111 mi_X7_ends se_X7_ends rfl rfl rfl rfl (by decide) (by decide) (Nat.le_of_ble_eq_true rfl) rfl dX7_done_10 rfl ?_
    refine a_iret dX7_done_13 rfl rfl ?_
    exact fIM rfl (by simp [doM, c_1, -Int32.not_le, -Int32.not_lt])
  · refine a_il_1_2 (pc' := 5) dX7_done_4 rfl ?_
    refine a_goto (pc' := 13) dX7_done_5 (by decide) ?_
    refine a_iret dX7_done_13 rfl rfl ?_
    exact fIM rfl (by simp [doM, c_1, -Int32.not_le, -Int32.not_lt])
set_option maxRecDepth 20000 in
set_option maxHeartbeats 4000000 in
theorem ct_X7_repair {k : Nat} (hk : k ≤ 6) {nv : Nat} (hn : nv ≤ 3) (x z : Int32) (M : Mm) (h6 : M 60 0 = nI k) (h0 : M 50 0 = nI nv) (hB : BoolOK (M 50)) : Ct yX7_repair cX7_repair 3 (some .int) 3 67 [.inr (7, 0, 0, 0), .inl x, .inl z] M (RI (repR (M 50) x z) (doM (setR (hM M) 50 (repF (M 50) x z)) k (repR (M 50) x z))) := by
  refine Ct.at RX7 rfl (by decide +kernel) (Nat.le_of_ble_eq_true rfl) [some (.inr (7, 0, 0, 0)), some (.inl x), some (.inl z)] rfl (fun G => ?_)
  refine a_al_0_3 (pc' := 1) dX7_repair_0 rfl ?_
  refine k_VV (pc' := 4) (ct_X7_hold _) cw_X7_117 mi_X7_hold se_X7_hold rfl rfl rfl rfl (by decide) (by decide) (Nat.le_of_ble_eq_true rfl) rfl dX7_repair_1 rfl ?_
  refine a_al_0_3 (pc' := 5) dX7_repair_4 rfl ?_
  refine a_al_0_3 (pc' := 6) dX7_repair_5 rfl ?_
  refine a_il_1_3 (pc' := 7) dX7_repair_6 rfl ?_
  refine a_il_2_3 (pc' := 8) dX7_repair_7 rfl ?_
  refine k_VI (pc' := 11) (ct_X7_repairs hn _ _ _ (by rw [hM_ne _ (by decide)]; exact h0) (by rw [hM_ne _ (by decide)]; exact hB)) cw_X7_126 mi_X7_repairs se_X7_repairs rfl rfl rfl rfl (by decide) (by decide) (Nat.le_of_ble_eq_true rfl) rfl dX7_repair_8 rfl ?_
  refine k_VI (pc' := 14) (ct_X7_done hk _ _ (by simp (disch := decide) only [wr_rne, setR_same, setR_ne, hM_ne]; exact h6)) cw_X7_129 mi_X7_done se_X7_done rfl rfl rfl rfl (by decide) (by decide) (Nat.le_of_ble_eq_true rfl) rfl dX7_repair_11 rfl ?_
  refine a_iret dX7_repair_14 rfl rfl ?_
  refine fIM ?_ ?_ <;> rw [hM_ne _ (by decide)]
set_option maxRecDepth 20000 in
set_option maxHeartbeats 4000000 in
theorem ct_X7_door {k : Nat} (hk : k ≤ 6) {nv : Nat} (hn : nv ≤ 3) {np : Nat} (hm : np ≤ 12) (x z : Int32) (M : Mm) (h6 : M 60 0 = nI k) (h0 : M 50 0 = nI nv) (h1 : M 50 1 = nI np) : Ct yX7_door cX7_door 3 (some .int) 4 87 [.inr (7, 0, 0, 0), .inl x, .inl z] M (RI (drR (M 50) x z) (doM (setR (hM M) 50 (drF (M 50) x z)) k (drR (M 50) x z))) := by
  refine Ct.at RX7 rfl (by decide +kernel) (Nat.le_of_ble_eq_true rfl) [some (.inr (7, 0, 0, 0)), some (.inl x), some (.inl z)] rfl (fun G => ?_)
  refine a_al_0_3 (pc' := 1) dX7_door_0 rfl ?_
  refine k_VV (pc' := 4) (ct_X7_hold _) cw_X7_117 mi_X7_hold se_X7_hold rfl rfl rfl rfl (by decide) (by decide) (Nat.le_of_ble_eq_true rfl) rfl dX7_door_1 rfl ?_
  refine a_al_0_3 (pc' := 5) dX7_door_4 rfl ?_
  refine a_al_0_3 (pc' := 6) dX7_door_5 rfl ?_
  refine a_il_1_3 (pc' := 7) dX7_door_6 rfl ?_
  refine a_il_2_3 (pc' := 8) dX7_door_7 rfl ?_
  refine k_VI (pc' := 11) (ct_X7_doors hn hm _ _ _ (by rw [hM_ne _ (by decide)]; exact h0) (by rw [hM_ne _ (by decide)]; exact h1)) cw_X7_135 mi_X7_doors se_X7_doors rfl rfl rfl rfl (by decide) (by decide) (Nat.le_of_ble_eq_true rfl) rfl dX7_door_8 rfl ?_
  refine k_VI (pc' := 14) (ct_X7_done hk _ _ (by simp (disch := decide) only [wr_rne, setR_same, setR_ne, hM_ne]; exact h6)) cw_X7_129 mi_X7_done se_X7_done rfl rfl rfl rfl (by decide) (by decide) (Nat.le_of_ble_eq_true rfl) rfl dX7_door_11 rfl ?_
  refine a_iret dX7_door_14 rfl rfl ?_
  refine fIM ?_ ?_ <;> rw [hM_ne _ (by decide)]
set_option maxRecDepth 20000 in
set_option maxHeartbeats 4000000 in
theorem ct_X7_deliver {k : Nat} (hk : k ≤ 6) {np : Nat} (hm : np ≤ 12) (x : Int32) (M : Mm) (h6 : M 60 0 = nI k) (h1 : M 50 1 = nI np) (hvo : vOK (M 50)) : Ct yX7_deliver cX7_deliver 2 (some .int) 3 64 [.inr (7, 0, 0, 0), .inl x] M (RI (dlR (M 50) x) (doM (setR (hM M) 50 (dlF (M 50) x)) k (dlR (M 50) x))) := by
  refine Ct.at RX7 rfl (by decide +kernel) (Nat.le_of_ble_eq_true rfl) [some (.inr (7, 0, 0, 0)), some (.inl x)] rfl (fun G => ?_)
  refine a_al_0_2 (pc' := 1) dX7_deliver_0 rfl ?_
  refine k_VV (pc' := 4) (ct_X7_hold _) cw_X7_117 mi_X7_hold se_X7_hold rfl rfl rfl rfl (by decide) (by decide) (Nat.le_of_ble_eq_true rfl) rfl dX7_deliver_1 rfl ?_
  refine a_al_0_2 (pc' := 5) dX7_deliver_4 rfl ?_
  refine a_al_0_2 (pc' := 6) dX7_deliver_5 rfl ?_
  refine a_il_1_2 (pc' := 7) dX7_deliver_6 rfl ?_
  refine k_VI (pc' := 10) (ct_X7_delivers hm _ _ (by rw [hM_ne _ (by decide)]; exact h1) (by rw [hM_ne _ (by decide)]; exact hvo)) cw_X7_141 mi_X7_delivers se_X7_delivers rfl rfl rfl rfl (by decide) (by decide) (Nat.le_of_ble_eq_true rfl) rfl dX7_deliver_7 rfl ?_
  refine k_VI (pc' := 13) (ct_X7_done hk _ _ (by simp (disch := decide) only [wr_rne, setR_same, setR_ne, hM_ne]; exact h6)) cw_X7_129 mi_X7_done se_X7_done rfl rfl rfl rfl (by decide) (by decide) (Nat.le_of_ble_eq_true rfl) rfl dX7_deliver_10 rfl ?_
  refine a_iret dX7_deliver_13 rfl rfl ?_
  refine fIM ?_ ?_ <;> rw [hM_ne _ (by decide)]
set_option maxRecDepth 20000 in
set_option maxHeartbeats 4000000 in
theorem ct_X7_pass {k : Nat} (hk : k ≤ 6) {nv np t : Nat} (hn : nv ≤ 3) (hm : np ≤ 12) (ht : t ≤ 600) (x : Int32) (M : Mm) (h6 : M 60 0 = nI k) (h0 : M 50 0 = nI nv) (h1 : M 50 1 = nI np) (hg : ∃ T, Good (M 50) t T) (hr : M 60 1 = nI 1) : Ct yX7_pass cX7_pass 2 (some .int) 7 163 [.inr (7, 0, 0, 0), .inl x] M (RI (mpsR (hM M) x) (doM (mpsM (hM M) x) k (mpsR (hM M) x))) := by
  refine Ct.at RX7 rfl (by decide +kernel) (Nat.le_of_ble_eq_true rfl) [some (.inr (7, 0, 0, 0)), some (.inl x)] rfl (fun G => ?_)
  refine a_al_0_2 (pc' := 1) dX7_pass_0 rfl ?_
  refine k_VV (pc' := 4) (ct_X7_hold _) cw_X7_117 mi_X7_hold se_X7_hold rfl rfl rfl rfl (by decide) (by decide) (Nat.le_of_ble_eq_true rfl) rfl dX7_pass_1 rfl ?_
  refine a_al_0_2 (pc' := 5) dX7_pass_4 rfl ?_
  refine a_al_0_2 (pc' := 6) dX7_pass_5 rfl ?_
  refine a_il_1_2 (pc' := 7) dX7_pass_6 rfl ?_
  refine k_VI (pc' := 10) (ct_X7_passes hn hm ht _ _ (by rw [hM_ne _ (by decide)]; exact h0) (by rw [hM_ne _ (by decide)]; exact h1) (by rw [hM_ne _ (by decide)]; exact hg) (by rw [hM_ne _ (by decide)]; exact hr)) cw_X7_138 mi_X7_passes se_X7_passes rfl rfl rfl rfl (by decide) (by decide) (Nat.le_of_ble_eq_true rfl) rfl dX7_pass_7 rfl ?_
  refine k_VI (pc' := 13) (ct_X7_done hk _ _ (by rw [mpsM_ne _ _ (by decide) (by decide), hM_ne _ (by decide)]; exact h6)) cw_X7_129 mi_X7_done se_X7_done rfl rfl rfl rfl (by decide) (by decide) (Nat.le_of_ble_eq_true rfl) rfl dX7_pass_10 rfl ?_
  refine a_iret dX7_pass_13 rfl rfl ?_
  exact fIM rfl rfl
set_option maxRecDepth 20000 in
set_option maxHeartbeats 4000000 in
theorem ct_X7_setVan {k : Nat} (hk : k ≤ 6) {nv : Nat} (hn : nv ≤ 3) (x sp c : Int32) (M : Mm) (h6 : M 60 0 = nI k) (h0 : M 50 0 = nI nv) : Ct yX7_setVan cX7_setVan 5 (some .int) 2 43 [.inr (7, 0, 0, 0), .inl x, .inl sp, .inl c] M (RI (vanR (M 50) x sp c) (mE M k (hvS (M 50) x && coldS sp c) (vanF (M 50) x sp c))) := by
  refine Ct.at RX7 rfl (by decide +kernel) (Nat.le_of_ble_eq_true rfl) [some (.inr (7, 0, 0, 0)), some (.inl x), some (.inl sp), some (.inl c), none] rfl (fun G => ?_)
  refine a_al_0_5 (pc' := 1) dX7_setVan_0 rfl ?_
  refine a_il_1_5 (pc' := 2) dX7_setVan_1 rfl ?_
  refine k_VI (pc' := 5) (ct_X7_isVan (by omega) _ _ (by assumption)) cw_X7_88 mi_X7_isVan se_X7_isVan rfl rfl rfl rfl (by decide) (by decide) (Nat.le_of_ble_eq_true rfl) rfl dX7_setVan_2 rfl ?_
  refine a_ifB_eq (pc' := 8) (tgt := 16) dX7_setVan_5 (by decide) rfl (fun c_5 => ?_) (fun c_5 => ?_)
  · refine a_ldc (pc' := 18) dX7_setVan_16 cn_X7_92 rfl ?_
    refine a_iret dX7_setVan_18 rfl rfl ?_
    exact fIM (by simp [vanR, vanF, c_5, -Int32.not_le, -Int32.not_lt]) (by simp [mE, vanR, vanF, c_5, -Int32.not_le, -Int32.not_lt])
  · refine a_il_2_5 (pc' := 9) dX7_setVan_8 rfl ?_
    refine a_il_3_5 (pc' := 10) dX7_setVan_9 rfl ?_
    refine k_SI (pc' := 13) (ct_X7_isCold _ _ _) cw_X7_114 ms_X7_isCold rfl (by decide) (by decide) (Nat.le_of_ble_eq_true rfl) rfl dX7_setVan_10 rfl ?_
    refine a_ifB_ne (pc' := 16) (tgt := 19) dX7_setVan_13 (by decide) rfl (fun c_13 => ?_) (fun c_13 => ?_)
    · obtain ⟨v, hv, rfl⟩ := hvS_nI c_5 h0 (by omega)
      have hcl : vN (nI v) = v := vN_nI (by omega)
      refine a_al_0_5 (pc' := 20) dX7_setVan_19 rfl ?_
      refine k_VV (pc' := 23) (ct_X7_hold _) cw_X7_117 mi_X7_hold se_X7_hold rfl rfl rfl rfl (by decide) (by decide) (Nat.le_of_ble_eq_true rfl) rfl dX7_setVan_20 rfl ?_
      refine a_al_0_5 (pc' := 24) dX7_setVan_23 rfl ?_
      refine a_il_1_5 (pc' := 25) dX7_setVan_24 rfl ?_
      refine a_iconst (v := nI 0) (pc' := 26) dX7_setVan_25 (by decide) rfl ?_
      refine k_VI (pc' := 29) (ct_X7_of (by omega) (by omega) _) cw_X7_65 mi_X7_of se_X7_of rfl rfl rfl rfl (by decide) (by decide) (Nat.le_of_ble_eq_true rfl) rfl dX7_setVan_26 rfl ?_
      refine a_is_4_5 (pc' := 31) dX7_setVan_29 rfl ?_
      refine a_al_0_5 (pc' := 32) dX7_setVan_31 rfl ?_
      refine gf_7_0 (pc' := 35) fl_X7_7 dX7_setVan_32 rfl ?_
      refine a_bipush (v := nI 6) (pc' := 37) dX7_setVan_35 (by decide) rfl ?_
      refine a_bipush (v := nI 19) (pc' := 39) dX7_setVan_37 (by decide) rfl ?_
      refine a_il_1_5 (pc' := 40) dX7_setVan_39 rfl ?_
      refine a_imulN (pc' := 41) dX7_setVan_40 rfl ?_
      refine a_iaddN (pc' := 42) dX7_setVan_41 rfl ?_
      refine a_iconst (v := nI 0) (pc' := 43) dX7_setVan_42 (by decide) rfl ?_
      refine a_iaddN (pc' := 44) dX7_setVan_43 rfl ?_
      refine a_il_2_5 (pc' := 45) dX7_setVan_44 rfl ?_
      refine a_iastN (pc' := 46) rfl (by omega) (by decide) dX7_setVan_45 rfl ?_
      refine a_al_0_5 (pc' := 47) dX7_setVan_46 rfl ?_
      refine gf_7_0 (pc' := 50) fl_X7_7 dX7_setVan_47 rfl ?_
      refine a_bipush (v := nI 6) (pc' := 52) dX7_setVan_50 (by decide) rfl ?_
      refine a_bipush (v := nI 19) (pc' := 54) dX7_setVan_52 (by decide) rfl ?_
      refine a_il_1_5 (pc' := 55) dX7_setVan_54 rfl ?_
      refine a_imulN (pc' := 56) dX7_setVan_55 rfl ?_
      refine a_iaddN (pc' := 57) dX7_setVan_56 rfl ?_
      refine a_iconst (v := nI 1) (pc' := 58) dX7_setVan_57 (by decide) rfl ?_
      refine a_iaddN (pc' := 59) dX7_setVan_58 rfl ?_
      refine a_il_3_5 (pc' := 60) dX7_setVan_59 rfl ?_
      refine a_iastN (pc' := 61) rfl (by omega) (by decide) dX7_setVan_60 rfl ?_
      refine a_al_0_5 (pc' := 62) dX7_setVan_61 rfl ?_
      refine a_il_4_5 (pc' := 64) dX7_setVan_62 rfl ?_
      refine k_VI (pc' := 67) (ct_X7_ends hk _ _ (by simp (disch := decide) only [wr_rne, setR_same, setR_ne, hM_ne]; exact h6)) cw_X7_111 mi_X7_ends se_X7_ends rfl rfl rfl rfl (by decide) (by decide) (Nat.le_of_ble_eq_true rfl) rfl dX7_setVan_64 rfl ?_
      refine a_iret dX7_setVan_67 rfl rfl ?_
      refine fIM (by simp (disch := decide) only [wr_rne, setR_same, setR_ne, hM_ne]; simp [vanR, hcl, c_5, c_13, -Int32.not_le, -Int32.not_lt]) ?_
      rw [mE, if_pos (by simp [vanR, hcl, c_5, c_13, -Int32.not_le, -Int32.not_lt])]
      refine congrArg (fun X => endM X k) ?_
      simp (disch := decide) only [wr_eq, setR_same, setR_setR, hM_ne]
      refine congrArg (setR (hM M) 50) ?_
      simp [vanF, hcl, c_5, c_13]
    · refine a_ldc (pc' := 18) dX7_setVan_16 cn_X7_92 rfl ?_
      refine a_iret dX7_setVan_18 rfl rfl ?_
      exact fIM (by simp [vanR, vanF, c_5, c_13, -Int32.not_le, -Int32.not_lt]) (by simp [mE, vanR, vanF, c_5, c_13, -Int32.not_le, -Int32.not_lt])
set_option maxRecDepth 20000 in
set_option maxHeartbeats 4000000 in
theorem ct_X7_setProbe {k : Nat} (hk : k ≤ 6) {nv : Nat} (hn : nv ≤ 3) (x z m y : Int32) (M : Mm) (h6 : M 60 0 = nI k) (h0 : M 50 0 = nI nv) : Ct yX7_setProbe cX7_setProbe 6 (some .int) 2 44 [.inr (7, 0, 0, 0), .inl x, .inl z, .inl m, .inl y] M (RI (prbR (M 50) x z m y) (mE M k (hzS (M 50) x z && modeS m y) (prbF (M 50) x z m y))) := by
  refine Ct.at RX7 rfl (by decide +kernel) (Nat.le_of_ble_eq_true rfl) [some (.inr (7, 0, 0, 0)), some (.inl x), some (.inl z), some (.inl m), some (.inl y), none] rfl (fun G => ?_)
  refine a_al_0_6 (pc' := 1) dX7_setProbe_0 rfl ?_
  refine a_il_1_6 (pc' := 2) dX7_setProbe_1 rfl ?_
  refine k_VI (pc' := 5) (ct_X7_isVan (by omega) _ _ (by assumption)) cw_X7_88 mi_X7_isVan se_X7_isVan rfl rfl rfl rfl (by decide) (by decide) (Nat.le_of_ble_eq_true rfl) rfl dX7_setProbe_2 rfl ?_
  refine a_ifB_eq (pc' := 8) (tgt := 24) dX7_setProbe_5 (by decide) rfl (fun c_5 => ?_) (fun c_5 => ?_)
  · refine a_ldc (pc' := 26) dX7_setProbe_24 cn_X7_92 rfl ?_
    refine a_iret dX7_setProbe_26 rfl rfl ?_
    exact fIM (by simp [prbR, prbF, hzS, c_5, -Int32.not_le, -Int32.not_lt]) (by simp [mE, prbR, prbF, hzS, c_5, -Int32.not_le, -Int32.not_lt])
  · refine a_il_2_6 (pc' := 9) dX7_setProbe_8 rfl ?_
    refine k_SI (pc' := 12) (ct_X7_isZone _ _) cw_X7_108 ms_X7_isZone rfl (by decide) (by decide) (Nat.le_of_ble_eq_true rfl) rfl dX7_setProbe_9 rfl ?_
    refine a_ifB_eq (pc' := 15) (tgt := 24) dX7_setProbe_12 (by decide) rfl (fun c_12 => ?_) (fun c_12 => ?_)
    · refine a_ldc (pc' := 26) dX7_setProbe_24 cn_X7_92 rfl ?_
      refine a_iret dX7_setProbe_26 rfl rfl ?_
      exact fIM (by simp [prbR, prbF, hzS, c_5, c_12, -Int32.not_le, -Int32.not_lt]) (by simp [mE, prbR, prbF, hzS, c_5, c_12, -Int32.not_le, -Int32.not_lt])
    · refine a_il_3_6 (pc' := 16) dX7_setProbe_15 rfl ?_
      refine a_il_4_6 (pc' := 18) dX7_setProbe_16 rfl ?_
      refine k_SI (pc' := 21) (ct_X7_isMode _ _ _) cw_X7_123 ms_X7_isMode rfl (by decide) (by decide) (Nat.le_of_ble_eq_true rfl) rfl dX7_setProbe_18 rfl ?_
      refine a_ifB_ne (pc' := 24) (tgt := 27) dX7_setProbe_21 (by decide) rfl (fun c_21 => ?_) (fun c_21 => ?_)
      · obtain ⟨v, z, hv, hz, rfl, rfl⟩ := hzS_nI (show hzS (M 50) x z = true by simp [hzS, c_5, c_12]) h0 (by omega)
        have hcl : vN (nI v) = v := vN_nI (by omega)
        have hcz : vN (nI z) = z := vN_nI (by omega)
        refine a_al_0_6 (pc' := 28) dX7_setProbe_27 rfl ?_
        refine k_VV (pc' := 31) (ct_X7_hold _) cw_X7_117 mi_X7_hold se_X7_hold rfl rfl rfl rfl (by decide) (by decide) (Nat.le_of_ble_eq_true rfl) rfl dX7_setProbe_28 rfl ?_
        refine a_al_0_6 (pc' := 32) dX7_setProbe_31 rfl ?_
        refine a_il_1_6 (pc' := 33) dX7_setProbe_32 rfl ?_
        refine a_il_2_6 (pc' := 34) dX7_setProbe_33 rfl ?_
        refine a_iconst (v := nI 1) (pc' := 35) dX7_setProbe_34 (by decide) rfl ?_
        refine k_VI (pc' := 38) (ct_X7_at (by omega) (by omega) (by omega) _) cw_X7_55 mi_X7_at se_X7_at rfl rfl rfl rfl (by decide) (by decide) (Nat.le_of_ble_eq_true rfl) rfl dX7_setProbe_35 rfl ?_
        refine a_is_5_6 (pc' := 40) dX7_setProbe_38 rfl ?_
        refine a_al_0_6 (pc' := 41) dX7_setProbe_40 rfl ?_
        refine gf_7_0 (pc' := 44) fl_X7_7 dX7_setProbe_41 rfl ?_
        refine a_il_1_6 (pc' := 45) dX7_setProbe_44 rfl ?_
        refine a_il_2_6 (pc' := 46) dX7_setProbe_45 rfl ?_
        refine k_SI (pc' := 49) (ct_X7_zoneSpot _) cw_X7_47 ms_X7_zoneSpot rfl (by decide) (by decide) (Nat.le_of_ble_eq_true rfl) rfl dX7_setProbe_46 rfl ?_
        refine a_iconst (v := nI 1) (pc' := 50) dX7_setProbe_49 (by decide) rfl ?_
        refine a_iaddN (pc' := 51) dX7_setProbe_50 rfl ?_
        refine a_il_3_6 (pc' := 52) dX7_setProbe_51 rfl ?_
        refine a_iastN (pc' := 53) rfl (by omega) (by decide) dX7_setProbe_52 rfl ?_
        refine a_al_0_6 (pc' := 54) dX7_setProbe_53 rfl ?_
        refine gf_7_0 (pc' := 57) fl_X7_7 dX7_setProbe_54 rfl ?_
        refine a_il_1_6 (pc' := 58) dX7_setProbe_57 rfl ?_
        refine a_il_2_6 (pc' := 59) dX7_setProbe_58 rfl ?_
        refine k_SI (pc' := 62) (ct_X7_zoneSpot _) cw_X7_47 ms_X7_zoneSpot rfl (by decide) (by decide) (Nat.le_of_ble_eq_true rfl) rfl dX7_setProbe_59 rfl ?_
        refine a_iconst (v := nI 2) (pc' := 63) dX7_setProbe_62 (by decide) rfl ?_
        refine a_iaddN (pc' := 64) dX7_setProbe_63 rfl ?_
        refine a_il_4_6 (pc' := 66) dX7_setProbe_64 rfl ?_
        refine a_iastN (pc' := 67) rfl (by omega) (by decide) dX7_setProbe_66 rfl ?_
        refine a_al_0_6 (pc' := 68) dX7_setProbe_67 rfl ?_
        refine a_il_5_6 (pc' := 70) dX7_setProbe_68 rfl ?_
        refine k_VI (pc' := 73) (ct_X7_ends hk _ _ (by simp (disch := decide) only [wr_rne, setR_same, setR_ne, hM_ne]; exact h6)) cw_X7_111 mi_X7_ends se_X7_ends rfl rfl rfl rfl (by decide) (by decide) (Nat.le_of_ble_eq_true rfl) rfl dX7_setProbe_70 rfl ?_
        refine a_iret dX7_setProbe_73 rfl rfl ?_
        refine fIM (by simp (disch := decide) only [wr_rne, setR_same, setR_ne, hM_ne]; simp [prbR, hzS, hcl, hcz, c_5, c_12, c_21, -Int32.not_le, -Int32.not_lt]) ?_
        rw [mE, if_pos (by simp [prbR, hzS, hcl, hcz, c_5, c_12, c_21, -Int32.not_le, -Int32.not_lt])]
        refine congrArg (fun X => endM X k) ?_
        simp (disch := decide) only [wr_eq, setR_same, setR_setR, hM_ne]
        refine congrArg (setR (hM M) 50) ?_
        simp [prbF, hzS, hcl, hcz, c_5, c_12, c_21]
      · refine a_ldc (pc' := 26) dX7_setProbe_24 cn_X7_92 rfl ?_
        refine a_iret dX7_setProbe_26 rfl rfl ?_
        exact fIM (by simp [prbR, prbF, hzS, c_5, c_12, c_21, -Int32.not_le, -Int32.not_lt]) (by simp [mE, prbR, prbF, hzS, c_5, c_12, c_21, -Int32.not_le, -Int32.not_lt])
