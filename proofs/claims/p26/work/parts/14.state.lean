def bcS (x : Int32) : Int32 :=
  let a := x - ((x.toUInt32 >>> ((nI 1).toUInt32 &&& Int32.toUInt32 31)).toInt32 &&& 1431655765)
  let b := (a &&& 858993459) + ((a.toUInt32 >>> ((nI 2).toUInt32 &&& Int32.toUInt32 31)).toInt32 &&& 858993459)
  let c := (b + (b.toUInt32 >>> ((nI 4).toUInt32 &&& Int32.toUInt32 31)).toInt32) &&& 252645135
  let d := c + (c.toUInt32 >>> ((nI 8).toUInt32 &&& Int32.toUInt32 31)).toInt32
  let e := d + (d.toUInt32 >>> ((nI 16).toUInt32 &&& Int32.toUInt32 31)).toInt32
  e &&& nI 63
theorem nI_1x : nI 1 = 1 := rfl
set_option maxRecDepth 20000 in
set_option maxHeartbeats 4000000 in
theorem ct_J6_bitCount_0f7a4 (x : Int32) (M : Mm) : Ct yJ6_bitCount_0f7a4 cJ6_bitCount_0f7a4 1 (some .int) 0 0 [.inl x] M (RI (bcS x) M) := by
  refine Ct.at RJ6 rfl (by decide +kernel) (Nat.le_of_ble_eq_true rfl) [some (.inl x)] rfl (fun G => ?_)
  refine a_il_0_1 (pc' := 1) dJ6_bitCount_0f7a4_0 rfl ?_
  refine a_il_0_1 (pc' := 2) dJ6_bitCount_0f7a4_1 rfl ?_
  refine a_iconst (v := nI 1) (pc' := 3) dJ6_bitCount_0f7a4_2 (by decide) rfl ?_
  refine a_iushr (pc' := 4) dJ6_bitCount_0f7a4_3 rfl ?_
  refine a_ldc_w (pc' := 7) dJ6_bitCount_0f7a4_4 cn_J6_265 rfl ?_
  refine a_iand (pc' := 8) dJ6_bitCount_0f7a4_7 rfl ?_
  refine a_isub (pc' := 9) dJ6_bitCount_0f7a4_8 rfl ?_
  refine a_is_0_1 (pc' := 10) dJ6_bitCount_0f7a4_9 rfl ?_
  refine a_il_0_1 (pc' := 11) dJ6_bitCount_0f7a4_10 rfl ?_
  refine a_ldc_w (pc' := 14) dJ6_bitCount_0f7a4_11 cn_J6_266 rfl ?_
  refine a_iand (pc' := 15) dJ6_bitCount_0f7a4_14 rfl ?_
  refine a_il_0_1 (pc' := 16) dJ6_bitCount_0f7a4_15 rfl ?_
  refine a_iconst (v := nI 2) (pc' := 17) dJ6_bitCount_0f7a4_16 (by decide) rfl ?_
  refine a_iushr (pc' := 18) dJ6_bitCount_0f7a4_17 rfl ?_
  refine a_ldc_w (pc' := 21) dJ6_bitCount_0f7a4_18 cn_J6_266 rfl ?_
  refine a_iand (pc' := 22) dJ6_bitCount_0f7a4_21 rfl ?_
  refine a_iadd (pc' := 23) dJ6_bitCount_0f7a4_22 rfl ?_
  refine a_is_0_1 (pc' := 24) dJ6_bitCount_0f7a4_23 rfl ?_
  refine a_il_0_1 (pc' := 25) dJ6_bitCount_0f7a4_24 rfl ?_
  refine a_il_0_1 (pc' := 26) dJ6_bitCount_0f7a4_25 rfl ?_
  refine a_iconst (v := nI 4) (pc' := 27) dJ6_bitCount_0f7a4_26 (by decide) rfl ?_
  refine a_iushr (pc' := 28) dJ6_bitCount_0f7a4_27 rfl ?_
  refine a_iadd (pc' := 29) dJ6_bitCount_0f7a4_28 rfl ?_
  refine a_ldc_w (pc' := 32) dJ6_bitCount_0f7a4_29 cn_J6_267 rfl ?_
  refine a_iand (pc' := 33) dJ6_bitCount_0f7a4_32 rfl ?_
  refine a_is_0_1 (pc' := 34) dJ6_bitCount_0f7a4_33 rfl ?_
  refine a_il_0_1 (pc' := 35) dJ6_bitCount_0f7a4_34 rfl ?_
  refine a_il_0_1 (pc' := 36) dJ6_bitCount_0f7a4_35 rfl ?_
  refine a_bipush (v := nI 8) (pc' := 38) dJ6_bitCount_0f7a4_36 (by decide) rfl ?_
  refine a_iushr (pc' := 39) dJ6_bitCount_0f7a4_38 rfl ?_
  refine a_iadd (pc' := 40) dJ6_bitCount_0f7a4_39 rfl ?_
  refine a_is_0_1 (pc' := 41) dJ6_bitCount_0f7a4_40 rfl ?_
  refine a_il_0_1 (pc' := 42) dJ6_bitCount_0f7a4_41 rfl ?_
  refine a_il_0_1 (pc' := 43) dJ6_bitCount_0f7a4_42 rfl ?_
  refine a_bipush (v := nI 16) (pc' := 45) dJ6_bitCount_0f7a4_43 (by decide) rfl ?_
  refine a_iushr (pc' := 46) dJ6_bitCount_0f7a4_45 rfl ?_
  refine a_iadd (pc' := 47) dJ6_bitCount_0f7a4_46 rfl ?_
  refine a_is_0_1 (pc' := 48) dJ6_bitCount_0f7a4_47 rfl ?_
  refine a_il_0_1 (pc' := 49) dJ6_bitCount_0f7a4_48 rfl ?_
  refine a_bipush (v := nI 63) (pc' := 51) dJ6_bitCount_0f7a4_49 (by decide) rfl ?_
  refine a_iand (pc' := 52) dJ6_bitCount_0f7a4_51 rfl ?_
  refine a_iret dJ6_bitCount_0f7a4_52 rfl rfl ?_
  exact fI rfl
set_option maxRecDepth 20000 in
set_option maxHeartbeats 4000000 in
theorem ct_X3_hasVan {q : Nat} (hq : q < 9) (x : Int32) (M : Mm) : Ct yX3_hasVan cX3_hasVan 2 (some .boolean) 0 0 [.inr (3, q, 0, 0), .inl x] M (RT (hvS (M q) x) M) := by
  refine Ct.at RX3 rfl (by decide +kernel) (Nat.le_of_ble_eq_true rfl) [some (.inr (3, q, 0, 0)), some (.inl x)] rfl (fun G => ?_)
  refine a_il_1_2 (pc' := 1) dX3_hasVan_0 rfl ?_
  refine a_if_lt (pc' := 4) (tgt := 16) dX3_hasVan_1 (by decide) rfl (fun c_1 => ?_) (fun c_1 => ?_)
  · refine a_iconst (v := nI 0) (pc' := 17) dX3_hasVan_16 (by decide) rfl ?_
    refine a_iret dX3_hasVan_17 rfl rfl ?_
    exact fB0 (by simp [hvS, c_1])
  · refine a_il_1_2 (pc' := 5) dX3_hasVan_4 rfl ?_
    refine a_al_0_2 (pc' := 6) dX3_hasVan_5 rfl ?_
    refine gf_3_4 (pc' := 9) (by omega) fl_X3_38 dX3_hasVan_6 rfl ?_
    refine a_icmp_ge (pc' := 12) (tgt := 16) dX3_hasVan_9 (by decide) rfl (fun c_9 => ?_) (fun c_9 => ?_)
    · refine a_iconst (v := nI 0) (pc' := 17) dX3_hasVan_16 (by decide) rfl ?_
      refine a_iret dX3_hasVan_17 rfl rfl ?_
      exact fB0 (by simp [hvS, c_1, c_9])
    · refine a_iconst (v := nI 1) (pc' := 13) dX3_hasVan_12 (by decide) rfl ?_
      refine a_goto (pc' := 17) dX3_hasVan_13 (by decide) ?_
      refine a_iret dX3_hasVan_17 rfl rfl ?_
      exact fB1 (by simp [hvS, c_1, c_9])
set_option maxRecDepth 20000 in
set_option maxHeartbeats 4000000 in
theorem ct_X3_hasPallet {q : Nat} (hq : q < 9) (x : Int32) (M : Mm) : Ct yX3_hasPallet cX3_hasPallet 2 (some .boolean) 0 0 [.inr (3, q, 0, 0), .inl x] M (RT (hpS (M q) x) M) := by
  refine Ct.at RX3 rfl (by decide +kernel) (Nat.le_of_ble_eq_true rfl) [some (.inr (3, q, 0, 0)), some (.inl x)] rfl (fun G => ?_)
  refine a_il_1_2 (pc' := 1) dX3_hasPallet_0 rfl ?_
  refine a_if_lt (pc' := 4) (tgt := 16) dX3_hasPallet_1 (by decide) rfl (fun c_1 => ?_) (fun c_1 => ?_)
  · refine a_iconst (v := nI 0) (pc' := 17) dX3_hasPallet_16 (by decide) rfl ?_
    refine a_iret dX3_hasPallet_17 rfl rfl ?_
    exact fB0 (by simp [hpS, c_1])
  · refine a_il_1_2 (pc' := 5) dX3_hasPallet_4 rfl ?_
    refine a_al_0_2 (pc' := 6) dX3_hasPallet_5 rfl ?_
    refine gf_3_5 (pc' := 9) (by omega) fl_X3_41 dX3_hasPallet_6 rfl ?_
    refine a_icmp_ge (pc' := 12) (tgt := 16) dX3_hasPallet_9 (by decide) rfl (fun c_9 => ?_) (fun c_9 => ?_)
    · refine a_iconst (v := nI 0) (pc' := 17) dX3_hasPallet_16 (by decide) rfl ?_
      refine a_iret dX3_hasPallet_17 rfl rfl ?_
      exact fB0 (by simp [hpS, c_1, c_9])
    · refine a_iconst (v := nI 1) (pc' := 13) dX3_hasPallet_12 (by decide) rfl ?_
      refine a_goto (pc' := 17) dX3_hasPallet_13 (by decide) ?_
      refine a_iret dX3_hasPallet_17 rfl rfl ?_
      exact fB1 (by simp [hpS, c_1, c_9])
set_option maxRecDepth 20000 in
set_option maxHeartbeats 4000000 in
theorem ct_X3_hasZone {q : Nat} (hq : q < 9) (x z : Int32) (M : Mm) : Ct yX3_hasZone cX3_hasZone 3 (some .boolean) 1 22 [.inr (3, q, 0, 0), .inl x, .inl z] M (RT (hzS (M q) x z) M) := by
  refine Ct.at RX3 rfl (by decide +kernel) (Nat.le_of_ble_eq_true rfl) [some (.inr (3, q, 0, 0)), some (.inl x), some (.inl z)] rfl (fun G => ?_)
  refine a_al_0_3 (pc' := 1) dX3_hasZone_0 rfl ?_
  refine a_il_1_3 (pc' := 2) dX3_hasZone_1 rfl ?_
  refine k_VI (pc' := 5) (ct_X3_hasVan (by omega) _ _) cw_X3_51 mi_X3_hasVan se_X3_hasVan (ok3 (by omega)) rfl rfl rfl (by decide) (by decide) (Nat.le_of_ble_eq_true rfl) rfl dX3_hasZone_2 rfl ?_
  refine a_ifB_eq (pc' := 8) (tgt := 21) dX3_hasZone_5 (by decide) rfl (fun c_5 => ?_) (fun c_5 => ?_)
  · refine a_iconst (v := nI 0) (pc' := 22) dX3_hasZone_21 (by decide) rfl ?_
    refine a_iret dX3_hasZone_22 rfl rfl ?_
    exact fB0 (by simp [hzS, c_5])
  · refine a_il_2_3 (pc' := 9) dX3_hasZone_8 rfl ?_
    refine a_iconst (v := nI 0) (pc' := 10) dX3_hasZone_9 (by decide) rfl ?_
    refine a_iconst (v := nI 2) (pc' := 11) dX3_hasZone_10 (by decide) rfl ?_
    refine k_NI (pc' := 14) (ct_X6_isWithin _ _ _ _) cw_X3_55 ms_X6_isWithin rfl (by decide) (by decide) (Nat.le_of_ble_eq_true rfl) rfl dX3_hasZone_11 rfl ?_
    refine a_ifB_eq (pc' := 17) (tgt := 21) dX3_hasZone_14 (by decide) rfl (fun c_14 => ?_) (fun c_14 => ?_)
    · refine a_iconst (v := nI 0) (pc' := 22) dX3_hasZone_21 (by decide) rfl ?_
      refine a_iret dX3_hasZone_22 rfl rfl ?_
      exact fB0 (by simp [hzS, c_5, c_14])
    · refine a_iconst (v := nI 1) (pc' := 18) dX3_hasZone_17 (by decide) rfl ?_
      refine a_goto (pc' := 22) dX3_hasZone_18 (by decide) ?_
      refine a_iret dX3_hasZone_22 rfl rfl ?_
      exact fB1 (by simp [hzS, c_5, c_14])
set_option maxRecDepth 20000 in
set_option maxHeartbeats 4000000 in
theorem lp_X3_palletsIn {G : Gl} {Φ : Option OV → Mm → Prop} {q np : Nat} (hq : q < 9) (hn : np ≤ 12) (x : Int32) (M : Mm) (h1 : M q 1 = nI np) : ∀ (n p : Nat) (acc : Int32), p + n = np → (Φ (some (.inl (pinL (M q) x n p acc))) M) → AW G cX3_palletsIn RX3 4 1 21 (some .int) Φ 4 [some (.inr (3, q, 0, 0)), some (.inl x), some (.inl acc), some (.inl (nI p))] [] M := by
  intro n
  induction n with
  | zero =>
    intro p acc he  hΦ
    refine a_il_3_4 (pc' := 5) dX3_palletsIn_4 rfl ?_
    refine a_al_0_4 (pc' := 6) dX3_palletsIn_5 rfl ?_
    refine gf_3_5 (pc' := 9) (by omega) fl_X3_41 dX3_palletsIn_6 rfl ?_
    rw [h1]
    refine a_icmp_ge (pc' := 12) (tgt := 37) dX3_palletsIn_9 (by decide) rfl (fun c_9 => ?_) (fun c_9 => absurd (nI_le (by omega) (by omega)) c_9)
    refine a_il_2_4 (pc' := 38) dX3_palletsIn_37 rfl ?_
    refine a_iret dX3_palletsIn_38 rfl rfl ?_
    exact hΦ
  | succ n ih =>
    intro p acc he  hΦ
    refine a_il_3_4 (pc' := 5) dX3_palletsIn_4 rfl ?_
    refine a_al_0_4 (pc' := 6) dX3_palletsIn_5 rfl ?_
    refine gf_3_5 (pc' := 9) (by omega) fl_X3_41 dX3_palletsIn_6 rfl ?_
    rw [h1]
    refine a_icmp_ge (pc' := 12) (tgt := 37) dX3_palletsIn_9 (by decide) rfl (fun c_9 => absurd c_9 (nI_ge (by omega) (by omega))) (fun c_9 => ?_)
    refine a_al_0_4 (pc' := 13) dX3_palletsIn_12 rfl ?_
    refine gf_3_7 (pc' := 16) (by omega) fl_X3_29 dX3_palletsIn_13 rfl ?_
    refine a_il_3_4 (pc' := 17) dX3_palletsIn_16 rfl ?_
    refine aN_10 (j := p) (pc' := 18) (by omega) (by omega) dX3_palletsIn_17 rfl ?_
    refine a_il_1_4 (pc' := 19) dX3_palletsIn_18 rfl ?_
    refine k_VI (pc' := 22) (ct_X1_isIn (by omega) (by omega) _ _) cw_X3_69 mi_X1_isIn se_X1_isIn (ok1 (by omega) (by omega)) rfl rfl rfl (by decide) (by decide) (Nat.le_of_ble_eq_true rfl) rfl dX3_palletsIn_19 rfl ?_
    refine a_ifB_eq (pc' := 25) (tgt := 31) dX3_palletsIn_22 (by decide) rfl (fun c_22 => ?_) (fun c_22 => ?_)
    · refine a_iN_3_4 (m := p + 1) (pc' := 34) dX3_palletsIn_31 (nI_add _ _) rfl ?_
      refine a_goto (pc' := 4) dX3_palletsIn_34 (by decide) ?_
      exact ih (p + 1) _ (by omega) (by simpa [pinL, c_22] using hΦ)
    · refine a_il_2_4 (pc' := 26) dX3_palletsIn_25 rfl ?_
      refine a_iconst (v := nI 1) (pc' := 27) dX3_palletsIn_26 (by decide) rfl ?_
      refine a_il_3_4 (pc' := 28) dX3_palletsIn_27 rfl ?_
      refine a_ishl (pc' := 29) dX3_palletsIn_28 rfl ?_
      refine a_ior (pc' := 30) dX3_palletsIn_29 rfl ?_
      refine a_is_2_4 (pc' := 31) dX3_palletsIn_30 rfl ?_
      refine a_iN_3_4 (m := p + 1) (pc' := 34) dX3_palletsIn_31 (nI_add _ _) rfl ?_
      refine a_goto (pc' := 4) dX3_palletsIn_34 (by decide) ?_
      exact ih (p + 1) _ (by omega) (by simpa [pinL, c_22] using hΦ)
set_option maxRecDepth 20000 in
set_option maxHeartbeats 4000000 in
theorem ct_X3_palletsIn {q np : Nat} (hq : q < 9) (hn : np ≤ 12) (x : Int32) (M : Mm) (h1 : M q 1 = nI np) : Ct yX3_palletsIn cX3_palletsIn 4 (some .int) 1 21 [.inr (3, q, 0, 0), .inl x] M (RI (pinL (M q) x np 0 (nI 0)) M) := by
  refine Ct.at RX3 rfl (by decide +kernel) (Nat.le_of_ble_eq_true rfl) [some (.inr (3, q, 0, 0)), some (.inl x), none, none] rfl (fun G => ?_)
  refine a_iconst (v := nI 0) (pc' := 1) dX3_palletsIn_0 (by decide) rfl ?_
  refine a_is_2_4 (pc' := 2) dX3_palletsIn_1 rfl ?_
  refine a_iconst (v := nI 0) (pc' := 3) dX3_palletsIn_2 (by decide) rfl ?_
  refine a_is_3_4 (pc' := 4) dX3_palletsIn_3 rfl ?_
  exact lp_X3_palletsIn hq hn _ _ h1 np 0 _ (by omega) ⟨rfl, rfl⟩
set_option maxRecDepth 20000 in
set_option maxHeartbeats 4000000 in
theorem lp_X3_palletsInZone {G : Gl} {Φ : Option OV → Mm → Prop} {q np : Nat} (hq : q < 9) (hn : np ≤ 12) (x z : Int32) (M : Mm) (h1 : M q 1 = nI np) : ∀ (n p : Nat) (acc : Int32), p + n = np → (Φ (some (.inl (pzL (M q) x z n p acc))) M) → AW G cX3_palletsInZone RX3 5 1 21 (some .int) Φ 5 [some (.inr (3, q, 0, 0)), some (.inl x), some (.inl z), some (.inl acc), some (.inl (nI p))] [] M := by
  intro n
  induction n with
  | zero =>
    intro p acc he  hΦ
    refine a_il_4_5 (pc' := 7) dX3_palletsInZone_5 rfl ?_
    refine a_al_0_5 (pc' := 8) dX3_palletsInZone_7 rfl ?_
    refine gf_3_5 (pc' := 11) (by omega) fl_X3_41 dX3_palletsInZone_8 rfl ?_
    rw [h1]
    refine a_icmp_ge (pc' := 14) (tgt := 51) dX3_palletsInZone_11 (by decide) rfl (fun c_11 => ?_) (fun c_11 => absurd (nI_le (by omega) (by omega)) c_11)
    refine a_il_3_5 (pc' := 52) dX3_palletsInZone_51 rfl ?_
    refine a_iret dX3_palletsInZone_52 rfl rfl ?_
    exact hΦ
  | succ n ih =>
    intro p acc he  hΦ
    refine a_il_4_5 (pc' := 7) dX3_palletsInZone_5 rfl ?_
    refine a_al_0_5 (pc' := 8) dX3_palletsInZone_7 rfl ?_
    refine gf_3_5 (pc' := 11) (by omega) fl_X3_41 dX3_palletsInZone_8 rfl ?_
    rw [h1]
    refine a_icmp_ge (pc' := 14) (tgt := 51) dX3_palletsInZone_11 (by decide) rfl (fun c_11 => absurd c_11 (nI_ge (by omega) (by omega))) (fun c_11 => ?_)
    refine a_al_0_5 (pc' := 15) dX3_palletsInZone_14 rfl ?_
    refine gf_3_7 (pc' := 18) (by omega) fl_X3_29 dX3_palletsInZone_15 rfl ?_
    refine a_il_4_5 (pc' := 20) dX3_palletsInZone_18 rfl ?_
    refine aN_10 (j := p) (pc' := 21) (by omega) (by omega) dX3_palletsInZone_20 rfl ?_
    refine a_il_1_5 (pc' := 22) dX3_palletsInZone_21 rfl ?_
    refine k_VI (pc' := 25) (ct_X1_isIn (by omega) (by omega) _ _) cw_X3_69 mi_X1_isIn se_X1_isIn (ok1 (by omega) (by omega)) rfl rfl rfl (by decide) (by decide) (Nat.le_of_ble_eq_true rfl) rfl dX3_palletsInZone_22 rfl ?_
    refine a_ifB_eq (pc' := 28) (tgt := 45) dX3_palletsInZone_25 (by decide) rfl (fun c_25 => ?_) (fun c_25 => ?_)
    · refine a_iN_4_5 (m := p + 1) (pc' := 48) dX3_palletsInZone_45 (nI_add _ _) rfl ?_
      refine a_goto (pc' := 5) dX3_palletsInZone_48 (by decide) ?_
      exact ih (p + 1) _ (by omega) (by simpa [pzL, c_25] using hΦ)
    · refine a_al_0_5 (pc' := 29) dX3_palletsInZone_28 rfl ?_
      refine gf_3_7 (pc' := 32) (by omega) fl_X3_29 dX3_palletsInZone_29 rfl ?_
      refine a_il_4_5 (pc' := 34) dX3_palletsInZone_32 rfl ?_
      refine aN_10 (j := p) (pc' := 35) (by omega) (by omega) dX3_palletsInZone_34 rfl ?_
      refine gf_1_1 (pc' := 38) (by omega) (by omega) fl_X3_72 dX3_palletsInZone_35 rfl ?_
      refine a_il_2_5 (pc' := 39) dX3_palletsInZone_38 rfl ?_
      refine a_icmp_ne (pc' := 42) (tgt := 45) dX3_palletsInZone_39 (by decide) rfl (fun c_39 => ?_) (fun c_39 => ?_)
      · refine a_iN_4_5 (m := p + 1) (pc' := 48) dX3_palletsInZone_45 (nI_add _ _) rfl ?_
        refine a_goto (pc' := 5) dX3_palletsInZone_48 (by decide) ?_
        exact ih (p + 1) _ (by omega) (by simpa [pzL, c_25, c_39] using hΦ)
      · refine a_in_3_5 (c9 := nI 1) (pc' := 45) dX3_palletsInZone_42 (by decide) rfl ?_
        refine a_iN_4_5 (m := p + 1) (pc' := 48) dX3_palletsInZone_45 (nI_add _ _) rfl ?_
        refine a_goto (pc' := 5) dX3_palletsInZone_48 (by decide) ?_
        exact ih (p + 1) _ (by omega) (by simpa [pzL, c_25, c_39] using hΦ)
set_option maxRecDepth 20000 in
set_option maxHeartbeats 4000000 in
theorem ct_X3_palletsInZone {q np : Nat} (hq : q < 9) (hn : np ≤ 12) (x z : Int32) (M : Mm) (h1 : M q 1 = nI np) : Ct yX3_palletsInZone cX3_palletsInZone 5 (some .int) 1 21 [.inr (3, q, 0, 0), .inl x, .inl z] M (RI (pzL (M q) x z np 0 (nI 0)) M) := by
  refine Ct.at RX3 rfl (by decide +kernel) (Nat.le_of_ble_eq_true rfl) [some (.inr (3, q, 0, 0)), some (.inl x), some (.inl z), none, none] rfl (fun G => ?_)
  refine a_iconst (v := nI 0) (pc' := 1) dX3_palletsInZone_0 (by decide) rfl ?_
  refine a_is_3_5 (pc' := 2) dX3_palletsInZone_1 rfl ?_
  refine a_iconst (v := nI 0) (pc' := 3) dX3_palletsInZone_2 (by decide) rfl ?_
  refine a_is_4_5 (pc' := 5) dX3_palletsInZone_3 rfl ?_
  exact lp_X3_palletsInZone hq hn _ _ _ h1 np 0 _ (by omega) ⟨rfl, rfl⟩
set_option maxRecDepth 20000 in
set_option maxHeartbeats 4000000 in
theorem lp_X3_foundProbes {G : Gl} {Φ : Option OV → Mm → Prop} {q nv : Nat} (hq : q < 9) (hn : nv ≤ 3) (M : Mm) (h1 : M q 0 = nI nv) : ∀ (n p : Nat) (acc : Int32) (x3 : Option OV), p + n = nv → (Φ (some (.inl (fndL (M q) n p acc))) M) → AW G cX3_foundProbes RX3 4 0 0 (some .int) Φ 4 [some (.inr (3, q, 0, 0)), some (.inl acc), some (.inl (nI p)), x3] [] M := by
  intro n
  induction n with
  | zero =>
    intro p acc x3 he  hΦ
    refine a_il_2_4 (pc' := 5) dX3_foundProbes_4 rfl ?_
    refine a_al_0_4 (pc' := 6) dX3_foundProbes_5 rfl ?_
    refine gf_3_4 (pc' := 9) (by omega) fl_X3_38 dX3_foundProbes_6 rfl ?_
    rw [h1]
    refine a_icmp_ge (pc' := 12) (tgt := 51) dX3_foundProbes_9 (by decide) rfl (fun c_9 => ?_) (fun c_9 => absurd (nI_le (by omega) (by omega)) c_9)
    refine a_il_1_4 (pc' := 52) dX3_foundProbes_51 rfl ?_
    refine a_iret dX3_foundProbes_52 rfl rfl ?_
    exact hΦ
  | succ n ih =>
    intro p acc x3 he  hΦ
    refine a_il_2_4 (pc' := 5) dX3_foundProbes_4 rfl ?_
    refine a_al_0_4 (pc' := 6) dX3_foundProbes_5 rfl ?_
    refine gf_3_4 (pc' := 9) (by omega) fl_X3_38 dX3_foundProbes_6 rfl ?_
    rw [h1]
    refine a_icmp_ge (pc' := 12) (tgt := 51) dX3_foundProbes_9 (by decide) rfl (fun c_9 => absurd c_9 (nI_ge (by omega) (by omega))) (fun c_9 => ?_)
    refine a_iconst (v := nI 0) (pc' := 13) dX3_foundProbes_12 (by decide) rfl ?_
    refine a_is_3_4 (pc' := 14) dX3_foundProbes_13 rfl ?_
    refine a_il_3_4 (pc' := 15) dX3_foundProbes_14 rfl ?_
    refine a_iconst (v := nI 3) (pc' := 16) dX3_foundProbes_15 (by decide) rfl ?_
    refine a_icmp_ge (pc' := 19) (tgt := 45) dX3_foundProbes_16 (by decide) rfl (fun c_16 => absurd c_16 (by decide)) (fun c_16 => ?_)
    refine a_al_0_4 (pc' := 20) dX3_foundProbes_19 rfl ?_
    refine gf_3_6 (pc' := 23) (by omega) fl_X3_23 dX3_foundProbes_20 rfl ?_
    refine a_il_2_4 (pc' := 24) dX3_foundProbes_23 rfl ?_
    refine aN_12 (j := p) (pc' := 25) (by omega) (by omega) dX3_foundProbes_24 rfl ?_
    refine gf_4_4 (pc' := 28) (by omega) (by omega) fl_X3_59 dX3_foundProbes_25 rfl ?_
    refine a_il_3_4 (pc' := 29) dX3_foundProbes_28 rfl ?_
    refine aN_13 (j := 0) (pc' := 30) (by omega) (by omega) (by omega) dX3_foundProbes_29 rfl ?_
    refine gf_5_3 (pc' := 33) (by omega) (by omega) (by omega) fl_X3_63 dX3_foundProbes_30 rfl ?_
    refine a_if_eq (pc' := 36) (tgt := 39) dX3_foundProbes_33 (by decide) rfl (fun c_33 => ?_) (fun c_33 => ?_)
    · refine a_iN_3_4 (m := 1) (pc' := 42) dX3_foundProbes_39 (nI_add _ _) rfl ?_
      refine a_goto (pc' := 14) dX3_foundProbes_42 (by decide) ?_
      refine a_il_3_4 (pc' := 15) dX3_foundProbes_14 rfl ?_
      refine a_iconst (v := nI 3) (pc' := 16) dX3_foundProbes_15 (by decide) rfl ?_
      refine a_icmp_ge (pc' := 19) (tgt := 45) dX3_foundProbes_16 (by decide) rfl (fun c_16_2 => absurd c_16_2 (by decide)) (fun c_16_2 => ?_)
      refine a_al_0_4 (pc' := 20) dX3_foundProbes_19 rfl ?_
      refine gf_3_6 (pc' := 23) (by omega) fl_X3_23 dX3_foundProbes_20 rfl ?_
      refine a_il_2_4 (pc' := 24) dX3_foundProbes_23 rfl ?_
      refine aN_12 (j := p) (pc' := 25) (by omega) (by omega) dX3_foundProbes_24 rfl ?_
      refine gf_4_4 (pc' := 28) (by omega) (by omega) fl_X3_59 dX3_foundProbes_25 rfl ?_
      refine a_il_3_4 (pc' := 29) dX3_foundProbes_28 rfl ?_
      refine aN_13 (j := 1) (pc' := 30) (by omega) (by omega) (by omega) dX3_foundProbes_29 rfl ?_
      refine gf_5_3 (pc' := 33) (by omega) (by omega) (by omega) fl_X3_63 dX3_foundProbes_30 rfl ?_
      refine a_if_eq (pc' := 36) (tgt := 39) dX3_foundProbes_33 (by decide) rfl (fun c_33_2 => ?_) (fun c_33_2 => ?_)
      · refine a_iN_3_4 (m := 2) (pc' := 42) dX3_foundProbes_39 (nI_add _ _) rfl ?_
        refine a_goto (pc' := 14) dX3_foundProbes_42 (by decide) ?_
        refine a_il_3_4 (pc' := 15) dX3_foundProbes_14 rfl ?_
        refine a_iconst (v := nI 3) (pc' := 16) dX3_foundProbes_15 (by decide) rfl ?_
        refine a_icmp_ge (pc' := 19) (tgt := 45) dX3_foundProbes_16 (by decide) rfl (fun c_16_3 => absurd c_16_3 (by decide)) (fun c_16_3 => ?_)
        refine a_al_0_4 (pc' := 20) dX3_foundProbes_19 rfl ?_
        refine gf_3_6 (pc' := 23) (by omega) fl_X3_23 dX3_foundProbes_20 rfl ?_
        refine a_il_2_4 (pc' := 24) dX3_foundProbes_23 rfl ?_
        refine aN_12 (j := p) (pc' := 25) (by omega) (by omega) dX3_foundProbes_24 rfl ?_
        refine gf_4_4 (pc' := 28) (by omega) (by omega) fl_X3_59 dX3_foundProbes_25 rfl ?_
        refine a_il_3_4 (pc' := 29) dX3_foundProbes_28 rfl ?_
        refine aN_13 (j := 2) (pc' := 30) (by omega) (by omega) (by omega) dX3_foundProbes_29 rfl ?_
        refine gf_5_3 (pc' := 33) (by omega) (by omega) (by omega) fl_X3_63 dX3_foundProbes_30 rfl ?_
        refine a_if_eq (pc' := 36) (tgt := 39) dX3_foundProbes_33 (by decide) rfl (fun c_33_3 => ?_) (fun c_33_3 => ?_)
        · refine a_iN_3_4 (m := 3) (pc' := 42) dX3_foundProbes_39 (nI_add _ _) rfl ?_
          refine a_goto (pc' := 14) dX3_foundProbes_42 (by decide) ?_
          refine a_il_3_4 (pc' := 15) dX3_foundProbes_14 rfl ?_
          refine a_iconst (v := nI 3) (pc' := 16) dX3_foundProbes_15 (by decide) rfl ?_
          refine a_icmp_ge (pc' := 19) (tgt := 45) dX3_foundProbes_16 (by decide) rfl (fun c_16_4 => ?_) (fun c_16_4 => absurd (by decide) c_16_4)
          refine a_iN_2_4 (m := p + 1) (pc' := 48) dX3_foundProbes_45 (nI_add _ _) rfl ?_
          refine a_goto (pc' := 4) dX3_foundProbes_48 (by decide) ?_
          exact ih (p + 1) _ _ (by omega) (by simpa [fndL, fnd1, c_33, c_33_2, c_33_3] using hΦ)
        · refine a_in_1_4 (c9 := nI 1) (pc' := 39) dX3_foundProbes_36 (by decide) rfl ?_
          refine a_iN_3_4 (m := 3) (pc' := 42) dX3_foundProbes_39 (nI_add _ _) rfl ?_
          refine a_goto (pc' := 14) dX3_foundProbes_42 (by decide) ?_
          refine a_il_3_4 (pc' := 15) dX3_foundProbes_14 rfl ?_
          refine a_iconst (v := nI 3) (pc' := 16) dX3_foundProbes_15 (by decide) rfl ?_
          refine a_icmp_ge (pc' := 19) (tgt := 45) dX3_foundProbes_16 (by decide) rfl (fun c_16_5 => ?_) (fun c_16_5 => absurd (by decide) c_16_5)
          refine a_iN_2_4 (m := p + 1) (pc' := 48) dX3_foundProbes_45 (nI_add _ _) rfl ?_
          refine a_goto (pc' := 4) dX3_foundProbes_48 (by decide) ?_
          exact ih (p + 1) _ _ (by omega) (by simpa [fndL, fnd1, c_33, c_33_2, c_33_3] using hΦ)
      · refine a_in_1_4 (c9 := nI 1) (pc' := 39) dX3_foundProbes_36 (by decide) rfl ?_
        refine a_iN_3_4 (m := 2) (pc' := 42) dX3_foundProbes_39 (nI_add _ _) rfl ?_
        refine a_goto (pc' := 14) dX3_foundProbes_42 (by decide) ?_
        refine a_il_3_4 (pc' := 15) dX3_foundProbes_14 rfl ?_
        refine a_iconst (v := nI 3) (pc' := 16) dX3_foundProbes_15 (by decide) rfl ?_
        refine a_icmp_ge (pc' := 19) (tgt := 45) dX3_foundProbes_16 (by decide) rfl (fun c_16_6 => absurd c_16_6 (by decide)) (fun c_16_6 => ?_)
        refine a_al_0_4 (pc' := 20) dX3_foundProbes_19 rfl ?_
        refine gf_3_6 (pc' := 23) (by omega) fl_X3_23 dX3_foundProbes_20 rfl ?_
        refine a_il_2_4 (pc' := 24) dX3_foundProbes_23 rfl ?_
        refine aN_12 (j := p) (pc' := 25) (by omega) (by omega) dX3_foundProbes_24 rfl ?_
        refine gf_4_4 (pc' := 28) (by omega) (by omega) fl_X3_59 dX3_foundProbes_25 rfl ?_
        refine a_il_3_4 (pc' := 29) dX3_foundProbes_28 rfl ?_
        refine aN_13 (j := 2) (pc' := 30) (by omega) (by omega) (by omega) dX3_foundProbes_29 rfl ?_
        refine gf_5_3 (pc' := 33) (by omega) (by omega) (by omega) fl_X3_63 dX3_foundProbes_30 rfl ?_
        refine a_if_eq (pc' := 36) (tgt := 39) dX3_foundProbes_33 (by decide) rfl (fun c_33_4 => ?_) (fun c_33_4 => ?_)
        · refine a_iN_3_4 (m := 3) (pc' := 42) dX3_foundProbes_39 (nI_add _ _) rfl ?_
          refine a_goto (pc' := 14) dX3_foundProbes_42 (by decide) ?_
          refine a_il_3_4 (pc' := 15) dX3_foundProbes_14 rfl ?_
          refine a_iconst (v := nI 3) (pc' := 16) dX3_foundProbes_15 (by decide) rfl ?_
          refine a_icmp_ge (pc' := 19) (tgt := 45) dX3_foundProbes_16 (by decide) rfl (fun c_16_7 => ?_) (fun c_16_7 => absurd (by decide) c_16_7)
          refine a_iN_2_4 (m := p + 1) (pc' := 48) dX3_foundProbes_45 (nI_add _ _) rfl ?_
          refine a_goto (pc' := 4) dX3_foundProbes_48 (by decide) ?_
          exact ih (p + 1) _ _ (by omega) (by simpa [fndL, fnd1, c_33, c_33_2, c_33_4] using hΦ)
        · refine a_in_1_4 (c9 := nI 1) (pc' := 39) dX3_foundProbes_36 (by decide) rfl ?_
          refine a_iN_3_4 (m := 3) (pc' := 42) dX3_foundProbes_39 (nI_add _ _) rfl ?_
          refine a_goto (pc' := 14) dX3_foundProbes_42 (by decide) ?_
          refine a_il_3_4 (pc' := 15) dX3_foundProbes_14 rfl ?_
          refine a_iconst (v := nI 3) (pc' := 16) dX3_foundProbes_15 (by decide) rfl ?_
          refine a_icmp_ge (pc' := 19) (tgt := 45) dX3_foundProbes_16 (by decide) rfl (fun c_16_8 => ?_) (fun c_16_8 => absurd (by decide) c_16_8)
          refine a_iN_2_4 (m := p + 1) (pc' := 48) dX3_foundProbes_45 (nI_add _ _) rfl ?_
          refine a_goto (pc' := 4) dX3_foundProbes_48 (by decide) ?_
          exact ih (p + 1) _ _ (by omega) (by simpa [fndL, fnd1, c_33, c_33_2, c_33_4] using hΦ)
    · refine a_in_1_4 (c9 := nI 1) (pc' := 39) dX3_foundProbes_36 (by decide) rfl ?_
      refine a_iN_3_4 (m := 1) (pc' := 42) dX3_foundProbes_39 (nI_add _ _) rfl ?_
      refine a_goto (pc' := 14) dX3_foundProbes_42 (by decide) ?_
      refine a_il_3_4 (pc' := 15) dX3_foundProbes_14 rfl ?_
      refine a_iconst (v := nI 3) (pc' := 16) dX3_foundProbes_15 (by decide) rfl ?_
      refine a_icmp_ge (pc' := 19) (tgt := 45) dX3_foundProbes_16 (by decide) rfl (fun c_16_9 => absurd c_16_9 (by decide)) (fun c_16_9 => ?_)
      refine a_al_0_4 (pc' := 20) dX3_foundProbes_19 rfl ?_
      refine gf_3_6 (pc' := 23) (by omega) fl_X3_23 dX3_foundProbes_20 rfl ?_
      refine a_il_2_4 (pc' := 24) dX3_foundProbes_23 rfl ?_
      refine aN_12 (j := p) (pc' := 25) (by omega) (by omega) dX3_foundProbes_24 rfl ?_
      refine gf_4_4 (pc' := 28) (by omega) (by omega) fl_X3_59 dX3_foundProbes_25 rfl ?_
      refine a_il_3_4 (pc' := 29) dX3_foundProbes_28 rfl ?_
      refine aN_13 (j := 1) (pc' := 30) (by omega) (by omega) (by omega) dX3_foundProbes_29 rfl ?_
      refine gf_5_3 (pc' := 33) (by omega) (by omega) (by omega) fl_X3_63 dX3_foundProbes_30 rfl ?_
      refine a_if_eq (pc' := 36) (tgt := 39) dX3_foundProbes_33 (by decide) rfl (fun c_33_5 => ?_) (fun c_33_5 => ?_)
      · refine a_iN_3_4 (m := 2) (pc' := 42) dX3_foundProbes_39 (nI_add _ _) rfl ?_
        refine a_goto (pc' := 14) dX3_foundProbes_42 (by decide) ?_
        refine a_il_3_4 (pc' := 15) dX3_foundProbes_14 rfl ?_
        refine a_iconst (v := nI 3) (pc' := 16) dX3_foundProbes_15 (by decide) rfl ?_
        refine a_icmp_ge (pc' := 19) (tgt := 45) dX3_foundProbes_16 (by decide) rfl (fun c_16_10 => absurd c_16_10 (by decide)) (fun c_16_10 => ?_)
        refine a_al_0_4 (pc' := 20) dX3_foundProbes_19 rfl ?_
        refine gf_3_6 (pc' := 23) (by omega) fl_X3_23 dX3_foundProbes_20 rfl ?_
        refine a_il_2_4 (pc' := 24) dX3_foundProbes_23 rfl ?_
        refine aN_12 (j := p) (pc' := 25) (by omega) (by omega) dX3_foundProbes_24 rfl ?_
        refine gf_4_4 (pc' := 28) (by omega) (by omega) fl_X3_59 dX3_foundProbes_25 rfl ?_
        refine a_il_3_4 (pc' := 29) dX3_foundProbes_28 rfl ?_
        refine aN_13 (j := 2) (pc' := 30) (by omega) (by omega) (by omega) dX3_foundProbes_29 rfl ?_
        refine gf_5_3 (pc' := 33) (by omega) (by omega) (by omega) fl_X3_63 dX3_foundProbes_30 rfl ?_
        refine a_if_eq (pc' := 36) (tgt := 39) dX3_foundProbes_33 (by decide) rfl (fun c_33_6 => ?_) (fun c_33_6 => ?_)
        · refine a_iN_3_4 (m := 3) (pc' := 42) dX3_foundProbes_39 (nI_add _ _) rfl ?_
          refine a_goto (pc' := 14) dX3_foundProbes_42 (by decide) ?_
          refine a_il_3_4 (pc' := 15) dX3_foundProbes_14 rfl ?_
          refine a_iconst (v := nI 3) (pc' := 16) dX3_foundProbes_15 (by decide) rfl ?_
          refine a_icmp_ge (pc' := 19) (tgt := 45) dX3_foundProbes_16 (by decide) rfl (fun c_16_11 => ?_) (fun c_16_11 => absurd (by decide) c_16_11)
          refine a_iN_2_4 (m := p + 1) (pc' := 48) dX3_foundProbes_45 (nI_add _ _) rfl ?_
          refine a_goto (pc' := 4) dX3_foundProbes_48 (by decide) ?_
          exact ih (p + 1) _ _ (by omega) (by simpa [fndL, fnd1, c_33, c_33_5, c_33_6] using hΦ)
        · refine a_in_1_4 (c9 := nI 1) (pc' := 39) dX3_foundProbes_36 (by decide) rfl ?_
          refine a_iN_3_4 (m := 3) (pc' := 42) dX3_foundProbes_39 (nI_add _ _) rfl ?_
          refine a_goto (pc' := 14) dX3_foundProbes_42 (by decide) ?_
          refine a_il_3_4 (pc' := 15) dX3_foundProbes_14 rfl ?_
          refine a_iconst (v := nI 3) (pc' := 16) dX3_foundProbes_15 (by decide) rfl ?_
          refine a_icmp_ge (pc' := 19) (tgt := 45) dX3_foundProbes_16 (by decide) rfl (fun c_16_12 => ?_) (fun c_16_12 => absurd (by decide) c_16_12)
          refine a_iN_2_4 (m := p + 1) (pc' := 48) dX3_foundProbes_45 (nI_add _ _) rfl ?_
          refine a_goto (pc' := 4) dX3_foundProbes_48 (by decide) ?_
          exact ih (p + 1) _ _ (by omega) (by simpa [fndL, fnd1, c_33, c_33_5, c_33_6] using hΦ)
      · refine a_in_1_4 (c9 := nI 1) (pc' := 39) dX3_foundProbes_36 (by decide) rfl ?_
        refine a_iN_3_4 (m := 2) (pc' := 42) dX3_foundProbes_39 (nI_add _ _) rfl ?_
        refine a_goto (pc' := 14) dX3_foundProbes_42 (by decide) ?_
        refine a_il_3_4 (pc' := 15) dX3_foundProbes_14 rfl ?_
        refine a_iconst (v := nI 3) (pc' := 16) dX3_foundProbes_15 (by decide) rfl ?_
        refine a_icmp_ge (pc' := 19) (tgt := 45) dX3_foundProbes_16 (by decide) rfl (fun c_16_13 => absurd c_16_13 (by decide)) (fun c_16_13 => ?_)
        refine a_al_0_4 (pc' := 20) dX3_foundProbes_19 rfl ?_
        refine gf_3_6 (pc' := 23) (by omega) fl_X3_23 dX3_foundProbes_20 rfl ?_
        refine a_il_2_4 (pc' := 24) dX3_foundProbes_23 rfl ?_
        refine aN_12 (j := p) (pc' := 25) (by omega) (by omega) dX3_foundProbes_24 rfl ?_
        refine gf_4_4 (pc' := 28) (by omega) (by omega) fl_X3_59 dX3_foundProbes_25 rfl ?_
        refine a_il_3_4 (pc' := 29) dX3_foundProbes_28 rfl ?_
        refine aN_13 (j := 2) (pc' := 30) (by omega) (by omega) (by omega) dX3_foundProbes_29 rfl ?_
        refine gf_5_3 (pc' := 33) (by omega) (by omega) (by omega) fl_X3_63 dX3_foundProbes_30 rfl ?_
        refine a_if_eq (pc' := 36) (tgt := 39) dX3_foundProbes_33 (by decide) rfl (fun c_33_7 => ?_) (fun c_33_7 => ?_)
        · refine a_iN_3_4 (m := 3) (pc' := 42) dX3_foundProbes_39 (nI_add _ _) rfl ?_
          refine a_goto (pc' := 14) dX3_foundProbes_42 (by decide) ?_
          refine a_il_3_4 (pc' := 15) dX3_foundProbes_14 rfl ?_
          refine a_iconst (v := nI 3) (pc' := 16) dX3_foundProbes_15 (by decide) rfl ?_
          refine a_icmp_ge (pc' := 19) (tgt := 45) dX3_foundProbes_16 (by decide) rfl (fun c_16_14 => ?_) (fun c_16_14 => absurd (by decide) c_16_14)
          refine a_iN_2_4 (m := p + 1) (pc' := 48) dX3_foundProbes_45 (nI_add _ _) rfl ?_
          refine a_goto (pc' := 4) dX3_foundProbes_48 (by decide) ?_
          exact ih (p + 1) _ _ (by omega) (by simpa [fndL, fnd1, c_33, c_33_5, c_33_7] using hΦ)
        · refine a_in_1_4 (c9 := nI 1) (pc' := 39) dX3_foundProbes_36 (by decide) rfl ?_
          refine a_iN_3_4 (m := 3) (pc' := 42) dX3_foundProbes_39 (nI_add _ _) rfl ?_
          refine a_goto (pc' := 14) dX3_foundProbes_42 (by decide) ?_
          refine a_il_3_4 (pc' := 15) dX3_foundProbes_14 rfl ?_
          refine a_iconst (v := nI 3) (pc' := 16) dX3_foundProbes_15 (by decide) rfl ?_
          refine a_icmp_ge (pc' := 19) (tgt := 45) dX3_foundProbes_16 (by decide) rfl (fun c_16_15 => ?_) (fun c_16_15 => absurd (by decide) c_16_15)
          refine a_iN_2_4 (m := p + 1) (pc' := 48) dX3_foundProbes_45 (nI_add _ _) rfl ?_
          refine a_goto (pc' := 4) dX3_foundProbes_48 (by decide) ?_
          exact ih (p + 1) _ _ (by omega) (by simpa [fndL, fnd1, c_33, c_33_5, c_33_7] using hΦ)
set_option maxRecDepth 20000 in
set_option maxHeartbeats 4000000 in
theorem ct_X3_foundProbes {q nv : Nat} (hq : q < 9) (hn : nv ≤ 3) (M : Mm) (h1 : M q 0 = nI nv) : Ct yX3_foundProbes cX3_foundProbes 4 (some .int) 0 0 [.inr (3, q, 0, 0)] M (RI (fndL (M q) nv 0 (nI 0)) M) := by
  refine Ct.at RX3 rfl (by decide +kernel) (Nat.le_of_ble_eq_true rfl) [some (.inr (3, q, 0, 0)), none, none, none] rfl (fun G => ?_)
  refine a_iconst (v := nI 0) (pc' := 1) dX3_foundProbes_0 (by decide) rfl ?_
  refine a_is_1_4 (pc' := 2) dX3_foundProbes_1 rfl ?_
  refine a_iconst (v := nI 0) (pc' := 3) dX3_foundProbes_2 (by decide) rfl ?_
  refine a_is_2_4 (pc' := 4) dX3_foundProbes_3 rfl ?_
  exact lp_X3_foundProbes hq hn _ h1 nv 0 _ _ (by omega) ⟨rfl, rfl⟩
set_option maxRecDepth 20000 in
set_option maxHeartbeats 4000000 in
theorem ct_X3_copyFrom {q q' : Nat} (hq : q < 9) (hq' : q' < 9) (hne : q' ≠ q) (M : Mm) (hB : BoolOK (M q')) : Ct yX3_copyFrom cX3_copyFrom 3 none 2 43 [.inr (3, q, 0, 0), .inr (3, q', 0, 0)] M (RV (setR M q (M q'))) := by
  refine Ct.at RX3 rfl (by decide +kernel) (Nat.le_of_ble_eq_true rfl) [some (.inr (3, q, 0, 0)), some (.inr (3, q', 0, 0)), none] rfl (fun G => ?_)
  refine a_al_0_3 (pc' := 1) dX3_copyFrom_0 rfl ?_
  refine a_al_1_3 (pc' := 2) dX3_copyFrom_1 rfl ?_
  refine gf_3_0 (pc' := 5) (by omega) fl_X3_35 dX3_copyFrom_2 rfl ?_
  refine pf_3_0 (pc' := 8) (by omega) fl_X3_35 dX3_copyFrom_5 rfl ?_
  refine a_al_0_3 (pc' := 9) dX3_copyFrom_8 rfl ?_
  refine a_al_1_3 (pc' := 10) dX3_copyFrom_9 rfl ?_
  refine gf_3_1 (pc' := 13) (by omega) fl_X3_9 dX3_copyFrom_10 rfl ?_
  refine pf_3_1 (pc' := 16) (by omega) fl_X3_9 dX3_copyFrom_13 rfl ?_
  refine a_al_0_3 (pc' := 17) dX3_copyFrom_16 rfl ?_
  refine a_al_1_3 (pc' := 18) dX3_copyFrom_17 rfl ?_
  refine gf_3_2 (pc' := 21) (by omega) fl_X3_15 dX3_copyFrom_18 rfl ?_
  refine pf_3_2 (pc' := 24) (by omega) fl_X3_15 dX3_copyFrom_21 rfl ?_
  refine a_al_0_3 (pc' := 25) dX3_copyFrom_24 rfl ?_
  refine a_al_1_3 (pc' := 26) dX3_copyFrom_25 rfl ?_
  refine gf_3_3 (pc' := 29) (by omega) fl_X3_18 dX3_copyFrom_26 rfl ?_
  refine pf_3_3 (pc' := 32) (by omega) fl_X3_18 dX3_copyFrom_29 rfl ?_
  refine a_al_0_3 (pc' := 33) dX3_copyFrom_32 rfl ?_
  refine a_al_1_3 (pc' := 34) dX3_copyFrom_33 rfl ?_
  refine gf_3_4 (pc' := 37) (by omega) fl_X3_38 dX3_copyFrom_34 rfl ?_
  refine pf_3_4 (pc' := 40) (by omega) fl_X3_38 dX3_copyFrom_37 rfl ?_
  refine a_al_0_3 (pc' := 41) dX3_copyFrom_40 rfl ?_
  refine a_al_1_3 (pc' := 42) dX3_copyFrom_41 rfl ?_
  refine gf_3_5 (pc' := 45) (by omega) fl_X3_41 dX3_copyFrom_42 rfl ?_
  refine pf_3_5 (pc' := 48) (by omega) fl_X3_41 dX3_copyFrom_45 rfl ?_
  refine a_iconst (v := nI 0) (pc' := 49) dX3_copyFrom_48 (by decide) rfl ?_
  refine a_is_2_3 (pc' := 50) dX3_copyFrom_49 rfl ?_
  refine a_il_2_3 (pc' := 51) dX3_copyFrom_50 rfl ?_
  refine a_iconst (v := nI 3) (pc' := 52) dX3_copyFrom_51 (by decide) rfl ?_
  refine a_icmp_ge (pc' := 55) (tgt := 76) dX3_copyFrom_52 (by decide) rfl (fun c_52 => absurd c_52 (by decide)) (fun c_52 => ?_)
  refine a_al_0_3 (pc' := 56) dX3_copyFrom_55 rfl ?_
  refine gf_3_6 (pc' := 59) (by omega) fl_X3_23 dX3_copyFrom_56 rfl ?_
  refine a_il_2_3 (pc' := 60) dX3_copyFrom_59 rfl ?_
  refine aN_12 (j := 0) (pc' := 61) (by omega) (by omega) dX3_copyFrom_60 rfl ?_
  refine a_al_1_3 (pc' := 62) dX3_copyFrom_61 rfl ?_
  refine gf_3_6 (pc' := 65) (by omega) fl_X3_23 dX3_copyFrom_62 rfl ?_
  refine a_il_2_3 (pc' := 66) dX3_copyFrom_65 rfl ?_
  refine aN_12 (j := 0) (pc' := 67) (by omega) (by omega) dX3_copyFrom_66 rfl ?_
  refine k_VV (pc' := 70) (ct_X4_copyFrom (by omega) (by omega) hne (by omega) _ (by simp only [wr_eq, setR_same, setR_setR, setR_ne _ _ hne]; exact hB.1 0 (by decide)) (by simp only [wr_eq, setR_same, setR_setR, setR_ne _ _ hne]; exact fun z hz => hB.2 0 z (by decide) hz)) cw_X3_44 mi_X4_copyFrom se_X4_copyFrom (ok4 (by omega) (by omega)) rfl rfl rfl (by decide) (by decide) (Nat.le_of_ble_eq_true rfl) rfl dX3_copyFrom_67 rfl ?_
  refine a_iN_2_3 (m := 1) (pc' := 73) dX3_copyFrom_70 (nI_add _ _) rfl ?_
  refine a_goto (pc' := 50) dX3_copyFrom_73 (by decide) ?_
  refine a_il_2_3 (pc' := 51) dX3_copyFrom_50 rfl ?_
  refine a_iconst (v := nI 3) (pc' := 52) dX3_copyFrom_51 (by decide) rfl ?_
  refine a_icmp_ge (pc' := 55) (tgt := 76) dX3_copyFrom_52 (by decide) rfl (fun c_52_2 => absurd c_52_2 (by decide)) (fun c_52_2 => ?_)
  refine a_al_0_3 (pc' := 56) dX3_copyFrom_55 rfl ?_
  refine gf_3_6 (pc' := 59) (by omega) fl_X3_23 dX3_copyFrom_56 rfl ?_
  refine a_il_2_3 (pc' := 60) dX3_copyFrom_59 rfl ?_
  refine aN_12 (j := 1) (pc' := 61) (by omega) (by omega) dX3_copyFrom_60 rfl ?_
  refine a_al_1_3 (pc' := 62) dX3_copyFrom_61 rfl ?_
  refine gf_3_6 (pc' := 65) (by omega) fl_X3_23 dX3_copyFrom_62 rfl ?_
  refine a_il_2_3 (pc' := 66) dX3_copyFrom_65 rfl ?_
  refine aN_12 (j := 1) (pc' := 67) (by omega) (by omega) dX3_copyFrom_66 rfl ?_
  refine k_VV (pc' := 70) (ct_X4_copyFrom (by omega) (by omega) hne (by omega) _ (by simp only [wr_eq, setR_same, setR_setR, setR_ne _ _ hne]; exact hB.1 1 (by decide)) (by simp only [wr_eq, setR_same, setR_setR, setR_ne _ _ hne]; exact fun z hz => hB.2 1 z (by decide) hz)) cw_X3_44 mi_X4_copyFrom se_X4_copyFrom (ok4 (by omega) (by omega)) rfl rfl rfl (by decide) (by decide) (Nat.le_of_ble_eq_true rfl) rfl dX3_copyFrom_67 rfl ?_
  refine a_iN_2_3 (m := 2) (pc' := 73) dX3_copyFrom_70 (nI_add _ _) rfl ?_
  refine a_goto (pc' := 50) dX3_copyFrom_73 (by decide) ?_
  refine a_il_2_3 (pc' := 51) dX3_copyFrom_50 rfl ?_
  refine a_iconst (v := nI 3) (pc' := 52) dX3_copyFrom_51 (by decide) rfl ?_
  refine a_icmp_ge (pc' := 55) (tgt := 76) dX3_copyFrom_52 (by decide) rfl (fun c_52_3 => absurd c_52_3 (by decide)) (fun c_52_3 => ?_)
  refine a_al_0_3 (pc' := 56) dX3_copyFrom_55 rfl ?_
  refine gf_3_6 (pc' := 59) (by omega) fl_X3_23 dX3_copyFrom_56 rfl ?_
  refine a_il_2_3 (pc' := 60) dX3_copyFrom_59 rfl ?_
  refine aN_12 (j := 2) (pc' := 61) (by omega) (by omega) dX3_copyFrom_60 rfl ?_
  refine a_al_1_3 (pc' := 62) dX3_copyFrom_61 rfl ?_
  refine gf_3_6 (pc' := 65) (by omega) fl_X3_23 dX3_copyFrom_62 rfl ?_
  refine a_il_2_3 (pc' := 66) dX3_copyFrom_65 rfl ?_
  refine aN_12 (j := 2) (pc' := 67) (by omega) (by omega) dX3_copyFrom_66 rfl ?_
  refine k_VV (pc' := 70) (ct_X4_copyFrom (by omega) (by omega) hne (by omega) _ (by simp only [wr_eq, setR_same, setR_setR, setR_ne _ _ hne]; exact hB.1 2 (by decide)) (by simp only [wr_eq, setR_same, setR_setR, setR_ne _ _ hne]; exact fun z hz => hB.2 2 z (by decide) hz)) cw_X3_44 mi_X4_copyFrom se_X4_copyFrom (ok4 (by omega) (by omega)) rfl rfl rfl (by decide) (by decide) (Nat.le_of_ble_eq_true rfl) rfl dX3_copyFrom_67 rfl ?_
  refine a_iN_2_3 (m := 3) (pc' := 73) dX3_copyFrom_70 (nI_add _ _) rfl ?_
  refine a_goto (pc' := 50) dX3_copyFrom_73 (by decide) ?_
  refine a_il_2_3 (pc' := 51) dX3_copyFrom_50 rfl ?_
  refine a_iconst (v := nI 3) (pc' := 52) dX3_copyFrom_51 (by decide) rfl ?_
  refine a_icmp_ge (pc' := 55) (tgt := 76) dX3_copyFrom_52 (by decide) rfl (fun c_52_4 => ?_) (fun c_52_4 => absurd (by decide) c_52_4)
  refine a_iconst (v := nI 0) (pc' := 77) dX3_copyFrom_76 (by decide) rfl ?_
  refine a_is_2_3 (pc' := 78) dX3_copyFrom_77 rfl ?_
  refine a_il_2_3 (pc' := 79) dX3_copyFrom_78 rfl ?_
  refine a_bipush (v := nI 12) (pc' := 81) dX3_copyFrom_79 (by decide) rfl ?_
  refine a_icmp_ge (pc' := 84) (tgt := 105) dX3_copyFrom_81 (by decide) rfl (fun c_81 => absurd c_81 (by decide)) (fun c_81 => ?_)
  refine a_al_0_3 (pc' := 85) dX3_copyFrom_84 rfl ?_
  refine gf_3_7 (pc' := 88) (by omega) fl_X3_29 dX3_copyFrom_85 rfl ?_
  refine a_il_2_3 (pc' := 89) dX3_copyFrom_88 rfl ?_
  refine aN_10 (j := 0) (pc' := 90) (by omega) (by omega) dX3_copyFrom_89 rfl ?_
  refine a_al_1_3 (pc' := 91) dX3_copyFrom_90 rfl ?_
  refine gf_3_7 (pc' := 94) (by omega) fl_X3_29 dX3_copyFrom_91 rfl ?_
  refine a_il_2_3 (pc' := 95) dX3_copyFrom_94 rfl ?_
  refine aN_10 (j := 0) (pc' := 96) (by omega) (by omega) dX3_copyFrom_95 rfl ?_
  refine k_VV (pc' := 99) (ct_X1_copyFrom (by omega) (by omega) (by omega) (by omega) _) cw_X3_48 mi_X1_copyFrom se_X1_copyFrom (ok1 (by omega) (by omega)) rfl rfl rfl (by decide) (by decide) (Nat.le_of_ble_eq_true rfl) rfl dX3_copyFrom_96 rfl ?_
  refine a_iN_2_3 (m := 1) (pc' := 102) dX3_copyFrom_99 (nI_add _ _) rfl ?_
  refine a_goto (pc' := 78) dX3_copyFrom_102 (by decide) ?_
  refine a_il_2_3 (pc' := 79) dX3_copyFrom_78 rfl ?_
  refine a_bipush (v := nI 12) (pc' := 81) dX3_copyFrom_79 (by decide) rfl ?_
  refine a_icmp_ge (pc' := 84) (tgt := 105) dX3_copyFrom_81 (by decide) rfl (fun c_81_2 => absurd c_81_2 (by decide)) (fun c_81_2 => ?_)
  refine a_al_0_3 (pc' := 85) dX3_copyFrom_84 rfl ?_
  refine gf_3_7 (pc' := 88) (by omega) fl_X3_29 dX3_copyFrom_85 rfl ?_
  refine a_il_2_3 (pc' := 89) dX3_copyFrom_88 rfl ?_
  refine aN_10 (j := 1) (pc' := 90) (by omega) (by omega) dX3_copyFrom_89 rfl ?_
  refine a_al_1_3 (pc' := 91) dX3_copyFrom_90 rfl ?_
  refine gf_3_7 (pc' := 94) (by omega) fl_X3_29 dX3_copyFrom_91 rfl ?_
  refine a_il_2_3 (pc' := 95) dX3_copyFrom_94 rfl ?_
  refine aN_10 (j := 1) (pc' := 96) (by omega) (by omega) dX3_copyFrom_95 rfl ?_
  refine k_VV (pc' := 99) (ct_X1_copyFrom (by omega) (by omega) (by omega) (by omega) _) cw_X3_48 mi_X1_copyFrom se_X1_copyFrom (ok1 (by omega) (by omega)) rfl rfl rfl (by decide) (by decide) (Nat.le_of_ble_eq_true rfl) rfl dX3_copyFrom_96 rfl ?_
  refine a_iN_2_3 (m := 2) (pc' := 102) dX3_copyFrom_99 (nI_add _ _) rfl ?_
  refine a_goto (pc' := 78) dX3_copyFrom_102 (by decide) ?_
  refine a_il_2_3 (pc' := 79) dX3_copyFrom_78 rfl ?_
  refine a_bipush (v := nI 12) (pc' := 81) dX3_copyFrom_79 (by decide) rfl ?_
  refine a_icmp_ge (pc' := 84) (tgt := 105) dX3_copyFrom_81 (by decide) rfl (fun c_81_3 => absurd c_81_3 (by decide)) (fun c_81_3 => ?_)
  refine a_al_0_3 (pc' := 85) dX3_copyFrom_84 rfl ?_
  refine gf_3_7 (pc' := 88) (by omega) fl_X3_29 dX3_copyFrom_85 rfl ?_
  refine a_il_2_3 (pc' := 89) dX3_copyFrom_88 rfl ?_
  refine aN_10 (j := 2) (pc' := 90) (by omega) (by omega) dX3_copyFrom_89 rfl ?_
  refine a_al_1_3 (pc' := 91) dX3_copyFrom_90 rfl ?_
  refine gf_3_7 (pc' := 94) (by omega) fl_X3_29 dX3_copyFrom_91 rfl ?_
  refine a_il_2_3 (pc' := 95) dX3_copyFrom_94 rfl ?_
  refine aN_10 (j := 2) (pc' := 96) (by omega) (by omega) dX3_copyFrom_95 rfl ?_
  refine k_VV (pc' := 99) (ct_X1_copyFrom (by omega) (by omega) (by omega) (by omega) _) cw_X3_48 mi_X1_copyFrom se_X1_copyFrom (ok1 (by omega) (by omega)) rfl rfl rfl (by decide) (by decide) (Nat.le_of_ble_eq_true rfl) rfl dX3_copyFrom_96 rfl ?_
  refine a_iN_2_3 (m := 3) (pc' := 102) dX3_copyFrom_99 (nI_add _ _) rfl ?_
  refine a_goto (pc' := 78) dX3_copyFrom_102 (by decide) ?_
  refine a_il_2_3 (pc' := 79) dX3_copyFrom_78 rfl ?_
  refine a_bipush (v := nI 12) (pc' := 81) dX3_copyFrom_79 (by decide) rfl ?_
  refine a_icmp_ge (pc' := 84) (tgt := 105) dX3_copyFrom_81 (by decide) rfl (fun c_81_4 => absurd c_81_4 (by decide)) (fun c_81_4 => ?_)
  refine a_al_0_3 (pc' := 85) dX3_copyFrom_84 rfl ?_
  refine gf_3_7 (pc' := 88) (by omega) fl_X3_29 dX3_copyFrom_85 rfl ?_
  refine a_il_2_3 (pc' := 89) dX3_copyFrom_88 rfl ?_
  refine aN_10 (j := 3) (pc' := 90) (by omega) (by omega) dX3_copyFrom_89 rfl ?_
  refine a_al_1_3 (pc' := 91) dX3_copyFrom_90 rfl ?_
  refine gf_3_7 (pc' := 94) (by omega) fl_X3_29 dX3_copyFrom_91 rfl ?_
  refine a_il_2_3 (pc' := 95) dX3_copyFrom_94 rfl ?_
  refine aN_10 (j := 3) (pc' := 96) (by omega) (by omega) dX3_copyFrom_95 rfl ?_
  refine k_VV (pc' := 99) (ct_X1_copyFrom (by omega) (by omega) (by omega) (by omega) _) cw_X3_48 mi_X1_copyFrom se_X1_copyFrom (ok1 (by omega) (by omega)) rfl rfl rfl (by decide) (by decide) (Nat.le_of_ble_eq_true rfl) rfl dX3_copyFrom_96 rfl ?_
  refine a_iN_2_3 (m := 4) (pc' := 102) dX3_copyFrom_99 (nI_add _ _) rfl ?_
  refine a_goto (pc' := 78) dX3_copyFrom_102 (by decide) ?_
  refine a_il_2_3 (pc' := 79) dX3_copyFrom_78 rfl ?_
  refine a_bipush (v := nI 12) (pc' := 81) dX3_copyFrom_79 (by decide) rfl ?_
  refine a_icmp_ge (pc' := 84) (tgt := 105) dX3_copyFrom_81 (by decide) rfl (fun c_81_5 => absurd c_81_5 (by decide)) (fun c_81_5 => ?_)
  refine a_al_0_3 (pc' := 85) dX3_copyFrom_84 rfl ?_
  refine gf_3_7 (pc' := 88) (by omega) fl_X3_29 dX3_copyFrom_85 rfl ?_
  refine a_il_2_3 (pc' := 89) dX3_copyFrom_88 rfl ?_
  refine aN_10 (j := 4) (pc' := 90) (by omega) (by omega) dX3_copyFrom_89 rfl ?_
  refine a_al_1_3 (pc' := 91) dX3_copyFrom_90 rfl ?_
  refine gf_3_7 (pc' := 94) (by omega) fl_X3_29 dX3_copyFrom_91 rfl ?_
  refine a_il_2_3 (pc' := 95) dX3_copyFrom_94 rfl ?_
  refine aN_10 (j := 4) (pc' := 96) (by omega) (by omega) dX3_copyFrom_95 rfl ?_
  refine k_VV (pc' := 99) (ct_X1_copyFrom (by omega) (by omega) (by omega) (by omega) _) cw_X3_48 mi_X1_copyFrom se_X1_copyFrom (ok1 (by omega) (by omega)) rfl rfl rfl (by decide) (by decide) (Nat.le_of_ble_eq_true rfl) rfl dX3_copyFrom_96 rfl ?_
  refine a_iN_2_3 (m := 5) (pc' := 102) dX3_copyFrom_99 (nI_add _ _) rfl ?_
  refine a_goto (pc' := 78) dX3_copyFrom_102 (by decide) ?_
  refine a_il_2_3 (pc' := 79) dX3_copyFrom_78 rfl ?_
  refine a_bipush (v := nI 12) (pc' := 81) dX3_copyFrom_79 (by decide) rfl ?_
  refine a_icmp_ge (pc' := 84) (tgt := 105) dX3_copyFrom_81 (by decide) rfl (fun c_81_6 => absurd c_81_6 (by decide)) (fun c_81_6 => ?_)
  refine a_al_0_3 (pc' := 85) dX3_copyFrom_84 rfl ?_
  refine gf_3_7 (pc' := 88) (by omega) fl_X3_29 dX3_copyFrom_85 rfl ?_
  refine a_il_2_3 (pc' := 89) dX3_copyFrom_88 rfl ?_
  refine aN_10 (j := 5) (pc' := 90) (by omega) (by omega) dX3_copyFrom_89 rfl ?_
  refine a_al_1_3 (pc' := 91) dX3_copyFrom_90 rfl ?_
  refine gf_3_7 (pc' := 94) (by omega) fl_X3_29 dX3_copyFrom_91 rfl ?_
  refine a_il_2_3 (pc' := 95) dX3_copyFrom_94 rfl ?_
  refine aN_10 (j := 5) (pc' := 96) (by omega) (by omega) dX3_copyFrom_95 rfl ?_
  refine k_VV (pc' := 99) (ct_X1_copyFrom (by omega) (by omega) (by omega) (by omega) _) cw_X3_48 mi_X1_copyFrom se_X1_copyFrom (ok1 (by omega) (by omega)) rfl rfl rfl (by decide) (by decide) (Nat.le_of_ble_eq_true rfl) rfl dX3_copyFrom_96 rfl ?_
  refine a_iN_2_3 (m := 6) (pc' := 102) dX3_copyFrom_99 (nI_add _ _) rfl ?_
  refine a_goto (pc' := 78) dX3_copyFrom_102 (by decide) ?_
  refine a_il_2_3 (pc' := 79) dX3_copyFrom_78 rfl ?_
  refine a_bipush (v := nI 12) (pc' := 81) dX3_copyFrom_79 (by decide) rfl ?_
  refine a_icmp_ge (pc' := 84) (tgt := 105) dX3_copyFrom_81 (by decide) rfl (fun c_81_7 => absurd c_81_7 (by decide)) (fun c_81_7 => ?_)
  refine a_al_0_3 (pc' := 85) dX3_copyFrom_84 rfl ?_
  refine gf_3_7 (pc' := 88) (by omega) fl_X3_29 dX3_copyFrom_85 rfl ?_
  refine a_il_2_3 (pc' := 89) dX3_copyFrom_88 rfl ?_
  refine aN_10 (j := 6) (pc' := 90) (by omega) (by omega) dX3_copyFrom_89 rfl ?_
  refine a_al_1_3 (pc' := 91) dX3_copyFrom_90 rfl ?_
  refine gf_3_7 (pc' := 94) (by omega) fl_X3_29 dX3_copyFrom_91 rfl ?_
  refine a_il_2_3 (pc' := 95) dX3_copyFrom_94 rfl ?_
  refine aN_10 (j := 6) (pc' := 96) (by omega) (by omega) dX3_copyFrom_95 rfl ?_
  refine k_VV (pc' := 99) (ct_X1_copyFrom (by omega) (by omega) (by omega) (by omega) _) cw_X3_48 mi_X1_copyFrom se_X1_copyFrom (ok1 (by omega) (by omega)) rfl rfl rfl (by decide) (by decide) (Nat.le_of_ble_eq_true rfl) rfl dX3_copyFrom_96 rfl ?_
  refine a_iN_2_3 (m := 7) (pc' := 102) dX3_copyFrom_99 (nI_add _ _) rfl ?_
  refine a_goto (pc' := 78) dX3_copyFrom_102 (by decide) ?_
  refine a_il_2_3 (pc' := 79) dX3_copyFrom_78 rfl ?_
  refine a_bipush (v := nI 12) (pc' := 81) dX3_copyFrom_79 (by decide) rfl ?_
  refine a_icmp_ge (pc' := 84) (tgt := 105) dX3_copyFrom_81 (by decide) rfl (fun c_81_8 => absurd c_81_8 (by decide)) (fun c_81_8 => ?_)
  refine a_al_0_3 (pc' := 85) dX3_copyFrom_84 rfl ?_
  refine gf_3_7 (pc' := 88) (by omega) fl_X3_29 dX3_copyFrom_85 rfl ?_
  refine a_il_2_3 (pc' := 89) dX3_copyFrom_88 rfl ?_
  refine aN_10 (j := 7) (pc' := 90) (by omega) (by omega) dX3_copyFrom_89 rfl ?_
  refine a_al_1_3 (pc' := 91) dX3_copyFrom_90 rfl ?_
  refine gf_3_7 (pc' := 94) (by omega) fl_X3_29 dX3_copyFrom_91 rfl ?_
  refine a_il_2_3 (pc' := 95) dX3_copyFrom_94 rfl ?_
  refine aN_10 (j := 7) (pc' := 96) (by omega) (by omega) dX3_copyFrom_95 rfl ?_
  refine k_VV (pc' := 99) (ct_X1_copyFrom (by omega) (by omega) (by omega) (by omega) _) cw_X3_48 mi_X1_copyFrom se_X1_copyFrom (ok1 (by omega) (by omega)) rfl rfl rfl (by decide) (by decide) (Nat.le_of_ble_eq_true rfl) rfl dX3_copyFrom_96 rfl ?_
  refine a_iN_2_3 (m := 8) (pc' := 102) dX3_copyFrom_99 (nI_add _ _) rfl ?_
  refine a_goto (pc' := 78) dX3_copyFrom_102 (by decide) ?_
  refine a_il_2_3 (pc' := 79) dX3_copyFrom_78 rfl ?_
  refine a_bipush (v := nI 12) (pc' := 81) dX3_copyFrom_79 (by decide) rfl ?_
  refine a_icmp_ge (pc' := 84) (tgt := 105) dX3_copyFrom_81 (by decide) rfl (fun c_81_9 => absurd c_81_9 (by decide)) (fun c_81_9 => ?_)
  refine a_al_0_3 (pc' := 85) dX3_copyFrom_84 rfl ?_
  refine gf_3_7 (pc' := 88) (by omega) fl_X3_29 dX3_copyFrom_85 rfl ?_
  refine a_il_2_3 (pc' := 89) dX3_copyFrom_88 rfl ?_
  refine aN_10 (j := 8) (pc' := 90) (by omega) (by omega) dX3_copyFrom_89 rfl ?_
  refine a_al_1_3 (pc' := 91) dX3_copyFrom_90 rfl ?_
  refine gf_3_7 (pc' := 94) (by omega) fl_X3_29 dX3_copyFrom_91 rfl ?_
  refine a_il_2_3 (pc' := 95) dX3_copyFrom_94 rfl ?_
  refine aN_10 (j := 8) (pc' := 96) (by omega) (by omega) dX3_copyFrom_95 rfl ?_
  refine k_VV (pc' := 99) (ct_X1_copyFrom (by omega) (by omega) (by omega) (by omega) _) cw_X3_48 mi_X1_copyFrom se_X1_copyFrom (ok1 (by omega) (by omega)) rfl rfl rfl (by decide) (by decide) (Nat.le_of_ble_eq_true rfl) rfl dX3_copyFrom_96 rfl ?_
  refine a_iN_2_3 (m := 9) (pc' := 102) dX3_copyFrom_99 (nI_add _ _) rfl ?_
  refine a_goto (pc' := 78) dX3_copyFrom_102 (by decide) ?_
  refine a_il_2_3 (pc' := 79) dX3_copyFrom_78 rfl ?_
  refine a_bipush (v := nI 12) (pc' := 81) dX3_copyFrom_79 (by decide) rfl ?_
  refine a_icmp_ge (pc' := 84) (tgt := 105) dX3_copyFrom_81 (by decide) rfl (fun c_81_10 => absurd c_81_10 (by decide)) (fun c_81_10 => ?_)
  refine a_al_0_3 (pc' := 85) dX3_copyFrom_84 rfl ?_
  refine gf_3_7 (pc' := 88) (by omega) fl_X3_29 dX3_copyFrom_85 rfl ?_
  refine a_il_2_3 (pc' := 89) dX3_copyFrom_88 rfl ?_
  refine aN_10 (j := 9) (pc' := 90) (by omega) (by omega) dX3_copyFrom_89 rfl ?_
  refine a_al_1_3 (pc' := 91) dX3_copyFrom_90 rfl ?_
  refine gf_3_7 (pc' := 94) (by omega) fl_X3_29 dX3_copyFrom_91 rfl ?_
  refine a_il_2_3 (pc' := 95) dX3_copyFrom_94 rfl ?_
  refine aN_10 (j := 9) (pc' := 96) (by omega) (by omega) dX3_copyFrom_95 rfl ?_
  refine k_VV (pc' := 99) (ct_X1_copyFrom (by omega) (by omega) (by omega) (by omega) _) cw_X3_48 mi_X1_copyFrom se_X1_copyFrom (ok1 (by omega) (by omega)) rfl rfl rfl (by decide) (by decide) (Nat.le_of_ble_eq_true rfl) rfl dX3_copyFrom_96 rfl ?_
  refine a_iN_2_3 (m := 10) (pc' := 102) dX3_copyFrom_99 (nI_add _ _) rfl ?_
  refine a_goto (pc' := 78) dX3_copyFrom_102 (by decide) ?_
  refine a_il_2_3 (pc' := 79) dX3_copyFrom_78 rfl ?_
  refine a_bipush (v := nI 12) (pc' := 81) dX3_copyFrom_79 (by decide) rfl ?_
  refine a_icmp_ge (pc' := 84) (tgt := 105) dX3_copyFrom_81 (by decide) rfl (fun c_81_11 => absurd c_81_11 (by decide)) (fun c_81_11 => ?_)
  refine a_al_0_3 (pc' := 85) dX3_copyFrom_84 rfl ?_
  refine gf_3_7 (pc' := 88) (by omega) fl_X3_29 dX3_copyFrom_85 rfl ?_
  refine a_il_2_3 (pc' := 89) dX3_copyFrom_88 rfl ?_
  refine aN_10 (j := 10) (pc' := 90) (by omega) (by omega) dX3_copyFrom_89 rfl ?_
  refine a_al_1_3 (pc' := 91) dX3_copyFrom_90 rfl ?_
  refine gf_3_7 (pc' := 94) (by omega) fl_X3_29 dX3_copyFrom_91 rfl ?_
  refine a_il_2_3 (pc' := 95) dX3_copyFrom_94 rfl ?_
  refine aN_10 (j := 10) (pc' := 96) (by omega) (by omega) dX3_copyFrom_95 rfl ?_
  refine k_VV (pc' := 99) (ct_X1_copyFrom (by omega) (by omega) (by omega) (by omega) _) cw_X3_48 mi_X1_copyFrom se_X1_copyFrom (ok1 (by omega) (by omega)) rfl rfl rfl (by decide) (by decide) (Nat.le_of_ble_eq_true rfl) rfl dX3_copyFrom_96 rfl ?_
  refine a_iN_2_3 (m := 11) (pc' := 102) dX3_copyFrom_99 (nI_add _ _) rfl ?_
  refine a_goto (pc' := 78) dX3_copyFrom_102 (by decide) ?_
  refine a_il_2_3 (pc' := 79) dX3_copyFrom_78 rfl ?_
  refine a_bipush (v := nI 12) (pc' := 81) dX3_copyFrom_79 (by decide) rfl ?_
  refine a_icmp_ge (pc' := 84) (tgt := 105) dX3_copyFrom_81 (by decide) rfl (fun c_81_12 => absurd c_81_12 (by decide)) (fun c_81_12 => ?_)
  refine a_al_0_3 (pc' := 85) dX3_copyFrom_84 rfl ?_
  refine gf_3_7 (pc' := 88) (by omega) fl_X3_29 dX3_copyFrom_85 rfl ?_
  refine a_il_2_3 (pc' := 89) dX3_copyFrom_88 rfl ?_
  refine aN_10 (j := 11) (pc' := 90) (by omega) (by omega) dX3_copyFrom_89 rfl ?_
  refine a_al_1_3 (pc' := 91) dX3_copyFrom_90 rfl ?_
  refine gf_3_7 (pc' := 94) (by omega) fl_X3_29 dX3_copyFrom_91 rfl ?_
  refine a_il_2_3 (pc' := 95) dX3_copyFrom_94 rfl ?_
  refine aN_10 (j := 11) (pc' := 96) (by omega) (by omega) dX3_copyFrom_95 rfl ?_
  refine k_VV (pc' := 99) (ct_X1_copyFrom (by omega) (by omega) (by omega) (by omega) _) cw_X3_48 mi_X1_copyFrom se_X1_copyFrom (ok1 (by omega) (by omega)) rfl rfl rfl (by decide) (by decide) (Nat.le_of_ble_eq_true rfl) rfl dX3_copyFrom_96 rfl ?_
  refine a_iN_2_3 (m := 12) (pc' := 102) dX3_copyFrom_99 (nI_add _ _) rfl ?_
  refine a_goto (pc' := 78) dX3_copyFrom_102 (by decide) ?_
  refine a_il_2_3 (pc' := 79) dX3_copyFrom_78 rfl ?_
  refine a_bipush (v := nI 12) (pc' := 81) dX3_copyFrom_79 (by decide) rfl ?_
  refine a_icmp_ge (pc' := 84) (tgt := 105) dX3_copyFrom_81 (by decide) rfl (fun c_81_13 => ?_) (fun c_81_13 => absurd (by decide) c_81_13)
  refine a_ext (M' := setR M q (M q')) ?_ (by simp only [wr_eq, setR_same, setR_setR, setR_ne _ _ (show (53 : Nat) ≠ q by omega)]) ?_
  · intro r i hr
    simp only [wr_eq, setR_same, setR_setR, setR_ne _ _ hne]
    by_cases hrq : r = q
    · subst hrq
      have hi := ow_lt hq hr
      simp only [setR_same]
      simp (disch := decide) only [Nat.reduceMul, Nat.reduceAdd, cpR_app']
      simp only [cpR, upd]
      by_cases h6 : 6 ≤ i
      · rw [if_pos (by omega)]
      · rw [if_neg (by omega)]
        have : i = 0 ∨ i = 1 ∨ i = 2 ∨ i = 3 ∨ i = 4 ∨ i = 5 := by omega
        rcases this with rfl | rfl | rfl | rfl | rfl | rfl <;> simp
    · simp only [setR_ne _ _ hrq]
  refine a_vret dX3_copyFrom_105 rfl ?_
  exact fV rfl
