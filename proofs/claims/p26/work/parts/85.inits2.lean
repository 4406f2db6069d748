theorem st0_upd : upd (upd (upd (fun _ => (0 : Int32)) (nI 3).toNatClampNeg (nI 200)) (nI 4).toNatClampNeg (nI 30)) (nI 5).toNatClampNeg (nI 3) = st0 := by
  rw [nI_clamp (by decide), nI_clamp (by decide), nI_clamp (by decide)]
  funext i
  unfold st0 upd
  by_cases h5 : i = 5
  · subst h5; rfl
  · by_cases h4 : i = 4
    · subst h4; rfl
    · by_cases h3 : i = 3
      · subst h3; rfl
      · simp only [h3, h4, h5, if_false]; rfl
/-- the class's object at a, what it reaches from b on, its first k saved states set -/
def ccP (cid : Nat → ClassId) (a b k : Nat) : Pw := fun q E => (q = a ∧ E = .inr (6, [.ref b, .ref (b + 30), .ref (b + 60), .int 0, .int 0, .ref (b + 61), .ref (b + 82)])) ∨ stP cid b (b + 1) 3 12 q E ∨ stP cid (b + 30) (b + 31) 3 12 q E ∨ (q = b + 60 ∧ E = arE (cid 11) 7 (rowA (b + 87) 30 k)) ∨ hsP cid (b + 61) (b + 62) q E ∨ scP cid (b + 82) (b + 83) q E ∨ ∃ s, s < k ∧ stP cid (b + 87 + 30 * s) (b + 87 + 30 * s + 1) 3 12 q E
theorem ccP_rng {cid : Nat → ClassId} {a b k q : Nat} {E : va_E} (h : ccP cid a b k q E) : q = a ∨ (b ≤ q ∧ q < b + 87 + 30 * k) := by
  rcases h with ⟨rfl, -⟩ | h | h | ⟨rfl, -⟩ | h | h | ⟨s, hs, h⟩
  · omega
  · have := stP_rng (by decide) (by decide) h; omega
  · have := stP_rng (by decide) (by decide) h; omega
  · omega
  · have := hsP_rng h; omega
  · have := scP_rng h; omega
  · have := stP_rng (by decide) (by decide) h; omega
theorem lp_X6 (D : va_G) (cid : Nat → ClassId) (a sz : Nat) (ha : a < sz) : ∀ n k : Nat, k + n = 7 → HW D cid a sz cX6_init RX6 2 4 74 297 13080 (87, List.replicate 2 none, [], ccP cid a sz 7, sz + 297) 59 [some (.inr (a, 0, 0, 0)), some (.inl (nI k))] [] (ccP cid a sz k) (sz + 87 + 30 * k) (87 + 30 * k) (11596 + 212 * k) := by
  intro n
  induction n with
  | zero =>
    intro k hk
    have hk3 : k = 7 := hk
    subst hk3
    refine h_iload (k := 1) dX6_init_59 rfl rfl ?_
    refine h_aload (k := 0) dX6_init_60 rfl rfl ?_
    refine h_get (C := RX6) (T := TX6) (N := 7) (Or.inl ⟨rfl, rfl⟩) rfl inX6 2 (by decide) fl_X6_19 rfl dX6_init_61 rfl ?_
    refine h_alen (kd := 11) (t0 := 3) (v := nI 7) (Or.inr (Or.inr (Or.inr (Or.inl ⟨rfl, rfl⟩)))) rfl rfl dX6_init_64 rfl ?_
    refine h_icmp_ge dX6_init_65 (tgt := 87) (by decide) rfl (fun _ => ?_) (fun h => absurd (nI_le (Nat.le_refl 7) (by decide)) h)
    exact h_exit rfl rfl ex0 rfl (fun q E h => h) rfl (by decide) (by decide)
  | succ n ih =>
    intro k hk
    refine h_iload (k := 1) dX6_init_59 rfl rfl ?_
    refine h_aload (k := 0) dX6_init_60 rfl rfl ?_
    refine h_get (C := RX6) (T := TX6) (N := 7) (Or.inl ⟨rfl, rfl⟩) rfl inX6 2 (by decide) fl_X6_19 rfl dX6_init_61 rfl ?_
    refine h_alen (kd := 11) (t0 := 3) (v := nI 7) (Or.inr (Or.inr (Or.inr (Or.inl ⟨rfl, rfl⟩)))) rfl rfl dX6_init_64 rfl ?_
    refine h_icmp_ge dX6_init_65 (tgt := 87) (by decide) rfl (fun h => absurd h (nI_ge (by omega) (by omega))) (fun _ => ?_)
    refine h_aload (k := 0) dX6_init_68 rfl rfl ?_
    refine h_get (C := RX6) (T := TX6) (N := 7) (Or.inl ⟨rfl, rfl⟩) rfl inX6 2 (by decide) fl_X6_19 rfl dX6_init_69 rfl ?_
    refine h_iload (k := 1) dX6_init_72 rfl rfl ?_
    refine h_new (ci := 3) (C := RX3) (T := TX3) (N := 8) (fs := [.int 0, .int 0, .int 0, .int 0, .int 0, .int 0, .null, .null]) rfl inX3 tyX3 tyX3_ok (by decide) cl_X6_7 it_X3 ini_X3 (by omega) (by omega) dX6_init_73 rfl ?_
    refine h_dup dX6_init_76 rfl ?_
    refine h_call (ci_X3 D cid (sz + 87 + 30 * k) (sz + 87 + 30 * k + 1) (by omega)) cw_X6_9 rfl mi_X3_init (by omega) (Or.inl ⟨rfl, rfl⟩) (by omega) (by decide) (by decide) (by omega) (by omega) (by simp) dX6_init_77 rfl ?_
    refine h_aast (x := sz + 60) (y := sz + 87 + 30 * k) (kd := 11) (t0 := 3) (C := RX3) (T := TX3) (N := 8) (ci := 3) (n := 7) (f := rowA (sz + 87) 30 k) (fs := [.int 0, .int (nI 200), .int (nI 30), .int (nI 3), .int 0, .int 0, .ref (sz + 87 + 30 * k + 1), .ref (sz + 87 + 30 * k + 1 + 1)]) (by omega) (Or.inr ⟨by omega, Or.inr ⟨by omega, Or.inr (Or.inr (Or.inr (Or.inl ⟨rfl, rfl⟩)))⟩⟩) rfl (Or.inl (Or.inl ⟨rfl, rfl⟩)) rfl (vp_in_nI (by omega) (by omega)) dX6_init_80 rfl ?_
    refine h_iinc (k := 1) (y := nI (k + 1)) (by decide) dX6_init_81 rfl (nI_1 k) rfl ?_
    refine h_goto (pc' := 59) dX6_init_84 (by decide) ?_
    refine h_to (w' := ccP cid a sz (k + 1)) (fun q E h => ?_) (by omega) (by omega) (by omega) (ih (k + 1) (by omega))
    rcases h with ⟨hq, rfl⟩ | h | h | ⟨hq, rfl⟩ | h | h | ⟨s, hs, h⟩
    · exact Or.inr ⟨by omega, Or.inr ⟨by omega, Or.inr ⟨by omega, Or.inl ⟨hq, rfl⟩⟩⟩⟩
    · have hr := stP_rng (by decide) (by decide) h
      exact Or.inr ⟨by omega, Or.inr ⟨by omega, Or.inr ⟨by omega, Or.inr (Or.inl h)⟩⟩⟩
    · have hr := stP_rng (by decide) (by decide) h
      exact Or.inr ⟨by omega, Or.inr ⟨by omega, Or.inr ⟨by omega, Or.inr (Or.inr (Or.inl h))⟩⟩⟩
    · exact Or.inl ⟨hq, by rw [rowA_up (sz + 87) 30 k (by omega)]⟩
    · have hr := hsP_rng h
      exact Or.inr ⟨by omega, Or.inr ⟨by omega, Or.inr ⟨by omega, Or.inr (Or.inr (Or.inr (Or.inr (Or.inl h))))⟩⟩⟩
    · have hr := scP_rng h
      exact Or.inr ⟨by omega, Or.inr ⟨by omega, Or.inr ⟨by omega, Or.inr (Or.inr (Or.inr (Or.inr (Or.inr (Or.inl h)))))⟩⟩⟩
    · have hr := stP_rng (by decide) (by decide) h
      by_cases e : s = k
      · subst e; exact Or.inr ⟨by omega, Or.inl h⟩
      · exact Or.inr ⟨by omega, Or.inr ⟨by omega, Or.inr ⟨by omega, Or.inr (Or.inr (Or.inr (Or.inr (Or.inr (Or.inr ⟨s, by omega, h⟩)))))⟩⟩⟩
set_option maxHeartbeats 2000000 in
theorem ci_X6 (D : va_G) (cid : Nat → ClassId) (a sz : Nat) (ha : a < sz) : CI yX6_init cX6_init 2 4 74 D cid a sz (.inr (6, [.null, .null, .null, .int 0, .int 0, .null, .null])) (ccP cid a sz 7) 297 297 13080 := by
  refine CI.of (by decide) rfl (by decide) dX6_init_87 _ rfl ?_
  refine h_aload (k := 0) dX6_init_0 rfl rfl ?_
  refine h_objInit dX6_init_1 oi_X6 (by decide) (by decide) rfl ?_
  refine h_aload (k := 0) dX6_init_4 rfl rfl ?_
  refine h_new (ci := 3) (C := RX3) (T := TX3) (N := 8) (fs := [.int 0, .int 0, .int 0, .int 0, .int 0, .int 0, .null, .null]) rfl inX3 tyX3 tyX3_ok (by decide) cl_X6_7 it_X3 ini_X3 (by omega) (by omega) dX6_init_5 rfl ?_
  refine h_dup dX6_init_8 rfl ?_
  refine h_call (ci_X3 D cid sz (sz + 1) (by omega)) cw_X6_9 rfl mi_X3_init (by omega) (Or.inl ⟨rfl, rfl⟩) (by omega) (by decide) (by decide) (by omega) (by omega) (by simp) dX6_init_9 rfl ?_
  refine h_to (sz' := sz + 30) (j' := 30) (i' := 212) (fun q E h => h) (by omega) (by omega) (by omega) ?_
  refine h_putF (C := RX6) (T := TX6) (N := 7) (ty := .object RX3) (Or.inl rfl) (Or.inr ⟨by omega, Or.inr ⟨by omega, ⟨rfl, rfl⟩⟩⟩) rfl inX6 tyX6 tyX6_ok nmX6 0 (by decide) fl_X6_10 rfl (by decide) rfl (by decide +kernel) rfl rfl (by show 0 < 7; decide) dX6_init_12 rfl ?_
  refine h_aload (k := 0) dX6_init_15 rfl rfl ?_
  refine h_new (ci := 3) (C := RX3) (T := TX3) (N := 8) (fs := [.int 0, .int 0, .int 0, .int 0, .int 0, .int 0, .null, .null]) rfl inX3 tyX3 tyX3_ok (by decide) cl_X6_7 it_X3 ini_X3 (by omega) (by omega) dX6_init_16 rfl ?_
  refine h_dup dX6_init_19 rfl ?_
  refine h_call (ci_X3 D cid (sz + 30) (sz + 30 + 1) (by omega)) cw_X6_9 rfl mi_X3_init (by omega) (Or.inl ⟨rfl, rfl⟩) (by omega) (by decide) (by decide) (by omega) (by omega) (by simp) dX6_init_20 rfl ?_
  refine h_to (sz' := sz + 60) (j' := 60) (i' := 424) (fun q E h => h) (by omega) (by omega) (by omega) ?_
  refine h_putF (C := RX6) (T := TX6) (N := 7) (ty := .object RX3) (Or.inl rfl) (Or.inr ⟨by omega, Or.inr ⟨by omega, Or.inl ⟨rfl, rfl⟩⟩⟩) rfl inX6 tyX6 tyX6_ok nmX6 1 (by decide) fl_X6_16 rfl (by decide) rfl (by decide +kernel) rfl rfl (by show 1 < 7; decide) dX6_init_23 rfl ?_
  refine h_aload (k := 0) dX6_init_26 rfl rfl ?_
  refine h_bipush (v := nI 7) dX6_init_27 (by decide) rfl ?_
  refine h_anew (kd := 11) (t0 := 3) (C := RX3) (by decide) cl_X6_7 ao_X3 rfl (by decide) (by omega) (by omega) dX6_init_29 rfl ?_
  refine h_to (sz' := sz + 61) (j' := 61) (i' := 431) (fun q E h => h) (by omega) (by omega) (by omega) ?_
  refine h_putF (C := RX6) (T := TX6) (N := 7) (ty := .array (.object RX3)) (Or.inl rfl) (Or.inr ⟨by omega, Or.inl ⟨rfl, rfl⟩⟩) rfl inX6 tyX6 tyX6_ok nmX6 2 (by decide) fl_X6_19 rfl (by decide) rfl (by decide +kernel) rfl rfl (by show 2 < 7; decide) dX6_init_32 rfl ?_
  refine h_aload (k := 0) dX6_init_35 rfl rfl ?_
  refine h_new (ci := 0) (C := RX0) (T := TX0) (N := 2) (fs := [.null, .null]) rfl inX0 tyX0 tyX0_ok (by decide) cl_X6_23 it_X0 ini_X0 (by omega) (by omega) dX6_init_36 rfl ?_
  refine h_dup dX6_init_39 rfl ?_
  refine h_callN (ci_X0 D cid (sz + 61) (sz + 61 + 1) (by omega)) cw_X6_25 rfl mi_X0_init (by omega) (Or.inl ⟨rfl, rfl⟩) (by omega) (by decide) (by decide) (by omega) (by omega) (by simp) dX6_init_40 rfl ?_
  refine h_to (sz' := sz + 82) (j' := 82) (i' := 11269) (fun q E h => h) (by omega) (by omega) (by omega) ?_
  refine h_putF (C := RX6) (T := TX6) (N := 7) (ty := .object RX0) (Or.inl rfl) (Or.inr ⟨by omega, Or.inr ⟨by omega, Or.inl ⟨rfl, rfl⟩⟩⟩) rfl inX6 tyX6 tyX6_ok nmX6 5 (by decide) fl_X6_26 rfl (by decide) rfl (by decide +kernel) rfl rfl (by show 5 < 7; decide) dX6_init_43 rfl ?_
  refine h_aload (k := 0) dX6_init_46 rfl rfl ?_
  refine h_new (ci := 2) (C := RX2) (T := TX2) (N := 7) (fs := [.null, .int 0, .int 0, .null, .null, .null, .int 0]) rfl inX2 tyX2 tyX2_ok (by decide) cl_X6_30 it_X2 ini_X2 (by omega) (by omega) dX6_init_47 rfl ?_
  refine h_dup dX6_init_50 rfl ?_
  refine h_callN (ci_X2 D cid (sz + 82) (sz + 82 + 1) (by omega)) cw_X6_32 rfl mi_X2_init (by omega) (Or.inl ⟨rfl, rfl⟩) (by omega) (by decide) (by decide) (by omega) (by omega) (by simp) dX6_init_51 rfl ?_
  refine h_to (sz' := sz + 87) (j' := 87) (i' := 11596) (fun q E h => h) (by omega) (by omega) (by omega) ?_
  refine h_putF (C := RX6) (T := TX6) (N := 7) (ty := .object RX2) (Or.inl rfl) (Or.inr ⟨by omega, Or.inr ⟨by omega, Or.inl ⟨rfl, rfl⟩⟩⟩) rfl inX6 tyX6 tyX6_ok nmX6 6 (by decide) fl_X6_33 rfl (by decide) rfl (by decide +kernel) rfl rfl (by show 6 < 7; decide) dX6_init_54 rfl ?_
  refine h_iconst (v := nI 0) dX6_init_57 rfl rfl ?_
  refine h_istore (k := 1) (by decide) dX6_init_58 rfl ?_
  refine h_to (w' := ccP cid a sz 0) (fun q E h => ?_) rfl (by decide) (by decide) (lp_X6 D cid a sz ha 7 0 rfl)
  rcases h with ⟨hq, rfl⟩ | h | h | ⟨hq, rfl⟩ | h | h | ⟨s, hs, -⟩
  · exact Or.inl ⟨hq, rfl⟩
  · have hr := stP_rng (by decide) (by decide) h
    exact Or.inr ⟨by omega, Or.inr ⟨by omega, Or.inr ⟨by omega, Or.inr ⟨by omega, Or.inr ⟨by omega, Or.inr ⟨by omega, Or.inr ⟨by omega, Or.inr ⟨by omega, Or.inr ⟨by omega, Or.inr ⟨by omega, Or.inr ⟨by omega, Or.inr ⟨by omega, Or.inl h⟩⟩⟩⟩⟩⟩⟩⟩⟩⟩⟩⟩
  · have hr := stP_rng (by decide) (by decide) h
    exact Or.inr ⟨by omega, Or.inr ⟨by omega, Or.inr ⟨by omega, Or.inr ⟨by omega, Or.inr ⟨by omega, Or.inr ⟨by omega, Or.inr ⟨by omega, Or.inr ⟨by omega, Or.inr ⟨by omega, Or.inl h⟩⟩⟩⟩⟩⟩⟩⟩⟩
  · rw [rowA_0]; exact Or.inr ⟨by omega, Or.inr ⟨by omega, Or.inr ⟨by omega, Or.inr ⟨by omega, Or.inr ⟨by omega, Or.inr ⟨by omega, Or.inr ⟨by omega, Or.inl ⟨hq, rfl⟩⟩⟩⟩⟩⟩⟩⟩
  · have hr := hsP_rng h
    exact Or.inr ⟨by omega, Or.inr ⟨by omega, Or.inr ⟨by omega, Or.inr ⟨by omega, Or.inl h⟩⟩⟩⟩
  · have hr := scP_rng h
    exact Or.inr ⟨by omega, Or.inl h⟩
  · omega
