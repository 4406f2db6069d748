/-- a state at a, what it reaches from b on, its first k vans and first p pallets set -/
def stP (cid : Nat → ClassId) (a b k p : Nat) : Pw := fun q E => (q = a ∧ E = .inr (3, [.int 0, .int (nI 200), .int (nI 30), .int (nI 3), .int 0, .int 0, .ref b, .ref (b + 1)])) ∨ (q = b ∧ E = arE (cid 12) 3 (rowA (b + 2) 5 k)) ∨ (q = b + 1 ∧ E = arE (cid 10) 12 (rowA (b + 17) 1 p)) ∨ (∃ v, v < k ∧ vnP cid (b + 2 + 5 * v) (b + 2 + 5 * v + 1) 3 q E) ∨ ∃ x, x < p ∧ q = b + 17 + x ∧ E = pl0
theorem stP_rng {cid : Nat → ClassId} {a b k p q : Nat} {E : va_E} (hk : k ≤ 3) (hp : p ≤ 12) (h : stP cid a b k p q E) : q = a ∨ (b ≤ q ∧ q < b + 29) := by
  rcases h with ⟨rfl, -⟩ | ⟨rfl, -⟩ | ⟨rfl, -⟩ | ⟨v, hv, h⟩ | ⟨x, hx, rfl, -⟩
  · omega
  · omega
  · omega
  · have := vnP_rng h; omega
  · omega
theorem lp_X3b (D : va_G) (cid : Nat → ClassId) (a sz : Nat) (ha : a < sz) : ∀ n p : Nat, p + n = 12 → HW D cid a sz cX3_init RX3 2 3 53 29 204 (92, List.replicate 2 none, [], stP cid a sz 3 12, sz + 29) 67 [some (.inr (a, 0, 0, 0)), some (.inl (nI p))] [] (stP cid a sz 3 p) (sz + 17 + p) (17 + p) (84 + 10 * p) := by
  intro n
  induction n with
  | zero =>
    intro p hk
    have hk3 : p = 12 := hk
    subst hk3
    refine h_iload (k := 1) dX3_init_67 rfl rfl ?_
    refine h_bipush (v := nI 12) dX3_init_68 (by decide) rfl ?_
    refine h_icmp_ge dX3_init_70 (tgt := 92) (by decide) rfl (fun _ => ?_) (fun h => absurd (nI_le (Nat.le_refl 12) (by decide)) h)
    exact h_exit rfl rfl ex0 rfl (fun q E h => h) rfl (by decide) (by decide)
  | succ n ih =>
    intro p hk
    refine h_iload (k := 1) dX3_init_67 rfl rfl ?_
    refine h_bipush (v := nI 12) dX3_init_68 (by decide) rfl ?_
    refine h_icmp_ge dX3_init_70 (tgt := 92) (by decide) rfl (fun h => absurd h (nI_ge (by omega) (by omega))) (fun _ => ?_)
    refine h_aload (k := 0) dX3_init_73 rfl rfl ?_
    refine h_get (C := RX3) (T := TX3) (N := 8) (Or.inl ⟨rfl, rfl⟩) rfl inX3 7 (by decide) fl_X3_29 rfl dX3_init_74 rfl ?_
    refine h_iload (k := 1) dX3_init_77 rfl rfl ?_
    refine h_new (ci := 1) (C := RX1) (T := TX1) (N := 10) (fs := [.int 0, .int 0, .int 0, .int 0, .int 0, .int 0, .int 0, .int 0, .int 0, .int 0]) rfl inX1 tyX1 tyX1_ok (by decide) cl_X3_27 it_X1 ini_X1 (by omega) (by omega) dX3_init_78 rfl ?_
    refine h_dup dX3_init_81 rfl ?_
    refine h_callN (ci_X1 D cid (sz + 17 + p) (sz + 17 + p + 1) pl0) cw_X3_34 rfl mi_X1_init (by omega) (Or.inl ⟨rfl, rfl⟩) (by omega) (by decide) (by decide) (by omega) (by omega) (by simp) dX3_init_82 rfl ?_
    refine h_aast (x := sz + 1) (y := sz + 17 + p) (kd := 10) (t0 := 2) (C := RX1) (T := TX1) (N := 10) (ci := 1) (n := 12) (f := rowA (sz + 17) 1 p) (fs := [.int 0, .int 0, .int 0, .int 0, .int 0, .int 0, .int 0, .int 0, .int 0, .int 0]) (by omega) (Or.inr ⟨by omega, Or.inr ⟨by omega, Or.inr (Or.inr (Or.inl ⟨rfl, rfl⟩))⟩⟩) rfl (Or.inl ⟨rfl, rfl⟩) rfl (vp_in_nI (by omega) (by omega)) dX3_init_85 rfl ?_
    refine h_iinc (k := 1) (y := nI (p + 1)) (by decide) dX3_init_86 rfl (nI_1 p) rfl ?_
    refine h_goto (pc' := 67) dX3_init_89 (by decide) ?_
    refine h_to (w' := stP cid a sz 3 (p + 1)) (fun q E h => ?_) (by omega) (by omega) (by omega) (ih (p + 1) (by omega))
    rcases h with ⟨hq, rfl⟩ | ⟨hq, rfl⟩ | ⟨hq, rfl⟩ | ⟨v, hv, h⟩ | ⟨x, hx, rfl, rfl⟩
    · exact Or.inr ⟨by omega, Or.inr ⟨by omega, Or.inr ⟨by omega, Or.inl ⟨hq, rfl⟩⟩⟩⟩
    · exact Or.inr ⟨by omega, Or.inr ⟨by omega, Or.inr ⟨by omega, Or.inr (Or.inl ⟨hq, rfl⟩)⟩⟩⟩
    · have e := rowA_up (sz + 17) 1 p (by omega)
      rw [Nat.one_mul] at e
      exact Or.inl ⟨hq, by rw [e]⟩
    · have hr := vnP_rng h
      exact Or.inr ⟨by omega, Or.inr ⟨by omega, Or.inr ⟨by omega, Or.inr (Or.inr (Or.inr (Or.inl ⟨v, hv, h⟩)))⟩⟩⟩
    · by_cases e : x = p
      · subst e; exact Or.inr ⟨by omega, Or.inl ⟨rfl, rfl⟩⟩
      · exact Or.inr ⟨by omega, Or.inr ⟨by omega, Or.inr ⟨by omega, Or.inr (Or.inr (Or.inr (Or.inr ⟨x, by omega, rfl, rfl⟩)))⟩⟩⟩
theorem lp_X3a (D : va_G) (cid : Nat → ClassId) (a sz : Nat) (ha : a < sz) : ∀ n k : Nat, k + n = 3 → HW D cid a sz cX3_init RX3 2 3 53 29 204 (92, List.replicate 2 none, [], stP cid a sz 3 12, sz + 29) 41 [some (.inr (a, 0, 0, 0)), some (.inl (nI k))] [] (stP cid a sz k 0) (sz + 2 + 5 * k) (2 + 5 * k) (15 + 23 * k) := by
  intro n
  induction n with
  | zero =>
    intro k hk
    have hk3 : k = 3 := hk
    subst hk3
    refine h_iload (k := 1) dX3_init_41 rfl rfl ?_
    refine h_iconst (v := nI 3) dX3_init_42 rfl rfl ?_
    refine h_icmp_ge dX3_init_43 (tgt := 65) (by decide) rfl (fun _ => ?_) (fun h => absurd (nI_le (Nat.le_refl 3) (by decide)) h)
    refine h_iconst (v := nI 0) dX3_init_65 rfl rfl ?_
    refine h_istore (k := 1) (by decide) dX3_init_66 rfl ?_
    exact lp_X3b D cid a sz ha 12 0 rfl
  | succ n ih =>
    intro k hk
    refine h_iload (k := 1) dX3_init_41 rfl rfl ?_
    refine h_iconst (v := nI 3) dX3_init_42 rfl rfl ?_
    refine h_icmp_ge dX3_init_43 (tgt := 65) (by decide) rfl (fun h => absurd h (nI_ge (by omega) (by omega))) (fun _ => ?_)
    refine h_aload (k := 0) dX3_init_46 rfl rfl ?_
    refine h_get (C := RX3) (T := TX3) (N := 8) (Or.inl ⟨rfl, rfl⟩) rfl inX3 6 (by decide) fl_X3_23 rfl dX3_init_47 rfl ?_
    refine h_iload (k := 1) dX3_init_50 rfl rfl ?_
    refine h_new (ci := 4) (C := RX4) (T := TX4) (N := 5) (fs := [.int 0, .int 0, .int 0, .int 0, .null]) rfl inX4 tyX4 tyX4_ok (by decide) cl_X3_21 it_X4 ini_X4 (by omega) (by omega) dX3_init_51 rfl ?_
    refine h_dup dX3_init_54 rfl ?_
    refine h_call (ci_X4 D cid (sz + 2 + 5 * k) (sz + 2 + 5 * k + 1) (by omega)) cw_X3_33 rfl mi_X4_init (by omega) (Or.inl ⟨rfl, rfl⟩) (by omega) (by decide) (by decide) (by omega) (by omega) (by simp) dX3_init_55 rfl ?_
    refine h_aast (x := sz) (y := sz + 2 + 5 * k) (kd := 12) (t0 := 4) (C := RX4) (T := TX4) (N := 5) (ci := 4) (n := 3) (f := rowA (sz + 2) 5 k) (fs := [.int 0, .int 0, .int 0, .int 0, .ref (sz + 2 + 5 * k + 1)]) (by omega) (Or.inr ⟨by omega, Or.inr ⟨by omega, Or.inr (Or.inl ⟨rfl, rfl⟩)⟩⟩) rfl (Or.inl (Or.inl ⟨rfl, rfl⟩)) rfl (vp_in_nI (by omega) (by omega)) dX3_init_58 rfl ?_
    refine h_iinc (k := 1) (y := nI (k + 1)) (by decide) dX3_init_59 rfl (nI_1 k) rfl ?_
    refine h_goto (pc' := 41) dX3_init_62 (by decide) ?_
    refine h_to (w' := stP cid a sz (k + 1) 0) (fun q E h => ?_) (by omega) (by omega) (by omega) (ih (k + 1) (by omega))
    rcases h with ⟨hq, rfl⟩ | ⟨hq, rfl⟩ | ⟨hq, rfl⟩ | ⟨v, hv, h⟩ | ⟨x, hx, -⟩
    · exact Or.inr ⟨by omega, Or.inr ⟨by omega, Or.inr ⟨by omega, Or.inl ⟨hq, rfl⟩⟩⟩⟩
    · exact Or.inl ⟨hq, by rw [rowA_up (sz + 2) 5 k (by omega)]⟩
    · exact Or.inr ⟨by omega, Or.inr ⟨by omega, Or.inr ⟨by omega, Or.inr (Or.inr (Or.inl ⟨hq, rfl⟩))⟩⟩⟩
    · have hr := vnP_rng h
      by_cases e : v = k
      · subst e; exact Or.inr ⟨by omega, Or.inl h⟩
      · exact Or.inr ⟨by omega, Or.inr ⟨by omega, Or.inr ⟨by omega, Or.inr (Or.inr (Or.inr (Or.inl ⟨v, by omega, h⟩)))⟩⟩⟩
    · omega
abbrev sn0 : va_E := .inr (3, [.int 0, .int 0, .int 0, .int 0, .int 0, .int 0, .null, .null])
theorem ci_X3 (D : va_G) (cid : Nat → ClassId) (a sz : Nat) (ha : a < sz) : CI yX3_init cX3_init 2 3 53 D cid a sz sn0 (stP cid a sz 3 12) 29 29 204 := by
  refine CI.of (by decide) rfl (by decide) dX3_init_92 _ rfl ?_
  refine h_aload (k := 0) dX3_init_0 rfl rfl ?_
  refine h_objInit dX3_init_1 oi_X3 (by decide) (by decide) rfl ?_
  refine h_aload (k := 0) dX3_init_4 rfl rfl ?_
  refine h_sipush (v := nI 200) dX3_init_5 (by decide) rfl ?_
  refine h_put (C := RX3) (T := TX3) (N := 8) (ty := .int) (Or.inl rfl) (⟨rfl, rfl⟩) rfl inX3 tyX3 tyX3_ok nmX3 1 (by decide) fl_X3_9 rfl (by decide +kernel) rfl rfl (by show 1 < 8; decide) dX3_init_8 rfl ?_
  refine h_aload (k := 0) dX3_init_11 rfl rfl ?_
  refine h_bipush (v := nI 30) dX3_init_12 (by decide) rfl ?_
  refine h_put (C := RX3) (T := TX3) (N := 8) (ty := .int) (Or.inl rfl) (Or.inl ⟨rfl, rfl⟩) rfl inX3 tyX3 tyX3_ok nmX3 2 (by decide) fl_X3_15 rfl (by decide +kernel) rfl rfl (by show 2 < 8; decide) dX3_init_14 rfl ?_
  refine h_aload (k := 0) dX3_init_17 rfl rfl ?_
  refine h_iconst (v := nI 3) dX3_init_18 rfl rfl ?_
  refine h_put (C := RX3) (T := TX3) (N := 8) (ty := .int) (Or.inl rfl) (Or.inl ⟨rfl, rfl⟩) rfl inX3 tyX3 tyX3_ok nmX3 3 (by decide) fl_X3_18 rfl (by decide +kernel) rfl rfl (by show 3 < 8; decide) dX3_init_19 rfl ?_
  refine h_aload (k := 0) dX3_init_22 rfl rfl ?_
  refine h_iconst (v := nI 3) dX3_init_23 rfl rfl ?_
  refine h_anew (kd := 12) (t0 := 4) (C := RX4) (by decide) cl_X3_21 ao_X4 rfl (by decide) (by omega) (by omega) dX3_init_24 rfl ?_
  refine h_putF (C := RX3) (T := TX3) (N := 8) (ty := .array (.object RX4)) (Or.inl rfl) (Or.inr ⟨by omega, Or.inl ⟨rfl, rfl⟩⟩) rfl inX3 tyX3 tyX3_ok nmX3 6 (by decide) fl_X3_23 rfl (by decide) rfl (by decide +kernel) rfl rfl (by show 6 < 8; decide) dX3_init_27 rfl ?_
  refine h_aload (k := 0) dX3_init_30 rfl rfl ?_
  refine h_bipush (v := nI 12) dX3_init_31 (by decide) rfl ?_
  refine h_anew (kd := 10) (t0 := 2) (C := RX1) (by decide) cl_X3_27 ao_X1 rfl (by decide) (by omega) (by omega) dX3_init_33 rfl ?_
  refine h_putF (C := RX3) (T := TX3) (N := 8) (ty := .array (.object RX1)) (Or.inl rfl) (Or.inr ⟨by omega, Or.inl ⟨rfl, rfl⟩⟩) rfl inX3 tyX3 tyX3_ok nmX3 7 (by decide) fl_X3_29 rfl (by decide) rfl (by decide +kernel) rfl rfl (by show 7 < 8; decide) dX3_init_36 rfl ?_
  refine h_iconst (v := nI 0) dX3_init_39 rfl rfl ?_
  refine h_istore (k := 1) (by decide) dX3_init_40 rfl ?_
  refine h_to (w' := stP cid a sz 0 0) (fun q E h => ?_) rfl (by decide) (by decide) (lp_X3a D cid a sz ha 3 0 rfl)
  rcases h with ⟨hq, rfl⟩ | ⟨hq, rfl⟩ | ⟨hq, rfl⟩ | ⟨v, hv, -⟩ | ⟨x, hx, -⟩
  · exact Or.inl ⟨hq, rfl⟩
  · rw [rowA_0]; exact Or.inr ⟨by omega, Or.inr ⟨by omega, Or.inr ⟨by omega, Or.inl ⟨hq, rfl⟩⟩⟩⟩
  · rw [rowA_0]; exact Or.inr ⟨by omega, Or.inl ⟨hq, rfl⟩⟩
  · omega
  · omega
/-- a script at a, its rows from b on -/
def scP (cid : Nat → ClassId) (a b : Nat) : Pw := fun q E => (q = a ∧ E = .inr (2, [.ref b, .int 0, .int 0, .ref (b + 1), .ref (b + 2), .ref (b + 3), .int 0])) ∨ (q = b ∧ E = .inl (cid 8, 80, .inl (fun _ => 0))) ∨ ∃ k, k < 3 ∧ q = b + 1 + k ∧ E = .inl (cid 9, 80, .inl (fun _ => 0))
theorem scP_rng {cid : Nat → ClassId} {a b q : Nat} {E : va_E} (h : scP cid a b q E) : q = a ∨ (b ≤ q ∧ q < b + 4) := by
  rcases h with ⟨rfl, -⟩ | ⟨rfl, -⟩ | ⟨k, hk, rfl, -⟩ <;> omega
theorem ci_X2 (D : va_G) (cid : Nat → ClassId) (a sz : Nat) (ha : a < sz) : CI yX2_init cX2_init 1 1 12 D cid a sz (.inr (2, [.null, .int 0, .int 0, .null, .null, .null, .int 0])) (scP cid a sz) 4 4 320 := by
  refine CI.of (by decide) rfl (by decide) dX2_init_36 _ rfl ?_
  refine h_aload (k := 0) dX2_init_0 rfl rfl ?_
  refine h_objInit dX2_init_1 oi_X2 (by decide) (by decide) rfl ?_
  refine h_aload (k := 0) dX2_init_4 rfl rfl ?_
  refine h_bipush (v := nI 80) dX2_init_5 (by decide) rfl ?_
  refine h_newC (by decide) (by decide) (by decide) (by decide) dX2_init_7 rfl ?_
  refine h_putF (C := RX2) (T := TX2) (N := 7) (ty := .array .char) (Or.inl rfl) (Or.inr ⟨by omega, ⟨rfl, rfl⟩⟩) rfl inX2 tyX2 tyX2_ok nmX2 0 (by decide) fl_X2_9 rfl (by decide) rfl (by decide +kernel) rfl rfl (by show 0 < 7; decide) dX2_init_9 rfl ?_
  refine h_aload (k := 0) dX2_init_12 rfl rfl ?_
  refine h_bipush (v := nI 80) dX2_init_13 (by decide) rfl ?_
  refine h_newI (by decide) (by decide) (by decide) (by decide) dX2_init_15 rfl ?_
  refine h_putF (C := RX2) (T := TX2) (N := 7) (ty := .array .int) (Or.inl rfl) (Or.inr ⟨by omega, Or.inl ⟨rfl, rfl⟩⟩) rfl inX2 tyX2 tyX2_ok nmX2 3 (by decide) fl_X2_15 rfl (by decide) rfl (by decide +kernel) rfl rfl (by show 3 < 7; decide) dX2_init_17 rfl ?_
  refine h_aload (k := 0) dX2_init_20 rfl rfl ?_
  refine h_bipush (v := nI 80) dX2_init_21 (by decide) rfl ?_
  refine h_newI (by decide) (by decide) (by decide) (by decide) dX2_init_23 rfl ?_
  refine h_putF (C := RX2) (T := TX2) (N := 7) (ty := .array .int) (Or.inl rfl) (Or.inr ⟨by omega, Or.inl ⟨rfl, rfl⟩⟩) rfl inX2 tyX2 tyX2_ok nmX2 4 (by decide) fl_X2_19 rfl (by decide) rfl (by decide +kernel) rfl rfl (by show 4 < 7; decide) dX2_init_25 rfl ?_
  refine h_aload (k := 0) dX2_init_28 rfl rfl ?_
  refine h_bipush (v := nI 80) dX2_init_29 (by decide) rfl ?_
  refine h_newI (by decide) (by decide) (by decide) (by decide) dX2_init_31 rfl ?_
  refine h_putF (C := RX2) (T := TX2) (N := 7) (ty := .array .int) (Or.inl rfl) (Or.inr ⟨by omega, Or.inl ⟨rfl, rfl⟩⟩) rfl inX2 tyX2 tyX2_ok nmX2 5 (by decide) fl_X2_22 rfl (by decide) rfl (by decide +kernel) rfl rfl (by show 5 < 7; decide) dX2_init_33 rfl ?_
  refine h_exit rfl rfl ex0 rfl (fun q E h => ?_) rfl (by decide) (by decide)
  rcases h with ⟨hq, rfl⟩ | ⟨hq, rfl⟩ | ⟨k, hk, hq, rfl⟩
  · exact Or.inl ⟨hq, rfl⟩
  · exact Or.inr ⟨by omega, Or.inr ⟨by omega, Or.inr ⟨by omega, Or.inr ⟨by omega, Or.inr ⟨by omega, Or.inr ⟨by omega, Or.inr ⟨by omega, Or.inl ⟨hq, rfl⟩⟩⟩⟩⟩⟩⟩⟩
  · rcases (by omega : k = 0 ∨ k = 1 ∨ k = 2) with rfl | rfl | rfl
    · exact Or.inr ⟨by omega, Or.inr ⟨by omega, Or.inr ⟨by omega, Or.inr ⟨by omega, Or.inr ⟨by omega, Or.inl ⟨hq, rfl⟩⟩⟩⟩⟩⟩
    · exact Or.inr ⟨by omega, Or.inr ⟨by omega, Or.inr ⟨by omega, Or.inl ⟨hq, rfl⟩⟩⟩⟩
    · exact Or.inr ⟨by omega, Or.inl ⟨hq, rfl⟩⟩
/-- a history at a, its two rows of rows from b on -/
def hsP (cid : Nat → ClassId) (a b : Nat) : Pw := fun q E => (q = a ∧ E = .inr (0, [.ref b, .ref (b + 10)])) ∨ (∃ t, t < 2 ∧ q = b + 10 * t ∧ E = arE (cid 14) 9 (fun i => if i < 9 then some (b + 10 * t + 1 + i) else none)) ∨ ∃ t k, t < 2 ∧ k < 9 ∧ q = b + 10 * t + 1 + k ∧ E = .inl (cid 9, 601, .inl (fun _ => 0))
theorem hsP_rng {cid : Nat → ClassId} {a b q : Nat} {E : va_E} (h : hsP cid a b q E) : q = a ∨ (b ≤ q ∧ q < b + 20) := by
  rcases h with ⟨rfl, -⟩ | ⟨t, ht, rfl, -⟩ | ⟨t, k, ht, hk, rfl, -⟩ <;> omega
theorem ci_X0 (D : va_G) (cid : Nat → ClassId) (a sz : Nat) (ha : a < sz) : CI yX0_init cX0_init 1 1 12 D cid a sz (.inr (0, [.null, .null])) (hsP cid a sz) 20 20 10836 := by
  refine CI.of (by decide) rfl (by decide) dX0_init_30 _ rfl ?_
  refine h_aload (k := 0) dX0_init_0 rfl rfl ?_
  refine h_objInit dX0_init_1 oi_X0 (by decide) (by decide) rfl ?_
  refine h_aload (k := 0) dX0_init_4 rfl rfl ?_
  refine h_bipush (v := nI 9) dX0_init_5 (by decide) rfl ?_
  refine h_sipush (v := nI 601) dX0_init_7 (by decide) rfl ?_
  refine h_mna (N := 9) (K := 601) (by decide) (by decide) cl_X0_9 (by decide) (by decide) dX0_init_10 rfl ?_
  refine h_putF (C := RX0) (T := TX0) (N := 2) (ty := .array (.array .int)) (Or.inl rfl) (Or.inl ⟨rfl, rfl⟩) rfl inX0 tyX0 tyX0_ok nmX0 0 (by decide) fl_X0_11 rfl (by decide) rfl (by decide +kernel) rfl rfl (by show 0 < 2; decide) dX0_init_14 rfl ?_
  refine h_aload (k := 0) dX0_init_17 rfl rfl ?_
  refine h_bipush (v := nI 9) dX0_init_18 (by decide) rfl ?_
  refine h_sipush (v := nI 601) dX0_init_20 (by decide) rfl ?_
  refine h_mna (N := 9) (K := 601) (by decide) (by decide) cl_X0_9 (by decide) (by decide) dX0_init_23 rfl ?_
  refine h_putF (C := RX0) (T := TX0) (N := 2) (ty := .array (.array .int)) (Or.inl rfl) (Or.inl (Or.inl ⟨rfl, rfl⟩)) rfl inX0 tyX0 tyX0_ok nmX0 1 (by decide) fl_X0_16 rfl (by decide) rfl (by decide +kernel) rfl rfl (by show 1 < 2; decide) dX0_init_27 rfl ?_
  refine h_exit rfl rfl ex0 rfl (fun q E h => ?_) rfl (by decide) (by decide)
  rcases h with ⟨hq, rfl⟩ | ⟨t, ht, hq, rfl⟩ | ⟨t, k, ht, hk, hq, rfl⟩
  · exact Or.inl ⟨hq, rfl⟩
  · rcases (by omega : t = 0 ∨ t = 1) with rfl | rfl
    · exact Or.inr ⟨by omega, Or.inl (Or.inr ⟨by omega, Or.inr (Or.inl ⟨hq, rfl⟩)⟩)⟩
    · exact Or.inr ⟨by omega, Or.inr (Or.inl ⟨hq, rfl⟩)⟩
  · rcases (by omega : t = 0 ∨ t = 1) with rfl | rfl
    · exact Or.inr ⟨by omega, Or.inl (Or.inr ⟨by omega, Or.inr (Or.inr ⟨k, hk, hq, rfl⟩)⟩)⟩
    · exact Or.inr ⟨by omega, Or.inr (Or.inr ⟨k, hk, hq, rfl⟩)⟩
