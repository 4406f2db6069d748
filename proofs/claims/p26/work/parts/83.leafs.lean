/-! The constructors' contracts, leaves first. -/
theorem ex0 {n : Nat} {ls : List (Option OV)} : (List.replicate n (none : Option OV)).length = n ∧ ∀ (k : Nat) (v : OV), (List.replicate n (none : Option OV))[k]? = some (some v) → ls[k]? = some (some v) := by
  refine ⟨List.length_replicate, fun k v h => ?_⟩
  rw [List.getElem?_replicate] at h
  split at h <;> cases h
/-- a row of references at equal distances, the first k set -/
def rowA (b d k : Nat) : Nat → Option Nat := fun i => if i < k then some (b + d * i) else none
theorem rowA_0 (b d : Nat) : rowA b d 0 = fun _ => none := by funext i; simp [rowA]
theorem rowA_up (b d k : Nat) (hk : k < 1000) : va_up (rowA b d k) (nI k).toNatClampNeg (some (b + d * k)) = rowA b d (k + 1) := by
  rw [nI_clamp (by omega)]
  funext i
  by_cases h : i = k
  · subst h; simp [va_up, rowA]
  · by_cases h2 : i < k
    · simp [va_up, rowA, h, h2, Nat.lt_succ_of_lt h2]
    · simp [va_up, rowA, h, h2, show ¬ i < k + 1 by omega]
abbrev arE (c : ClassId) (n : Nat) (f : Nat → Option Nat) : va_E := .inl (c, n, .inr (.inr (.inr (.inr f))))
abbrev zn0 : va_E := .inr (5, [.int 0, .int 0, .int 0, .int 0, .int 0])
abbrev pl0 : va_E := .inr (1, [.int 0, .int 0, .int 0, .int 0, .int 0, .int 0, .int 0, .int 0, .int 0, .int 0])
abbrev vn0 : va_E := .inr (4, [.int 0, .int 0, .int 0, .int 0, .null])
theorem ci_X5 (D : va_G) (cid : Nat → ClassId) (a sz : Nat) (E0 : va_E) : CI yX5_init cX5_init 1 1 12 D cid a sz E0 (one a E0) 0 0 0 := by
  refine CI.of (by decide) rfl (by decide) dX5_init_4 _ rfl ?_
  refine h_aload (k := 0) dX5_init_0 rfl rfl ?_
  refine h_objInit dX5_init_1 oi_X5 (by decide) (by decide) rfl ?_
  exact h_exit rfl rfl ex0 rfl (fun q E h => h) rfl (by decide) (by decide)
theorem ci_X1 (D : va_G) (cid : Nat → ClassId) (a sz : Nat) (E0 : va_E) : CI yX1_init cX1_init 1 1 12 D cid a sz E0 (one a E0) 0 0 0 := by
  refine CI.of (by decide) rfl (by decide) dX1_init_4 _ rfl ?_
  refine h_aload (k := 0) dX1_init_0 rfl rfl ?_
  refine h_objInit dX1_init_1 oi_X1 (by decide) (by decide) rfl ?_
  exact h_exit rfl rfl ex0 rfl (fun q E h => h) rfl (by decide) (by decide)
/-- a van at a, its row of zones at b, the first k zones behind it -/
def vnP (cid : Nat → ClassId) (a b k : Nat) : Pw := fun q E => (q = a ∧ E = .inr (4, [.int 0, .int 0, .int 0, .int 0, .ref b])) ∨ (q = b ∧ E = arE (cid 13) 3 (rowA (b + 1) 1 k)) ∨ ∃ z, z < k ∧ q = b + 1 + z ∧ E = zn0
theorem vnP_rng {cid : Nat → ClassId} {a b k q : Nat} {E : va_E} (h : vnP cid a b k q E) : q = a ∨ (b ≤ q ∧ q < b + 1 + k) := by
  rcases h with ⟨rfl, -⟩ | ⟨rfl, -⟩ | ⟨z, hz, rfl, -⟩ <;> omega
theorem lp_X4 (D : va_G) (cid : Nat → ClassId) (a sz : Nat) (ha : a < sz) : ∀ n k : Nat, k + n = 3 → HW D cid a sz cX4_init RX4 2 2 32 4 18 (38, List.replicate 2 none, [], vnP cid a sz 3, sz + 4) 14 [some (.inr (a, 0, 0, 0)), some (.inl (nI k))] [] (vnP cid a sz k) (sz + 1 + k) (1 + k) (3 + 5 * k) := by
  intro n
  induction n with
  | zero =>
    intro k hk
    have hk3 : k = 3 := hk
    subst hk3
    refine h_iload (k := 1) dX4_init_14 rfl rfl ?_
    refine h_iconst (v := nI 3) dX4_init_15 rfl rfl ?_
    refine h_icmp_ge dX4_init_16 (tgt := 38) (by decide) rfl (fun _ => ?_) (fun h => absurd (nI_le (Nat.le_refl 3) (by decide)) h)
    exact h_exit rfl rfl ex0 rfl (fun q E h => h) rfl (by decide) (by decide)
  | succ n ih =>
    intro k hk
    refine h_iload (k := 1) dX4_init_14 rfl rfl ?_
    refine h_iconst (v := nI 3) dX4_init_15 rfl rfl ?_
    refine h_icmp_ge dX4_init_16 (tgt := 38) (by decide) rfl (fun h => absurd h (nI_ge (by omega) (by omega))) (fun _ => ?_)
    refine h_aload (k := 0) dX4_init_19 rfl rfl ?_
    refine h_get (C := RX4) (T := TX4) (N := 5) (Or.inl ⟨rfl, rfl⟩) rfl inX4 4 (by decide) fl_X4_11 rfl dX4_init_20 rfl ?_
    refine h_iload (k := 1) dX4_init_23 rfl rfl ?_
    refine h_new (ci := 5) (C := RX5) (T := TX5) (N := 5) (fs := [.int 0, .int 0, .int 0, .int 0, .int 0]) rfl inX5 tyX5 tyX5_ok (by decide) cl_X4_9 it_X5 ini_X5 (by omega) (by omega) dX4_init_24 rfl ?_
    refine h_dup dX4_init_27 rfl ?_
    refine h_callN (ci_X5 D cid (sz + 1 + k) (sz + 1 + k + 1) zn0) cw_X4_17 rfl mi_X5_init (by omega) (Or.inl ⟨rfl, rfl⟩) (by omega) (by decide) (by decide) (by omega) (by omega) (by simp) dX4_init_28 rfl ?_
    refine h_aast (x := sz) (y := sz + 1 + k) (kd := 13) (t0 := 5) (C := RX5) (T := TX5) (N := 5) (ci := 5) (n := 3) (f := rowA (sz + 1) 1 k) (fs := [.int 0, .int 0, .int 0, .int 0, .int 0]) (by omega) (Or.inr ⟨by omega, Or.inr ⟨by omega, Or.inr (Or.inl ⟨rfl, rfl⟩)⟩⟩) rfl (Or.inl ⟨rfl, rfl⟩) rfl (vp_in_nI (by omega) (by omega)) dX4_init_31 rfl ?_
    refine h_iinc (k := 1) (y := nI (k + 1)) (by decide) dX4_init_32 rfl (nI_1 k) rfl ?_
    refine h_goto (pc' := 14) dX4_init_35 (by decide) ?_
    refine h_to (w' := vnP cid a sz (k + 1)) (fun q E h => ?_) (by omega) (by omega) (by omega) (ih (k + 1) (by omega))
    rcases h with ⟨hq, rfl⟩ | ⟨hq, rfl⟩ | ⟨z, hz, rfl, rfl⟩
    · exact Or.inr ⟨by omega, Or.inr ⟨by omega, Or.inr ⟨by omega, Or.inl ⟨hq, rfl⟩⟩⟩⟩
    · have e := rowA_up (sz + 1) 1 k (by omega)
      rw [Nat.one_mul] at e
      exact Or.inl ⟨hq, by rw [e]⟩
    · by_cases e : z = k
      · subst e; exact Or.inr ⟨by omega, Or.inl ⟨rfl, rfl⟩⟩
      · exact Or.inr ⟨by omega, Or.inr ⟨by omega, Or.inr ⟨by omega, Or.inr (Or.inr ⟨z, by omega, rfl, rfl⟩)⟩⟩⟩
theorem ci_X4 (D : va_G) (cid : Nat → ClassId) (a sz : Nat) (ha : a < sz) : CI yX4_init cX4_init 2 2 32 D cid a sz vn0 (vnP cid a sz 3) 4 4 18 := by
  refine CI.of (by decide) rfl (by decide) dX4_init_38 _ rfl ?_
  refine h_aload (k := 0) dX4_init_0 rfl rfl ?_
  refine h_objInit dX4_init_1 oi_X4 (by decide) (by decide) rfl ?_
  refine h_aload (k := 0) dX4_init_4 rfl rfl ?_
  refine h_iconst (v := nI 3) dX4_init_5 rfl rfl ?_
  refine h_anew (kd := 13) (t0 := 5) (C := RX5) (by decide) cl_X4_9 ao_X5 rfl (by decide) (by omega) (by omega) dX4_init_6 rfl ?_
  refine h_putF (C := RX4) (T := TX4) (N := 5) (ty := .array (.object RX5)) (Or.inl rfl) (Or.inr ⟨by omega, ⟨rfl, rfl⟩⟩) rfl inX4 tyX4 tyX4_ok nmX4 4 (by decide) fl_X4_11 rfl (by decide) rfl (by decide +kernel) rfl rfl (by show 4 < 5; decide) dX4_init_9 rfl ?_
  refine h_iconst (v := nI 0) dX4_init_12 rfl rfl ?_
  refine h_istore (k := 1) (by decide) dX4_init_13 rfl ?_
  refine h_to (w' := vnP cid a sz 0) (fun q E h => ?_) rfl (by decide) (by decide) (lp_X4 D cid a sz ha 3 0 rfl)
  rcases h with ⟨hq, rfl⟩ | ⟨hq, rfl⟩ | ⟨z, hz, -⟩
  · exact Or.inl ⟨hq, rfl⟩
  · rw [rowA_0]; exact Or.inr ⟨by omega, Or.inl ⟨hq, rfl⟩⟩
  · omega
