/-! WARM: both sides count warm minutes alike. -/
/-- what is logged is no error code -/
def LB (M : Mm) : Prop := ∀ v z k j, v < 3 → z < 3 → k < 2 → 1 ≤ j → j ≤ 600 → bt (-1000) 1000 (hrow M v z k j)
theorem wmL_app (M : Mm) (v z k : Nat) (l f y : Int32) : ∀ (n m i : Nat) (a : Int32), wmL M v z k l f y (n + m) i a = wmL M v z k l f y m (i + n) (wmL M v z k l f y n i a) := by
  intro n
  induction n with
  | zero => intro m i a; rw [Nat.zero_add]; rfl
  | succ n ih =>
    intro m i a
    rw [show n + 1 + m = n + m + 1 by omega]
    show wmL M v z k l f y (n + m) (i + 1) _ = _
    rw [ih, show i + 1 + n = i + (n + 1) by omega]
    rfl
theorem wmL_idle (M : Mm) (v z k : Nat) (l f y : Int32) : ∀ (n i : Nat) (a : Int32), (∀ j, i ≤ j → j < i + n → ∀ b, wm1 M v z k l f y j b = b) → wmL M v z k l f y n i a = a := by
  intro n
  induction n with
  | zero => intro i a _; rfl
  | succ n ih =>
    intro i a h
    unfold wmL
    rw [h i (Nat.le_refl _) (by omega)]
    exact ih (i + 1) a (fun j h1 h2 => h j (by omega) (by omega))
theorem wmL_wrm (M : Mm) (v z k : Nat) (l f y : Int32) : ∀ (n i : Nat) (a : Int32), (∀ j, i ≤ j → j < i + n → ∀ b, wm1 M v z k l f y j b = if nI j ≤ f then b else if hrow M v z k j ≤ l then b else b + nI 1) → wmL M v z k l f y n i a = wrmL (hrow M v z k) f l n i a := by
  intro n
  induction n with
  | zero => intro i a _; rfl
  | succ n ih =>
    intro i a h
    unfold wmL wrmL
    rw [h i (Nat.le_refl _) (by omega)]
    exact ih (i + 1) _ (fun j h1 h2 => h j (by omega) (by omega))
theorem bt_none {x : Int32} (h : bt (-1000) 1000 x) : ¬ x = -100009 := fun q => by
  rw [q] at h
  exact absurd h.1 (by decide)
theorem warm_same {M : Mm} {T : Nat} (he : M 50 = M 0) (hB : LB M) {t0 : Nat} (ht0 : t0 ≤ 600) (hg : Good (M 0) t0 T) (x z l f y w : Int32) : mwmS M x z l f y w = wrmS M x z l f y w := by
  unfold mwmS wrmS
  rw [he]
  by_cases hb : wrmB (M 0) x z l f y w = true
  · rw [if_pos hb, if_pos hb]
    simp only [wrmB, Bool.and_eq_true, Bool.not_eq_true', decide_eq_false_iff_not] at hb
    obtain ⟨⟨⟨⟨hz, hl⟩, hf⟩, hy⟩, hw⟩ := hb
    obtain ⟨v, zz, hv, hz3, rfl, rfl, e1, e2⟩ := hg.zone hz
    obtain ⟨k, -, hk, rfl⟩ := inn_nI (a := 0) (b := 1) hw (by decide)
    have e3 : vN (nI k) = k := vN_nI (by omega)
    rw [e1, e2, e3]
    obtain ⟨fn, hfn, rfl⟩ := nI_of hf
    obtain ⟨yn, hyn, rfl⟩ := nI_of (fun q : y < 0 => hy (i32_lt0 q hfn))
    obtain ⟨a, ha, ea⟩ := hg.since hv
    have e4 : vN (M 0 2) = t0 := by rw [hg.n2]; exact vN_nI (by omega)
    rw [e4, ea, hg.n2, mnS_nI hyn (by omega), vN_nI (show a < 2147483648 by omega), vN_nI (show min yn t0 < 2147483648 by omega)]
    -- a minute before the van, or behind the last one asked for
    have hno : ∀ j, 1 ≤ j → j ≤ t0 → (j ≤ a ∨ yn < j) → ∀ b, wm1 M v zz k l (nI fn) (nI yn) j b = b := by
      intro j hj1 hj h b
      unfold wm1
      split
      · rfl
      · split
        · rfl
        · rename_i q
          rcases h with h | h
          · have : enS M v zz j k = -100009 := by
              unfold enS
              rw [he, hg.n2, ea, if_neg (nI_nlt hj (by omega)), if_neg (nI_nlt h (by omega))]
            rw [if_pos this]
          · exact absurd (nI_lt h (by omega)) q
    have hyes : ∀ j, a < j → j ≤ t0 → j ≤ yn → ∀ b, wm1 M v zz k l (nI fn) (nI yn) j b = if nI j ≤ nI fn then b else if hrow M v zz k j ≤ l then b else b + nI 1 := by
      intro j h1 h2 h3 b
      have : enS M v zz j k = hrow M v zz k j := by
        unfold enS
        rw [he, hg.n2, ea, if_neg (nI_nlt h2 (by omega)), if_pos (nI_lt h1 (by omega))]
      unfold wm1
      rw [this, if_neg (nI_nlt h3 hyn), if_neg (bt_none (hB v zz k j hv hz3 (by omega) (by omega) (by omega)))]
    rcases Nat.lt_or_ge a (min yn t0) with q | q
    · obtain ⟨d, hd⟩ : ∃ d, min yn t0 = a + d := ⟨min yn t0 - a, by omega⟩
      obtain ⟨r, hr⟩ : ∃ r, t0 = a + d + r := ⟨t0 - (a + d), by omega⟩
      have hd2 : a + d ≤ yn ∧ a + d ≤ t0 := by omega
      have hr2 : r = 0 ∨ yn = a + d := by omega
      rw [show wmL M v zz k l (nI fn) (nI yn) t0 1 (nI 0) = wmL M v zz k l (nI fn) (nI yn) (a + d + r) 1 (nI 0) from by rw [← hr], wmL_app, wmL_app]
      rw [wmL_idle _ _ _ _ _ _ _ a 1 _ (fun j h1 h2 => hno j h1 (by omega) (Or.inl (by omega)))]
      rw [wmL_wrm _ _ _ _ _ _ _ d (1 + a) _ (fun j h1 h2 => hyes j (by omega) (by omega) (by omega))]
      rw [wmL_idle _ _ _ _ _ _ _ r _ _ (fun j h1 h2 => hno j (by omega) (by omega) (Or.inr (by omega)))]
      rw [hd, show a + d - a = d by omega, show 1 + a = a + 1 by omega]
    · rw [show min yn t0 - a = 0 by omega]
      exact wmL_idle _ _ _ _ _ _ _ t0 1 _ (fun j h1 h2 => hno j h1 (by omega) (by omega))
  · rw [if_neg hb, if_neg hb]
theorem log_same {M : Mm} (he : M 50 = M 0) (x z t w : Int32) : logG (M 50) (hrow M) x z t w = logS M x z t w := by rw [he, logG_S]
