/-! LEFT2: both sides look ahead alike. -/
theorem eqN.refl {F : Nat → Int32} {v : Nat} : eqN F v F F := ⟨fun _ _ => rfl, fun _ _ => rfl⟩
theorem eqN.t2 {F0 F G : Nat → Int32} {v : Nat} (h : eqN F0 v F G) (x : Int32) : eqN F0 v F (upd G 2 x) := by
  refine ⟨fun i hi => ?_, h.2⟩
  rw [upd_at, if_neg (fun e => hi (Or.inl e))]
  exact h.1 i hi
theorem npF_min (F : Nat → Int32) (w : Nat) : npF (minF F w) = npF F := by unfold npF; rw [minF_lo _ (by decide)]
theorem npF_put (F : Nat → Int32) {i : Nat} (x : Int32) (h : i ≠ 1) : npF (upd F i x) = npF F := by unfold npF; rw [upd_at, if_neg (Ne.symm h)]
theorem eqN.vs_no {F0 : Nat → Int32} {v : Nat} (hv : v < 3) : ∀ (n w : Nat) (F G : Nat → Int32), w + n ≤ 3 → (v < w ∨ w + n ≤ v) → npF G ≤ 12 → eqN F0 v F G → eqN F0 v F (vsF n w G) := by
  intro n
  induction n with
  | zero => intro w F G _ _ _ h; exact h
  | succ n ih =>
    intro w F G hw hvw hnp h
    exact ih (w + 1) F _ (by omega) (by omega) (by rw [npF_min]; exact hnp) (h.other hv (by omega) (by omega) hnp)
theorem eqN.vs {F0 : Nat → Int32} {v : Nat} (hv : v < 3) : ∀ (n w : Nat) (F G : Nat → Int32), w + n ≤ 3 → w ≤ v → v < w + n → npF G ≤ 12 → npF F ≤ 12 → zOK F → eqN F0 v F G → eqN F0 v (minF F v) (vsF n w G) := by
  intro n
  induction n with
  | zero => intro w F G _ h1 h2; omega
  | succ n ih =>
    intro w F G hw h1 h2 hnG hnF hz h
    show eqN F0 v (minF F v) (vsF n (w + 1) (minF G w))
    by_cases e : w = v
    · subst e
      exact eqN.vs_no hv n (w + 1) _ _ (by omega) (Or.inl (by omega)) (by rw [npF_min]; exact hnG) (h.min hv hz hnF)
    · exact ih (w + 1) F _ (by omega) (by omega) (by omega) (by rw [npF_min]; exact hnG) hnF hz (h.other hv (by omega) e hnG)
theorem npF_vs : ∀ (n w : Nat) (G : Nat → Int32), npF (vsF n w G) = npF G := by
  intro n
  induction n with
  | zero => intro w G; rfl
  | succ n ih => intro w G; unfold vsF; rw [ih, npF_min]
theorem eqN.minT {F0 F G : Nat → Int32} {v nv t : Nat} (h : eqN F0 v F G) (hv : v < nv) (hn : nv ≤ 3) (hnG : npF G ≤ 12) (hnF : npF F ≤ 12) (hz : zOK F) : eqN F0 v (minF F v) (Jvm.Pilot.@@N@@.minT nv t G) := by
  unfold Jvm.Pilot.@@N@@.minT
  exact eqN.vs (by omega) nv 0 F _ (by omega) (Nat.zero_le _) (by omega) (by rw [npF_put _ _ (by decide)]; exact hnG) hnF hz (h.t2 _)
theorem npF_minT (nv t : Nat) (G : Nat → Int32) : npF (minT nv t G) = npF G := by unfold minT; rw [npF_vs, npF_put _ _ (by decide)]
theorem eqN.ov {F0 F G : Nat → Int32} {v p : Nat} (h : eqN F0 v F G) (hi : inP F0 p (nI v) = true) : ovP G p = ovP F p := by
  unfold ovP
  rw [h.1 (63 + 10 * p + 8) (oth_in (by decide) hi), h.1 (63 + 10 * p + 3) (oth_in (by decide) hi)]
theorem ml_same {F0 : Nat → Int32} {v nv p : Nat} (hv : v < nv) (hn : nv ≤ 3) (hi : inP F0 p (nI v) = true) : ∀ (m k t : Nat) (F G : Nat → Int32), eqN F0 v F G → zOK F → npF F ≤ 12 → npF G ≤ 12 → mlL F p v (m + 1) k = mlT nv p m k t G := by
  intro m
  induction m with
  | zero =>
    intro k t F G h _ _ _
    show (if ovP F p = true then some k else none) = (if ovP G p = true then some k else none)
    rw [h.ov hi]
  | succ m ih =>
    intro k t F G h hz hnF hnG
    show (if ovP F p = true then some k else mlL (minF F v) p v (m + 1) (k + 1)) = (if ovP G p = true then some k else mlT nv p m (k + 1) (t + 1) (minT nv t G))
    rw [h.ov hi, ih (k + 1) (t + 1) _ _ (h.minT (t := t) hv hn hnG hnF hz) (hz.min (by omega)) (by rw [npF_min]; exact hnF) (by rw [npF_minT]; exact hnG)]
/-- every pallet is in a van that there is -/
def WV (F : Nat → Int32) : Prop := ∀ p, p < npF F → ∃ v, v < nvF F ∧ F (63 + 10 * p) = nI v
theorem left_same {F : Nat → Int32} {t T : Nat} (hg : Good F t T) (hw : WV F) (x : Int32) : mmlR F x = mlR F x := by
  unfold mmlR mlR
  split
  · rename_i hx
    obtain ⟨p, hp, hp12, rfl, e⟩ := hg.pal hx
    rw [e]
    split
    · rename_i hs
      obtain ⟨v, hv, ev⟩ := hw p hp
      have hn := hg.nv.1
      rw [ev, vN_nI (by omega)]
      have hi : inP F p (nI v) = true := by unfold inP; rw [hs, ev]; simp
      rw [ml_same hv hn hi 300 0 (vN (F 2)) F F eqN.refl hg.zok hg.np.1 hg.np.1]
    · rfl
  · rfl
/-! the longest opening -/
def opFs (v m : Nat) : Nat → Nat → (Nat → Int32) → (Nat → Int32)
  | 0, _, F => F
  | n + 1, k, F => opFs v m n (k + 1) (opF F v k m)
theorem addP_told {F : Nat → Int32} {v p z q T : Nat} (hT : T < 2147483646) (hk : ∃ k, k ≤ T ∧ F (63 + 10 * q + 8) = nI k) : ∃ k k', k ≤ k' ∧ k' ≤ T + 1 ∧ F (63 + 10 * q + 8) = nI k ∧ addP F v p z (63 + 10 * q + 8) = nI k' := by
  obtain ⟨k, hk, e⟩ := hk
  by_cases h : q = p
  · subst h
    unfold addP tellP
    split
    · exact ⟨k, k, Nat.le_refl _, by omega, e, by rw [warmP_ne _ (by omega) (by omega)]; exact e⟩
    · exact ⟨k, k + 1, by omega, by omega, e, by rw [upd_at, if_pos rfl, warmP_ne _ (by omega) (by omega), e, nI_add]⟩
  · exact ⟨k, k, Nat.le_refl _, by omega, e, by rw [addP_ne _ (by omega) (by omega) (by omega)]; exact e⟩
theorem addP_told_ne (F : Nat → Int32) {v p z q : Nat} (h : q ≠ p) : addP F v p z (63 + 10 * q + 8) = F (63 + 10 * q + 8) := addP_ne _ (by omega) (by omega) (by omega)
/-- told minutes never become fewer -/
theorem addL_told {v q T : Nat} (hT : T < 2147483646) : ∀ (n p : Nat) (F : Nat → Int32), (∃ k, k ≤ T ∧ F (63 + 10 * q + 8) = nI k) → ∃ k k', k ≤ k' ∧ k' ≤ T + 1 ∧ F (63 + 10 * q + 8) = nI k ∧ addL F v n p (63 + 10 * q + 8) = nI k' := by
  intro n
  induction n with
  | zero => intro p F h; obtain ⟨k, hk, e⟩ := h; exact ⟨k, k, Nat.le_refl _, by omega, e, e⟩
  | succ n ih =>
    intro p F h
    unfold addL
    split
    · by_cases hq : q = p
      · subst hq
        obtain ⟨k, k', h1, h2, h3, h4⟩ := addP_told (v := v) (p := q) (z := zP F q) hT h
        refine ⟨k, k', h1, h2, h3, ?_⟩
        have hlo : ∀ (n p : Nat) (F : Nat → Int32), q < p → addL F v n p (63 + 10 * q + 8) = F (63 + 10 * q + 8) := by
          intro n
          induction n with
          | zero => intro p F _; rfl
          | succ n ih2 =>
            intro p F hp
            unfold addL
            rw [ih2 _ _ (by omega)]
            split
            · exact addP_told_ne F (by omega)
            · rfl
        rw [hlo _ _ _ (by omega)]
        exact h4
      · have := ih (p + 1) (addP F v p (zP F p)) (by rw [addP_told_ne F hq]; exact h)
        rw [addP_told_ne F hq] at this
        exact this
    · exact ih (p + 1) F h
theorem ovP_min {F : Nat → Int32} {t T v q : Nat} (hg : Good F t T) (hT : T < 2147483646) (hv : v < 3) (hq : q < 12) (h : ovP F q = true) : ovP (minF F v) q = true := by
  unfold ovP at *
  rw [Bool.not_eq_true', decide_eq_false_iff_not] at *
  have e3 : minF F v (63 + 10 * q + 3) = F (63 + 10 * q + 3) := minF_hi F hv (by omega) (fun p => ⟨by omega, by omega, by omega⟩)
  rw [e3]
  unfold minF
  have e8 : findA (midF F v) v (F 4) (F 5) (63 + 10 * q + 8) = F (63 + 10 * q + 8) := by rw [findA_hi _ _ _ hv (by omega), midF_hi _ hv (by omega)]
  obtain ⟨k, k', h1, h2, h3, h4⟩ := addL_told (v := v) (q := q) hT (npF F) 0 (findA (midF F v) v (F 4) (F 5)) (by rw [e8]; exact hg.told hq)
  rw [e8] at h3
  rw [h4]
  rw [h3] at h
  rw [Int32.le_iff_toInt_le, nI_toInt (by omega)] at *
  omega
theorem ovL_iff (F : Nat → Int32) (x : Int32) : ∀ (n p : Nat), (ovL F x n p = true) ↔ ∃ q, p ≤ q ∧ q < p + n ∧ inP F q x = true ∧ ovP F q = true := by
  intro n
  induction n with
  | zero => intro p; exact ⟨fun h => Bool.noConfusion h, fun ⟨q, h1, h2, _⟩ => by omega⟩
  | succ n ih =>
    intro p
    unfold ovL
    by_cases hi : inP F p x = true
    · rw [if_pos hi]
      by_cases ho : ovP F p = true
      · rw [if_pos ho]
        exact ⟨fun _ => ⟨p, Nat.le_refl _, by omega, hi, ho⟩, fun _ => rfl⟩
      · rw [if_neg ho, ih]
        constructor
        · rintro ⟨q, h1, h2, h3⟩; exact ⟨q, by omega, by omega, h3⟩
        · rintro ⟨q, h1, h2, h3, h4⟩
          have : q ≠ p := fun e => ho (by rw [← e]; exact h4)
          exact ⟨q, by omega, by omega, h3, h4⟩
    · rw [if_neg hi, ih]
      constructor
      · rintro ⟨q, h1, h2, h3⟩; exact ⟨q, by omega, by omega, h3⟩
      · rintro ⟨q, h1, h2, h3, h4⟩
        have : q ≠ p := fun e => hi (by rw [← e]; exact h3)
        exact ⟨q, by omega, by omega, h3, h4⟩
theorem Good.op {F : Nat → Int32} {t T v k m : Nat} (h : Good F t T) (hv : v < 3) : Good (opF F v k m) t (T + 1) := by
  unfold opF
  refine Good.kmin (h.put 8 (kd_v (j := 2) hv (by decide)) ?_) hv
  split
  · exact Or.inl rfl
  · exact Or.inr rfl
theorem op_keep {F : Nat → Int32} {t T v k m np : Nat} (hg : Good F t T) (hT : T < 2147483646) (hv : v < 3) (hnp : npF F ≤ 12) (h : ovL F (nI v) np 0 = true) (hnp2 : np ≤ 12) : ovL (opF F v k m) (nI v) np 0 = true := by
  rw [ovL_iff] at *
  obtain ⟨q, h1, h2, h3, h4⟩ := h
  have hd : ∀ i, 63 ≤ i → upd F (6 + 19 * v + 2) (if m ≤ k then nI 0 else nI 1) i = F i := fun i hi => by rw [upd_at, if_neg (by omega)]
  have hgd : Good (upd F (6 + 19 * v + 2) (if m ≤ k then nI 0 else nI 1)) t T := by
    refine hg.put 8 (kd_v (j := 2) hv (by decide)) ?_
    split
    · exact Or.inl rfl
    · exact Or.inr rfl
  refine ⟨q, h1, h2, ?_, ?_⟩
  · rw [← h3]
    unfold opF
    refine inP_eq _ _ _ _ ?_ ?_
    · rw [minF_hi _ hv (by omega) (fun p => ⟨by omega, by omega, by omega⟩), hd _ (by omega)]
    · rw [minF_hi _ hv (by omega) (fun p => ⟨by omega, by omega, by omega⟩), hd _ (by omega)]
  · refine ovP_min hgd hT hv (by omega) ?_
    unfold ovP at h4 ⊢
    rw [hd _ (by omega), hd _ (by omega)]
    exact h4
