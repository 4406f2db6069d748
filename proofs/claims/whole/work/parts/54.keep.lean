/-! KEEP: edits keep a state good. -/
theorem cold_bt {sp c : Int32} (h : coldS sp c = true) : bt (-300) 100 sp ∧ bt 0 30 c := by
  unfold coldS at h
  rw [Bool.and_eq_true] at h
  exact ⟨bt_inn h.1 (by decide) (by decide), bt_inn h.2 (by decide) (by decide)⟩
theorem Good.num {F : Nat → Int32} {t T : Nat} (h : Good F t T) (w x : Int32) : Good (numF F w x) t T := by
  unfold numF
  split
  · rename_i hn
    obtain ⟨j, hj, rfl⟩ := numS_nI hn
    rcases (by omega : j = 0 ∨ j = 1 ∨ j = 2) with rfl | rfl | rfl
    · rw [if_pos rfl]
      have hb : inn x (-200) (nI 450) = true := by simpa [numS] using hn
      exact h.put 3 rfl (bt_inn hb (by decide) (by decide))
    · rw [if_neg (by decide), if_pos rfl]
      have hb : inn x (nI 5) (nI 100) = true := by simpa [numS, nI_eqm] using hn
      exact h.put 4 rfl (bt_inn hb (by decide) (by decide))
    · rw [if_neg (by decide), if_neg (by decide)]
      have hb : inn x (nI 1) (nI 30) = true := by simpa [numS, nI_eqm] using hn
      exact h.put 5 rfl (bt_inn hb (by decide) (by decide))
  · exact h
theorem Good.setv {F : Nat → Int32} {t T : Nat} (h : Good F t T) (x sp c : Int32) : Good (vanF F x sp c) t T := by
  unfold vanF
  split
  · rename_i hx
    rw [Bool.and_eq_true] at hx
    obtain ⟨v, -, hv, rfl, e⟩ := h.van hx.1
    obtain ⟨b1, b2⟩ := cold_bt hx.2
    rw [e]
    exact (h.put 6 (kd_v0 hv) b1).put 7 (kd_v (j := 1) hv (by decide)) b2
  · exact h
theorem mode_ok {m y : Int32} (h : modeS m y = true) : (m = nI 0 ∨ m = nI 1 ∨ m = nI 2) ∧ bt (-300) 450 y := by
  unfold modeS at h
  split at h
  · rename_i e
    refine ⟨Or.inl e, ?_⟩
    rw [decide_eq_true_eq] at h
    subst h
    exact ⟨by decide, by decide⟩
  · split at h
    · rename_i e
      exact ⟨Or.inr (Or.inl e), bt_mono (bt_inn h (a := -200) (b := 200) (by decide) (by decide)) (by decide) (by decide)⟩
    · split at h
      · rename_i e
        exact ⟨Or.inr (Or.inr e), bt_inn h (by decide) (by decide)⟩
      · cases h
theorem Good.prb {F : Nat → Int32} {t T : Nat} (h : Good F t T) (x z m y : Int32) : Good (prbF F x z m y) t T := by
  unfold prbF
  split
  · rename_i hx
    rw [Bool.and_eq_true] at hx
    obtain ⟨v, k, hv, hk, rfl, rfl, e1, e2⟩ := h.zone hx.1
    obtain ⟨b1, b2⟩ := mode_ok hx.2
    rw [e1, e2]
    exact (h.put 11 (kd_z (j := 1) hv hk (by decide)) b1).put 12 (kd_z (j := 2) hv hk (by decide)) b2
  · exact h
theorem bt_300 {sp : Int32} (h : bt (-300) 100 sp) : bt (-300) 450 sp := bt_mono h (by decide) (by decide)
theorem Good.startZ {F : Nat → Int32} {t T v z : Nat} {sp : Int32} (h : Good F t T) (hv : v < 3) (hz : z < 3) (hs : bt (-300) 100 sp) : Good (upd (mendF F (10 + 19 * v + 5 * z)) (10 + 19 * v + 5 * z) sp) t T :=
  (h.mend hv hz).put 10 (kd_z0 hv hz) (bt_300 hs)
theorem Good.startV {F : Nat → Int32} {t T v : Nat} {sp c x : Int32} (h : Good F t T) (hv : v < 3) (hs : bt (-300) 100 sp) (hc : bt 0 30 c) (hx : x = nI t) : Good (Jvm.Pilot.@@N@@.startV F v sp c x) t T :=
  (((((((h.put 6 (kd_v0 hv) hs).put 7 (kd_v (j := 1) hv (by decide)) hc).put 8 (kd_v (j := 2) hv (by decide)) (Or.inl rfl)).put 9 (kd_v (j := 3) hv (by decide)) ⟨t, Nat.le_refl _, hx⟩).startZ hv (z := 0) (by decide) hs).startZ hv (z := 1) (by decide) hs).startZ hv (z := 2) (by decide) hs)
theorem Good.new {F : Nat → Int32} {t T : Nat} (h : Good F t T) (sp c : Int32) : Good (newF F sp c) t T := by
  unfold newF
  split
  · rename_i hc
    split
    · rename_i hl
      obtain ⟨b1, b2⟩ := cold_bt hc
      obtain ⟨hn, e⟩ := h.nv
      have hv : nvF F < 3 := (nI_ltI (by omega) (by decide)).mp (by rw [← e]; exact hl)
      refine (h.startV hv b1 b2 h.n2).put 0 rfl ⟨nvF F + 1, by omega, ?_⟩
      rw [e, nI_add]
    · exact h
  · exact h
theorem Good.startP {F : Nat → Int32} {t T p : Nat} {v z l a w : Int32} (h : Good F t T) (hp : p < 12) (hv : ∃ k, k < 3 ∧ v = nI k) (hz : ∃ k, k < 3 ∧ z = nI k) (hl : bt (-300) 300 l) (ha : bt 0 600 a) (hw : bt 0 9999 w) : Good (Jvm.Pilot.@@N@@.startP F p v z l a w) t T :=
  (((((((((h.put 15 (kd_p0 hp) hv).put 16 (kd_p (j := 1) hp (by decide)) hz).put 17 (kd_p (j := 2) hp (by decide)) hl).put 18 (kd_p (j := 3) hp (by decide)) ha).put 19 (kd_p (j := 4) hp (by decide)) hw).put 20 (kd_p (j := 5) hp (by decide)) (Or.inl rfl)).put 21 (kd_p (j := 6) hp (by decide)) trivial).put 22 (kd_p (j := 7) hp (by decide)) trivial).put 23 (kd_p (j := 8) hp (by decide)) ⟨0, Nat.zero_le _, rfl⟩).put 24 (kd_p (j := 9) hp (by decide)) trivial
theorem ldC_np {F : Nat → Int32} {x z : Int32} {np : Nat} (h1 : F 1 = nI np) (hm : np ≤ 12) (h : ldC F x z = true) : np < 12 := by
  unfold ldC at h
  rw [Bool.and_eq_true, Bool.not_eq_true', decide_eq_false_iff_not, h1] at h
  rcases Nat.lt_or_ge np 12 with q | q
  · exact q
  · exact absurd (nI_le q (by omega)) h.1
theorem Good.ld {F : Nat → Int32} {t T : Nat} (h : Good F t T) (x z l a w : Int32) : Good (ldF F x z l a w) t T := by
  unfold ldF
  split
  · rename_i hb
    split
    · exact h
    · split
      · rename_i hc
        obtain ⟨hn, e⟩ := h.np
        have hp := ldC_np e hn hc
        simp only [ldB, Bool.and_eq_true] at hb
        obtain ⟨⟨⟨b1, b2⟩, b3⟩, b4⟩ := hb
        obtain ⟨v, k, hv, hk, rfl, rfl, -, -⟩ := h.zone b1
        refine (h.startP hp ⟨v, hv, rfl⟩ ⟨k, hk, rfl⟩ (bt_inn b2 (by decide) (by decide)) (bt_inn b3 (by decide) (by decide)) (bt_inn b4 (by decide) (by decide))).put 1 rfl ⟨npF F + 1, by omega, ?_⟩
        rw [e, nI_add]
      · exact h
  · exact h
theorem Good.shr1 {F : Nat → Int32} {t T p : Nat} {vs k c : Int32} (h : Good F t T) (hp : p < 12) : Good (Jvm.Pilot.@@N@@.shr1 F p vs k c) t T := by
  have h3 := h.put (i := 63 + 10 * p + 5) (x := nI 3) 20 (kd_p (j := 5) hp (by decide)) (Or.inr (Or.inr (Or.inr rfl)))
  unfold Jvm.Pilot.@@N@@.shr1
  split
  · split
    · exact h3
    · exact h3.put 24 (kd_p (j := 9) hp (by decide)) trivial
  · exact h3.put 24 (kd_p (j := 9) hp (by decide)) trivial
theorem Good.shrL {t T : Nat} {s vs k c : Int32} : ∀ (n p : Nat) (F : Nat → Int32), p + n ≤ 12 → Good F t T → Good (Jvm.Pilot.@@N@@.shrL s vs k c n p F) t T := by
  intro n
  induction n with
  | zero => intro p F _ h; exact h
  | succ n ih =>
    intro p F hp h
    unfold Jvm.Pilot.@@N@@.shrL
    refine ih (p + 1) _ (by omega) ?_
    split
    · exact h.shr1 (by omega)
    · exact h
theorem Good.givL {t T : Nat} {s : Int32} : ∀ (n p : Nat) (F : Nat → Int32) (r : Int32), p + n ≤ 12 → Good F t T → Good (Jvm.Pilot.@@N@@.givL s n p F r) t T := by
  intro n
  induction n with
  | zero => intro p F r _ h; exact h
  | succ n ih =>
    intro p F r hp h
    unfold Jvm.Pilot.@@N@@.givL
    split
    · refine ih (p + 1) _ _ (by omega) ?_
      unfold giv1
      split
      · exact h
      · exact h.put 24 (kd_p (j := 9) (by omega) (by decide)) trivial
    · exact ih (p + 1) F r (by omega) h
theorem Good.dt {F : Nat → Int32} {t T : Nat} (h : Good F t T) (s c : Int32) : Good (dtF F s c) t T := by
  have hn := h.np.1
  unfold dtF
  split
  · split
    · exact h
    · unfold sbvF
      exact Good.givL _ _ _ _ (by omega) (Good.shrL _ _ _ (by omega) h)
  · exact h
/-! pallets in zones, pallets in vans -/
def inZ (F : Nat → Int32) (p : Nat) (x z : Int32) : Bool := inP F p x && decide (F (63 + 10 * p + 1) = z)
def cz (F : Nat → Int32) (x z : Int32) : Nat → Nat
  | 0 => 0
  | n + 1 => cz F x z n + (if inZ F n x z then 1 else 0)
theorem pz_cz (F : Nat → Int32) (x z : Int32) : ∀ (n p a : Nat), pzL F x z n p (nI a) = nI (a + (cz F x z (p + n) - cz F x z p)) ∧ cz F x z p ≤ cz F x z (p + n) := by
  intro n
  induction n with
  | zero => intro p a; exact ⟨by show nI a = _; rw [Nat.add_zero, Nat.sub_self]; rfl, Nat.le_refl _⟩
  | succ n ih =>
    intro p a
    have hs : cz F x z (p + 1) = cz F x z p + (if inZ F p x z then 1 else 0) := rfl
    unfold pzL
    by_cases h1 : inP F p x = true
    · rw [if_pos h1]
      by_cases h2 : F (63 + 10 * p + 1) = z
      · rw [if_pos h2, nI_add]
        have hz : inZ F p x z = true := by unfold inZ; rw [h1]; simp [h2]
        rw [hz, if_pos rfl] at hs
        obtain ⟨e1, e2⟩ := ih (p + 1) (a + 1)
        rw [e1, show p + 1 + n = p + (n + 1) by omega] at *
        exact ⟨congrArg nI (by omega), by omega⟩
      · rw [if_neg h2]
        have hz : inZ F p x z = false := by unfold inZ; simp [h2]
        rw [hz] at hs
        obtain ⟨e1, e2⟩ := ih (p + 1) a
        rw [e1, show p + 1 + n = p + (n + 1) by omega] at *
        simp only [Bool.false_eq_true, if_false] at hs
        exact ⟨congrArg nI (by omega), by omega⟩
    · rw [if_neg h1]
      have hz : inZ F p x z = false := by unfold inZ; simp [h1]
      rw [hz] at hs
      obtain ⟨e1, e2⟩ := ih (p + 1) a
      rw [e1, show p + 1 + n = p + (n + 1) by omega] at *
      simp only [Bool.false_eq_true, if_false] at hs
      exact ⟨congrArg nI (by omega), by omega⟩
/-- at most three in a zone, counted plainly -/
def QN (F : Nat → Int32) : Prop := ∀ v z, v < 3 → z < 3 → cz F (nI v) (nI z) (npF F) ≤ 3
theorem QN.qz {F : Nat → Int32} (h : QN F) : QZ F := fun v z hv hz => by
  have e := (pz_cz F (nI v) (nI z) (npF F) 0 0).1
  rw [Nat.zero_add] at e
  exact ⟨cz F (nI v) (nI z) (npF F), h v z hv hz, by rw [e]; exact congrArg nI (by rw [show cz F (nI v) (nI z) 0 = 0 from rfl, Nat.zero_add]; omega)⟩
theorem cz_mono {F F' : Nat → Int32} {x z : Int32} : ∀ n, (∀ p, p < n → inZ F' p x z = true → inZ F p x z = true) → cz F' x z n ≤ cz F x z n := by
  intro n
  induction n with
  | zero => intro _; exact Nat.le_refl _
  | succ n ih =>
    intro h
    have h1 := ih (fun p hp => h p (by omega))
    have h2 := h n (by omega)
    unfold cz
    by_cases e : inZ F' n x z = true
    · rw [e, h2 e]; simp only [if_true]; omega
    · have : inZ F' n x z = false := by simpa using e
      rw [this]; simp only [Bool.false_eq_true, if_false]; omega
/-- an edit that brings no pallet in -/
theorem QN.of {F F' : Nat → Int32} (h : QN F) (hn : npF F' = npF F) (hi : ∀ p, p < npF F → ∀ x z, inZ F' p x z = true → inZ F p x z = true) : QN F' := fun v z hv hz => by
  rw [hn]
  exact Nat.le_trans (cz_mono _ (fun p hp => hi p hp _ _)) (h v z hv hz)
