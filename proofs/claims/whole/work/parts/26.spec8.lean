/-! SPEC of undo and of running a script. -/
def pfr (fr : Nat) : Nat := if fr = 0 then 6 else fr - 1
def undM (M : Mm) (fr n : Nat) : Mm := setR (setR M 0 (M (2 + pfr fr))) 20 (upd (upd (M 20) 0 (nI (pfr fr))) 1 (nI (n - 1)))
/-- a command: its letter, its numbers -/
def exR (M : Mm) (c f s : Int32) : Int32 := if c = nI 99 then drR (M 0) f (nI 0) else if c = nI 100 then dlR (M 0) f else if c = nI 111 then drR (M 0) f (nI 1) else if c = nI 119 then psR 0 M f else repR (M 0) f s
def exM (M : Mm) (c f s : Int32) : Mm := if c = nI 99 then setR M 0 (drF (M 0) f (nI 0)) else if c = nI 100 then setR M 0 (dlF (M 0) f) else if c = nI 111 then setR M 0 (drF (M 0) f (nI 1)) else if c = nI 119 then psM 0 M f else setR M 0 (repF (M 0) f s)
theorem nlt1 {t : Int32} (h : ¬ t < nI 1) : ∃ j, 1 ≤ j ∧ j < 2 ^ 31 ∧ t = nI j := by
  have h0 : ¬ t < 0 := fun q => h (by
    rw [Int32.lt_iff_toInt_lt] at q ⊢
    have e0 : (0 : Int32).toInt = 0 := rfl
    have e1 : (nI 1).toInt = 1 := by decide
    omega)
  obtain ⟨j, hj, rfl⟩ := nI_of h0
  refine ⟨j, ?_, hj, rfl⟩
  rcases Nat.lt_or_ge j 1 with q | q
  · exact absurd (nI_lt q (by decide)) h
  · exact q
theorem mnS_nI {a b : Nat} (ha : a < 2 ^ 31) (hb : b < 2 ^ 31) : mnS (nI a) (nI b) = nI (min a b) := by
  unfold mnS
  by_cases h : b < a
  · rw [if_pos (nI_lt h ha), Nat.min_eq_right (Nat.le_of_lt h)]
  · rw [if_neg (nI_nlt (Nat.not_lt.mp h) hb), Nat.min_eq_left (Nat.not_lt.mp h)]
/-- behind a look ahead: only the trial has changed -/
def trQ (M : Mm) : Mm → Prop := fun M' => ∃ F1, M' = setR M 1 F1
theorem trQ.set {M M' : Mm} (h : trQ M M') (F : Nat → Int32) : trQ M (setR M' 1 F) := by
  obtain ⟨F1, rfl⟩ := h
  exact ⟨F, setR_setR _ _ _ _⟩
theorem trQ.at {M M' : Mm} (h : trQ M M') {r : Nat} (hr : r ≠ 1) : M' r = M r := by
  obtain ⟨F1, rfl⟩ := h
  exact setR_ne _ _ hr
theorem trQ.trans {M M' M2 : Mm} (h : trQ M M') (h2 : trQ M' M2) : trQ M M2 := by
  obtain ⟨F1, rfl⟩ := h2
  exact h.set _
