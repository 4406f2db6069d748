/-! STEPS3: undo and text. -/
theorem st_undo {M : Mm} {fr n len : Nat} (h : REL M fr n len) (hl : LR M) : undR (undCM M fr n 60 0) n = undC n ∧ (n = 0 → mUnd (undCM M fr n) n = M) ∧
    (1 ≤ n → (∀ i, i < 183 → mUnd (undCM M fr n) n 50 i = M (2 + pfr fr) i) ∧ REL (setR (mUnd (undCM M fr n) n) 50 (M (2 + pfr fr))) (pfr fr) (n - 1) len ∧ LR (setR (mUnd (undCM M fr n) n) 50 (M (2 + pfr fr)))) := by
  have hfr := h.frlt
  have hn := h.num3
  have hpf : pfr fr < 7 := by unfold pfr; split <;> omega
  by_cases h0 : n = 0
  · subst h0
    have e1 : undCM M fr 0 = M := if_pos rfl
    rw [e1]
    refine ⟨by unfold undR undC; rw [h.num2], fun _ => if_pos h.num2, fun q => by omega⟩
  · have hz : ¬ nI n = 0 := nI_pos_ (by omega) hn
    have e1 : undCM M fr n = undM M fr n := if_neg hz
    rw [e1]
    have un : ∀ r, r ≠ 0 → r ≠ 20 → undM M fr n r = M r := fun r a b => by unfold undM; rw [setR_ne _ _ b, setR_ne _ _ a]
    have u0 : undM M fr n 0 = M (2 + pfr fr) := by unfold undM; rw [setR_ne _ _ (by decide)]; exact setR_same _ _ _
    have u20 : undM M fr n 20 = upd (upd (M 20) 0 (nI (pfr fr))) 1 (nI (n - 1)) := by unfold undM; exact setR_same _ _ _
    have u60 : undM M fr n 60 = M 60 := un 60 (by decide) (by decide)
    refine ⟨by unfold undR undC; rw [u60, h.num2], fun q => absurd q h0, fun h1 => ?_⟩
    obtain ⟨hr1, hr2⟩ := h.ring.pop hfr hn h1
    have em : mUnd (undM M fr n) n = setR (setR (undM M fr n) 60 (upd (M 60) 0 (nI (n - 1)))) 50 (takF (undM M fr n 50) (undM M fr n 51) (n - 1) 183) := by
      unfold mUnd
      rw [u60, if_neg (by rw [h.num2]; exact hz)]
    rw [em]
    refine ⟨fun i hi => ?_, ?_, ?_⟩
    · rw [setR_same, un 51 (by decide) (by decide)]; exact hr2 _ i hi
    · rw [setR_setR]
      have mn : ∀ r, r ≠ 50 → r ≠ 60 → r ≠ 0 → r ≠ 20 → setR (setR (undM M fr n) 60 (upd (M 60) 0 (nI (n - 1)))) 50 (M (2 + pfr fr)) r = M r := fun r a b c d => by rw [setR_ne _ _ a, setR_ne _ _ b, un r c d]
      have m60 : setR (setR (undM M fr n) 60 (upd (M 60) 0 (nI (n - 1)))) 50 (M (2 + pfr fr)) 60 = upd (M 60) 0 (nI (n - 1)) := by rw [setR_ne _ _ (by decide)]; exact setR_same _ _ _
      have m0 : setR (setR (undM M fr n) 60 (upd (M 60) 0 (nI (n - 1)))) 50 (M (2 + pfr fr)) 0 = M (2 + pfr fr) := by rw [setR_ne _ _ (by decide), setR_ne _ _ (by decide)]; exact u0
      have m20 : setR (setR (undM M fr n) 60 (upd (M 60) 0 (nI (n - 1)))) 50 (M (2 + pfr fr)) 20 = upd (upd (M 20) 0 (nI (pfr fr))) 1 (nI (n - 1)) := by rw [setR_ne _ _ (by decide), setR_ne _ _ (by decide)]; exact u20
      refine ⟨by rw [setR_same, m0], by rw [m0]; exact h.olds _ hpf, h.logs.congr (fun r a b => mn r (by omega) (by omega) (by omega) (by omega)) (mn 54 (by decide) (by decide) (by decide) (by decide)), by rw [mn 55 (by decide) (by decide) (by decide) (by decide), mn 22 (by decide) (by decide) (by decide) (by decide)]; exact h.text, by rw [mn 21 (by decide) (by decide) (by decide) (by decide)]; exact h.len1, by rw [m60, upd_at, if_neg (by decide)]; exact h.len2, h.len3, by rw [m20, upd_at, if_neg (by decide), upd_at, if_pos rfl], hpf, by rw [m20, upd_at, if_pos rfl], by rw [m60, upd_at, if_pos rfl], by omega, by rw [m60, upd_at, if_neg (by decide)]; exact h.real, ?_, ?_⟩
      · rw [mn 51 (by decide) (by decide) (by decide) (by decide)]
        intro j hj i hi
        rw [hr1 j hj i hi]
        show M (2 + _) i = setR _ 50 _ (2 + _) i
        have hlt : (pfr fr + 7 - (n - 1) + j) % 7 < 7 := Nat.mod_lt _ (by decide)
        rw [mn _ (by omega) (by omega) (by omega) (by omega)]
      · intro r hr
        rw [mn _ (by omega) (by omega) (by omega) (by omega)]
        exact h.olds r hr
    · refine hl.congr (fun r a b => ?_)
      rw [setR_ne _ _ (by omega), setR_ne _ _ (by omega), setR_ne _ _ (by omega), un r (by omega) (by omega)]
theorem REL.txt {M N : Mm} {fr n len len' : Nat} (h : REL M fr n len) (h1 : ∀ r, r ≠ 21 → r ≠ 22 → r ≠ 55 → r ≠ 60 → N r = M r) (ht : N 55 = N 22) (l1 : N 21 0 = nI len') (l2 : N 60 2 = nI len') (l3 : len' ≤ 80) (n0 : N 60 0 = M 60 0) (n1 : N 60 1 = M 60 1) : REL N fr n len' := by
  have hfr := h.frlt
  refine ⟨by rw [h1 50 (by decide) (by decide) (by decide) (by decide), h1 0 (by decide) (by decide) (by decide) (by decide)]; exact h.same, by rw [h1 0 (by decide) (by decide) (by decide) (by decide)]; exact h.good, h.logs.congr (fun r a b => h1 r (by omega) (by omega) (by omega) (by omega)) (h1 54 (by decide) (by decide) (by decide) (by decide)), ht, l1, l2, l3, by rw [h1 20 (by decide) (by decide) (by decide) (by decide)]; exact h.free, hfr, by rw [h1 20 (by decide) (by decide) (by decide) (by decide)]; exact h.num1, by rw [n0]; exact h.num2, h.num3, by rw [n1]; exact h.real, ?_, ?_⟩
  · rw [h1 51 (by decide) (by decide) (by decide) (by decide)]
    intro j hj i hi
    rw [h.ring j hj i hi]
    show M (2 + _) i = N (2 + _) i
    have hlt : (fr + 7 - n + j) % 7 < 7 := Nat.mod_lt _ (by decide)
    rw [h1 _ (by omega) (by omega) (by omega) (by omega)]
  · intro r hr
    rw [h1 _ (by omega) (by omega) (by omega) (by omega)]
    exact h.olds r hr
theorem st_clear {M : Mm} {fr n len : Nat} (h : REL M fr n len) (hl : LR M) : wr M 21 0 (nI 0) 60 2 = M 21 0 ∧ REL (wr (wr M 21 0 (nI 0)) 60 2 (nI 0)) fr n 0 ∧ LR (wr (wr M 21 0 (nI 0)) 60 2 (nI 0)) := by
  refine ⟨by rw [wr_rne _ _ _ (by decide), h.len2, h.len1], h.txt (fun r a b c d => by rw [wr_rne _ _ _ d, wr_rne _ _ _ a]) ?_ ?_ ?_ (by decide) ?_ ?_, hl.congr (fun r a b => by rw [wr_rne _ _ _ (by omega), wr_rne _ _ _ (by omega)])⟩
  · rw [wr_rne _ _ _ (by decide), wr_rne _ _ _ (by decide), wr_rne _ _ _ (by decide), wr_rne _ _ _ (by decide)]; exact h.text
  · rw [wr_rne _ _ _ (by decide), wr_eq, setR_same]; rfl
  · rw [wr_eq, setR_same]; rfl
  · rw [wr_eq, setR_same, upd_at, if_neg (by decide), wr_rne _ _ _ (by decide)]
  · rw [wr_eq, setR_same, upd_at, if_neg (by decide), wr_rne _ _ _ (by decide)]
theorem st_append {M : Mm} {fr n len : Nat} (h : REL M fr n len) (hl : LR M) (x : Int32) : ∃ len', REL (mAp (apM M len x) len x) fr n len' ∧ LR (mAp (apM M len x) len x) := by
  unfold mAp apM
  by_cases hb : apB len x = true
  · rw [if_pos hb, if_pos hb]
    have hlen : len < 80 := by
      unfold apB at hb
      simp only [Bool.and_eq_true, decide_eq_true_eq] at hb
      exact (nI_ltI (by have := h.len3; omega) (by decide)).mp hb.2
    refine ⟨len + 1, h.txt (fun r a b c d => by rw [setR_ne _ _ d, setR_ne _ _ c, setR_ne _ _ a, setR_ne _ _ b]) ?_ ?_ ?_ (by omega) ?_ ?_, hl.congr (fun r a b => by rw [setR_ne _ _ (by omega), setR_ne _ _ (by omega), setR_ne _ _ (by omega), setR_ne _ _ (by omega)])⟩
    · simp (disch := decide) only [setR_same, setR_ne]
      rw [h.text]
    · simp (disch := decide) only [setR_same, setR_ne, upd_at, if_true]
    · simp (disch := decide) only [setR_same, setR_ne, upd_at, if_true]
    · simp (disch := decide) only [setR_same, setR_ne]
      rw [upd_at, if_neg (by decide)]
    · simp (disch := decide) only [setR_same, setR_ne]
      rw [upd_at, if_neg (by decide)]
  · rw [if_neg hb, if_neg hb]
    exact ⟨len, h, hl⟩
