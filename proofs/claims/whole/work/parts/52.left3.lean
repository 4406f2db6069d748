/-! LEFT3: the longest opening on both sides. -/
theorem npF_op (F : Nat → Int32) (v k m : Nat) : npF (opF F v k m) = npF F := by unfold opF; rw [npF_min, npF_put _ _ (by omega)]
theorem opFs_keep {v m np : Nat} (hv : v < 3) (hnp2 : np ≤ 12) {t : Nat} : ∀ (n k T : Nat) (F : Nat → Int32), Good F t T → T + n < 2147483646 → npF F ≤ 12 → ovL F (nI v) np 0 = true → ovL (opFs v m n k F) (nI v) np 0 = true := by
  intro n
  induction n with
  | zero => intro k T F _ _ _ h; exact h
  | succ n ih =>
    intro k T F hg hT hnp h
    exact ih (k + 1) (T + 1) _ (hg.op hv) (by omega) (by rw [npF_op]; exact hnp) (op_keep hg (by omega) hv hnp h hnp2)
theorem opL_end {v m : Nat} (hv : v < 3) {t : Nat} : ∀ (n k T : Nat) (F : Nat → Int32), Good F t T → T + n < 2147483646 → opL F v m n k = !ovL (opFs v m n k F) (nI v) (npF F) 0 := by
  intro n
  induction n with
  | zero => intro k T F _ _; rfl
  | succ n ih =>
    intro k T F hg hT
    unfold opL
    by_cases h : ovL F (nI v) (npF F) 0 = true
    · rw [if_pos h, opFs_keep hv hg.np.1 (n + 1) k T F hg hT hg.np.1 h]; rfl
    · rw [if_neg h, ih (k + 1) (T + 1) _ (hg.op hv) (by omega), npF_op]; rfl
theorem mbL_ov (F : Nat → Int32) (v : Nat) : ∀ (n p : Nat) (b : Bool), mbL F v n p b = (b && !ovL F (nI v) n p) := by
  intro n
  induction n with
  | zero => intro p b; show b = (b && !false); simp
  | succ n ih =>
    intro p b
    unfold mbL ovL
    rw [ih]
    by_cases hi : inP F p (nI v) = true
    · rw [if_pos hi, hi]
      by_cases ho : ovP F p = true
      · rw [if_pos ho, ho]; simp
      · have : ovP F p = false := by simpa using ho
        rw [if_neg ho, this]; simp
    · have : inP F p (nI v) = false := by simpa using hi
      rw [if_neg hi, this]; simp
theorem eqN.inp {F0 F G : Nat → Int32} {v p : Nat} (h : eqN F0 v F G) : inP G p (nI v) = inP F p (nI v) :=
  inP_eq _ _ _ _ (h.1 _ (oth_p (j := 0) (Or.inl (by decide)))) (h.1 _ (oth_p (Or.inl (by decide))))
theorem eqN.ovL {F0 F G : Nat → Int32} {v np : Nat} (h : eqN F0 v F G) (hnp : np ≤ 12) : Jvm.Pilot.@@N@@.ovL G (nI v) np 0 = Jvm.Pilot.@@N@@.ovL F (nI v) np 0 := by
  rw [Bool.eq_iff_iff, ovL_iff, ovL_iff]
  constructor
  · rintro ⟨q, h1, h2, h3, h4⟩
    rw [h.inp] at h3
    exact ⟨q, h1, h2, h3, by rw [← h.ov (p := q) (by rw [← h.2 q (by omega)]; exact h3)]; exact h4⟩
  · rintro ⟨q, h1, h2, h3, h4⟩
    exact ⟨q, h1, h2, by rw [h.inp]; exact h3, by rw [h.ov (p := q) (by rw [← h.2 q (by omega)]; exact h3)]; exact h4⟩
theorem eqN.ops {F0 : Nat → Int32} {v nv m : Nat} (hv : v < nv) (hn : nv ≤ 3) : ∀ (n k t : Nat) (F G : Nat → Int32), eqN F0 v F G → zOK F → npF F ≤ 12 → npF G ≤ 12 → eqN F0 v (opFs v m n k F) (opT nv v m n k t G) := by
  intro n
  induction n with
  | zero => intro k t F G h _ _ _; exact h
  | succ n ih =>
    intro k t F G h hz hnF hnG
    have h2 : eqN F0 v (upd F (6 + 19 * v + 2) (if m ≤ k then nI 0 else nI 1)) (upd G (6 + 19 * v + 2) (if m ≤ k then nI 0 else nI 1)) := h.put rfl (fun p _ => by omega)
    have hz2 : zOK (upd F (6 + 19 * v + 2) (if m ≤ k then nI 0 else nI 1)) := hz.of fun p _ => by rw [upd_at, if_neg (by omega)]
    refine ih (k + 1) (t + 1) _ _ ?_ ?_ ?_ ?_
    · exact h2.minT (t := t) hv hn (by rw [npF_put _ _ (by omega)]; exact hnG) (by rw [npF_put _ _ (by omega)]; exact hnF) hz2
    · exact hz2.min (by omega)
    · rw [npF_op]; exact hnF
    · rw [npF_minT, npF_put _ _ (by omega)]; exact hnG
theorem may_same {F : Nat → Int32} {t T v m : Nat} (hg : Good F t T) (hT : T < 2147480000) (hv : v < nvF F) : mbL (opT (nvF F) v m 60 0 t F) v (npF F) 0 true = opL F v m 60 0 := by
  have hn := hg.nv.1
  have h := eqN.ops (F0 := F) (m := m) hv hn 60 0 t F F eqN.refl hg.zok hg.np.1 hg.np.1
  rw [mbL_ov, h.ovL hg.np.1, opL_end (by omega) 60 0 T F hg (by omega), Bool.true_and]
theorem lg_same {F : Nat → Int32} {t T v : Nat} (hg : Good F t T) (hT : T < 2147480000) (hv : v < nvF F) : ∀ m, lgT (nvF F) (npF F) t F v m = lgL F v m := by
  intro m
  induction m with
  | zero => unfold lgT lgL; rw [may_same hg hT hv]
  | succ m ih => unfold lgT lgL; rw [may_same hg hT hv, ih]
theorem longest_same {F : Nat → Int32} {t T : Nat} (ht : t ≤ 600) (hg : Good F t T) (hT : T < 2147480000) (x : Int32) : mlgR F x = lgR F x := by
  unfold mlgR lgR
  split
  · rename_i hx
    obtain ⟨v, hv, hv3, rfl, e⟩ := hg.van hx
    rw [e, hg.n2, vN_nI (by omega), lg_same hg hT hv]
  · rfl
