/-! KEEP2: pallets in zones and vans, kept by each edit. -/
def samP (F F' : Nat → Int32) : Prop := F' 0 = F 0 ∧ F' 1 = F 1 ∧ ∀ p, p < 12 → F' (63 + 10 * p) = F (63 + 10 * p) ∧ F' (63 + 10 * p + 1) = F (63 + 10 * p + 1) ∧ F' (63 + 10 * p + 5) = F (63 + 10 * p + 5)
/-- what holds of pallets and vans beside -/
def QW (F : Nat → Int32) : Prop := QN F ∧ WV F
theorem npF_eq {F F' : Nat → Int32} (h : F' 1 = F 1) : npF F' = npF F := by unfold npF; rw [h]
theorem nvF_eq {F F' : Nat → Int32} (h : F' 0 = F 0) : nvF F' = nvF F := by unfold nvF; rw [h]
theorem QW.sam {F F' : Nat → Int32} (h : QW F) (hm : npF F ≤ 12) (hs : samP F F') : QW F' := by
  obtain ⟨s0, s1, s2⟩ := hs
  refine ⟨h.1.of (npF_eq s1) (fun p hp x z hi => ?_), fun p hp => ?_⟩
  · obtain ⟨a, b, c⟩ := s2 p (by omega)
    unfold inZ inP at hi ⊢
    rw [a, b, c] at hi
    exact hi
  · rw [npF_eq s1] at hp
    obtain ⟨v, hv, e⟩ := h.2 p hp
    exact ⟨v, by rw [nvF_eq s0]; exact hv, by rw [(s2 p (by omega)).1]; exact e⟩
theorem samP.refl (F : Nat → Int32) : samP F F := ⟨rfl, rfl, fun _ _ => ⟨rfl, rfl, rfl⟩⟩
theorem samP.trans {F F' G : Nat → Int32} (h : samP F F') (h2 : samP F' G) : samP F G :=
  ⟨h2.1.trans h.1, h2.2.1.trans h.2.1, fun p hp => ⟨(h2.2.2 p hp).1.trans (h.2.2 p hp).1, (h2.2.2 p hp).2.1.trans (h.2.2 p hp).2.1, (h2.2.2 p hp).2.2.trans (h.2.2 p hp).2.2⟩⟩
theorem samP.put {F F' : Nat → Int32} (h : samP F F') {i : Nat} (x : Int32) (hi : 2 ≤ i ∧ i < 63) : samP F (upd F' i x) := by
  refine h.trans ⟨?_, ?_, fun p _ => ⟨?_, ?_, ?_⟩⟩ <;> (rw [upd_at, if_neg (by omega)])
theorem samP.mend {F F' : Nat → Int32} (h : samP F F') {v z : Nat} (hv : v < 3) (hz : z < 3) : samP F (mendF F' (10 + 19 * v + 5 * z)) :=
  (((h.put _ (by omega)).put _ (by omega)).put _ (by omega)).put _ (by omega)
theorem samP.num (F : Nat → Int32) (w x : Int32) : samP F (numF F w x) := by
  unfold numF
  split
  · split
    · exact (samP.refl F).put _ (by decide)
    · split
      · exact (samP.refl F).put _ (by decide)
      · exact (samP.refl F).put _ (by decide)
  · exact samP.refl F
theorem samP.setv {F : Nat → Int32} {t T : Nat} (h : Good F t T) (x sp c : Int32) : samP F (vanF F x sp c) := by
  unfold vanF
  split
  · rename_i hx
    rw [Bool.and_eq_true] at hx
    obtain ⟨v, -, hv, rfl, e⟩ := h.van hx.1
    rw [e]
    exact ((samP.refl F).put _ (by omega)).put _ (by omega)
  · exact samP.refl F
theorem samP.prb {F : Nat → Int32} {t T : Nat} (h : Good F t T) (x z m y : Int32) : samP F (prbF F x z m y) := by
  unfold prbF
  split
  · rename_i hx
    rw [Bool.and_eq_true] at hx
    obtain ⟨v, k, hv, hk, rfl, rfl, e1, e2⟩ := h.zone hx.1
    rw [e1, e2]
    exact ((samP.refl F).put _ (by omega)).put _ (by omega)
  · exact samP.refl F
theorem samP.rep {F : Nat → Int32} {t T : Nat} (h : Good F t T) (x z : Int32) : samP F (repF F x z) := by
  unfold repF
  split
  · rename_i hx
    obtain ⟨v, k, hv, hk, rfl, rfl, e1, e2⟩ := h.zone hx
    rw [e1, e2]
    exact (samP.refl F).mend hv hk
  · exact samP.refl F
theorem samP.dr {F : Nat → Int32} {t T : Nat} (h : Good F t T) (x y : Int32) : samP F (drF F x y) := by
  unfold drF
  split
  · rename_i hx
    unfold drB at hx
    rw [Bool.and_eq_true] at hx
    obtain ⟨v, -, hv, rfl, e⟩ := h.van hx.1
    split
    · exact samP.refl F
    · rw [e]; exact (samP.refl F).put _ (by omega)
  · exact samP.refl F
theorem samP.min (F : Nat → Int32) {v : Nat} (hv : v < 3) : samP F (minF F v) := by
  refine ⟨minF_lo _ (by decide), minF_lo _ (by decide), fun p _ => ⟨?_, ?_, ?_⟩⟩ <;> exact minF_hi F hv (by omega) (fun q => ⟨by omega, by omega, by omega⟩)
theorem samP.vs : ∀ (n v : Nat) (F : Nat → Int32), v + n ≤ 3 → samP F (vsF n v F) := by
  intro n
  induction n with
  | zero => intro v F _; exact samP.refl F
  | succ n ih => intro v F hv; exact (samP.min F (by omega)).trans (ih (v + 1) _ (by omega))
theorem samP.minT (F : Nat → Int32) {nv t : Nat} (hn : nv ≤ 3) : samP F (Jvm.Pilot.@@N@@.minT nv t F) :=
  ((samP.refl F).put _ (by decide)).trans (samP.vs nv 0 _ (by omega))
theorem samP.pass {nv : Nat} (hn : nv ≤ 3) : ∀ (n t : Nat) (F : Nat → Int32), samP F (passF nv n t F) := by
  intro n
  induction n with
  | zero => intro t F; exact samP.refl F
  | succ n ih => intro t F; exact (samP.minT F hn).trans (ih (t + 1) _)
theorem samP.ps {F : Nat → Int32} {t T : Nat} (h : Good F t T) (x : Int32) : samP F (psF F x) := by
  unfold psF
  split
  · split
    · exact samP.pass h.nv.1 _ _ _
    · exact samP.refl F
  · exact samP.refl F
theorem QW.dl {F : Nat → Int32} {t T : Nat} (h : Good F t T) (hq : QW F) (x : Int32) : QW (dlF F x) := by
  unfold dlF
  split
  · rename_i hx
    obtain ⟨p, -, hp, rfl, e⟩ := h.pal hx
    split
    · rw [e]
      have hd : ∀ i, i ≠ 63 + 10 * p + 5 → upd F (63 + 10 * p + 5) (dlv F p) i = F i := fun i hi => if_neg hi
      refine ⟨hq.1.of (npF_eq (hd 1 (by omega))) (fun q hq2 x z hi => ?_), fun q hq2 => ?_⟩
      · unfold inZ inP at hi ⊢
        by_cases e2 : q = p
        · subst e2
          rw [upd_at, if_pos rfl] at hi
          have : ¬ dlv F q = 0 := by unfold dlv; split <;> decide
          simp [this] at hi
        · rw [hd _ (by omega), hd _ (by omega), hd _ (by omega)] at hi
          exact hi
      · rw [npF_eq (hd 1 (by omega))] at hq2
        obtain ⟨v, hv, ev⟩ := hq.2 q hq2
        exact ⟨v, by rw [nvF_eq (hd 0 (by omega))]; exact hv, by rw [hd _ (by omega)]; exact ev⟩
    · exact hq
  · exact hq
/-- what a detour leaves: states of 3, parts -/
def samD (F F' : Nat → Int32) : Prop := F' 0 = F 0 ∧ F' 1 = F 1 ∧ ∀ p, p < 12 → F' (63 + 10 * p) = F (63 + 10 * p) ∧ F' (63 + 10 * p + 1) = F (63 + 10 * p + 1) ∧ (F' (63 + 10 * p + 5) = F (63 + 10 * p + 5) ∨ F' (63 + 10 * p + 5) = nI 3)
theorem samD.refl (F : Nat → Int32) : samD F F := ⟨rfl, rfl, fun _ _ => ⟨rfl, rfl, Or.inl rfl⟩⟩
theorem samD.trans {F F' G : Nat → Int32} (h : samD F F') (h2 : samD F' G) : samD F G := by
  refine ⟨h2.1.trans h.1, h2.2.1.trans h.2.1, fun p hp => ⟨(h2.2.2 p hp).1.trans (h.2.2 p hp).1, (h2.2.2 p hp).2.1.trans (h.2.2 p hp).2.1, ?_⟩⟩
  rcases (h2.2.2 p hp).2.2 with e | e
  · rw [e]; exact (h.2.2 p hp).2.2
  · exact Or.inr e
theorem samD.p9 (F : Nat → Int32) (q : Nat) (x : Int32) : samD F (upd F (63 + 10 * q + 9) x) := by
  refine ⟨?_, ?_, fun p _ => ⟨?_, ?_, Or.inl ?_⟩⟩ <;> (rw [upd_at, if_neg (by omega)])
theorem samD.p5 (F : Nat → Int32) (q : Nat) : samD F (upd F (63 + 10 * q + 5) (nI 3)) := by
  refine ⟨by rw [upd_at, if_neg (by omega)], by rw [upd_at, if_neg (by omega)], fun p _ => ⟨by rw [upd_at, if_neg (by omega)], by rw [upd_at, if_neg (by omega)], ?_⟩⟩
  by_cases e : p = q
  · subst e; exact Or.inr (by rw [upd_at, if_pos rfl])
  · exact Or.inl (by rw [upd_at, if_neg (by omega)])
theorem samD.shr (F : Nat → Int32) (p : Nat) (vs k c : Int32) : samD F (shr1 F p vs k c) := by
  unfold shr1
  split
  · split
    · exact samD.p5 F p
    · exact (samD.p5 F p).trans (samD.p9 _ p _)
  · exact (samD.p5 F p).trans (samD.p9 _ p _)
theorem samD.shrL (s vs k c : Int32) : ∀ (n p : Nat) (F : Nat → Int32), samD F (Jvm.Pilot.@@N@@.shrL s vs k c n p F) := by
  intro n
  induction n with
  | zero => intro p F; exact samD.refl F
  | succ n ih =>
    intro p F
    unfold Jvm.Pilot.@@N@@.shrL
    refine samD.trans ?_ (ih (p + 1) _)
    split
    · exact samD.shr F p vs k c
    · exact samD.refl F
theorem samD.givL (s : Int32) : ∀ (n p : Nat) (F : Nat → Int32) (r : Int32), samD F (Jvm.Pilot.@@N@@.givL s n p F r) := by
  intro n
  induction n with
  | zero => intro p F r; exact samD.refl F
  | succ n ih =>
    intro p F r
    unfold Jvm.Pilot.@@N@@.givL
    split
    · refine samD.trans ?_ (ih (p + 1) _ _)
      unfold giv1
      split
      · exact samD.refl F
      · exact samD.p9 F p _
    · exact ih (p + 1) F r
theorem QW.dt {F : Nat → Int32} (hm : npF F ≤ 12) (hq : QW F) (s c : Int32) : QW (dtF F s c) := by
  have hs : samD F (dtF F s c) := by
    unfold dtF
    split
    · split
      · exact samD.refl F
      · exact (samD.shrL s _ _ c _ _ F).trans (samD.givL s _ _ _ _)
    · exact samD.refl F
  obtain ⟨s0, s1, s2⟩ := hs
  refine ⟨hq.1.of (npF_eq s1) (fun p hp x z hi => ?_), fun p hp => ?_⟩
  · obtain ⟨a, b, c⟩ := s2 p (by omega)
    unfold inZ inP at hi ⊢
    rw [a, b] at hi
    rcases c with c | c
    · rw [c] at hi; exact hi
    · rw [c] at hi
      have : ¬ nI 3 = 0 := by decide
      simp [this] at hi
  · rw [npF_eq s1] at hp
    obtain ⟨v, hv, e⟩ := hq.2 p hp
    exact ⟨v, by rw [nvF_eq s0]; exact hv, by rw [(s2 p (by omega)).1]; exact e⟩
