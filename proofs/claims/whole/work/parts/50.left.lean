/-! LEFT: one van's minutes need no other van. -/
/-- cells that van v's minutes neither read nor write (F0: who is in it) -/
def oth (F0 : Nat → Int32) (v i : Nat) : Prop := i = 2 ∨ (6 ≤ i ∧ i < 63 ∧ ¬ (6 + 19 * v ≤ i ∧ i < 25 + 19 * v)) ∨ ∃ p, p < 12 ∧ inP F0 p (nI v) = false ∧ (i = 63 + 10 * p + 6 ∨ i = 63 + 10 * p + 7 ∨ i = 63 + 10 * p + 8)
def eqN (F0 : Nat → Int32) (v : Nat) (F G : Nat → Int32) : Prop := (∀ i, ¬ oth F0 v i → G i = F i) ∧ ∀ p, p < 12 → inP F p (nI v) = inP F0 p (nI v)
theorem oth_v {F0 : Nat → Int32} {v i : Nat} (h1 : 6 + 19 * v ≤ i) (h2 : i < 25 + 19 * v) (hv : v < 3) : ¬ oth F0 v i := by
  rintro (h | ⟨-, -, h⟩ | ⟨p, _, _, h⟩)
  · omega
  · exact h ⟨h1, h2⟩
  · omega
theorem oth_p {F0 : Nat → Int32} {v p j : Nat} (hj : j < 6 ∨ j = 9) : ¬ oth F0 v (63 + 10 * p + j) := by
  rintro (h | ⟨-, h, -⟩ | ⟨q, _, _, h⟩)
  · omega
  · omega
  · omega
theorem oth_in {F0 : Nat → Int32} {v p j : Nat} (hj : j < 10) (hi : inP F0 p (nI v) = true) : ¬ oth F0 v (63 + 10 * p + j) := by
  rintro (h | ⟨-, h, -⟩ | ⟨q, _, hq, h⟩)
  · omega
  · omega
  · have : q = p := by omega
    subst this
    rw [hi] at hq; cases hq
theorem oth_lo {F0 : Nat → Int32} {v i : Nat} (hi : i < 6) (h2 : i ≠ 2) : ¬ oth F0 v i := by
  rintro (h | ⟨h, -, -⟩ | ⟨q, _, _, h⟩) <;> omega
theorem eqN.vr {F0 F G : Nat → Int32} {v : Nat} (h : eqN F0 v F G) (hv : v < 3) {i : Nat} (h1 : 6 + 19 * v ≤ i) (h2 : i < 25 + 19 * v) : G i = F i := h.1 i (oth_v h1 h2 hv)
theorem eqN.put {F0 F G : Nat → Int32} {v : Nat} (h : eqN F0 v F G) {i : Nat} {x y : Int32} (hx : y = x) (h1 : ∀ p, p < 12 → i ≠ 63 + 10 * p ∧ i ≠ 63 + 10 * p + 5) : eqN F0 v (upd F i x) (upd G i y) := by
  refine ⟨fun j hj => ?_, fun p hp => ?_⟩
  · rw [upd_at, upd_at, hx]
    split
    · rfl
    · exact h.1 j hj
  · rw [← h.2 p hp]
    unfold inP
    rw [upd_at, if_neg (Ne.symm (h1 p hp).2), upd_at, if_neg (Ne.symm (h1 p hp).1)]
theorem eqN.heatZ {F0 F G : Nat → Int32} {v z : Nat} {o : Int32} (h : eqN F0 v F G) (hv : v < 3) (hz : z < 3) : eqN F0 v (Jvm.Pilot.@@N@@.heatZ F v z o) (Jvm.Pilot.@@N@@.heatZ G v z o) := by
  refine h.put ?_ (fun p _ => by omega)
  unfold heat1
  rw [h.vr hv (i := 6 + 19 * v + 2) (by omega) (by omega), h.vr hv (i := 10 + 19 * v + 5 * z) (by omega) (by omega), h.vr hv (i := 6 + 19 * v) (by omega) (by omega), h.vr hv (i := 6 + 19 * v + 1) (by omega) (by omega)]
theorem eqN.mix1 {F0 F G : Nat → Int32} {v z : Nat} (h : eqN F0 v F G) (hv : v < 3) (hz : z < 2) : eqN F0 v (Jvm.Pilot.@@N@@.mix1 F v z) (Jvm.Pilot.@@N@@.mix1 G v z) := by
  have e0 := h.vr hv (i := 10 + 19 * v + 5 * z) (by omega) (by omega)
  have e1 := h.vr hv (i := 10 + 19 * v + 5 * (z + 1)) (by omega) (by omega)
  have ed : mixd G v z = mixd F v z := by unfold mixd; rw [e0, e1]
  exact (h.put (by rw [e0, ed]) (fun p _ => by omega)).put (by rw [e1, ed]) (fun p _ => by omega)
theorem eqN.mid {F0 F G : Nat → Int32} {v : Nat} (h : eqN F0 v F G) (hv : v < 3) : eqN F0 v (midF F v) (midF G v) := by
  unfold midF mixA heatA
  rw [h.1 3 (oth_lo (by decide) (by decide))]
  exact ((((h.heatZ hv (by decide)).heatZ hv (by decide)).heatZ hv (by decide)).mix1 hv (by decide)).mix1 hv (by decide)
theorem eqN.rdg {F0 F G : Nat → Int32} {v z : Nat} (h : eqN F0 v F G) (hv : v < 3) (hz : z < 3) : Jvm.Pilot.@@N@@.rdg G (10 + 19 * v + 5 * z) = Jvm.Pilot.@@N@@.rdg F (10 + 19 * v + 5 * z) := by
  unfold Jvm.Pilot.@@N@@.rdg
  rw [h.vr hv (i := 10 + 19 * v + 5 * z + 1) (by omega) (by omega), h.vr hv (i := 10 + 19 * v + 5 * z + 2) (by omega) (by omega), h.vr hv (i := 10 + 19 * v + 5 * z) (by omega) (by omega)]
theorem eqN.told {F0 F G : Nat → Int32} {v z : Nat} (h : eqN F0 v F G) (hv : v < 3) (hz : z < 3) : toldF G v z = toldF F v z := by
  unfold toldF
  rw [h.vr hv (i := 10 + 19 * v + 5 * z + 3) (by omega) (by omega), h.rdg hv hz, h.rdg hv (show (z + 1) % 3 < 3 by omega), h.rdg hv (show (z + 2) % 3 < 3 by omega)]
theorem eqN.find1 {F0 F G : Nat → Int32} {v z : Nat} {D P : Int32} (h : eqN F0 v F G) (hv : v < 3) (hz : z < 3) : eqN F0 v (Jvm.Pilot.@@N@@.find1 F v z D P) (Jvm.Pilot.@@N@@.find1 G v z D P) := by
  have eo : oddF G v z D = oddF F v z D := by
    unfold oddF
    rw [h.rdg hv hz, h.rdg hv (show (z + 1) % 3 < 3 by omega), h.rdg hv (show (z + 2) % 3 < 3 by omega)]
  have en : oddN G v z D = oddN F v z D := by
    unfold oddN
    rw [eo, h.vr hv (i := 10 + 19 * v + 5 * z + 4) (by omega) (by omega)]
  have eb : fndB G v z D P = fndB F v z D P := by
    unfold fndB
    rw [en, h.vr hv (i := 10 + 19 * v + 5 * z + 3) (by omega) (by omega)]
  unfold Jvm.Pilot.@@N@@.find1
  rw [eb]
  split
  · exact (h.put en (fun p _ => by omega)).put rfl (fun p _ => by omega)
  · exact h.put en (fun p _ => by omega)
theorem eqN.addP {F0 F G : Nat → Int32} {v p z : Nat} (h : eqN F0 v F G) (hv : v < 3) (hz : z < 3) (hp : p < 12) (hi : inP F0 p (nI v) = true) : eqN F0 v (Jvm.Pilot.@@N@@.addP F v p z) (Jvm.Pilot.@@N@@.addP G v p z) := by
  have hw : eqN F0 v (warmP F v p z) (warmP G v p z) := by
    unfold warmP
    rw [h.vr hv (i := 10 + 19 * v + 5 * z) (by omega) (by omega), h.vr hv (i := 6 + 19 * v + 2) (by omega) (by omega), h.1 (63 + 10 * p + 2) (oth_p (Or.inl (by decide)))]
    split
    · exact h
    · split
      · exact h.put (by rw [h.1 (63 + 10 * p + 7) (oth_in (by decide) hi)]) (fun q _ => by omega)
      · exact h.put (by rw [h.1 (63 + 10 * p + 6) (oth_in (by decide) hi)]) (fun q _ => by omega)
  unfold Jvm.Pilot.@@N@@.addP tellP
  rw [hw.told hv hz, hw.1 (63 + 10 * p + 2) (oth_p (Or.inl (by decide)))]
  split
  · exact hw
  · exact hw.put (by rw [hw.1 (63 + 10 * p + 8) (oth_in (by decide) hi)]) (fun q _ => by omega)
theorem eqN.addL {F0 : Nat → Int32} {v : Nat} (hv : v < 3) : ∀ (n p : Nat) (F G : Nat → Int32), p + n ≤ 12 → eqN F0 v F G → zOK F → eqN F0 v (Jvm.Pilot.@@N@@.addL F v n p) (Jvm.Pilot.@@N@@.addL G v n p) := by
  intro n
  induction n with
  | zero => intro p F G _ h _; exact h
  | succ n ih =>
    intro p F G hp h hz
    unfold Jvm.Pilot.@@N@@.addL
    have ei : inP G p (nI v) = inP F p (nI v) := by
      unfold inP
      rw [h.1 (63 + 10 * p + 5) (oth_p (Or.inl (by decide))), h.1 (63 + 10 * p) (oth_p (j := 0) (Or.inl (by decide)))]
    have ez : zP G p = zP F p := by
      unfold zP
      rw [h.1 (63 + 10 * p + 1) (oth_p (Or.inl (by decide)))]
    rw [ei, ez]
    split
    · rename_i hi
      exact ih (p + 1) _ _ (by omega) (h.addP hv (hz.at (by omega)).1 (by omega) (by rw [← h.2 p (by omega)]; exact hi)) (hz.addP _ _ _)
    · exact ih (p + 1) _ _ (by omega) h hz
theorem eqN.min {F0 F G : Nat → Int32} {v : Nat} (h : eqN F0 v F G) (hv : v < 3) (hz : zOK F) (hnp : npF F ≤ 12) : eqN F0 v (minF F v) (minF G v) := by
  unfold minF
  have e1 : npF G = npF F := by unfold npF; rw [h.1 1 (oth_lo (by decide) (by decide))]
  rw [h.1 4 (oth_lo (by decide) (by decide)), h.1 5 (oth_lo (by decide) (by decide)), e1]
  exact eqN.addL hv _ _ _ _ (by omega) ((((h.mid hv).find1 hv (by decide)).find1 hv (by decide)).find1 hv (by decide)) ((hz.mid hv).find hv _ _)
theorem inP_addP (F : Nat → Int32) (w p z q : Nat) (x : Int32) : inP (addP F w p z) q x = inP F q x := by
  unfold inP
  rw [addP_ne _ (by omega) (by omega) (by omega), addP_ne _ (by omega) (by omega) (by omega)]
theorem addL_fr (w : Nat) {i : Nat} : ∀ (n p : Nat) (F : Nat → Int32), (∀ q, p ≤ q → q < p + n → inP F q (nI w) = true → i ≠ 63 + 10 * q + 6 ∧ i ≠ 63 + 10 * q + 7 ∧ i ≠ 63 + 10 * q + 8) → addL F w n p i = F i := by
  intro n
  induction n with
  | zero => intro p F _; rfl
  | succ n ih =>
    intro p F h
    unfold addL
    split
    · rename_i hi
      have h2 := h p (Nat.le_refl _) (by omega) hi
      rw [ih (p + 1) _ (fun q h1 h3 hq => h q (by omega) (by omega) (by rw [inP_addP] at hq; exact hq)), addP_ne _ h2.1 h2.2.1 h2.2.2]
    · exact ih (p + 1) _ (fun q h1 h3 hq => h q (by omega) (by omega) hq)
theorem midF_out (F : Nat → Int32) {w i : Nat} (hw : w < 3) (h : i < 10 + 19 * w ∨ 25 + 19 * w ≤ i) : midF F w i = F i := by
  unfold midF mixA heatA
  rw [mix1_ne _ (by omega) (by omega), mix1_ne _ (by omega) (by omega), heatZ_ne _ _ (by omega), heatZ_ne _ _ (by omega), heatZ_ne _ _ (by omega)]
theorem findA_out (F : Nat → Int32) {w i : Nat} (D P : Int32) (hw : w < 3) (h : i < 10 + 19 * w ∨ 25 + 19 * w ≤ i) : findA F w D P i = F i := by
  unfold findA
  rw [find1_ne _ _ _ (by omega) (by omega), find1_ne _ _ _ (by omega) (by omega), find1_ne _ _ _ (by omega) (by omega)]
theorem inP_eq (F F' : Nat → Int32) (p : Nat) (x : Int32) (h : F' (63 + 10 * p) = F (63 + 10 * p)) (h5 : F' (63 + 10 * p + 5) = F (63 + 10 * p + 5)) : inP F' p x = inP F p x := by unfold inP; rw [h, h5]
/-- another van's minute -/
theorem eqN.other {F0 F G : Nat → Int32} {v w : Nat} (h : eqN F0 v F G) (hv : v < 3) (hw : w < 3) (hvw : w ≠ v) (hnp : npF G ≤ 12) : eqN F0 v F (minF G w) := by
  refine ⟨fun i hi => ?_, h.2⟩
  rw [← h.1 i hi]
  have hout : i < 10 + 19 * w ∨ 25 + 19 * w ≤ i := by
    rcases Nat.lt_or_ge i (10 + 19 * w) with q | q
    · exact Or.inl q
    · rcases Nat.lt_or_ge i (25 + 19 * w) with q2 | q2
      · exact absurd (Or.inr (Or.inl ⟨by omega, by omega, by omega⟩)) hi
      · exact Or.inr q2
  unfold minF
  rw [addL_fr, findA_out _ _ _ hw hout, midF_out _ hw hout]
  intro q _ hq hin
  have hin2 : inP G q (nI w) = true := by
    rw [← hin]
    refine (inP_eq _ _ _ _ ?_ ?_).symm
    · rw [findA_out _ _ _ hw (by omega), midF_out _ hw (by omega)]
    · rw [findA_out _ _ _ hw (by omega), midF_out _ hw (by omega)]
  have hno : inP F0 q (nI v) = false := by
    rw [← h.2 q (by omega)]
    have e0 : G (63 + 10 * q) = F (63 + 10 * q) := h.1 _ (oth_p (j := 0) (Or.inl (by decide)))
    unfold inP at hin2 ⊢
    rw [Bool.and_eq_true, decide_eq_true_eq, decide_eq_true_eq] at hin2
    rw [← e0, hin2.2]
    have : ¬ nI w = nI v := fun q => by
      have := (nI_eqm w v).mp q
      omega
    simp [this]
  refine ⟨fun e => hi ?_, fun e => hi ?_, fun e => hi ?_⟩
  · exact Or.inr (Or.inr ⟨q, by omega, hno, Or.inl e⟩)
  · exact Or.inr (Or.inr ⟨q, by omega, hno, Or.inr (Or.inl e)⟩)
  · exact Or.inr (Or.inr ⟨q, by omega, hno, Or.inr (Or.inr e)⟩)
