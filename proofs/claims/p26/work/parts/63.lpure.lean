/-! LPURE: the law lets a minute pass in all vans, then looks at all pallets; the class does both van by van: the same. -/
def lvF : Nat → Nat → (Nat → Int32) → (Nat → Int32)
  | 0, _, F => F
  | n + 1, v, F => lvF n (v + 1) (findA (midF F v) v (F 4) (F 5))
def lvN : Nat → Nat → (Nat → Int32) → Int32 → Int32
  | 0, _, _, a => a
  | n + 1, v, F, a => lvN n (v + 1) (findA (midF F v) v (F 4) (F 5)) (a + minN F v)
def pm1 (F : Nat → Int32) (p : Nat) : Nat → Int32 := if F (63 + 10 * p + 5) = 0 then addP F (vN (F (63 + 10 * p))) p (zP F p) else F
def lpF : Nat → Nat → (Nat → Int32) → (Nat → Int32)
  | 0, _, F => F
  | n + 1, p, F => lpF n (p + 1) (pm1 F p)
/-- alike in van v's cells -/
def vEq (v : Nat) (F G : Nat → Int32) : Prop := ∀ i, 6 + 19 * v ≤ i → i < 25 + 19 * v → G i = F i
theorem vEq.put {F G : Nat → Int32} {v : Nat} (h : vEq v F G) (i : Nat) {x y : Int32} (hx : y = x) : vEq v (upd F i x) (upd G i y) := fun j h1 h2 => by
  rw [upd_at, upd_at, hx]
  split
  · rfl
  · exact h j h1 h2
theorem vEq.heatZ {F G : Nat → Int32} {v z : Nat} {o : Int32} (h : vEq v F G) (hz : z < 3) : vEq v (Jvm.Pilot.@@N@@.heatZ F v z o) (Jvm.Pilot.@@N@@.heatZ G v z o) := by
  refine h.put _ ?_
  unfold heat1
  rw [h (6 + 19 * v + 2) (by omega) (by omega), h (10 + 19 * v + 5 * z) (by omega) (by omega), h (6 + 19 * v) (by omega) (by omega), h (6 + 19 * v + 1) (by omega) (by omega)]
theorem vEq.mix1 {F G : Nat → Int32} {v z : Nat} (h : vEq v F G) (hz : z < 2) : vEq v (Jvm.Pilot.@@N@@.mix1 F v z) (Jvm.Pilot.@@N@@.mix1 G v z) := by
  have e0 := h (10 + 19 * v + 5 * z) (by omega) (by omega)
  have e1 := h (10 + 19 * v + 5 * (z + 1)) (by omega) (by omega)
  have ed : mixd G v z = mixd F v z := by unfold mixd; rw [e0, e1]
  exact (h.put _ (by rw [e0, ed])).put _ (by rw [e1, ed])
theorem vEq.mid {F G : Nat → Int32} {v : Nat} (h : vEq v F G) (h3 : G 3 = F 3) : vEq v (midF F v) (midF G v) := by
  unfold midF mixA heatA
  rw [h3]
  exact ((((h.heatZ (by decide)).heatZ (by decide)).heatZ (by decide)).mix1 (by decide)).mix1 (by decide)
theorem vEq.rdg {F G : Nat → Int32} {v z : Nat} (h : vEq v F G) (hz : z < 3) : Jvm.Pilot.@@N@@.rdg G (10 + 19 * v + 5 * z) = Jvm.Pilot.@@N@@.rdg F (10 + 19 * v + 5 * z) := by
  unfold Jvm.Pilot.@@N@@.rdg
  rw [h (10 + 19 * v + 5 * z + 1) (by omega) (by omega), h (10 + 19 * v + 5 * z + 2) (by omega) (by omega), h (10 + 19 * v + 5 * z) (by omega) (by omega)]
theorem vEq.told {F G : Nat → Int32} {v z : Nat} (h : vEq v F G) (hz : z < 3) : toldF G v z = toldF F v z := by
  unfold toldF
  rw [h (10 + 19 * v + 5 * z + 3) (by omega) (by omega), h.rdg hz, h.rdg (show (z + 1) % 3 < 3 by omega), h.rdg (show (z + 2) % 3 < 3 by omega)]
theorem vEq.fnd {F G : Nat → Int32} {v z : Nat} (h : vEq v F G) (hz : z < 3) (D P : Int32) : oddN G v z D = oddN F v z D ∧ fndB G v z D P = fndB F v z D P := by
  have eo : oddF G v z D = oddF F v z D := by
    unfold oddF
    rw [h.rdg hz, h.rdg (show (z + 1) % 3 < 3 by omega), h.rdg (show (z + 2) % 3 < 3 by omega)]
  have en : oddN G v z D = oddN F v z D := by
    unfold oddN
    rw [eo, h (10 + 19 * v + 5 * z + 4) (by omega) (by omega)]
  refine ⟨en, ?_⟩
  unfold fndB
  rw [en, h (10 + 19 * v + 5 * z + 3) (by omega) (by omega)]
theorem vEq.find1 {F G : Nat → Int32} {v z : Nat} (h : vEq v F G) (hz : z < 3) (D P : Int32) : vEq v (Jvm.Pilot.@@N@@.find1 F v z D P) (Jvm.Pilot.@@N@@.find1 G v z D P) := by
  obtain ⟨en, eb⟩ := h.fnd hz D P
  unfold Jvm.Pilot.@@N@@.find1
  rw [eb]
  split
  · exact (h.put _ en).put _ rfl
  · exact h.put _ en
theorem vEq.findA {F G : Nat → Int32} {v : Nat} (h : vEq v F G) (D P : Int32) : vEq v (Jvm.Pilot.@@N@@.findA F v D P) (Jvm.Pilot.@@N@@.findA G v D P) :=
  ((h.find1 (by decide) D P).find1 (by decide) D P).find1 (by decide) D P
theorem vEq.fndA {F G : Nat → Int32} {v : Nat} (h : vEq v F G) (D P : Int32) : Jvm.Pilot.@@N@@.fndA G v D P = Jvm.Pilot.@@N@@.fndA F v D P := by
  unfold Jvm.Pilot.@@N@@.fndA fndN
  rw [(h.fnd (by decide) D P).2, ((h.find1 (z := 0) (by decide) D P).fnd (by decide) D P).2, (((h.find1 (z := 0) (by decide) D P).find1 (z := 1) (by decide) D P).fnd (by decide) D P).2]
/-- alike below 63 -/
def A63 (F G : Nat → Int32) : Prop := ∀ i, i < 63 → G i = F i
theorem A63.v {F G : Nat → Int32} (h : A63 F G) {v : Nat} (hv : v < 3) : vEq v F G := fun i _ h2 => h i (by omega)
theorem A63.step {F G : Nat → Int32} (h : A63 F G) {v : Nat} (hv : v < 3) : A63 (findA (midF F v) v (F 4) (F 5)) (findA (midF G v) v (G 4) (G 5)) := fun i hi => by
  by_cases hr : i < 10 + 19 * v ∨ 25 + 19 * v ≤ i
  · rw [findA_out _ _ _ hv hr, findA_out _ _ _ hv hr, midF_out _ hv hr, midF_out _ hv hr]; exact h i hi
  · rw [h 4 (by decide), h 5 (by decide)]
    exact ((h.v hv).mid (h 3 (by decide))).findA _ _ i (by omega) (by omega)
theorem A63.minN {F G : Nat → Int32} (h : A63 F G) {v : Nat} (hv : v < 3) : Jvm.Pilot.@@N@@.minN G v = Jvm.Pilot.@@N@@.minN F v := by
  unfold Jvm.Pilot.@@N@@.minN
  rw [h 4 (by decide), h 5 (by decide)]
  exact ((h.v hv).mid (h 3 (by decide))).fndA _ _
theorem A63.lv : ∀ (n v : Nat) (F G : Nat → Int32), v + n ≤ 3 → A63 F G → A63 (lvF n v F) (lvF n v G) := by
  intro n
  induction n with
  | zero => intro v F G _ h; exact h
  | succ n ih => intro v F G hv h; exact ih (v + 1) _ _ (by omega) (h.step (by omega))
theorem A63.lvN : ∀ (n v : Nat) (F G : Nat → Int32) (a : Int32), v + n ≤ 3 → A63 F G → Jvm.Pilot.@@N@@.lvN n v G a = Jvm.Pilot.@@N@@.lvN n v F a := by
  intro n
  induction n with
  | zero => intro v F G a _ _; rfl
  | succ n ih =>
    intro v F G a hv h
    unfold Jvm.Pilot.@@N@@.lvN
    rw [h.minN (by omega)]
    exact ih (v + 1) _ _ _ (by omega) (h.step (by omega))
theorem lv_out : ∀ (n v : Nat) (F : Nat → Int32) {i : Nat}, v + n ≤ 3 → (i < 10 + 19 * v ∨ 6 + 19 * (v + n) ≤ i) → lvF n v F i = F i := by
  intro n
  induction n with
  | zero => intro v F i _ _; rfl
  | succ n ih =>
    intro v F i hv h
    unfold lvF
    rw [ih (v + 1) _ (by omega) (by omega), findA_out _ _ _ (by omega) (by omega), midF_out _ (by omega) (by omega)]
/-- a pallet's minute rests on its van's cells and its own -/
theorem addP_loc {F G : Nat → Int32} {v p z : Nat} (h : vEq v F G) (hz : z < 3) (hp : ∀ j, j < 10 → G (63 + 10 * p + j) = F (63 + 10 * p + j)) : ∀ j, j < 10 → addP G v p z (63 + 10 * p + j) = addP F v p z (63 + 10 * p + j) := by
  have put : ∀ {A B : Nat → Int32}, (∀ j, j < 10 → B (63 + 10 * p + j) = A (63 + 10 * p + j)) → ∀ (i : Nat) {x y : Int32}, y = x → ∀ j, j < 10 → upd B i y (63 + 10 * p + j) = upd A i x (63 + 10 * p + j) := fun hab i x y hx j hj => by
    rw [upd_at, upd_at, hx]
    split
    · rfl
    · exact hab j hj
  have hw : (∀ j, j < 10 → warmP G v p z (63 + 10 * p + j) = warmP F v p z (63 + 10 * p + j)) ∧ vEq v (warmP F v p z) (warmP G v p z) := by
    unfold warmP
    rw [h (10 + 19 * v + 5 * z) (by omega) (by omega), h (6 + 19 * v + 2) (by omega) (by omega), hp 2 (by decide)]
    split
    · exact ⟨hp, h⟩
    · split
      · exact ⟨put hp _ (by rw [hp 7 (by decide)]), h.put _ (by rw [hp 7 (by decide)])⟩
      · exact ⟨put hp _ (by rw [hp 6 (by decide)]), h.put _ (by rw [hp 6 (by decide)])⟩
  unfold addP tellP
  rw [hw.2.told hz, hw.1 2 (by decide)]
  split
  · exact hw.1
  · exact put hw.1 _ (by rw [hw.1 8 (by decide)])
theorem addP_lo (F : Nat → Int32) {v p z i : Nat} (hi : i < 63) : addP F v p z i = F i := addP_ne F (by omega) (by omega) (by omega)
theorem addP_out (F : Nat → Int32) {v p z i : Nat} (hi : i < 63 + 10 * p ∨ 63 + 10 * p + 10 ≤ i) : addP F v p z i = F i := addP_ne F (by omega) (by omega) (by omega)
theorem addP_st (F : Nat → Int32) {v p z q j : Nat} (hj : j < 6) : addP F v p z (63 + 10 * q + j) = F (63 + 10 * q + j) := addP_ne F (by omega) (by omega) (by omega)
theorem addP_st0 (F : Nat → Int32) {v p z q : Nat} : addP F v p z (63 + 10 * q) = F (63 + 10 * q) := addP_ne F (by omega) (by omega) (by omega)
/-- a pallet's turn, cell by cell: at the pallets' cells -/
theorem addL_lo63 (v : Nat) {i : Nat} (hi : i < 63) (n p : Nat) (F : Nat → Int32) : addL F v n p i = F i := addL_lo v (fun p => ⟨by omega, by omega, by omega⟩) n p F
theorem addL_U {v : Nat} (hv : v < 3) : ∀ (n p : Nat) (F : Nat → Int32) (q j : Nat), j < 10 → (∀ q, q < p + n → zP F q < 3) → addL F v n p (63 + 10 * q + j) = if p ≤ q ∧ q < p + n ∧ inP F q (nI v) = true then addP F v q (zP F q) (63 + 10 * q + j) else F (63 + 10 * q + j) := by
  intro n
  induction n with
  | zero => intro p F q j _ _; rw [if_neg (by omega)]; rfl
  | succ n ih =>
    intro p F q j hj hzz
    unfold addL
    by_cases hin : inP F p (nI v) = true
    · rw [if_pos hin]
      have ez : ∀ q, zP (addP F v p (zP F p)) q = zP F q := fun q => by unfold zP; rw [addP_st F (by decide)]
      have ei : ∀ q, inP (addP F v p (zP F p)) q (nI v) = inP F q (nI v) := fun q => inP_addP _ _ _ _ _ _
      rw [ih (p + 1) _ q j hj (fun q hq => by rw [ez]; exact hzz q (by omega)), ez, ei]
      by_cases hq : q = p
      · subst hq
        rw [if_neg (by omega), if_pos ⟨Nat.le_refl _, by omega, hin⟩]
      · have e0 : addP F v p (zP F p) (63 + 10 * q + j) = F (63 + 10 * q + j) := addP_out F (by omega)
        by_cases hc : p ≤ q ∧ q < p + (n + 1) ∧ inP F q (nI v) = true
        · rw [if_pos hc, if_pos ⟨by omega, by omega, hc.2.2⟩]
          exact addP_loc (F := F) (fun i h1 h2 => addP_lo F (by omega)) (hzz q (by omega)) (fun j hj => addP_out F (by omega)) j hj
        · rw [if_neg hc, if_neg (fun h => hc ⟨by omega, by omega, h.2.2⟩), e0]
    · rw [if_neg hin, ih (p + 1) _ q j hj (fun q hq => hzz q (by omega))]
      by_cases hc : p ≤ q ∧ q < p + (n + 1) ∧ inP F q (nI v) = true
      · have : q ≠ p := fun e => hin (e ▸ hc.2.2)
        rw [if_pos hc, if_pos ⟨by omega, by omega, hc.2.2⟩]
      · rw [if_neg hc, if_neg (fun h => hc ⟨by omega, by omega, h.2.2⟩)]
theorem pm1_lo (F : Nat → Int32) (p : Nat) {i : Nat} (hi : i < 63) : pm1 F p i = F i := by
  unfold pm1
  split
  · exact addP_lo F hi
  · rfl
theorem pm1_out (F : Nat → Int32) (p : Nat) {i : Nat} (hi : i < 63 + 10 * p ∨ 63 + 10 * p + 10 ≤ i) : pm1 F p i = F i := by
  unfold pm1
  split
  · exact addP_out F hi
  · rfl
theorem pm1_st (F : Nat → Int32) (p : Nat) {q j : Nat} (hj : j < 6) : pm1 F p (63 + 10 * q + j) = F (63 + 10 * q + j) := by
  unfold pm1
  split
  · exact addP_st F hj
  · rfl
theorem lpF_lo : ∀ (n p : Nat) (F : Nat → Int32) {i : Nat}, i < 63 → lpF n p F i = F i := by
  intro n
  induction n with
  | zero => intro p F i _; rfl
  | succ n ih => intro p F i hi; unfold lpF; rw [ih _ _ hi, pm1_lo _ _ hi]
theorem lpF_U : ∀ (n p : Nat) (F : Nat → Int32) (q j : Nat), j < 10 → (∀ q, q < p + n → zP F q < 3 ∧ vN (F (63 + 10 * q)) < 3) → lpF n p F (63 + 10 * q + j) = if p ≤ q ∧ q < p + n then pm1 F q (63 + 10 * q + j) else F (63 + 10 * q + j) := by
  intro n
  induction n with
  | zero => intro p F q j _ _; rw [if_neg (by omega)]; rfl
  | succ n ih =>
    intro p F q j hj hzz
    unfold lpF
    have e5 : ∀ q, pm1 F p (63 + 10 * q + 5) = F (63 + 10 * q + 5) := fun q => pm1_st F p (by decide)
    have e0 : ∀ q, pm1 F p (63 + 10 * q) = F (63 + 10 * q) := fun q => pm1_st F p (j := 0) (by decide)
    have ez : ∀ q, zP (pm1 F p) q = zP F q := fun q => by unfold zP; rw [pm1_st F p (by decide)]
    rw [ih (p + 1) _ q j hj (fun q hq => by rw [ez, e0]; exact hzz q (by omega))]
    by_cases hq : q = p
    · subst hq
      rw [if_neg (by omega), if_pos ⟨Nat.le_refl _, by omega⟩]
    · have eo : ∀ j, j < 10 → pm1 F p (63 + 10 * q + j) = F (63 + 10 * q + j) := fun j hj => pm1_out F p (by omega)
      by_cases hc : p ≤ q ∧ q < p + (n + 1)
      · rw [if_pos hc, if_pos ⟨by omega, by omega⟩]
        have hv := hzz q (by omega)
        show (pm1 (pm1 F p) q) _ = pm1 F q _
        unfold pm1
        rw [show (if F (63 + 10 * p + 5) = 0 then addP F (vN (F (63 + 10 * p))) p (zP F p) else F) = pm1 F p from rfl, e5, e0, ez]
        split
        · exact addP_loc (F := F) (fun i h1 h2 => pm1_lo F p (by omega)) hv.1 eo j hj
        · exact eo j hj
      · rw [if_neg hc, if_neg (fun h => hc ⟨by omega, by omega⟩), eo j hj]
/-- class: van by van -/
theorem vs_U : ∀ (n v : Nat) (G : Nat → Int32), v + n ≤ 3 → npF G ≤ 12 → zOK G → A63 (lvF n v G) (vsF n v G) ∧ (∀ a, vsN n v G a = lvN n v G a) ∧ ∀ q j, q < 12 → j < 10 → ∀ w, w < 3 → G (63 + 10 * q) = nI w → vsF n v G (63 + 10 * q + j) = if v ≤ w ∧ w < v + n ∧ q < npF G ∧ G (63 + 10 * q + 5) = 0 then addP (lvF n v G) w q (zP G q) (63 + 10 * q + j) else G (63 + 10 * q + j) := by
  intro n
  induction n with
  | zero => intro v G _ _ _; exact ⟨fun _ _ => rfl, fun _ => rfl, fun q j _ _ w _ _ => by rw [if_neg (by omega)]; rfl⟩
  | succ n ih =>
    intro v G hv hm hzo
    have hv3 : v < 3 := by omega
    generalize hG1 : findA (midF G v) v (G 4) (G 5) = G1
    have o1 : ∀ i, i < 10 + 19 * v ∨ 25 + 19 * v ≤ i → G1 i = G i := fun i h => by rw [← hG1, findA_out _ _ _ hv3 h, midF_out _ hv3 h]
    have p1 : ∀ i, 63 ≤ i → G1 i = G i := fun i h => o1 i (by omega)
    have hM : minF G v = addL G1 v (npF G) 0 := by unfold minF; rw [hG1]
    have a1 : A63 G1 (minF G v) := fun i hi => by rw [hM]; exact addL_lo63 v hi _ _ _
    have z1 : ∀ q, zP G1 q = zP G q := fun q => by unfold zP; rw [p1 _ (by omega)]
    have hz3 : ∀ q, q < 12 → zP G q < 3 := fun q hq => (hzo.at hq).1
    have u1 : ∀ q j, j < 10 → minF G v (63 + 10 * q + j) = if q < npF G ∧ inP G q (nI v) = true then addP G1 v q (zP G q) (63 + 10 * q + j) else G (63 + 10 * q + j) := fun q j hj => by
      have hi : inP G1 q (nI v) = inP G q (nI v) := inP_eq _ _ _ _ (p1 _ (by omega)) (p1 _ (by omega))
      rw [hM, addL_U hv3 (npF G) 0 G1 q j hj (fun q hq => by rw [z1]; exact hz3 q (by omega)), z1, hi, p1 _ (by omega)]
      by_cases hc : q < npF G ∧ inP G q (nI v) = true
      · rw [if_pos hc, if_pos ⟨by omega, by omega, hc.2⟩]
      · rw [if_neg hc, if_neg (fun h => hc ⟨by omega, h.2.2⟩)]
    have st : ∀ q j, j < 6 → minF G v (63 + 10 * q + j) = G (63 + 10 * q + j) := fun q j hj => minF_hi G hv3 (by omega) (fun p => by omega)
    have st0 : ∀ q, minF G v (63 + 10 * q) = G (63 + 10 * q) := fun q => st q 0 (by decide)
    have np1 : npF (minF G v) = npF G := by unfold npF; rw [minF_lo _ (by decide)]
    have zz : zP (minF G v) = zP G := by funext q; unfold zP; rw [st q 1 (by decide)]
    obtain ⟨i1, i2, i3⟩ := ih (v + 1) (minF G v) (by omega) (by rw [np1]; exact hm) (hzo.min hv3)
    have alv : A63 (lvF n (v + 1) G1) (lvF n (v + 1) (minF G v)) := A63.lv n (v + 1) _ _ (by omega) a1
    have el : lvF (n + 1) v G = lvF n (v + 1) G1 := by rw [← hG1]; rfl
    refine ⟨fun i hi => ?_, fun a => ?_, fun q j hq hj w hw hGw => ?_⟩
    · rw [el, ← alv i hi]; exact i1 i hi
    · show vsN n (v + 1) (minF G v) (a + minN G v) = lvN (n + 1) v G a
      rw [i2]
      show lvN n (v + 1) (minF G v) (a + minN G v) = lvN n (v + 1) (findA (midF G v) v (G 4) (G 5)) (a + minN G v)
      rw [hG1]
      exact A63.lvN n (v + 1) _ _ _ (by omega) a1
    · show vsF n (v + 1) (minF G v) (63 + 10 * q + j) = _
      rw [i3 q j hq hj w hw (by rw [st0]; exact hGw), np1, zz, st q 5 (by decide), el]
      have hin : inP G q (nI v) = true ↔ (G (63 + 10 * q + 5) = 0 ∧ w = v) := by
        unfold inP
        rw [hGw, Bool.and_eq_true, decide_eq_true_eq, decide_eq_true_eq]
        refine ⟨fun h => ⟨h.1, ?_⟩, fun h => ⟨h.1, by rw [h.2]⟩⟩
        have := (nI_eqm w v).mp h.2
        omega
      by_cases hc : v + 1 ≤ w ∧ w < v + 1 + n ∧ q < npF G ∧ G (63 + 10 * q + 5) = 0
      · rw [if_pos hc, if_pos ⟨by omega, by omega, hc.2.2⟩]
        refine addP_loc (fun i h1 h2 => alv i (by omega)) (hz3 q hq) (fun j hj => ?_) j hj
        rw [lv_out _ _ _ (by omega) (by omega), lv_out _ _ _ (by omega) (by omega), u1 q j hj, if_neg (fun h => by have := (hin.mp h.2).2; omega), p1 _ (by omega)]
      · rw [if_neg hc, u1 q j hj]
        by_cases hd : q < npF G ∧ inP G q (nI v) = true
        · obtain ⟨h5, rfl⟩ := hin.mp hd.2
          rw [if_pos hd, if_pos ⟨Nat.le_refl _, by omega, hd.1, h5⟩]
          refine addP_loc (fun i h1 h2 => (lv_out _ _ _ (by omega) (by omega)).symm) (hz3 q hq) (fun j hj => ?_) j hj
          rw [lv_out _ _ _ (by omega) (by omega)]
        · rw [if_neg hd, if_neg (fun h => ?_)]
          by_cases hwv : w = v
          · exact hd ⟨h.2.2.1, hin.mpr ⟨h.2.2.2, hwv⟩⟩
          · exact hc ⟨by omega, by omega, h.2.2⟩
