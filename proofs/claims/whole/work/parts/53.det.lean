/-! DET: detours on both sides. -/
theorem mayL_bad (F : Nat → Int32) (s : Int32) : ∀ (n p : Nat) (b : Bool), mayL F s n p b = (b && !badL F s n p) := by
  intro n
  induction n with
  | zero => intro p b; show b = (b && !false); simp
  | succ n ih =>
    intro p b
    unfold mayL badL
    rw [ih]
    by_cases h1 : bitB s (nI p) = true
    · rw [if_pos h1, h1]
      by_cases h2 : F (63 + 10 * p + 5) = nI 2
      · rw [if_pos h2]; simp [h2]
      · rw [if_neg h2]; simp [h2]
    · have : bitB s (nI p) = false := by simpa using h1
      rw [if_neg h1, this]; simp
theorem valL_nI {F : Nat → Int32} (hv : ∀ q, q < 12 → bt 0 9999 (F (63 + 10 * q + 4))) (s : Int32) : ∀ (n p a : Nat), p + n ≤ 12 → ∃ b, b ≤ a + 9999 * n ∧ valL F s n p (nI a) = nI b := by
  intro n
  induction n with
  | zero => intro p a _; exact ⟨a, by omega, rfl⟩
  | succ n ih =>
    intro p a hp
    unfold valL
    split
    · have h := hv p (by omega)
      obtain ⟨k, hk, e⟩ := nI_of (x := F (63 + 10 * p + 4)) (fun q => by
        have := h.1
        rw [Int32.lt_iff_toInt_lt, show (0 : Int32).toInt = 0 from rfl] at q
        omega)
      have hk9 : k ≤ 9999 := by
        have := h.2
        rw [e, nI_toInt hk] at this
        omega
      rw [e, nI_add]
      obtain ⟨b, hb, e2⟩ := ih (p + 1) (a + k) (by omega)
      exact ⟨b, by omega, e2⟩
    · obtain ⟨b, hb, e2⟩ := ih (p + 1) a (by omega)
      exact ⟨b, by omega, e2⟩
theorem upd_sw (F : Nat → Int32) {i j : Nat} (x y : Int32) (h : i ≠ j) : upd (upd F i x) j y = upd (upd F j y) i x := by
  funext k
  simp only [upd_at]
  by_cases h1 : k = i
  · subst h1; simp [h]
  · by_cases h2 : k = j
    · subst h2; simp [h1]
    · simp [h1, h2]
theorem dsF_ne (s c D : Int32) (b : Bool) {i : Nat} : ∀ (n p : Nat) (F : Nat → Int32), i < 63 + 10 * p → dsF s c D b n p F i = F i := by
  intro n
  induction n with
  | zero => intro p F _; rfl
  | succ n ih =>
    intro p F hi
    unfold dsF
    split
    · rw [ih _ _ (by omega)]; unfold ds1; rw [upd_at, if_neg (by omega), upd_at, if_neg (by omega)]
    · exact ih _ _ (by omega)
/-- what is left when all parts are given -/
theorem dsN_rst (s c D : Int32) (b : Bool) : ∀ (n p : Nat) (F : Nat → Int32) (l : Int32), dsN s c D b n p F l = rstL (dsF s c D b n p F) s n p l := by
  intro n
  induction n with
  | zero => intro p F l; rfl
  | succ n ih =>
    intro p F l
    unfold dsN rstL dsF
    split
    · rw [ih, dsF_ne _ _ _ _ n (p + 1) _ (by omega)]
      unfold ds1
      rw [upd_at (upd F (63 + 10 * p + 9) _), if_neg (show ¬ 63 + 10 * p + 9 = 63 + 10 * p + 5 by omega), upd_at, if_pos rfl]
    · rw [ih]
theorem shrL_ds {s V k c D : Int32} {b : Bool} (h : ∀ F p, shr1 F p V k c = ds1 s c D b F p) : ∀ (n p : Nat) (F : Nat → Int32), shrL s V k c n p F = dsF s c D b n p F := by
  intro n
  induction n with
  | zero => intro p F; rfl
  | succ n ih =>
    intro p F
    unfold shrL dsF
    rw [ih, h]
    split
    · rfl
    · rfl
theorem td_le {a n : Int} (hn : 0 < n) (h : 0 ≤ a) : a.tdiv n ≤ a := by
  rw [Int.tdiv_eq_ediv_of_nonneg h]
  exact Int.ediv_le_self _ h
/-- one part is neither below 0 nor beyond 10^8 -/
theorem part_b {c x D : Int32} (hc : bt 0 9999 c) (hx : bt 0 9999 x) (hD : 0 < D.toInt) : 0 ≤ (c * x / D).toInt ∧ (c * x / D).toInt ≤ 100000000 := by
  unfold bt at *
  have hm0 : 0 ≤ c.toInt * x.toInt := Int.mul_nonneg (by omega) (by omega)
  have hm1 : c.toInt * x.toInt ≤ 9999 * 9999 := Int.mul_le_mul (by omega) (by omega) (by omega) (by omega)
  have e : (c * x).toInt = c.toInt * x.toInt := imul (by omega) (by omega)
  rw [idiv hD, e]
  have h1 := td_pos hD hm0
  have h2 := td_le hD hm0
  omega
theorem dsN_lo {s c D : Int32} {b : Bool} (hc : bt 0 9999 c) (hD : 0 < D.toInt) : ∀ (n p : Nat) (F : Nat → Int32) (l : Int32), p + n ≤ 12 → (∀ q, q < 12 → bt 0 9999 (F (63 + 10 * q + 4))) → -100000000 * (p : Int) ≤ l.toInt → -1200000000 ≤ (dsN s c D b n p F l).toInt ∧ True := by
  intro n
  induction n with
  | zero => intro p F l hp _ hl; exact ⟨by show -1200000000 ≤ l.toInt; omega, trivial⟩
  | succ n ih =>
    intro p F l hp hv hl
    unfold dsN
    split
    · have hx : bt 0 9999 (if b then nI 1 else F (63 + 10 * p + 4)) := by
        split
        · exact bt_nI (by decide) (by decide) (by decide)
        · exact hv p (by omega)
      have h1 := part_b hc hx hD
      have hlt := Int32.toInt_lt l
      refine ih (p + 1) _ _ (by omega) (fun q hq => ?_) ?_
      · unfold ds1
        rw [upd_at, if_neg (by omega), upd_at, if_neg (by omega)]
        exact hv q hq
      · rw [isub (by omega) (by omega)]; omega
    · exact ih (p + 1) _ _ (by omega) hv (by omega)
theorem im1 : ((-1) : Int32).toInt = -1 := by decide
/-- giving what is left: the counter stops at 0 or goes on -/
theorem giv_same (s : Int32) : ∀ (n p : Nat) (F : Nat → Int32) (r l g : Int32), (r = l ∧ ¬ l ≤ 0 ∨ r ≤ 0 ∧ l ≤ 0 ∧ -2000000000 + (n : Int) ≤ l.toInt) → (¬ l ≤ 0 → True) → n ≤ 12 → givL s n p F r = dgF s n p F l ∧ grtL s n p F r g = dgN s n p F l g := by
  intro n
  induction n with
  | zero => intro p F r l g _ _ _; exact ⟨rfl, rfl⟩
  | succ n ih =>
    intro p F r l g h _ hn
    have e0 : (0 : Int32).toInt = 0 := rfl
    unfold givL dgF grtL dgN
    by_cases hb : bitB s (nI p) = true
    · rw [if_pos hb, if_pos hb, if_pos hb, if_pos hb]
      rcases h with ⟨rfl, h⟩ | ⟨h1, h2, h3⟩
      · rw [if_neg h]
        have e1 : giv1 F p r = dg1 F p r := by unfold giv1 dg1; rw [if_neg h, if_neg h]
        rw [e1]
        have hr : 0 < r.toInt := by rw [Int32.le_iff_toInt_le, e0] at h; omega
        have hlt := Int32.toInt_lt r
        have hm : (r + (-1)).toInt = r.toInt - 1 := by rw [iadd (by rw [im1]; omega) (by rw [im1]; omega), im1]; omega
        refine ih (p + 1) _ _ _ _ ?_ (fun _ => trivial) (by omega)
        by_cases h0 : r + (-1) ≤ 0
        · exact Or.inr ⟨h0, h0, by omega⟩
        · exact Or.inl ⟨rfl, h0⟩
      · rw [if_pos h1]
        have e1 : giv1 F p r = dg1 F p l := by unfold giv1 dg1; rw [if_pos h1, if_pos h2, upd_self]
        rw [e1]
        rw [Int32.le_iff_toInt_le, e0] at h2
        have hm : (l + (-1)).toInt = l.toInt - 1 := by rw [iadd (by rw [im1]; omega) (by rw [im1]; omega), im1]; omega
        refine ih (p + 1) _ _ _ _ (Or.inr ⟨h1, ?_, by omega⟩) (fun _ => trivial) (by omega)
        rw [Int32.le_iff_toInt_le, e0]; omega
    · rw [if_neg hb, if_neg hb, if_neg hb, if_neg hb]
      refine ih (p + 1) F r l g ?_ (fun _ => trivial) (by omega)
      rcases h with h | ⟨h1, h2, h3⟩
      · exact Or.inl h
      · exact Or.inr ⟨h1, h2, by omega⟩
theorem mx_nn {a b : Int32} (h : 0 ≤ a) : 0 ≤ mxS a b := by
  unfold mxS
  split
  · rename_i q
    rw [Int32.lt_iff_toInt_lt] at q
    rw [Int32.le_iff_toInt_le] at h ⊢
    omega
  · exact h
theorem grt_nn (s : Int32) : ∀ (n p : Nat) (F : Nat → Int32) (r g : Int32), 0 ≤ g → 0 ≤ grtL s n p F r g := by
  intro n
  induction n with
  | zero => intro p F r g h; exact h
  | succ n ih =>
    intro p F r g h
    unfold grtL
    split
    · exact ih _ _ _ _ (mx_nn h)
    · exact ih _ _ _ _ h
/-- a set of pallets whose parts are given: the two sides' states and answers -/
theorem det_in {F : Nat → Int32} {t T : Nat} (hg : Good F t T) {s c : Int32} (hd : dtB F s c = true) : mdF F s c (npF F) = givL s (npF F) 0 (sbvF F s c (npF F)) (rstL (sbvF F s c (npF F)) s (npF F) 0 c) ∧ mdG F s c (npF F) = grtL s (npF F) 0 (sbvF F s c (npF F)) (rstL (sbvF F s c (npF F)) s (npF F) 0 c) (nI 0) := by
  obtain ⟨hn, h1⟩ := hg.np
  obtain ⟨j, hj1, hj2, rfl⟩ := dt_set h1 hn hd
  have hj : j < 4096 := by
    have h2 : 2 ^ npF F ≤ 2 ^ 12 := Nat.pow_le_pow_right (by decide) hn
    omega
  have hc : bt 0 9999 c := by
    simp only [dtB, Bool.and_eq_true] at hd
    exact bt_inn hd.2 (by decide) (by decide)
  obtain ⟨w, hw, eV⟩ := valL_nI (fun q hq => hg.value hq) (nI j) (npF F) 0 0 (by omega)
  have hbc := bits_bc hj
  have hbz := bit_nz' hj1 hj
  have hbn := bc_nn hj
  have hbp : 0 < (bcS (nI j)).toInt := by
    rw [← hbc] at hbn ⊢
    rw [Int32.le_iff_toInt_le, show (0 : Int32).toInt = 0 from rfl] at hbn
    have : (bitL (nI j) 12 0 (nI 0)).toInt ≠ 0 := fun q => hbz (Int32.toInt_inj.mp (by rw [q]; rfl))
    omega
  have hwt : (nI w).toInt = w := nI_toInt (by omega)
  have hw0 : (nI w ≤ 0) ↔ nI w = 0 := by
    rw [Int32.le_iff_toInt_le, show (0 : Int32).toInt = 0 from rfl, ← Int32.toInt_inj, show (0 : Int32).toInt = 0 from rfl]
    omega
  have hsame : ∀ G p, shr1 G p (valL F (nI j) (npF F) 0 (nI 0)) (bcS (nI j)) c = ds1 (nI j) c (dtD F (nI j) (npF F)) (dtb F (nI j) (npF F)) G p := by
    intro G p
    unfold shr1 ds1 dtD dtb
    rw [eV]
    by_cases h0 : nI w = 0
    · rw [if_pos (hw0.mpr h0), if_neg (fun q => by rw [Int32.le_iff_toInt_le, show (0 : Int32).toInt = 0 from rfl] at q; omega), if_pos h0, decide_eq_true h0, hbc]
      rw [show (if true = true then nI 1 else G (63 + 10 * p + 4)) = 1 from rfl, Int32.mul_one]
      exact upd_sw _ _ _ (by omega)
    · rw [if_neg (fun q => h0 (hw0.mp q)), if_neg h0, decide_eq_false h0]
      exact upd_sw _ _ _ (by omega)
  have hD : 0 < (dtD F (nI j) (npF F)).toInt := by
    unfold dtD
    rw [eV]
    by_cases h0 : nI w = 0
    · rw [if_pos h0, hbc]; exact hbp
    · rw [if_neg h0, hwt]
      have : w ≠ 0 := fun q => h0 (by rw [q]; rfl)
      omega
  have hF : sbvF F (nI j) c (npF F) = dsF (nI j) c (dtD F (nI j) (npF F)) (dtb F (nI j) (npF F)) (npF F) 0 F := shrL_ds hsame _ _ _
  have hlo := (dsN_lo (s := nI j) (b := dtb F (nI j) (npF F)) hc hD (npF F) 0 F c (by omega) (fun q hq => hg.value hq) (by have := hc.1; omega)).1
  rw [hF, ← dsN_rst]
  unfold mdF mdG mdFF
  generalize dsN (nI j) c (dtD F (nI j) (npF F)) (dtb F (nI j) (npF F)) (npF F) 0 F c = l at hlo ⊢
  have hgv := giv_same (nI j) (npF F) 0 (dsF (nI j) c (dtD F (nI j) (npF F)) (dtb F (nI j) (npF F)) (npF F) 0 F) l l (nI 0) (by
    by_cases h0 : l ≤ 0
    · exact Or.inr ⟨h0, h0, by omega⟩
    · exact Or.inl ⟨rfl, h0⟩) (fun _ => trivial) hn
  exact ⟨hgv.1.symm, hgv.2.symm⟩
theorem det_R {F : Nat → Int32} {t T : Nat} (hg : Good F t T) (s c : Int32) : mdtR F s c = dtR F s c := by
  unfold mdtR dtR
  split
  · rename_i hd
    rw [mayL_bad, Bool.true_and]
    by_cases hb : badL F s (npF F) 0 = true
    · rw [if_pos hb, hb]; rfl
    · have : badL F s (npF F) 0 = false := by simpa using hb
      rw [if_neg hb, this, (det_in hg hd).2]; rfl
  · rfl
theorem det_F {F : Nat → Int32} {t T : Nat} (hg : Good F t T) (s c : Int32) : dtF F s c = if (dtB F s c && mayL F s (npF F) 0 true) = true then mdF F s c (npF F) else F := by
  unfold dtF
  by_cases hd : dtB F s c = true
  · rw [if_pos hd, hd, mayL_bad, Bool.true_and, Bool.true_and]
    by_cases hb : badL F s (npF F) 0 = true
    · rw [if_pos hb, hb]; rfl
    · have : badL F s (npF F) 0 = false := by simpa using hb
      rw [if_neg hb, this, (det_in hg hd).1]; rfl
  · have : dtB F s c = false := by simpa using hd
    rw [if_neg hd, this]; rfl
theorem det_ok {F : Nat → Int32} (s c : Int32) : errS (dtR F s c) = !(dtB F s c && mayL F s (npF F) 0 true) := by
  unfold dtR
  by_cases hd : dtB F s c = true
  · rw [if_pos hd, hd, mayL_bad, Bool.true_and, Bool.true_and]
    by_cases hb : badL F s (npF F) 0 = true
    · rw [if_pos hb, hb]; decide
    · have : badL F s (npF F) 0 = false := by simpa using hb
      rw [if_neg hb, this]
      rcases sg_nn (grt_nn s (npF F) 0 (sbvF F s c (npF F)) (rstL (sbvF F s c (npF F)) s (npF F) 0 c) (nI 0) (by decide)) with ⟨_, q⟩ | ⟨q, _⟩
      · exact absurd (grt_nn s (npF F) 0 (sbvF F s c (npF F)) (rstL (sbvF F s c (npF F)) s (npF F) 0 c) (nI 0) (by decide)) q
      · rw [q]; rfl
  · have : dtB F s c = false := by simpa using hd
    rw [if_neg hd, this, Bool.false_and]; decide
