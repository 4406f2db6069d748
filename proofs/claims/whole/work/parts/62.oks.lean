/-! OKS: which plain edits go through. -/
theorem err_bt {x : Int32} {a b : Int} (h : bt a b x) (ha : -100001 < a) : errS x = false := by
  unfold errS
  have : (-100001) < x := by
    rw [Int32.lt_iff_toInt_lt, show ((-100001) : Int32).toInt = -100001 by decide]
    have := h.1
    omega
  simp [this]
theorem err_nI {k : Nat} (h : k < 2147483648) : errS (nI k) = false := err_bt (a := 0) (b := 2147483647) (bt_nI h (by omega) (by omega)) (by decide)
theorem new_ok {F : Nat → Int32} {t T : Nat} (h : Good F t T) (sp c : Int32) : errS (newR F sp c) = !(coldS sp c && decide (F 0 < nI 3)) := by
  unfold newR
  by_cases h1 : coldS sp c = true
  · rw [if_pos h1, h1]
    by_cases h2 : F 0 < nI 3
    · rw [if_pos h2, decide_eq_true h2, h.nv.2, err_nI (by have := h.nv.1; omega)]; rfl
    · rw [if_neg h2, decide_eq_false h2]; decide
  · have : coldS sp c = false := by simpa using h1
    rw [if_neg h1, this, Bool.false_and]; decide
theorem num_ok {F : Nat → Int32} {t T : Nat} (h : Good F t T) (w x : Int32) : errS (numR F w x) = !numS w x := by
  unfold numR
  by_cases h1 : numS w x = true
  · rw [if_pos h1, h1]
    split
    · rw [err_bt h.out (by decide)]; rfl
    · split
      · rw [err_bt h.dif (by decide)]; rfl
      · rw [err_bt h.pat (by decide)]; rfl
  · have : numS w x = false := by simpa using h1
    rw [if_neg h1, this]; decide
theorem setv_ok {F : Nat → Int32} {t T : Nat} (h : Good F t T) (x sp c : Int32) : errS (vanR F x sp c) = !(hvS F x && coldS sp c) := by
  unfold vanR
  by_cases h1 : (hvS F x && coldS sp c) = true
  · rw [if_pos h1, h1]
    rw [Bool.and_eq_true] at h1
    obtain ⟨v, -, hv, rfl, e⟩ := h.van h1.1
    rw [e, err_bt (h.set hv) (by decide)]; rfl
  · have : (hvS F x && coldS sp c) = false := by simpa using h1
    rw [if_neg h1, this]; decide
theorem prb_ok {F : Nat → Int32} {t T : Nat} (h : Good F t T) (x z m y : Int32) : errS (prbR F x z m y) = !(hzS F x z && modeS m y) := by
  unfold prbR
  by_cases h1 : (hzS F x z && modeS m y) = true
  · rw [if_pos h1, h1]
    rw [Bool.and_eq_true] at h1
    obtain ⟨v, k, hv, hk, rfl, rfl, e1, e2⟩ := h.zone h1.1
    rw [e1, e2]
    rcases h.mode hv hk with e | e | e <;> rw [e] <;> decide
  · have : (hzS F x z && modeS m y) = false := by simpa using h1
    rw [if_neg h1, this]; decide
theorem ld_ok {F : Nat → Int32} {t T : Nat} (h : Good F t T) (x z l a w : Int32) : errS (ldR F x z l a w) = !(ldB F x z l a w && !decide (F (6 + 19 * vN x + 2) = 0) && ldC F x z) := by
  unfold ldR
  by_cases h1 : ldB F x z l a w = true
  · rw [if_pos h1, h1]
    by_cases h2 : F (6 + 19 * vN x + 2) = 0
    · rw [if_pos h2, decide_eq_true h2]
      show errS (-100002) = !(true && !true && ldC F x z)
      simp only [Bool.not_true, Bool.and_false, Bool.false_and, Bool.not_false]
      decide
    · rw [if_neg h2, decide_eq_false h2]
      by_cases h3 : ldC F x z = true
      · rw [if_pos h3, h3, h.np.2, err_nI (by have := h.np.1; omega)]; rfl
      · have : ldC F x z = false := by simpa using h3
        rw [if_neg h3, this]; decide
  · have : ldB F x z l a w = false := by simpa using h1
    rw [if_neg h1, this, Bool.false_and, Bool.false_and]; decide
/-- an edit that is refused leaves the state -/
theorem new_no {F : Nat → Int32} {sp c : Int32} (h : (coldS sp c && decide (F 0 < nI 3)) = false) : newF F sp c = F := by
  unfold newF
  by_cases h1 : coldS sp c = true
  · rw [if_pos h1]
    by_cases h2 : F 0 < nI 3
    · rw [h1, decide_eq_true h2] at h; cases h
    · rw [if_neg h2]
  · rw [if_neg h1]
theorem num_no {F : Nat → Int32} {w x : Int32} (h : numS w x = false) : numF F w x = F := by unfold numF; rw [if_neg (by rw [h]; decide)]
theorem setv_no {F : Nat → Int32} {x sp c : Int32} (h : (hvS F x && coldS sp c) = false) : vanF F x sp c = F := by unfold vanF; rw [if_neg (by rw [h]; decide)]
theorem prb_no {F : Nat → Int32} {x z m y : Int32} (h : (hzS F x z && modeS m y) = false) : prbF F x z m y = F := by unfold prbF; rw [if_neg (by rw [h]; decide)]
theorem ld_no {F : Nat → Int32} {x z l a w : Int32} (h : (ldB F x z l a w && !decide (F (6 + 19 * vN x + 2) = 0) && ldC F x z) = false) : ldF F x z l a w = F := by
  unfold ldF
  by_cases h1 : ldB F x z l a w = true
  · rw [if_pos h1]
    by_cases h2 : F (6 + 19 * vN x + 2) = 0
    · rw [if_pos h2]
    · rw [if_neg h2]
      by_cases h3 : ldC F x z = true
      · rw [h1, decide_eq_false h2, h3] at h; cases h
      · rw [if_neg h3]
  · rw [if_neg h1]
theorem dt_no {F : Nat → Int32} {s c : Int32} (h : (dtB F s c && mayL F s (npF F) 0 true) = false) : dtF F s c = F := by
  unfold dtF
  by_cases h1 : dtB F s c = true
  · rw [if_pos h1]
    by_cases h2 : badL F s (npF F) 0 = true
    · rw [if_pos h2]
    · have : badL F s (npF F) 0 = false := by simpa using h2
      rw [h1, mayL_bad, this] at h
      cases h
  · rw [if_neg h1]
