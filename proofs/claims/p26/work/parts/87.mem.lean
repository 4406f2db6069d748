/-! MEM: what both constructors leave is the heap's shape with the first ints. -/
/-- the law's three rows, from b on -/
def lwP (cid : Nat → ClassId) (b : Nat) : Pw := fun q E => (q = b ∧ E = .inl (cid 9, 6, .inl st0)) ∨ (q = b + 1 ∧ E = .inl (cid 9, 57, .inl (fun _ => 0))) ∨ (q = b + 2 ∧ E = .inl (cid 9, 60, .inl (fun _ => 0)))
def endP (cid : Nat → ClassId) (s0 : Nat) : Pw := fun q E => ccP cid s0 (s0 + 1) 7 q E ∨ lwP cid (s0 + 298) q E
/-- the first ints -/
def M00 : Mm := fun r i => if r < 9 ∨ r = 50 then st0 i else 0
theorem M00_s {r : Nat} (h : r < 9 ∨ r = 50) : M00 r = st0 := by
  funext i; exact if_pos h
theorem M00_0 {r i : Nat} (h : ¬ (r < 9 ∨ r = 50)) : M00 r i = 0 := if_neg h
theorem cc_st {cid : Nat → ClassId} {s0 q : Nat} (hq : q < 9) {x : Nat} {E : va_E} (h : stP cid (adS s0 q) (adS s0 q + 1) 3 12 x E) : ccP cid s0 (s0 + 1) 7 x E := by
  unfold adS at h
  by_cases h0 : q = 0
  · subst h0
    rw [if_pos rfl] at h
    exact Or.inr (Or.inl h)
  · by_cases h1 : q = 1
    · subst h1
      rw [if_neg (by decide), if_pos rfl] at h
      exact Or.inr (Or.inr (Or.inl h))
    · rw [if_neg h0, if_neg h1] at h
      refine Or.inr (Or.inr (Or.inr (Or.inr (Or.inr (Or.inr ⟨q - 2, by omega, ?_⟩)))))
      rw [show s0 + 1 + 87 + 30 * (q - 2) = s0 + 88 + 30 * (q - 2) by omega]
      exact h
theorem m0_s {q i : Nat} (hq : q < 9) (hi : 6 ≤ i) : M00 q i = 0 := by
  rw [M00_s (Or.inl hq)]
  unfold st0
  rw [if_neg (by omega), if_neg (by omega), if_neg (by omega)]
  rfl
theorem m0_o {r : Nat} (h : 9 ≤ r) (h2 : r ≠ 50) : M00 r = fun _ => 0 := by
  funext i
  exact M00_0 (by omega)
theorem arE_congr {c : ClassId} {n : Nat} {f g : Nat → Option Nat} (h : ∀ i, f i = g i) : arE c n f = arE c n g := by rw [show f = g from funext h]
set_option maxHeartbeats 1000000 in
theorem end_mem (D : va_G) (cid : Nat → ClassId) (L : Nat) (xs : Nat → Int32) (s0 wa b : Nat) (o : Obj) (ho : okO o = true) : endP cid s0 (adO L xs s0 wa b o) (ent (gS D cid L xs s0 wa b) M00 o) := by
  obtain ⟨k, a, b', c⟩ := o
  match k, ho with
  | 0, ho =>
    simp only [okO, decide_eq_true_eq] at ho
    obtain ⟨rfl, rfl, rfl⟩ := ho
    exact Or.inl (Or.inr (Or.inr (Or.inr (Or.inr (Or.inl (Or.inl ⟨rfl, rfl⟩))))))
  | 1, ho =>
    simp only [okO, decide_eq_true_eq] at ho
    obtain ⟨h1, h2, rfl⟩ := ho
    refine Or.inl (cc_st h1 (Or.inr (Or.inr (Or.inr (Or.inr ⟨b', h2, ?_, ?_⟩)))))
    · show adS s0 a + (18 + b') = _; omega
    · simp only [ent]
      rw [m0_s h1 (by omega), m0_s h1 (by omega), m0_s h1 (by omega), m0_s h1 (by omega), m0_s h1 (by omega), m0_s h1 (by omega), m0_s h1 (by omega), m0_s h1 (by omega), m0_s h1 (by omega), m0_s h1 (by omega)]
  | 2, ho =>
    simp only [okO, decide_eq_true_eq] at ho
    obtain ⟨rfl, rfl, rfl⟩ := ho
    refine Or.inl (Or.inr (Or.inr (Or.inr (Or.inr (Or.inr (Or.inl (Or.inl ⟨rfl, ?_⟩)))))))
    simp only [ent]
    rw [m0_o (r := 21) (by decide) (by decide)]
    rfl
  | 3, ho =>
    simp only [okO, decide_eq_true_eq] at ho
    obtain ⟨h1, rfl, rfl⟩ := ho
    refine Or.inl (cc_st h1 (Or.inl ⟨rfl, ?_⟩))
    simp only [ent]
    rw [M00_s (Or.inl h1)]
    rfl
  | 4, ho =>
    simp only [okO, decide_eq_true_eq] at ho
    obtain ⟨h1, h2, rfl⟩ := ho
    refine Or.inl (cc_st h1 (Or.inr (Or.inr (Or.inr (Or.inl ⟨b', h2, Or.inl ⟨?_, ?_⟩⟩)))))
    · show adS s0 a + (3 + 5 * b') = _; omega
    · simp only [ent]
      rw [m0_s h1 (by omega), m0_s h1 (by omega), m0_s h1 (by omega), m0_s h1 (by omega)]
      have e : (gS D cid L xs s0 wa b).2.1 (13, a, b', 0) = adS s0 a + 1 + 2 + 5 * b' + 1 := by show adS s0 a + (4 + 5 * b') = _; omega
      rw [e]
  | 5, ho =>
    simp only [okO, decide_eq_true_eq] at ho
    obtain ⟨h1, h2, h3⟩ := ho
    refine Or.inl (cc_st h1 (Or.inr (Or.inr (Or.inr (Or.inl ⟨b', h2, Or.inr (Or.inr ⟨c, h3, ?_, ?_⟩)⟩)))))
    · show adS s0 a + (5 + 5 * b' + c) = _; omega
    · simp only [ent]
      rw [m0_s h1 (by omega), m0_s h1 (by omega), m0_s h1 (by omega), m0_s h1 (by omega), m0_s h1 (by omega)]
  | 6, ho =>
    simp only [okO, decide_eq_true_eq] at ho
    obtain ⟨rfl, rfl, rfl⟩ := ho
    refine Or.inl (Or.inl ⟨rfl, ?_⟩)
    simp only [ent]
    rw [m0_o (r := 20) (by decide) (by decide)]
    rfl
  | 7, ho => simp [okO] at ho
  | 8, ho =>
    simp only [okO, decide_eq_true_eq] at ho
    obtain ⟨rfl, rfl, rfl⟩ := ho
    refine Or.inl (Or.inr (Or.inr (Or.inr (Or.inr (Or.inr (Or.inl (Or.inr (Or.inl ⟨rfl, ?_⟩))))))))
    simp only [ent]
    rw [m0_o (r := 22) (by decide) (by decide)]
    rfl
  | 9, ho =>
    have ho1 := ho
    simp only [okO, decide_eq_true_eq] at ho1
    obtain ⟨h1, rfl, rfl⟩ := ho1
    have en : ent (gS D cid L xs s0 wa b) M00 (9, a, lenR a, 0) = .inl (cid 9, lenR a, .inl (M00 a)) := rfl
    rw [en]
    by_cases ha : a < 26
    · have ea : adO L xs s0 wa b (9, a, lenR a, 0) = s0 + 85 + (a - 23) := if_pos ha
      have el : lenR a = 80 := if_pos ha
      rw [ea, el, m0_o (by omega) (by omega)]
      exact Or.inl (Or.inr (Or.inr (Or.inr (Or.inr (Or.inr (Or.inl (Or.inr (Or.inr ⟨a - 23, by omega, by omega, rfl⟩))))))))
    · by_cases hb : a < 48
      · have ea : adO L xs s0 wa b (9, a, lenR a, 0) = s0 + 63 + 10 * ((a - 30) / 9) + 1 + (a - 30) % 9 := (if_neg ha).trans (if_pos hb)
        have el : lenR a = 601 := (if_neg ha).trans (if_pos hb)
        rw [ea, el, m0_o (by omega) (by omega)]
        exact Or.inl (Or.inr (Or.inr (Or.inr (Or.inr (Or.inl (Or.inr (Or.inr ⟨(a - 30) / 9, (a - 30) % 9, by omega, by omega, rfl, rfl⟩)))))))
      · have ea : adO L xs s0 wa b (9, a, lenR a, 0) = s0 + 298 + (a - 50) := (if_neg ha).trans (if_neg hb)
        rw [ea]
        rcases (by omega : a = 50 ∨ a = 51 ∨ a = 52) with rfl | rfl | rfl
        · rw [M00_s (Or.inr rfl)]
          exact Or.inr (Or.inl ⟨rfl, rfl⟩)
        · rw [m0_o (by decide) (by decide)]
          exact Or.inr (Or.inr (Or.inl ⟨rfl, rfl⟩))
        · rw [m0_o (by decide) (by decide)]
          exact Or.inr (Or.inr (Or.inr ⟨rfl, rfl⟩))
  | 10, ho =>
    simp only [okO, decide_eq_true_eq] at ho
    obtain ⟨h1, rfl, rfl⟩ := ho
    refine Or.inl (cc_st h1 (Or.inr (Or.inr (Or.inl ⟨rfl, arE_congr (fun i => ?_)⟩))))
    show (if i < 12 then some (adS s0 a + (18 + i)) else none) = if i < 12 then some (adS s0 a + 1 + 17 + 1 * i) else none
    rw [show adS s0 a + (18 + i) = adS s0 a + 1 + 17 + 1 * i by omega]
  | 11, ho =>
    simp only [okO, decide_eq_true_eq] at ho
    obtain ⟨rfl, rfl, rfl⟩ := ho
    refine Or.inl (Or.inr (Or.inr (Or.inr (Or.inl ⟨rfl, arE_congr (fun i => ?_)⟩))))
    have e : adS s0 (2 + i) = s0 + 1 + 87 + 30 * i := by unfold adS; rw [if_neg (by omega), if_neg (by omega)]; omega
    show (if i < 7 then some (adS s0 (2 + i)) else none) = if i < 7 then some (s0 + 1 + 87 + 30 * i) else none
    rw [e]
  | 12, ho =>
    simp only [okO, decide_eq_true_eq] at ho
    obtain ⟨h1, rfl, rfl⟩ := ho
    refine Or.inl (cc_st h1 (Or.inr (Or.inl ⟨rfl, arE_congr (fun i => ?_)⟩)))
    show (if i < 3 then some (adS s0 a + (3 + 5 * i)) else none) = if i < 3 then some (adS s0 a + 1 + 2 + 5 * i) else none
    rw [show adS s0 a + (3 + 5 * i) = adS s0 a + 1 + 2 + 5 * i by omega]
  | 13, ho =>
    simp only [okO, decide_eq_true_eq] at ho
    obtain ⟨h1, h2, rfl⟩ := ho
    refine Or.inl (cc_st h1 (Or.inr (Or.inr (Or.inr (Or.inl ⟨b', h2, Or.inr (Or.inl ⟨?_, arE_congr (fun i => ?_)⟩)⟩)))))
    · show adS s0 a + (4 + 5 * b') = _; omega
    · show (if i < 3 then some (adS s0 a + (5 + 5 * b' + i)) else none) = if i < 3 then some (adS s0 a + 1 + 2 + 5 * b' + 1 + 1 + 1 * i) else none
      rw [show adS s0 a + (5 + 5 * b' + i) = adS s0 a + 1 + 2 + 5 * b' + 1 + 1 + 1 * i by omega]
  | 14, ho =>
    simp only [okO, decide_eq_true_eq] at ho
    obtain ⟨h1, rfl, rfl⟩ := ho
    refine Or.inl (Or.inr (Or.inr (Or.inr (Or.inr (Or.inl (Or.inr (Or.inl ⟨a, h1, rfl, arE_congr (fun i => ?_)⟩)))))))
    show (if i < 9 then some (adO L xs s0 wa b (9, 30 + 9 * a + i, 601, 0)) else none) = if i < 9 then some (s0 + 1 + 62 + 10 * a + 1 + i) else none
    by_cases hi : i < 9
    · rw [if_pos hi, if_pos hi]
      have e : adO L xs s0 wa b (9, 30 + 9 * a + i, 601, 0) = s0 + 63 + 10 * ((30 + 9 * a + i - 30) / 9) + 1 + (30 + 9 * a + i - 30) % 9 := (if_neg (by omega)).trans (if_pos (by omega))
      rw [e]
      congr 1
      omega
    · rw [if_neg hi, if_neg hi]
  | k + 15, ho => simp [okO] at ho
