/-! SHAPE: where every object lies once both constructors are through; s0: the heap's size at the law's entry, wa: the class's table, b: the script. -/
def adS (s0 q : Nat) : Nat := if q = 0 then s0 + 1 else if q = 1 then s0 + 31 else s0 + 88 + 30 * (q - 2)
def adO (L : Nat) (xs : Nat → Int32) (s0 wa b : Nat) : Obj → Nat
  | (0, _, _, _) => s0 + 62
  | (1, q, p, _) => adS s0 q + (18 + p)
  | (2, _, _, _) => s0 + 83
  | (3, q, _, _) => adS s0 q
  | (4, q, v, _) => adS s0 q + (3 + 5 * v)
  | (5, q, v, z) => adS s0 q + (5 + 5 * v + z)
  | (6, _, _, _) => s0
  | (8, _, _, _) => s0 + 84
  | (9, r, _, _) => if r < 26 then s0 + 85 + (r - 23) else if r < 48 then s0 + 63 + 10 * ((r - 30) / 9) + 1 + (r - 30) % 9 else s0 + 298 + (r - 50)
  | (10, q, _, _) => adS s0 q + 2
  | (11, _, _, _) => s0 + 61
  | (12, q, _, _) => adS s0 q + 1
  | (13, q, v, _) => adS s0 q + (4 + 5 * v)
  | (14, t, _, _) => s0 + 63 + 10 * t
  | (15, 0, _, _) => wa
  | (98, 0, _, _) => L
  | (98, _, j, _) => (xs j).toBitVec.toNat
  | (99, _, _, _) => 0
  | _ => b
def inS (q r : Nat) : Obj := if r = 0 then (3, q, 0, 0) else if r = 1 then (12, q, 0, 0) else if r = 2 then (10, q, 0, 0) else if r < 18 then (if (r - 3) % 5 = 0 then (4, q, (r - 3) / 5, 0) else if (r - 3) % 5 = 1 then (13, q, (r - 3) / 5, 0) else (5, q, (r - 3) / 5, (r - 3) % 5 - 2)) else (1, q, r - 18, 0)
/-- the object that lies n cells behind s0 -/
def inO (n : Nat) : Obj :=
  if n = 0 then (6, 0, 0, 0) else if n < 61 then inS ((n - 1) / 30) ((n - 1) % 30) else if n = 61 then (11, 0, 0, 0) else if n = 62 then (0, 0, 0, 0)
  else if n < 83 then (if (n - 63) % 10 = 0 then (14, (n - 63) / 10, 0, 0) else (9, 30 + 9 * ((n - 63) / 10) + ((n - 63) % 10 - 1), 601, 0))
  else if n = 83 then (2, 0, 0, 0) else if n = 84 then (8, 22, 80, 0) else if n < 88 then (9, 23 + (n - 85), 80, 0) else if n < 298 then inS (2 + (n - 88) / 30) ((n - 88) % 30)
  else (9, 50 + (n - 298), lenR (50 + (n - 298)), 0)
theorem inO_S (s0 : Nat) {q r : Nat} (hq : q < 9) (hr : r < 30) : s0 ≤ adS s0 q + r ∧ inO (adS s0 q + r - s0) = inS q r := by
  unfold adS
  by_cases h0 : q = 0
  · subst h0
    rw [if_pos rfl]
    refine ⟨by omega, ?_⟩
    have e : s0 + 1 + r - s0 = r + 1 := by omega
    rw [e]
    unfold inO
    rw [if_neg (by omega), if_pos (by omega), show (r + 1 - 1) / 30 = 0 by omega, show (r + 1 - 1) % 30 = r by omega]
  · by_cases h1 : q = 1
    · subst h1
      rw [if_neg (by decide), if_pos rfl]
      refine ⟨by omega, ?_⟩
      have e : s0 + 31 + r - s0 = r + 31 := by omega
      rw [e]
      unfold inO
      rw [if_neg (by omega), if_pos (by omega), show (r + 31 - 1) / 30 = 1 by omega, show (r + 31 - 1) % 30 = r by omega]
    · rw [if_neg h0, if_neg h1]
      refine ⟨by omega, ?_⟩
      have e : s0 + 88 + 30 * (q - 2) + r - s0 = 88 + 30 * (q - 2) + r := by omega
      rw [e]
      unfold inO
      rw [if_neg (by omega), if_neg (by omega), if_neg (by omega), if_neg (by omega), if_neg (by omega), if_neg (by omega), if_neg (by omega), if_neg (by omega), if_pos (by omega), show 2 + (88 + 30 * (q - 2) + r - 88) / 30 = q by omega, show (88 + 30 * (q - 2) + r - 88) % 30 = r by omega]
theorem inO_ad (L : Nat) (xs : Nat → Int32) (s0 wa b : Nat) (o : Obj) (ho : okO o = true) : s0 ≤ adO L xs s0 wa b o ∧ inO (adO L xs s0 wa b o - s0) = o := by
  obtain ⟨k, a, b', c⟩ := o
  match k, ho with
  | 0, ho =>
    simp only [okO, decide_eq_true_eq] at ho
    obtain ⟨rfl, rfl, rfl⟩ := ho
    refine ⟨by show s0 ≤ s0 + 62; omega, ?_⟩
    show inO (s0 + 62 - s0) = _
    rw [Nat.add_sub_cancel_left]; rfl
  | 1, ho =>
    simp only [okO, decide_eq_true_eq] at ho
    obtain ⟨h1, h2, rfl⟩ := ho
    have := inO_S s0 h1 (r := 18 + b') (by omega)
    refine ⟨this.1, this.2.trans ?_⟩
    unfold inS
    rw [if_neg (by omega), if_neg (by omega), if_neg (by omega), if_neg (by omega), show 18 + b' - 18 = b' by omega]
  | 2, ho =>
    simp only [okO, decide_eq_true_eq] at ho
    obtain ⟨rfl, rfl, rfl⟩ := ho
    refine ⟨by show s0 ≤ s0 + 83; omega, ?_⟩
    show inO (s0 + 83 - s0) = _
    rw [Nat.add_sub_cancel_left]; rfl
  | 3, ho =>
    simp only [okO, decide_eq_true_eq] at ho
    obtain ⟨h1, rfl, rfl⟩ := ho
    exact inO_S s0 h1 (r := 0) (by omega)
  | 4, ho =>
    simp only [okO, decide_eq_true_eq] at ho
    obtain ⟨h1, h2, rfl⟩ := ho
    have := inO_S s0 h1 (r := 3 + 5 * b') (by omega)
    refine ⟨this.1, this.2.trans ?_⟩
    unfold inS
    rw [if_neg (by omega), if_neg (by omega), if_neg (by omega), if_pos (by omega), if_pos (by omega), show (3 + 5 * b' - 3) / 5 = b' by omega]
  | 5, ho =>
    simp only [okO, decide_eq_true_eq] at ho
    obtain ⟨h1, h2, h3⟩ := ho
    have := inO_S s0 h1 (r := 5 + 5 * b' + c) (by omega)
    refine ⟨this.1, this.2.trans ?_⟩
    unfold inS
    rw [if_neg (by omega), if_neg (by omega), if_neg (by omega), if_pos (by omega), if_neg (by omega), if_neg (by omega), show (5 + 5 * b' + c - 3) / 5 = b' by omega, show (5 + 5 * b' + c - 3) % 5 - 2 = c by omega]
  | 6, ho =>
    simp only [okO, decide_eq_true_eq] at ho
    obtain ⟨rfl, rfl, rfl⟩ := ho
    refine ⟨Nat.le_refl s0, ?_⟩
    show inO (s0 - s0) = _
    rw [Nat.sub_self]; rfl
  | 7, ho => simp [okO] at ho
  | 8, ho =>
    simp only [okO, decide_eq_true_eq] at ho
    obtain ⟨rfl, rfl, rfl⟩ := ho
    refine ⟨by show s0 ≤ s0 + 84; omega, ?_⟩
    show inO (s0 + 84 - s0) = _
    rw [Nat.add_sub_cancel_left]; rfl
  | 9, ho =>
    simp only [okO, decide_eq_true_eq] at ho
    obtain ⟨h1, rfl, rfl⟩ := ho
    show s0 ≤ (if a < 26 then _ else _) ∧ inO ((if a < 26 then _ else _) - s0) = _
    by_cases ha : a < 26
    · rw [if_pos ha]
      refine ⟨by omega, ?_⟩
      rw [show s0 + 85 + (a - 23) - s0 = 62 + a by omega]
      unfold inO
      rw [if_neg (by omega), if_neg (by omega), if_neg (by omega), if_neg (by omega), if_neg (by omega), if_neg (by omega), if_neg (by omega), if_pos (by omega), show 23 + (62 + a - 85) = a by omega]
      unfold lenR
      rw [if_pos ha]
    · rw [if_neg ha]
      by_cases hb : a < 48
      · rw [if_pos hb]
        refine ⟨by omega, ?_⟩
        rw [show s0 + 63 + 10 * ((a - 30) / 9) + 1 + (a - 30) % 9 - s0 = 64 + 10 * ((a - 30) / 9) + (a - 30) % 9 by omega]
        unfold inO
        rw [if_neg (by omega), if_neg (by omega), if_neg (by omega), if_neg (by omega), if_pos (by omega), if_neg (by omega), show 30 + 9 * ((64 + 10 * ((a - 30) / 9) + (a - 30) % 9 - 63) / 10) + ((64 + 10 * ((a - 30) / 9) + (a - 30) % 9 - 63) % 10 - 1) = a by omega]
        unfold lenR
        rw [if_neg ha, if_pos hb]
      · rw [if_neg hb]
        refine ⟨by omega, ?_⟩
        rw [show s0 + 298 + (a - 50) - s0 = 248 + a by omega]
        unfold inO
        rw [if_neg (by omega), if_neg (by omega), if_neg (by omega), if_neg (by omega), if_neg (by omega), if_neg (by omega), if_neg (by omega), if_neg (by omega), if_neg (by omega), show 50 + (248 + a - 298) = a by omega]
  | 10, ho =>
    simp only [okO, decide_eq_true_eq] at ho
    obtain ⟨h1, rfl, rfl⟩ := ho
    exact inO_S s0 h1 (r := 2) (by omega)
  | 11, ho =>
    simp only [okO, decide_eq_true_eq] at ho
    obtain ⟨rfl, rfl, rfl⟩ := ho
    refine ⟨by show s0 ≤ s0 + 61; omega, ?_⟩
    show inO (s0 + 61 - s0) = _
    rw [Nat.add_sub_cancel_left]; rfl
  | 12, ho =>
    simp only [okO, decide_eq_true_eq] at ho
    obtain ⟨h1, rfl, rfl⟩ := ho
    exact inO_S s0 h1 (r := 1) (by omega)
  | 13, ho =>
    simp only [okO, decide_eq_true_eq] at ho
    obtain ⟨h1, h2, rfl⟩ := ho
    have := inO_S s0 h1 (r := 4 + 5 * b') (by omega)
    refine ⟨this.1, this.2.trans ?_⟩
    unfold inS
    rw [if_neg (by omega), if_neg (by omega), if_neg (by omega), if_pos (by omega), if_neg (by omega), if_pos (by omega), show (4 + 5 * b' - 3) / 5 = b' by omega]
  | 14, ho =>
    simp only [okO, decide_eq_true_eq] at ho
    obtain ⟨h1, rfl, rfl⟩ := ho
    refine ⟨by show s0 ≤ s0 + 63 + 10 * a; omega, ?_⟩
    show inO (s0 + 63 + 10 * a - s0) = _
    rw [show s0 + 63 + 10 * a - s0 = 63 + 10 * a by omega]
    unfold inO
    rw [if_neg (by omega), if_neg (by omega), if_neg (by omega), if_neg (by omega), if_pos (by omega), if_pos (by omega), show (63 + 10 * a - 63) / 10 = a by omega]
  | k + 15, ho => simp [okO] at ho
def gS (D : va_G) (cid : Nat → ClassId) (L : Nat) (xs : Nat → Int32) (s0 wa b : Nat) : Gl := (D, adO L xs s0 wa b, cid)
theorem gS_FL (D : va_G) (cid : Nat → ClassId) (L : Nat) (xs : Nat → Int32) (s0 wa b : Nat) : ¬ FL (gS D cid L xs s0 wa b) := by
  show ¬ (0 : Nat) = 1
  decide
theorem gS_GI (D : va_G) (cid : Nat → ClassId) (L : Nat) (xs : Nat → Int32) (s0 wa b : Nat) : GI (gS D cid L xs s0 wa b) := ⟨fun o o' ho ho' h => by
  have e : adO L xs s0 wa b o = adO L xs s0 wa b o' := h
  rw [← (inO_ad L xs s0 wa b o ho).2, ← (inO_ad L xs s0 wa b o' ho').2, e], fun h => absurd h (gS_FL D cid L xs s0 wa b)⟩
theorem gS_AG (D : va_G) (cid : Nat → ClassId) (L : Nat) (xs : Nat → Int32) (s0 wa b q : Nat) (h : AG (gS D cid L xs s0 wa b) q) : s0 ≤ q := by
  rcases h with ⟨o, ho, rfl⟩ | ⟨h, -⟩
  · exact (inO_ad L xs s0 wa b o ho).1
  · exact absurd h (gS_FL D cid L xs s0 wa b)
theorem gS_X (D : va_G) (cid : Nat → ClassId) (L : Nat) (xs : Nat → Int32) (s0 wa b : Nat) : scX (gS D cid L xs s0 wa b) = xs := by
  funext j
  show nI (xs j).toBitVec.toNat = xs j
  apply Int32.toBitVec_inj.mp
  simp [nI]
