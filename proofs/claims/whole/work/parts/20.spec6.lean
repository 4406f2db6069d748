/-! SPEC of the script: T the text, n its length. -/
def skipL (T : Nat → Int32) : Nat → Nat → Nat
  | 0, a => a
  | n + 1, a => if T a = nI 32 then skipL T n (a + 1) else a
def skp (T : Nat → Int32) (n a : Nat) : Nat := skipL T (n - a) a
def digL (T : Nat → Int32) : Nat → Nat → Nat
  | 0, a => a
  | n + 1, a => if inn (T a) (nI 48) (nI 57) then digL T n (a + 1) else a
/-- the end of the figures from a on -/
def rnE (T : Nat → Int32) (n a : Nat) : Nat := digL T (n - a) a
def rnOK (T : Nat → Int32) (n a : Nat) : Bool := !decide (rnE T n a - a = 0) && !decide (3 < rnE T n a - a) && !(decide (1 < rnE T n a - a) && decide (T a = nI 48))
def numL (T : Nat → Int32) : Nat → Nat → Nat → Nat
  | 0, _, v => v
  | n + 1, a, v => numL T n (a + 1) (10 * v + ((T a).toNatClampNeg - 48))
def rnV (T : Nat → Int32) (n a : Nat) : Nat := numL T (rnE T n a - a) a 0
def letB (c : Int32) : Bool := decide (c = nI 111) || decide (c = nI 99) || decide (c = nI 119) || decide (c = nI 100) || decide (c = nI 114)
/-- whether sign c stands at a, behind spaces -/
def sgnB (T : Nat → Int32) (n a : Nat) (c : Int32) : Bool := decide (skp T n a < n) && decide (T (skp T n a) = c)
def sgnE (T : Nat → Int32) (n a : Nat) (c : Int32) : Nat := if sgnB T n a c then skp T n a + 1 else skp T n a
theorem skipL_b (T : Nat → Int32) : ∀ (n a : Nat), a ≤ skipL T n a ∧ skipL T n a ≤ a + n := by
  intro n
  induction n with
  | zero => intro a; exact ⟨Nat.le_refl _, Nat.le_refl _⟩
  | succ n ih =>
    intro a
    unfold skipL
    split
    · have := ih (a + 1); omega
    · omega
theorem skp_b (T : Nat → Int32) {n a : Nat} (h : a ≤ n) : a ≤ skp T n a ∧ skp T n a ≤ n := by
  have := skipL_b T (n - a) a
  unfold skp; omega
theorem digL_b (T : Nat → Int32) : ∀ (n a : Nat), a ≤ digL T n a ∧ digL T n a ≤ a + n := by
  intro n
  induction n with
  | zero => intro a; exact ⟨Nat.le_refl _, Nat.le_refl _⟩
  | succ n ih =>
    intro a
    unfold digL
    split
    · have := ih (a + 1); omega
    · omega
theorem rnE_b (T : Nat → Int32) {n a : Nat} (h : a ≤ n) : a ≤ rnE T n a ∧ rnE T n a ≤ n := by
  have := digL_b T (n - a) a
  unfold rnE; omega
theorem digL_at (T : Nat → Int32) : ∀ (n a j : Nat), a ≤ j → j < digL T n a → inn (T j) (nI 48) (nI 57) = true := by
  intro n
  induction n with
  | zero => intro a j h1 h2; unfold digL at h2; omega
  | succ n ih =>
    intro a j h1 h2
    unfold digL at h2
    split at h2
    · rename_i hc
      by_cases h : j = a
      · subst h; exact hc
      · exact ih (a + 1) j (by omega) h2
    · omega
theorem rnE_at (T : Nat → Int32) {n a j : Nat} (h1 : a ≤ j) (h2 : j < rnE T n a) : ∃ d, d ≤ 9 ∧ T j = nI (48 + d) := by
  obtain ⟨k, hk, hk2, e⟩ := inn_nI (a := 48) (b := 57) (digL_at T _ _ j h1 h2) (by decide)
  exact ⟨k - 48, by omega, by rw [e]; congr 1; omega⟩
theorem sgnE_b (T : Nat → Int32) {n a : Nat} (c : Int32) (h : a ≤ n) : a ≤ sgnE T n a c ∧ sgnE T n a c ≤ n := by
  have := skp_b T h
  unfold sgnE
  split
  · rename_i hc
    simp only [sgnB, Bool.and_eq_true, decide_eq_true_eq] at hc
    omega
  · omega
theorem numL_le (T : Nat → Int32) : ∀ (n a v : Nat), (∀ j, a ≤ j → j < a + n → ∃ d, d ≤ 9 ∧ T j = nI (48 + d)) → numL T n a v + 1 ≤ (v + 1) * 10 ^ n := by
  intro n
  induction n with
  | zero => intro a v _; simp [numL]
  | succ n ih =>
    intro a v h
    unfold numL
    obtain ⟨d, hd, e⟩ := h a (Nat.le_refl _) (by omega)
    have h2 := ih (a + 1) (10 * v + ((T a).toNatClampNeg - 48)) (fun j h1 h2 => h j (by omega) (by omega))
    rw [e, nI_clamp (by omega)] at h2 ⊢
    refine Nat.le_trans h2 ?_
    rw [Nat.pow_succ, Nat.mul_comm (10 ^ n) 10, ← Nat.mul_assoc]
    exact Nat.mul_le_mul_right _ (by omega)
theorem rnV_le (T : Nat → Int32) {n a : Nat} (h : rnOK T n a = true) : rnV T n a ≤ 999 := by
  simp only [rnOK, Bool.and_eq_true, Bool.not_eq_true', decide_eq_false_iff_not] at h
  have h3 : rnE T n a - a ≤ 3 := by omega
  have := numL_le T (rnE T n a - a) a 0 (fun j h1 h2 => rnE_at T (n := n) h1 (by omega))
  have h4 : 10 ^ (rnE T n a - a) ≤ 10 ^ 3 := Nat.pow_le_pow_right (by decide) h3
  unfold rnV
  omega
/-! a command at p -/
def cmA (T : Nat → Int32) (n p : Nat) : Nat := skp T n (p + 1)
def cmB (T : Nat → Int32) (n p : Nat) : Nat := rnE T n (cmA T n p)
/-- behind the '.' of 'r' -/
def cmC (T : Nat → Int32) (n p : Nat) : Nat := skp T n (sgnE T n (cmB T n p) (nI 46))
def cmD (T : Nat → Int32) (n p : Nat) : Nat := if T p = nI 114 then rnE T n (cmC T n p) else cmB T n p
def cmOK (T : Nat → Int32) (n p : Nat) : Bool := letB (T p) && rnOK T n (cmA T n p) && (if T p = nI 114 then sgnB T n (cmB T n p) (nI 46) && rnOK T n (cmC T n p) else true) && sgnB T n (cmD T n p) (nI 59)
/-- where the reading stands behind it -/
def cmE (T : Nat → Int32) (n p : Nat) : Nat :=
  if letB (T p) then (if rnOK T n (cmA T n p) then (if T p = nI 114 then (if sgnB T n (cmB T n p) (nI 46) then (if rnOK T n (cmC T n p) then sgnE T n (cmD T n p) (nI 59) else cmC T n p) else skp T n (cmB T n p)) else sgnE T n (cmD T n p) (nI 59)) else cmA T n p) else p
def cm1 (T : Nat → Int32) (n p : Nat) : Nat := rnV T n (cmA T n p)
def cm2 (T : Nat → Int32) (n p : Nat) : Nat := rnV T n (cmC T n p)
def nxP (T : Nat → Int32) (n p : Nat) : Nat := skp T n (cmE T n p)
/-- reads on from p: is it a script, where does it stand, how many commands -/
def scn (T : Nat → Int32) (n : Nat) : Nat → Nat → Nat → Bool × Nat × Nat
  | 0, p, c => (true, p, c)
  | f + 1, p, c => if n ≤ p then (true, p, c) else if cmOK T n p then scn T n f (nxP T n p) (c + 1) else (false, cmE T n p, c)
theorem cm_b (T : Nat → Int32) {n p : Nat} (h : p < n) : p + 1 ≤ cmA T n p ∧ cmA T n p ≤ cmB T n p ∧ cmB T n p ≤ cmC T n p ∧ cmC T n p ≤ n ∧ cmB T n p ≤ cmD T n p ∧ cmD T n p ≤ n := by
  have h1 := skp_b T (show p + 1 ≤ n by omega)
  have h2 := rnE_b T h1.2
  have h3 := sgnE_b T (nI 46) h2.2
  have h4 := skp_b T h3.2
  have h5 := rnE_b T h4.2
  unfold cmA cmB cmC cmD at *
  unfold cmC at *
  refine ⟨h1.1, h2.1, by unfold cmB cmA; omega, by unfold cmB cmA; omega, ?_, ?_⟩
  · split
    · unfold cmB cmA; omega
    · exact Nat.le_refl _
  · split
    · unfold cmB cmA; omega
    · exact h2.2
theorem cmE_b (T : Nat → Int32) {n p : Nat} (h : p < n) : p ≤ cmE T n p ∧ cmE T n p ≤ n := by
  have hb := cm_b T h
  have h6 := sgnE_b T (nI 59) hb.2.2.2.2.2
  have h7 := skp_b T (show cmB T n p ≤ n by omega)
  unfold cmE
  split
  · split
    · split
      · split
        · split <;> omega
        · omega
      · omega
    · omega
  · omega
theorem cmE_ok (T : Nat → Int32) {n p : Nat} (h : p < n) (hk : cmOK T n p = true) : p < cmE T n p ∧ cmE T n p = sgnE T n (cmD T n p) (nI 59) := by
  have hb := cm_b T h
  have h6 := sgnE_b T (nI 59) hb.2.2.2.2.2
  simp only [cmOK, Bool.and_eq_true] at hk
  obtain ⟨⟨⟨k1, k2⟩, k3⟩, k4⟩ := hk
  have : cmE T n p = sgnE T n (cmD T n p) (nI 59) := by
    unfold cmE
    rw [if_pos k1, if_pos k2]
    split
    · rename_i hr
      rw [if_pos hr, Bool.and_eq_true] at k3
      rw [if_pos k3.1, if_pos k3.2]
    · rfl
  exact ⟨by omega, this⟩
theorem nxP_b (T : Nat → Int32) {n p : Nat} (h : p < n) (hk : cmOK T n p = true) : p < nxP T n p ∧ nxP T n p ≤ n := by
  have h1 := cmE_ok T h hk
  have h2 := cmE_b T h
  have h3 := skp_b T h2.2
  unfold nxP
  omega
