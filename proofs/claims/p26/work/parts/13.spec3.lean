/-! SPEC of the state's edits. -/
def hvS (F : Nat → Int32) (x : Int32) : Bool := !decide (x < 0) && !decide (F 0 ≤ x)
def hzS (F : Nat → Int32) (x z : Int32) : Bool := hvS F x && inn z (nI 0) (nI 2)
def hpS (F : Nat → Int32) (x : Int32) : Bool := !decide (x < 0) && !decide (F 1 ≤ x)
theorem nn_nI {x : Int32} {n : Nat} (h0 : ¬ x < 0) (h1 : ¬ nI n ≤ x) (hn : n < 2 ^ 31) : ∃ k, k < n ∧ x = nI k := by
  obtain ⟨j, hj, rfl⟩ := nI_of h0
  refine ⟨j, ?_, rfl⟩
  rcases Nat.lt_or_ge j n with q | q
  · exact q
  · exact absurd (nI_le q hj) h1
theorem hvS_nI {F : Nat → Int32} {x : Int32} {n : Nat} (h : hvS F x = true) (h0 : F 0 = nI n) (hn : n < 2 ^ 31) : ∃ k, k < n ∧ x = nI k := by
  simp only [hvS, Bool.and_eq_true, Bool.not_eq_true', decide_eq_false_iff_not] at h
  exact nn_nI h.1 (by rw [← h0]; exact h.2) hn
theorem hpS_nI {F : Nat → Int32} {x : Int32} {n : Nat} (h : hpS F x = true) (h0 : F 1 = nI n) (hn : n < 2 ^ 31) : ∃ k, k < n ∧ x = nI k := by
  simp only [hpS, Bool.and_eq_true, Bool.not_eq_true', decide_eq_false_iff_not] at h
  exact nn_nI h.1 (by rw [← h0]; exact h.2) hn
theorem inn_nI {x : Int32} {a b : Nat} (h : inn x (nI a) (nI b) = true) (hb : b < 2 ^ 31) (ha : a < 2 ^ 31 := by decide) : ∃ k, a ≤ k ∧ k ≤ b ∧ x = nI k := by
  simp only [inn, Bool.and_eq_true, Bool.not_eq_true', decide_eq_false_iff_not] at h
  obtain ⟨h1, h2⟩ := h
  have h0 : ¬ x < 0 := fun q => h1 (by
    rw [Int32.lt_iff_toInt_lt] at q ⊢
    rw [nI_toInt ha]
    have : (0 : Int32).toInt = 0 := rfl
    omega)
  obtain ⟨j, hj, rfl⟩ := nI_of h0
  refine ⟨j, ?_, ?_, rfl⟩
  · rcases Nat.lt_or_ge j a with q | q
    · exact absurd (nI_lt q ha) h1
    · exact q
  · rcases Nat.lt_or_ge b j with q | q
    · exact absurd (nI_lt q hj) h2
    · exact q
theorem hzS_nI {F : Nat → Int32} {x z : Int32} {n : Nat} (h : hzS F x z = true) (h0 : F 0 = nI n) (hn : n < 2 ^ 31) : ∃ k j, k < n ∧ j < 3 ∧ x = nI k ∧ z = nI j := by
  simp only [hzS, Bool.and_eq_true] at h
  obtain ⟨k, hk, e⟩ := hvS_nI h.1 h0 hn
  obtain ⟨j, -, hj, e2⟩ := inn_nI (a := 0) (b := 2) h.2 (by decide)
  exact ⟨k, j, hk, by omega, e, e2⟩
def BoolOK (F : Nat → Int32) : Prop := (∀ v, v < 3 → F (6 + 19 * v + 2) = 0 ∨ F (6 + 19 * v + 2) = 1) ∧ ∀ v z, v < 3 → z < 3 → F (10 + 19 * v + 5 * z + 3) = 0 ∨ F (10 + 19 * v + 5 * z + 3) = 1
theorem cpR_app' (F F' : Nat → Int32) (a b n m : Nat) (h : b = a + n) : cpR (cpR F F' a n) F' b m = cpR F F' a (n + m) := by subst h; exact cpR_app F F' a n m
theorem ow_lt {q i : Nat} (hq : q < 9) (h : okO (ow q i) = true) : i < 183 := by
  rcases Nat.lt_or_ge i 183 with w | w
  · exact w
  · rw [ow, if_pos hq, if_neg (by omega), if_neg (by omega)] at h
    simp only [okO, decide_eq_true_eq] at h
    omega
/-! loops over pallets, vans -/
def pinL (F : Nat → Int32) (x : Int32) : Nat → Nat → Int32 → Int32
  | 0, _, acc => acc
  | n + 1, p, acc => pinL F x n (p + 1) (if inP F p x then acc ||| (nI 1 <<< (nI p &&& 31)) else acc)
def pzL (F : Nat → Int32) (x z : Int32) : Nat → Nat → Int32 → Int32
  | 0, _, acc => acc
  | n + 1, p, acc => pzL F x z n (p + 1) (if inP F p x then (if F (63 + 10 * p + 1) = z then acc + nI 1 else acc) else acc)
def ovL (F : Nat → Int32) (x : Int32) : Nat → Nat → Bool
  | 0, _ => false
  | n + 1, p => if inP F p x then (if ovP F p then true else ovL F x n (p + 1)) else ovL F x n (p + 1)
def fnd1 (F : Nat → Int32) (v z : Nat) (acc : Int32) : Int32 := if F (10 + 19 * v + 5 * z + 3) = 0 then acc else acc + nI 1
def fndL (F : Nat → Int32) : Nat → Nat → Int32 → Int32
  | 0, _, acc => acc
  | n + 1, v, acc => fndL F n (v + 1) (fnd1 F v 2 (fnd1 F v 1 (fnd1 F v 0 acc)))
def zP (F : Nat → Int32) (p : Nat) : Nat := (F (63 + 10 * p + 1)).toNatClampNeg
def addL (F : Nat → Int32) (v : Nat) : Nat → Nat → (Nat → Int32)
  | 0, _ => F
  | n + 1, p => addL (if inP F p (nI v) then addP F v p (zP F p) else F) v n (p + 1)
def nvF (F : Nat → Int32) : Nat := (F 0).toNatClampNeg
def npF (F : Nat → Int32) : Nat := (F 1).toNatClampNeg
def midF (F : Nat → Int32) (v : Nat) : Nat → Int32 := mixA (heatA F v (F 3)) v
def minF (F : Nat → Int32) (v : Nat) : Nat → Int32 := addL (findA (midF F v) v (F 4) (F 5)) v (npF F) 0
def minN (F : Nat → Int32) (v : Nat) : Int32 := fndA (midF F v) v (F 4) (F 5)
theorem heatZ_ne (F : Nat → Int32) {v z i : Nat} (out : Int32) (h : i ≠ 10 + 19 * v + 5 * z) : heatZ F v z out i = F i := if_neg h
theorem heatA_lo (F : Nat → Int32) {v i : Nat} (out : Int32) (h : i < 10) : heatA F v out i = F i := by
  unfold heatA
  rw [heatZ_ne _ _ (by omega), heatZ_ne _ _ (by omega), heatZ_ne _ _ (by omega)]
theorem mix1_ne (F : Nat → Int32) {v z i : Nat} (h : i ≠ 10 + 19 * v + 5 * z) (h2 : i ≠ 10 + 19 * v + 5 * (z + 1)) : mix1 F v z i = F i := by
  unfold mix1
  rw [upd_at, if_neg h2, upd_at, if_neg h]
theorem mixA_lo (F : Nat → Int32) {v i : Nat} (h : i < 10) : mixA F v i = F i := by
  unfold mixA
  rw [mix1_ne _ (by omega) (by omega), mix1_ne _ (by omega) (by omega)]
theorem midF_lo (F : Nat → Int32) {v i : Nat} (h : i < 10) : midF F v i = F i := by unfold midF; rw [mixA_lo _ h, heatA_lo _ _ h]
theorem midF_hi (F : Nat → Int32) {v i : Nat} (hv : v < 3) (h : 63 ≤ i) : midF F v i = F i := by
  unfold midF mixA heatA
  rw [mix1_ne _ (by omega) (by omega), mix1_ne _ (by omega) (by omega), heatZ_ne _ _ (by omega), heatZ_ne _ _ (by omega), heatZ_ne _ _ (by omega)]
theorem find1_ne (F : Nat → Int32) {v z i : Nat} (D P : Int32) (h : i ≠ 10 + 19 * v + 5 * z + 4) (h2 : i ≠ 10 + 19 * v + 5 * z + 3) : find1 F v z D P i = F i := by
  unfold find1
  split
  · rw [upd_at, if_neg h2, upd_at, if_neg h]
  · rw [upd_at, if_neg h]
theorem findA_lo (F : Nat → Int32) {v i : Nat} (D P : Int32) (h : i < 10) : findA F v D P i = F i := by
  unfold findA
  rw [find1_ne _ _ _ (by omega) (by omega), find1_ne _ _ _ (by omega) (by omega), find1_ne _ _ _ (by omega) (by omega)]
theorem findA_hi (F : Nat → Int32) {v i : Nat} (D P : Int32) (hv : v < 3) (h : 63 ≤ i) : findA F v D P i = F i := by
  unfold findA
  rw [find1_ne _ _ _ (by omega) (by omega), find1_ne _ _ _ (by omega) (by omega), find1_ne _ _ _ (by omega) (by omega)]
theorem warmP_ne (F : Nat → Int32) {v p z i : Nat} (h : i ≠ 63 + 10 * p + 6) (h2 : i ≠ 63 + 10 * p + 7) : warmP F v p z i = F i := by
  unfold warmP
  split
  · rfl
  · split
    · rw [upd_at, if_neg h2]
    · rw [upd_at, if_neg h]
theorem tellP_ne (F : Nat → Int32) {v p z i : Nat} (h : i ≠ 63 + 10 * p + 8) : tellP F v p z i = F i := by
  unfold tellP
  split
  · rfl
  · rw [upd_at, if_neg h]
theorem addP_ne (F : Nat → Int32) {v p z i : Nat} (h : i ≠ 63 + 10 * p + 6) (h2 : i ≠ 63 + 10 * p + 7) (h3 : i ≠ 63 + 10 * p + 8) : addP F v p z i = F i := by
  unfold addP
  rw [tellP_ne _ h3, warmP_ne _ h h2]
/-- every pallet stands in one of three zones -/
def zOK (F : Nat → Int32) : Prop := ∀ p, p < 12 → ∃ z, z < 3 ∧ F (63 + 10 * p + 1) = nI z
theorem zOK.at {F : Nat → Int32} (h : zOK F) {p : Nat} (hp : p < 12) : zP F p < 3 ∧ F (63 + 10 * p + 1) = nI (zP F p) := by
  obtain ⟨z, hz, e⟩ := h p hp
  have : zP F p = z := by unfold zP; rw [e]; exact nI_clamp (by omega)
  rw [this]
  exact ⟨hz, e⟩
theorem zOK.of {F F' : Nat → Int32} (h : zOK F) (he : ∀ p, p < 12 → F' (63 + 10 * p + 1) = F (63 + 10 * p + 1)) : zOK F' := fun p hp => by rw [he p hp]; exact h p hp
theorem zOK.addP {F : Nat → Int32} (h : zOK F) (v p z : Nat) : zOK (addP F v p z) := h.of fun p' _ => addP_ne F (by omega) (by omega) (by omega)
theorem zOK.mid {F : Nat → Int32} (h : zOK F) {v : Nat} (hv : v < 3) : zOK (midF F v) := h.of fun p' _ => midF_hi F hv (by omega)
theorem zOK.find {F : Nat → Int32} (h : zOK F) {v : Nat} (hv : v < 3) (D P : Int32) : zOK (findA F v D P) := h.of fun p' _ => findA_hi F D P hv (by omega)
