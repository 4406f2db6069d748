/-! SPEC of the reference's leaves. -/
def apS (x y : Int32) : Int32 := if y ≤ x then x - y else y - x
theorem ap_ab {x y : Int32} (hx : bt (-1000) 1000 x) (hy : bt (-1000) 1000 y) : abS (x - y) = apS x y := by
  unfold abS apS bt at *
  have h1 : (x - y).toInt = x.toInt - y.toInt := isub (by omega) (by omega)
  have h2 : (y - x).toInt = y.toInt - x.toInt := isub (by omega) (by omega)
  have e0 : (0 : Int32).toInt = 0 := rfl
  by_cases h : y ≤ x
  · have h' := h
    rw [Int32.le_iff_toInt_le] at h'
    rw [if_pos h, if_pos (by rw [Int32.le_iff_toInt_le, h1, e0]; omega)]
  · have h' := h
    rw [Int32.le_iff_toInt_le] at h'
    rw [if_neg h, if_neg (by rw [Int32.le_iff_toInt_le, h1, e0]; omega)]
    apply Int32.toInt_inj.mp
    rw [ineg (by omega) (by omega), h1, h2]; omega
theorem i2 : (nI 2).toInt = 2 := by decide
theorem shr1_toInt (x : Int32) : (x >>> (nI 1 &&& 31)).toInt = x.toInt / 2 := by
  rw [← Int32.toInt_toBitVec, Int32.toBitVec_shiftRight, show (nI 1 &&& 31 : Int32) = 1 from by decide, show ((1 : Int32).toBitVec.smod 32) = 1#32 from by decide]
  show (x.toBitVec.sshiftRight (1#32).toNat).toInt = _
  rw [BitVec.toInt_sshiftRight, Int32.toInt_toBitVec, Int.shiftRight_eq_div_pow]
  rfl
theorem fdS_shr (x : Int32) : fdS x (nI 2) = x >>> (nI 1 &&& 31) := by
  apply Int32.toInt_inj.mp
  rw [shr1_toInt]
  have hd : (x / nI 2).toInt = x.toInt.tdiv 2 := by rw [idiv (by rw [i2]; decide), i2]
  have hlt := Int32.toInt_lt x
  have hle := Int32.le_toInt x
  have hm : (x / nI 2 * nI 2).toInt = x.toInt.tdiv 2 * 2 := by
    have hp := @td_pos x.toInt 2 (by decide)
    have hn := @td_neg x.toInt 2 (by decide)
    rw [imul (by rw [hd, i2]; omega) (by rw [hd, i2]; omega), hd, i2]
  have hs : (0 ≤ x ^^^ nI 2) ↔ 0 ≤ x.toInt := by
    rw [Int32.le_iff_toInt_le, show (0 : Int32).toInt = 0 from rfl]
    have h1 : (x ^^^ nI 2).toBitVec.msb = x.toBitVec.msb := by
      rw [Int32.toBitVec_xor, BitVec.msb_xor, show (nI 2).toBitVec.msb = false from by decide, Bool.xor_false]
    rw [BitVec.msb_eq_toInt, BitVec.msb_eq_toInt, Int32.toInt_toBitVec, Int32.toInt_toBitVec, decide_eq_decide] at h1
    omega
  have hm2 : (x / nI 2 * nI 2 = x) ↔ x.toInt.tdiv 2 * 2 = x.toInt := by
    rw [← Int32.toInt_inj, hm]
  unfold fdS
  by_cases h0 : 0 ≤ x.toInt
  · rw [if_pos (hs.mpr h0), hd, Int.tdiv_eq_ediv_of_nonneg h0]
  · rw [if_neg (fun q => h0 (hs.mp q))]
    have hn := @td_neg x.toInt 2 (by decide) (by omega)
    have hu : x.toInt < 2 * x.toInt.tdiv 2 + 2 ∧ 2 * x.toInt.tdiv 2 ≤ x.toInt + 1 := by
      have h5 : (-(x.toInt)).tdiv 2 = -(x.toInt.tdiv 2) := Int.neg_tdiv ..
      rw [Int.tdiv_eq_ediv_of_nonneg (by omega)] at h5
      omega
    by_cases h2 : x / nI 2 * nI 2 = x
    · rw [if_pos h2, hd]
      have := hm2.mp h2
      omega
    · rw [if_neg h2]
      have h3 : ¬ x.toInt.tdiv 2 * 2 = x.toInt := fun q => h2 (hm2.mpr q)
      rw [isub (by rw [hd, i1]; omega) (by rw [hd, i1]; omega), hd, i1]
      omega
theorem inn_m1 {x y : Int32} {n : Nat} (hy : y = nI n) (hn : n < 2147483648) : inn x (nI 0) (y - nI 1) = (!decide (x < 0) && !decide (y ≤ x)) := by
  subst hy
  unfold inn
  have e : (nI n - nI 1).toInt = (n : Int) - 1 := by
    rw [isub (by rw [nI_toInt (by omega), i1]; omega) (by rw [nI_toInt (by omega), i1]; omega), nI_toInt (by omega), i1]
  have h : (nI n - nI 1 < x) ↔ (nI n ≤ x) := by
    rw [Int32.lt_iff_toInt_lt, Int32.le_iff_toInt_le, e, nI_toInt (by omega)]; omega
  rw [show nI 0 = 0 from rfl]
  simp only [h]
theorem isVan_eq {F : Nat → Int32} (x : Int32) {n : Nat} (h : F 0 = nI n) (hn : n < 2147483648) : inn x (nI 0) (F 0 - nI 1) = hvS F x := inn_m1 h hn
theorem isPal_eq {F : Nat → Int32} (x : Int32) {n : Nat} (h : F 1 = nI n) (hn : n < 2147483648) : inn x (nI 0) (F 1 - nI 1) = hpS F x := inn_m1 h hn
/-- the saved states behind n steps of moving down -/
def shP (P : Nat → Int32) (n : Nat) : Nat → Int32 := fun i => if i < n then P (i + 183) else P i
theorem shP_0 (P : Nat → Int32) : shP P 0 = P := by funext i; unfold shP; rw [if_neg (by omega)]
theorem shP_succ (P : Nat → Int32) (n : Nat) : upd (shP P n) n (shP P n (n + 183)) = shP P (n + 1) := by
  funext i
  rw [upd_at]
  unfold shP
  by_cases h : i = n
  · subst h; rw [if_pos rfl, if_neg (by omega), if_pos (by omega)]
  · rw [if_neg h]
    by_cases h2 : i < n
    · rw [if_pos h2, if_pos (by omega)]
    · rw [if_neg h2, if_neg (by omega)]
/-- behind n steps of saving A as number k -/
def puP (P A : Nat → Int32) (k n : Nat) : Nat → Int32 := fun i => if 183 * k ≤ i ∧ i < 183 * k + n then A (i - 183 * k) else P i
theorem puP_0 (P A : Nat → Int32) (k : Nat) : puP P A k 0 = P := by funext i; unfold puP; rw [if_neg (by omega)]
theorem puP_succ (P A : Nat → Int32) (k : Nat) {n : Nat} (hn : n < 183) : upd (puP P A k n) (183 * k + n) (A n) = puP P A k (n + 1) := by
  funext i
  rw [upd_at]
  unfold puP
  by_cases h : i = 183 * k + n
  · subst h; rw [if_pos rfl, if_pos (by omega)]; congr 1; omega
  · rw [if_neg h]
    by_cases h2 : 183 * k ≤ i ∧ i < 183 * k + n
    · rw [if_pos h2, if_pos (by omega)]
    · rw [if_neg h2, if_neg (by omega)]
def endM (M : Mm) (k : Nat) : Mm := setR (setR M 51 (puP (if k = 6 then shP (M 51) 915 else M 51) (M 52) (if k = 6 then 5 else k) 183)) 60 (upd (M 60) 0 (nI ((if k = 6 then 5 else k) + 1)))
theorem hk6_of {k : Nat} (h : nI k = nI 6) (hk : k ≤ 6) : k = 6 := by
  have := (nI_eqm k 6).mp h
  omega
/-- the state laid aside -/
def hM (M : Mm) : Mm := setR M 52 (cpR (M 52) (M 50) 0 183)
theorem hM_ne (M : Mm) {q : Nat} (h : q ≠ 52) : hM M q = M q := setR_ne _ _ h
theorem endM_ne (M : Mm) (k : Nat) {q : Nat} (h : q ≠ 51) (h2 : q ≠ 60) : endM M k q = M q := by unfold endM; rw [setR_ne _ _ h2, setR_ne _ _ h]
/-- behind an answer: saved, where it is none of an error -/
def doM (M : Mm) (k : Nat) (r : Int32) : Mm := if 0 ≤ r then endM M k else M
/-- an edit that is refused before anything is laid aside -/
def mE (M : Mm) (k : Nat) (ok : Bool) (F : Nat → Int32) : Mm := if ok then endM (setR (hM M) 50 F) k else M
