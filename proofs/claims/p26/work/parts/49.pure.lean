/-! PURE: facts of states, as in whole. -/
theorem nlt1 {t : Int32} (h : ¬ t < nI 1) : ∃ j, 1 ≤ j ∧ j < 2 ^ 31 ∧ t = nI j := by
  have h0 : ¬ t < 0 := fun q => h (by
    rw [Int32.lt_iff_toInt_lt] at q ⊢
    have e0 : (0 : Int32).toInt = 0 := rfl
    have e1 : (nI 1).toInt = 1 := by decide
    omega)
  obtain ⟨j, hj, rfl⟩ := nI_of h0
  refine ⟨j, ?_, hj, rfl⟩
  rcases Nat.lt_or_ge j 1 with q | q
  · exact absurd (nI_lt q (by decide)) h
  · exact q
def apS (x y : Int32) : Int32 := if y ≤ x then x - y else y - x
theorem ap_ab {x y : Int32} (hx : bt (-1000) 1000 x) (hy : bt (-1000) 1000 y) : abS (x - y) = apS x y := by
  unfold abS apS bt at *
  have h1 : (x - y).toInt = x.toInt - y.toInt := isub (by omega) (by omega)
  have h2 : (y - x).toInt = y.toInt - x.toInt := isub (by omega) (by omega)
  have e0 : (0 : Int32).toInt = 0 := rfl
  by_cases h : y ≤ x
  · have h' := h
    rw [Int32.le_iff_toInt_le] at h'
    rw [if_pos h, if_pos (by rw [Int32.le_iff_toInt_le, h1, e0]; omega)]
  · have h' := h
    rw [Int32.le_iff_toInt_le] at h'
    rw [if_neg h, if_neg (by rw [Int32.le_iff_toInt_le, h1, e0]; omega)]
    apply Int32.toInt_inj.mp
    rw [ineg (by omega) (by omega), h1, h2]; omega
theorem i2 : (nI 2).toInt = 2 := by decide
theorem shr1_toInt (x : Int32) : (x >>> (nI 1 &&& 31)).toInt = x.toInt / 2 := by
  rw [← Int32.toInt_toBitVec, Int32.toBitVec_shiftRight, show (nI 1 &&& 31 : Int32) = 1 from by decide, show ((1 : Int32).toBitVec.smod 32) = 1#32 from by decide]
  show (x.toBitVec.sshiftRight (1#32).toNat).toInt = _
  rw [BitVec.toInt_sshiftRight, Int32.toInt_toBitVec, Int.shiftRight_eq_div_pow]
  rfl
theorem fdS_shr (x : Int32) : fdS x (nI 2) = x >>> (nI 1 &&& 31) := by
  apply Int32.toInt_inj.mp
  rw [shr1_toInt]
  have hd : (x / nI 2).toInt = x.toInt.tdiv 2 := by rw [idiv (by rw [i2]; decide), i2]
  have hlt := Int32.toInt_lt x
  have hle := Int32.le_toInt x
  have hm : (x / nI 2 * nI 2).toInt = x.toInt.tdiv 2 * 2 := by
    have hp := @td_pos x.toInt 2 (by decide)
    have hn := @td_neg x.toInt 2 (by decide)
    rw [imul (by rw [hd, i2]; omega) (by rw [hd, i2]; omega), hd, i2]
  have hs : (0 ≤ x ^^^ nI 2) ↔ 0 ≤ x.toInt := by
    rw [Int32.le_iff_toInt_le, show (0 : Int32).toInt = 0 from rfl]
    have h1 : (x ^^^ nI 2).toBitVec.msb = x.toBitVec.msb := by
      rw [Int32.toBitVec_xor, BitVec.msb_xor, show (nI 2).toBitVec.msb = false from by decide, Bool.xor_false]
    rw [BitVec.msb_eq_toInt, BitVec.msb_eq_toInt, Int32.toInt_toBitVec, Int32.toInt_toBitVec, decide_eq_decide] at h1
    omega
  have hm2 : (x / nI 2 * nI 2 = x) ↔ x.toInt.tdiv 2 * 2 = x.toInt := by
    rw [← Int32.toInt_inj, hm]
  unfold fdS
  by_cases h0 : 0 ≤ x.toInt
  · rw [if_pos (hs.mpr h0), hd, Int.tdiv_eq_ediv_of_nonneg h0]
  · rw [if_neg (fun q => h0 (hs.mp q))]
    have hn := @td_neg x.toInt 2 (by decide) (by omega)
    have hu : x.toInt < 2 * x.toInt.tdiv 2 + 2 ∧ 2 * x.toInt.tdiv 2 ≤ x.toInt + 1 := by
      have h5 : (-(x.toInt)).tdiv 2 = -(x.toInt.tdiv 2) := Int.neg_tdiv ..
      rw [Int.tdiv_eq_ediv_of_nonneg (by omega)] at h5
      omega
    by_cases h2 : x / nI 2 * nI 2 = x
    · rw [if_pos h2, hd]
      have := hm2.mp h2
      omega
    · rw [if_neg h2]
      have h3 : ¬ x.toInt.tdiv 2 * 2 = x.toInt := fun q => h2 (hm2.mpr q)
      rw [isub (by rw [hd, i1]; omega) (by rw [hd, i1]; omega), hd, i1]
      omega
theorem door_eq {x : Int32} (h : x = 0 ∨ x = 1) : (x = 0) = ¬ (x = nI 1) := by
  rcases h with rfl | rfl <;> exact propext (by decide)
theorem coolF_m (t sp c : Int32) : coolF t sp c = if t ≤ sp then (if sp ≤ t then t else t + nI 1) else (if sp ≤ t - c then t - c else sp) := by
  unfold coolF mxS
  by_cases h : sp ≤ t - c
  · rw [if_pos h, if_neg (show ¬ t - c < sp from Int32.not_lt.mpr h)]
  · rw [if_neg h, if_pos (show t - c < sp from Int32.not_le.mp h)]
theorem rd_pos {x P : Int32} (hP : bt 1 30 P) (h : ¬ x < P) : ¬ x ≤ 0 := by
  intro q
  unfold bt at hP
  rw [Int32.lt_iff_toInt_lt] at h
  rw [Int32.le_iff_toInt_le, show (0 : Int32).toInt = 0 from rfl] at q
  omega
theorem Good.rdg {F : Nat → Int32} {t T v z : Nat} (h : Good F t T) (hv : v < 3) (hz : z < 3) : bt (-1000) 1000 (rdg F (10 + 19 * v + 5 * z)) := by
  have a := h.heat hv hz
  have b := h.bys hv hz
  unfold Jvm.Pilot.@@N@@.rdg
  unfold bt at *
  split
  · omega
  · split
    · rw [iadd (by omega) (by omega)]; omega
    · omega
def bitL (x : Int32) : Nat → Nat → Int32 → Int32
  | 0, _, a => a
  | n + 1, p, a => bitL x n (p + 1) (a + (x >>> (nI p &&& 31) &&& nI 1))
set_option maxRecDepth 20000 in
theorem bits_bc64 : ∀ a : Nat, a < 64 → ∀ b : Nat, b < 64 → bitL (nI (64 * a + b)) 12 0 (nI 0) = bcS (nI (64 * a + b)) := by decide +kernel
theorem bits_bc {x : Nat} (h : x < 4096) : bitL (nI x) 12 0 (nI 0) = bcS (nI x) := by
  have := bits_bc64 (x / 64) (by omega) (x % 64) (by omega)
  rwa [show 64 * (x / 64) + x % 64 = x by omega] at this
theorem numS_nI {w x : Int32} (h : numS w x = true) : ∃ j, j < 3 ∧ w = nI j := by
  unfold numS at h
  split at h
  · exact ⟨0, by decide, by assumption⟩
  · split at h
    · exact ⟨1, by decide, by assumption⟩
    · split at h
      · exact ⟨2, by decide, by assumption⟩
      · exact absurd h (by decide)
/-- at most three pallets in a zone -/
def QZ (F : Nat → Int32) : Prop := ∀ v z, v < 3 → z < 3 → ∃ k, k ≤ 3 ∧ pzL F (nI v) (nI z) (npF F) 0 (nI 0) = nI k
theorem ldC_f {F : Nat → Int32} {x z : Int32} {np : Nat} (h1 : F 1 = nI np) (hm : np ≤ 12) (hnp : npF F = np) (h : nI np = nI 12 ∨ pzL F x z np 0 (nI 0) = nI 3) : ldC F x z = false := by
  unfold ldC
  rcases h with h | h
  · rw [h1, h]; simp
  · rw [hnp, h]
    have : ¬ nI 3 < nI 3 := by decide
    simp [this]
theorem ldC_t {F : Nat → Int32} {x z : Int32} {np : Nat} (h1 : F 1 = nI np) (hp : np < 12) (hnp : npF F = np) (h : ¬ pzL F x z np 0 (nI 0) = nI 3) (hq : ∃ k, k ≤ 3 ∧ pzL F x z np 0 (nI 0) = nI k) : ldC F x z = true := by
  obtain ⟨k, hk, e⟩ := hq
  have hk3 : k < 3 := by
    have : k ≠ 3 := fun q => h (by rw [e, q])
    omega
  unfold ldC
  rw [hnp, e, h1]
  have e1 : ¬ nI 12 ≤ nI np := nI_ge hp (by decide)
  have e2 : nI k < nI 3 := nI_lt hk3 (by decide)
  simp only [e1, e2, decide_false, decide_true, Bool.not_false, Bool.and_self]
/-- n vans' minutes from van v on -/
def vsF : Nat → Nat → (Nat → Int32) → (Nat → Int32)
  | 0, _, F => F
  | n + 1, v, F => vsF n (v + 1) (minF F v)
def minT (nv t : Nat) (F : Nat → Int32) : Nat → Int32 := vsF nv 0 (upd F 2 (nI (t + 1)))
theorem cVans_T {q : Nat} (hq : q < 9) (t : Nat) : ∀ (n v : Nat) (M : Mm), cVans q t n v M q = vsF n v (M q) := by
  intro n
  induction n with
  | zero => intro v M; rfl
  | succ n ih => intro v M; unfold cVans vsF; rw [ih, cVan_q _ _ _ _ hq]
theorem cMin_T {q : Nat} (hq : q < 9) (nv t : Nat) (M : Mm) : cMin q nv t M q = minT nv t (M q) := by
  unfold cMin minT
  rw [cVans_T hq, setR_same]
def passF (nv : Nat) : Nat → Nat → (Nat → Int32) → (Nat → Int32)
  | 0, _, F => F
  | n + 1, t, F => passF nv n (t + 1) (minT nv t F)
theorem cPass_T {q : Nat} (hq : q < 9) (nv : Nat) : ∀ (n t : Nat) (M : Mm), cPass q nv n t M q = passF nv n t (M q) := by
  intro n
  induction n with
  | zero => intro t M; rfl
  | succ n ih => intro t M; unfold cPass passF; rw [ih, cMin_T hq]
theorem Good.vs {t : Nat} : ∀ (n v : Nat) (F : Nat → Int32) (T : Nat), v + n ≤ 3 → Good F t T → Good (vsF n v F) t (T + n) := by
  intro n
  induction n with
  | zero => intro v F T _ h; exact h
  | succ n ih =>
    intro v F T hv h
    have := ih (v + 1) _ (T + 1) (by omega) (h.kmin (show v < 3 by omega))
    rw [show T + (n + 1) = T + 1 + n by omega]
    exact this
theorem Good.minT {F : Nat → Int32} {t nv : Nat} (h : Good F t (3 * t)) (hn : nv ≤ 3) : Good (Jvm.Pilot.@@N@@.minT nv t F) (t + 1) (3 * (t + 1)) := by
  have := (Good.vs nv 0 _ (3 * t) (by omega) (h.tick))
  exact this.mono (by omega)
theorem Good.pass {nv : Nat} (hn : nv ≤ 3) : ∀ (n t : Nat) (F : Nat → Int32), Good F t (3 * t) → Good (passF nv n t F) (t + n) (3 * (t + n)) := by
  intro n
  induction n with
  | zero => intro t F h; exact h
  | succ n ih =>
    intro t F h
    have := ih (t + 1) _ (h.minT hn)
    rw [show t + (n + 1) = t + 1 + n by omega]
    exact this
/-- a state as it may be between two calls -/
def GG (F : Nat → Int32) : Prop := ∃ t, t ≤ 600 ∧ Good F t (3 * t)
theorem bt0 {a b : Int} (h1 : a ≤ 0) (h2 : 0 ≤ b) : bt a b (nI 0) := bt_nI (by decide) h1 h2
theorem Good.mend {F : Nat → Int32} {t T v z : Nat} (h : Good F t T) (hv : v < 3) (hz : z < 3) : Good (mendF F (10 + 19 * v + 5 * z)) t T :=
  (((h.put 11 (kd_z (j := 1) hv hz (by decide)) (Or.inl rfl)).put 12 (kd_z (j := 2) hv hz (by decide)) (bt0 (by decide) (by decide))).put 13 (kd_z (j := 3) hv hz (by decide)) (Or.inl rfl)).put 14 (kd_z (j := 4) hv hz (by decide)) trivial
theorem Good.van {F : Nat → Int32} {t T : Nat} (h : Good F t T) {x : Int32} (hx : hvS F x = true) : ∃ v, v < nvF F ∧ v < 3 ∧ x = nI v ∧ vN x = v := by
  obtain ⟨hn, e⟩ := h.nv
  obtain ⟨v, hv, rfl⟩ := hvS_nI hx e (by omega)
  exact ⟨v, hv, by omega, rfl, vN_nI (by omega)⟩
theorem Good.zone {F : Nat → Int32} {t T : Nat} (h : Good F t T) {x z : Int32} (hx : hzS F x z = true) : ∃ v k, v < 3 ∧ k < 3 ∧ x = nI v ∧ z = nI k ∧ vN x = v ∧ vN z = k := by
  obtain ⟨hn, e⟩ := h.nv
  obtain ⟨v, k, hv, hk, rfl, rfl⟩ := hzS_nI hx e (by omega)
  exact ⟨v, k, by omega, hk, rfl, rfl, vN_nI (by omega), vN_nI (by omega)⟩
theorem Good.pal {F : Nat → Int32} {t T : Nat} (h : Good F t T) {x : Int32} (hx : hpS F x = true) : ∃ p, p < npF F ∧ p < 12 ∧ x = nI p ∧ vN x = p := by
  obtain ⟨hn, e⟩ := h.np
  obtain ⟨p, hp, rfl⟩ := hpS_nI hx e (by omega)
  exact ⟨p, hp, by omega, rfl, vN_nI (by omega)⟩
theorem Good.rep {F : Nat → Int32} {t T : Nat} (h : Good F t T) (x z : Int32) : Good (repF F x z) t T := by
  unfold repF
  split
  · rename_i hx
    obtain ⟨v, k, hv, hk, rfl, rfl, e1, e2⟩ := h.zone hx
    rw [e1, e2]; exact h.mend hv hk
  · exact h
theorem inn01 {y : Int32} (h : inn y (nI 0) (nI 1) = true) : y = 0 ∨ y = 1 := by
  obtain ⟨k, -, hk, rfl⟩ := inn_nI (a := 0) (b := 1) h (by decide)
  rcases (by omega : k = 0 ∨ k = 1) with rfl | rfl
  · exact Or.inl rfl
  · exact Or.inr rfl
theorem Good.dr {F : Nat → Int32} {t T : Nat} (h : Good F t T) (x y : Int32) : Good (drF F x y) t T := by
  unfold drF
  split
  · rename_i hx
    unfold drB at hx
    rw [Bool.and_eq_true] at hx
    obtain ⟨v, -, hv, rfl, e⟩ := h.van hx.1
    split
    · exact h
    · rw [e]; exact h.put 8 (kd_v (j := 2) hv (by decide)) (inn01 hx.2)
  · exact h
theorem Good.dl {F : Nat → Int32} {t T : Nat} (h : Good F t T) (x : Int32) : Good (dlF F x) t T := by
  unfold dlF
  split
  · rename_i hx
    obtain ⟨p, -, hp, rfl, e⟩ := h.pal hx
    split
    · rw [e]
      refine h.put 20 (kd_p (j := 5) hp (by decide)) ?_
      unfold dlv
      split
      · exact Or.inr (Or.inr (Or.inl rfl))
      · exact Or.inr (Or.inl rfl)
    · exact h
  · exact h
/-- what passing does to the state -/
def psF (F : Nat → Int32) (x : Int32) : Nat → Int32 := if inn x (nI 1) (nI 300) then (if psB F x then passF (nvF F) (vN x) (vN (F 2)) F else F) else F
theorem psM_T {q : Nat} (hq : q < 9) (M : Mm) (x : Int32) : psM q M x q = psF (M q) x := by
  unfold psM psF
  split
  · split
    · exact cPass_T hq _ _ _ _
    · rfl
  · rfl
theorem GG.ps {F : Nat → Int32} (h : GG F) (x : Int32) : GG (psF F x) := by
  obtain ⟨t, ht, h⟩ := h
  unfold psF
  split
  · rename_i hx
    split
    · rename_i hb
      obtain ⟨m, hm1, hm3, rfl⟩ := inn_nI (a := 1) (b := 300) hx (by decide)
      have e2 : vN (F 2) = t := by rw [h.n2]; exact vN_nI (by omega)
      rw [e2, vN_nI (by omega)]
      unfold psB at hb
      rw [decide_eq_true_eq, h.n2, nI_add] at hb
      have : t + m ≤ 600 := (nI_leI (by omega) (by decide)).mp hb
      exact ⟨t + m, this, h.pass h.nv.1 _ _ _⟩
    · exact ⟨t, ht, h⟩
  · exact ⟨t, ht, h⟩
theorem GG.rep {F : Nat → Int32} (h : GG F) (x z : Int32) : GG (repF F x z) := by obtain ⟨t, ht, h⟩ := h; exact ⟨t, ht, h.rep x z⟩
theorem GG.dr {F : Nat → Int32} (h : GG F) (x z : Int32) : GG (drF F x z) := by obtain ⟨t, ht, h⟩ := h; exact ⟨t, ht, h.dr x z⟩
theorem GG.dl {F : Nat → Int32} (h : GG F) (x : Int32) : GG (dlF F x) := by obtain ⟨t, ht, h⟩ := h; exact ⟨t, ht, h.dl x⟩
theorem cVan_ne (q t : Nat) (M : Mm) (v : Nat) {r : Nat} (h : r < 30) (hq : r ≠ q) : cVan q t M v r = M r := by
  unfold cVan; rw [histW_ne _ h, setR_ne _ _ hq]
theorem hw1_hi (M : Mm) {q v t z r : Nat} (hv : v < 3) (hz : z < 3) (h : 48 ≤ r) : hw1 M q v t z r = M r := by
  unfold hw1; rw [wr_rne _ _ _ (by omega), wr_rne _ _ _ (by omega)]
theorem cVan_hi (q t : Nat) (M : Mm) (v : Nat) {r : Nat} (hv : v < 3) (h : 48 ≤ r) (hq : r ≠ q) : cVan q t M v r = M r := by
  unfold cVan histW; rw [hw1_hi _ hv (by decide) h, hw1_hi _ hv (by decide) h, hw1_hi _ hv (by decide) h, setR_ne _ _ hq]
theorem cVans_ne {q t r : Nat} (h : r < 30 ∨ 48 ≤ r) (hq : r ≠ q) : ∀ (n v : Nat) (M : Mm), v + n ≤ 3 → cVans q t n v M r = M r := by
  intro n
  induction n with
  | zero => intro v M _; rfl
  | succ n ih =>
    intro v M hv
    unfold cVans
    rw [ih _ _ (by omega)]
    rcases h with h | h
    · exact cVan_ne _ _ _ _ h hq
    · exact cVan_hi _ _ _ _ (by omega) h hq
theorem cPass_ne {q nv r : Nat} (hn : nv ≤ 3) (h : r < 30 ∨ 48 ≤ r) (hq : r ≠ q) : ∀ (n t : Nat) (M : Mm), cPass q nv n t M r = M r := by
  intro n
  induction n with
  | zero => intro t M; rfl
  | succ n ih =>
    intro t M
    unfold cPass
    rw [ih]
    unfold cMin
    rw [cVans_ne h hq _ _ _ (by omega), setR_ne _ _ hq]
theorem psM_ne {q r : Nat} (M : Mm) (x : Int32) (hn : nvF (M q) ≤ 3) (h : r < 30 ∨ 48 ≤ r) (hq : r ≠ q) : psM q M x r = M r := by
  unfold psM
  split
  · split
    · exact cPass_ne hn h hq _ _ _
    · rfl
  · rfl
def mayL (F : Nat → Int32) (s : Int32) : Nat → Nat → Bool → Bool
  | 0, _, b => b
  | n + 1, p, b => mayL F s n (p + 1) (b && (!bitB s (nI p) || decide (F (63 + 10 * p + 5) = nI 2)))
/-- one pallet's part -/
def ds1 (s c D : Int32) (b : Bool) (F : Nat → Int32) (p : Nat) : Nat → Int32 := upd (upd F (63 + 10 * p + 9) (c * (if b then nI 1 else F (63 + 10 * p + 4)) / D)) (63 + 10 * p + 5) (nI 3)
def dsF (s c D : Int32) (b : Bool) : Nat → Nat → (Nat → Int32) → (Nat → Int32)
  | 0, _, F => F
  | n + 1, p, F => if bitB s (nI p) then dsF s c D b n (p + 1) (ds1 s c D b F p) else dsF s c D b n (p + 1) F
def dsN (s c D : Int32) (b : Bool) : Nat → Nat → (Nat → Int32) → Int32 → Int32
  | 0, _, _, l => l
  | n + 1, p, F, l => if bitB s (nI p) then dsN s c D b n (p + 1) (ds1 s c D b F p) (l - c * (if b then nI 1 else F (63 + 10 * p + 4)) / D) else dsN s c D b n (p + 1) F l
/-- one more for one pallet -/
def dg1 (F : Nat → Int32) (p : Nat) (l : Int32) : Nat → Int32 := upd F (63 + 10 * p + 9) (if l ≤ 0 then F (63 + 10 * p + 9) else F (63 + 10 * p + 9) + nI 1)
def dgF (s : Int32) : Nat → Nat → (Nat → Int32) → Int32 → (Nat → Int32)
  | 0, _, F, _ => F
  | n + 1, p, F, l => if bitB s (nI p) then dgF s n (p + 1) (dg1 F p l) (l + (-1)) else dgF s n (p + 1) F l
def dgN (s : Int32) : Nat → Nat → (Nat → Int32) → Int32 → Int32 → Int32
  | 0, _, _, _, m => m
  | n + 1, p, F, l, m => if bitB s (nI p) then dgN s n (p + 1) (dg1 F p l) (l + (-1)) (mxS m (dg1 F p l (63 + 10 * p + 9))) else dgN s n (p + 1) F l m
def dtb (F : Nat → Int32) (s : Int32) (np : Nat) : Bool := decide (valL F s np 0 (nI 0) = 0)
def dtD (F : Nat → Int32) (s : Int32) (np : Nat) : Int32 := if valL F s np 0 (nI 0) = 0 then bitL s 12 0 (nI 0) else valL F s np 0 (nI 0)
def mdFF (F : Nat → Int32) (s c : Int32) (np : Nat) : (Nat → Int32) × Int32 := (dsF s c (dtD F s np) (dtb F s np) np 0 F, dsN s c (dtD F s np) (dtb F s np) np 0 F c)
def mdF (F : Nat → Int32) (s c : Int32) (np : Nat) : Nat → Int32 := dgF s np 0 (mdFF F s c np).1 (mdFF F s c np).2
def mdG (F : Nat → Int32) (s c : Int32) (np : Nat) : Int32 := dgN s np 0 (mdFF F s c np).1 (mdFF F s c np).2 (nI 0)
def mdtR (F : Nat → Int32) (s c : Int32) : Int32 := if dtB F s c then (if mayL F s (npF F) 0 true then mdG F s c (npF F) else (-100002)) else (-100001)
theorem shl1 : ∀ p : Nat, p < 13 → nI 1 <<< (nI p &&& 31) = nI (2 ^ p) := by decide
/-- a set of pallets, as a number -/
theorem dt_set {F : Nat → Int32} {s c : Int32} {np : Nat} (h1 : F 1 = nI np) (hm : np ≤ 12) (h : dtB F s c = true) : ∃ j, 1 ≤ j ∧ j < 2 ^ np ∧ s = nI j := by
  simp only [dtB, Bool.and_eq_true, Bool.not_eq_true', decide_eq_false_iff_not] at h
  obtain ⟨j, hj1, hj, rfl⟩ := nlt1 h.1.1
  rw [h1, shl1 np (by omega)] at h
  refine ⟨j, hj1, ?_, rfl⟩
  have h2 : 2 ^ np ≤ 2 ^ 12 := Nat.pow_le_pow_right (by decide) hm
  rcases Nat.lt_or_ge j (2 ^ np) with q | q
  · exact q
  · exact absurd (nI_le q hj) h.1.2
set_option maxRecDepth 20000 in
theorem bit_nz64 : ∀ a : Nat, a < 64 → ∀ b : Nat, b < 64 → 1 ≤ 64 * a + b → ¬ bitL (nI (64 * a + b)) 12 0 (nI 0) = 0 := by decide +kernel
theorem bit_nz' {j : Nat} (h1 : 1 ≤ j) (h : j < 4096) : ¬ bitL (nI j) 12 0 (nI 0) = 0 := by
  have := bit_nz64 (j / 64) (by omega) (j % 64) (by omega)
  rw [show 64 * (j / 64) + j % 64 = j by omega] at this
  exact this h1
def vsN : Nat → Nat → (Nat → Int32) → Int32 → Int32
  | 0, _, _, a => a
  | n + 1, v, F, a => vsN n (v + 1) (minF F v) (a + minN F v)
theorem vsN_add : ∀ (n v : Nat) (F : Nat → Int32) (a : Int32), vsN n v F a = a + vsN n v F (nI 0) := by
  intro n
  induction n with
  | zero => intro v F a; show a = a + nI 0; rw [nI_0, Int32.add_zero]
  | succ n ih =>
    intro v F a
    unfold vsN
    rw [ih _ _ (a + minN F v), ih _ _ (nI 0 + minN F v), nI_0, Int32.zero_add, Int32.add_assoc]
theorem cVansN_T {q : Nat} (hq : q < 9) (t : Nat) : ∀ (n v : Nat) (M : Mm) (a : Int32), cVansN q t n v M a = vsN n v (M q) a := by
  intro n
  induction n with
  | zero => intro v M a; rfl
  | succ n ih => intro v M a; unfold cVansN vsN; rw [ih, cVan_q _ _ _ _ hq]
def passN (nv : Nat) : Nat → Nat → (Nat → Int32) → Int32 → Int32
  | 0, _, _, a => a
  | n + 1, t, F, a => passN nv n (t + 1) (minT nv t F) (vsN nv 0 (upd F 2 (nI (t + 1))) a)
theorem cPassN_T {q : Nat} (hq : q < 9) (nv : Nat) : ∀ (n t : Nat) (M : Mm) (a : Int32), cPassN q nv n t M a = passN nv n t (M q) a := by
  intro n
  induction n with
  | zero => intro t M a; rfl
  | succ n ih =>
    intro t M a
    unfold cPassN passN
    rw [ih, cMin_T hq]
    unfold cMinN
    rw [cVansN_T hq, setR_same]
/-- what passing answers -/
def psN (F : Nat → Int32) (x : Int32) : Int32 := if inn x (nI 1) (nI 300) then (if psB F x then passN (nvF F) (vN x) (vN (F 2)) F (nI 0) else (-100003)) else (-100001)
theorem psR_T {q : Nat} (hq : q < 9) (M : Mm) (x : Int32) : psR q M x = psN (M q) x := by unfold psR psN; rw [cPassN_T hq]
theorem fndN_nI (F : Nat → Int32) (v z : Nat) (D P : Int32) (a : Nat) : ∃ b, b ≤ a + 1 ∧ a ≤ b ∧ fndN F v z D P (nI a) = nI b := by
  unfold fndN
  split
  · exact ⟨a + 1, by omega, by omega, nI_add _ _⟩
  · exact ⟨a, by omega, by omega, rfl⟩
theorem minN_nI (F : Nat → Int32) (v : Nat) : ∃ b, b ≤ 3 ∧ minN F v = nI b := by
  unfold minN fndA
  obtain ⟨b1, h1, -, e1⟩ := fndN_nI (midF F v) v 0 (F 4) (F 5) 0
  rw [e1]
  obtain ⟨b2, h2, -, e2⟩ := fndN_nI (find1 (midF F v) v 0 (F 4) (F 5)) v 1 (F 4) (F 5) b1
  rw [e2]
  obtain ⟨b3, h3, -, e3⟩ := fndN_nI (find1 (find1 (midF F v) v 0 (F 4) (F 5)) v 1 (F 4) (F 5)) v 2 (F 4) (F 5) b2
  rw [e3]
  exact ⟨b3, by omega, rfl⟩
set_option maxRecDepth 20000 in
theorem bc_nI64 : ∀ a : Nat, a < 64 → ∀ b : Nat, b < 64 → 0 ≤ bcS (nI (64 * a + b)) := by decide +kernel
theorem bc_nn {x : Nat} (h : x < 4096) : 0 ≤ bcS (nI x) := by
  have := bc_nI64 (x / 64) (by omega) (x % 64) (by omega)
  rwa [show 64 * (x / 64) + x % 64 = x by omega] at this
theorem inP_addP (F : Nat → Int32) (w p z q : Nat) (x : Int32) : inP (addP F w p z) q x = inP F q x := by
  unfold inP
  rw [addP_ne _ (by omega) (by omega) (by omega), addP_ne _ (by omega) (by omega) (by omega)]
theorem addL_fr (w : Nat) {i : Nat} : ∀ (n p : Nat) (F : Nat → Int32), (∀ q, p ≤ q → q < p + n → inP F q (nI w) = true → i ≠ 63 + 10 * q + 6 ∧ i ≠ 63 + 10 * q + 7 ∧ i ≠ 63 + 10 * q + 8) → addL F w n p i = F i := by
  intro n
  induction n with
  | zero => intro p F _; rfl
  | succ n ih =>
    intro p F h
    unfold addL
    split
    · rename_i hi
      have h2 := h p (Nat.le_refl _) (by omega) hi
      rw [ih (p + 1) _ (fun q h1 h3 hq => h q (by omega) (by omega) (by rw [inP_addP] at hq; exact hq)), addP_ne _ h2.1 h2.2.1 h2.2.2]
    · exact ih (p + 1) _ (fun q h1 h3 hq => h q (by omega) (by omega) hq)
theorem midF_out (F : Nat → Int32) {w i : Nat} (hw : w < 3) (h : i < 10 + 19 * w ∨ 25 + 19 * w ≤ i) : midF F w i = F i := by
  unfold midF mixA heatA
  rw [mix1_ne _ (by omega) (by omega), mix1_ne _ (by omega) (by omega), heatZ_ne _ _ (by omega), heatZ_ne _ _ (by omega), heatZ_ne _ _ (by omega)]
theorem findA_out (F : Nat → Int32) {w i : Nat} (D P : Int32) (hw : w < 3) (h : i < 10 + 19 * w ∨ 25 + 19 * w ≤ i) : findA F w D P i = F i := by
  unfold findA
  rw [find1_ne _ _ _ (by omega) (by omega), find1_ne _ _ _ (by omega) (by omega), find1_ne _ _ _ (by omega) (by omega)]
theorem inP_eq (F F' : Nat → Int32) (p : Nat) (x : Int32) (h : F' (63 + 10 * p) = F (63 + 10 * p)) (h5 : F' (63 + 10 * p + 5) = F (63 + 10 * p + 5)) : inP F' p x = inP F p x := by unfold inP; rw [h, h5]
/-- every pallet is in a van that there is -/
def WV (F : Nat → Int32) : Prop := ∀ p, p < npF F → ∃ v, v < nvF F ∧ F (63 + 10 * p) = nI v
theorem mayL_bad (F : Nat → Int32) (s : Int32) : ∀ (n p : Nat) (b : Bool), mayL F s n p b = (b && !badL F s n p) := by
  intro n
  induction n with
  | zero => intro p b; show b = (b && !false); simp
  | succ n ih =>
    intro p b
    unfold mayL badL
    rw [ih]
    by_cases h1 : bitB s (nI p) = true
    · rw [if_pos h1, h1]
      by_cases h2 : F (63 + 10 * p + 5) = nI 2
      · rw [if_pos h2]; simp [h2]
      · rw [if_neg h2]; simp [h2]
    · have : bitB s (nI p) = false := by simpa using h1
      rw [if_neg h1, this]; simp
theorem valL_nI {F : Nat → Int32} (hv : ∀ q, q < 12 → bt 0 9999 (F (63 + 10 * q + 4))) (s : Int32) : ∀ (n p a : Nat), p + n ≤ 12 → ∃ b, b ≤ a + 9999 * n ∧ valL F s n p (nI a) = nI b := by
  intro n
  induction n with
  | zero => intro p a _; exact ⟨a, by omega, rfl⟩
  | succ n ih =>
    intro p a hp
    unfold valL
    split
    · have h := hv p (by omega)
      obtain ⟨k, hk, e⟩ := nI_of (x := F (63 + 10 * p + 4)) (fun q => by
        have := h.1
        rw [Int32.lt_iff_toInt_lt, show (0 : Int32).toInt = 0 from rfl] at q
        omega)
      have hk9 : k ≤ 9999 := by
        have := h.2
        rw [e, nI_toInt hk] at this
        omega
      rw [e, nI_add]
      obtain ⟨b, hb, e2⟩ := ih (p + 1) (a + k) (by omega)
      exact ⟨b, by omega, e2⟩
    · obtain ⟨b, hb, e2⟩ := ih (p + 1) a (by omega)
      exact ⟨b, by omega, e2⟩
theorem upd_sw (F : Nat → Int32) {i j : Nat} (x y : Int32) (h : i ≠ j) : upd (upd F i x) j y = upd (upd F j y) i x := by
  funext k
  simp only [upd_at]
  by_cases h1 : k = i
  · subst h1; simp [h]
  · by_cases h2 : k = j
    · subst h2; simp [h1]
    · simp [h1, h2]
theorem dsF_ne (s c D : Int32) (b : Bool) {i : Nat} : ∀ (n p : Nat) (F : Nat → Int32), i < 63 + 10 * p → dsF s c D b n p F i = F i := by
  intro n
  induction n with
  | zero => intro p F _; rfl
  | succ n ih =>
    intro p F hi
    unfold dsF
    split
    · rw [ih _ _ (by omega)]; unfold ds1; rw [upd_at, if_neg (by omega), upd_at, if_neg (by omega)]
    · exact ih _ _ (by omega)
/-- what is left when all parts are given -/
theorem dsN_rst (s c D : Int32) (b : Bool) : ∀ (n p : Nat) (F : Nat → Int32) (l : Int32), dsN s c D b n p F l = rstL (dsF s c D b n p F) s n p l := by
  intro n
  induction n with
  | zero => intro p F l; rfl
  | succ n ih =>
    intro p F l
    unfold dsN rstL dsF
    split
    · rw [ih, dsF_ne _ _ _ _ n (p + 1) _ (by omega)]
      unfold ds1
      rw [upd_at (upd F (63 + 10 * p + 9) _), if_neg (show ¬ 63 + 10 * p + 9 = 63 + 10 * p + 5 by omega), upd_at, if_pos rfl]
    · rw [ih]
theorem shrL_ds {s V k c D : Int32} {b : Bool} (h : ∀ F p, shr1 F p V k c = ds1 s c D b F p) : ∀ (n p : Nat) (F : Nat → Int32), shrL s V k c n p F = dsF s c D b n p F := by
  intro n
  induction n with
  | zero => intro p F; rfl
  | succ n ih =>
    intro p F
    unfold shrL dsF
    rw [ih, h]
    split
    · rfl
    · rfl
theorem td_le {a n : Int} (hn : 0 < n) (h : 0 ≤ a) : a.tdiv n ≤ a := by
  rw [Int.tdiv_eq_ediv_of_nonneg h]
  exact Int.ediv_le_self _ h
/-- one part is neither below 0 nor beyond 10^8 -/
theorem part_b {c x D : Int32} (hc : bt 0 9999 c) (hx : bt 0 9999 x) (hD : 0 < D.toInt) : 0 ≤ (c * x / D).toInt ∧ (c * x / D).toInt ≤ 100000000 := by
  unfold bt at *
  have hm0 : 0 ≤ c.toInt * x.toInt := Int.mul_nonneg (by omega) (by omega)
  have hm1 : c.toInt * x.toInt ≤ 9999 * 9999 := Int.mul_le_mul (by omega) (by omega) (by omega) (by omega)
  have e : (c * x).toInt = c.toInt * x.toInt := imul (by omega) (by omega)
  rw [idiv hD, e]
  have h1 := td_pos hD hm0
  have h2 := td_le hD hm0
  omega
theorem dsN_lo {s c D : Int32} {b : Bool} (hc : bt 0 9999 c) (hD : 0 < D.toInt) : ∀ (n p : Nat) (F : Nat → Int32) (l : Int32), p + n ≤ 12 → (∀ q, q < 12 → bt 0 9999 (F (63 + 10 * q + 4))) → -100000000 * (p : Int) ≤ l.toInt → -1200000000 ≤ (dsN s c D b n p F l).toInt ∧ True := by
  intro n
  induction n with
  | zero => intro p F l hp _ hl; exact ⟨by show -1200000000 ≤ l.toInt; omega, trivial⟩
  | succ n ih =>
    intro p F l hp hv hl
    unfold dsN
    split
    · have hx : bt 0 9999 (if b then nI 1 else F (63 + 10 * p + 4)) := by
        split
        · exact bt_nI (by decide) (by decide) (by decide)
        · exact hv p (by omega)
      have h1 := part_b hc hx hD
      have hlt := Int32.toInt_lt l
      refine ih (p + 1) _ _ (by omega) (fun q hq => ?_) ?_
      · unfold ds1
        rw [upd_at, if_neg (by omega), upd_at, if_neg (by omega)]
        exact hv q hq
      · rw [isub (by omega) (by omega)]; omega
    · exact ih (p + 1) _ _ (by omega) hv (by omega)
theorem im1 : ((-1) : Int32).toInt = -1 := by decide
/-- giving what is left: the counter stops at 0 or goes on -/
theorem giv_same (s : Int32) : ∀ (n p : Nat) (F : Nat → Int32) (r l g : Int32), (r = l ∧ ¬ l ≤ 0 ∨ r ≤ 0 ∧ l ≤ 0 ∧ -2000000000 + (n : Int) ≤ l.toInt) → (¬ l ≤ 0 → True) → n ≤ 12 → givL s n p F r = dgF s n p F l ∧ grtL s n p F r g = dgN s n p F l g := by
  intro n
  induction n with
  | zero => intro p F r l g _ _ _; exact ⟨rfl, rfl⟩
  | succ n ih =>
    intro p F r l g h _ hn
    have e0 : (0 : Int32).toInt = 0 := rfl
    unfold givL dgF grtL dgN
    by_cases hb : bitB s (nI p) = true
    · rw [if_pos hb, if_pos hb, if_pos hb, if_pos hb]
      rcases h with ⟨rfl, h⟩ | ⟨h1, h2, h3⟩
      · rw [if_neg h]
        have e1 : giv1 F p r = dg1 F p r := by unfold giv1 dg1; rw [if_neg h, if_neg h]
        rw [e1]
        have hr : 0 < r.toInt := by rw [Int32.le_iff_toInt_le, e0] at h; omega
        have hlt := Int32.toInt_lt r
        have hm : (r + (-1)).toInt = r.toInt - 1 := by rw [iadd (by rw [im1]; omega) (by rw [im1]; omega), im1]; omega
        refine ih (p + 1) _ _ _ _ ?_ (fun _ => trivial) (by omega)
        by_cases h0 : r + (-1) ≤ 0
        · exact Or.inr ⟨h0, h0, by omega⟩
        · exact Or.inl ⟨rfl, h0⟩
      · rw [if_pos h1]
        have e1 : giv1 F p r = dg1 F p l := by unfold giv1 dg1; rw [if_pos h1, if_pos h2, upd_self]
        rw [e1]
        rw [Int32.le_iff_toInt_le, e0] at h2
        have hm : (l + (-1)).toInt = l.toInt - 1 := by rw [iadd (by rw [im1]; omega) (by rw [im1]; omega), im1]; omega
        refine ih (p + 1) _ _ _ _ (Or.inr ⟨h1, ?_, by omega⟩) (fun _ => trivial) (by omega)
        rw [Int32.le_iff_toInt_le, e0]; omega
    · rw [if_neg hb, if_neg hb, if_neg hb, if_neg hb]
      refine ih (p + 1) F r l g ?_ (fun _ => trivial) (by omega)
      rcases h with h | ⟨h1, h2, h3⟩
      · exact Or.inl h
      · exact Or.inr ⟨h1, h2, by omega⟩
/-- a set of pallets whose parts are given: the two sides' states and answers -/
theorem det_in {F : Nat → Int32} {t T : Nat} (hg : Good F t T) {s c : Int32} (hd : dtB F s c = true) : mdF F s c (npF F) = givL s (npF F) 0 (sbvF F s c (npF F)) (rstL (sbvF F s c (npF F)) s (npF F) 0 c) ∧ mdG F s c (npF F) = grtL s (npF F) 0 (sbvF F s c (npF F)) (rstL (sbvF F s c (npF F)) s (npF F) 0 c) (nI 0) := by
  obtain ⟨hn, h1⟩ := hg.np
  obtain ⟨j, hj1, hj2, rfl⟩ := dt_set h1 hn hd
  have hj : j < 4096 := by
    have h2 : 2 ^ npF F ≤ 2 ^ 12 := Nat.pow_le_pow_right (by decide) hn
    omega
  have hc : bt 0 9999 c := by
    simp only [dtB, Bool.and_eq_true] at hd
    exact bt_inn hd.2 (by decide) (by decide)
  obtain ⟨w, hw, eV⟩ := valL_nI (fun q hq => hg.value hq) (nI j) (npF F) 0 0 (by omega)
  have hbc := bits_bc hj
  have hbz := bit_nz' hj1 hj
  have hbn := bc_nn hj
  have hbp : 0 < (bcS (nI j)).toInt := by
    rw [← hbc] at hbn ⊢
    rw [Int32.le_iff_toInt_le, show (0 : Int32).toInt = 0 from rfl] at hbn
    have : (bitL (nI j) 12 0 (nI 0)).toInt ≠ 0 := fun q => hbz (Int32.toInt_inj.mp (by rw [q]; rfl))
    omega
  have hwt : (nI w).toInt = w := nI_toInt (by omega)
  have hw0 : (nI w ≤ 0) ↔ nI w = 0 := by
    rw [Int32.le_iff_toInt_le, show (0 : Int32).toInt = 0 from rfl, ← Int32.toInt_inj, show (0 : Int32).toInt = 0 from rfl]
    omega
  have hsame : ∀ G p, shr1 G p (valL F (nI j) (npF F) 0 (nI 0)) (bcS (nI j)) c = ds1 (nI j) c (dtD F (nI j) (npF F)) (dtb F (nI j) (npF F)) G p := by
    intro G p
    unfold shr1 ds1 dtD dtb
    rw [eV]
    by_cases h0 : nI w = 0
    · rw [if_pos (hw0.mpr h0), if_neg (fun q => by rw [Int32.le_iff_toInt_le, show (0 : Int32).toInt = 0 from rfl] at q; omega), if_pos h0, decide_eq_true h0, hbc]
      rw [show (if true = true then nI 1 else G (63 + 10 * p + 4)) = 1 from rfl, Int32.mul_one]
      exact upd_sw _ _ _ (by omega)
    · rw [if_neg (fun q => h0 (hw0.mp q)), if_neg h0, decide_eq_false h0]
      exact upd_sw _ _ _ (by omega)
  have hD : 0 < (dtD F (nI j) (npF F)).toInt := by
    unfold dtD
    rw [eV]
    by_cases h0 : nI w = 0
    · rw [if_pos h0, hbc]; exact hbp
    · rw [if_neg h0, hwt]
      have : w ≠ 0 := fun q => h0 (by rw [q]; rfl)
      omega
  have hF : sbvF F (nI j) c (npF F) = dsF (nI j) c (dtD F (nI j) (npF F)) (dtb F (nI j) (npF F)) (npF F) 0 F := shrL_ds hsame _ _ _
  have hlo := (dsN_lo (s := nI j) (b := dtb F (nI j) (npF F)) hc hD (npF F) 0 F c (by omega) (fun q hq => hg.value hq) (by have := hc.1; omega)).1
  rw [hF, ← dsN_rst]
  unfold mdF mdG mdFF
  generalize dsN (nI j) c (dtD F (nI j) (npF F)) (dtb F (nI j) (npF F)) (npF F) 0 F c = l at hlo ⊢
  have hgv := giv_same (nI j) (npF F) 0 (dsF (nI j) c (dtD F (nI j) (npF F)) (dtb F (nI j) (npF F)) (npF F) 0 F) l l (nI 0) (by
    by_cases h0 : l ≤ 0
    · exact Or.inr ⟨h0, h0, by omega⟩
    · exact Or.inl ⟨rfl, h0⟩) (fun _ => trivial) hn
  exact ⟨hgv.1.symm, hgv.2.symm⟩
theorem det_R {F : Nat → Int32} {t T : Nat} (hg : Good F t T) (s c : Int32) : mdtR F s c = dtR F s c := by
  unfold mdtR dtR
  split
  · rename_i hd
    rw [mayL_bad, Bool.true_and]
    by_cases hb : badL F s (npF F) 0 = true
    · rw [if_pos hb, hb]; rfl
    · have : badL F s (npF F) 0 = false := by simpa using hb
      rw [if_neg hb, this, (det_in hg hd).2]; rfl
  · rfl
theorem cold_bt {sp c : Int32} (h : coldS sp c = true) : bt (-300) 100 sp ∧ bt 0 30 c := by
  unfold coldS at h
  rw [Bool.and_eq_true] at h
  exact ⟨bt_inn h.1 (by decide) (by decide), bt_inn h.2 (by decide) (by decide)⟩
theorem Good.num {F : Nat → Int32} {t T : Nat} (h : Good F t T) (w x : Int32) : Good (numF F w x) t T := by
  unfold numF
  split
  · rename_i hn
    obtain ⟨j, hj, rfl⟩ := numS_nI hn
    rcases (by omega : j = 0 ∨ j = 1 ∨ j = 2) with rfl | rfl | rfl
    · rw [if_pos rfl]
      have hb : inn x (-200) (nI 450) = true := by simpa [numS] using hn
      exact h.put 3 rfl (bt_inn hb (by decide) (by decide))
    · rw [if_neg (by decide), if_pos rfl]
      have hb : inn x (nI 5) (nI 100) = true := by simpa [numS, nI_eqm] using hn
      exact h.put 4 rfl (bt_inn hb (by decide) (by decide))
    · rw [if_neg (by decide), if_neg (by decide)]
      have hb : inn x (nI 1) (nI 30) = true := by simpa [numS, nI_eqm] using hn
      exact h.put 5 rfl (bt_inn hb (by decide) (by decide))
  · exact h
theorem Good.setv {F : Nat → Int32} {t T : Nat} (h : Good F t T) (x sp c : Int32) : Good (vanF F x sp c) t T := by
  unfold vanF
  split
  · rename_i hx
    rw [Bool.and_eq_true] at hx
    obtain ⟨v, -, hv, rfl, e⟩ := h.van hx.1
    obtain ⟨b1, b2⟩ := cold_bt hx.2
    rw [e]
    exact (h.put 6 (kd_v0 hv) b1).put 7 (kd_v (j := 1) hv (by decide)) b2
  · exact h
theorem mode_ok {m y : Int32} (h : modeS m y = true) : (m = nI 0 ∨ m = nI 1 ∨ m = nI 2) ∧ bt (-300) 450 y := by
  unfold modeS at h
  split at h
  · rename_i e
    refine ⟨Or.inl e, ?_⟩
    rw [decide_eq_true_eq] at h
    subst h
    exact ⟨by decide, by decide⟩
  · split at h
    · rename_i e
      exact ⟨Or.inr (Or.inl e), bt_mono (bt_inn h (a := -200) (b := 200) (by decide) (by decide)) (by decide) (by decide)⟩
    · split at h
      · rename_i e
        exact ⟨Or.inr (Or.inr e), bt_inn h (by decide) (by decide)⟩
      · cases h
theorem Good.prb {F : Nat → Int32} {t T : Nat} (h : Good F t T) (x z m y : Int32) : Good (prbF F x z m y) t T := by
  unfold prbF
  split
  · rename_i hx
    rw [Bool.and_eq_true] at hx
    obtain ⟨v, k, hv, hk, rfl, rfl, e1, e2⟩ := h.zone hx.1
    obtain ⟨b1, b2⟩ := mode_ok hx.2
    rw [e1, e2]
    exact (h.put 11 (kd_z (j := 1) hv hk (by decide)) b1).put 12 (kd_z (j := 2) hv hk (by decide)) b2
  · exact h
theorem bt_300 {sp : Int32} (h : bt (-300) 100 sp) : bt (-300) 450 sp := bt_mono h (by decide) (by decide)
theorem Good.startZ {F : Nat → Int32} {t T v z : Nat} {sp : Int32} (h : Good F t T) (hv : v < 3) (hz : z < 3) (hs : bt (-300) 100 sp) : Good (upd (mendF F (10 + 19 * v + 5 * z)) (10 + 19 * v + 5 * z) sp) t T :=
  (h.mend hv hz).put 10 (kd_z0 hv hz) (bt_300 hs)
theorem Good.startV {F : Nat → Int32} {t T v : Nat} {sp c x : Int32} (h : Good F t T) (hv : v < 3) (hs : bt (-300) 100 sp) (hc : bt 0 30 c) (hx : x = nI t) : Good (Jvm.Pilot.@@N@@.startV F v sp c x) t T :=
  (((((((h.put 6 (kd_v0 hv) hs).put 7 (kd_v (j := 1) hv (by decide)) hc).put 8 (kd_v (j := 2) hv (by decide)) (Or.inl rfl)).put 9 (kd_v (j := 3) hv (by decide)) ⟨t, Nat.le_refl _, hx⟩).startZ hv (z := 0) (by decide) hs).startZ hv (z := 1) (by decide) hs).startZ hv (z := 2) (by decide) hs)
theorem Good.new {F : Nat → Int32} {t T : Nat} (h : Good F t T) (sp c : Int32) : Good (newF F sp c) t T := by
  unfold newF
  split
  · rename_i hc
    split
    · rename_i hl
      obtain ⟨b1, b2⟩ := cold_bt hc
      obtain ⟨hn, e⟩ := h.nv
      have hv : nvF F < 3 := (nI_ltI (by omega) (by decide)).mp (by rw [← e]; exact hl)
      refine (h.startV hv b1 b2 h.n2).put 0 rfl ⟨nvF F + 1, by omega, ?_⟩
      rw [e, nI_add]
    · exact h
  · exact h
theorem Good.startP {F : Nat → Int32} {t T p : Nat} {v z l a w : Int32} (h : Good F t T) (hp : p < 12) (hv : ∃ k, k < 3 ∧ v = nI k) (hz : ∃ k, k < 3 ∧ z = nI k) (hl : bt (-300) 300 l) (ha : bt 0 600 a) (hw : bt 0 9999 w) : Good (Jvm.Pilot.@@N@@.startP F p v z l a w) t T :=
  (((((((((h.put 15 (kd_p0 hp) hv).put 16 (kd_p (j := 1) hp (by decide)) hz).put 17 (kd_p (j := 2) hp (by decide)) hl).put 18 (kd_p (j := 3) hp (by decide)) ha).put 19 (kd_p (j := 4) hp (by decide)) hw).put 20 (kd_p (j := 5) hp (by decide)) (Or.inl rfl)).put 21 (kd_p (j := 6) hp (by decide)) trivial).put 22 (kd_p (j := 7) hp (by decide)) trivial).put 23 (kd_p (j := 8) hp (by decide)) ⟨0, Nat.zero_le _, rfl⟩).put 24 (kd_p (j := 9) hp (by decide)) trivial
theorem ldC_np {F : Nat → Int32} {x z : Int32} {np : Nat} (h1 : F 1 = nI np) (hm : np ≤ 12) (h : ldC F x z = true) : np < 12 := by
  unfold ldC at h
  rw [Bool.and_eq_true, Bool.not_eq_true', decide_eq_false_iff_not, h1] at h
  rcases Nat.lt_or_ge np 12 with q | q
  · exact q
  · exact absurd (nI_le q (by omega)) h.1
theorem Good.ld {F : Nat → Int32} {t T : Nat} (h : Good F t T) (x z l a w : Int32) : Good (ldF F x z l a w) t T := by
  unfold ldF
  split
  · rename_i hb
    split
    · exact h
    · split
      · rename_i hc
        obtain ⟨hn, e⟩ := h.np
        have hp := ldC_np e hn hc
        simp only [ldB, Bool.and_eq_true] at hb
        obtain ⟨⟨⟨b1, b2⟩, b3⟩, b4⟩ := hb
        obtain ⟨v, k, hv, hk, rfl, rfl, -, -⟩ := h.zone b1
        refine (h.startP hp ⟨v, hv, rfl⟩ ⟨k, hk, rfl⟩ (bt_inn b2 (by decide) (by decide)) (bt_inn b3 (by decide) (by decide)) (bt_inn b4 (by decide) (by decide))).put 1 rfl ⟨npF F + 1, by omega, ?_⟩
        rw [e, nI_add]
      · exact h
  · exact h
theorem Good.shr1 {F : Nat → Int32} {t T p : Nat} {vs k c : Int32} (h : Good F t T) (hp : p < 12) : Good (Jvm.Pilot.@@N@@.shr1 F p vs k c) t T := by
  have h3 := h.put (i := 63 + 10 * p + 5) (x := nI 3) 20 (kd_p (j := 5) hp (by decide)) (Or.inr (Or.inr (Or.inr rfl)))
  unfold Jvm.Pilot.@@N@@.shr1
  split
  · split
    · exact h3
    · exact h3.put 24 (kd_p (j := 9) hp (by decide)) trivial
  · exact h3.put 24 (kd_p (j := 9) hp (by decide)) trivial
theorem Good.shrL {t T : Nat} {s vs k c : Int32} : ∀ (n p : Nat) (F : Nat → Int32), p + n ≤ 12 → Good F t T → Good (Jvm.Pilot.@@N@@.shrL s vs k c n p F) t T := by
  intro n
  induction n with
  | zero => intro p F _ h; exact h
  | succ n ih =>
    intro p F hp h
    unfold Jvm.Pilot.@@N@@.shrL
    refine ih (p + 1) _ (by omega) ?_
    split
    · exact h.shr1 (by omega)
    · exact h
theorem Good.givL {t T : Nat} {s : Int32} : ∀ (n p : Nat) (F : Nat → Int32) (r : Int32), p + n ≤ 12 → Good F t T → Good (Jvm.Pilot.@@N@@.givL s n p F r) t T := by
  intro n
  induction n with
  | zero => intro p F r _ h; exact h
  | succ n ih =>
    intro p F r hp h
    unfold Jvm.Pilot.@@N@@.givL
    split
    · refine ih (p + 1) _ _ (by omega) ?_
      unfold giv1
      split
      · exact h
      · exact h.put 24 (kd_p (j := 9) (by omega) (by decide)) trivial
    · exact ih (p + 1) F r (by omega) h
theorem Good.dt {F : Nat → Int32} {t T : Nat} (h : Good F t T) (s c : Int32) : Good (dtF F s c) t T := by
  have hn := h.np.1
  unfold dtF
  split
  · split
    · exact h
    · unfold sbvF
      exact Good.givL _ _ _ _ (by omega) (Good.shrL _ _ _ (by omega) h)
  · exact h
def inZ (F : Nat → Int32) (p : Nat) (x z : Int32) : Bool := inP F p x && decide (F (63 + 10 * p + 1) = z)
def cz (F : Nat → Int32) (x z : Int32) : Nat → Nat
  | 0 => 0
  | n + 1 => cz F x z n + (if inZ F n x z then 1 else 0)
theorem pz_cz (F : Nat → Int32) (x z : Int32) : ∀ (n p a : Nat), pzL F x z n p (nI a) = nI (a + (cz F x z (p + n) - cz F x z p)) ∧ cz F x z p ≤ cz F x z (p + n) := by
  intro n
  induction n with
  | zero => intro p a; exact ⟨by show nI a = _; rw [Nat.add_zero, Nat.sub_self]; rfl, Nat.le_refl _⟩
  | succ n ih =>
    intro p a
    have hs : cz F x z (p + 1) = cz F x z p + (if inZ F p x z then 1 else 0) := rfl
    unfold pzL
    by_cases h1 : inP F p x = true
    · rw [if_pos h1]
      by_cases h2 : F (63 + 10 * p + 1) = z
      · rw [if_pos h2, nI_add]
        have hz : inZ F p x z = true := by unfold inZ; rw [h1]; simp [h2]
        rw [hz, if_pos rfl] at hs
        obtain ⟨e1, e2⟩ := ih (p + 1) (a + 1)
        rw [e1, show p + 1 + n = p + (n + 1) by omega] at *
        exact ⟨congrArg nI (by omega), by omega⟩
      · rw [if_neg h2]
        have hz : inZ F p x z = false := by unfold inZ; simp [h2]
        rw [hz] at hs
        obtain ⟨e1, e2⟩ := ih (p + 1) a
        rw [e1, show p + 1 + n = p + (n + 1) by omega] at *
        simp only [Bool.false_eq_true, if_false] at hs
        exact ⟨congrArg nI (by omega), by omega⟩
    · rw [if_neg h1]
      have hz : inZ F p x z = false := by unfold inZ; simp [h1]
      rw [hz] at hs
      obtain ⟨e1, e2⟩ := ih (p + 1) a
      rw [e1, show p + 1 + n = p + (n + 1) by omega] at *
      simp only [Bool.false_eq_true, if_false] at hs
      exact ⟨congrArg nI (by omega), by omega⟩
/-- at most three in a zone, counted plainly -/
def QN (F : Nat → Int32) : Prop := ∀ v z, v < 3 → z < 3 → cz F (nI v) (nI z) (npF F) ≤ 3
theorem QN.qz {F : Nat → Int32} (h : QN F) : QZ F := fun v z hv hz => by
  have e := (pz_cz F (nI v) (nI z) (npF F) 0 0).1
  rw [Nat.zero_add] at e
  exact ⟨cz F (nI v) (nI z) (npF F), h v z hv hz, by rw [e]; exact congrArg nI (by rw [show cz F (nI v) (nI z) 0 = 0 from rfl, Nat.zero_add]; omega)⟩
theorem cz_mono {F F' : Nat → Int32} {x z : Int32} : ∀ n, (∀ p, p < n → inZ F' p x z = true → inZ F p x z = true) → cz F' x z n ≤ cz F x z n := by
  intro n
  induction n with
  | zero => intro _; exact Nat.le_refl _
  | succ n ih =>
    intro h
    have h1 := ih (fun p hp => h p (by omega))
    have h2 := h n (by omega)
    unfold cz
    by_cases e : inZ F' n x z = true
    · rw [e, h2 e]; simp only [if_true]; omega
    · have : inZ F' n x z = false := by simpa using e
      rw [this]; simp only [Bool.false_eq_true, if_false]; omega
/-- an edit that brings no pallet in -/
theorem QN.of {F F' : Nat → Int32} (h : QN F) (hn : npF F' = npF F) (hi : ∀ p, p < npF F → ∀ x z, inZ F' p x z = true → inZ F p x z = true) : QN F' := fun v z hv hz => by
  rw [hn]
  exact Nat.le_trans (cz_mono _ (fun p hp => hi p hp _ _)) (h v z hv hz)
def samP (F F' : Nat → Int32) : Prop := F' 0 = F 0 ∧ F' 1 = F 1 ∧ ∀ p, p < 12 → F' (63 + 10 * p) = F (63 + 10 * p) ∧ F' (63 + 10 * p + 1) = F (63 + 10 * p + 1) ∧ F' (63 + 10 * p + 5) = F (63 + 10 * p + 5)
/-- what holds of pallets and vans beside -/
def QW (F : Nat → Int32) : Prop := QN F ∧ WV F
theorem npF_eq {F F' : Nat → Int32} (h : F' 1 = F 1) : npF F' = npF F := by unfold npF; rw [h]
theorem nvF_eq {F F' : Nat → Int32} (h : F' 0 = F 0) : nvF F' = nvF F := by unfold nvF; rw [h]
theorem QW.sam {F F' : Nat → Int32} (h : QW F) (hm : npF F ≤ 12) (hs : samP F F') : QW F' := by
  obtain ⟨s0, s1, s2⟩ := hs
  refine ⟨h.1.of (npF_eq s1) (fun p hp x z hi => ?_), fun p hp => ?_⟩
  · obtain ⟨a, b, c⟩ := s2 p (by omega)
    unfold inZ inP at hi ⊢
    rw [a, b, c] at hi
    exact hi
  · rw [npF_eq s1] at hp
    obtain ⟨v, hv, e⟩ := h.2 p hp
    exact ⟨v, by rw [nvF_eq s0]; exact hv, by rw [(s2 p (by omega)).1]; exact e⟩
theorem samP.refl (F : Nat → Int32) : samP F F := ⟨rfl, rfl, fun _ _ => ⟨rfl, rfl, rfl⟩⟩
theorem samP.trans {F F' G : Nat → Int32} (h : samP F F') (h2 : samP F' G) : samP F G :=
  ⟨h2.1.trans h.1, h2.2.1.trans h.2.1, fun p hp => ⟨(h2.2.2 p hp).1.trans (h.2.2 p hp).1, (h2.2.2 p hp).2.1.trans (h.2.2 p hp).2.1, (h2.2.2 p hp).2.2.trans (h.2.2 p hp).2.2⟩⟩
theorem samP.put {F F' : Nat → Int32} (h : samP F F') {i : Nat} (x : Int32) (hi : 2 ≤ i ∧ i < 63) : samP F (upd F' i x) := by
  refine h.trans ⟨?_, ?_, fun p _ => ⟨?_, ?_, ?_⟩⟩ <;> (rw [upd_at, if_neg (by omega)])
theorem samP.mend {F F' : Nat → Int32} (h : samP F F') {v z : Nat} (hv : v < 3) (hz : z < 3) : samP F (mendF F' (10 + 19 * v + 5 * z)) :=
  (((h.put _ (by omega)).put _ (by omega)).put _ (by omega)).put _ (by omega)
theorem samP.num (F : Nat → Int32) (w x : Int32) : samP F (numF F w x) := by
  unfold numF
  split
  · split
    · exact (samP.refl F).put _ (by decide)
    · split
      · exact (samP.refl F).put _ (by decide)
      · exact (samP.refl F).put _ (by decide)
  · exact samP.refl F
theorem samP.setv {F : Nat → Int32} {t T : Nat} (h : Good F t T) (x sp c : Int32) : samP F (vanF F x sp c) := by
  unfold vanF
  split
  · rename_i hx
    rw [Bool.and_eq_true] at hx
    obtain ⟨v, -, hv, rfl, e⟩ := h.van hx.1
    rw [e]
    exact ((samP.refl F).put _ (by omega)).put _ (by omega)
  · exact samP.refl F
theorem samP.prb {F : Nat → Int32} {t T : Nat} (h : Good F t T) (x z m y : Int32) : samP F (prbF F x z m y) := by
  unfold prbF
  split
  · rename_i hx
    rw [Bool.and_eq_true] at hx
    obtain ⟨v, k, hv, hk, rfl, rfl, e1, e2⟩ := h.zone hx.1
    rw [e1, e2]
    exact ((samP.refl F).put _ (by omega)).put _ (by omega)
  · exact samP.refl F
theorem samP.rep {F : Nat → Int32} {t T : Nat} (h : Good F t T) (x z : Int32) : samP F (repF F x z) := by
  unfold repF
  split
  · rename_i hx
    obtain ⟨v, k, hv, hk, rfl, rfl, e1, e2⟩ := h.zone hx
    rw [e1, e2]
    exact (samP.refl F).mend hv hk
  · exact samP.refl F
theorem samP.dr {F : Nat → Int32} {t T : Nat} (h : Good F t T) (x y : Int32) : samP F (drF F x y) := by
  unfold drF
  split
  · rename_i hx
    unfold drB at hx
    rw [Bool.and_eq_true] at hx
    obtain ⟨v, -, hv, rfl, e⟩ := h.van hx.1
    split
    · exact samP.refl F
    · rw [e]; exact (samP.refl F).put _ (by omega)
  · exact samP.refl F
theorem samP.min (F : Nat → Int32) {v : Nat} (hv : v < 3) : samP F (minF F v) := by
  refine ⟨minF_lo _ (by decide), minF_lo _ (by decide), fun p _ => ⟨?_, ?_, ?_⟩⟩ <;> exact minF_hi F hv (by omega) (fun q => ⟨by omega, by omega, by omega⟩)
theorem samP.vs : ∀ (n v : Nat) (F : Nat → Int32), v + n ≤ 3 → samP F (vsF n v F) := by
  intro n
  induction n with
  | zero => intro v F _; exact samP.refl F
  | succ n ih => intro v F hv; exact (samP.min F (by omega)).trans (ih (v + 1) _ (by omega))
theorem samP.minT (F : Nat → Int32) {nv t : Nat} (hn : nv ≤ 3) : samP F (Jvm.Pilot.@@N@@.minT nv t F) :=
  ((samP.refl F).put _ (by decide)).trans (samP.vs nv 0 _ (by omega))
theorem samP.pass {nv : Nat} (hn : nv ≤ 3) : ∀ (n t : Nat) (F : Nat → Int32), samP F (passF nv n t F) := by
  intro n
  induction n with
  | zero => intro t F; exact samP.refl F
  | succ n ih => intro t F; exact (samP.minT F hn).trans (ih (t + 1) _)
theorem samP.ps {F : Nat → Int32} {t T : Nat} (h : Good F t T) (x : Int32) : samP F (psF F x) := by
  unfold psF
  split
  · split
    · exact samP.pass h.nv.1 _ _ _
    · exact samP.refl F
  · exact samP.refl F
theorem QW.dl {F : Nat → Int32} {t T : Nat} (h : Good F t T) (hq : QW F) (x : Int32) : QW (dlF F x) := by
  unfold dlF
  split
  · rename_i hx
    obtain ⟨p, -, hp, rfl, e⟩ := h.pal hx
    split
    · rw [e]
      have hd : ∀ i, i ≠ 63 + 10 * p + 5 → upd F (63 + 10 * p + 5) (dlv F p) i = F i := fun i hi => if_neg hi
      refine ⟨hq.1.of (npF_eq (hd 1 (by omega))) (fun q hq2 x z hi => ?_), fun q hq2 => ?_⟩
      · unfold inZ inP at hi ⊢
        by_cases e2 : q = p
        · subst e2
          rw [upd_at, if_pos rfl] at hi
          have : ¬ dlv F q = 0 := by unfold dlv; split <;> decide
          simp [this] at hi
        · rw [hd _ (by omega), hd _ (by omega), hd _ (by omega)] at hi
          exact hi
      · rw [npF_eq (hd 1 (by omega))] at hq2
        obtain ⟨v, hv, ev⟩ := hq.2 q hq2
        exact ⟨v, by rw [nvF_eq (hd 0 (by omega))]; exact hv, by rw [hd _ (by omega)]; exact ev⟩
    · exact hq
  · exact hq
/-- what a detour leaves: states of 3, parts -/
def samD (F F' : Nat → Int32) : Prop := F' 0 = F 0 ∧ F' 1 = F 1 ∧ ∀ p, p < 12 → F' (63 + 10 * p) = F (63 + 10 * p) ∧ F' (63 + 10 * p + 1) = F (63 + 10 * p + 1) ∧ (F' (63 + 10 * p + 5) = F (63 + 10 * p + 5) ∨ F' (63 + 10 * p + 5) = nI 3)
theorem samD.refl (F : Nat → Int32) : samD F F := ⟨rfl, rfl, fun _ _ => ⟨rfl, rfl, Or.inl rfl⟩⟩
theorem samD.trans {F F' G : Nat → Int32} (h : samD F F') (h2 : samD F' G) : samD F G := by
  refine ⟨h2.1.trans h.1, h2.2.1.trans h.2.1, fun p hp => ⟨(h2.2.2 p hp).1.trans (h.2.2 p hp).1, (h2.2.2 p hp).2.1.trans (h.2.2 p hp).2.1, ?_⟩⟩
  rcases (h2.2.2 p hp).2.2 with e | e
  · rw [e]; exact (h.2.2 p hp).2.2
  · exact Or.inr e
theorem samD.p9 (F : Nat → Int32) (q : Nat) (x : Int32) : samD F (upd F (63 + 10 * q + 9) x) := by
  refine ⟨?_, ?_, fun p _ => ⟨?_, ?_, Or.inl ?_⟩⟩ <;> (rw [upd_at, if_neg (by omega)])
theorem samD.p5 (F : Nat → Int32) (q : Nat) : samD F (upd F (63 + 10 * q + 5) (nI 3)) := by
  refine ⟨by rw [upd_at, if_neg (by omega)], by rw [upd_at, if_neg (by omega)], fun p _ => ⟨by rw [upd_at, if_neg (by omega)], by rw [upd_at, if_neg (by omega)], ?_⟩⟩
  by_cases e : p = q
  · subst e; exact Or.inr (by rw [upd_at, if_pos rfl])
  · exact Or.inl (by rw [upd_at, if_neg (by omega)])
theorem samD.shr (F : Nat → Int32) (p : Nat) (vs k c : Int32) : samD F (shr1 F p vs k c) := by
  unfold shr1
  split
  · split
    · exact samD.p5 F p
    · exact (samD.p5 F p).trans (samD.p9 _ p _)
  · exact (samD.p5 F p).trans (samD.p9 _ p _)
theorem samD.shrL (s vs k c : Int32) : ∀ (n p : Nat) (F : Nat → Int32), samD F (Jvm.Pilot.@@N@@.shrL s vs k c n p F) := by
  intro n
  induction n with
  | zero => intro p F; exact samD.refl F
  | succ n ih =>
    intro p F
    unfold Jvm.Pilot.@@N@@.shrL
    refine samD.trans ?_ (ih (p + 1) _)
    split
    · exact samD.shr F p vs k c
    · exact samD.refl F
theorem samD.givL (s : Int32) : ∀ (n p : Nat) (F : Nat → Int32) (r : Int32), samD F (Jvm.Pilot.@@N@@.givL s n p F r) := by
  intro n
  induction n with
  | zero => intro p F r; exact samD.refl F
  | succ n ih =>
    intro p F r
    unfold Jvm.Pilot.@@N@@.givL
    split
    · refine samD.trans ?_ (ih (p + 1) _ _)
      unfold giv1
      split
      · exact samD.refl F
      · exact samD.p9 F p _
    · exact ih (p + 1) F r
theorem QW.dt {F : Nat → Int32} (hm : npF F ≤ 12) (hq : QW F) (s c : Int32) : QW (dtF F s c) := by
  have hs : samD F (dtF F s c) := by
    unfold dtF
    split
    · split
      · exact samD.refl F
      · exact (samD.shrL s _ _ c _ _ F).trans (samD.givL s _ _ _ _)
    · exact samD.refl F
  obtain ⟨s0, s1, s2⟩ := hs
  refine ⟨hq.1.of (npF_eq s1) (fun p hp x z hi => ?_), fun p hp => ?_⟩
  · obtain ⟨a, b, c⟩ := s2 p (by omega)
    unfold inZ inP at hi ⊢
    rw [a, b] at hi
    rcases c with c | c
    · rw [c] at hi; exact hi
    · rw [c] at hi
      have : ¬ nI 3 = 0 := by decide
      simp [this] at hi
  · rw [npF_eq s1] at hp
    obtain ⟨v, hv, e⟩ := hq.2 p hp
    exact ⟨v, by rw [nvF_eq s0]; exact hv, by rw [(s2 p (by omega)).1]; exact e⟩
theorem QW.new {F : Nat → Int32} {t T : Nat} (h : Good F t T) (hq : QW F) (sp c : Int32) : QW (newF F sp c) := by
  unfold newF
  split
  · split
    · rename_i hl
      obtain ⟨hn, e⟩ := h.nv
      have hm := h.np.1
      have hv : nvF F < 3 := (nI_ltI (by omega) (by decide)).mp (by rw [← e]; exact hl)
      have hd : ∀ i, i ≠ 0 → i < 6 ∨ 63 ≤ i → upd (startV F (nvF F) sp c (F 2)) 0 (F 0 + nI 1) i = F i := fun i h0 hi => by rw [upd_at, if_neg h0, startV_hi _ _ _ _ hv hi]
      have e1 := npF_eq (hd 1 (by decide) (by omega))
      have e0 : nvF (upd (startV F (nvF F) sp c (F 2)) 0 (F 0 + nI 1)) = nvF F + 1 := by
        show (upd (startV F (nvF F) sp c (F 2)) 0 (F 0 + nI 1) 0).toNatClampNeg = _
        rw [upd_at, if_pos rfl, e, nI_add]
        exact nI_clamp (by omega)
      refine ⟨hq.1.of e1 (fun p hp x z hi => ?_), fun p hp => ?_⟩
      · unfold inZ inP at hi ⊢
        rw [hd _ (by omega) (by omega), hd _ (by omega) (by omega), hd _ (by omega) (by omega)] at hi
        exact hi
      · rw [e1] at hp
        obtain ⟨v, hv2, ev⟩ := hq.2 p hp
        exact ⟨v, by rw [e0]; omega, by rw [hd _ (by omega) (by omega)]; exact ev⟩
    · exact hq
  · exact hq
theorem cz_eq {F F' : Nat → Int32} {x z : Int32} (n : Nat) (h : ∀ p, p < n → inZ F' p x z = inZ F p x z) : cz F' x z n = cz F x z n := by
  induction n with
  | zero => rfl
  | succ n ih =>
    unfold cz
    rw [ih (fun p hp => h p (by omega)), h n (by omega)]
theorem QW.ld {F : Nat → Int32} {t T : Nat} (h : Good F t T) (hq : QW F) (x z l a w : Int32) : QW (ldF F x z l a w) := by
  unfold ldF
  split
  · rename_i hb
    split
    · exact hq
    · split
      · rename_i hc
        obtain ⟨hn, e⟩ := h.np
        have hp := ldC_np e hn hc
        simp only [ldB, Bool.and_eq_true] at hb
        obtain ⟨⟨⟨b1, b2⟩, b3⟩, b4⟩ := hb
        have b1' := b1
        obtain ⟨v, k, hv, hk, rfl, rfl, e1, e2⟩ := h.zone b1
        have hvn : v < nvF F := by
          unfold hzS at b1'
          rw [Bool.and_eq_true] at b1'
          obtain ⟨v2, hv2, -, e3, -⟩ := h.van b1'.1
          have := (nI_eqm v v2).mp e3
          have := h.nv.1
          omega
        have hd : ∀ i, i ≠ 1 → i < 63 + 10 * npF F ∨ 63 + 10 * npF F + 10 ≤ i → upd (startP F (npF F) (nI v) (nI k) l a w) 1 (F 1 + nI 1) i = F i := fun i h1 hi => by rw [upd_at, if_neg h1, startP_ne _ _ _ _ _ _ hi]
        have en : npF (upd (startP F (npF F) (nI v) (nI k) l a w) 1 (F 1 + nI 1)) = npF F + 1 := by
          show (upd (startP F (npF F) (nI v) (nI k) l a w) 1 (F 1 + nI 1) 1).toNatClampNeg = _
          rw [upd_at, if_pos rfl, e, nI_add]
          exact nI_clamp (by omega)
        have e0 := nvF_eq (hd 0 (by decide) (by omega))
        have c0 : upd (startP F (npF F) (nI v) (nI k) l a w) 1 (F 1 + nI 1) (63 + 10 * npF F) = nI v := by
          rw [upd_at, if_neg (by omega)]
          unfold startP
          simp only [upd_at]
          repeat (first | rw [if_neg (by omega)] | rw [if_pos True.intro] | rw [if_pos rfl])
        have c1 : upd (startP F (npF F) (nI v) (nI k) l a w) 1 (F 1 + nI 1) (63 + 10 * npF F + 1) = nI k := by
          rw [upd_at, if_neg (by omega)]
          unfold startP
          simp only [upd_at]
          repeat (first | rw [if_neg (by omega)] | rw [if_pos True.intro] | rw [if_pos rfl])
        refine ⟨fun v2 k2 hv2 hk2 => ?_, fun p hp2 => ?_⟩
        · rw [en]
          have hold : cz (upd (startP F (npF F) (nI v) (nI k) l a w) 1 (F 1 + nI 1)) (nI v2) (nI k2) (npF F) = cz F (nI v2) (nI k2) (npF F) := cz_eq _ (fun p hp2 => by
            unfold inZ inP
            rw [hd _ (by omega) (by omega), hd _ (by omega) (by omega), hd _ (by omega) (by omega)])
          have h3 := hq.1 v2 k2 hv2 hk2
          unfold cz
          rw [hold]
          by_cases hi : inZ (upd (startP F (npF F) (nI v) (nI k) l a w) 1 (F 1 + nI 1)) (npF F) (nI v2) (nI k2) = true
          · rw [if_pos hi]
            unfold inZ inP at hi
            rw [c0, c1] at hi
            simp only [Bool.and_eq_true, decide_eq_true_eq] at hi
            have hvv : v = v2 := by have := (nI_eqm v v2).mp hi.1.2; omega
            have hkk : k = k2 := by have := (nI_eqm k k2).mp hi.2; omega
            subst hvv
            subst hkk
            have hc2 := hc
            unfold ldC at hc2
            rw [Bool.and_eq_true, decide_eq_true_eq] at hc2
            have e5 := (pz_cz F (nI v) (nI k) (npF F) 0 0).1
            rw [Nat.zero_add, Nat.zero_add, show cz F (nI v) (nI k) 0 = 0 from rfl, Nat.sub_zero] at e5
            have hlt := hc2.2
            rw [e5] at hlt
            have := (nI_ltI (by omega) (by decide)).mp hlt
            omega
          · rw [if_neg hi]; omega
        · rw [en] at hp2
          rw [e0]
          by_cases e3 : p = npF F
          · subst e3; exact ⟨v, hvn, c0⟩
          · obtain ⟨v2, hv2, ev⟩ := hq.2 p (by omega)
            exact ⟨v2, hv2, by rw [hd _ (by omega) (by omega)]; exact ev⟩
      · exact hq
  · exact hq
/-- a state as it is between two calls -/
def GX (F : Nat → Int32) : Prop := GG F ∧ QW F
theorem GX.num {F : Nat → Int32} (h : GX F) (w x : Int32) : GX (numF F w x) := by
  obtain ⟨⟨t, ht, h⟩, q⟩ := h
  exact ⟨⟨t, ht, h.num w x⟩, q.sam h.np.1 (samP.num F w x)⟩
theorem GX.setv {F : Nat → Int32} (h : GX F) (x sp c : Int32) : GX (vanF F x sp c) := by
  obtain ⟨⟨t, ht, h⟩, q⟩ := h
  exact ⟨⟨t, ht, h.setv x sp c⟩, q.sam h.np.1 (samP.setv h x sp c)⟩
theorem GX.prb {F : Nat → Int32} (h : GX F) (x z m y : Int32) : GX (prbF F x z m y) := by
  obtain ⟨⟨t, ht, h⟩, q⟩ := h
  exact ⟨⟨t, ht, h.prb x z m y⟩, q.sam h.np.1 (samP.prb h x z m y)⟩
theorem GX.rep {F : Nat → Int32} (h : GX F) (x z : Int32) : GX (repF F x z) := by
  obtain ⟨⟨t, ht, h⟩, q⟩ := h
  exact ⟨⟨t, ht, h.rep x z⟩, q.sam h.np.1 (samP.rep h x z)⟩
theorem GX.dr {F : Nat → Int32} (h : GX F) (x y : Int32) : GX (drF F x y) := by
  obtain ⟨⟨t, ht, h⟩, q⟩ := h
  exact ⟨⟨t, ht, h.dr x y⟩, q.sam h.np.1 (samP.dr h x y)⟩
theorem GX.dl {F : Nat → Int32} (h : GX F) (x : Int32) : GX (dlF F x) := by
  obtain ⟨⟨t, ht, h⟩, q⟩ := h
  exact ⟨⟨t, ht, h.dl x⟩, q.dl h x⟩
theorem GX.dt {F : Nat → Int32} (h : GX F) (s c : Int32) : GX (dtF F s c) := by
  obtain ⟨⟨t, ht, h⟩, q⟩ := h
  exact ⟨⟨t, ht, h.dt s c⟩, q.dt h.np.1 s c⟩
theorem GX.new {F : Nat → Int32} (h : GX F) (sp c : Int32) : GX (newF F sp c) := by
  obtain ⟨⟨t, ht, h⟩, q⟩ := h
  exact ⟨⟨t, ht, h.new sp c⟩, q.new h sp c⟩
theorem GX.ld {F : Nat → Int32} (h : GX F) (x z l a w : Int32) : GX (ldF F x z l a w) := by
  obtain ⟨⟨t, ht, h⟩, q⟩ := h
  exact ⟨⟨t, ht, h.ld x z l a w⟩, q.ld h x z l a w⟩
theorem GX.ps {F : Nat → Int32} (h : GX F) (x : Int32) : GX (psF F x) := by
  have hq := h
  obtain ⟨⟨t, ht, hg⟩, q⟩ := h
  exact ⟨hq.1.ps x, q.sam hg.np.1 (samP.ps hg x)⟩
theorem ktM_ne (M : Mm) (R : Int32) {r : Nat} (h : r ≠ 20) : ktM M R r = M r := by
  unfold ktM
  split
  · rfl
  · exact setR_ne _ _ h
def st0 : Nat → Int32 := fun i => if i = 3 then nI 200 else if i = 4 then nI 30 else if i = 5 then nI 3 else nI 0
theorem st0_ok : Good st0 0 (3 * 0) := by
  intro i
  by_cases h3 : i = 3
  · subst h3; exact (⟨by decide, by decide⟩ : bt (-200) 450 (nI 200))
  · by_cases h4 : i = 4
    · subst h4; exact (⟨by decide, by decide⟩ : bt 5 100 (nI 30))
    · by_cases h5 : i = 5
      · subst h5; exact (⟨by decide, by decide⟩ : bt 1 30 (nI 3))
      · have e : st0 i = nI 0 := by unfold st0; rw [if_neg h3, if_neg h4, if_neg h5]
        have hk : kd i ≠ 3 ∧ kd i ≠ 4 ∧ kd i ≠ 5 := by unfold kd; split <;> (try split) <;> (try split) <;> omega
        rw [e]
        revert hk
        generalize kd i = k
        rintro ⟨k3, k4, k5⟩
        unfold okK
        split <;> first
          | exact absurd rfl k3
          | exact absurd rfl k4
          | exact absurd rfl k5
          | trivial
          | exact ⟨0, by decide, rfl⟩
          | exact rfl
          | exact Or.inl rfl
          | exact bt0 (by decide) (by decide)
theorem st0_gx : GX st0 := by
  have hn : npF st0 = 0 := by decide
  refine ⟨⟨0, by decide, st0_ok⟩, fun v z _ _ => ?_, fun p hp => ?_⟩
  · rw [hn]; exact Nat.zero_le _
  · rw [hn] at hp; omega
theorem err_bt {x : Int32} {a b : Int} (h : bt a b x) (ha : -100001 < a) : errS x = false := by
  unfold errS
  have : (-100001) < x := by
    rw [Int32.lt_iff_toInt_lt, show ((-100001) : Int32).toInt = -100001 by decide]
    have := h.1
    omega
  simp [this]
theorem err_nI {k : Nat} (h : k < 2147483648) : errS (nI k) = false := err_bt (a := 0) (b := 2147483647) (bt_nI h (by omega) (by omega)) (by decide)
abbrev Pw : Type := Nat → va_E → Prop
abbrev one (a : Nat) (E : va_E) : Pw := fun q E' => q = a ∧ E' = E
