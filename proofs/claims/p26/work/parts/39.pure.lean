/-! PURE: passing minutes as a function of the state alone; what keeps a state good. -/
theorem cVans_T {q : Nat} (hq : q < 9) (t : Nat) : ∀ (n v : Nat) (M : Mm), cVans q t n v M q = vsF n v (M q) := by
  intro n
  induction n with
  | zero => intro v M; rfl
  | succ n ih => intro v M; unfold cVans vsF; rw [ih, cVan_q _ _ _ _ hq]
theorem cMin_T {q : Nat} (hq : q < 9) (nv t : Nat) (M : Mm) : cMin q nv t M q = minT nv t (M q) := by
  unfold cMin minT
  rw [cVans_T hq, setR_same]
def passF (nv : Nat) : Nat → Nat → (Nat → Int32) → (Nat → Int32)
  | 0, _, F => F
  | n + 1, t, F => passF nv n (t + 1) (minT nv t F)
theorem cPass_T {q : Nat} (hq : q < 9) (nv : Nat) : ∀ (n t : Nat) (M : Mm), cPass q nv n t M q = passF nv n t (M q) := by
  intro n
  induction n with
  | zero => intro t M; rfl
  | succ n ih => intro t M; unfold cPass passF; rw [ih, cMin_T hq]
theorem mPass_T (nv : Nat) : ∀ (n t : Nat) (M : Mm), mPass nv n t M 50 = passF nv n t (M 50) := by
  intro n
  induction n with
  | zero => intro t M; rfl
  | succ n ih => intro t M; unfold mPass passF; rw [ih, mMin_T]
theorem Good.vs {t : Nat} : ∀ (n v : Nat) (F : Nat → Int32) (T : Nat), v + n ≤ 3 → Good F t T → Good (vsF n v F) t (T + n) := by
  intro n
  induction n with
  | zero => intro v F T _ h; exact h
  | succ n ih =>
    intro v F T hv h
    have := ih (v + 1) _ (T + 1) (by omega) (h.kmin (show v < 3 by omega))
    rw [show T + (n + 1) = T + 1 + n by omega]
    exact this
theorem Good.minT {F : Nat → Int32} {t nv : Nat} (h : Good F t (3 * t)) (hn : nv ≤ 3) : Good (Jvm.Pilot.@@N@@.minT nv t F) (t + 1) (3 * (t + 1)) := by
  have := (Good.vs nv 0 _ (3 * t) (by omega) (h.tick))
  exact this.mono (by omega)
theorem Good.pass {nv : Nat} (hn : nv ≤ 3) : ∀ (n t : Nat) (F : Nat → Int32), Good F t (3 * t) → Good (passF nv n t F) (t + n) (3 * (t + n)) := by
  intro n
  induction n with
  | zero => intro t F h; exact h
  | succ n ih =>
    intro t F h
    have := ih (t + 1) _ (h.minT hn)
    rw [show t + (n + 1) = t + 1 + n by omega]
    exact this
/-- a state as it may be between two calls -/
def GG (F : Nat → Int32) : Prop := ∃ t, t ≤ 600 ∧ Good F t (3 * t)
theorem bt0 {a b : Int} (h1 : a ≤ 0) (h2 : 0 ≤ b) : bt a b (nI 0) := bt_nI (by decide) h1 h2
theorem Good.mend {F : Nat → Int32} {t T v z : Nat} (h : Good F t T) (hv : v < 3) (hz : z < 3) : Good (mendF F (10 + 19 * v + 5 * z)) t T :=
  (((h.put 11 (kd_z (j := 1) hv hz (by decide)) (Or.inl rfl)).put 12 (kd_z (j := 2) hv hz (by decide)) (bt0 (by decide) (by decide))).put 13 (kd_z (j := 3) hv hz (by decide)) (Or.inl rfl)).put 14 (kd_z (j := 4) hv hz (by decide)) trivial
theorem Good.van {F : Nat → Int32} {t T : Nat} (h : Good F t T) {x : Int32} (hx : hvS F x = true) : ∃ v, v < nvF F ∧ v < 3 ∧ x = nI v ∧ vN x = v := by
  obtain ⟨hn, e⟩ := h.nv
  obtain ⟨v, hv, rfl⟩ := hvS_nI hx e (by omega)
  exact ⟨v, hv, by omega, rfl, vN_nI (by omega)⟩
theorem Good.zone {F : Nat → Int32} {t T : Nat} (h : Good F t T) {x z : Int32} (hx : hzS F x z = true) : ∃ v k, v < 3 ∧ k < 3 ∧ x = nI v ∧ z = nI k ∧ vN x = v ∧ vN z = k := by
  obtain ⟨hn, e⟩ := h.nv
  obtain ⟨v, k, hv, hk, rfl, rfl⟩ := hzS_nI hx e (by omega)
  exact ⟨v, k, by omega, hk, rfl, rfl, vN_nI (by omega), vN_nI (by omega)⟩
theorem Good.pal {F : Nat → Int32} {t T : Nat} (h : Good F t T) {x : Int32} (hx : hpS F x = true) : ∃ p, p < npF F ∧ p < 12 ∧ x = nI p ∧ vN x = p := by
  obtain ⟨hn, e⟩ := h.np
  obtain ⟨p, hp, rfl⟩ := hpS_nI hx e (by omega)
  exact ⟨p, hp, by omega, rfl, vN_nI (by omega)⟩
theorem Good.rep {F : Nat → Int32} {t T : Nat} (h : Good F t T) (x z : Int32) : Good (repF F x z) t T := by
  unfold repF
  split
  · rename_i hx
    obtain ⟨v, k, hv, hk, rfl, rfl, e1, e2⟩ := h.zone hx
    rw [e1, e2]; exact h.mend hv hk
  · exact h
theorem inn01 {y : Int32} (h : inn y (nI 0) (nI 1) = true) : y = 0 ∨ y = 1 := by
  obtain ⟨k, -, hk, rfl⟩ := inn_nI (a := 0) (b := 1) h (by decide)
  rcases (by omega : k = 0 ∨ k = 1) with rfl | rfl
  · exact Or.inl rfl
  · exact Or.inr rfl
theorem Good.dr {F : Nat → Int32} {t T : Nat} (h : Good F t T) (x y : Int32) : Good (drF F x y) t T := by
  unfold drF
  split
  · rename_i hx
    unfold drB at hx
    rw [Bool.and_eq_true] at hx
    obtain ⟨v, -, hv, rfl, e⟩ := h.van hx.1
    split
    · exact h
    · rw [e]; exact h.put 8 (kd_v (j := 2) hv (by decide)) (inn01 hx.2)
  · exact h
theorem Good.dl {F : Nat → Int32} {t T : Nat} (h : Good F t T) (x : Int32) : Good (dlF F x) t T := by
  unfold dlF
  split
  · rename_i hx
    obtain ⟨p, -, hp, rfl, e⟩ := h.pal hx
    split
    · rw [e]
      refine h.put 20 (kd_p (j := 5) hp (by decide)) ?_
      unfold dlv
      split
      · exact Or.inr (Or.inr (Or.inl rfl))
      · exact Or.inr (Or.inl rfl)
    · exact h
  · exact h
/-- what passing does to the state -/
def psF (F : Nat → Int32) (x : Int32) : Nat → Int32 := if inn x (nI 1) (nI 300) then (if psB F x then passF (nvF F) (vN x) (vN (F 2)) F else F) else F
theorem psM_T {q : Nat} (hq : q < 9) (M : Mm) (x : Int32) : psM q M x q = psF (M q) x := by
  unfold psM psF
  split
  · split
    · exact cPass_T hq _ _ _ _
    · rfl
  · rfl
theorem mpsM_T (M : Mm) (x : Int32) : mpsM M x 50 = psF (M 50) x := by
  unfold mpsM psF
  split
  · split
    · exact mPass_T _ _ _ _
    · rfl
  · rfl
theorem GG.ps {F : Nat → Int32} (h : GG F) (x : Int32) : GG (psF F x) := by
  obtain ⟨t, ht, h⟩ := h
  unfold psF
  split
  · rename_i hx
    split
    · rename_i hb
      obtain ⟨m, hm1, hm3, rfl⟩ := inn_nI (a := 1) (b := 300) hx (by decide)
      have e2 : vN (F 2) = t := by rw [h.n2]; exact vN_nI (by omega)
      rw [e2, vN_nI (by omega)]
      unfold psB at hb
      rw [decide_eq_true_eq, h.n2, nI_add] at hb
      have : t + m ≤ 600 := (nI_leI (by omega) (by decide)).mp hb
      exact ⟨t + m, this, h.pass h.nv.1 _ _ _⟩
    · exact ⟨t, ht, h⟩
  · exact ⟨t, ht, h⟩
theorem GG.rep {F : Nat → Int32} (h : GG F) (x z : Int32) : GG (repF F x z) := by obtain ⟨t, ht, h⟩ := h; exact ⟨t, ht, h.rep x z⟩
theorem GG.dr {F : Nat → Int32} (h : GG F) (x z : Int32) : GG (drF F x z) := by obtain ⟨t, ht, h⟩ := h; exact ⟨t, ht, h.dr x z⟩
theorem GG.dl {F : Nat → Int32} (h : GG F) (x : Int32) : GG (dlF F x) := by obtain ⟨t, ht, h⟩ := h; exact ⟨t, ht, h.dl x⟩
/-- what a command does to the state -/
def exF (F : Nat → Int32) (c f s : Int32) : Nat → Int32 := if c = nI 99 then drF F f (nI 0) else if c = nI 100 then dlF F f else if c = nI 111 then drF F f (nI 1) else if c = nI 119 then psF F f else repF F f s
theorem exM_T (M : Mm) (c f s : Int32) : exM M c f s 0 = exF (M 0) c f s := by
  unfold exM exF
  split
  · exact setR_same _ _ _
  · split
    · exact setR_same _ _ _
    · split
      · exact setR_same _ _ _
      · split
        · exact psM_T (by decide) _ _
        · exact setR_same _ _ _
theorem GG.ex {F : Nat → Int32} (h : GG F) (c f s : Int32) : GG (exF F c f s) := by
  unfold exF
  split
  · exact h.dr _ _
  · split
    · exact h.dl _
    · split
      · exact h.dr _ _
      · split
        · exact h.ps _
        · exact h.rep _ _
theorem cVan_ne (q t : Nat) (M : Mm) (v : Nat) {r : Nat} (h : r < 30) (hq : r ≠ q) : cVan q t M v r = M r := by
  unfold cVan; rw [histW_ne _ h, setR_ne _ _ hq]
theorem hw1_hi (M : Mm) {q v t z r : Nat} (hv : v < 3) (hz : z < 3) (h : 48 ≤ r) : hw1 M q v t z r = M r := by
  unfold hw1; rw [wr_rne _ _ _ (by omega), wr_rne _ _ _ (by omega)]
theorem cVan_hi (q t : Nat) (M : Mm) (v : Nat) {r : Nat} (hv : v < 3) (h : 48 ≤ r) (hq : r ≠ q) : cVan q t M v r = M r := by
  unfold cVan histW; rw [hw1_hi _ hv (by decide) h, hw1_hi _ hv (by decide) h, hw1_hi _ hv (by decide) h, setR_ne _ _ hq]
theorem cVans_ne {q t r : Nat} (h : r < 30 ∨ 48 ≤ r) (hq : r ≠ q) : ∀ (n v : Nat) (M : Mm), v + n ≤ 3 → cVans q t n v M r = M r := by
  intro n
  induction n with
  | zero => intro v M _; rfl
  | succ n ih =>
    intro v M hv
    unfold cVans
    rw [ih _ _ (by omega)]
    rcases h with h | h
    · exact cVan_ne _ _ _ _ h hq
    · exact cVan_hi _ _ _ _ (by omega) h hq
theorem cPass_ne {q nv r : Nat} (hn : nv ≤ 3) (h : r < 30 ∨ 48 ≤ r) (hq : r ≠ q) : ∀ (n t : Nat) (M : Mm), cPass q nv n t M r = M r := by
  intro n
  induction n with
  | zero => intro t M; rfl
  | succ n ih =>
    intro t M
    unfold cPass
    rw [ih]
    unfold cMin
    rw [cVans_ne h hq _ _ _ (by omega), setR_ne _ _ hq]
theorem psM_ne {q r : Nat} (M : Mm) (x : Int32) (hn : nvF (M q) ≤ 3) (h : r < 30 ∨ 48 ≤ r) (hq : r ≠ q) : psM q M x r = M r := by
  unfold psM
  split
  · split
    · exact cPass_ne hn h hq _ _ _
    · rfl
  · rfl
theorem exM_ne {M : Mm} (c f s : Int32) (hn : nvF (M 0) ≤ 3) {r : Nat} (h : r < 30 ∨ 48 ≤ r) (hq : r ≠ 0) : exM M c f s r = M r := by
  unfold exM
  split
  · exact setR_ne _ _ hq
  · split
    · exact setR_ne _ _ hq
    · split
      · exact setR_ne _ _ hq
      · split
        · exact psM_ne _ _ hn h hq
        · exact setR_ne _ _ hq
