/-! GOOD: what every cell of a state holds, kind by kind; kept by each edit. -/
def bt (a b : Int) (x : Int32) : Prop := a ≤ x.toInt ∧ x.toInt ≤ b
theorem iadd {a b : Int32} (h1 : -2147483648 ≤ a.toInt + b.toInt) (h2 : a.toInt + b.toInt ≤ 2147483647) : (a + b).toInt = a.toInt + b.toInt := by
  rw [Int32.toInt_add]; exact Int.bmod_eq_of_le (by omega) (by omega)
theorem isub {a b : Int32} (h1 : -2147483648 ≤ a.toInt - b.toInt) (h2 : a.toInt - b.toInt ≤ 2147483647) : (a - b).toInt = a.toInt - b.toInt := by
  rw [Int32.toInt_sub]; exact Int.bmod_eq_of_le (by omega) (by omega)
theorem imul {a b : Int32} (h1 : -2147483648 ≤ a.toInt * b.toInt) (h2 : a.toInt * b.toInt ≤ 2147483647) : (a * b).toInt = a.toInt * b.toInt := by
  rw [Int32.toInt_mul]; exact Int.bmod_eq_of_le (by omega) (by omega)
theorem ineg {a : Int32} (h1 : -2147483648 ≤ -a.toInt) (h2 : -a.toInt ≤ 2147483647) : (-a).toInt = -a.toInt := by
  rw [Int32.toInt_neg]; exact Int.bmod_eq_of_le (by omega) (by omega)
theorem td_pos {a n : Int} (hn : 0 < n) (h : 0 ≤ a) : 0 ≤ a.tdiv n ∧ n * a.tdiv n ≤ a := by
  rw [Int.tdiv_eq_ediv_of_nonneg h]
  exact ⟨Int.ediv_nonneg h (by omega), Int.mul_ediv_self_le (by omega)⟩
theorem td_neg {a n : Int} (hn : 0 < n) (h : a ≤ 0) : a.tdiv n ≤ 0 ∧ a ≤ n * a.tdiv n := by
  have h2 := td_pos (a := -a) hn (by omega)
  rw [Int.neg_tdiv] at h2
  constructor
  · omega
  · have := h2.2; rw [Int.mul_neg] at this; omega
theorem idiv {a b : Int32} (hb : 0 < b.toInt) : (a / b).toInt = a.toInt.tdiv b.toInt := by
  rw [Int32.toInt_div]
  have h1 := Int32.toInt_lt a
  have h2 := Int32.le_toInt a
  refine Int.bmod_eq_of_le ?_ ?_
  · rcases Int.le_total 0 a.toInt with h | h
    · have := td_pos hb h; omega
    · have := td_neg hb h
      have h3 : b.toInt * a.toInt.tdiv b.toInt ≤ a.toInt.tdiv b.toInt := by
        have h5 : (b.toInt - 1) * a.toInt.tdiv b.toInt ≤ 0 := Int.mul_nonpos_of_nonneg_of_nonpos (by omega) this.1
        rw [Int.sub_mul] at h5; omega
      omega
  · rcases Int.le_total 0 a.toInt with h | h
    · have := td_pos hb h
      have h3 : a.toInt.tdiv b.toInt ≤ b.toInt * a.toInt.tdiv b.toInt := by
        have h5 : 0 ≤ (b.toInt - 1) * a.toInt.tdiv b.toInt := Int.mul_nonneg (by omega) this.1
        rw [Int.sub_mul] at h5; omega
      omega
    · have := td_neg hb h; omega
theorem bt_nI {a b : Int} {k : Nat} (hk : k < 2147483648) (h1 : a ≤ k) (h2 : (k : Int) ≤ b) : bt a b (nI k) := by unfold bt; rw [nI_toInt (by omega)]; exact ⟨h1, h2⟩
theorem bt_inn {x lo hi : Int32} {a b : Int} (h : inn x lo hi = true) (ha : lo.toInt = a) (hb : hi.toInt = b) : bt a b x := by
  simp only [inn, Bool.and_eq_true, Bool.not_eq_true', decide_eq_false_iff_not, Int32.lt_iff_toInt_lt] at h
  unfold bt; omega
theorem bt_mono {a b a' b' : Int} {x : Int32} (h : bt a b x) (h1 : a' ≤ a) (h2 : b ≤ b') : bt a' b' x := ⟨Int.le_trans h1 h.1, Int.le_trans h.2 h2⟩
/-- the kind of a cell -/
def kd (i : Nat) : Nat := if i < 6 then i else if i < 63 then (if (i - 6) % 19 < 4 then 6 + (i - 6) % 19 else 10 + ((i - 6) % 19 - 4) % 5) else if i < 183 then 15 + (i - 63) % 10 else 25
def okK (t T : Nat) (k : Nat) (x : Int32) : Prop := match k with
  | 0 => ∃ n, n ≤ 3 ∧ x = nI n
  | 1 => ∃ n, n ≤ 12 ∧ x = nI n
  | 2 => x = nI t
  | 3 => bt (-200) 450 x
  | 4 => bt 5 100 x
  | 5 => bt 1 30 x
  | 6 => bt (-300) 100 x
  | 7 => bt 0 30 x
  | 8 => x = 0 ∨ x = 1
  | 9 => ∃ a, a ≤ t ∧ x = nI a
  | 10 => bt (-300) 450 x
  | 11 => x = nI 0 ∨ x = nI 1 ∨ x = nI 2
  | 12 => bt (-300) 450 x
  | 13 => x = 0 ∨ x = 1
  | 15 => ∃ v, v < 3 ∧ x = nI v
  | 16 => ∃ z, z < 3 ∧ x = nI z
  | 17 => bt (-300) 300 x
  | 18 => bt 0 600 x
  | 19 => bt 0 9999 x
  | 20 => x = nI 0 ∨ x = nI 1 ∨ x = nI 2 ∨ x = nI 3
  | 23 => ∃ k, k ≤ T ∧ x = nI k
  | _ => True
theorem kd_v {v j : Nat} (hv : v < 3) (hj : j < 4) : kd (6 + 19 * v + j) = 6 + j := by
  have e : (6 + 19 * v + j - 6) % 19 = j := by omega
  rw [kd, if_neg (by omega), if_pos (by omega), e, if_pos hj]
theorem kd_z {v z j : Nat} (hv : v < 3) (hz : z < 3) (hj : j < 5) : kd (10 + 19 * v + 5 * z + j) = 10 + j := by
  have e : (10 + 19 * v + 5 * z + j - 6) % 19 = 4 + 5 * z + j := by omega
  rw [kd, if_neg (by omega), if_pos (by omega), e, if_neg (by omega)]
  omega
theorem kd_p {p j : Nat} (hp : p < 12) (hj : j < 10) : kd (63 + 10 * p + j) = 15 + j := by
  have e : (63 + 10 * p + j - 63) % 10 = j := by omega
  rw [kd, if_neg (by omega), if_neg (by omega), if_pos (by omega), e]
theorem kd_v0 {v : Nat} (hv : v < 3) : kd (6 + 19 * v) = 6 := kd_v (j := 0) hv (by decide)
theorem kd_z0 {v z : Nat} (hv : v < 3) (hz : z < 3) : kd (10 + 19 * v + 5 * z) = 10 := kd_z (j := 0) hv hz (by decide)
theorem kd_p0 {p : Nat} (hp : p < 12) : kd (63 + 10 * p) = 15 := kd_p (j := 0) hp (by decide)
def Good (F : Nat → Int32) (t T : Nat) : Prop := ∀ i, okK t T (kd i) (F i)
theorem Good.put {F : Nat → Int32} {t T i : Nat} {x : Int32} (h : Good F t T) (k : Nat) (hk : kd i = k) (hx : okK t T k x) : Good (upd F i x) t T := by
  intro j
  rw [upd_at]
  split
  · rename_i e; subst e; rw [hk]; exact hx
  · exact h j
theorem Good.cell {F : Nat → Int32} {t T : Nat} (h : Good F t T) {i k : Nat} (hk : kd i = k) : okK t T k (F i) := hk ▸ h i
theorem Good.n0 {F : Nat → Int32} {t T : Nat} (h : Good F t T) : ∃ n, n ≤ 3 ∧ F 0 = nI n := h 0
theorem Good.n1 {F : Nat → Int32} {t T : Nat} (h : Good F t T) : ∃ n, n ≤ 12 ∧ F 1 = nI n := h 1
theorem Good.n2 {F : Nat → Int32} {t T : Nat} (h : Good F t T) : F 2 = nI t := h 2
theorem Good.out {F : Nat → Int32} {t T : Nat} (h : Good F t T) : bt (-200) 450 (F 3) := h 3
theorem Good.dif {F : Nat → Int32} {t T : Nat} (h : Good F t T) : bt 5 100 (F 4) := h 4
theorem Good.pat {F : Nat → Int32} {t T : Nat} (h : Good F t T) : bt 1 30 (F 5) := h 5
theorem Good.set {F : Nat → Int32} {t T : Nat} (h : Good F t T) {v : Nat} (hv : v < 3) : bt (-300) 100 (F (6 + 19 * v)) := h.cell (kd_v0 hv)
theorem Good.cool {F : Nat → Int32} {t T : Nat} (h : Good F t T) {v : Nat} (hv : v < 3) : bt 0 30 (F (6 + 19 * v + 1)) := h.cell (kd_v (j := 1) hv (by decide))
theorem Good.door {F : Nat → Int32} {t T : Nat} (h : Good F t T) {v : Nat} (hv : v < 3) : F (6 + 19 * v + 2) = 0 ∨ F (6 + 19 * v + 2) = 1 := h.cell (kd_v (j := 2) hv (by decide))
theorem Good.since {F : Nat → Int32} {t T : Nat} (h : Good F t T) {v : Nat} (hv : v < 3) : ∃ a, a ≤ t ∧ F (6 + 19 * v + 3) = nI a := h.cell (kd_v (j := 3) hv (by decide))
theorem Good.heat {F : Nat → Int32} {t T : Nat} (h : Good F t T) {v z : Nat} (hv : v < 3) (hz : z < 3) : bt (-300) 450 (F (10 + 19 * v + 5 * z)) := h.cell (kd_z0 hv hz)
theorem Good.mode {F : Nat → Int32} {t T : Nat} (h : Good F t T) {v z : Nat} (hv : v < 3) (hz : z < 3) : F (10 + 19 * v + 5 * z + 1) = nI 0 ∨ F (10 + 19 * v + 5 * z + 1) = nI 1 ∨ F (10 + 19 * v + 5 * z + 1) = nI 2 := h.cell (kd_z (j := 1) hv hz (by decide))
theorem Good.bys {F : Nat → Int32} {t T : Nat} (h : Good F t T) {v z : Nat} (hv : v < 3) (hz : z < 3) : bt (-300) 450 (F (10 + 19 * v + 5 * z + 2)) := h.cell (kd_z (j := 2) hv hz (by decide))
theorem Good.found {F : Nat → Int32} {t T : Nat} (h : Good F t T) {v z : Nat} (hv : v < 3) (hz : z < 3) : F (10 + 19 * v + 5 * z + 3) = 0 ∨ F (10 + 19 * v + 5 * z + 3) = 1 := h.cell (kd_z (j := 3) hv hz (by decide))
theorem Good.pv {F : Nat → Int32} {t T : Nat} (h : Good F t T) {p : Nat} (hp : p < 12) : ∃ v, v < 3 ∧ F (63 + 10 * p) = nI v := h.cell (kd_p0 hp)
theorem Good.pz {F : Nat → Int32} {t T : Nat} (h : Good F t T) {p : Nat} (hp : p < 12) : ∃ z, z < 3 ∧ F (63 + 10 * p + 1) = nI z := h.cell (kd_p (j := 1) hp (by decide))
theorem Good.allow {F : Nat → Int32} {t T : Nat} (h : Good F t T) {p : Nat} (hp : p < 12) : bt 0 600 (F (63 + 10 * p + 3)) := h.cell (kd_p (j := 3) hp (by decide))
theorem Good.value {F : Nat → Int32} {t T : Nat} (h : Good F t T) {p : Nat} (hp : p < 12) : bt 0 9999 (F (63 + 10 * p + 4)) := h.cell (kd_p (j := 4) hp (by decide))
theorem Good.state {F : Nat → Int32} {t T : Nat} (h : Good F t T) {p : Nat} (hp : p < 12) : F (63 + 10 * p + 5) = nI 0 ∨ F (63 + 10 * p + 5) = nI 1 ∨ F (63 + 10 * p + 5) = nI 2 ∨ F (63 + 10 * p + 5) = nI 3 := h.cell (kd_p (j := 5) hp (by decide))
theorem Good.told {F : Nat → Int32} {t T : Nat} (h : Good F t T) {p : Nat} (hp : p < 12) : ∃ k, k ≤ T ∧ F (63 + 10 * p + 8) = nI k := h.cell (kd_p (j := 8) hp (by decide))
theorem Good.bok {F : Nat → Int32} {t T : Nat} (h : Good F t T) : BoolOK F := ⟨fun _ hv => h.door hv, fun _ _ hv hz => h.found hv hz⟩
theorem Good.zok {F : Nat → Int32} {t T : Nat} (h : Good F t T) : zOK F := fun _ hp => h.pz hp
theorem Good.vok {F : Nat → Int32} {t T : Nat} (h : Good F t T) : vOK F := fun _ hp => h.pv hp
theorem Good.nv {F : Nat → Int32} {t T : Nat} (h : Good F t T) : nvF F ≤ 3 ∧ F 0 = nI (nvF F) := by
  obtain ⟨n, hn, e⟩ := h.n0
  have : nvF F = n := by unfold nvF; rw [e]; exact nI_clamp (by omega)
  rw [this]; exact ⟨hn, e⟩
theorem Good.np {F : Nat → Int32} {t T : Nat} (h : Good F t T) : npF F ≤ 12 ∧ F 1 = nI (npF F) := by
  obtain ⟨n, hn, e⟩ := h.n1
  have : npF F = n := by unfold npF; rw [e]; exact nI_clamp (by omega)
  rw [this]; exact ⟨hn, e⟩
theorem Good.sok {F : Nat → Int32} {t T : Nat} (h : Good F t T) : sOK F (nvF F) (npF F) := ⟨h.nv.2, h.np.2, h.zok⟩
theorem Good.mono {F : Nat → Int32} {t T : Nat} (h : Good F t T) {T' : Nat} (hT : T ≤ T') : Good F t T' := by
  intro i
  have := h i
  revert this
  generalize kd i = k
  intro this
  unfold okK at this ⊢
  split at this <;> first | exact this | trivial | (obtain ⟨a, b, c⟩ := this; exact ⟨a, by omega, c⟩)
theorem Good.tick {F : Nat → Int32} {t T : Nat} (h : Good F t T) : Good (upd F 2 (nI (t + 1))) (t + 1) T := by
  intro i
  rw [upd_at]
  by_cases e : i = 2
  · subst e; rw [if_pos rfl]; exact rfl
  · rw [if_neg e]
    have := h i
    have hk : kd i ≠ 2 := by unfold kd; split <;> (try split) <;> (try split) <;> omega
    revert this hk
    generalize kd i = k
    intro this hk
    unfold okK at this ⊢
    split at this <;> first | exact absurd rfl hk | exact this | trivial | (obtain ⟨a, b, c⟩ := this; exact ⟨a, by omega, c⟩)
theorem i100 : (nI 100).toInt = 100 := by decide
theorem i10 : (nI 10).toInt = 10 := by decide
theorem i1 : (nI 1).toInt = 1 := by decide
theorem warm_bt {t o : Int32} (k : Nat) (hk : k < 3) (ht : bt (-300) 450 t) (ho : bt (-200) 450 o) : bt (-300) 450 (t + (o - t) * warmF k / nI 100) := by
  unfold bt at *
  have hw : (warmF k).toInt = 3 ∨ (warmF k).toInt = 6 ∨ (warmF k).toInt = 12 := by
    rcases (by omega : k = 0 ∨ k = 1 ∨ k = 2) with rfl | rfl | rfl
    · exact Or.inl (by decide)
    · exact Or.inr (Or.inl (by decide))
    · exact Or.inr (Or.inr (by decide))
  have h1 : (o - t).toInt = o.toInt - t.toInt := isub (by omega) (by omega)
  have h2 : ((o - t) * warmF k).toInt = (o.toInt - t.toInt) * (warmF k).toInt := by
    have := @imul (o - t) (warmF k)
    rw [h1] at this
    refine this ?_ ?_ <;> rcases hw with w | w | w <;> rw [w] <;> omega
  have h3 := @idiv ((o - t) * warmF k) (nI 100) (by rw [i100]; decide)
  rw [h2, i100] at h3
  have hp := @td_pos ((o.toInt - t.toInt) * (warmF k).toInt) 100 (by decide)
  have hn := @td_neg ((o.toInt - t.toInt) * (warmF k).toInt) 100 (by decide)
  rw [← h3] at hp hn
  have h4 : -300 - t.toInt ≤ ((o - t) * warmF k / nI 100).toInt ∧ ((o - t) * warmF k / nI 100).toInt ≤ 450 - t.toInt := by
    rcases hw with w | w | w <;> rw [w] at hp hn <;> omega
  rw [iadd (by omega) (by omega)]
  omega
theorem cool_bt {t sp c : Int32} (ht : bt (-300) 450 t) (hs : bt (-300) 100 sp) (hc : bt 0 30 c) : bt (-300) 450 (coolF t sp c) := by
  unfold coolF bt at *
  simp only [Int32.le_iff_toInt_le]
  split
  · split
    · exact ht
    · rw [iadd (by rw [i1]; omega) (by rw [i1]; omega), i1]; omega
  · have h1 : (t - c).toInt = t.toInt - c.toInt := isub (by omega) (by omega)
    unfold mxS
    simp only [Int32.lt_iff_toInt_lt]
    split
    · omega
    · omega
theorem Good.kheatZ {F : Nat → Int32} {t T v z : Nat} {o : Int32} (h : Good F t T) (hv : v < 3) (hz : z < 3) (ho : bt (-200) 450 o) : Good (heatZ F v z o) t T := by
  refine h.put 10 (kd_z0 hv hz) ?_
  unfold heat1
  split
  · exact cool_bt (h.heat hv hz) (h.set hv) (h.cool hv)
  · exact warm_bt z hz (h.heat hv hz) ho
theorem mix_bt {a b : Int32} (ha : bt (-300) 450 a) (hb : bt (-300) 450 b) : bt (-300) 450 (a - (a - b) / nI 10) ∧ bt (-300) 450 (b + (a - b) / nI 10) := by
  unfold bt at *
  have h1 : (a - b).toInt = a.toInt - b.toInt := isub (by omega) (by omega)
  have h3 := @idiv (a - b) (nI 10) (by rw [i10]; decide)
  rw [h1, i10] at h3
  have hp := @td_pos (a.toInt - b.toInt) 10 (by decide)
  have hn := @td_neg (a.toInt - b.toInt) 10 (by decide)
  rw [← h3] at hp hn
  rw [isub (by omega) (by omega), iadd (by omega) (by omega)]
  omega
theorem Good.kmix1 {F : Nat → Int32} {t T v z : Nat} (h : Good F t T) (hv : v < 3) (hz : z < 2) : Good (mix1 F v z) t T := by
  have hm := mix_bt (h.heat hv (show z < 3 by omega)) (h.heat hv (show z + 1 < 3 by omega))
  exact (h.put 10 (kd_z0 hv (by omega)) hm.1).put 10 (kd_z0 hv (by omega)) hm.2
theorem Good.kmid {F : Nat → Int32} {t T v : Nat} (h : Good F t T) (hv : v < 3) : Good (midF F v) t T :=
  ((((h.kheatZ hv (by decide) h.out).kheatZ hv (by decide) h.out).kheatZ hv (by decide) h.out).kmix1 hv (by decide)).kmix1 hv (by decide)
theorem Good.kfind1 {F : Nat → Int32} {t T v z : Nat} {D P : Int32} (h : Good F t T) (hv : v < 3) (hz : z < 3) : Good (find1 F v z D P) t T := by
  unfold find1
  split
  · exact (h.put 14 (kd_z (j := 4) hv hz (by decide)) trivial).put 13 (kd_z (j := 3) hv hz (by decide)) (Or.inr rfl)
  · exact h.put 14 (kd_z (j := 4) hv hz (by decide)) trivial
theorem Good.kfindA {F : Nat → Int32} {t T v : Nat} {D P : Int32} (h : Good F t T) (hv : v < 3) : Good (findA F v D P) t T :=
  ((h.kfind1 hv (by decide)).kfind1 hv (by decide)).kfind1 hv (by decide)
theorem Good.kwarmP {F : Nat → Int32} {t T v p z : Nat} (h : Good F t T) (hp : p < 12) : Good (warmP F v p z) t T := by
  unfold warmP
  split
  · exact h
  · split
    · exact h.put 22 (kd_p (j := 7) hp (by decide)) trivial
    · exact h.put 21 (kd_p (j := 6) hp (by decide)) trivial
theorem Good.kaddP {F : Nat → Int32} {t T v p z : Nat} (h : Good F t (T + 1)) (hp : p < 12) (hk : ∃ k, k ≤ T ∧ F (63 + 10 * p + 8) = nI k) : Good (addP F v p z) t (T + 1) := by
  unfold addP tellP
  split
  · exact h.kwarmP hp
  · refine (h.kwarmP hp).put 23 (kd_p (j := 8) hp (by decide)) ?_
    obtain ⟨k, hk, e⟩ := hk
    rw [warmP_ne _ (by omega) (by omega), e, nI_add]
    exact ⟨k + 1, by omega, rfl⟩
theorem Good.kaddL {t T v : Nat} : ∀ (n p : Nat) (F : Nat → Int32), p + n ≤ 12 → Good F t (T + 1) → (∀ q, p ≤ q → q < 12 → ∃ k, k ≤ T ∧ F (63 + 10 * q + 8) = nI k) → Good (addL F v n p) t (T + 1) := by
  intro n
  induction n with
  | zero => intro p F _ h _; exact h
  | succ n ih =>
    intro p F hp h hk
    unfold addL
    refine ih (p + 1) _ (by omega) ?_ ?_
    · split
      · exact h.kaddP (by omega) (hk p (by omega) (by omega))
      · exact h
    · intro q hq hq2
      split
      · rw [addP_ne _ (by omega) (by omega) (by omega)]; exact hk q (by omega) hq2
      · exact hk q (by omega) hq2
theorem Good.kmin {F : Nat → Int32} {t T v : Nat} (h : Good F t T) (hv : v < 3) : Good (minF F v) t (T + 1) := by
  unfold minF
  refine Good.kaddL _ _ _ (by have := h.np; omega) (((h.kmid hv).kfindA hv).mono (by omega)) ?_
  intro q _ hq
  rw [findA_hi _ _ _ hv (by omega), midF_hi _ hv (by omega)]
  exact h.told hq
