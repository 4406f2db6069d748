/-! SAME: both sides pass minutes alike. -/
def vsN : Nat → Nat → (Nat → Int32) → Int32 → Int32
  | 0, _, _, a => a
  | n + 1, v, F, a => vsN n (v + 1) (minF F v) (a + minN F v)
theorem vsN_add : ∀ (n v : Nat) (F : Nat → Int32) (a : Int32), vsN n v F a = a + vsN n v F (nI 0) := by
  intro n
  induction n with
  | zero => intro v F a; show a = a + nI 0; rw [nI_0, Int32.add_zero]
  | succ n ih =>
    intro v F a
    unfold vsN
    rw [ih _ _ (a + minN F v), ih _ _ (nI 0 + minN F v), nI_0, Int32.zero_add, Int32.add_assoc]
theorem cVansN_T {q : Nat} (hq : q < 9) (t : Nat) : ∀ (n v : Nat) (M : Mm) (a : Int32), cVansN q t n v M a = vsN n v (M q) a := by
  intro n
  induction n with
  | zero => intro v M a; rfl
  | succ n ih => intro v M a; unfold cVansN vsN; rw [ih, cVan_q _ _ _ _ hq]
theorem mVansN_T (r : Bool) (t : Nat) : ∀ (n v : Nat) (M : Mm) (a : Int32), mVansN r t n v M a = vsN n v (M 50) a := by
  intro n
  induction n with
  | zero => intro v M a; rfl
  | succ n ih => intro v M a; unfold mVansN vsN; rw [ih, mVan_50]
def passN (nv : Nat) : Nat → Nat → (Nat → Int32) → Int32 → Int32
  | 0, _, _, a => a
  | n + 1, t, F, a => passN nv n (t + 1) (minT nv t F) (vsN nv 0 (upd F 2 (nI (t + 1))) a)
theorem cPassN_T {q : Nat} (hq : q < 9) (nv : Nat) : ∀ (n t : Nat) (M : Mm) (a : Int32), cPassN q nv n t M a = passN nv n t (M q) a := by
  intro n
  induction n with
  | zero => intro t M a; rfl
  | succ n ih =>
    intro t M a
    unfold cPassN passN
    rw [ih, cMin_T hq]
    unfold cMinN
    rw [cVansN_T hq, setR_same]
theorem mPassN_T (nv : Nat) : ∀ (n t : Nat) (M : Mm) (a : Int32), mPassN nv n t M a = passN nv n t (M 50) a := by
  intro n
  induction n with
  | zero => intro t M a; rfl
  | succ n ih =>
    intro t M a
    unfold mPassN passN
    rw [ih, mMin_T]
    unfold mMinN
    rw [mVansN_T, setR_same, ← vsN_add]
/-- what passing answers -/
def psN (F : Nat → Int32) (x : Int32) : Int32 := if inn x (nI 1) (nI 300) then (if psB F x then passN (nvF F) (vN x) (vN (F 2)) F (nI 0) else (-100003)) else (-100001)
theorem psR_T {q : Nat} (hq : q < 9) (M : Mm) (x : Int32) : psR q M x = psN (M q) x := by unfold psR psN; rw [cPassN_T hq]
theorem mpsR_T (M : Mm) (x : Int32) : mpsR M x = psN (M 50) x := by unfold mpsR psN; rw [mPassN_T]
theorem fndN_nI (F : Nat → Int32) (v z : Nat) (D P : Int32) (a : Nat) : ∃ b, b ≤ a + 1 ∧ a ≤ b ∧ fndN F v z D P (nI a) = nI b := by
  unfold fndN
  split
  · exact ⟨a + 1, by omega, by omega, nI_add _ _⟩
  · exact ⟨a, by omega, by omega, rfl⟩
theorem minN_nI (F : Nat → Int32) (v : Nat) : ∃ b, b ≤ 3 ∧ minN F v = nI b := by
  unfold minN fndA
  obtain ⟨b1, h1, -, e1⟩ := fndN_nI (midF F v) v 0 (F 4) (F 5) 0
  rw [e1]
  obtain ⟨b2, h2, -, e2⟩ := fndN_nI (find1 (midF F v) v 0 (F 4) (F 5)) v 1 (F 4) (F 5) b1
  rw [e2]
  obtain ⟨b3, h3, -, e3⟩ := fndN_nI (find1 (find1 (midF F v) v 0 (F 4) (F 5)) v 1 (F 4) (F 5)) v 2 (F 4) (F 5) b2
  rw [e3]
  exact ⟨b3, by omega, rfl⟩
theorem vsN_nI : ∀ (n v : Nat) (F : Nat → Int32) (a : Nat), ∃ b, b ≤ a + 3 * n ∧ vsN n v F (nI a) = nI b := by
  intro n
  induction n with
  | zero => intro v F a; exact ⟨a, by omega, rfl⟩
  | succ n ih =>
    intro v F a
    unfold vsN
    obtain ⟨b, hb, e⟩ := minN_nI F v
    rw [e, nI_add]
    obtain ⟨d, hd, e2⟩ := ih (v + 1) (minF F v) (a + b)
    exact ⟨d, by omega, e2⟩
theorem passN_nI {nv : Nat} (hn : nv ≤ 3) : ∀ (n t : Nat) (F : Nat → Int32) (a : Nat), ∃ b, b ≤ a + 9 * n ∧ passN nv n t F (nI a) = nI b := by
  intro n
  induction n with
  | zero => intro t F a; exact ⟨a, by omega, rfl⟩
  | succ n ih =>
    intro t F a
    unfold passN
    obtain ⟨b, hb, e⟩ := vsN_nI nv 0 (upd F 2 (nI (t + 1))) a
    rw [e]
    obtain ⟨d, hd, e2⟩ := ih (t + 1) (minT nv t F) b
    exact ⟨d, by omega, e2⟩
/-- the class's log and the reference's are the same -/
def LQ (M M' : Mm) : Prop := ∀ v z k j, v < 3 → z < 3 → k < 2 → 1 ≤ j → j ≤ 600 → M' 54 (18 * (j - 1) + 6 * v + 2 * z + k) = hrow M v z k j
theorem hw1_at (M : Mm) (q v t z r j : Nat) (hq : q < 30) : hw1 M q v t z r j = if r = 30 + 9 * 1 + (v * 3 + z) ∧ j = t then toldF (M q) v z else if r = 30 + 9 * 0 + (v * 3 + z) ∧ j = t then M q (10 + 19 * v + 5 * z) else M r j := by
  rfl
theorem lw1_at (M : Mm) (v t z i : Nat) : lw1 M v t z 54 i = if i = 18 * (t - 1) + 6 * v + 2 * z + 1 then toldF (M 50) v z else if i = 18 * (t - 1) + 6 * v + 2 * z then M 50 (10 + 19 * v + 5 * z) else M 54 i := by
  unfold lw1 wr
  simp
theorem lw1_50 (M : Mm) (v t z : Nat) : lw1 M v t z 50 = M 50 := by unfold lw1; rw [wr_rne _ _ _ (by decide), wr_rne _ _ _ (by decide)]
theorem LQ.van {M M' : Mm} (h : LQ M M') (he : M' 50 = M 0) {w t : Nat} (hw : w < 3) (ht1 : 1 ≤ t) (ht : t ≤ 600) : LQ (cVan 0 t M w) (mVan true t M' w) := by
  intro v z k j hv hz hk hj1 hj
  show lgW (setR M' 50 (minF (M' 50) w)) w t 54 _ = hrow (histW (setR M 0 (minF (M 0) w)) 0 w t) v z k j
  unfold lgW histW hrow
  rw [he]
  generalize minF (M 0) w = F
  simp only [lw1_at, lw1_50, setR_same, hw1_ne _ (show 0 < 30 by decide), hw1_at _ _ _ _ _ _ _ (show 0 < 30 by decide)]
  rw [setR_ne _ _ (show (54 : Nat) ≠ 50 by decide), setR_ne M _ (show 30 + 9 * k + (v * 3 + z) ≠ 0 by omega)]
  have h0 := h v z k j hv hz hk hj1 hj
  unfold hrow at h0
  by_cases e : v = w ∧ j = t
  · obtain ⟨rfl, rfl⟩ := e
    rcases (by omega : z = 0 ∨ z = 1 ∨ z = 2) with rfl | rfl | rfl <;> rcases (by omega : k = 0 ∨ k = 1) with rfl | rfl <;> repeat (first | rfl | rw [if_pos (by omega)] | rw [if_neg (by omega)])
  · rw [if_neg (by omega), if_neg (by omega), if_neg (by omega), if_neg (by omega), if_neg (by omega), if_neg (by omega)]
    rw [if_neg (by omega), if_neg (by omega), if_neg (by omega), if_neg (by omega), if_neg (by omega), if_neg (by omega)]
    exact h0
theorem LQ.set {M M' : Mm} (h : LQ M M') {q : Nat} (hq : q < 30) (F F' : Nat → Int32) : LQ (setR M q F) (setR M' 50 F') := by
  intro v z k j hv hz hk hj1 hj
  unfold hrow
  rw [setR_ne _ _ (by decide), setR_ne M _ (show 30 + 9 * k + (v * 3 + z) ≠ q by omega)]
  exact h v z k j hv hz hk hj1 hj
theorem LQ.vans {t : Nat} (ht1 : 1 ≤ t) (ht : t ≤ 600) : ∀ (n v : Nat) (M M' : Mm), v + n ≤ 3 → LQ M M' → M' 50 = M 0 → LQ (cVans 0 t n v M) (mVans true t n v M') := by
  intro n
  induction n with
  | zero => intro v M M' _ h _; exact h
  | succ n ih =>
    intro v M M' hv h he
    unfold cVans mVans
    exact ih (v + 1) _ _ (by omega) (h.van he (by omega) ht1 ht) (by rw [mVan_50, cVan_q _ _ _ _ (by decide), he])
theorem LQ.min {M M' : Mm} (h : LQ M M') (he : M' 50 = M 0) {nv t : Nat} (hn : nv ≤ 3) (ht : t < 600) : LQ (cMin 0 nv t M) (mMin true nv t M') := by
  unfold cMin mMin
  exact LQ.vans (by omega) (by omega) nv 0 _ _ (by omega) (h.set (by decide) _ _) (by rw [setR_same, setR_same, he])
theorem LQ.pass {nv : Nat} (hn : nv ≤ 3) : ∀ (n t : Nat) (M M' : Mm), t + n ≤ 600 → LQ M M' → M' 50 = M 0 → LQ (cPass 0 nv n t M) (mPass nv n t M') := by
  intro n
  induction n with
  | zero => intro t M M' _ h _; exact h
  | succ n ih =>
    intro t M M' ht h he
    unfold cPass mPass
    exact ih (t + 1) _ _ (by omega) (h.min he hn (by omega)) (by rw [mMin_T, cMin_T (by decide), he])
theorem LQ.ps {M M' : Mm} (h : LQ M M') (he : M' 50 = M 0) (hg : GG (M 0)) (x : Int32) : LQ (psM 0 M x) (mpsM M' x) := by
  obtain ⟨t, ht, hg⟩ := hg
  unfold psM mpsM
  rw [he]
  split
  · rename_i hx
    split
    · rename_i hb
      obtain ⟨m, hm1, hm3, rfl⟩ := inn_nI (a := 1) (b := 300) hx (by decide)
      have e2 : vN (M 0 2) = t := by rw [hg.n2]; exact vN_nI (by omega)
      rw [e2, vN_nI (by omega)]
      unfold psB at hb
      rw [decide_eq_true_eq, hg.n2, nI_add] at hb
      have : t + m ≤ 600 := (nI_leI (by omega) (by decide)).mp hb
      exact LQ.pass hg.nv.1 m t _ _ this h he
    · exact h
  · exact h
/-- one command on both sides -/
theorem ex_same {M M' : Mm} (h : LQ M M') (he : M' 50 = M 0) (hg : GG (M 0)) (c f s : Int32) : mxR M' c f s = exR M c f s ∧ mxM M' c f s 50 = exM M c f s 0 ∧ LQ (exM M c f s) (mxM M' c f s) := by
  refine ⟨?_, ?_, ?_⟩
  · unfold mxR exR
    rw [mpsR_T, psR_T (by decide), he]
  · rw [mxM_T, exM_T, he]
  · unfold exM mxM
    split
    · exact h.set (by decide) _ _
    · split
      · exact h.set (by decide) _ _
      · split
        · exact h.set (by decide) _ _
        · split
          · exact h.ps he hg f
          · exact h.set (by decide) _ _
