/-! SIGN: an answer is an error on both sides or on none; scripts run alike. -/
def sg (r : Int32) : Prop := (errS r = true ∧ ¬ 0 ≤ r) ∨ (errS r = false ∧ 0 ≤ r)
theorem sg_nI {k : Nat} (h : k < 2147483648) : sg (nI k) := by
  have h0 : (nI k).toInt = k := nI_toInt (by omega)
  have e0 : (0 : Int32).toInt = 0 := rfl
  have e1 : ((-100001) : Int32).toInt = -100001 := by decide
  refine Or.inr ⟨?_, ?_⟩
  · unfold errS
    have : (-100001) < nI k := by rw [Int32.lt_iff_toInt_lt, h0, e1]; omega
    simp [this]
  · rw [Int32.le_iff_toInt_le, h0, e0]; omega
theorem sg_1 : sg (-100001) := Or.inl (by decide)
theorem sg_2 : sg (-100002) := Or.inl (by decide)
theorem sg_3 : sg (-100003) := Or.inl (by decide)
set_option maxRecDepth 20000 in
theorem bc_nI64 : ∀ a : Nat, a < 64 → ∀ b : Nat, b < 64 → 0 ≤ bcS (nI (64 * a + b)) := by decide +kernel
theorem bc_nn {x : Nat} (h : x < 4096) : 0 ≤ bcS (nI x) := by
  have := bc_nI64 (x / 64) (by omega) (x % 64) (by omega)
  rwa [show 64 * (x / 64) + x % 64 = x by omega] at this
theorem sg_nn {x : Int32} (h : 0 ≤ x) : sg x := by
  obtain ⟨k, hk, rfl⟩ := nI_of (fun q : x < 0 => Int32.not_le.mpr q h)
  exact sg_nI (by omega)
theorem sg_dr {F : Nat → Int32} {t T : Nat} (h : Good F t T) (x y : Int32) : sg (drR F x y) := by
  unfold drR
  split
  · split
    · exact sg_2
    · obtain ⟨b, hb, e⟩ := pin_lt (drF F x y) x (npF F) 0 0 (by have := h.np.1; omega) (by decide)
      rw [e]
      exact sg_nn (bc_nn hb)
  · exact sg_1
theorem sg_dl (F : Nat → Int32) (x : Int32) : sg (dlR F x) := by
  unfold dlR
  split
  · split
    · unfold dlv
      split
      · exact sg_nI (by decide)
      · exact sg_nI (by decide)
    · exact sg_2
  · exact sg_1
theorem sg_rep (F : Nat → Int32) (x z : Int32) : sg (repR F x z) := by
  unfold repR
  split
  · split
    · exact sg_nI (by decide)
    · exact sg_nI (by decide)
  · exact sg_1
theorem sg_ps {F : Nat → Int32} {t T : Nat} (h : Good F t T) (x : Int32) : sg (psN F x) := by
  unfold psN
  split
  · rename_i hx
    split
    · obtain ⟨m, hm1, hm3, rfl⟩ := inn_nI (a := 1) (b := 300) hx (by decide)
      rw [vN_nI (by omega)]
      obtain ⟨b, hb, e⟩ := passN_nI h.nv.1 m (vN (F 2)) F 0
      rw [e]
      exact sg_nI (by omega)
    · exact sg_3
  · exact sg_1
theorem sg_ex {M : Mm} (hg : GG (M 0)) (c f s : Int32) : sg (exR M c f s) := by
  obtain ⟨t, ht, hg⟩ := hg
  unfold exR
  split
  · exact sg_dr hg _ _
  · split
    · exact sg_dl _ _
    · split
      · exact sg_dr hg _ _
      · split
        · rw [psR_T (by decide)]; exact sg_ps hg _
        · exact sg_rep _ _ _
theorem sg_if {r : Int32} (h : sg r) : (errS r = true) ↔ ¬ 0 ≤ r := by
  rcases h with ⟨a, b⟩ | ⟨a, b⟩
  · exact ⟨fun _ => b, fun _ => a⟩
  · exact ⟨fun q => absurd (a.symm.trans q) (by decide), fun q => absurd b q⟩
/-- what the two runs have in common -/
def runQ (M M' : Mm) (A A' : Option Nat × Mm) : Prop := A.1 = A'.1 ∧ LQ A.2 A'.2 ∧ A'.2 50 = A.2 0 ∧ GG (A.2 0) ∧ (∀ r, r < 30 ∨ 48 ≤ r → r ≠ 0 → A.2 r = M r) ∧ ∀ q, q ≠ 50 → q ≠ 54 → A'.2 q = M' q
theorem run_same {T : Nat → Int32} {n C : Nat} (hok : ∀ j, j < C → pth T n j < n ∧ cmOK T n (pth T n j) = true) : ∀ (m k : Nat) (M M' : Mm), k + m = C → LQ M M' → M' 50 = M 0 → GG (M 0) → (∀ j, j < C → M 23 j = T (pth T n j) ∧ M 24 j = nI (cm1 T n (pth T n j)) ∧ (T (pth T n j) = nI 114 → M 25 j = nI (cm2 T n (pth T n j)))) → runQ M M' (exL m k M) (rmL T n m k M') := by
  intro m
  induction m with
  | zero => intro k M M' _ hL he hg _; exact ⟨rfl, hL, he, hg, fun _ _ _ => rfl, fun _ _ _ => rfl⟩
  | succ m ih =>
    intro k M M' hk hL he hg hr
    obtain ⟨r1, r2, r3⟩ := hr k (by omega)
    have hlet := cm_let (hok k (by omega)).2
    obtain ⟨s1, s2, s3⟩ := ex_same hL he hg (M 23 k) (M 24 k) (M 25 k)
    have e1 : mxR M' (T (pth T n k)) (nI (cm1 T n (pth T n k))) (nI (cm2 T n (pth T n k))) = exR M (M 23 k) (M 24 k) (M 25 k) := by
      rw [← s1, r1, r2]
      exact mxR_s M' hlet (fun q => (r3 q).symm)
    have e2 : mxM M' (T (pth T n k)) (nI (cm1 T n (pth T n k))) (nI (cm2 T n (pth T n k))) = mxM M' (M 23 k) (M 24 k) (M 25 k) := by
      rw [r1, r2]
      exact mxM_s M' hlet (fun q => (r3 q).symm)
    have hn3 : nvF (M 0) ≤ 3 := by obtain ⟨t, ht, hg⟩ := hg; exact hg.nv.1
    have hne : ∀ r, r < 30 ∨ 48 ≤ r → r ≠ 0 → exM M (M 23 k) (M 24 k) (M 25 k) r = M r := fun r h h0 => exM_ne _ _ _ hn3 h h0
    have hgx : GG (exM M (M 23 k) (M 24 k) (M 25 k) 0) := by rw [exM_T]; exact hg.ex _ _ _
    have hsg := sg_if (sg_ex hg (M 23 k) (M 24 k) (M 25 k))
    unfold exL rmL
    rw [e1, e2]
    by_cases h0 : 0 ≤ exR M (M 23 k) (M 24 k) (M 25 k)
    · rw [if_pos h0, if_neg (fun q => hsg.mp q h0)]
      obtain ⟨a1, a2, a3, a4, a5, a6⟩ := ih (k + 1) _ _ (by omega) s3 s2 hgx (fun j hj => by
        rw [hne 23 (Or.inl (by decide)) (by decide), hne 24 (Or.inl (by decide)) (by decide), hne 25 (Or.inl (by decide)) (by decide)]; exact hr j hj)
      exact ⟨a1, a2, a3, a4, fun r h h1 => (a5 r h h1).trans (hne r h h1), fun q h h1 => (a6 q h h1).trans (mxM_ne _ _ _ _ h h1)⟩
    · rw [if_neg h0, if_pos (hsg.mpr h0)]
      exact ⟨rfl, s3, s2, hgx, hne, fun q h h1 => mxM_ne _ _ _ _ h h1⟩
/-- where the reading ends is one place -/
theorem pth_uniq {T : Nat → Int32} {n c c' : Nat} (h : ∀ j, j < c → pth T n j < n ∧ cmOK T n (pth T n j) = true) (h' : ∀ j, j < c' → pth T n j < n ∧ cmOK T n (pth T n j) = true) (e : ¬ (pth T n c < n ∧ cmOK T n (pth T n c) = true)) (e' : ¬ (pth T n c' < n ∧ cmOK T n (pth T n c') = true)) : c = c' := by
  rcases Nat.lt_trichotomy c c' with q | q | q
  · exact absurd (h' c q) e
  · exact q
  · exact absurd (h c' q) e'
