/-! LOGS: what is logged stays within bounds. -/
/-- every logged value is small -/
def LR (M : Mm) : Prop := ∀ r j, 30 ≤ r → r < 48 → bt (-1000) 1000 (M r j)
theorem LR.lb {M : Mm} (h : LR M) : LB M := fun v z k j hv hz hk _ _ => h _ _ (by omega) (by omega)
theorem LR.congr {M N : Mm} (h : LR M) (h1 : ∀ r, 30 ≤ r → r < 48 → N r = M r) : LR N := fun r j a b => by rw [h1 r a b]; exact h r j a b
theorem Good.told_bt {F : Nat → Int32} {t T v z : Nat} (h : Good F t T) (hv : v < 3) (hz : z < 3) : bt (-1000) 1000 (toldF F v z) := by
  unfold toldF
  split
  · exact h.rdg hv hz
  · have a := h.rdg hv (show (z + 1) % 3 < 3 by omega)
    have b := h.rdg hv (show (z + 2) % 3 < 3 by omega)
    unfold bt at *
    rw [fdS_shr, shr1_toInt, iadd (by omega) (by omega)]
    omega
theorem LR.one {M : Mm} {v t z : Nat} (h : LR M) (a : bt (-1000) 1000 (toldF (M 0) v z)) (b : bt (-1000) 1000 (M 0 (10 + 19 * v + 5 * z))) : LR (Jvm.Pilot.@@N@@.hw1 M 0 v t z) := by
  intro r j h1 h2
  rw [hw1_at _ _ _ _ _ _ _ (by decide)]
  split
  · exact a
  · split
    · exact b
    · exact h r j h1 h2
theorem LR.van {M : Mm} (h : LR M) {t T w j0 : Nat} (hg : Good (M 0) t T) (hw : w < 3) : LR (cVan 0 j0 M w) := by
  have hg2 := hg.kmin hw
  unfold cVan histW
  have hs : LR (setR M 0 (minF (M 0) w)) := h.congr (fun r a b => setR_ne _ _ (by omega))
  have hh : ∀ z, z < 3 → bt (-1000) 1000 (minF (M 0) w (10 + 19 * w + 5 * z)) := fun z hz => bt_mono (hg2.heat hw hz) (by decide) (by decide)
  have e0 : ∀ z, hw1 (setR M 0 (minF (M 0) w)) 0 w j0 z 0 = minF (M 0) w := fun z => (hw1_ne _ (by decide)).trans (setR_same _ _ _)
  have h1 := hs.one (v := w) (t := j0) (z := 0) (by rw [setR_same]; exact hg2.told_bt hw (by decide)) (by rw [setR_same]; exact hh 0 (by decide))
  have h2 := h1.one (v := w) (t := j0) (z := 1) (by rw [e0]; exact hg2.told_bt hw (by decide)) (by rw [e0]; exact hh 1 (by decide))
  have e1 : hw1 (hw1 (setR M 0 (minF (M 0) w)) 0 w j0 0) 0 w j0 1 0 = minF (M 0) w := (hw1_ne _ (by decide)).trans (e0 0)
  exact h2.one (by rw [e1]; exact hg2.told_bt hw (by decide)) (by rw [e1]; exact hh 2 (by decide))
theorem LR.vans {j0 t : Nat} : ∀ (n v T : Nat) (M : Mm), v + n ≤ 3 → LR M → Good (M 0) t T → LR (cVans 0 j0 n v M) := by
  intro n
  induction n with
  | zero => intro v T M _ h _; exact h
  | succ n ih =>
    intro v T M hv h hg
    unfold cVans
    exact ih (v + 1) (T + 1) _ (by omega) (h.van hg (by omega)) (by rw [cVan_q _ _ _ _ (by decide)]; exact hg.kmin (by omega))
theorem LR.pass {nv : Nat} (hn : nv ≤ 3) : ∀ (n t : Nat) (M : Mm), LR M → Good (M 0) t (3 * t) → LR (cPass 0 nv n t M) := by
  intro n
  induction n with
  | zero => intro t M h _; exact h
  | succ n ih =>
    intro t M h hg
    unfold cPass
    refine ih (t + 1) _ ?_ ?_
    · unfold cMin
      exact LR.vans nv 0 (3 * t) _ (by omega) (h.congr (fun r a b => setR_ne _ _ (by omega))) (by rw [setR_same]; exact hg.tick)
    · rw [cMin_T (by decide)]; exact hg.minT hn
theorem LR.ps {M : Mm} (h : LR M) (hg : GG (M 0)) (x : Int32) : LR (psM 0 M x) := by
  obtain ⟨t, ht, hg⟩ := hg
  unfold psM
  split
  · split
    · have e2 : vN (M 0 2) = t := by rw [hg.n2]; exact vN_nI (by omega)
      rw [e2]
      exact LR.pass hg.nv.1 _ t _ h hg
    · exact h
  · exact h
theorem LR.ex {M : Mm} (h : LR M) (hg : GG (M 0)) (c f s : Int32) : LR (exM M c f s) := by
  have hs : ∀ F, LR (setR M 0 F) := fun F => h.congr (fun r a b => setR_ne _ _ (by omega))
  unfold exM
  split
  · exact hs _
  · split
    · exact hs _
    · split
      · exact hs _
      · split
        · exact h.ps hg f
        · exact hs _
theorem LR.run : ∀ (m k : Nat) (M : Mm), LR M → GG (M 0) → LR (exL m k M).2 := by
  intro m
  induction m with
  | zero => intro k M h _; exact h
  | succ m ih =>
    intro k M h hg
    unfold exL
    split
    · exact h.ex hg _ _ _
    · exact ih (k + 1) _ (h.ex hg _ _ _) (by rw [exM_T]; exact hg.ex _ _ _)
