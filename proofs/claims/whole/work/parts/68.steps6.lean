/-! STEPS6: a script that runs through. -/
theorem st_run_ok {M R1 M1 M2 : Mm} {fr n len c : Nat} {v v' : Option OV} (h : REL M fr n len) (hl : LR M) (hok : ∀ j, j < c → pth (M 22) len j < len ∧ cmOK (M 22) len (pth (M 22) len j) = true) (hc80 : c ≤ 80) (r21 : R1 21 0 = nI len) (ho : ∀ r, r ≠ 21 → r ≠ 23 → r ≠ 24 → r ≠ 25 → R1 r = M r)
    (ha : ∀ j, j < c → R1 23 j = M 22 (pth (M 22) len j) ∧ R1 24 j = nI (cm1 (M 22) len (pth (M 22) len j)) ∧ (M 22 (pth (M 22) len j) = nI 114 → R1 25 j = nI (cm2 (M 22) len (pth (M 22) len j)))) (hv : v = some (.inl (exA (exL c 0 (ntM R1)).1 c))) (hMM : M1 = exZ (exL c 0 (ntM R1)) c fr) (hz : msZ len c n (rmL (M 22) len c 0 (hM M1)) v' M2) (hj : (exL c 0 (ntM R1)).1 = none) :
    v = v' ∧ ∃ F fr' n' len', (∀ i, i < 183 → M2 50 i = F i) ∧ REL (setR M2 50 F) fr' n' len' ∧ LR (setR M2 50 F) := by
  have hfr := h.frlt
  obtain ⟨h', hl'⟩ := h.wrong hl ho r21 (fun q _ _ => rfl) (fun _ _ _ => rfl)
  have h20 : vN (R1 20 0) = fr := by rw [h'.free]; exact vN_nI (by omega)
  have n0 : ntM R1 0 = R1 0 := ntM_0 R1
  have nn : ∀ r, r ≠ 2 + fr → ntM R1 r = R1 r := fun r b => ntM_ne _ (by rw [h20]; exact b)
  have nf : ntM R1 (2 + fr) = R1 0 := by unfold ntM; rw [h20]; exact setR_same _ _ _
  have hG : GG (ntM R1 0) := by rw [n0]; exact h'.good.1
  have hlr : LR (exL c 0 (ntM R1)).2 := LR.run c 0 _ (hl'.congr (fun r a b => nn r (by omega))) hG
  have hgx : GX ((exL c 0 (ntM R1)).2 0) := GX.run c 0 _ (by rw [n0]; exact h'.good)
  -- what the class's run leaves as it was
  have hkeep : ∀ (m k : Nat) (N : Mm), nvF (N 0) ≤ 3 → GG (N 0) → ∀ r, r < 30 ∨ 48 ≤ r → r ≠ 0 → (exL m k N).2 r = N r := by
    intro m
    induction m with
    | zero => intro k N _ _ r _ _; rfl
    | succ m ih =>
      intro k N hn hg r hr h0
      unfold exL
      split
      · exact exM_ne _ _ _ hn hr h0
      · have hg2 : GG (exM N (N 23 k) (N 24 k) (N 25 k) 0) := by rw [exM_T]; exact hg.ex _ _ _
        rw [ih (k + 1) _ (by obtain ⟨t, ht, hg2⟩ := hg2; exact hg2.nv.1) hg2 r hr h0]
        exact exM_ne _ _ _ hn hr h0
  have ck := hkeep c 0 (ntM R1) (by obtain ⟨t, ht, hg⟩ := hG; exact hg.nv.1) hG
  generalize hA : exL c 0 (ntM R1) = A at hv hMM hlr hgx ck hj
  have hM1 : M1 = ktM (wr A.2 21 0 (nI 0)) (nI c) := by
    rw [hMM]; unfold exZ; rw [hj]
  have e0 : A.2 (2 + fr) = R1 0 := (ck _ (by omega) (by omega)).trans nf
  have m1 : ∀ r, 48 ≤ r → M1 r = R1 r := fun r hr => by rw [hM1, ktM_ne _ _ (by omega), wr_rne _ _ _ (by omega), ck r (Or.inr hr) (by omega), nn r (by omega)]
  have m50 : M1 50 = R1 0 := (m1 50 (by decide)).trans h'.same
  have hq := run_same hok c 0 (ntM R1) (Jvm.Pilot.@@N@@.hM M1) (by omega) (h'.logs.congr (fun r a b => nn r (by omega)) (by rw [hM_ne _ (by decide), m1 54 (by decide)])) (by rw [hM_ne _ (by decide), m50, n0]) hG (fun j hj => by
    rw [nn 23 (by omega), nn 24 (by omega), nn 25 (by omega)]; exact ha j hj)
  rw [hA] at hq
  obtain ⟨a1, a2, a3, a4, a5, a6⟩ := hq
  have h52 : ∀ i, i < 183 → (rmL (M 22) len c 0 (Jvm.Pilot.@@N@@.hM M1)).2 52 i = R1 0 i := fun i hi => by rw [a6 52 (by decide) (by decide)]; exact hM_52 m50 hi
  generalize hB : rmL (M 22) len c 0 (Jvm.Pilot.@@N@@.hM M1) = B at hz a1 a2 a3 a6 h52
  unfold msZ at hz
  rw [← a1, hj] at hz
  obtain ⟨z1, z2, z3, z4, z5, z6⟩ := hz
  have hend : endM (setR (setR B.2 56 (M2 56)) 60 (upd (M2 60) 0 (nI n))) n = M2 := by
    funext q
    by_cases q60 : q = 60
    · subst q60
      unfold endM
      rw [setR_same, setR_same, upd_upd, ← z4, upd_self]
    · by_cases q51 : q = 51
      · subst q51
        unfold endM
        rw [setR_ne _ _ (show (51 : Nat) ≠ 60 by decide), setR_same, setR_ne _ _ (show (51 : Nat) ≠ 60 by decide), setR_ne _ _ (show (51 : Nat) ≠ 56 by decide), setR_ne _ _ (show (52 : Nat) ≠ 60 by decide), setR_ne _ _ (show (52 : Nat) ≠ 56 by decide)]
        exact z3.symm
      · rw [endM_ne _ _ q51 q60, setR_ne _ _ q60]
        by_cases q56 : q = 56
        · subst q56; exact setR_same _ _ _
        · rw [setR_ne _ _ q56]; exact (z2 q q51 q56 q60).symm
  have e50 : M2 50 = A.2 0 := (z2 50 (by decide) (by decide) (by decide)).trans a3
  have xb : ∀ r, r ≠ 56 → r ≠ 60 → setR (setR B.2 56 (M2 56)) 60 (upd (M2 60) 0 (nI n)) r = B.2 r := fun r a b => by rw [setR_ne _ _ b, setR_ne _ _ a]
  have hp := h'.pass (Mc := wr A.2 21 0 (nI 0)) (Mx := setR (setR B.2 56 (M2 56)) 60 (upd (M2 60) 0 (nI n))) (R := nI c) (F := A.2 0) (len' := 0) (err_nI (by omega)) hgx (wr_rne _ _ _ (by decide)) (by rw [wr_rne _ _ _ (by omega)]; exact e0) (fun r a b d e _ _ _ => by rw [wr_rne _ _ _ e, ck r a b, nn r d]) (by rw [wr_eq, setR_same]; rfl) (by decide) (by rw [xb 50 (by decide) (by decide)]; exact a3) (fun i hi => by rw [xb 52 (by decide) (by decide)]; exact h52 i hi) (fun r a b d e f => by rw [xb r e f, a6 r a d, hM_ne _ b, hM1]) (by rw [setR_same, upd_at, if_pos rfl]) (by rw [setR_same, upd_at, if_neg (by decide)]; exact z5) (by rw [setR_same, upd_at, if_neg (by decide)]; exact z6) (a2.congr (fun r a b => wr_rne _ _ _ (by omega)) (xb 54 (by decide) (by decide)))
  rw [hend] at hp
  refine ⟨by rw [hv, z1, hj]; rfl, M2 50, _, _, _, fun _ _ => rfl, by rw [setR_self]; exact hp, ?_⟩
  rw [setR_self]
  refine hlr.congr (fun r a b => ?_)
  rw [z2 r (by omega) (by omega) (by omega), a6 r (by omega) (by omega), hM_ne _ (by omega), hM1, ktM_ne _ _ (by omega), wr_rne _ _ _ (by omega)]
