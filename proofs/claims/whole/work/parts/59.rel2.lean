/-! REL2: any edit: Mc the class's memory before it is kept, Mx the reference's before it ends. -/
theorem ktM_ne (M : Mm) (R : Int32) {r : Nat} (h : r ≠ 20) : ktM M R r = M r := by
  unfold ktM
  split
  · rfl
  · exact setR_ne _ _ h
theorem REL.fail {M Mc Mx : Mm} {fr n len : Nat} (h : REL M fr n len) {R : Int32} {F : Nat → Int32} (hR : errS R = true) (hF : GX F) (c0 : Mc 0 = F) (cf : Mc (2 + fr) = M 0) (cn : ∀ r, r < 30 ∨ 48 ≤ r → r ≠ 0 → r ≠ 2 + fr → Mc r = M r)
    (x50 : Mx 50 = F) (xn : ∀ r, r ≠ 50 → r ≠ 52 → r ≠ 54 → r ≠ 56 → r ≠ 60 → Mx r = ktM Mc R r) (x60 : ∀ i, i < 3 → Mx 60 i = M 60 i) (hL : LQ Mc Mx) : REL Mx fr n len := by
  have hfr := h.frlt
  have hn := h.num3
  have e1 : ktM Mc R = Mc := if_pos hR
  rw [e1] at xn
  have xm : ∀ r, r < 30 ∨ 48 ≤ r → r ≠ 0 → r ≠ 2 + fr → r ≠ 50 → r ≠ 52 → r ≠ 54 → r ≠ 56 → r ≠ 60 → Mx r = M r := fun r a b c d1 d2 d3 d4 d5 => (xn r d1 d2 d3 d4 d5).trans (cn r a b c)
  have xf : Mx (2 + fr) = M 0 := (xn _ (by omega) (by omega) (by omega) (by omega) (by omega)).trans cf
  refine ⟨by rw [x50, xn 0 (by omega) (by omega) (by omega) (by omega) (by omega), c0], by rw [xn 0 (by omega) (by omega) (by omega) (by omega) (by omega), c0]; exact hF, hL.congr (fun r a b => xn r (by omega) (by omega) (by omega) (by omega) (by omega)) rfl, by rw [xm 55 (by omega) (by omega) (by omega) (by omega) (by omega) (by omega) (by omega) (by omega), xm 22 (by omega) (by omega) (by omega) (by omega) (by omega) (by omega) (by omega) (by omega)]; exact h.text, by rw [xm 21 (by omega) (by omega) (by omega) (by omega) (by omega) (by omega) (by omega) (by omega)]; exact h.len1, by rw [x60 2 (by decide)]; exact h.len2, h.len3, by rw [xm 20 (by omega) (by omega) (by omega) (by omega) (by omega) (by omega) (by omega) (by omega)]; exact h.free, hfr, by rw [xm 20 (by omega) (by omega) (by omega) (by omega) (by omega) (by omega) (by omega) (by omega)]; exact h.num1, by rw [x60 0 (by decide)]; exact h.num2, hn, by rw [x60 1 (by decide)]; exact h.real, ?_, ?_⟩
  · rw [xm 51 (by omega) (by omega) (by omega) (by omega) (by omega) (by omega) (by omega) (by omega)]
    have hp := h.ring.free (X := M 0) hfr hn
    intro j hj i hi
    rw [hp j hj i hi]
    show (if _ = fr then M 0 else M (2 + _)) i = Mx (2 + _) i
    have hlt : (fr + 7 - n + j) % 7 < 7 := Nat.mod_lt _ (by decide)
    by_cases q : (fr + 7 - n + j) % 7 = fr
    · rw [if_pos q, q, xf]
    · rw [if_neg q, xm _ (by omega) (by omega) (by omega) (by omega) (by omega) (by omega) (by omega) (by omega)]
  · intro r hr
    by_cases q : r = fr
    · subst q; rw [xf]; exact h.good
    · rw [xm _ (by omega) (by omega) (by omega) (by omega) (by omega) (by omega) (by omega) (by omega)]; exact h.olds r hr
theorem REL.pass {M Mc Mx : Mm} {fr n len len' : Nat} (h : REL M fr n len) {R : Int32} {F : Nat → Int32} (hR : errS R = false) (hF : GX F) (c0 : Mc 0 = F) (cf : Mc (2 + fr) = M 0) (cn : ∀ r, r < 30 ∨ 48 ≤ r → r ≠ 0 → r ≠ 2 + fr → r ≠ 21 → r ≠ 23 → r ≠ 24 → r ≠ 25 → Mc r = M r) (cl : Mc 21 0 = nI len') (hlen : len' ≤ 80)
    (x50 : Mx 50 = F) (x52 : ∀ i, i < 183 → Mx 52 i = M 0 i) (xn : ∀ r, r ≠ 50 → r ≠ 52 → r ≠ 54 → r ≠ 56 → r ≠ 60 → Mx r = ktM Mc R r) (x0 : Mx 60 0 = nI n) (x1 : Mx 60 1 = nI 1) (x2 : Mx 60 2 = nI len') (hL : LQ Mc Mx) :
    REL (endM Mx n) (if fr = 6 then 0 else fr + 1) (if n = 6 then 6 else n + 1) len' := by
  have hfr := h.frlt
  have hn := h.num3
  have c20 : Mc 20 = M 20 := cn 20 (by omega) (by omega) (by omega) (by omega) (by omega) (by omega) (by omega)
  have e1 : ktM Mc R = setR Mc 20 (ktF (M 20)) := by unfold ktM; rw [if_neg (by rw [hR]; decide), c20]
  have x20 : Mx 20 = ktF (M 20) := by rw [xn 20 (by omega) (by omega) (by omega) (by omega) (by omega), e1]; exact setR_same _ _ _
  have xc : ∀ r, r ≠ 20 → r ≠ 50 → r ≠ 52 → r ≠ 54 → r ≠ 56 → r ≠ 60 → Mx r = Mc r := fun r a d1 d2 d3 d4 d5 => (xn r d1 d2 d3 d4 d5).trans (ktM_ne _ _ a)
  have xf : Mx (2 + fr) = M 0 := (xc _ (by omega) (by omega) (by omega) (by omega) (by omega) (by omega)).trans cf
  have en : ∀ r, r ≠ 51 → r ≠ 60 → endM Mx n r = Mx r := fun r a b => endM_ne _ _ a b
  have e60 : endM Mx n 60 = upd (Mx 60) 0 (nI ((if n = 6 then 5 else n) + 1)) := by unfold endM; exact setR_same _ _ _
  have xo : ∀ r, r < 9 → r ≠ 0 → r ≠ 2 + fr → endM Mx n r = M r := fun r a b c => by
    rw [en r (by omega) (by omega), xc r (by omega) (by omega) (by omega) (by omega) (by omega) (by omega)]
    exact cn r (by omega) b c (by omega) (by omega) (by omega) (by omega)
  have ef : endM Mx n (2 + fr) = M 0 := by rw [en _ (by omega) (by omega)]; exact xf
  refine ⟨?_, ?_, ?_, ?_, ?_, by rw [e60, upd_at, if_neg (by decide)]; exact x2, hlen, ?_, by split <;> omega, ?_, ?_, by split <;> omega, by rw [e60, upd_at, if_neg (by decide)]; exact x1, ?_, ?_⟩
  · rw [en 50 (by omega) (by omega), en 0 (by omega) (by omega), x50, xc 0 (by omega) (by omega) (by omega) (by omega) (by omega) (by omega), c0]
  · rw [en 0 (by omega) (by omega), xc 0 (by omega) (by omega) (by omega) (by omega) (by omega) (by omega), c0]; exact hF
  · refine hL.congr (fun r a b => ?_) (en 54 (by omega) (by omega))
    rw [en r (by omega) (by omega), xc r (by omega) (by omega) (by omega) (by omega) (by omega) (by omega)]
  · rw [en 55 (by omega) (by omega), en 22 (by omega) (by omega), xc 55 (by omega) (by omega) (by omega) (by omega) (by omega) (by omega), xc 22 (by omega) (by omega) (by omega) (by omega) (by omega) (by omega), cn 55 (by omega) (by omega) (by omega) (by omega) (by omega) (by omega) (by omega), cn 22 (by omega) (by omega) (by omega) (by omega) (by omega) (by omega) (by omega)]
    exact h.text
  · rw [en 21 (by omega) (by omega), xc 21 (by omega) (by omega) (by omega) (by omega) (by omega) (by omega)]; exact cl
  · rw [en 20 (by omega) (by omega), x20]
    unfold ktF
    rw [upd_at, if_neg (by decide), upd_at, if_pos rfl, h.free]
    by_cases q : fr = 6
    · rw [if_pos (by rw [q]), if_pos q]
    · rw [if_neg (fun w => q (by have := (nI_eqm fr 6).mp w; omega)), if_neg q, nI_add]
  · rw [en 20 (by omega) (by omega), x20]
    unfold ktF
    rw [upd_at, if_pos rfl, h.num1, nI_add, mnS_nI (by omega) (by decide)]
    refine congrArg nI ?_
    split <;> omega
  · rw [e60, upd_at, if_pos rfl]
    refine congrArg nI ?_
    split <;> omega
  · have hp := h.ring.push (A := Mx 52) (X := M 0) hfr hn x52
    have e51 : endM Mx n 51 = puP (if n = 6 then shP (M 51) 915 else M 51) (Mx 52) (if n = 6 then 5 else n) 183 := by
      unfold endM
      rw [setR_ne _ _ (show (51 : Nat) ≠ 60 by decide), setR_same, xc 51 (by omega) (by omega) (by omega) (by omega) (by omega) (by omega), cn 51 (by omega) (by omega) (by omega) (by omega) (by omega) (by omega) (by omega)]
    rw [e51]
    intro j hj i hi
    rw [hp j hj i hi]
    show (if _ = fr then M 0 else M (2 + _)) i = endM Mx n (2 + _) i
    have hlt : ((if fr = 6 then 0 else fr + 1) + 7 - (if n = 6 then 6 else n + 1) + j) % 7 < 7 := Nat.mod_lt _ (by decide)
    by_cases q : ((if fr = 6 then 0 else fr + 1) + 7 - (if n = 6 then 6 else n + 1) + j) % 7 = fr
    · rw [if_pos q, q, ef]
    · rw [if_neg q, xo _ (by omega) (by omega) (by omega)]
  · intro r hr
    by_cases q : r = fr
    · subst q; rw [ef]; exact h.good
    · rw [xo _ (by omega) (by omega) (by omega)]; exact h.olds r hr
