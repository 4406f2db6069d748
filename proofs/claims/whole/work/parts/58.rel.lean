/-! REL: what holds between two calls of the law. -/
abbrev REL (M : Mm) (fr n len : Nat) : Prop :=
  M 50 = M 0 ∧ GX (M 0) ∧ LQ M M ∧ M 55 = M 22 ∧ M 21 0 = nI len ∧ M 60 2 = nI len ∧ len ≤ 80 ∧ M 20 0 = nI fr ∧ fr < 7 ∧ M 20 1 = nI n ∧ M 60 0 = nI n ∧ n ≤ 6 ∧ M 60 1 = nI 1 ∧ RGf (fun r => M (2 + r)) (M 51) fr n ∧ (∀ r, r < 7 → GX (M (2 + r)))
theorem REL.same {M : Mm} {fr n len : Nat} (h : REL M fr n len) : M 50 = M 0 := h.1
theorem REL.good {M : Mm} {fr n len : Nat} (h : REL M fr n len) : GX (M 0) := h.2.1
theorem REL.logs {M : Mm} {fr n len : Nat} (h : REL M fr n len) : LQ M M := h.2.2.1
theorem REL.text {M : Mm} {fr n len : Nat} (h : REL M fr n len) : M 55 = M 22 := h.2.2.2.1
theorem REL.len1 {M : Mm} {fr n len : Nat} (h : REL M fr n len) : M 21 0 = nI len := h.2.2.2.2.1
theorem REL.len2 {M : Mm} {fr n len : Nat} (h : REL M fr n len) : M 60 2 = nI len := h.2.2.2.2.2.1
theorem REL.len3 {M : Mm} {fr n len : Nat} (h : REL M fr n len) : len ≤ 80 := h.2.2.2.2.2.2.1
theorem REL.free {M : Mm} {fr n len : Nat} (h : REL M fr n len) : M 20 0 = nI fr := h.2.2.2.2.2.2.2.1
theorem REL.frlt {M : Mm} {fr n len : Nat} (h : REL M fr n len) : fr < 7 := h.2.2.2.2.2.2.2.2.1
theorem REL.num1 {M : Mm} {fr n len : Nat} (h : REL M fr n len) : M 20 1 = nI n := h.2.2.2.2.2.2.2.2.2.1
theorem REL.num2 {M : Mm} {fr n len : Nat} (h : REL M fr n len) : M 60 0 = nI n := h.2.2.2.2.2.2.2.2.2.2.1
theorem REL.num3 {M : Mm} {fr n len : Nat} (h : REL M fr n len) : n ≤ 6 := h.2.2.2.2.2.2.2.2.2.2.2.1
theorem REL.real {M : Mm} {fr n len : Nat} (h : REL M fr n len) : M 60 1 = nI 1 := h.2.2.2.2.2.2.2.2.2.2.2.2.1
theorem REL.ring {M : Mm} {fr n len : Nat} (h : REL M fr n len) : RGf (fun r => M (2 + r)) (M 51) fr n := h.2.2.2.2.2.2.2.2.2.2.2.2.2.1
theorem REL.olds {M : Mm} {fr n len : Nat} (h : REL M fr n len) : ∀ r, r < 7 → GX (M (2 + r)) := h.2.2.2.2.2.2.2.2.2.2.2.2.2.2
theorem LQ.congr {M M' N N' : Mm} (h : LQ M M') (h1 : ∀ r, 30 ≤ r → r < 48 → N r = M r) (h2 : N' 54 = M' 54) : LQ N N' := by
  intro v z k j hv hz hk hj1 hj
  unfold hrow
  rw [h1 _ (by omega) (by omega), h2]
  exact h v z k j hv hz hk hj1 hj
/-- behind an edit of both sides that goes through, or that neither lets through -/
theorem REL.edit {M : Mm} {fr n len : Nat} (h : REL M fr n len) {R : Int32} {F : Nat → Int32} {ok : Bool} (hok : errS R = !ok) (hF : GX F) (hno : ok = false → F = M 0) :
    ∃ fr' n', REL (mE (edM M R F) n ok F) fr' n' len := by
  have h20 : vN (M 20 0) = fr := by rw [h.free]; exact vN_nI (by have := h.frlt; omega)
  have hfr := h.frlt
  have hn := h.num3
  -- the class's memory
  have c0 : setR (ntM M) 0 F 0 = F := setR_same _ _ _
  have cn : ∀ r, r ≠ 0 → r ≠ 2 + fr → setR (ntM M) 0 F r = M r := fun r a b => by rw [setR_ne _ _ a, ntM_ne _ (by rw [h20]; exact b)]
  have cf : setR (ntM M) 0 F (2 + fr) = M 0 := by
    rw [setR_ne _ _ (by omega)]
    unfold ntM
    rw [h20]; exact setR_same _ _ _
  cases ok with
  | false =>
    have hR : errS R = true := hok
    have e1 : edM M R F = setR (ntM M) 0 F := by unfold edM ktM; rw [if_pos hR]
    have hF0 := hno rfl
    refine ⟨fr, n, ?_⟩
    show REL (edM M R F) fr n len
    rw [e1]
    refine ⟨by rw [c0, cn 50 (by omega) (by omega), h.same, hF0], by rw [c0]; exact hF, ?_, by rw [cn 55 (by omega) (by omega), cn 22 (by omega) (by omega)]; exact h.text, by rw [cn 21 (by omega) (by omega)]; exact h.len1, by rw [cn 60 (by omega) (by omega)]; exact h.len2, h.len3, by rw [cn 20 (by omega) (by omega)]; exact h.free, hfr, by rw [cn 20 (by omega) (by omega)]; exact h.num1, by rw [cn 60 (by omega) (by omega)]; exact h.num2, hn, by rw [cn 60 (by omega) (by omega)]; exact h.real, ?_, ?_⟩
    · exact h.logs.congr (fun r a b => cn r (by omega) (by omega)) (cn 54 (by omega) (by omega))
    · rw [cn 51 (by omega) (by omega)]
      have := h.ring.free (X := M 0) hfr hn
      have e : (fun r => setR (ntM M) 0 F (2 + r)) = (fun r => if r = fr then M 0 else M (2 + r)) := by
        funext r
        by_cases q : r = fr
        · subst q; rw [if_pos rfl]; exact cf
        · rw [if_neg q]; exact cn _ (by omega) (by omega)
      rw [e]
      exact this
    · intro r hr
      by_cases q : r = fr
      · subst q; rw [cf]; exact h.good
      · rw [cn _ (by omega) (by omega)]; exact h.olds r hr
  | true =>
    have hR : errS R = false := hok
    have e1 : edM M R F = setR (setR (ntM M) 0 F) 20 (ktF (M 20)) := by
      unfold edM ktM
      rw [if_neg (by rw [hR]; decide), cn 20 (by omega) (by omega)]
    rw [e1]
    generalize hM1 : setR (setR (ntM M) 0 F) 20 (ktF (M 20)) = M1
    have d20 : M1 20 = ktF (M 20) := by rw [← hM1]; exact setR_same _ _ _
    have dn : ∀ r, r ≠ 0 → r ≠ 2 + fr → r ≠ 20 → M1 r = M r := fun r a b c => by rw [← hM1, setR_ne _ _ c]; exact cn r a b
    have d0 : M1 0 = F := by rw [← hM1, setR_ne _ _ (by decide)]; exact c0
    have df : M1 (2 + fr) = M 0 := by rw [← hM1, setR_ne _ _ (by omega)]; exact cf
    have m50 : mE M1 n true F 50 = F := by
      show endM (setR (hM M1) 50 F) n 50 = F
      rw [endM_ne _ _ (by decide) (by decide)]; exact setR_same _ _ _
    have mn : ∀ r, r ≠ 50 → r ≠ 51 → r ≠ 52 → r ≠ 60 → mE M1 n true F r = M1 r := fun r a b c d => by
      show endM (setR (hM M1) 50 F) n r = M1 r
      rw [endM_ne _ _ b d, setR_ne _ _ a, hM_ne _ c]
    have m60 : mE M1 n true F 60 = upd (M 60) 0 (nI ((if n = 6 then 5 else n) + 1)) := by
      show endM (setR (hM M1) 50 F) n 60 = _
      unfold endM
      rw [setR_same, setR_ne _ _ (show (60 : Nat) ≠ 50 by decide), hM_ne _ (by decide), dn 60 (by omega) (by omega) (by omega)]
    have m51 : mE M1 n true F 51 = puP (if n = 6 then shP (M 51) 915 else M 51) (cpR (M 52) (M 0) 0 183) (if n = 6 then 5 else n) 183 := by
      show endM (setR (hM M1) 50 F) n 51 = _
      unfold endM
      rw [setR_ne _ _ (show (51 : Nat) ≠ 60 by decide), setR_same, setR_ne _ _ (show (51 : Nat) ≠ 50 by decide), hM_ne _ (by decide), setR_ne _ _ (show (52 : Nat) ≠ 50 by decide), dn 51 (by omega) (by omega) (by omega)]
      unfold hM
      rw [setR_same, dn 52 (by omega) (by omega) (by omega), dn 50 (by omega) (by omega) (by omega), h.same]
    refine ⟨if fr = 6 then 0 else fr + 1, if n = 6 then 6 else n + 1, ?_⟩
    refine ⟨by rw [m50, mn 0 (by omega) (by omega) (by omega) (by omega), d0], by rw [mn 0 (by omega) (by omega) (by omega) (by omega), d0]; exact hF, ?_, by rw [mn 55 (by omega) (by omega) (by omega) (by omega), mn 22 (by omega) (by omega) (by omega) (by omega), dn 55 (by omega) (by omega) (by omega), dn 22 (by omega) (by omega) (by omega)]; exact h.text, by rw [mn 21 (by omega) (by omega) (by omega) (by omega), dn 21 (by omega) (by omega) (by omega)]; exact h.len1, by rw [m60, upd_at, if_neg (by decide)]; exact h.len2, h.len3, ?_, by split <;> omega, ?_, ?_, by split <;> omega, by rw [m60, upd_at, if_neg (by decide)]; exact h.real, ?_, ?_⟩
    · refine h.logs.congr (fun r a b => ?_) ?_
      · rw [mn r (by omega) (by omega) (by omega) (by omega), dn r (by omega) (by omega) (by omega)]
      · rw [mn 54 (by omega) (by omega) (by omega) (by omega), dn 54 (by omega) (by omega) (by omega)]
    · rw [mn 20 (by omega) (by omega) (by omega) (by omega), d20]
      unfold ktF
      rw [upd_at, if_neg (by decide), upd_at, if_pos rfl, h.free]
      by_cases q : fr = 6
      · rw [if_pos (by rw [q]), if_pos q]
      · rw [if_neg (fun w => q (by have := (nI_eqm fr 6).mp w; omega)), if_neg q, nI_add]
    · rw [mn 20 (by omega) (by omega) (by omega) (by omega), d20]
      unfold ktF
      rw [upd_at, if_pos rfl, h.num1, nI_add, mnS_nI (by omega) (by decide)]
      refine congrArg nI ?_
      split <;> omega
    · rw [m60, upd_at, if_pos rfl]
      refine congrArg nI ?_
      split <;> omega
    · have hp := h.ring.push (A := cpR (M 52) (M 0) 0 183) (X := M 0) hfr hn (fun i hi => by unfold cpR; rw [if_pos ⟨Nat.zero_le _, by omega⟩])
      rw [m51]
      have e : (fun r => mE M1 n true F (2 + r)) = (fun r => if r = fr then M 0 else mE M1 n true F (2 + r)) := by
        funext r
        by_cases q : r = fr
        · subst q; rw [if_pos rfl, mn _ (by omega) (by omega) (by omega) (by omega)]; exact df
        · rw [if_neg q]
      intro j hj i hi
      have hp2 := hp j hj i hi
      rw [hp2]
      rw [e]
      show (if _ = fr then M 0 else M (2 + _)) i = (if _ = fr then M 0 else mE M1 n true F (2 + _)) i
      by_cases q : ((if fr = 6 then 0 else fr + 1) + 7 - (if n = 6 then 6 else n + 1) + j) % 7 = fr
      · rw [if_pos q, if_pos q]
      · rw [if_neg q, if_neg q]
        have hlt : ((if fr = 6 then 0 else fr + 1) + 7 - (if n = 6 then 6 else n + 1) + j) % 7 < 7 := Nat.mod_lt _ (by decide)
        rw [mn _ (by omega) (by omega) (by omega) (by omega), dn _ (by omega) (by omega) (by omega)]
    · intro r hr
      by_cases q : r = fr
      · subst q; rw [mn _ (by omega) (by omega) (by omega) (by omega), df]; exact h.good
      · rw [mn _ (by omega) (by omega) (by omega) (by omega), dn _ (by omega) (by omega) (by omega)]; exact h.olds r hr
