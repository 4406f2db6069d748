/-! STEPS2: edits whose answer decides, and passing minutes. -/
theorem REL.after {M Mc Mx : Mm} {fr n len : Nat} (h : REL M fr n len) (hl : LR Mc) {R : Int32} {F : Nat → Int32} (hs : sg R) (hF : GX F) (c0 : Mc 0 = F) (cf : Mc (2 + fr) = M 0) (cn : ∀ r, r < 30 ∨ 48 ≤ r → r ≠ 0 → r ≠ 2 + fr → Mc r = M r)
    (x50 : Mx 50 = F) (x52 : ∀ i, i < 183 → Mx 52 i = M 0 i) (xn : ∀ r, r ≠ 50 → r ≠ 52 → r ≠ 54 → r ≠ 56 → r ≠ 60 → Mx r = ktM Mc R r) (x60 : Mx 60 = M 60) (hL : LQ Mc Mx) :
    ∃ fr' n', REL (doM Mx n R) fr' n' len ∧ LR (doM Mx n R) := by
  have hlx : LR Mx := hl.congr (fun r a b => by rw [xn r (by omega) (by omega) (by omega) (by omega) (by omega), ktM_ne _ _ (by omega)])
  have hfr := h.frlt
  rcases hs with ⟨h1, h2⟩ | ⟨h1, h2⟩
  · have e : doM Mx n R = Mx := if_neg h2
    rw [e]
    exact ⟨fr, n, h.fail h1 hF c0 cf cn x50 xn (fun i _ => by rw [x60]) hL, hlx⟩
  · have e : doM Mx n R = endM Mx n := if_pos h2
    rw [e]
    refine ⟨_, _, h.pass h1 hF c0 cf (fun r a b c _ _ _ _ => cn r a b c) ?_ h.len3 x50 x52 xn ?_ ?_ ?_ hL, hlx.congr (fun r a b => endM_ne _ _ (by omega) (by omega))⟩
    · rw [cn 21 (by omega) (by omega) (by omega)]; exact h.len1
    · rw [x60]; exact h.num2
    · rw [x60]; exact h.real
    · rw [x60]; exact h.len2
theorem hM_52 {M1 : Mm} {F : Nat → Int32} (he : M1 50 = F) {i : Nat} (hi : i < 183) : hM M1 52 i = F i := by
  unfold hM
  rw [setR_same, he]
  unfold cpR
  rw [if_pos ⟨Nat.zero_le _, by omega⟩]
theorem REL.done {M : Mm} {fr n len : Nat} (h : REL M fr n len) (hl : LR M) {R : Int32} {F : Nat → Int32} (hs : sg R) (hF : GX F) :
    ∃ fr' n', REL (doM (setR (hM (edM M R F)) 50 F) n R) fr' n' len ∧ LR (doM (setR (hM (edM M R F)) 50 F) n R) := by
  have hfr := h.frlt
  have h20 : vN (M 20 0) = fr := by rw [h.free]; exact vN_nI (by omega)
  have cn : ∀ r, r ≠ 0 → r ≠ 2 + fr → setR (ntM M) 0 F r = M r := fun r a b => by rw [setR_ne _ _ a, ntM_ne _ (by rw [h20]; exact b)]
  refine REL.after (Mc := setR (ntM M) 0 F) h ?_ hs hF (setR_same _ _ _) ?_ (fun r _ a b => cn r a b) (setR_same _ _ _) ?_ ?_ ?_ ?_
  · exact hl.congr (fun r a b => cn r (by omega) (by omega))
  · rw [setR_ne _ _ (by omega)]
    unfold ntM
    rw [h20]; exact setR_same _ _ _
  · intro i hi
    rw [setR_ne _ _ (by decide)]
    exact hM_52 (h.e50 R F) hi
  · intro r a b _ _ _
    rw [setR_ne _ _ a, hM_ne _ b]; rfl
  · rw [setR_ne _ _ (by decide), hM_ne _ (by decide), edM_hi h.free hfr _ _ (by decide)]
  · refine h.logs.congr (fun r a b => cn r (by omega) (by omega)) ?_
    rw [setR_ne _ _ (by decide), hM_ne _ (by decide), edM_hi h.free hfr _ _ (by decide)]
theorem st_repair {M : Mm} {fr n len : Nat} (h : REL M fr n len) (hl : LR M) (x z : Int32) : ∃ fr' n', REL (doM (setR (hM (edM M (repR (M 0) x z) (repF (M 0) x z))) 50 (repF (M 0) x z)) n (repR (M 0) x z)) fr' n' len ∧ LR (doM (setR (hM (edM M (repR (M 0) x z) (repF (M 0) x z))) 50 (repF (M 0) x z)) n (repR (M 0) x z)) :=
  h.done hl (sg_rep _ _ _) (h.good.rep x z)
theorem st_door {M : Mm} {fr n len : Nat} (h : REL M fr n len) (hl : LR M) (x z : Int32) : ∃ fr' n', REL (doM (setR (hM (edM M (drR (M 0) x z) (drF (M 0) x z))) 50 (drF (M 0) x z)) n (drR (M 0) x z)) fr' n' len ∧ LR (doM (setR (hM (edM M (drR (M 0) x z) (drF (M 0) x z))) 50 (drF (M 0) x z)) n (drR (M 0) x z)) := by
  obtain ⟨t, ht, hg⟩ := h.g
  exact h.done hl (sg_dr hg _ _) (h.good.dr x z)
theorem st_deliver {M : Mm} {fr n len : Nat} (h : REL M fr n len) (hl : LR M) (x : Int32) : ∃ fr' n', REL (doM (setR (hM (edM M (dlR (M 0) x) (dlF (M 0) x))) 50 (dlF (M 0) x)) n (dlR (M 0) x)) fr' n' len ∧ LR (doM (setR (hM (edM M (dlR (M 0) x) (dlF (M 0) x))) 50 (dlF (M 0) x)) n (dlR (M 0) x)) :=
  h.done hl (sg_dl _ _) (h.good.dl x)
/-- passing minutes -/
theorem st_pass {M : Mm} {fr n len : Nat} (h : REL M fr n len) (hl : LR M) (x : Int32) : mpsR (hM (ktM (psM 0 (ntM M) x) (psR 0 (ntM M) x))) x = psR 0 (ntM M) x ∧
    ∃ fr' n', REL (doM (mpsM (hM (ktM (psM 0 (ntM M) x) (psR 0 (ntM M) x))) x) n (mpsR (hM (ktM (psM 0 (ntM M) x) (psR 0 (ntM M) x))) x)) fr' n' len ∧ LR (doM (mpsM (hM (ktM (psM 0 (ntM M) x) (psR 0 (ntM M) x))) x) n (mpsR (hM (ktM (psM 0 (ntM M) x) (psR 0 (ntM M) x))) x)) := by
  have hfr := h.frlt
  obtain ⟨t, ht, hg⟩ := h.g
  have h20 : vN (M 20 0) = fr := by rw [h.free]; exact vN_nI (by omega)
  have n0 : ntM M 0 = M 0 := ntM_0 M
  have nn : ∀ r, r ≠ 2 + fr → ntM M r = M r := fun r b => ntM_ne _ (by rw [h20]; exact b)
  have nf : ntM M (2 + fr) = M 0 := by unfold ntM; rw [h20]; exact setR_same _ _ _
  have cn : ∀ r, r < 30 ∨ 48 ≤ r → r ≠ 0 → psM 0 (ntM M) x r = ntM M r := fun r a b => psM_ne _ _ (by rw [n0]; exact hg.nv.1) a b
  have k50 : ktM (psM 0 (ntM M) x) (psR 0 (ntM M) x) 50 = M 0 := by rw [ktM_ne _ _ (by decide), cn 50 (by omega) (by decide), nn 50 (by omega), h.same]
  have eR : mpsR (hM (ktM (psM 0 (ntM M) x) (psR 0 (ntM M) x))) x = psR 0 (ntM M) x := by rw [mpsR_T, hM_ne _ (by decide), k50, psR_T (by decide), n0]
  refine ⟨eR, ?_⟩
  rw [eR]
  have hGn : GG (ntM M 0) := by rw [n0]; exact h.good.1
  refine REL.after (Mc := psM 0 (ntM M) x) (F := psF (M 0) x) h ?_ ?_ (h.good.ps x) ?_ ?_ ?_ ?_ ?_ ?_ ?_ ?_
  · exact LR.ps (hl.congr (fun r a b => nn r (by omega))) hGn x
  · rw [psR_T (by decide), n0]; exact sg_ps hg x
  · rw [psM_T (by decide), n0]
  · rw [cn _ (by omega) (by omega)]; exact nf
  · intro r a b c; rw [cn r a b, nn r c]
  · rw [mpsM_T, hM_ne _ (by decide), k50]
  · intro i hi; rw [mpsM_ne _ _ (by decide) (by decide)]; exact hM_52 k50 hi
  · intro r a b c _ _; rw [mpsM_ne _ _ a c, hM_ne _ b]
  · rw [mpsM_ne _ _ (by decide) (by decide), hM_ne _ (by decide), ktM_ne _ _ (by decide), cn 60 (by omega) (by decide), nn 60 (by omega)]
  · refine LQ.ps (h.logs.congr (fun r a b => nn r (by omega)) ?_) ?_ hGn x
    · rw [hM_ne _ (by decide), ktM_ne _ _ (by decide), cn 54 (by omega) (by decide), nn 54 (by omega)]
    · rw [hM_ne _ (by decide), k50, n0]
