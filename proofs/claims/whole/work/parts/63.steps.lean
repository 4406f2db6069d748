/-! STEPS: what one call on both sides does to REL. -/
theorem edM_hi {M : Mm} {fr : Nat} (h20 : M 20 0 = nI fr) (hfr : fr < 7) (R : Int32) (F : Nat → Int32) {r : Nat} (hr : 21 ≤ r) : edM M R F r = M r := by
  unfold edM
  rw [ktM_ne _ _ (by omega), setR_ne _ _ (by omega), ntM_ne _ (by rw [h20, vN_nI (by omega)]; omega)]
theorem mE_lo (M : Mm) (k : Nat) (ok : Bool) (F : Nat → Int32) {r : Nat} (hr : r < 50) : mE M k ok F r = M r := by
  unfold mE
  split
  · rw [endM_ne _ _ (by omega) (by omega), setR_ne _ _ (by omega), hM_ne _ (by omega)]
  · rfl
/-- a plain edit on both sides -/
theorem REL.plain {M : Mm} {fr n len : Nat} (h : REL M fr n len) (hl : LR M) {R : Int32} {F : Nat → Int32} {ok : Bool} (hok : errS R = !ok) (hF : GX F) (hno : ok = false → F = M 0) :
    ∃ fr' n', REL (mE (edM M R F) n ok F) fr' n' len ∧ LR (mE (edM M R F) n ok F) := by
  obtain ⟨fr', n', h2⟩ := h.edit hok hF hno
  refine ⟨fr', n', h2, hl.congr (fun r a b => ?_)⟩
  rw [mE_lo _ _ _ _ (by omega), edM_hi h.free h.frlt _ _ (by omega)]
theorem REL.g {M : Mm} {fr n len : Nat} (h : REL M fr n len) : ∃ t, t ≤ 600 ∧ Good (M 0) t (3 * t) := h.good.1
theorem REL.e50 {M : Mm} {fr n len : Nat} (h : REL M fr n len) (R : Int32) (F : Nat → Int32) : edM M R F 50 = M 0 := (edM_hi h.free h.frlt _ _ (by decide)).trans h.same
theorem st_addVan {M : Mm} {fr n len : Nat} (h : REL M fr n len) (hl : LR M) (sp c : Int32) : ∃ fr' n', REL (mE (edM M (newR (M 0) sp c) (newF (M 0) sp c)) n (coldS sp c && decide (M 0 0 < nI 3)) (newF (M 0) sp c)) fr' n' len ∧ LR (mE (edM M (newR (M 0) sp c) (newF (M 0) sp c)) n (coldS sp c && decide (M 0 0 < nI 3)) (newF (M 0) sp c)) := by
  obtain ⟨t, ht, hg⟩ := h.g
  exact h.plain hl (new_ok hg sp c) (h.good.new sp c) new_no
theorem st_setNumber {M : Mm} {fr n len : Nat} (h : REL M fr n len) (hl : LR M) (w x : Int32) : ∃ fr' n', REL (mE (edM M (numR (M 0) w x) (numF (M 0) w x)) n (numS w x) (numF (M 0) w x)) fr' n' len ∧ LR (mE (edM M (numR (M 0) w x) (numF (M 0) w x)) n (numS w x) (numF (M 0) w x)) := by
  obtain ⟨t, ht, hg⟩ := h.g
  exact h.plain hl (num_ok hg w x) (h.good.num w x) num_no
theorem st_setVan {M : Mm} {fr n len : Nat} (h : REL M fr n len) (hl : LR M) (x sp c : Int32) : ∃ fr' n', REL (mE (edM M (vanR (M 0) x sp c) (vanF (M 0) x sp c)) n (hvS (M 0) x && coldS sp c) (vanF (M 0) x sp c)) fr' n' len ∧ LR (mE (edM M (vanR (M 0) x sp c) (vanF (M 0) x sp c)) n (hvS (M 0) x && coldS sp c) (vanF (M 0) x sp c)) := by
  obtain ⟨t, ht, hg⟩ := h.g
  exact h.plain hl (setv_ok hg x sp c) (h.good.setv x sp c) setv_no
theorem st_setProbe {M : Mm} {fr n len : Nat} (h : REL M fr n len) (hl : LR M) (x z m y : Int32) : ∃ fr' n', REL (mE (edM M (prbR (M 0) x z m y) (prbF (M 0) x z m y)) n (hzS (M 0) x z && modeS m y) (prbF (M 0) x z m y)) fr' n' len ∧ LR (mE (edM M (prbR (M 0) x z m y) (prbF (M 0) x z m y)) n (hzS (M 0) x z && modeS m y) (prbF (M 0) x z m y)) := by
  obtain ⟨t, ht, hg⟩ := h.g
  exact h.plain hl (prb_ok hg x z m y) (h.good.prb x z m y) prb_no
theorem st_loadPallet {M : Mm} {fr n len : Nat} (h : REL M fr n len) (hl : LR M) (x z l a w : Int32) : ∃ fr' n', REL (mE (edM M (ldR (M 0) x z l a w) (ldF (M 0) x z l a w)) n (ldB (M 0) x z l a w && !decide (M 0 (6 + 19 * vN x + 2) = 0) && ldC (M 0) x z) (ldF (M 0) x z l a w)) fr' n' len ∧ LR (mE (edM M (ldR (M 0) x z l a w) (ldF (M 0) x z l a w)) n (ldB (M 0) x z l a w && !decide (M 0 (6 + 19 * vN x + 2) = 0) && ldC (M 0) x z) (ldF (M 0) x z l a w)) := by
  obtain ⟨t, ht, hg⟩ := h.g
  exact h.plain hl (ld_ok hg x z l a w) (h.good.ld x z l a w) ld_no
theorem st_detour {M : Mm} {fr n len : Nat} (h : REL M fr n len) (hl : LR M) (s c : Int32) : mdtR (M 0) s c = dtR (M 0) s c ∧ ∃ fr' n', REL (mE (edM M (dtR (M 0) s c) (dtF (M 0) s c)) n (dtB (M 0) s c && mayL (M 0) s (npF (M 0)) 0 true) (mdF (M 0) s c (npF (M 0)))) fr' n' len ∧ LR (mE (edM M (dtR (M 0) s c) (dtF (M 0) s c)) n (dtB (M 0) s c && mayL (M 0) s (npF (M 0)) 0 true) (mdF (M 0) s c (npF (M 0)))) := by
  obtain ⟨t, ht, hg⟩ := h.g
  refine ⟨det_R hg s c, ?_⟩
  have hp := h.plain hl (det_ok s c) (h.good.dt s c) dt_no
  have e : mE (edM M (dtR (M 0) s c) (dtF (M 0) s c)) n (dtB (M 0) s c && mayL (M 0) s (npF (M 0)) 0 true) (mdF (M 0) s c (npF (M 0))) = mE (edM M (dtR (M 0) s c) (dtF (M 0) s c)) n (dtB (M 0) s c && mayL (M 0) s (npF (M 0)) 0 true) (dtF (M 0) s c) := by
    unfold mE
    by_cases q : (dtB (M 0) s c && mayL (M 0) s (npF (M 0)) 0 true) = true
    · rw [if_pos q, if_pos q, det_F hg s c, if_pos q]
    · rw [if_neg q, if_neg q]
  rw [e]
  exact hp
