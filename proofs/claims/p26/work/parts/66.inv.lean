/-! INV: what holds between two turns of the law; the class's edits under it. -/
def INV (M : Mm) : Prop := LA M (M 0) ∧ GX (M 0) ∧ npF (M 0) ≤ 6 ∧ ∃ fr, fr < 7 ∧ M 20 0 = nI fr
abbrev ANS : Option OV → Mm → Prop := fun v M' => v = some (.inl (nI 1)) ∧ INV M'
theorem ktM_at0 (M : Mm) (R : Int32) {r : Nat} (h : r ≠ 20) : ktM M R r = M r := ktM_ne M R h
theorem ktM_fr {M : Mm} {R : Int32} (h : ∃ fr, fr < 7 ∧ M 20 0 = nI fr) : ∃ fr, fr < 7 ∧ ktM M R 20 0 = nI fr := by
  obtain ⟨fr, hfr, e⟩ := h
  unfold ktM
  split
  · exact ⟨fr, hfr, e⟩
  · rw [setR_same]
    unfold ktF
    rw [upd_at, if_neg (by decide), upd_at, if_pos rfl, e]
    by_cases h6 : fr = 6
    · subst h6; exact ⟨0, by decide, if_pos rfl⟩
    · refine ⟨fr + 1, by omega, ?_⟩
      rw [if_neg (fun q => h6 (by have := (nI_eqm fr 6).mp q; omega)), nI_add]
theorem edM_0 {X : Mm} {R : Int32} {F' : Nat → Int32} : edM X R F' 0 = F' := by
  unfold edM
  rw [ktM_at0 _ _ (by decide), setR_same]
theorem edM_hi {X : Mm} {R : Int32} {F' : Nat → Int32} (hf : ∃ fr, fr < 7 ∧ X 20 0 = nI fr) {r : Nat} (h : 9 ≤ r) (h2 : r ≠ 20) : edM X R F' r = X r := by
  obtain ⟨fr, hfr, e⟩ := hf
  unfold edM
  rw [ktM_at0 _ _ h2, setR_ne _ _ (by omega)]
  unfold ntM
  rw [e, vN_nI (by omega), setR_ne _ _ (by omega)]
theorem edM_fr {X : Mm} {R : Int32} {F' : Nat → Int32} (hf : ∃ fr, fr < 7 ∧ X 20 0 = nI fr) : ∃ fr, fr < 7 ∧ edM X R F' 20 0 = nI fr := by
  unfold edM
  refine ktM_fr ?_
  obtain ⟨fr, hfr, e⟩ := hf
  refine ⟨fr, hfr, ?_⟩
  rw [setR_ne _ _ (by decide)]
  unfold ntM
  rw [e, vN_nI (by omega), setR_ne _ _ (by omega)]
  exact e
theorem LA.moved {M X : Mm} {F : Nat → Int32} (h : LA M F) (h0 : X 50 = M 50) (h1 : X 51 = M 51) (h2 : X 52 = M 52) : LA X F := ⟨h0.trans h.1, h1.trans h.2.1, h2.trans h.2.2⟩
theorem LA.ed {X : Mm} {F F' : Nat → Int32} {R : Int32} (hf : ∃ fr, fr < 7 ∧ X 20 0 = nI fr) (h : LA X F) : LA (edM X R F') F :=
  h.moved (edM_hi hf (by decide) (by decide)) (edM_hi hf (by decide) (by decide)) (edM_hi hf (by decide) (by decide))
/-- behind an edit of the class -/
theorem INV.of {X : Mm} {R : Int32} {F' : Nat → Int32} (hf : ∃ fr, fr < 7 ∧ X 20 0 = nI fr) (hL : LA X F') (hF : GX F') (hn : npF F' ≤ 6) : INV (edM X R F') := by
  refine ⟨?_, ?_, ?_, edM_fr hf⟩
  · rw [edM_0]; exact LA.ed hf hL
  · rw [edM_0]; exact hF
  · rw [edM_0]; exact hn
theorem INV.fr {M : Mm} (h : INV M) : ∃ fr, fr < 7 ∧ M 20 0 = nI fr := h.2.2.2
theorem LM_fr {M : Mm} {F : Nat → Int32} (h : ∃ fr, fr < 7 ∧ M 20 0 = nI fr) : ∃ fr, fr < 7 ∧ LM M F 20 0 = nI fr := by
  rw [LM_ne _ _ (by decide)]; exact h
theorem INV.ed {M : Mm} (h : INV M) {R : Int32} {F' : Nat → Int32} (hF : GX F') (hn : npF F' ≤ 6) : INV (edM (LM M F') R F') := INV.of (LM_fr h.fr) LM_LA hF hn
theorem INV.no {M : Mm} (h : INV M) {R : Int32} {F' : Nat → Int32} (hF : F' = M 0) : INV (edM M R F') := by
  subst hF
  exact INV.of h.fr h.1 h.2.1 h.2.2.1
/-- the class's edit first, the law's rows behind it -/
theorem INV.ed2 {M : Mm} (h : INV M) {R : Int32} {F' : Nat → Int32} (hF : GX F') (hn : npF F' ≤ 6) : INV (LM (edM M R F') F') := by
  have e0 : LM (edM M R F') F' 0 = F' := by rw [LM_ne _ _ (by decide), edM_0]
  refine ⟨?_, ?_, ?_, LM_fr (edM_fr h.fr)⟩
  · rw [e0]; exact LM_LA
  · rw [e0]; exact hF
  · rw [e0]; exact hn
theorem INV.ps {M X : Mm} {x R : Int32} (hf : ∃ fr, fr < 7 ∧ X 20 0 = nI fr) (hL : LA X (psF (X 0) x)) (hG : GX (X 0)) (hn : npF (X 0) ≤ 6) : INV (ktM (psM 0 (ntM X) x) R) := by
  obtain ⟨fr, hfr, e⟩ := id hf
  have n0 : ntM X 0 = X 0 := ntM_0 X
  have nn : ∀ r, 9 ≤ r → ntM X r = X r := fun r hr => ntM_ne X (by rw [e, vN_nI (by omega)]; omega)
  obtain ⟨⟨t, ht, hg⟩, hq⟩ := id hG
  have cn : ∀ r, r < 30 ∨ 48 ≤ r → r ≠ 0 → psM 0 (ntM X) x r = ntM X r := fun r a b => psM_ne _ _ (by rw [n0]; exact hg.nv.1) a b
  have e0 : ktM (psM 0 (ntM X) x) R 0 = psF (X 0) x := by rw [ktM_ne _ _ (by decide), psM_T (by decide), n0]
  refine ⟨?_, ?_, ?_, ktM_fr ⟨fr, hfr, ?_⟩⟩
  · rw [e0]
    refine hL.moved ?_ ?_ ?_
    · rw [ktM_ne _ _ (by decide), cn _ (by decide) (by decide), nn _ (by decide)]
    · rw [ktM_ne _ _ (by decide), cn _ (by decide) (by decide), nn _ (by decide)]
    · rw [ktM_ne _ _ (by decide), cn _ (by decide) (by decide), nn _ (by decide)]
  · rw [e0]; exact hG.ps x
  · rw [e0]
    have := samP.ps hg x
    rw [npF_eq this.2.1]
    exact hn
  · rw [cn _ (by decide) (by decide), nn _ (by decide)]; exact e
theorem inn_bt {x lo hi : Int32} (h1 : lo.toInt ≤ x.toInt) (h2 : x.toInt ≤ hi.toInt) : inn x lo hi = true := by
  unfold inn
  simp only [Bool.and_eq_true, Bool.not_eq_true', decide_eq_false_iff_not, Int32.lt_iff_toInt_lt]
  omega
theorem inn_ge {a lo hi : Nat} (h1 : lo ≤ a) (h2 : a ≤ hi) (h3 : hi < 2147483648) : inn (nI a) (nI lo) (nI hi) = true := inn_bt (by rw [nI_toInt (by omega), nI_toInt (by omega)]; omega) (by rw [nI_toInt (by omega), nI_toInt (by omega)]; omega)
theorem sub_bt {a b : Nat} (ha : a < 100000) (hb : b < 100000) : (nI a - nI b).toInt = (a : Int) - b := by
  rw [isub (by rw [nI_toInt (by omega), nI_toInt (by omega)]; omega) (by rw [nI_toInt (by omega), nI_toInt (by omega)]; omega), nI_toInt (by omega), nI_toInt (by omega)]
theorem inn_sub {a b : Nat} {lo hi : Int32} (ha : a < 100000) (hb : b < 100000) (h1 : lo.toInt ≤ (a : Int) - b) (h2 : (a : Int) - b ≤ hi.toInt) : inn (nI a - nI b) lo hi = true := inn_bt (by rw [sub_bt ha hb]; exact h1) (by rw [sub_bt ha hb]; exact h2)
theorem m300 : ((-300) : Int32).toInt = -300 := by decide
theorem m200 : ((-200) : Int32).toInt = -200 := by decide
theorem k450 : (nI 450).toInt = 450 := by decide
theorem k200 : (nI 200).toInt = 200 := by decide
theorem k300 : (nI 300).toInt = 300 := by decide
theorem cold_w (W : Nat) : coldS (nI (W % 401) - nI 300) (nI (W / 401 % 31)) = true := by
  unfold coldS
  rw [inn_sub (by omega) (by omega) (by rw [m300]; omega) (by rw [i100]; omega), inn_ge (by omega) (by omega) (by decide)]
  rfl
theorem cold_w0 (W : Nat) : coldS (nI (W % 401) - nI 300) (nI 0) = true := by
  unfold coldS
  rw [inn_sub (by omega) (by omega) (by rw [m300]; omega) (by rw [i100]; omega), inn_ge (by omega) (by omega) (by decide)]
  rfl
theorem cold_v (W : Nat) : coldS (nI (W / 3 % 401) - nI 300) (nI (W / 7 % 31)) = true := by
  unfold coldS
  rw [inn_sub (by omega) (by omega) (by rw [m300]; omega) (by rw [i100]; omega), inn_ge (by omega) (by omega) (by decide)]
  rfl
theorem hv_t {F : Nat → Int32} {nv v : Nat} (h0 : F 0 = nI nv) (hn : nv ≤ 3) (hv : v < nv) : hvS F (nI v) = true := by
  unfold hvS
  rw [h0]
  simp only [Bool.and_eq_true, Bool.not_eq_true', decide_eq_false_iff_not]
  exact ⟨fun q => by rw [Int32.lt_iff_toInt_lt, nI_toInt (by omega), show (0 : Int32).toInt = 0 from rfl] at q; omega, nI_ge hv (by omega)⟩
theorem hz_t {F : Nat → Int32} {nv v z : Nat} (h0 : F 0 = nI nv) (hn : nv ≤ 3) (hv : v < nv) (hz : z < 3) : hzS F (nI v) (nI z) = true := by
  unfold hzS
  rw [hv_t h0 hn hv, inn_ge (by omega) (by omega) (by decide)]
  rfl
theorem hp_t {F : Nat → Int32} {np p : Nat} (h1 : F 1 = nI np) (hm : np ≤ 12) (hp : p < np) : hpS F (nI p) = true := by
  unfold hpS
  rw [h1]
  simp only [Bool.and_eq_true, Bool.not_eq_true', decide_eq_false_iff_not]
  exact ⟨fun q => by rw [Int32.lt_iff_toInt_lt, nI_toInt (by omega), show (0 : Int32).toInt = 0 from rfl] at q; omega, nI_ge hp (by omega)⟩
/-! the class's edits, at ints X whose state is F -/
section Cx
variable {X : Mm} {F : Nat → Int32} {fr nv np : Nat}
theorem cx_addVan (hX : X 0 = F) (hf : ∃ fr, fr < 7 ∧ X 20 0 = nI fr) (hB : BoolOK F) (hn : nv ≤ 3) (h0 : F 0 = nI nv) (sp c : Int32) : Ct yX6_addVan cX6_addVan 3 (some .int) 4 85 [.inr (6, 0, 0, 0), .inl sp, .inl c] X (RI (newR F sp c) (edM X (newR F sp c) (newF F sp c))) := by
  subst hX; obtain ⟨fr, hfr, e⟩ := hf; exact ct_X6_addVan hfr hn sp c X e hB h0
theorem cx_setNumber (hX : X 0 = F) (hf : ∃ fr, fr < 7 ∧ X 20 0 = nI fr) (hB : BoolOK F) (w x : Int32) : Ct yX6_setNumber cX6_setNumber 3 (some .int) 4 85 [.inr (6, 0, 0, 0), .inl w, .inl x] X (RI (numR F w x) (edM X (numR F w x) (numF F w x))) := by
  subst hX; obtain ⟨fr, hfr, e⟩ := hf; exact ct_X6_setNumber hfr w x X e hB
theorem cx_setVan (hX : X 0 = F) (hf : ∃ fr, fr < 7 ∧ X 20 0 = nI fr) (hB : BoolOK F) (hn : nv ≤ 3) (h0 : F 0 = nI nv) (x sp c : Int32) : Ct yX6_setVan cX6_setVan 4 (some .int) 4 85 [.inr (6, 0, 0, 0), .inl x, .inl sp, .inl c] X (RI (vanR F x sp c) (edM X (vanR F x sp c) (vanF F x sp c))) := by
  subst hX; obtain ⟨fr, hfr, e⟩ := hf; exact ct_X6_setVan hfr hn x sp c X e hB h0
theorem cx_setProbe (hX : X 0 = F) (hf : ∃ fr, fr < 7 ∧ X 20 0 = nI fr) (hB : BoolOK F) (hn : nv ≤ 3) (h0 : F 0 = nI nv) (x z m y : Int32) : Ct yX6_setProbe cX6_setProbe 5 (some .int) 4 85 [.inr (6, 0, 0, 0), .inl x, .inl z, .inl m, .inl y] X (RI (prbR F x z m y) (edM X (prbR F x z m y) (prbF F x z m y))) := by
  subst hX; obtain ⟨fr, hfr, e⟩ := hf; exact ct_X6_setProbe hfr hn x z m y X e hB h0
theorem cx_repair (hX : X 0 = F) (hf : ∃ fr, fr < 7 ∧ X 20 0 = nI fr) (hB : BoolOK F) (hn : nv ≤ 3) (h0 : F 0 = nI nv) (x z : Int32) : Ct yX6_repair cX6_repair 3 (some .int) 4 85 [.inr (6, 0, 0, 0), .inl x, .inl z] X (RI (repR F x z) (edM X (repR F x z) (repF F x z))) := by
  subst hX; obtain ⟨fr, hfr, e⟩ := hf; exact ct_X6_repair hfr hn x z X e hB h0
theorem cx_loadPallet (hX : X 0 = F) (hf : ∃ fr, fr < 7 ∧ X 20 0 = nI fr) (hB : BoolOK F) (hn : nv ≤ 3) (h0 : F 0 = nI nv) (hm : np ≤ 12) (h1 : F 1 = nI np) (x z l a w : Int32) : Ct yX6_loadPallet cX6_loadPallet 6 (some .int) 4 85 [.inr (6, 0, 0, 0), .inl x, .inl z, .inl l, .inl a, .inl w] X (RI (ldR F x z l a w) (edM X (ldR F x z l a w) (ldF F x z l a w))) := by
  subst hX; obtain ⟨fr, hfr, e⟩ := hf; exact ct_X6_loadPallet hfr hn hm x z l a w X e hB h0 h1
theorem cx_door (hX : X 0 = F) (hf : ∃ fr, fr < 7 ∧ X 20 0 = nI fr) (hB : BoolOK F) (hn : nv ≤ 3) (h0 : F 0 = nI nv) (hm : np ≤ 12) (h1 : F 1 = nI np) (x y : Int32) : Ct yX6_door cX6_door 3 (some .int) 4 85 [.inr (6, 0, 0, 0), .inl x, .inl y] X (RI (drR F x y) (edM X (drR F x y) (drF F x y))) := by
  subst hX; obtain ⟨fr, hfr, e⟩ := hf; exact ct_X6_door hfr hn hm x y X e hB h0 h1
theorem cx_deliver (hX : X 0 = F) (hf : ∃ fr, fr < 7 ∧ X 20 0 = nI fr) (hB : BoolOK F) (hvo : vOK F) (hm : np ≤ 12) (h1 : F 1 = nI np) (x : Int32) : Ct yX6_deliver cX6_deliver 2 (some .int) 4 85 [.inr (6, 0, 0, 0), .inl x] X (RI (dlR F x) (edM X (dlR F x) (dlF F x))) := by
  subst hX; obtain ⟨fr, hfr, e⟩ := hf; exact ct_X6_deliver hfr hm x X e hB h1 hvo
theorem cx_detour (hX : X 0 = F) (hf : ∃ fr, fr < 7 ∧ X 20 0 = nI fr) (hB : BoolOK F) (hm : np ≤ 12) (h1 : F 1 = nI np) (s c : Int32) : Ct yX6_detour cX6_detour 3 (some .int) 4 85 [.inr (6, 0, 0, 0), .inl s, .inl c] X (RI (dtR F s c) (edM X (dtR F s c) (dtF F s c))) := by
  subst hX; obtain ⟨fr, hfr, e⟩ := hf; exact ct_X6_detour hfr hm s c X e hB h1
theorem cx_pass (hX : X 0 = F) (hf : ∃ fr, fr < 7 ∧ X 20 0 = nI fr) {t T : Nat} (hg : Good F t T) (ht : t ≤ 600) (x : Int32) : Ct yX6_pass cX6_pass 2 (some .int) 5 119 [.inr (6, 0, 0, 0), .inl x] X (RI (psN F x) (ktM (psM 0 (ntM X) x) (psN F x))) := by
  subst hX; obtain ⟨fr, hfr, e⟩ := hf
  have := ct_X6_pass hfr hg.nv.1 hg.np.1 ht x X e hg.bok hg.sok hg.n2
  rw [psR_T (by decide), ntM_0] at this
  exact this
end Cx
