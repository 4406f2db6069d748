/-! LPASS: minutes on the law's own rows. -/
def LM (M : Mm) (F : Nat → Int32) : Mm := setR (setR (setR M 50 (gF F)) 51 (sh F)) 52 (pk F)
theorem LM_ne (M : Mm) (F : Nat → Int32) {r : Nat} (h : r ≠ 50 ∧ r ≠ 51 ∧ r ≠ 52) : LM M F r = M r := by
  unfold LM; rw [setR_ne _ _ h.2.2, setR_ne _ _ h.2.1, setR_ne _ _ h.1]
theorem LM_LA {M : Mm} {F : Nat → Int32} : LA (LM M F) F := by
  refine ⟨?_, ?_, setR_same _ _ _⟩
  · unfold LM; rw [setR_ne _ _ (by decide), setR_ne _ _ (by decide), setR_same]
  · unfold LM; rw [setR_ne _ _ (by decide), setR_same]
theorem mm3 {A B : Mm} (h0 : A 50 = B 50) (h1 : A 51 = B 51) (h2 : A 52 = B 52) (h : ∀ r, r ≠ 50 ∧ r ≠ 51 ∧ r ≠ 52 → A r = B r) : A = B := by
  funext r
  by_cases e0 : r = 50
  · subst e0; exact h0
  · by_cases e1 : r = 51
    · subst e1; exact h1
    · by_cases e2 : r = 52
      · subst e2; exact h2
      · exact h r ⟨e0, e1, e2⟩
theorem LA.LM {M : Mm} {F : Nat → Int32} (h : LA M F) : Jvm.Pilot.@@N@@.LM M F = M := mm3 (LM_LA.1.trans h.1.symm) (LM_LA.2.1.trans h.2.1.symm) (LM_LA.2.2.trans h.2.2.symm) (fun r hr => LM_ne M F hr)
theorem LM_LM (M : Mm) (F F' : Nat → Int32) : LM (LM M F) F' = LM M F' := mm3 (LM_LA.1.trans LM_LA.1.symm) (LM_LA.2.1.trans LM_LA.2.1.symm) (LM_LA.2.2.trans LM_LA.2.2.symm) (fun r hr => by rw [LM_ne _ _ hr, LM_ne _ _ hr, LM_ne _ _ hr])
theorem LA.at50 {M : Mm} {F F' : Nat → Int32} (h : LA M F) (hs : ∀ i, 6 ≤ i → F i = F' i) : setR M 50 (gF F') = Jvm.Pilot.@@N@@.LM M F' := by
  refine mm3 ?_ ?_ ?_ (fun r hr => ?_)
  · rw [setR_same]; exact LM_LA.1.symm
  · rw [setR_ne _ _ (by decide), h.2.1, LM_LA.2.1]; exact sh_congr (fun i h1 _ => hs i h1)
  · rw [setR_ne _ _ (by decide), h.2.2, LM_LA.2.2]; exact pk_congr (fun i h1 => hs i (by omega))
  · rw [setR_ne _ _ hr.1, LM_ne _ _ hr]
theorem LA.at51 {M : Mm} {F F' : Nat → Int32} (h : LA M F) (hg : ∀ i, i < 6 → F i = F' i) (hp : ∀ i, 63 ≤ i → F i = F' i) : setR M 51 (sh F') = Jvm.Pilot.@@N@@.LM M F' := by
  refine mm3 ?_ ?_ ?_ (fun r hr => ?_)
  · rw [setR_ne _ _ (by decide), h.1, LM_LA.1]; exact gF_congr hg
  · rw [setR_same]; exact LM_LA.2.1.symm
  · rw [setR_ne _ _ (by decide), h.2.2, LM_LA.2.2]; exact pk_congr hp
  · rw [setR_ne _ _ hr.2.1, LM_ne _ _ hr]
theorem LA.at52 {M : Mm} {F F' : Nat → Int32} (h : LA M F) (hs : ∀ i, i < 63 → F i = F' i) : setR M 52 (pk F') = Jvm.Pilot.@@N@@.LM M F' := by
  refine mm3 ?_ ?_ ?_ (fun r hr => ?_)
  · rw [setR_ne _ _ (by decide), h.1, LM_LA.1]; exact gF_congr (fun i hi => hs i (by omega))
  · rw [setR_ne _ _ (by decide), h.2.1, LM_LA.2.1]; exact sh_congr (fun i _ h2 => hs i h2)
  · rw [setR_same]; exact LM_LA.2.2.symm
  · rw [setR_ne _ _ hr.2.2, LM_ne _ _ hr]
theorem minL_eq {M : Mm} {F : Nat → Int32} (h : LA M F) {v : Nat} (hv : v < 3) (D P : Int32) : setR M 51 (sh (findA (midF F v) v D P)) = LM M (findA (midF F v) v D P) :=
  h.at51 (fun i hi => by rw [findA_lo _ _ _ (by omega), midF_lo _ (by omega)]) (fun i hi => by rw [findA_out _ _ _ hv (by omega), midF_out _ hv (by omega)])
/-- what the pallets' loop needs -/
def PO (F : Nat → Int32) : Prop := BoolOK F ∧ zOK F ∧ vOK F
theorem Good.po {F : Nat → Int32} {t T : Nat} (h : Good F t T) : PO F := ⟨h.bok, h.zok, h.vok⟩
theorem PO.of {F F' : Nat → Int32} (h : PO F) (h1 : ∀ i, i < 63 → F' i = F i) (h2 : ∀ p, F' (63 + 10 * p) = F (63 + 10 * p) ∧ F' (63 + 10 * p + 1) = F (63 + 10 * p + 1)) : PO F' := by
  refine ⟨⟨fun v hv => ?_, fun v z hv hz => ?_⟩, fun p hp => ?_, fun p hp => ?_⟩
  · rw [h1 _ (by omega)]; exact h.1.1 v hv
  · rw [h1 _ (by omega)]; exact h.1.2 v z hv hz
  · rw [(h2 p).2]; exact h.2.1 p hp
  · rw [(h2 p).1]; exact h.2.2 p hp
theorem PO.pm {F : Nat → Int32} (h : PO F) (p : Nat) : PO (pm1 F p) := h.of (fun i hi => pm1_lo F p hi) (fun q => ⟨pm1_st F p (j := 0) (by decide), pm1_st F p (by decide)⟩)
theorem warmP_nn (F : Nat → Int32) {v p z i : Nat} (h : i ≠ 63 + 10 * p + 6) (h2 : i ≠ 63 + 10 * p + 7) : warmP F v p z i = F i := by
  unfold warmP
  split
  · rfl
  · split
    · rw [upd_at, if_neg h2]
    · rw [upd_at, if_neg h]
theorem law_warm {M : Mm} {F : Nat → Int32} (hL : LA M F) {v p z : Nat} (hp : p < 6) (hd : F (6 + 19 * v + 2) = 0 ∨ F (6 + 19 * v + 2) = 1) {w : Int32} (hw : w = if F (10 + 19 * v + 5 * z) ≤ F (63 + 10 * p + 2) then nI 0 else nI 1) :
    wr (wr M 52 (10 * p + 5) (F (63 + 10 * p + 6) + w * F (6 + 19 * v + 2))) 52 (10 * p + 6) (F (63 + 10 * p + 7) + w * (nI 1 - F (6 + 19 * v + 2))) = LM M (warmP F v p z) := by
  rw [wr_eq, wr_eq, setR_same, setR_setR, hL.2.2, upd_p F _ hp (by decide) (by decide) (show 63 + 10 * p + 6 = 63 + 10 * p + 5 + 1 from rfl), upd_p _ _ hp (by decide) (by decide) (show 63 + 10 * p + 7 = 63 + 10 * p + 6 + 1 from rfl)]
  have hs6 : upd F (63 + 10 * p + 6) (F (63 + 10 * p + 6)) = F := upd_self _ _
  have hs7 : ∀ x, upd (upd F (63 + 10 * p + 6) x) (63 + 10 * p + 7) (F (63 + 10 * p + 7)) = upd F (63 + 10 * p + 6) x := fun x => by
    have := upd_self (upd F (63 + 10 * p + 6) x) (63 + 10 * p + 7)
    rw [upd_at, if_neg (by omega)] at this
    exact this
  have e : upd (upd F (63 + 10 * p + 6) (F (63 + 10 * p + 6) + w * F (6 + 19 * v + 2))) (63 + 10 * p + 7) (F (63 + 10 * p + 7) + w * (nI 1 - F (6 + 19 * v + 2))) = warmP F v p z := by
    unfold warmP
    have z0 : nI 0 = 0 := rfl
    have z1 : nI 1 = 1 := rfl
    by_cases hc : F (10 + 19 * v + 5 * z) ≤ F (63 + 10 * p + 2)
    · rw [if_pos hc] at hw ⊢
      subst hw
      rw [z0, Int32.zero_mul, Int32.zero_mul, Int32.add_zero, Int32.add_zero, hs6]
      exact upd_self _ _
    · rw [if_neg hc] at hw ⊢
      subst hw
      rcases hd with hd | hd
      · rw [if_pos hd, hd, z1, Int32.mul_zero, Int32.add_zero, hs6, show (1 : Int32) * (1 - 0) = 1 from by decide]
      · rw [hd, if_neg (by decide), z1, show (1 : Int32) * (1 - 1) = 0 from by decide, Int32.add_zero, hs7, Int32.mul_one]
  rw [e]
  exact hL.at52 (fun i hi => (warmP_nn F (by omega) (by omega)).symm)
theorem law_told {M : Mm} {F : Nat → Int32} {v p z : Nat} (hp : p < 6) {w : Int32} (hw : w = if toldF F v z ≤ F (63 + 10 * p + 2) then nI 0 else nI 1) :
    wr (LM M F) 52 (10 * p + 7) (F (63 + 10 * p + 8) + w) = LM M (tellP F v p z) := by
  rw [wr_eq, LM_LA.2.2, upd_p F _ hp (by decide) (by decide) (show 63 + 10 * p + 8 = 63 + 10 * p + 7 + 1 from rfl)]
  have e : upd F (63 + 10 * p + 8) (F (63 + 10 * p + 8) + w) = tellP F v p z := by
    unfold tellP
    split at hw
    · rename_i h
      rw [if_pos h, hw, nI_0, Int32.add_zero]; exact upd_self _ _
    · rename_i h
      rw [if_neg h, hw]
  rw [e, LM_LA.at52 (fun i hi => by unfold tellP; split; rfl; rw [upd_at, if_neg (by omega)]), LM_LM]
theorem pm1_eq {F : Nat → Int32} {p v z : Nat} (hs : F (63 + 10 * p + 5) = 0) (ev : F (63 + 10 * p) = nI v) (ez : F (63 + 10 * p + 1) = nI z) (hv : v < 3) (hz : z < 3) : pm1 F p = tellP (warmP F v p z) v p z := by
  unfold pm1
  rw [if_pos hs, ev, vN_nI (by omega)]
  have : zP F p = z := by unfold zP; rw [ez]; exact nI_clamp (by omega)
  rw [this]
  rfl
theorem vsF_hi {G : Nat → Int32} (hm : npF G ≤ 12) {i : Nat} (hi : 183 ≤ i) : ∀ (n v : Nat) (F : Nat → Int32), v + n ≤ 3 → npF F = npF G → vsF n v F i = F i := by
  intro n
  induction n with
  | zero => intro v F _ _; rfl
  | succ n ih =>
    intro v F hv hF
    have hn : npF (minF F v) = npF F := by unfold npF; rw [minF_lo _ (by decide)]
    show vsF n (v + 1) (minF F v) i = F i
    rw [ih (v + 1) _ (by omega) (hn.trans hF)]
    unfold minF
    rw [addL_fr _ _ _ _ (fun q _ h2 _ => by omega), findA_out _ _ _ (by omega) (by omega), midF_out _ (by omega) (by omega)]
/-- the law's minute is the class's -/
theorem lm_eq {G : Nat → Int32} {t T : Nat} (hg : Good G t T) (hw : WV G) : lpF (npF G) 0 (lvF (nvF G) 0 G) = vsF (nvF G) 0 G := by
  obtain ⟨hnv, e0⟩ := hg.nv
  obtain ⟨hnp, e1⟩ := hg.np
  obtain ⟨u1, -, u3⟩ := vs_U (nvF G) 0 G (by omega) hnp hg.zok
  have lo : ∀ i, 63 ≤ i → lvF (nvF G) 0 G i = G i := fun i hi => lv_out _ _ _ (by omega) (by omega)
  have zz : ∀ q, zP (lvF (nvF G) 0 G) q = zP G q := fun q => by unfold zP; rw [lo _ (by omega)]
  funext i
  by_cases h63 : i < 63
  · rw [lpF_lo _ _ _ h63]; exact (u1 i h63).symm
  · obtain ⟨q, j, hj, rfl⟩ : ∃ q j, j < 10 ∧ i = 63 + 10 * q + j := ⟨(i - 63) / 10, (i - 63) % 10, by omega, by omega⟩
    rw [lpF_U _ _ _ q j hj (fun q hq => by
      rw [zz, lo _ (by omega)]
      obtain ⟨v, hv, ev⟩ := hg.pv (p := q) (by omega)
      rw [ev, vN_nI (by omega)]
      exact ⟨(hg.zok.at (by omega)).1, hv⟩)]
    by_cases hq : q < npF G
    · obtain ⟨w, hw1, ew⟩ := hw q hq
      rw [if_pos ⟨by omega, by omega⟩, u3 q j (by omega) hj w (by omega) ew]
      unfold pm1
      rw [lo _ (by omega), lo (63 + 10 * q) (by omega), zz, ew, vN_nI (by omega)]
      by_cases h5 : G (63 + 10 * q + 5) = 0
      · rw [if_pos h5, if_pos ⟨by omega, by omega, hq, h5⟩]
      · rw [if_neg h5, if_neg (fun h => h5 h.2.2.2), lo _ (by omega)]
    · rw [if_neg (by omega), lo _ (by omega)]
      by_cases h12 : q < 12
      · obtain ⟨w, hw1, ew⟩ := hg.pv (p := q) h12
        rw [u3 q j h12 hj w hw1 ew, if_neg (fun h => hq h.2.2.1)]
      · exact (vsF_hi hnp (by omega) _ _ _ (by omega) rfl).symm
theorem ln_eq {G : Nat → Int32} {t T : Nat} (hg : Good G t T) (a : Int32) : vsN (nvF G) 0 G a = lvN (nvF G) 0 G a :=
  (vs_U (nvF G) 0 G (by have := hg.nv.1; omega) hg.np.1 hg.zok).2.1 a
theorem Good.lv {t T : Nat} : ∀ (n v : Nat) (F : Nat → Int32), v + n ≤ 3 → Good F t T → Good (lvF n v F) t T := by
  intro n
  induction n with
  | zero => intro v F _ h; exact h
  | succ n ih => intro v F hv h; exact ih (v + 1) _ (by omega) ((h.kmid (by omega)).kfindA (by omega))
set_option maxRecDepth 20000 in
set_option maxHeartbeats 4000000 in
theorem lp_L_vans {G : Gl} {Φ : Option OV → Mm → Prop} {nv t T : Nat} (hn : nv ≤ 3) {m k : Nat} (x7 x8 x9 : Option OV) : ∀ (n p : Nat) (M : Mm) (F : Nat → Int32) (acc : Int32), p + n = nv → (LA M F) → (Good F t T) → (F 0 = nI nv) → (AW G cL_passes RL 10 4 95 (some .int) Φ 48 [some (.inr (9, 50, 6, 0)), some (.inr (9, 51, 57, 0)), some (.inr (9, 52, 60, 0)), some (.inl (nI m)), some (.inl (lvN n p F acc)), some (.inl (nI k)), some (.inl (nI nv)), x7, x8, x9] [] (LM M (lvF n p F))) → AW G cL_passes RL 10 4 95 (some .int) Φ 22 [some (.inr (9, 50, 6, 0)), some (.inr (9, 51, 57, 0)), some (.inr (9, 52, 60, 0)), some (.inl (nI m)), some (.inl acc), some (.inl (nI k)), some (.inl (nI p)), x7, x8, x9] [] M := by
  intro n
  induction n with
  | zero =>
    intro p M F acc he hL hg h0 hΦ
    refine a_il_6_10 (pc' := 24) dL_passes_22 rfl ?_
    refine a_al_0_10 (pc' := 25) dL_passes_24 rfl ?_
    refine a_iconst (v := nI 0) (pc' := 26) dL_passes_25 (by decide) rfl ?_
    refine a_ialdN (pc' := 27) rfl (by omega) (by decide) dL_passes_26 rfl ?_
    rw [hL.g (show 0 < 6 by decide), h0]
    refine a_icmp_ge (pc' := 30) (tgt := 48) dL_passes_27 (by decide) rfl (fun c_27 => ?_) (fun c_27 => absurd (nI_le (by omega) (by omega)) c_27)
    obtain rfl : p = nv := by omega
    rw [show LM M (lvF 0 p F) = M from hL.LM] at hΦ
    exact hΦ
  | succ n ih =>
    intro p M F acc he hL hg h0 hΦ
    refine a_il_6_10 (pc' := 24) dL_passes_22 rfl ?_
    refine a_al_0_10 (pc' := 25) dL_passes_24 rfl ?_
    refine a_iconst (v := nI 0) (pc' := 26) dL_passes_25 (by decide) rfl ?_
    refine a_ialdN (pc' := 27) rfl (by omega) (by decide) dL_passes_26 rfl ?_
    rw [hL.g (show 0 < 6 by decide), h0]
    refine a_icmp_ge (pc' := 30) (tgt := 48) dL_passes_27 (by decide) rfl (fun c_27 => absurd c_27 (nI_ge (by omega) (by omega))) (fun c_27 => ?_)
    refine a_il_4_10 (pc' := 32) dL_passes_30 rfl ?_
    refine a_al_0_10 (pc' := 33) dL_passes_32 rfl ?_
    refine a_al_1_10 (pc' := 34) dL_passes_33 rfl ?_
    refine a_il_6_10 (pc' := 36) dL_passes_34 rfl ?_
    refine k_SI (pc' := 39) (ct_L_vanMinute (v := p) (by omega) _ hL hg) cw_L_27 ms_L_vanMinute rfl (by decide) (by decide) (Nat.le_of_ble_eq_true rfl) rfl dL_passes_36 rfl ?_
    rw [minL_eq hL (by omega)]
    refine a_iadd (pc' := 40) dL_passes_39 rfl ?_
    refine a_is_4_10 (pc' := 42) dL_passes_40 rfl ?_
    refine a_iN_6_10 (m := p + 1) (pc' := 45) dL_passes_42 (nI_add _ _) rfl ?_
    refine a_goto (pc' := 22) dL_passes_45 (by decide) ?_
    exact ih (p + 1) _ _ _ (by omega) LM_LA ((hg.kmid (by omega)).kfindA (by omega)) (by rw [findA_lo _ _ _ (by decide), midF_lo _ (by decide)]; exact h0) (by rw [LM_LM]; exact hΦ)
set_option maxRecDepth 20000 in
set_option maxHeartbeats 4000000 in
theorem lp_L_pals {G : Gl} {Φ : Option OV → Mm → Prop} {np : Nat} (hm : np ≤ 6) {m k : Nat} (acc : Int32) : ∀ (n p : Nat) (M : Mm) (F : Nat → Int32) (x7 x8 x9 : Option OV), p + n = np → (LA M F) → (PO F) → (F 1 = nI np) → (∀ y7 y8 y9 : Option OV, AW G cL_passes RL 10 4 95 (some .int) Φ 184 [some (.inr (9, 50, 6, 0)), some (.inr (9, 51, 57, 0)), some (.inr (9, 52, 60, 0)), some (.inl (nI m)), some (.inl acc), some (.inl (nI k)), some (.inl (nI np)), y7, y8, y9] [] (LM M (lpF n p F))) → AW G cL_passes RL 10 4 95 (some .int) Φ 51 [some (.inr (9, 50, 6, 0)), some (.inr (9, 51, 57, 0)), some (.inr (9, 52, 60, 0)), some (.inl (nI m)), some (.inl acc), some (.inl (nI k)), some (.inl (nI p)), x7, x8, x9] [] M := by
  intro n
  induction n with
  | zero =>
    intro p M F x7 x8 x9 he hL hb h1 hΦ
    refine a_il_6_10 (pc' := 53) dL_passes_51 rfl ?_
    refine a_al_0_10 (pc' := 54) dL_passes_53 rfl ?_
    refine a_iconst (v := nI 1) (pc' := 55) dL_passes_54 (by decide) rfl ?_
    refine a_ialdN (pc' := 56) rfl (by omega) (by decide) dL_passes_55 rfl ?_
    rw [hL.g (show 1 < 6 by decide), h1]
    refine a_icmp_ge (pc' := 59) (tgt := 184) dL_passes_56 (by decide) rfl (fun c_56 => ?_) (fun c_56 => absurd (nI_le (by omega) (by omega)) c_56)
    obtain rfl : p = np := by omega
    have hΦ2 := hΦ x7 x8 x9
    rw [show LM M (lpF 0 p F) = M from hL.LM] at hΦ2
    exact hΦ2
  | succ n ih =>
    intro p M F x7 x8 x9 he hL hb h1 hΦ
    have hp6 : p < 6 := by omega
    obtain ⟨v, hv, ev⟩ := hb.2.2 p (by omega)
    obtain ⟨z, hz, ez⟩ := hb.2.1 p (by omega)
    have hp0 : M 52 (10 * p) = nI (3 * v + z) := by rw [hL.p0 hp6, ev, ez, pk_mul, nI_add]
    have hp4 : M 52 (10 * p + 4) = F (63 + 10 * p + 5) := hL.p hp6 4 5 (by decide) (by decide) rfl
    have hp1 : M 52 (10 * p + 1) = F (63 + 10 * p + 2) := hL.p hp6 1 2 (by decide) (by decide) rfl
    have hp5 : M 52 (10 * p + 5) = F (63 + 10 * p + 6) := hL.p hp6 5 6 (by decide) (by decide) rfl
    have hp6' : ∀ x, wr M 52 (10 * p + 5) x 52 (10 * p + 6) = F (63 + 10 * p + 7) := fun x => (if_neg (by omega)).trans (hL.p hp6 6 7 (by decide) (by decide) rfl)
    have h3v : (3 * v + z) / 3 = v := by omega
    have hL1 : LA (LM M (warmP F v p z)) (warmP F v p z) := LM_LA
    have w7 : LM M (warmP F v p z) 52 (10 * p + 7) = warmP F v p z (63 + 10 * p + 8) := hL1.p hp6 7 8 (by decide) (by decide) rfl
    have w1 : LM M (warmP F v p z) 52 (10 * p + 1) = warmP F v p z (63 + 10 * p + 2) := hL1.p hp6 1 2 (by decide) (by decide) rfl
    have w0 : LM M (warmP F v p z) 52 (10 * p) = nI (3 * v + z) := by rw [hL1.p0 hp6, warmP_nn _ (by omega) (by omega), warmP_nn _ (by omega) (by omega), ev, ez, pk_mul, nI_add]
    have wf : warmP F v p z (10 + 19 * v + 5 * z + 3) = 0 ∨ warmP F v p z (10 + 19 * v + 5 * z + 3) = 1 := by rw [warmP_nn _ (by omega) (by omega)]; exact hb.1.2 v z hv hz
    refine a_il_6_10 (pc' := 53) dL_passes_51 rfl ?_
    refine a_al_0_10 (pc' := 54) dL_passes_53 rfl ?_
    refine a_iconst (v := nI 1) (pc' := 55) dL_passes_54 (by decide) rfl ?_
    refine a_ialdN (pc' := 56) rfl (by omega) (by decide) dL_passes_55 rfl ?_
    rw [hL.g (show 1 < 6 by decide), h1]
    refine a_icmp_ge (pc' := 59) (tgt := 184) dL_passes_56 (by decide) rfl (fun c_56 => absurd c_56 (nI_ge (by omega) (by omega))) (fun c_56 => ?_)
    refine a_bipush (v := nI 10) (pc' := 61) dL_passes_59 (by decide) rfl ?_
    refine a_il_6_10 (pc' := 63) dL_passes_61 rfl ?_
    refine a_imulN (pc' := 64) dL_passes_63 rfl ?_
    refine a_is_7_10 (pc' := 66) dL_passes_64 rfl ?_
    refine a_al_2_10 (pc' := 67) dL_passes_66 rfl ?_
    refine a_il_7_10 (pc' := 69) dL_passes_67 rfl ?_
    refine a_iconst (v := nI 4) (pc' := 70) dL_passes_69 (by decide) rfl ?_
    refine a_iaddN (pc' := 71) dL_passes_70 rfl ?_
    refine a_ialdN (pc' := 72) rfl (by omega) (by decide) dL_passes_71 rfl ?_
    rw [hp4]
    refine a_if_ne (pc' := 75) (tgt := 178) dL_passes_72 (by decide) rfl (fun c_72 => ?_) (fun c_72 => ?_)
    · refine a_iN_6_10 (m := p + 1) (pc' := 181) dL_passes_178 (nI_add _ _) rfl ?_
      refine a_goto (pc' := 51) dL_passes_181 (by decide) ?_
      exact ih (p + 1) _ _ _ _ _ (by omega) hL hb h1 (by rw [show lpF (n + 1) p F = lpF n (p + 1) F from by show lpF n (p + 1) (pm1 F p) = _; rw [show pm1 F p = F from if_neg c_72]] at hΦ; exact hΦ)
    · refine a_al_1_10 (pc' := 76) dL_passes_75 rfl ?_
      refine a_al_2_10 (pc' := 77) dL_passes_76 rfl ?_
      refine a_il_7_10 (pc' := 79) dL_passes_77 rfl ?_
      refine a_ialdN (pc' := 80) rfl (by omega) (by decide) dL_passes_79 rfl ?_
      rw [hp0]
      refine k_SI (pc' := 83) (ct_L_spot (v := v) (z := z) (by omega) (by omega) (by omega) _) cw_L_9 ms_L_spot rfl (by decide) (by decide) (Nat.le_of_ble_eq_true rfl) rfl dL_passes_80 rfl ?_
      refine a_ialdN (pc' := 84) rfl (by omega) (by decide) dL_passes_83 rfl ?_
      rw [hL.z0 hv hz]
      refine a_al_2_10 (pc' := 85) dL_passes_84 rfl ?_
      refine a_il_7_10 (pc' := 87) dL_passes_85 rfl ?_
      refine a_iconst (v := nI 1) (pc' := 88) dL_passes_87 (by decide) rfl ?_
      refine a_iaddN (pc' := 89) dL_passes_88 rfl ?_
      refine a_ialdN (pc' := 90) rfl (by omega) (by decide) dL_passes_89 rfl ?_
      rw [hp1]
      refine a_icmp_le (pc' := 93) (tgt := 97) dL_passes_90 (by decide) rfl (fun c_90 => ?_) (fun c_90 => ?_)
      · refine a_iconst (v := nI 0) (pc' := 98) dL_passes_97 (by decide) rfl ?_
        refine a_is_8_10 (pc' := 100) dL_passes_98 rfl ?_
        refine a_al_1_10 (pc' := 101) dL_passes_100 rfl ?_
        refine a_bipush (v := nI 19) (pc' := 103) dL_passes_101 (by decide) rfl ?_
        refine a_al_2_10 (pc' := 104) dL_passes_103 rfl ?_
        refine a_il_7_10 (pc' := 106) dL_passes_104 rfl ?_
        refine a_ialdN (pc' := 107) rfl (by omega) (by decide) dL_passes_106 rfl ?_
        rw [hp0]
        refine a_iconst (v := nI 3) (pc' := 108) dL_passes_107 (by decide) rfl ?_
        refine a_idivN (pc' := 109) (by omega) (by decide) (by decide) dL_passes_108 rfl ?_
        rw [h3v]
        refine a_imulN (pc' := 110) dL_passes_109 rfl ?_
        refine a_iconst (v := nI 2) (pc' := 111) dL_passes_110 (by decide) rfl ?_
        refine a_iaddN (pc' := 112) dL_passes_111 rfl ?_
        refine a_ialdN (pc' := 113) rfl (by omega) (by decide) dL_passes_112 rfl ?_
        rw [hL.v hv 2 (by decide)]
        refine a_is_9_10 (pc' := 115) dL_passes_113 rfl ?_
        refine a_al_2_10 (pc' := 116) dL_passes_115 rfl ?_
        refine a_il_7_10 (pc' := 118) dL_passes_116 rfl ?_
        refine a_iconst (v := nI 5) (pc' := 119) dL_passes_118 (by decide) rfl ?_
        refine a_iaddN (pc' := 120) dL_passes_119 rfl ?_
        refine a_dup2 (pc' := 121) dL_passes_120 rfl ?_
        refine a_ialdN (pc' := 122) rfl (by omega) (by decide) dL_passes_121 rfl ?_
        rw [hp5]
        refine a_il_8_10 (pc' := 124) dL_passes_122 rfl ?_
        refine a_il_9_10 (pc' := 126) dL_passes_124 rfl ?_
        refine a_imul (pc' := 127) dL_passes_126 rfl ?_
        refine a_iadd (pc' := 128) dL_passes_127 rfl ?_
        refine a_iastN (pc' := 129) rfl (by omega) (by decide) dL_passes_128 rfl ?_
        refine a_al_2_10 (pc' := 130) dL_passes_129 rfl ?_
        refine a_il_7_10 (pc' := 132) dL_passes_130 rfl ?_
        refine a_bipush (v := nI 6) (pc' := 134) dL_passes_132 (by decide) rfl ?_
        refine a_iaddN (pc' := 135) dL_passes_134 rfl ?_
        refine a_dup2 (pc' := 136) dL_passes_135 rfl ?_
        refine a_ialdN (pc' := 137) rfl (by omega) (by decide) dL_passes_136 rfl ?_
        rw [hp6']
        refine a_il_8_10 (pc' := 139) dL_passes_137 rfl ?_
        refine a_iconst (v := nI 1) (pc' := 140) dL_passes_139 (by decide) rfl ?_
        refine a_il_9_10 (pc' := 142) dL_passes_140 rfl ?_
        refine a_isub (pc' := 143) dL_passes_142 rfl ?_
        refine a_imul (pc' := 144) dL_passes_143 rfl ?_
        refine a_iadd (pc' := 145) dL_passes_144 rfl ?_
        refine a_iastN (pc' := 146) rfl (by omega) (by decide) dL_passes_145 rfl ?_
        refine a_castS rfl (law_warm hL (z := z) hp6 (hb.1.1 v hv) (by simp [c_90, -Int32.not_le, -Int32.not_lt])) ?_
        refine a_al_2_10 (pc' := 147) dL_passes_146 rfl ?_
        refine a_il_7_10 (pc' := 149) dL_passes_147 rfl ?_
        refine a_bipush (v := nI 7) (pc' := 151) dL_passes_149 (by decide) rfl ?_
        refine a_iaddN (pc' := 152) dL_passes_151 rfl ?_
        refine a_dup2 (pc' := 153) dL_passes_152 rfl ?_
        refine a_ialdN (pc' := 154) rfl (by omega) (by decide) dL_passes_153 rfl ?_
        rw [w7]
        refine a_al_1_10 (pc' := 155) dL_passes_154 rfl ?_
        refine a_al_2_10 (pc' := 156) dL_passes_155 rfl ?_
        refine a_il_7_10 (pc' := 158) dL_passes_156 rfl ?_
        refine a_ialdN (pc' := 159) rfl (by omega) (by decide) dL_passes_158 rfl ?_
        rw [w0]
        refine k_SI (pc' := 162) (ct_L_told (v := v) (z := z) (by omega) (by omega) (by omega) _ hL1 wf) cw_L_31 ms_L_told rfl (by decide) (by decide) (Nat.le_of_ble_eq_true rfl) rfl dL_passes_159 rfl ?_
        refine a_al_2_10 (pc' := 163) dL_passes_162 rfl ?_
        refine a_il_7_10 (pc' := 165) dL_passes_163 rfl ?_
        refine a_iconst (v := nI 1) (pc' := 166) dL_passes_165 (by decide) rfl ?_
        refine a_iaddN (pc' := 167) dL_passes_166 rfl ?_
        refine a_ialdN (pc' := 168) rfl (by omega) (by decide) dL_passes_167 rfl ?_
        rw [w1]
        refine a_icmp_le (pc' := 171) (tgt := 175) dL_passes_168 (by decide) rfl (fun c_168 => ?_) (fun c_168 => ?_)
        · refine a_iconst (v := nI 0) (pc' := 176) dL_passes_175 (by decide) rfl ?_
          refine a_iadd (pc' := 177) dL_passes_176 rfl ?_
          refine a_iastN (pc' := 178) rfl (by omega) (by decide) dL_passes_177 rfl ?_
          refine a_castS rfl (law_told (v := v) (z := z) (by omega) (by simp [c_168, -Int32.not_le, -Int32.not_lt])) ?_
          refine a_iN_6_10 (m := p + 1) (pc' := 181) dL_passes_178 (nI_add _ _) rfl ?_
          refine a_goto (pc' := 51) dL_passes_181 (by decide) ?_
          rw [← pm1_eq (by exact c_72) ev ez hv hz]
          exact ih (p + 1) _ _ _ _ _ (by omega) LM_LA (hb.pm p) (by rw [pm1_lo _ _ (by decide)]; exact h1) (by rw [LM_LM]; exact hΦ)
        · refine a_iconst (v := nI 1) (pc' := 172) dL_passes_171 (by decide) rfl ?_
          refine a_goto (pc' := 176) dL_passes_172 (by decide) ?_
          refine a_iadd (pc' := 177) dL_passes_176 rfl ?_
          refine a_iastN (pc' := 178) rfl (by omega) (by decide) dL_passes_177 rfl ?_
          refine a_castS rfl (law_told (v := v) (z := z) (by omega) (by simp [c_168, -Int32.not_le, -Int32.not_lt])) ?_
          refine a_iN_6_10 (m := p + 1) (pc' := 181) dL_passes_178 (nI_add _ _) rfl ?_
          refine a_goto (pc' := 51) dL_passes_181 (by decide) ?_
          rw [← pm1_eq (by exact c_72) ev ez hv hz]
          exact ih (p + 1) _ _ _ _ _ (by omega) LM_LA (hb.pm p) (by rw [pm1_lo _ _ (by decide)]; exact h1) (by rw [LM_LM]; exact hΦ)
      · refine a_iconst (v := nI 1) (pc' := 94) dL_passes_93 (by decide) rfl ?_
        refine a_goto (pc' := 98) dL_passes_94 (by decide) ?_
        refine a_is_8_10 (pc' := 100) dL_passes_98 rfl ?_
        refine a_al_1_10 (pc' := 101) dL_passes_100 rfl ?_
        refine a_bipush (v := nI 19) (pc' := 103) dL_passes_101 (by decide) rfl ?_
        refine a_al_2_10 (pc' := 104) dL_passes_103 rfl ?_
        refine a_il_7_10 (pc' := 106) dL_passes_104 rfl ?_
        refine a_ialdN (pc' := 107) rfl (by omega) (by decide) dL_passes_106 rfl ?_
        rw [hp0]
        refine a_iconst (v := nI 3) (pc' := 108) dL_passes_107 (by decide) rfl ?_
        refine a_idivN (pc' := 109) (by omega) (by decide) (by decide) dL_passes_108 rfl ?_
        rw [h3v]
        refine a_imulN (pc' := 110) dL_passes_109 rfl ?_
        refine a_iconst (v := nI 2) (pc' := 111) dL_passes_110 (by decide) rfl ?_
        refine a_iaddN (pc' := 112) dL_passes_111 rfl ?_
        refine a_ialdN (pc' := 113) rfl (by omega) (by decide) dL_passes_112 rfl ?_
        rw [hL.v hv 2 (by decide)]
        refine a_is_9_10 (pc' := 115) dL_passes_113 rfl ?_
        refine a_al_2_10 (pc' := 116) dL_passes_115 rfl ?_
        refine a_il_7_10 (pc' := 118) dL_passes_116 rfl ?_
        refine a_iconst (v := nI 5) (pc' := 119) dL_passes_118 (by decide) rfl ?_
        refine a_iaddN (pc' := 120) dL_passes_119 rfl ?_
        refine a_dup2 (pc' := 121) dL_passes_120 rfl ?_
        refine a_ialdN (pc' := 122) rfl (by omega) (by decide) dL_passes_121 rfl ?_
        rw [hp5]
        refine a_il_8_10 (pc' := 124) dL_passes_122 rfl ?_
        refine a_il_9_10 (pc' := 126) dL_passes_124 rfl ?_
        refine a_imul (pc' := 127) dL_passes_126 rfl ?_
        refine a_iadd (pc' := 128) dL_passes_127 rfl ?_
        refine a_iastN (pc' := 129) rfl (by omega) (by decide) dL_passes_128 rfl ?_
        refine a_al_2_10 (pc' := 130) dL_passes_129 rfl ?_
        refine a_il_7_10 (pc' := 132) dL_passes_130 rfl ?_
        refine a_bipush (v := nI 6) (pc' := 134) dL_passes_132 (by decide) rfl ?_
        refine a_iaddN (pc' := 135) dL_passes_134 rfl ?_
        refine a_dup2 (pc' := 136) dL_passes_135 rfl ?_
        refine a_ialdN (pc' := 137) rfl (by omega) (by decide) dL_passes_136 rfl ?_
        rw [hp6']
        refine a_il_8_10 (pc' := 139) dL_passes_137 rfl ?_
        refine a_iconst (v := nI 1) (pc' := 140) dL_passes_139 (by decide) rfl ?_
        refine a_il_9_10 (pc' := 142) dL_passes_140 rfl ?_
        refine a_isub (pc' := 143) dL_passes_142 rfl ?_
        refine a_imul (pc' := 144) dL_passes_143 rfl ?_
        refine a_iadd (pc' := 145) dL_passes_144 rfl ?_
        refine a_iastN (pc' := 146) rfl (by omega) (by decide) dL_passes_145 rfl ?_
        refine a_castS rfl (law_warm hL (z := z) hp6 (hb.1.1 v hv) (by simp [c_90, -Int32.not_le, -Int32.not_lt])) ?_
        refine a_al_2_10 (pc' := 147) dL_passes_146 rfl ?_
        refine a_il_7_10 (pc' := 149) dL_passes_147 rfl ?_
        refine a_bipush (v := nI 7) (pc' := 151) dL_passes_149 (by decide) rfl ?_
        refine a_iaddN (pc' := 152) dL_passes_151 rfl ?_
        refine a_dup2 (pc' := 153) dL_passes_152 rfl ?_
        refine a_ialdN (pc' := 154) rfl (by omega) (by decide) dL_passes_153 rfl ?_
        rw [w7]
        refine a_al_1_10 (pc' := 155) dL_passes_154 rfl ?_
        refine a_al_2_10 (pc' := 156) dL_passes_155 rfl ?_
        refine a_il_7_10 (pc' := 158) dL_passes_156 rfl ?_
        refine a_ialdN (pc' := 159) rfl (by omega) (by decide) dL_passes_158 rfl ?_
        rw [w0]
        refine k_SI (pc' := 162) (ct_L_told (v := v) (z := z) (by omega) (by omega) (by omega) _ hL1 wf) cw_L_31 ms_L_told rfl (by decide) (by decide) (Nat.le_of_ble_eq_true rfl) rfl dL_passes_159 rfl ?_
        refine a_al_2_10 (pc' := 163) dL_passes_162 rfl ?_
        refine a_il_7_10 (pc' := 165) dL_passes_163 rfl ?_
        refine a_iconst (v := nI 1) (pc' := 166) dL_passes_165 (by decide) rfl ?_
        refine a_iaddN (pc' := 167) dL_passes_166 rfl ?_
        refine a_ialdN (pc' := 168) rfl (by omega) (by decide) dL_passes_167 rfl ?_
        rw [w1]
        refine a_icmp_le (pc' := 171) (tgt := 175) dL_passes_168 (by decide) rfl (fun c_168_2 => ?_) (fun c_168_2 => ?_)
        · refine a_iconst (v := nI 0) (pc' := 176) dL_passes_175 (by decide) rfl ?_
          refine a_iadd (pc' := 177) dL_passes_176 rfl ?_
          refine a_iastN (pc' := 178) rfl (by omega) (by decide) dL_passes_177 rfl ?_
          refine a_castS rfl (law_told (v := v) (z := z) (by omega) (by simp [c_168_2, -Int32.not_le, -Int32.not_lt])) ?_
          refine a_iN_6_10 (m := p + 1) (pc' := 181) dL_passes_178 (nI_add _ _) rfl ?_
          refine a_goto (pc' := 51) dL_passes_181 (by decide) ?_
          rw [← pm1_eq (by exact c_72) ev ez hv hz]
          exact ih (p + 1) _ _ _ _ _ (by omega) LM_LA (hb.pm p) (by rw [pm1_lo _ _ (by decide)]; exact h1) (by rw [LM_LM]; exact hΦ)
        · refine a_iconst (v := nI 1) (pc' := 172) dL_passes_171 (by decide) rfl ?_
          refine a_goto (pc' := 176) dL_passes_172 (by decide) ?_
          refine a_iadd (pc' := 177) dL_passes_176 rfl ?_
          refine a_iastN (pc' := 178) rfl (by omega) (by decide) dL_passes_177 rfl ?_
          refine a_castS rfl (law_told (v := v) (z := z) (by omega) (by simp [c_168_2, -Int32.not_le, -Int32.not_lt])) ?_
          refine a_iN_6_10 (m := p + 1) (pc' := 181) dL_passes_178 (nI_add _ _) rfl ?_
          refine a_goto (pc' := 51) dL_passes_181 (by decide) ?_
          rw [← pm1_eq (by exact c_72) ev ez hv hz]
          exact ih (p + 1) _ _ _ _ _ (by omega) LM_LA (hb.pm p) (by rw [pm1_lo _ _ (by decide)]; exact h1) (by rw [LM_LM]; exact hΦ)
set_option maxRecDepth 20000 in
set_option maxHeartbeats 4000000 in
theorem lp_L_passes {G : Gl} {Φ : Option OV → Mm → Prop} {nv np m : Nat} (hn : nv ≤ 3) (hm : np ≤ 6) (hm3 : m ≤ 300) : ∀ (n p : Nat) (t : Nat) (M : Mm) (F : Nat → Int32) (acc : Int32) (x6 x7 x8 x9 : Option OV), p + n = m → (LA M F) → (Good F t (3 * t)) → (F 0 = nI nv) → (F 1 = nI np) → (QW F) → (Φ (some (.inl (passN nv n t F acc))) (LM M (passF nv n t F))) → AW G cL_passes RL 10 4 95 (some .int) Φ 6 [some (.inr (9, 50, 6, 0)), some (.inr (9, 51, 57, 0)), some (.inr (9, 52, 60, 0)), some (.inl (nI m)), some (.inl acc), some (.inl (nI p)), x6, x7, x8, x9] [] M := by
  intro n
  induction n with
  | zero =>
    intro p t M F acc x6 x7 x8 x9 he hL hg h0 h1 hw hΦ
    refine a_il_5_10 (pc' := 8) dL_passes_6 rfl ?_
    refine a_il_3_10 (pc' := 9) dL_passes_8 rfl ?_
    refine a_icmp_ge (pc' := 12) (tgt := 190) dL_passes_9 (by decide) rfl (fun c_9 => ?_) (fun c_9 => absurd (nI_le (by omega) (by omega)) c_9)
    refine a_il_4_10 (pc' := 192) dL_passes_190 rfl ?_
    refine a_iret dL_passes_192 rfl rfl ?_
    rw [show LM M (passF nv 0 t F) = M from hL.LM] at hΦ
    exact hΦ
  | succ n ih =>
    intro p t M F acc x6 x7 x8 x9 he hL hg h0 h1 hw hΦ
    refine a_il_5_10 (pc' := 8) dL_passes_6 rfl ?_
    refine a_il_3_10 (pc' := 9) dL_passes_8 rfl ?_
    refine a_icmp_ge (pc' := 12) (tgt := 190) dL_passes_9 (by decide) rfl (fun c_9 => absurd c_9 (nI_ge (by omega) (by omega))) (fun c_9 => ?_)
    refine a_al_0_10 (pc' := 13) dL_passes_12 rfl ?_
    refine a_iconst (v := nI 2) (pc' := 14) dL_passes_13 (by decide) rfl ?_
    refine a_dup2 (pc' := 15) dL_passes_14 rfl ?_
    refine a_ialdN (pc' := 16) rfl (by omega) (by decide) dL_passes_15 rfl ?_
    rw [hL.g (show 2 < 6 by decide), hg.n2]
    refine a_iconst (v := nI 1) (pc' := 17) dL_passes_16 (by decide) rfl ?_
    refine a_iaddN (pc' := 18) dL_passes_17 rfl ?_
    refine a_iastN (pc' := 19) rfl (by omega) (by decide) dL_passes_18 rfl ?_
    refine a_iconst (v := nI 0) (pc' := 20) dL_passes_19 (by decide) rfl ?_
    refine a_is_6_10 (pc' := 22) dL_passes_20 rfl ?_
    rw [wr_eq, hL.1, upd_g F _ (by decide), hL.at50 (F' := upd F 2 (nI (t + 1))) (fun i hi => by rw [upd_at, if_neg (by omega)])]
    have hgt := hg.tick
    have hnvt : nvF (upd F 2 (nI (t + 1))) = nv := by unfold nvF; rw [upd_at, if_neg (by decide), h0]; exact nI_clamp (by omega)
    have hnpt : npF (upd F 2 (nI (t + 1))) = np := by unfold npF; rw [upd_at, if_neg (by decide), h1]; exact nI_clamp (by omega)
    have hnp : npF F ≤ 12 := hg.np.1
    have hwt : WV (upd F 2 (nI (t + 1))) := (hw.sam hnp ((samP.refl F).put _ (by omega))).2
    refine lp_L_vans hn _ _ _ nv 0 _ _ _ (by omega) LM_LA hgt (by rw [upd_at, if_neg (by decide)]; exact h0) ?_
    rw [LM_LM]
    refine a_iconst (v := nI 0) (pc' := 49) dL_passes_48 (by decide) rfl ?_
    refine a_is_6_10 (pc' := 51) dL_passes_49 rfl ?_
    refine lp_L_pals hm _ np 0 _ _ _ _ _ (by omega) LM_LA (hgt.lv _ _ _ (by omega)).po ?_ (fun y7 y8 y9 => ?_)
    · rw [lv_out _ _ _ (by omega) (Or.inl (by omega)), upd_at, if_neg (by decide)]; exact h1
    rw [LM_LM]
    refine a_iN_5_10 (m := p + 1) (pc' := 187) dL_passes_184 (nI_add _ _) rfl ?_
    refine a_goto (pc' := 6) dL_passes_187 (by decide) ?_
    have hmin : lpF np 0 (lvF nv 0 (upd F 2 (nI (t + 1)))) = minT nv t F := by
      have := lm_eq hgt hwt
      rw [hnvt, hnpt] at this
      exact this
    rw [hmin]
    refine ih (p + 1) (t + 1) _ _ _ _ _ _ _ (by omega) LM_LA (hg.minT hn) ?_ ?_ ?_ ?_
    · exact (samP.minT F hn).1.trans h0
    · exact (samP.minT F hn).2.1.trans h1
    · exact (hw.sam hnp (samP.minT F hn))
    · rw [LM_LM]
      have hln := ln_eq hgt acc
      rw [hnvt] at hln
      rw [← hln]
      exact hΦ
set_option maxRecDepth 20000 in
set_option maxHeartbeats 4000000 in
theorem ct_L_passes {nv np m t : Nat} (hn : nv ≤ 3) (hm : np ≤ 6) (hm3 : m ≤ 300) (M : Mm) {F : Nat → Int32} (hL : LA M F) (hg : Good F t (3 * t)) (h0 : F 0 = nI nv) (h1 : F 1 = nI np) (hw : QW F) : Ct yL_passes cL_passes 10 (some .int) 4 95 [.inr (9, 50, 6, 0), .inr (9, 51, 57, 0), .inr (9, 52, 60, 0), .inl (nI m)] M (RI (passN nv m t F (nI 0)) (LM M (passF nv m t F))) := by
  refine Ct.at RL rfl (by decide +kernel) (Nat.le_of_ble_eq_true rfl) [some (.inr (9, 50, 6, 0)), some (.inr (9, 51, 57, 0)), some (.inr (9, 52, 60, 0)), some (.inl (nI m)), none, none, none, none, none, none] rfl (fun G => ?_)
  refine a_iconst (v := nI 0) (pc' := 1) dL_passes_0 (by decide) rfl ?_
  refine a_is_4_10 (pc' := 3) dL_passes_1 rfl ?_
  refine a_iconst (v := nI 0) (pc' := 4) dL_passes_3 (by decide) rfl ?_
  refine a_is_5_10 (pc' := 6) dL_passes_4 rfl ?_
  exact lp_L_passes hn hm hm3 m 0 _ _ _ _ _ _ _ _ (by omega) hL hg h0 h1 hw ⟨rfl, rfl⟩
