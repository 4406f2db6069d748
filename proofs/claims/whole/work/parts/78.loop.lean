/-! LOOP: the law's loop. -/
theorem i7 {i L : Nat} (hi : i ≤ 4000) (hL : L ≤ 4000) (h : ¬ nI L - nI 7 < nI i) : i + 7 ≤ L := by
  have h1 := pk_sub_toInt (a := L) (b := 7) (by omega) (by omega)
  have h2 := nI_toInt (n := i) (by omega)
  have h3 : ¬ (nI L - nI 7).toInt < (nI i).toInt := fun q => h (Int32.lt_iff_toInt_lt.mpr q)
  rw [h1, h2] at h3
  omega
section Loop
variable {G : Gl} {b L : Nat} {xs : Nat → Int32}
set_option maxHeartbeats 4000000 in
theorem law_loop (hL : L ≤ 3584) : ∀ (k i : Nat), i ≤ L → L - i < k → ∀ (M : Mm) (fr n len : Nat), REL M fr n len → LR M → LL G b L xs i 18 [] M := by
  intro k
  induction k with
  | zero => intro i _ h; omega
  | succ k ih =>
    intro i hi hk M fr n len h hl
    refine l_ild (i := 3) (Or.inl ⟨3, rfl, dL_law_18, rfl⟩) rfl ?_
    refine l_ald (i := 0) (Or.inl ⟨0, rfl, dL_law_19, rfl⟩) rfl ?_
    refine l_slen dL_law_20 rfl ?_
    refine l_bipush (v := nI 7) dL_law_21 (by decide) rfl ?_
    refine l_isub dL_law_23 rfl ?_
    refine l_icmp_gt (tgt := 907) dL_law_24 (by decide) rfl (fun _ => ?_) (fun q => ?_)
    · refine l_iconst (v := 1) dL_law_907 rfl rfl ?_
      exact l_end rfl
    · have h7 := i7 (by omega) (by omega) q
      have hi6 : i + 6 < L := by omega
      have kk : KEEP G b L xs i := fun M' fr' n' len' h' hl' => by
        refine l_inc (i := 3) (y := nI (i + 7)) (by decide) dL_law_901 rfl (nI_add i 7) rfl ?_
        refine l_goto (pc' := 18) dL_law_904 (by decide) ?_
        exact ih (i + 7) (by omega) (by omega) M' fr' n' len' h' hl'
      refine l_ald (i := 0) (Or.inl ⟨0, rfl, dL_law_27, rfl⟩) rfl ?_
      refine l_ild (i := 3) (Or.inl ⟨3, rfl, dL_law_28, rfl⟩) rfl ?_
      refine l_sld (vp_in_nI (by omega) (by omega)) dL_law_29 rfl ?_
      refine l_bipush (v := nI 31) dL_law_30 (by decide) rfl ?_
      refine l_iand dL_law_32 rfl ?_
      obtain ⟨j, hj, ej⟩ := pk_andE (xs (nI i).toNatClampNeg) (m := nI 31) 5 (by decide)
      rw [ej]
      have hj2 : j < 32 := hj
      rcases (by omega : j = 0 ∨ j = 1 ∨ j = 2 ∨ j = 3 ∨ j = 4 ∨ j = 5 ∨ j = 6 ∨ j = 7 ∨ j = 8 ∨ j = 9 ∨ j = 10 ∨ j = 11 ∨ j = 12 ∨ j = 13 ∨ j = 14 ∨ j = 15 ∨ j = 16 ∨ j = 17 ∨ j = 18 ∨ j = 19 ∨ j = 20 ∨ j = 21 ∨ j = 22 ∨ 23 ≤ j) with rfl | rfl | rfl | rfl | rfl | rfl | rfl | rfl | rfl | rfl | rfl | rfl | rfl | rfl | rfl | rfl | rfl | rfl | rfl | rfl | rfl | rfl | rfl | h23
      · exact l_tswI (off := 107) (tgt := 140) dL_law_33 (by decide) (by decide) (by decide) (by decide) (lc_addVan hi6 hL h hl kk)
      · exact l_tswI (off := 140) (tgt := 173) dL_law_33 (by decide) (by decide) (by decide) (by decide) (lc_setNumber hi6 hL h hl kk)
      · exact l_tswI (off := 173) (tgt := 206) dL_law_33 (by decide) (by decide) (by decide) (by decide) (lc_setVan hi6 hL h hl kk)
      · exact l_tswI (off := 216) (tgt := 249) dL_law_33 (by decide) (by decide) (by decide) (by decide) (lc_setProbe hi6 hL h hl kk)
      · exact l_tswI (off := 269) (tgt := 302) dL_law_33 (by decide) (by decide) (by decide) (by decide) (lc_repair hi6 hL h hl kk)
      · exact l_tswI (off := 302) (tgt := 335) dL_law_33 (by decide) (by decide) (by decide) (by decide) (lc_loadPallet hi6 hL h hl kk)
      · exact l_tswI (off := 365) (tgt := 398) dL_law_33 (by decide) (by decide) (by decide) (by decide) (lc_door hi6 hL h hl kk)
      · exact l_tswI (off := 398) (tgt := 431) dL_law_33 (by decide) (by decide) (by decide) (by decide) (lc_pass hi6 hL h hl kk)
      · exact l_tswI (off := 421) (tgt := 454) dL_law_33 (by decide) (by decide) (by decide) (by decide) (lc_deliver hi6 hL h hl kk)
      · exact l_tswI (off := 444) (tgt := 477) dL_law_33 (by decide) (by decide) (by decide) (by decide) (lc_detour hi6 hL h hl kk)
      · exact l_tswI (off := 477) (tgt := 510) dL_law_33 (by decide) (by decide) (by decide) (by decide) (lc_appendCharacter hi6 hL h hl kk)
      · exact l_tswI (off := 500) (tgt := 533) dL_law_33 (by decide) (by decide) (by decide) (by decide) (lc_clearText hi6 hL h hl kk)
      · exact l_tswI (off := 513) (tgt := 546) dL_law_33 (by decide) (by decide) (by decide) (by decide) (lc_runScript hi6 hL h hl kk)
      · exact l_tswI (off := 526) (tgt := 559) dL_law_33 (by decide) (by decide) (by decide) (by decide) (lc_count hi6 hL h hl kk)
      · exact l_tswI (off := 549) (tgt := 582) dL_law_33 (by decide) (by decide) (by decide) (by decide) (lc_van hi6 hL h hl kk)
      · exact l_tswI (off := 582) (tgt := 615) dL_law_33 (by decide) (by decide) (by decide) (by decide) (lc_zone hi6 hL h hl kk)
      · exact l_tswI (off := 625) (tgt := 658) dL_law_33 (by decide) (by decide) (by decide) (by decide) (lc_pallet hi6 hL h hl kk)
      · exact l_tswI (off := 658) (tgt := 691) dL_law_33 (by decide) (by decide) (by decide) (by decide) (lc_claims hi6 hL h hl kk)
      · exact l_tswI (off := 681) (tgt := 714) dL_law_33 (by decide) (by decide) (by decide) (by decide) (lc_log hi6 hL h hl kk)
      · exact l_tswI (off := 734) (tgt := 767) dL_law_33 (by decide) (by decide) (by decide) (by decide) (lc_warm hi6 hL h hl kk)
      · exact l_tswI (off := 809) (tgt := 842) dL_law_33 (by decide) (by decide) (by decide) (by decide) (lc_minutesLeft hi6 hL h hl kk)
      · exact l_tswI (off := 832) (tgt := 865) dL_law_33 (by decide) (by decide) (by decide) (by decide) (lc_longestOpen hi6 hL h hl kk)
      · exact l_tswI (off := 855) (tgt := 888) dL_law_33 (by decide) (by decide) (by decide) (by decide) (lc_undo hi6 hL h hl kk)
      · exact l_tswO (tgt := 901) dL_law_33 (Or.inr (by rw [nI_toInt (by omega)]; omega)) (by decide) (kk M fr n len h hl)
end Loop
