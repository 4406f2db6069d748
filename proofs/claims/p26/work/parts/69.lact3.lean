theorem pz_1 (F : Nat → Int32) (x z : Int32) (n p : Nat) (acc : Int32) (h : inP F p x = true) (hz : F (63 + 10 * p + 1) = z) : pzL F x z (n + 1) p acc = pzL F x z n (p + 1) (acc + nI 1) := by
  show pzL F x z n (p + 1) _ = _
  rw [if_pos h, if_pos hz]
theorem pz_0 (F : Nat → Int32) (x z : Int32) (n p : Nat) (acc : Int32) (h : ¬ (inP F p x = true ∧ F (63 + 10 * p + 1) = z)) : pzL F x z (n + 1) p acc = pzL F x z n (p + 1) acc := by
  show pzL F x z n (p + 1) _ = _
  by_cases h1 : inP F p x = true
  · rw [if_pos h1, if_neg (fun q => h ⟨h1, q⟩)]
  · rw [if_neg h1]
theorem inn_W {W : Nat} (hW : W < 60000) : inn (nI W) (nI 0) (nI 9999) = decide (nI W ≤ nI 9999) := by
  have h0 : ¬ nI W < nI 0 := nI_nlt (Nat.zero_le _) (by omega)
  unfold inn
  by_cases h : W ≤ 9999
  · rw [decide_eq_false h0, decide_eq_true (nI_le h (by decide)), decide_eq_false (nI_nlt h (by omega))]; rfl
  · rw [decide_eq_false h0, decide_eq_false (nI_ge (by omega) (by omega)), decide_eq_true (nI_lt (show 9999 < W by omega) (by omega))]; rfl
set_option maxHeartbeats 4000000 in
theorem ld_eq {M : Mm} {F : Nat → Int32} (hL : LA M F) {np v zn : Nat} (hp : np < 6) (L a w : Int32) : (wr (wr (wr (wr (wr (wr (wr (wr (wr (wr (wr (wr (wr (wr M 52 (10 * np + 0) (nI 0)) 52 (10 * np + 1) (nI 0)) 52 (10 * np + 2) (nI 0)) 52 (10 * np + 3) (nI 0)) 52 (10 * np + 4) (nI 0)) 52 (10 * np + 5) (nI 0)) 52 (10 * np + 6) (nI 0)) 52 (10 * np + 7) (nI 0)) 52 (10 * np + 8) (nI 0)) 52 (10 * np + 9) (nI 0)) 52 (10 * np) (nI (3 * v + zn))) 52 (10 * np + 1) L) 52 (10 * np + 2) a) 52 (10 * np + 3) w) = LM M (startP F np (nI v) (nI zn) L a w) := by
  have lo : ∀ i, i < 63 → F i = startP F np (nI v) (nI zn) L a w i := fun i hi => (startP_ne F _ _ _ _ _ (Or.inl (by omega))).symm
  refine mm3 ?_ ?_ ?_ (fun r hr => ?_)
  · funext i
    simp only [wr]
    repeat rw [if_neg (fun h => absurd h.1 (by decide))]
    rw [LM_LA.1, hL.1]
    exact congrFun (gF_congr (fun i hi => lo i (by omega))) i
  · funext i
    simp only [wr]
    repeat rw [if_neg (fun h => absurd h.1 (by decide))]
    rw [LM_LA.2.1, hL.2.1]
    exact congrFun (sh_congr (fun i _ hi => lo i hi)) i
  · funext i
    rw [LM_LA.2.2]
    simp only [wr, true_and]
    by_cases hi : 10 * np ≤ i ∧ i < 10 * np + 10
    · obtain ⟨r, hr, rfl⟩ : ∃ r, r < 10 ∧ i = 10 * np + r := ⟨i - 10 * np, by omega, by omega⟩
      have hpk : pk (startP F np (nI v) (nI zn) L a w) (10 * np + r) = pkj (startP F np (nI v) (nI zn) L a w) np r := by
        unfold pk
        rw [if_pos (by omega), show (10 * np + r) / 10 = np by omega, show (10 * np + r) % 10 = r by omega]
      rw [hpk]
      unfold pkj startP
      simp only [upd_at]
      rcases (by omega : r = 0 ∨ r = 1 ∨ r = 2 ∨ r = 3 ∨ r = 4 ∨ r = 5 ∨ r = 6 ∨ r = 7 ∨ r = 8 ∨ r = 9) with rfl | rfl | rfl | rfl | rfl | rfl | rfl | rfl | rfl | rfl <;> (repeat (first | rw [if_pos (by omega)] | rw [if_neg (by omega)])) <;> first | rfl | (simp; rw [pk_mul, nI_add])
    · repeat rw [if_neg (by omega)]
      rw [hL.2.2]
      unfold pk
      by_cases h6 : i < 60
      · rw [if_pos h6, if_pos h6]
        have e : ∀ j, j < 10 → startP F np (nI v) (nI zn) L a w (63 + 10 * (i / 10) + j) = F (63 + 10 * (i / 10) + j) := fun j hj => startP_ne F _ _ _ _ _ (by omega)
        have e0 := e 0 (by decide)
        unfold pkj
        rw [show startP F np (nI v) (nI zn) L a w (63 + 10 * (i / 10)) = F (63 + 10 * (i / 10)) from e0, e 1 (by decide)]
        by_cases h9 : i % 10 = 9
        · rw [if_neg (by omega), if_pos h9, if_neg (by omega), if_pos h9]
        · rw [show 63 + 10 * (i / 10) + i % 10 + 1 = 63 + 10 * (i / 10) + (i % 10 + 1) from rfl, e (i % 10 + 1) (by omega)]
      · rw [if_neg h6, if_neg h6]
  · funext i
    simp only [wr]
    repeat rw [if_neg (fun h => hr.2.2 h.1)]
    rw [LM_ne _ _ hr]
set_option maxRecDepth 20000 in
set_option maxHeartbeats 4000000 in
theorem lp_L_acts_there {G : Gl} {Φ : Option OV → Mm → Prop} {np W v zn q : Nat} (hm : np ≤ 6) (hv : v < 3) (hz : zn < 3) (z L : Int32) (M : Mm) {F : Nat → Int32} (hL : LA M F) (hvo : vOK F) (hzo : zOK F) (h1 : F 1 = nI np) : ∀ (n p : Nat) (acc : Int32), p + n = np → (AW G cL_acts RL 26 6 140 (some .boolean) Φ 666 [some (.inr (6, 0, 0, 0)), some (.inr (9, 50, 6, 0)), some (.inr (9, 51, 57, 0)), some (.inr (9, 52, 60, 0)), some (.inl z), some (.inl (nI W)), some (.inl (nI v)), some (.inl (nI zn)), some (.inl (nI (4 + 19 * v + 5 * zn))), some (.inl (nI q)), none, none, none, none, none, none, none, none, some (.inl L), some (.inl (pzL F (nI v) (nI zn) n p acc)), some (.inl (nI np)), none, none, none, none, none] [] M) → AW G cL_acts RL 26 6 140 (some .boolean) Φ 613 [some (.inr (6, 0, 0, 0)), some (.inr (9, 50, 6, 0)), some (.inr (9, 51, 57, 0)), some (.inr (9, 52, 60, 0)), some (.inl z), some (.inl (nI W)), some (.inl (nI v)), some (.inl (nI zn)), some (.inl (nI (4 + 19 * v + 5 * zn))), some (.inl (nI q)), none, none, none, none, none, none, none, none, some (.inl L), some (.inl acc), some (.inl (nI p)), none, none, none, none, none] [] M := by
  intro n
  induction n with
  | zero =>
    intro p acc he  hΦ
    refine a_il_20_26 (pc' := 615) dL_acts_613 rfl ?_
    refine a_al_1_26 (pc' := 616) dL_acts_615 rfl ?_
    refine a_iconst (v := nI 1) (pc' := 617) dL_acts_616 (by decide) rfl ?_
    refine a_ialdN (pc' := 618) rfl (by omega) (by decide) dL_acts_617 rfl ?_
    rw [hL.g (show 1 < 6 by decide), h1]
    refine a_icmp_ge (pc' := 621) (tgt := 666) dL_acts_618 (by decide) rfl (fun c_618 => ?_) (fun c_618 => absurd (nI_le (by omega) (by omega)) c_618)
    obtain rfl : p = np := by omega
    exact hΦ
  | succ n ih =>
    intro p acc he  hΦ
    obtain ⟨w, hw, ev⟩ := hvo p (by omega)
    obtain ⟨y, hy, ez⟩ := hzo p (by omega)
    have hp6 : p < 6 := by omega
    have hp0 : M 52 (10 * p) = nI (3 * w + y) := by rw [hL.p0 hp6, ev, ez, pk_mul, nI_add]
    have hp4 : M 52 (10 * p + 4) = F (63 + 10 * p + 5) := hL.p hp6 4 5 (by decide) (by decide) rfl
    refine a_il_20_26 (pc' := 615) dL_acts_613 rfl ?_
    refine a_al_1_26 (pc' := 616) dL_acts_615 rfl ?_
    refine a_iconst (v := nI 1) (pc' := 617) dL_acts_616 (by decide) rfl ?_
    refine a_ialdN (pc' := 618) rfl (by omega) (by decide) dL_acts_617 rfl ?_
    rw [hL.g (show 1 < 6 by decide), h1]
    refine a_icmp_ge (pc' := 621) (tgt := 666) dL_acts_618 (by decide) rfl (fun c_618 => absurd c_618 (nI_ge (by omega) (by omega))) (fun c_618 => ?_)
    refine a_il_19_26 (pc' := 623) dL_acts_621 rfl ?_
    refine a_al_3_26 (pc' := 624) dL_acts_623 rfl ?_
    refine a_bipush (v := nI 10) (pc' := 626) dL_acts_624 (by decide) rfl ?_
    refine a_il_20_26 (pc' := 628) dL_acts_626 rfl ?_
    refine a_imulN (pc' := 629) dL_acts_628 rfl ?_
    refine a_iconst (v := nI 4) (pc' := 630) dL_acts_629 (by decide) rfl ?_
    refine a_iaddN (pc' := 631) dL_acts_630 rfl ?_
    refine a_ialdN (pc' := 632) rfl (by omega) (by decide) dL_acts_631 rfl ?_
    rw [hp4]
    refine a_if_ne (pc' := 635) (tgt := 656) dL_acts_632 (by decide) rfl (fun c_632 => ?_) (fun c_632 => ?_)
    · refine a_iconst (v := nI 0) (pc' := 657) dL_acts_656 (by decide) rfl ?_
      refine a_iadd (pc' := 658) dL_acts_657 rfl ?_
      refine a_is_19_26 (pc' := 660) dL_acts_658 rfl ?_
      refine a_iN_20_26 (m := p + 1) (pc' := 663) dL_acts_660 (nI_add _ _) rfl ?_
      refine a_goto (pc' := 613) dL_acts_663 (by decide) ?_
      rw [pz_0 _ _ _ _ _ _ (fun q9 => by have := q9.1; simp [inP, c_632] at this)] at hΦ
      exact ih (p + 1) _ (by omega) (by rw [nI_0, Int32.add_zero]; exact hΦ)
    · refine a_al_3_26 (pc' := 636) dL_acts_635 rfl ?_
      refine a_bipush (v := nI 10) (pc' := 638) dL_acts_636 (by decide) rfl ?_
      refine a_il_20_26 (pc' := 640) dL_acts_638 rfl ?_
      refine a_imulN (pc' := 641) dL_acts_640 rfl ?_
      refine a_ialdN (pc' := 642) rfl (by omega) (by decide) dL_acts_641 rfl ?_
      rw [hp0]
      refine a_iconst (v := nI 3) (pc' := 643) dL_acts_642 (by decide) rfl ?_
      refine a_il_6_26 (pc' := 645) dL_acts_643 rfl ?_
      refine a_imulN (pc' := 646) dL_acts_645 rfl ?_
      refine a_il_7_26 (pc' := 648) dL_acts_646 rfl ?_
      refine a_iaddN (pc' := 649) dL_acts_648 rfl ?_
      refine a_icmp_ne (pc' := 652) (tgt := 656) dL_acts_649 (by decide) rfl (fun c_649 => ?_) (fun c_649 => ?_)
      · refine a_iconst (v := nI 0) (pc' := 657) dL_acts_656 (by decide) rfl ?_
        refine a_iadd (pc' := 658) dL_acts_657 rfl ?_
        refine a_is_19_26 (pc' := 660) dL_acts_658 rfl ?_
        refine a_iN_20_26 (m := p + 1) (pc' := 663) dL_acts_660 (nI_add _ _) rfl ?_
        refine a_goto (pc' := 613) dL_acts_663 (by decide) ?_
        rw [pz_0 _ _ _ _ _ _ (fun q9 => by
          have h8 := q9.1
          unfold inP at h8
          rw [ev, Bool.and_eq_true, decide_eq_true_eq, decide_eq_true_eq] at h8
          have h7 := q9.2
          rw [ez] at h7
          have a1 := (nI_eqm w v).mp h8.2
          rw [Nat.mod_eq_of_lt (by omega), Nat.mod_eq_of_lt (by omega)] at a1
          have a2 := (nI_eqm y zn).mp h7
          rw [Nat.mod_eq_of_lt (by omega), Nat.mod_eq_of_lt (by omega)] at a2
          exact c_649 (congrArg nI (by omega)))] at hΦ
        exact ih (p + 1) _ (by omega) (by rw [nI_0, Int32.add_zero]; exact hΦ)
      · refine a_iconst (v := nI 1) (pc' := 653) dL_acts_652 (by decide) rfl ?_
        refine a_goto (pc' := 657) dL_acts_653 (by decide) ?_
        refine a_iadd (pc' := 658) dL_acts_657 rfl ?_
        refine a_is_19_26 (pc' := 660) dL_acts_658 rfl ?_
        refine a_iN_20_26 (m := p + 1) (pc' := 663) dL_acts_660 (nI_add _ _) rfl ?_
        refine a_goto (pc' := 613) dL_acts_663 (by decide) ?_
        have a1 := (nI_eqm (3 * w + y) (3 * v + zn)).mp c_649
        rw [Nat.mod_eq_of_lt (by omega), Nat.mod_eq_of_lt (by omega)] at a1
        have a2 : w = v ∧ y = zn := by omega
        rw [pz_1 _ _ _ _ _ _ (by unfold inP; rw [c_632, ev, a2.1]; simp) (by rw [ez, a2.2])] at hΦ
        exact ih (p + 1) _ (by omega) hΦ
set_option maxRecDepth 20000 in
set_option maxHeartbeats 4000000 in
theorem ac_8x {G : Gl} {M : Mm} (h : INV M) {nv np W v zn q : Nat} (z : Int32) (h0 : M 0 0 = nI nv) (hn : nv ≤ 3) (h1 : M 0 1 = nI np) (hm : np ≤ 6) (hW : W < 60000) (hv : v < nv) (hz : zn < 3) (hq : (np = 0 ∧ q = 0) ∨ q < np) (D9 : M 0 (6 + 19 * v + 2) = nI 0) {k3 : Nat} (hk3 : k3 ≤ 3) (L : Int32) (x20 : Option OV) (hLi : inn L (-300) (nI 300) = true) : AW G cL_acts RL 26 6 140 (some .boolean) ANS 666 [some (.inr (6, 0, 0, 0)), some (.inr (9, 50, 6, 0)), some (.inr (9, 51, 57, 0)), some (.inr (9, 52, 60, 0)), some (.inl z), some (.inl (nI W)), some (.inl (nI v)), some (.inl (nI zn)), some (.inl (nI (4 + 19 * v + 5 * zn))), some (.inl (nI q)), none, none, none, none, none, none, none, none, some (.inl L), some (.inl (nI k3)), x20, none, none, none, none, none] [] M := by
  have hL := h.1
  obtain ⟨⟨t, ht, hg⟩, hqw⟩ := id h.2.1
  have hv3 : v < 3 := by omega
  have hnp : npF (M 0) = np := by unfold npF; rw [h1]; exact nI_clamp (by omega)
  have hcl : vN (nI v) = v := vN_nI (by omega)
  have hzs := hz_t h0 hn hv hz
  have hD := D9
  have hRa : ¬ nI W ≤ nI 9999 → ldR (M 0) (nI v) (nI zn) L (nI 5) (nI W) = (-100001) := fun hw => by
    unfold ldR ldB
    rw [hzs, hLi, inn_W hW, decide_eq_false hw]
    rfl
  have hRb : nI W ≤ nI 9999 → ldR (M 0) (nI v) (nI zn) L (nI 5) (nI W) = (-100002) := fun hw => by
    unfold ldR ldB
    rw [hzs, hLi, inn_W hW, decide_eq_true hw, hcl, if_pos (by decide), if_pos (show M 0 (6 + 19 * v + 2) = 0 from hD)]
  have hno : ldF (M 0) (nI v) (nI zn) L (nI 5) (nI W) = M 0 := by
    unfold ldF
    rw [hcl]
    split
    · rw [if_pos (show M 0 (6 + 19 * v + 2) = 0 from hD)]
    · rfl
  refine a_al_2_26 (pc' := 667) dL_acts_666 rfl ?_
  refine a_bipush (v := nI 19) (pc' := 669) dL_acts_667 (by decide) rfl ?_
  refine a_il_6_26 (pc' := 671) dL_acts_669 rfl ?_
  refine a_imulN (pc' := 672) dL_acts_671 rfl ?_
  refine a_iconst (v := nI 2) (pc' := 673) dL_acts_672 (by decide) rfl ?_
  refine a_iaddN (pc' := 674) dL_acts_673 rfl ?_
  refine a_ialdN (pc' := 675) rfl (by omega) (by decide) dL_acts_674 rfl ?_
  rw [hL.v hv3 2 (by decide), hD]
  refine a_if_eq (pc' := 678) (tgt := 692) dL_acts_675 (by decide) rfl (fun c_675 => ?_) (fun c_675 => absurd (by decide) c_675)
  refine a_al_1_26 (pc' := 693) dL_acts_692 rfl ?_
  refine a_iconst (v := nI 1) (pc' := 694) dL_acts_693 (by decide) rfl ?_
  refine a_ialdN (pc' := 695) rfl (by omega) (by decide) dL_acts_694 rfl ?_
  rw [hL.g (show 1 < 6 by decide), h1]
  refine a_bipush (v := nI 6) (pc' := 697) dL_acts_695 (by decide) rfl ?_
  refine a_icmp_ne (pc' := 700) (tgt := 742) dL_acts_697 (by decide) rfl (fun c_697 => ?_) (fun c_697 => ?_)
  · refine a_al_0_26 (pc' := 743) dL_acts_742 rfl ?_
    refine a_il_6_26 (pc' := 745) dL_acts_743 rfl ?_
    refine a_il_7_26 (pc' := 747) dL_acts_745 rfl ?_
    refine a_il_18_26 (pc' := 749) dL_acts_747 rfl ?_
    refine a_iconst (v := nI 5) (pc' := 750) dL_acts_749 (by decide) rfl ?_
    refine a_il_5_26 (pc' := 752) dL_acts_750 rfl ?_
    refine k_VI (pc' := 755) (cx_loadPallet rfl h.fr hg.bok hn h0 (show np ≤ 12 by omega) h1 _ _ _ _ _) cw_L_65 mi_X6_loadPallet se_X6_loadPallet rfl rfl rfl rfl (by decide) (by decide) (Nat.le_of_ble_eq_true rfl) rfl dL_acts_752 rfl ?_
    refine a_il_5_26 (pc' := 757) dL_acts_755 rfl ?_
    refine a_sipush (v := nI 9999) (pc' := 760) dL_acts_757 (by decide) rfl ?_
    refine a_icmp_le (pc' := 763) (tgt := 768) dL_acts_760 (by decide) rfl (fun c_760 => ?_) (fun c_760 => ?_)
    · refine a_al_2_26 (pc' := 769) dL_acts_768 rfl ?_
      refine a_bipush (v := nI 19) (pc' := 771) dL_acts_769 (by decide) rfl ?_
      refine a_il_6_26 (pc' := 773) dL_acts_771 rfl ?_
      refine a_imulN (pc' := 774) dL_acts_773 rfl ?_
      refine a_iconst (v := nI 2) (pc' := 775) dL_acts_774 (by decide) rfl ?_
      refine a_iaddN (pc' := 776) dL_acts_775 rfl ?_
      refine a_ialdN (pc' := 777) rfl (by omega) (by decide) dL_acts_776 rfl ?_
      rw [LA.v (LA.ed h.fr hL) hv3 2 (by decide), hD]
      refine a_if_ne (pc' := 780) (tgt := 785) dL_acts_777 (by decide) rfl (fun c_777 => absurd (by decide) c_777) (fun c_777 => ?_)
      refine a_ldc (pc' := 782) dL_acts_780 cn_L_70 rfl ?_
      refine a_goto (pc' := 787) dL_acts_782 (by decide) ?_
      refine a_icmp_ne (pc' := 790) (tgt := 794) dL_acts_787 (by decide) rfl (fun c_787 => absurd (hRb c_760) c_787) (fun c_787 => ?_)
      refine a_iconst (v := nI 1) (pc' := 791) dL_acts_790 (by decide) rfl ?_
      refine a_goto (pc' := 795) dL_acts_791 (by decide) ?_
      refine a_iret dL_acts_795 rfl rfl ?_
      exact ⟨rfl, h.no hno⟩
    · refine a_ldc (pc' := 765) dL_acts_763 cn_L_69 rfl ?_
      refine a_goto (pc' := 787) dL_acts_765 (by decide) ?_
      refine a_icmp_ne (pc' := 790) (tgt := 794) dL_acts_787 (by decide) rfl (fun c_787_2 => absurd (hRa c_760) c_787_2) (fun c_787_2 => ?_)
      refine a_iconst (v := nI 1) (pc' := 791) dL_acts_790 (by decide) rfl ?_
      refine a_goto (pc' := 795) dL_acts_791 (by decide) ?_
      refine a_iret dL_acts_795 rfl rfl ?_
      exact ⟨rfl, h.no hno⟩
  · refine a_il_19_26 (pc' := 702) dL_acts_700 rfl ?_
    refine a_iconst (v := nI 3) (pc' := 703) dL_acts_702 (by decide) rfl ?_
    refine a_icmp_ge (pc' := 706) (tgt := 742) dL_acts_703 (by decide) rfl (fun c_703 => ?_) (fun c_703 => ?_)
    · refine a_al_0_26 (pc' := 743) dL_acts_742 rfl ?_
      refine a_il_6_26 (pc' := 745) dL_acts_743 rfl ?_
      refine a_il_7_26 (pc' := 747) dL_acts_745 rfl ?_
      refine a_il_18_26 (pc' := 749) dL_acts_747 rfl ?_
      refine a_iconst (v := nI 5) (pc' := 750) dL_acts_749 (by decide) rfl ?_
      refine a_il_5_26 (pc' := 752) dL_acts_750 rfl ?_
      refine k_VI (pc' := 755) (cx_loadPallet rfl h.fr hg.bok hn h0 (show np ≤ 12 by omega) h1 _ _ _ _ _) cw_L_65 mi_X6_loadPallet se_X6_loadPallet rfl rfl rfl rfl (by decide) (by decide) (Nat.le_of_ble_eq_true rfl) rfl dL_acts_752 rfl ?_
      refine a_il_5_26 (pc' := 757) dL_acts_755 rfl ?_
      refine a_sipush (v := nI 9999) (pc' := 760) dL_acts_757 (by decide) rfl ?_
      refine a_icmp_le (pc' := 763) (tgt := 768) dL_acts_760 (by decide) rfl (fun c_760_2 => ?_) (fun c_760_2 => ?_)
      · refine a_al_2_26 (pc' := 769) dL_acts_768 rfl ?_
        refine a_bipush (v := nI 19) (pc' := 771) dL_acts_769 (by decide) rfl ?_
        refine a_il_6_26 (pc' := 773) dL_acts_771 rfl ?_
        refine a_imulN (pc' := 774) dL_acts_773 rfl ?_
        refine a_iconst (v := nI 2) (pc' := 775) dL_acts_774 (by decide) rfl ?_
        refine a_iaddN (pc' := 776) dL_acts_775 rfl ?_
        refine a_ialdN (pc' := 777) rfl (by omega) (by decide) dL_acts_776 rfl ?_
        rw [LA.v (LA.ed h.fr hL) hv3 2 (by decide), hD]
        refine a_if_ne (pc' := 780) (tgt := 785) dL_acts_777 (by decide) rfl (fun c_777_2 => absurd (by decide) c_777_2) (fun c_777_2 => ?_)
        refine a_ldc (pc' := 782) dL_acts_780 cn_L_70 rfl ?_
        refine a_goto (pc' := 787) dL_acts_782 (by decide) ?_
        refine a_icmp_ne (pc' := 790) (tgt := 794) dL_acts_787 (by decide) rfl (fun c_787_3 => absurd (hRb c_760_2) c_787_3) (fun c_787_3 => ?_)
        refine a_iconst (v := nI 1) (pc' := 791) dL_acts_790 (by decide) rfl ?_
        refine a_goto (pc' := 795) dL_acts_791 (by decide) ?_
        refine a_iret dL_acts_795 rfl rfl ?_
        exact ⟨rfl, h.no hno⟩
      · refine a_ldc (pc' := 765) dL_acts_763 cn_L_69 rfl ?_
        refine a_goto (pc' := 787) dL_acts_765 (by decide) ?_
        refine a_icmp_ne (pc' := 790) (tgt := 794) dL_acts_787 (by decide) rfl (fun c_787_4 => absurd (hRa c_760_2) c_787_4) (fun c_787_4 => ?_)
        refine a_iconst (v := nI 1) (pc' := 791) dL_acts_790 (by decide) rfl ?_
        refine a_goto (pc' := 795) dL_acts_791 (by decide) ?_
        refine a_iret dL_acts_795 rfl rfl ?_
        exact ⟨rfl, h.no hno⟩
    · refine a_al_2_26 (pc' := 707) dL_acts_706 rfl ?_
      refine a_bipush (v := nI 19) (pc' := 709) dL_acts_707 (by decide) rfl ?_
      refine a_il_6_26 (pc' := 711) dL_acts_709 rfl ?_
      refine a_imulN (pc' := 712) dL_acts_711 rfl ?_
      refine a_iconst (v := nI 2) (pc' := 713) dL_acts_712 (by decide) rfl ?_
      refine a_iaddN (pc' := 714) dL_acts_713 rfl ?_
      refine a_ialdN (pc' := 715) rfl (by omega) (by decide) dL_acts_714 rfl ?_
      rw [hL.v hv3 2 (by decide), hD]
      refine a_iconst (v := nI 1) (pc' := 716) dL_acts_715 (by decide) rfl ?_
      refine a_icmp_ne (pc' := 719) (tgt := 742) dL_acts_716 (by decide) rfl (fun c_716 => ?_) (fun c_716 => absurd c_716 (by decide))
      refine a_al_0_26 (pc' := 743) dL_acts_742 rfl ?_
      refine a_il_6_26 (pc' := 745) dL_acts_743 rfl ?_
      refine a_il_7_26 (pc' := 747) dL_acts_745 rfl ?_
      refine a_il_18_26 (pc' := 749) dL_acts_747 rfl ?_
      refine a_iconst (v := nI 5) (pc' := 750) dL_acts_749 (by decide) rfl ?_
      refine a_il_5_26 (pc' := 752) dL_acts_750 rfl ?_
      refine k_VI (pc' := 755) (cx_loadPallet rfl h.fr hg.bok hn h0 (show np ≤ 12 by omega) h1 _ _ _ _ _) cw_L_65 mi_X6_loadPallet se_X6_loadPallet rfl rfl rfl rfl (by decide) (by decide) (Nat.le_of_ble_eq_true rfl) rfl dL_acts_752 rfl ?_
      refine a_il_5_26 (pc' := 757) dL_acts_755 rfl ?_
      refine a_sipush (v := nI 9999) (pc' := 760) dL_acts_757 (by decide) rfl ?_
      refine a_icmp_le (pc' := 763) (tgt := 768) dL_acts_760 (by decide) rfl (fun c_760_3 => ?_) (fun c_760_3 => ?_)
      · refine a_al_2_26 (pc' := 769) dL_acts_768 rfl ?_
        refine a_bipush (v := nI 19) (pc' := 771) dL_acts_769 (by decide) rfl ?_
        refine a_il_6_26 (pc' := 773) dL_acts_771 rfl ?_
        refine a_imulN (pc' := 774) dL_acts_773 rfl ?_
        refine a_iconst (v := nI 2) (pc' := 775) dL_acts_774 (by decide) rfl ?_
        refine a_iaddN (pc' := 776) dL_acts_775 rfl ?_
        refine a_ialdN (pc' := 777) rfl (by omega) (by decide) dL_acts_776 rfl ?_
        rw [LA.v (LA.ed h.fr hL) hv3 2 (by decide), hD]
        refine a_if_ne (pc' := 780) (tgt := 785) dL_acts_777 (by decide) rfl (fun c_777_3 => absurd (by decide) c_777_3) (fun c_777_3 => ?_)
        refine a_ldc (pc' := 782) dL_acts_780 cn_L_70 rfl ?_
        refine a_goto (pc' := 787) dL_acts_782 (by decide) ?_
        refine a_icmp_ne (pc' := 790) (tgt := 794) dL_acts_787 (by decide) rfl (fun c_787_5 => absurd (hRb c_760_3) c_787_5) (fun c_787_5 => ?_)
        refine a_iconst (v := nI 1) (pc' := 791) dL_acts_790 (by decide) rfl ?_
        refine a_goto (pc' := 795) dL_acts_791 (by decide) ?_
        refine a_iret dL_acts_795 rfl rfl ?_
        exact ⟨rfl, h.no hno⟩
      · refine a_ldc (pc' := 765) dL_acts_763 cn_L_69 rfl ?_
        refine a_goto (pc' := 787) dL_acts_765 (by decide) ?_
        refine a_icmp_ne (pc' := 790) (tgt := 794) dL_acts_787 (by decide) rfl (fun c_787_6 => absurd (hRa c_760_3) c_787_6) (fun c_787_6 => ?_)
        refine a_iconst (v := nI 1) (pc' := 791) dL_acts_790 (by decide) rfl ?_
        refine a_goto (pc' := 795) dL_acts_791 (by decide) ?_
        refine a_iret dL_acts_795 rfl rfl ?_
        exact ⟨rfl, h.no hno⟩
set_option maxRecDepth 20000 in
set_option maxHeartbeats 4000000 in
theorem ac_8y {G : Gl} {M : Mm} (h : INV M) {nv np W v zn q : Nat} (z : Int32) (h0 : M 0 0 = nI nv) (hn : nv ≤ 3) (h1 : M 0 1 = nI np) (hm : np ≤ 6) (hW : W < 60000) (hv : v < nv) (hz : zn < 3) (hq : (np = 0 ∧ q = 0) ∨ q < np) (D9 : M 0 (6 + 19 * v + 2) = nI 1) (hT : pzL (M 0) (nI v) (nI zn) np 0 (nI 0) = nI 3) (L : Int32) (x20 : Option OV) (hLi : inn L (-300) (nI 300) = true) : AW G cL_acts RL 26 6 140 (some .boolean) ANS 666 [some (.inr (6, 0, 0, 0)), some (.inr (9, 50, 6, 0)), some (.inr (9, 51, 57, 0)), some (.inr (9, 52, 60, 0)), some (.inl z), some (.inl (nI W)), some (.inl (nI v)), some (.inl (nI zn)), some (.inl (nI (4 + 19 * v + 5 * zn))), some (.inl (nI q)), none, none, none, none, none, none, none, none, some (.inl L), some (.inl (nI 3)), x20, none, none, none, none, none] [] M := by
  have hL := h.1
  obtain ⟨⟨t, ht, hg⟩, hqw⟩ := id h.2.1
  have hv3 : v < 3 := by omega
  have hnp : npF (M 0) = np := by unfold npF; rw [h1]; exact nI_clamp (by omega)
  have hcl : vN (nI v) = v := vN_nI (by omega)
  have hzs := hz_t h0 hn hv hz
  have hD := D9
  have hD0 : ¬ nI 1 = 0 := by decide
  have hC : ldC (M 0) (nI v) (nI zn) = false := ldC_f h1 (by omega) hnp (Or.inr hT)
  have hRa : ¬ nI W ≤ nI 9999 → ldR (M 0) (nI v) (nI zn) L (nI 5) (nI W) = (-100001) := fun hw => by
    unfold ldR ldB
    rw [hzs, hLi, inn_W hW, decide_eq_false hw]
    rfl
  have hRb : nI W ≤ nI 9999 → ldR (M 0) (nI v) (nI zn) L (nI 5) (nI W) = (-100003) := fun hw => by
    unfold ldR ldB
    rw [hzs, hLi, inn_W hW, decide_eq_true hw, hcl, if_pos (by decide), hD, if_neg hD0, hC]
    rfl
  have hno : ldF (M 0) (nI v) (nI zn) L (nI 5) (nI W) = M 0 := by
    unfold ldF
    rw [hcl, hC, hD]
    split
    · rfl
    · rfl
  refine a_al_2_26 (pc' := 667) dL_acts_666 rfl ?_
  refine a_bipush (v := nI 19) (pc' := 669) dL_acts_667 (by decide) rfl ?_
  refine a_il_6_26 (pc' := 671) dL_acts_669 rfl ?_
  refine a_imulN (pc' := 672) dL_acts_671 rfl ?_
  refine a_iconst (v := nI 2) (pc' := 673) dL_acts_672 (by decide) rfl ?_
  refine a_iaddN (pc' := 674) dL_acts_673 rfl ?_
  refine a_ialdN (pc' := 675) rfl (by omega) (by decide) dL_acts_674 rfl ?_
  rw [hL.v hv3 2 (by decide), hD]
  refine a_if_eq (pc' := 678) (tgt := 692) dL_acts_675 (by decide) rfl (fun c_675 => absurd c_675 (by decide)) (fun c_675 => ?_)
  refine a_il_19_26 (pc' := 680) dL_acts_678 rfl ?_
  refine a_iconst (v := nI 3) (pc' := 681) dL_acts_680 (by decide) rfl ?_
  refine a_icmp_eq (pc' := 684) (tgt := 692) dL_acts_681 (by decide) rfl (fun c_681 => ?_) (fun c_681 => absurd (by decide) c_681)
  refine a_al_1_26 (pc' := 693) dL_acts_692 rfl ?_
  refine a_iconst (v := nI 1) (pc' := 694) dL_acts_693 (by decide) rfl ?_
  refine a_ialdN (pc' := 695) rfl (by omega) (by decide) dL_acts_694 rfl ?_
  rw [hL.g (show 1 < 6 by decide), h1]
  refine a_bipush (v := nI 6) (pc' := 697) dL_acts_695 (by decide) rfl ?_
  refine a_icmp_ne (pc' := 700) (tgt := 742) dL_acts_697 (by decide) rfl (fun c_697 => ?_) (fun c_697 => ?_)
  · refine a_al_0_26 (pc' := 743) dL_acts_742 rfl ?_
    refine a_il_6_26 (pc' := 745) dL_acts_743 rfl ?_
    refine a_il_7_26 (pc' := 747) dL_acts_745 rfl ?_
    refine a_il_18_26 (pc' := 749) dL_acts_747 rfl ?_
    refine a_iconst (v := nI 5) (pc' := 750) dL_acts_749 (by decide) rfl ?_
    refine a_il_5_26 (pc' := 752) dL_acts_750 rfl ?_
    refine k_VI (pc' := 755) (cx_loadPallet rfl h.fr hg.bok hn h0 (show np ≤ 12 by omega) h1 _ _ _ _ _) cw_L_65 mi_X6_loadPallet se_X6_loadPallet rfl rfl rfl rfl (by decide) (by decide) (Nat.le_of_ble_eq_true rfl) rfl dL_acts_752 rfl ?_
    refine a_il_5_26 (pc' := 757) dL_acts_755 rfl ?_
    refine a_sipush (v := nI 9999) (pc' := 760) dL_acts_757 (by decide) rfl ?_
    refine a_icmp_le (pc' := 763) (tgt := 768) dL_acts_760 (by decide) rfl (fun c_760 => ?_) (fun c_760 => ?_)
    · refine a_al_2_26 (pc' := 769) dL_acts_768 rfl ?_
      refine a_bipush (v := nI 19) (pc' := 771) dL_acts_769 (by decide) rfl ?_
      refine a_il_6_26 (pc' := 773) dL_acts_771 rfl ?_
      refine a_imulN (pc' := 774) dL_acts_773 rfl ?_
      refine a_iconst (v := nI 2) (pc' := 775) dL_acts_774 (by decide) rfl ?_
      refine a_iaddN (pc' := 776) dL_acts_775 rfl ?_
      refine a_ialdN (pc' := 777) rfl (by omega) (by decide) dL_acts_776 rfl ?_
      rw [LA.v (LA.ed h.fr hL) hv3 2 (by decide), hD]
      refine a_if_ne (pc' := 780) (tgt := 785) dL_acts_777 (by decide) rfl (fun c_777 => ?_) (fun c_777 => absurd c_777 (by decide))
      refine a_ldc (pc' := 787) dL_acts_785 cn_L_50 rfl ?_
      refine a_icmp_ne (pc' := 790) (tgt := 794) dL_acts_787 (by decide) rfl (fun c_787 => absurd (hRb c_760) c_787) (fun c_787 => ?_)
      refine a_iconst (v := nI 1) (pc' := 791) dL_acts_790 (by decide) rfl ?_
      refine a_goto (pc' := 795) dL_acts_791 (by decide) ?_
      refine a_iret dL_acts_795 rfl rfl ?_
      exact ⟨rfl, h.no hno⟩
    · refine a_ldc (pc' := 765) dL_acts_763 cn_L_69 rfl ?_
      refine a_goto (pc' := 787) dL_acts_765 (by decide) ?_
      refine a_icmp_ne (pc' := 790) (tgt := 794) dL_acts_787 (by decide) rfl (fun c_787_2 => absurd (hRa c_760) c_787_2) (fun c_787_2 => ?_)
      refine a_iconst (v := nI 1) (pc' := 791) dL_acts_790 (by decide) rfl ?_
      refine a_goto (pc' := 795) dL_acts_791 (by decide) ?_
      refine a_iret dL_acts_795 rfl rfl ?_
      exact ⟨rfl, h.no hno⟩
  · refine a_il_19_26 (pc' := 702) dL_acts_700 rfl ?_
    refine a_iconst (v := nI 3) (pc' := 703) dL_acts_702 (by decide) rfl ?_
    refine a_icmp_ge (pc' := 706) (tgt := 742) dL_acts_703 (by decide) rfl (fun c_703 => ?_) (fun c_703 => absurd (by decide) c_703)
    refine a_al_0_26 (pc' := 743) dL_acts_742 rfl ?_
    refine a_il_6_26 (pc' := 745) dL_acts_743 rfl ?_
    refine a_il_7_26 (pc' := 747) dL_acts_745 rfl ?_
    refine a_il_18_26 (pc' := 749) dL_acts_747 rfl ?_
    refine a_iconst (v := nI 5) (pc' := 750) dL_acts_749 (by decide) rfl ?_
    refine a_il_5_26 (pc' := 752) dL_acts_750 rfl ?_
    refine k_VI (pc' := 755) (cx_loadPallet rfl h.fr hg.bok hn h0 (show np ≤ 12 by omega) h1 _ _ _ _ _) cw_L_65 mi_X6_loadPallet se_X6_loadPallet rfl rfl rfl rfl (by decide) (by decide) (Nat.le_of_ble_eq_true rfl) rfl dL_acts_752 rfl ?_
    refine a_il_5_26 (pc' := 757) dL_acts_755 rfl ?_
    refine a_sipush (v := nI 9999) (pc' := 760) dL_acts_757 (by decide) rfl ?_
    refine a_icmp_le (pc' := 763) (tgt := 768) dL_acts_760 (by decide) rfl (fun c_760_2 => ?_) (fun c_760_2 => ?_)
    · refine a_al_2_26 (pc' := 769) dL_acts_768 rfl ?_
      refine a_bipush (v := nI 19) (pc' := 771) dL_acts_769 (by decide) rfl ?_
      refine a_il_6_26 (pc' := 773) dL_acts_771 rfl ?_
      refine a_imulN (pc' := 774) dL_acts_773 rfl ?_
      refine a_iconst (v := nI 2) (pc' := 775) dL_acts_774 (by decide) rfl ?_
      refine a_iaddN (pc' := 776) dL_acts_775 rfl ?_
      refine a_ialdN (pc' := 777) rfl (by omega) (by decide) dL_acts_776 rfl ?_
      rw [LA.v (LA.ed h.fr hL) hv3 2 (by decide), hD]
      refine a_if_ne (pc' := 780) (tgt := 785) dL_acts_777 (by decide) rfl (fun c_777_2 => ?_) (fun c_777_2 => absurd c_777_2 (by decide))
      refine a_ldc (pc' := 787) dL_acts_785 cn_L_50 rfl ?_
      refine a_icmp_ne (pc' := 790) (tgt := 794) dL_acts_787 (by decide) rfl (fun c_787_3 => absurd (hRb c_760_2) c_787_3) (fun c_787_3 => ?_)
      refine a_iconst (v := nI 1) (pc' := 791) dL_acts_790 (by decide) rfl ?_
      refine a_goto (pc' := 795) dL_acts_791 (by decide) ?_
      refine a_iret dL_acts_795 rfl rfl ?_
      exact ⟨rfl, h.no hno⟩
    · refine a_ldc (pc' := 765) dL_acts_763 cn_L_69 rfl ?_
      refine a_goto (pc' := 787) dL_acts_765 (by decide) ?_
      refine a_icmp_ne (pc' := 790) (tgt := 794) dL_acts_787 (by decide) rfl (fun c_787_4 => absurd (hRa c_760_2) c_787_4) (fun c_787_4 => ?_)
      refine a_iconst (v := nI 1) (pc' := 791) dL_acts_790 (by decide) rfl ?_
      refine a_goto (pc' := 795) dL_acts_791 (by decide) ?_
      refine a_iret dL_acts_795 rfl rfl ?_
      exact ⟨rfl, h.no hno⟩
set_option maxRecDepth 20000 in
set_option maxHeartbeats 4000000 in
theorem ac_8z {G : Gl} {M : Mm} (h : INV M) {nv np W v zn q : Nat} (z : Int32) (h0 : M 0 0 = nI nv) (hn : nv ≤ 3) (h1 : M 0 1 = nI np) (hm : np ≤ 6) (hW : W < 60000) (hv : v < nv) (hz : zn < 3) (hq : (np = 0 ∧ q = 0) ∨ q < np) (D9 : M 0 (6 + 19 * v + 2) = nI 1) {k3 : Nat} (hk3 : k3 < 3) (hn6 : np = 6) (L : Int32) (x20 : Option OV) (hLi : inn L (-300) (nI 300) = true) : AW G cL_acts RL 26 6 140 (some .boolean) ANS 666 [some (.inr (6, 0, 0, 0)), some (.inr (9, 50, 6, 0)), some (.inr (9, 51, 57, 0)), some (.inr (9, 52, 60, 0)), some (.inl z), some (.inl (nI W)), some (.inl (nI v)), some (.inl (nI zn)), some (.inl (nI (4 + 19 * v + 5 * zn))), some (.inl (nI q)), none, none, none, none, none, none, none, none, some (.inl L), some (.inl (nI k3)), x20, none, none, none, none, none] [] M := by
  have hL := h.1
  obtain ⟨⟨t, ht, hg⟩, hqw⟩ := id h.2.1
  have hv3 : v < 3 := by omega
  have hD := D9
  have hb : ldB (M 0) (nI v) (nI 3) (nI 0) (nI 0) (nI 0) = false := by
    unfold ldB hzS
    rw [show inn (nI 3) (nI 0) (nI 2) = false from by decide]
    simp
  have hR : ldR (M 0) (nI v) (nI 3) (nI 0) (nI 0) (nI 0) = (-100001) := by unfold ldR; rw [hb]; rfl
  have hno : ldF (M 0) (nI v) (nI 3) (nI 0) (nI 0) (nI 0) = M 0 := by unfold ldF; rw [hb]; rfl
  refine a_al_2_26 (pc' := 667) dL_acts_666 rfl ?_
  refine a_bipush (v := nI 19) (pc' := 669) dL_acts_667 (by decide) rfl ?_
  refine a_il_6_26 (pc' := 671) dL_acts_669 rfl ?_
  refine a_imulN (pc' := 672) dL_acts_671 rfl ?_
  refine a_iconst (v := nI 2) (pc' := 673) dL_acts_672 (by decide) rfl ?_
  refine a_iaddN (pc' := 674) dL_acts_673 rfl ?_
  refine a_ialdN (pc' := 675) rfl (by omega) (by decide) dL_acts_674 rfl ?_
  rw [hL.v hv3 2 (by decide), hD]
  refine a_if_eq (pc' := 678) (tgt := 692) dL_acts_675 (by decide) rfl (fun c_675 => absurd c_675 (by decide)) (fun c_675 => ?_)
  refine a_il_19_26 (pc' := 680) dL_acts_678 rfl ?_
  refine a_iconst (v := nI 3) (pc' := 681) dL_acts_680 (by decide) rfl ?_
  refine a_icmp_eq (pc' := 684) (tgt := 692) dL_acts_681 (by decide) rfl (fun c_681 => absurd c_681 (by rw [nI_eqm]; omega)) (fun c_681 => ?_)
  refine a_al_1_26 (pc' := 685) dL_acts_684 rfl ?_
  refine a_iconst (v := nI 1) (pc' := 686) dL_acts_685 (by decide) rfl ?_
  refine a_ialdN (pc' := 687) rfl (by omega) (by decide) dL_acts_686 rfl ?_
  rw [hL.g (show 1 < 6 by decide), h1, hn6]
  refine a_bipush (v := nI 6) (pc' := 689) dL_acts_687 (by decide) rfl ?_
  refine a_icmp_ne (pc' := 692) (tgt := 796) dL_acts_689 (by decide) rfl (fun c_689 => absurd (by decide) c_689) (fun c_689 => ?_)
  refine a_al_1_26 (pc' := 693) dL_acts_692 rfl ?_
  refine a_iconst (v := nI 1) (pc' := 694) dL_acts_693 (by decide) rfl ?_
  refine a_ialdN (pc' := 695) rfl (by omega) (by decide) dL_acts_694 rfl ?_
  rw [hL.g (show 1 < 6 by decide), h1, hn6]
  refine a_bipush (v := nI 6) (pc' := 697) dL_acts_695 (by decide) rfl ?_
  refine a_icmp_ne (pc' := 700) (tgt := 742) dL_acts_697 (by decide) rfl (fun c_697 => absurd (by decide) c_697) (fun c_697 => ?_)
  refine a_il_19_26 (pc' := 702) dL_acts_700 rfl ?_
  refine a_iconst (v := nI 3) (pc' := 703) dL_acts_702 (by decide) rfl ?_
  refine a_icmp_ge (pc' := 706) (tgt := 742) dL_acts_703 (by decide) rfl (fun c_703 => absurd c_703 (nI_ge (by omega) (by decide))) (fun c_703 => ?_)
  refine a_al_2_26 (pc' := 707) dL_acts_706 rfl ?_
  refine a_bipush (v := nI 19) (pc' := 709) dL_acts_707 (by decide) rfl ?_
  refine a_il_6_26 (pc' := 711) dL_acts_709 rfl ?_
  refine a_imulN (pc' := 712) dL_acts_711 rfl ?_
  refine a_iconst (v := nI 2) (pc' := 713) dL_acts_712 (by decide) rfl ?_
  refine a_iaddN (pc' := 714) dL_acts_713 rfl ?_
  refine a_ialdN (pc' := 715) rfl (by omega) (by decide) dL_acts_714 rfl ?_
  rw [hL.v hv3 2 (by decide), hD]
  refine a_iconst (v := nI 1) (pc' := 716) dL_acts_715 (by decide) rfl ?_
  refine a_icmp_ne (pc' := 719) (tgt := 742) dL_acts_716 (by decide) rfl (fun c_716 => absurd (by decide) c_716) (fun c_716 => ?_)
  refine a_al_0_26 (pc' := 720) dL_acts_719 rfl ?_
  refine a_il_6_26 (pc' := 722) dL_acts_720 rfl ?_
  refine a_iconst (v := nI 3) (pc' := 723) dL_acts_722 (by decide) rfl ?_
  refine a_iconst (v := nI 0) (pc' := 724) dL_acts_723 (by decide) rfl ?_
  refine a_iconst (v := nI 0) (pc' := 725) dL_acts_724 (by decide) rfl ?_
  refine a_iconst (v := nI 0) (pc' := 726) dL_acts_725 (by decide) rfl ?_
  refine k_VI (pc' := 729) (cx_loadPallet rfl h.fr hg.bok hn h0 (show np ≤ 12 by omega) h1 _ _ _ _ _) cw_L_65 mi_X6_loadPallet se_X6_loadPallet rfl rfl rfl rfl (by decide) (by decide) (Nat.le_of_ble_eq_true rfl) rfl dL_acts_726 rfl ?_
  refine a_ldc (pc' := 731) dL_acts_729 cn_L_69 rfl ?_
  refine a_icmp_ne (pc' := 734) (tgt := 738) dL_acts_731 (by decide) rfl (fun c_731 => absurd hR c_731) (fun c_731 => ?_)
  refine a_iconst (v := nI 1) (pc' := 735) dL_acts_734 (by decide) rfl ?_
  refine a_goto (pc' := 795) dL_acts_735 (by decide) ?_
  refine a_iret dL_acts_795 rfl rfl ?_
  exact ⟨rfl, h.no hno⟩
set_option maxRecDepth 20000 in
set_option maxHeartbeats 4000000 in
theorem ac_8w {G : Gl} {M : Mm} (h : INV M) {nv np W v zn q : Nat} (z : Int32) (h0 : M 0 0 = nI nv) (hn : nv ≤ 3) (h1 : M 0 1 = nI np) (hm : np ≤ 6) (hW : W < 60000) (hv : v < nv) (hz : zn < 3) (hq : (np = 0 ∧ q = 0) ∨ q < np) (D9 : M 0 (6 + 19 * v + 2) = nI 1) {k3 : Nat} (hk3 : k3 < 3) (hT : pzL (M 0) (nI v) (nI zn) np 0 (nI 0) = nI k3) (hnp6 : np < 6) (L : Int32) (x20 : Option OV) (hLi : inn L (-300) (nI 300) = true) : AW G cL_acts RL 26 6 140 (some .boolean) ANS 666 [some (.inr (6, 0, 0, 0)), some (.inr (9, 50, 6, 0)), some (.inr (9, 51, 57, 0)), some (.inr (9, 52, 60, 0)), some (.inl z), some (.inl (nI W)), some (.inl (nI v)), some (.inl (nI zn)), some (.inl (nI (4 + 19 * v + 5 * zn))), some (.inl (nI q)), none, none, none, none, none, none, none, none, some (.inl L), some (.inl (nI k3)), x20, none, none, none, none, none] [] M := by
  have hL := h.1
  obtain ⟨⟨t, ht, hg⟩, hqw⟩ := id h.2.1
  have hv3 : v < 3 := by omega
  have hnp : npF (M 0) = np := by unfold npF; rw [h1]; exact nI_clamp (by omega)
  have hcl : vN (nI v) = v := vN_nI (by omega)
  have hzs := hz_t h0 hn hv hz
  have hD := D9
  have hD0 : ¬ nI 1 = 0 := by decide
  have hC : ldC (M 0) (nI v) (nI zn) = true := ldC_t h1 (by omega) hnp (by rw [hT, nI_eqm]; omega) ⟨k3, by omega, hT⟩
  have hB : ∀ A V : Nat, A ≤ 600 → V ≤ 9999 → ldB (M 0) (nI v) (nI zn) L (nI A) (nI V) = true := fun A V ha hv9 => by
    unfold ldB
    rw [hzs, hLi, inn_ge (Nat.zero_le _) ha (by decide), inn_ge (Nat.zero_le _) hv9 (by decide)]
    rfl
  have hld : ∀ A V : Nat, A ≤ 600 → V ≤ 9999 → ldF (M 0) (nI v) (nI zn) L (nI A) (nI V) = upd (startP (M 0) np (nI v) (nI zn) L (nI A) (nI V)) 1 (nI (np + 1)) := fun A V ha hv9 => by
    unfold ldF
    rw [if_pos (hB A V ha hv9), hcl, hD, if_neg hD0, if_pos hC, hnp, h1, nI_add]
  have hg1 : ∀ A V : Nat, A ≤ 600 → V ≤ 9999 → ldF (M 0) (nI v) (nI zn) L (nI A) (nI V) 1 = nI (np + 1) := fun A V ha hv9 => by rw [hld A V ha hv9, upd_at, if_pos rfl]
  have hR : ∀ A V : Nat, A ≤ 600 → V ≤ 9999 → ldR (M 0) (nI v) (nI zn) L (nI A) (nI V) = nI np := fun A V ha hv9 => by
    unfold ldR
    rw [if_pos (hB A V ha hv9), hcl, hD, if_neg hD0, if_pos hC, h1]
  have hA2 : ∀ A V : Nat, A ≤ 600 → V ≤ 9999 → LM M (ldF (M 0) (nI v) (nI zn) L (nI A) (nI V)) 52 (10 * np + 2) = nI A := fun A V ha hv9 => by
    rw [LM_LA.p hnp6 2 3 (by decide) (by decide) rfl, hld A V ha hv9, upd_at, if_neg (by omega)]
    unfold startP
    simp only [upd_at]
    repeat (first | rw [if_pos (by omega)] | rw [if_neg (by omega)])
    simp
  have hA3 : ∀ A V : Nat, A ≤ 600 → V ≤ 9999 → LM M (ldF (M 0) (nI v) (nI zn) L (nI A) (nI V)) 52 (10 * np + 3) = nI V := fun A V ha hv9 => by
    rw [LM_LA.p hnp6 3 4 (by decide) (by decide) rfl, hld A V ha hv9, upd_at, if_neg (by omega)]
    unfold startP
    simp only [upd_at]
    repeat (first | rw [if_pos (by omega)] | rw [if_neg (by omega)])
    simp
  refine a_al_2_26 (pc' := 667) dL_acts_666 rfl ?_
  refine a_bipush (v := nI 19) (pc' := 669) dL_acts_667 (by decide) rfl ?_
  refine a_il_6_26 (pc' := 671) dL_acts_669 rfl ?_
  refine a_imulN (pc' := 672) dL_acts_671 rfl ?_
  refine a_iconst (v := nI 2) (pc' := 673) dL_acts_672 (by decide) rfl ?_
  refine a_iaddN (pc' := 674) dL_acts_673 rfl ?_
  refine a_ialdN (pc' := 675) rfl (by omega) (by decide) dL_acts_674 rfl ?_
  rw [hL.v hv3 2 (by decide), hD]
  refine a_if_eq (pc' := 678) (tgt := 692) dL_acts_675 (by decide) rfl (fun c_675 => absurd c_675 (by decide)) (fun c_675 => ?_)
  refine a_il_19_26 (pc' := 680) dL_acts_678 rfl ?_
  refine a_iconst (v := nI 3) (pc' := 681) dL_acts_680 (by decide) rfl ?_
  refine a_icmp_eq (pc' := 684) (tgt := 692) dL_acts_681 (by decide) rfl (fun c_681 => absurd c_681 (by rw [nI_eqm]; omega)) (fun c_681 => ?_)
  refine a_al_1_26 (pc' := 685) dL_acts_684 rfl ?_
  refine a_iconst (v := nI 1) (pc' := 686) dL_acts_685 (by decide) rfl ?_
  refine a_ialdN (pc' := 687) rfl (by omega) (by decide) dL_acts_686 rfl ?_
  rw [hL.g (show 1 < 6 by decide), h1]
  refine a_bipush (v := nI 6) (pc' := 689) dL_acts_687 (by decide) rfl ?_
  refine a_icmp_ne (pc' := 692) (tgt := 796) dL_acts_689 (by decide) rfl (fun c_689 => ?_) (fun c_689 => absurd c_689 (by rw [nI_eqm]; omega))
  refine a_bipush (v := nI 10) (pc' := 798) dL_acts_796 (by decide) rfl ?_
  refine a_al_1_26 (pc' := 799) dL_acts_798 rfl ?_
  refine a_iconst (v := nI 1) (pc' := 800) dL_acts_799 (by decide) rfl ?_
  refine a_ialdN (pc' := 801) rfl (by omega) (by decide) dL_acts_800 rfl ?_
  rw [hL.g (show 1 < 6 by decide), h1]
  refine a_imulN (pc' := 802) dL_acts_801 rfl ?_
  refine a_is_20_26 (pc' := 804) dL_acts_802 rfl ?_
  refine a_iconst (v := nI 0) (pc' := 805) dL_acts_804 (by decide) rfl ?_
  refine a_is_21_26 (pc' := 807) dL_acts_805 rfl ?_
  refine a_il_21_26 (pc' := 809) dL_acts_807 rfl ?_
  refine a_bipush (v := nI 10) (pc' := 811) dL_acts_809 (by decide) rfl ?_
  refine a_icmp_ge (pc' := 814) (tgt := 828) dL_acts_811 (by decide) rfl (fun c_811 => absurd c_811 (by decide)) (fun c_811 => ?_)
  refine a_al_3_26 (pc' := 815) dL_acts_814 rfl ?_
  refine a_il_20_26 (pc' := 817) dL_acts_815 rfl ?_
  refine a_il_21_26 (pc' := 819) dL_acts_817 rfl ?_
  refine a_iaddN (pc' := 820) dL_acts_819 rfl ?_
  refine a_iconst (v := nI 0) (pc' := 821) dL_acts_820 (by decide) rfl ?_
  refine a_iastN (pc' := 822) rfl (by omega) (by decide) dL_acts_821 rfl ?_
  refine a_iN_21_26 (m := 1) (pc' := 825) dL_acts_822 (nI_add _ _) rfl ?_
  refine a_goto (pc' := 807) dL_acts_825 (by decide) ?_
  refine a_il_21_26 (pc' := 809) dL_acts_807 rfl ?_
  refine a_bipush (v := nI 10) (pc' := 811) dL_acts_809 (by decide) rfl ?_
  refine a_icmp_ge (pc' := 814) (tgt := 828) dL_acts_811 (by decide) rfl (fun c_811_2 => absurd c_811_2 (by decide)) (fun c_811_2 => ?_)
  refine a_al_3_26 (pc' := 815) dL_acts_814 rfl ?_
  refine a_il_20_26 (pc' := 817) dL_acts_815 rfl ?_
  refine a_il_21_26 (pc' := 819) dL_acts_817 rfl ?_
  refine a_iaddN (pc' := 820) dL_acts_819 rfl ?_
  refine a_iconst (v := nI 0) (pc' := 821) dL_acts_820 (by decide) rfl ?_
  refine a_iastN (pc' := 822) rfl (by omega) (by decide) dL_acts_821 rfl ?_
  refine a_iN_21_26 (m := 2) (pc' := 825) dL_acts_822 (nI_add _ _) rfl ?_
  refine a_goto (pc' := 807) dL_acts_825 (by decide) ?_
  refine a_il_21_26 (pc' := 809) dL_acts_807 rfl ?_
  refine a_bipush (v := nI 10) (pc' := 811) dL_acts_809 (by decide) rfl ?_
  refine a_icmp_ge (pc' := 814) (tgt := 828) dL_acts_811 (by decide) rfl (fun c_811_3 => absurd c_811_3 (by decide)) (fun c_811_3 => ?_)
  refine a_al_3_26 (pc' := 815) dL_acts_814 rfl ?_
  refine a_il_20_26 (pc' := 817) dL_acts_815 rfl ?_
  refine a_il_21_26 (pc' := 819) dL_acts_817 rfl ?_
  refine a_iaddN (pc' := 820) dL_acts_819 rfl ?_
  refine a_iconst (v := nI 0) (pc' := 821) dL_acts_820 (by decide) rfl ?_
  refine a_iastN (pc' := 822) rfl (by omega) (by decide) dL_acts_821 rfl ?_
  refine a_iN_21_26 (m := 3) (pc' := 825) dL_acts_822 (nI_add _ _) rfl ?_
  refine a_goto (pc' := 807) dL_acts_825 (by decide) ?_
  refine a_il_21_26 (pc' := 809) dL_acts_807 rfl ?_
  refine a_bipush (v := nI 10) (pc' := 811) dL_acts_809 (by decide) rfl ?_
  refine a_icmp_ge (pc' := 814) (tgt := 828) dL_acts_811 (by decide) rfl (fun c_811_4 => absurd c_811_4 (by decide)) (fun c_811_4 => ?_)
  refine a_al_3_26 (pc' := 815) dL_acts_814 rfl ?_
  refine a_il_20_26 (pc' := 817) dL_acts_815 rfl ?_
  refine a_il_21_26 (pc' := 819) dL_acts_817 rfl ?_
  refine a_iaddN (pc' := 820) dL_acts_819 rfl ?_
  refine a_iconst (v := nI 0) (pc' := 821) dL_acts_820 (by decide) rfl ?_
  refine a_iastN (pc' := 822) rfl (by omega) (by decide) dL_acts_821 rfl ?_
  refine a_iN_21_26 (m := 4) (pc' := 825) dL_acts_822 (nI_add _ _) rfl ?_
  refine a_goto (pc' := 807) dL_acts_825 (by decide) ?_
  refine a_il_21_26 (pc' := 809) dL_acts_807 rfl ?_
  refine a_bipush (v := nI 10) (pc' := 811) dL_acts_809 (by decide) rfl ?_
  refine a_icmp_ge (pc' := 814) (tgt := 828) dL_acts_811 (by decide) rfl (fun c_811_5 => absurd c_811_5 (by decide)) (fun c_811_5 => ?_)
  refine a_al_3_26 (pc' := 815) dL_acts_814 rfl ?_
  refine a_il_20_26 (pc' := 817) dL_acts_815 rfl ?_
  refine a_il_21_26 (pc' := 819) dL_acts_817 rfl ?_
  refine a_iaddN (pc' := 820) dL_acts_819 rfl ?_
  refine a_iconst (v := nI 0) (pc' := 821) dL_acts_820 (by decide) rfl ?_
  refine a_iastN (pc' := 822) rfl (by omega) (by decide) dL_acts_821 rfl ?_
  refine a_iN_21_26 (m := 5) (pc' := 825) dL_acts_822 (nI_add _ _) rfl ?_
  refine a_goto (pc' := 807) dL_acts_825 (by decide) ?_
  refine a_il_21_26 (pc' := 809) dL_acts_807 rfl ?_
  refine a_bipush (v := nI 10) (pc' := 811) dL_acts_809 (by decide) rfl ?_
  refine a_icmp_ge (pc' := 814) (tgt := 828) dL_acts_811 (by decide) rfl (fun c_811_6 => absurd c_811_6 (by decide)) (fun c_811_6 => ?_)
  refine a_al_3_26 (pc' := 815) dL_acts_814 rfl ?_
  refine a_il_20_26 (pc' := 817) dL_acts_815 rfl ?_
  refine a_il_21_26 (pc' := 819) dL_acts_817 rfl ?_
  refine a_iaddN (pc' := 820) dL_acts_819 rfl ?_
  refine a_iconst (v := nI 0) (pc' := 821) dL_acts_820 (by decide) rfl ?_
  refine a_iastN (pc' := 822) rfl (by omega) (by decide) dL_acts_821 rfl ?_
  refine a_iN_21_26 (m := 6) (pc' := 825) dL_acts_822 (nI_add _ _) rfl ?_
  refine a_goto (pc' := 807) dL_acts_825 (by decide) ?_
  refine a_il_21_26 (pc' := 809) dL_acts_807 rfl ?_
  refine a_bipush (v := nI 10) (pc' := 811) dL_acts_809 (by decide) rfl ?_
  refine a_icmp_ge (pc' := 814) (tgt := 828) dL_acts_811 (by decide) rfl (fun c_811_7 => absurd c_811_7 (by decide)) (fun c_811_7 => ?_)
  refine a_al_3_26 (pc' := 815) dL_acts_814 rfl ?_
  refine a_il_20_26 (pc' := 817) dL_acts_815 rfl ?_
  refine a_il_21_26 (pc' := 819) dL_acts_817 rfl ?_
  refine a_iaddN (pc' := 820) dL_acts_819 rfl ?_
  refine a_iconst (v := nI 0) (pc' := 821) dL_acts_820 (by decide) rfl ?_
  refine a_iastN (pc' := 822) rfl (by omega) (by decide) dL_acts_821 rfl ?_
  refine a_iN_21_26 (m := 7) (pc' := 825) dL_acts_822 (nI_add _ _) rfl ?_
  refine a_goto (pc' := 807) dL_acts_825 (by decide) ?_
  refine a_il_21_26 (pc' := 809) dL_acts_807 rfl ?_
  refine a_bipush (v := nI 10) (pc' := 811) dL_acts_809 (by decide) rfl ?_
  refine a_icmp_ge (pc' := 814) (tgt := 828) dL_acts_811 (by decide) rfl (fun c_811_8 => absurd c_811_8 (by decide)) (fun c_811_8 => ?_)
  refine a_al_3_26 (pc' := 815) dL_acts_814 rfl ?_
  refine a_il_20_26 (pc' := 817) dL_acts_815 rfl ?_
  refine a_il_21_26 (pc' := 819) dL_acts_817 rfl ?_
  refine a_iaddN (pc' := 820) dL_acts_819 rfl ?_
  refine a_iconst (v := nI 0) (pc' := 821) dL_acts_820 (by decide) rfl ?_
  refine a_iastN (pc' := 822) rfl (by omega) (by decide) dL_acts_821 rfl ?_
  refine a_iN_21_26 (m := 8) (pc' := 825) dL_acts_822 (nI_add _ _) rfl ?_
  refine a_goto (pc' := 807) dL_acts_825 (by decide) ?_
  refine a_il_21_26 (pc' := 809) dL_acts_807 rfl ?_
  refine a_bipush (v := nI 10) (pc' := 811) dL_acts_809 (by decide) rfl ?_
  refine a_icmp_ge (pc' := 814) (tgt := 828) dL_acts_811 (by decide) rfl (fun c_811_9 => absurd c_811_9 (by decide)) (fun c_811_9 => ?_)
  refine a_al_3_26 (pc' := 815) dL_acts_814 rfl ?_
  refine a_il_20_26 (pc' := 817) dL_acts_815 rfl ?_
  refine a_il_21_26 (pc' := 819) dL_acts_817 rfl ?_
  refine a_iaddN (pc' := 820) dL_acts_819 rfl ?_
  refine a_iconst (v := nI 0) (pc' := 821) dL_acts_820 (by decide) rfl ?_
  refine a_iastN (pc' := 822) rfl (by omega) (by decide) dL_acts_821 rfl ?_
  refine a_iN_21_26 (m := 9) (pc' := 825) dL_acts_822 (nI_add _ _) rfl ?_
  refine a_goto (pc' := 807) dL_acts_825 (by decide) ?_
  refine a_il_21_26 (pc' := 809) dL_acts_807 rfl ?_
  refine a_bipush (v := nI 10) (pc' := 811) dL_acts_809 (by decide) rfl ?_
  refine a_icmp_ge (pc' := 814) (tgt := 828) dL_acts_811 (by decide) rfl (fun c_811_10 => absurd c_811_10 (by decide)) (fun c_811_10 => ?_)
  refine a_al_3_26 (pc' := 815) dL_acts_814 rfl ?_
  refine a_il_20_26 (pc' := 817) dL_acts_815 rfl ?_
  refine a_il_21_26 (pc' := 819) dL_acts_817 rfl ?_
  refine a_iaddN (pc' := 820) dL_acts_819 rfl ?_
  refine a_iconst (v := nI 0) (pc' := 821) dL_acts_820 (by decide) rfl ?_
  refine a_iastN (pc' := 822) rfl (by omega) (by decide) dL_acts_821 rfl ?_
  refine a_iN_21_26 (m := 10) (pc' := 825) dL_acts_822 (nI_add _ _) rfl ?_
  refine a_goto (pc' := 807) dL_acts_825 (by decide) ?_
  refine a_il_21_26 (pc' := 809) dL_acts_807 rfl ?_
  refine a_bipush (v := nI 10) (pc' := 811) dL_acts_809 (by decide) rfl ?_
  refine a_icmp_ge (pc' := 814) (tgt := 828) dL_acts_811 (by decide) rfl (fun c_811_11 => ?_) (fun c_811_11 => absurd (by decide) c_811_11)
  refine a_al_3_26 (pc' := 829) dL_acts_828 rfl ?_
  refine a_il_20_26 (pc' := 831) dL_acts_829 rfl ?_
  refine a_iconst (v := nI 3) (pc' := 832) dL_acts_831 (by decide) rfl ?_
  refine a_il_6_26 (pc' := 834) dL_acts_832 rfl ?_
  refine a_imulN (pc' := 835) dL_acts_834 rfl ?_
  refine a_il_7_26 (pc' := 837) dL_acts_835 rfl ?_
  refine a_iaddN (pc' := 838) dL_acts_837 rfl ?_
  refine a_iastN (pc' := 839) rfl (by omega) (by decide) dL_acts_838 rfl ?_
  refine a_al_3_26 (pc' := 840) dL_acts_839 rfl ?_
  refine a_il_20_26 (pc' := 842) dL_acts_840 rfl ?_
  refine a_iconst (v := nI 1) (pc' := 843) dL_acts_842 (by decide) rfl ?_
  refine a_iaddN (pc' := 844) dL_acts_843 rfl ?_
  refine a_il_18_26 (pc' := 846) dL_acts_844 rfl ?_
  refine a_iastN (pc' := 847) rfl (by omega) (by decide) dL_acts_846 rfl ?_
  refine a_al_3_26 (pc' := 848) dL_acts_847 rfl ?_
  refine a_il_20_26 (pc' := 850) dL_acts_848 rfl ?_
  refine a_iconst (v := nI 2) (pc' := 851) dL_acts_850 (by decide) rfl ?_
  refine a_iaddN (pc' := 852) dL_acts_851 rfl ?_
  refine a_il_5_26 (pc' := 854) dL_acts_852 rfl ?_
  refine a_iconst (v := nI 5) (pc' := 855) dL_acts_854 (by decide) rfl ?_
  refine a_idivN (pc' := 856) (by omega) (by decide) (by decide) dL_acts_855 rfl ?_
  refine a_il_5_26 (pc' := 858) dL_acts_856 rfl ?_
  refine a_iconst (v := nI 4) (pc' := 859) dL_acts_858 (by decide) rfl ?_
  refine a_iremN (pc' := 860) (by omega) (by decide) (by decide) dL_acts_859 rfl ?_
  refine a_if_ne (pc' := 863) (tgt := 869) dL_acts_860 (by decide) rfl (fun c_860 => ?_) (fun c_860 => ?_)
  · refine a_bipush (v := nI 12) (pc' := 871) dL_acts_869 (by decide) rfl ?_
    refine a_iremN (pc' := 872) (by omega) (by decide) (by decide) dL_acts_871 rfl ?_
    refine a_iastN (pc' := 873) rfl (by omega) (by decide) dL_acts_872 rfl ?_
    refine a_al_3_26 (pc' := 874) dL_acts_873 rfl ?_
    refine a_il_20_26 (pc' := 876) dL_acts_874 rfl ?_
    refine a_iconst (v := nI 3) (pc' := 877) dL_acts_876 (by decide) rfl ?_
    refine a_iaddN (pc' := 878) dL_acts_877 rfl ?_
    refine a_il_5_26 (pc' := 880) dL_acts_878 rfl ?_
    refine a_iconst (v := nI 5) (pc' := 881) dL_acts_880 (by decide) rfl ?_
    refine a_iremN (pc' := 882) (by omega) (by decide) (by decide) dL_acts_881 rfl ?_
    refine a_if_ne (pc' := 885) (tgt := 889) dL_acts_882 (by decide) rfl (fun c_882 => ?_) (fun c_882 => ?_)
    · refine a_il_5_26 (pc' := 891) dL_acts_889 rfl ?_
      refine a_sipush (v := nI 10000) (pc' := 894) dL_acts_891 (by decide) rfl ?_
      refine a_iremN (pc' := 895) (by omega) (by decide) (by decide) dL_acts_894 rfl ?_
      refine a_iastN (pc' := 896) rfl (by omega) (by decide) dL_acts_895 rfl ?_
      rw [ld_eq hL hnp6]
      refine a_al_1_26 (pc' := 897) dL_acts_896 rfl ?_
      refine a_iconst (v := nI 1) (pc' := 898) dL_acts_897 (by decide) rfl ?_
      refine a_dup2 (pc' := 899) dL_acts_898 rfl ?_
      refine a_ialdN (pc' := 900) rfl (by omega) (by decide) dL_acts_899 rfl ?_
      rw [LM_LA.g (show 1 < 6 by decide), startP_ne _ _ _ _ _ _ (Or.inl (by omega)), h1]
      refine a_iconst (v := nI 1) (pc' := 901) dL_acts_900 (by decide) rfl ?_
      refine a_iaddN (pc' := 902) dL_acts_901 rfl ?_
      refine a_iastN (pc' := 903) rfl (by omega) (by decide) dL_acts_902 rfl ?_
      rw [wr_eq, LM_LA.1, upd_g _ _ (by decide), ← hld (W / 5 % 12) (W % 10000) (by omega) (by omega), LM_LA.at50 (fun i hi => by rw [hld _ _ (by omega) (by omega), upd_at, if_neg (by omega)]), LM_LM]
      refine a_al_0_26 (pc' := 904) dL_acts_903 rfl ?_
      refine a_il_6_26 (pc' := 906) dL_acts_904 rfl ?_
      refine a_il_7_26 (pc' := 908) dL_acts_906 rfl ?_
      refine a_il_18_26 (pc' := 910) dL_acts_908 rfl ?_
      refine a_al_3_26 (pc' := 911) dL_acts_910 rfl ?_
      refine a_il_20_26 (pc' := 913) dL_acts_911 rfl ?_
      refine a_iconst (v := nI 2) (pc' := 914) dL_acts_913 (by decide) rfl ?_
      refine a_iaddN (pc' := 915) dL_acts_914 rfl ?_
      refine a_ialdN (pc' := 916) rfl (by omega) (by decide) dL_acts_915 rfl ?_
      rw [hA2 (W / 5 % 12) (W % 10000) (by omega) (by omega)]
      refine a_al_3_26 (pc' := 917) dL_acts_916 rfl ?_
      refine a_il_20_26 (pc' := 919) dL_acts_917 rfl ?_
      refine a_iconst (v := nI 3) (pc' := 920) dL_acts_919 (by decide) rfl ?_
      refine a_iaddN (pc' := 921) dL_acts_920 rfl ?_
      refine a_ialdN (pc' := 922) rfl (by omega) (by decide) dL_acts_921 rfl ?_
      rw [hA3 (W / 5 % 12) (W % 10000) (by omega) (by omega)]
      refine k_VI (pc' := 925) (cx_loadPallet (LM_ne M _ (by decide)) (LM_fr h.fr) hg.bok hn h0 (show np ≤ 12 by omega) h1 _ _ _ _ _) cw_L_65 mi_X6_loadPallet se_X6_loadPallet rfl rfl rfl rfl (by decide) (by decide) (Nat.le_of_ble_eq_true rfl) rfl dL_acts_922 rfl ?_
      refine a_al_1_26 (pc' := 926) dL_acts_925 rfl ?_
      refine a_iconst (v := nI 1) (pc' := 927) dL_acts_926 (by decide) rfl ?_
      refine a_ialdN (pc' := 928) rfl (by omega) (by decide) dL_acts_927 rfl ?_
      rw [LA.g (LA.ed (LM_fr h.fr) LM_LA) (show 1 < 6 by decide), hg1 (W / 5 % 12) (W % 10000) (by omega) (by omega)]
      refine a_iconst (v := nI 1) (pc' := 929) dL_acts_928 (by decide) rfl ?_
      refine a_isubN (pc' := 930) (by omega) dL_acts_929 rfl ?_
      refine a_icmp_ne (pc' := 933) (tgt := 937) dL_acts_930 (by decide) rfl (fun c_930 => absurd (by rw [hR (W / 5 % 12) (W % 10000) (by omega) (by omega), Nat.add_sub_cancel]) c_930) (fun c_930 => ?_)
      refine a_iconst (v := nI 1) (pc' := 934) dL_acts_933 (by decide) rfl ?_
      refine a_goto (pc' := 938) dL_acts_934 (by decide) ?_
      refine a_iret dL_acts_938 rfl rfl ?_
      exact ⟨rfl, h.ed (h.2.1.ld _ _ _ _ _) (by rw [show npF (ldF (M 0) (nI v) (nI zn) L (nI (W / 5 % 12)) (nI (W % 10000))) = np + 1 from by unfold npF; rw [hg1 _ _ (by omega) (by omega)]; exact nI_clamp (by omega)]; omega)⟩
    · refine a_iconst (v := nI 0) (pc' := 886) dL_acts_885 (by decide) rfl ?_
      refine a_goto (pc' := 895) dL_acts_886 (by decide) ?_
      refine a_iastN (pc' := 896) rfl (by omega) (by decide) dL_acts_895 rfl ?_
      rw [ld_eq hL hnp6]
      refine a_al_1_26 (pc' := 897) dL_acts_896 rfl ?_
      refine a_iconst (v := nI 1) (pc' := 898) dL_acts_897 (by decide) rfl ?_
      refine a_dup2 (pc' := 899) dL_acts_898 rfl ?_
      refine a_ialdN (pc' := 900) rfl (by omega) (by decide) dL_acts_899 rfl ?_
      rw [LM_LA.g (show 1 < 6 by decide), startP_ne _ _ _ _ _ _ (Or.inl (by omega)), h1]
      refine a_iconst (v := nI 1) (pc' := 901) dL_acts_900 (by decide) rfl ?_
      refine a_iaddN (pc' := 902) dL_acts_901 rfl ?_
      refine a_iastN (pc' := 903) rfl (by omega) (by decide) dL_acts_902 rfl ?_
      rw [wr_eq, LM_LA.1, upd_g _ _ (by decide), ← hld (W / 5 % 12) 0 (by omega) (by omega), LM_LA.at50 (fun i hi => by rw [hld _ _ (by omega) (by omega), upd_at, if_neg (by omega)]), LM_LM]
      refine a_al_0_26 (pc' := 904) dL_acts_903 rfl ?_
      refine a_il_6_26 (pc' := 906) dL_acts_904 rfl ?_
      refine a_il_7_26 (pc' := 908) dL_acts_906 rfl ?_
      refine a_il_18_26 (pc' := 910) dL_acts_908 rfl ?_
      refine a_al_3_26 (pc' := 911) dL_acts_910 rfl ?_
      refine a_il_20_26 (pc' := 913) dL_acts_911 rfl ?_
      refine a_iconst (v := nI 2) (pc' := 914) dL_acts_913 (by decide) rfl ?_
      refine a_iaddN (pc' := 915) dL_acts_914 rfl ?_
      refine a_ialdN (pc' := 916) rfl (by omega) (by decide) dL_acts_915 rfl ?_
      rw [hA2 (W / 5 % 12) 0 (by omega) (by omega)]
      refine a_al_3_26 (pc' := 917) dL_acts_916 rfl ?_
      refine a_il_20_26 (pc' := 919) dL_acts_917 rfl ?_
      refine a_iconst (v := nI 3) (pc' := 920) dL_acts_919 (by decide) rfl ?_
      refine a_iaddN (pc' := 921) dL_acts_920 rfl ?_
      refine a_ialdN (pc' := 922) rfl (by omega) (by decide) dL_acts_921 rfl ?_
      rw [hA3 (W / 5 % 12) 0 (by omega) (by omega)]
      refine k_VI (pc' := 925) (cx_loadPallet (LM_ne M _ (by decide)) (LM_fr h.fr) hg.bok hn h0 (show np ≤ 12 by omega) h1 _ _ _ _ _) cw_L_65 mi_X6_loadPallet se_X6_loadPallet rfl rfl rfl rfl (by decide) (by decide) (Nat.le_of_ble_eq_true rfl) rfl dL_acts_922 rfl ?_
      refine a_al_1_26 (pc' := 926) dL_acts_925 rfl ?_
      refine a_iconst (v := nI 1) (pc' := 927) dL_acts_926 (by decide) rfl ?_
      refine a_ialdN (pc' := 928) rfl (by omega) (by decide) dL_acts_927 rfl ?_
      rw [LA.g (LA.ed (LM_fr h.fr) LM_LA) (show 1 < 6 by decide), hg1 (W / 5 % 12) 0 (by omega) (by omega)]
      refine a_iconst (v := nI 1) (pc' := 929) dL_acts_928 (by decide) rfl ?_
      refine a_isubN (pc' := 930) (by omega) dL_acts_929 rfl ?_
      refine a_icmp_ne (pc' := 933) (tgt := 937) dL_acts_930 (by decide) rfl (fun c_930_2 => absurd (by rw [hR (W / 5 % 12) 0 (by omega) (by omega), Nat.add_sub_cancel]) c_930_2) (fun c_930_2 => ?_)
      refine a_iconst (v := nI 1) (pc' := 934) dL_acts_933 (by decide) rfl ?_
      refine a_goto (pc' := 938) dL_acts_934 (by decide) ?_
      refine a_iret dL_acts_938 rfl rfl ?_
      exact ⟨rfl, h.ed (h.2.1.ld _ _ _ _ _) (by rw [show npF (ldF (M 0) (nI v) (nI zn) L (nI (W / 5 % 12)) (nI 0)) = np + 1 from by unfold npF; rw [hg1 _ _ (by omega) (by omega)]; exact nI_clamp (by omega)]; omega)⟩
  · refine a_sipush (v := nI 601) (pc' := 866) dL_acts_863 (by decide) rfl ?_
    refine a_goto (pc' := 871) dL_acts_866 (by decide) ?_
    refine a_iremN (pc' := 872) (by omega) (by decide) (by decide) dL_acts_871 rfl ?_
    refine a_iastN (pc' := 873) rfl (by omega) (by decide) dL_acts_872 rfl ?_
    refine a_al_3_26 (pc' := 874) dL_acts_873 rfl ?_
    refine a_il_20_26 (pc' := 876) dL_acts_874 rfl ?_
    refine a_iconst (v := nI 3) (pc' := 877) dL_acts_876 (by decide) rfl ?_
    refine a_iaddN (pc' := 878) dL_acts_877 rfl ?_
    refine a_il_5_26 (pc' := 880) dL_acts_878 rfl ?_
    refine a_iconst (v := nI 5) (pc' := 881) dL_acts_880 (by decide) rfl ?_
    refine a_iremN (pc' := 882) (by omega) (by decide) (by decide) dL_acts_881 rfl ?_
    refine a_if_ne (pc' := 885) (tgt := 889) dL_acts_882 (by decide) rfl (fun c_882_2 => ?_) (fun c_882_2 => ?_)
    · refine a_il_5_26 (pc' := 891) dL_acts_889 rfl ?_
      refine a_sipush (v := nI 10000) (pc' := 894) dL_acts_891 (by decide) rfl ?_
      refine a_iremN (pc' := 895) (by omega) (by decide) (by decide) dL_acts_894 rfl ?_
      refine a_iastN (pc' := 896) rfl (by omega) (by decide) dL_acts_895 rfl ?_
      rw [ld_eq hL hnp6]
      refine a_al_1_26 (pc' := 897) dL_acts_896 rfl ?_
      refine a_iconst (v := nI 1) (pc' := 898) dL_acts_897 (by decide) rfl ?_
      refine a_dup2 (pc' := 899) dL_acts_898 rfl ?_
      refine a_ialdN (pc' := 900) rfl (by omega) (by decide) dL_acts_899 rfl ?_
      rw [LM_LA.g (show 1 < 6 by decide), startP_ne _ _ _ _ _ _ (Or.inl (by omega)), h1]
      refine a_iconst (v := nI 1) (pc' := 901) dL_acts_900 (by decide) rfl ?_
      refine a_iaddN (pc' := 902) dL_acts_901 rfl ?_
      refine a_iastN (pc' := 903) rfl (by omega) (by decide) dL_acts_902 rfl ?_
      rw [wr_eq, LM_LA.1, upd_g _ _ (by decide), ← hld (W / 5 % 601) (W % 10000) (by omega) (by omega), LM_LA.at50 (fun i hi => by rw [hld _ _ (by omega) (by omega), upd_at, if_neg (by omega)]), LM_LM]
      refine a_al_0_26 (pc' := 904) dL_acts_903 rfl ?_
      refine a_il_6_26 (pc' := 906) dL_acts_904 rfl ?_
      refine a_il_7_26 (pc' := 908) dL_acts_906 rfl ?_
      refine a_il_18_26 (pc' := 910) dL_acts_908 rfl ?_
      refine a_al_3_26 (pc' := 911) dL_acts_910 rfl ?_
      refine a_il_20_26 (pc' := 913) dL_acts_911 rfl ?_
      refine a_iconst (v := nI 2) (pc' := 914) dL_acts_913 (by decide) rfl ?_
      refine a_iaddN (pc' := 915) dL_acts_914 rfl ?_
      refine a_ialdN (pc' := 916) rfl (by omega) (by decide) dL_acts_915 rfl ?_
      rw [hA2 (W / 5 % 601) (W % 10000) (by omega) (by omega)]
      refine a_al_3_26 (pc' := 917) dL_acts_916 rfl ?_
      refine a_il_20_26 (pc' := 919) dL_acts_917 rfl ?_
      refine a_iconst (v := nI 3) (pc' := 920) dL_acts_919 (by decide) rfl ?_
      refine a_iaddN (pc' := 921) dL_acts_920 rfl ?_
      refine a_ialdN (pc' := 922) rfl (by omega) (by decide) dL_acts_921 rfl ?_
      rw [hA3 (W / 5 % 601) (W % 10000) (by omega) (by omega)]
      refine k_VI (pc' := 925) (cx_loadPallet (LM_ne M _ (by decide)) (LM_fr h.fr) hg.bok hn h0 (show np ≤ 12 by omega) h1 _ _ _ _ _) cw_L_65 mi_X6_loadPallet se_X6_loadPallet rfl rfl rfl rfl (by decide) (by decide) (Nat.le_of_ble_eq_true rfl) rfl dL_acts_922 rfl ?_
      refine a_al_1_26 (pc' := 926) dL_acts_925 rfl ?_
      refine a_iconst (v := nI 1) (pc' := 927) dL_acts_926 (by decide) rfl ?_
      refine a_ialdN (pc' := 928) rfl (by omega) (by decide) dL_acts_927 rfl ?_
      rw [LA.g (LA.ed (LM_fr h.fr) LM_LA) (show 1 < 6 by decide), hg1 (W / 5 % 601) (W % 10000) (by omega) (by omega)]
      refine a_iconst (v := nI 1) (pc' := 929) dL_acts_928 (by decide) rfl ?_
      refine a_isubN (pc' := 930) (by omega) dL_acts_929 rfl ?_
      refine a_icmp_ne (pc' := 933) (tgt := 937) dL_acts_930 (by decide) rfl (fun c_930_3 => absurd (by rw [hR (W / 5 % 601) (W % 10000) (by omega) (by omega), Nat.add_sub_cancel]) c_930_3) (fun c_930_3 => ?_)
      refine a_iconst (v := nI 1) (pc' := 934) dL_acts_933 (by decide) rfl ?_
      refine a_goto (pc' := 938) dL_acts_934 (by decide) ?_
      refine a_iret dL_acts_938 rfl rfl ?_
      exact ⟨rfl, h.ed (h.2.1.ld _ _ _ _ _) (by rw [show npF (ldF (M 0) (nI v) (nI zn) L (nI (W / 5 % 601)) (nI (W % 10000))) = np + 1 from by unfold npF; rw [hg1 _ _ (by omega) (by omega)]; exact nI_clamp (by omega)]; omega)⟩
    · refine a_iconst (v := nI 0) (pc' := 886) dL_acts_885 (by decide) rfl ?_
      refine a_goto (pc' := 895) dL_acts_886 (by decide) ?_
      refine a_iastN (pc' := 896) rfl (by omega) (by decide) dL_acts_895 rfl ?_
      rw [ld_eq hL hnp6]
      refine a_al_1_26 (pc' := 897) dL_acts_896 rfl ?_
      refine a_iconst (v := nI 1) (pc' := 898) dL_acts_897 (by decide) rfl ?_
      refine a_dup2 (pc' := 899) dL_acts_898 rfl ?_
      refine a_ialdN (pc' := 900) rfl (by omega) (by decide) dL_acts_899 rfl ?_
      rw [LM_LA.g (show 1 < 6 by decide), startP_ne _ _ _ _ _ _ (Or.inl (by omega)), h1]
      refine a_iconst (v := nI 1) (pc' := 901) dL_acts_900 (by decide) rfl ?_
      refine a_iaddN (pc' := 902) dL_acts_901 rfl ?_
      refine a_iastN (pc' := 903) rfl (by omega) (by decide) dL_acts_902 rfl ?_
      rw [wr_eq, LM_LA.1, upd_g _ _ (by decide), ← hld (W / 5 % 601) 0 (by omega) (by omega), LM_LA.at50 (fun i hi => by rw [hld _ _ (by omega) (by omega), upd_at, if_neg (by omega)]), LM_LM]
      refine a_al_0_26 (pc' := 904) dL_acts_903 rfl ?_
      refine a_il_6_26 (pc' := 906) dL_acts_904 rfl ?_
      refine a_il_7_26 (pc' := 908) dL_acts_906 rfl ?_
      refine a_il_18_26 (pc' := 910) dL_acts_908 rfl ?_
      refine a_al_3_26 (pc' := 911) dL_acts_910 rfl ?_
      refine a_il_20_26 (pc' := 913) dL_acts_911 rfl ?_
      refine a_iconst (v := nI 2) (pc' := 914) dL_acts_913 (by decide) rfl ?_
      refine a_iaddN (pc' := 915) dL_acts_914 rfl ?_
      refine a_ialdN (pc' := 916) rfl (by omega) (by decide) dL_acts_915 rfl ?_
      rw [hA2 (W / 5 % 601) 0 (by omega) (by omega)]
      refine a_al_3_26 (pc' := 917) dL_acts_916 rfl ?_
      refine a_il_20_26 (pc' := 919) dL_acts_917 rfl ?_
      refine a_iconst (v := nI 3) (pc' := 920) dL_acts_919 (by decide) rfl ?_
      refine a_iaddN (pc' := 921) dL_acts_920 rfl ?_
      refine a_ialdN (pc' := 922) rfl (by omega) (by decide) dL_acts_921 rfl ?_
      rw [hA3 (W / 5 % 601) 0 (by omega) (by omega)]
      refine k_VI (pc' := 925) (cx_loadPallet (LM_ne M _ (by decide)) (LM_fr h.fr) hg.bok hn h0 (show np ≤ 12 by omega) h1 _ _ _ _ _) cw_L_65 mi_X6_loadPallet se_X6_loadPallet rfl rfl rfl rfl (by decide) (by decide) (Nat.le_of_ble_eq_true rfl) rfl dL_acts_922 rfl ?_
      refine a_al_1_26 (pc' := 926) dL_acts_925 rfl ?_
      refine a_iconst (v := nI 1) (pc' := 927) dL_acts_926 (by decide) rfl ?_
      refine a_ialdN (pc' := 928) rfl (by omega) (by decide) dL_acts_927 rfl ?_
      rw [LA.g (LA.ed (LM_fr h.fr) LM_LA) (show 1 < 6 by decide), hg1 (W / 5 % 601) 0 (by omega) (by omega)]
      refine a_iconst (v := nI 1) (pc' := 929) dL_acts_928 (by decide) rfl ?_
      refine a_isubN (pc' := 930) (by omega) dL_acts_929 rfl ?_
      refine a_icmp_ne (pc' := 933) (tgt := 937) dL_acts_930 (by decide) rfl (fun c_930_4 => absurd (by rw [hR (W / 5 % 601) 0 (by omega) (by omega), Nat.add_sub_cancel]) c_930_4) (fun c_930_4 => ?_)
      refine a_iconst (v := nI 1) (pc' := 934) dL_acts_933 (by decide) rfl ?_
      refine a_goto (pc' := 938) dL_acts_934 (by decide) ?_
      refine a_iret dL_acts_938 rfl rfl ?_
      exact ⟨rfl, h.ed (h.2.1.ld _ _ _ _ _) (by rw [show npF (ldF (M 0) (nI v) (nI zn) L (nI (W / 5 % 601)) (nI 0)) = np + 1 from by unfold npF; rw [hg1 _ _ (by omega) (by omega)]; exact nI_clamp (by omega)]; omega)⟩
set_option maxRecDepth 20000 in
set_option maxHeartbeats 4000000 in
theorem ac_8b {G : Gl} {M : Mm} (h : INV M) {nv np W v zn q : Nat} (z : Int32) (h0 : M 0 0 = nI nv) (hn : nv ≤ 3) (h1 : M 0 1 = nI np) (hm : np ≤ 6) (hW : W < 60000) (hv : v < nv) (hz : zn < 3) (hq : (np = 0 ∧ q = 0) ∨ q < np) (L : Int32) (hLi : inn L (-300) (nI 300) = true) : AW G cL_acts RL 26 6 140 (some .boolean) ANS 607 [some (.inr (6, 0, 0, 0)), some (.inr (9, 50, 6, 0)), some (.inr (9, 51, 57, 0)), some (.inr (9, 52, 60, 0)), some (.inl z), some (.inl (nI W)), some (.inl (nI v)), some (.inl (nI zn)), some (.inl (nI (4 + 19 * v + 5 * zn))), some (.inl (nI q)), none, none, none, none, none, none, none, none, some (.inl L), none, none, none, none, none, none, none] [] M := by
  have hL := h.1
  obtain ⟨⟨t, ht, hg⟩, hqw⟩ := id h.2.1
  have hv3 : v < 3 := by omega
  have hnp : npF (M 0) = np := by unfold npF; rw [h1]; exact nI_clamp (by omega)
  have hcl : vN (nI v) = v := vN_nI (by omega)
  have hzs := hz_t h0 hn hv hz
  refine a_iconst (v := nI 0) (pc' := 608) dL_acts_607 (by decide) rfl ?_
  refine a_is_19_26 (pc' := 610) dL_acts_608 rfl ?_
  refine a_iconst (v := nI 0) (pc' := 611) dL_acts_610 (by decide) rfl ?_
  refine a_is_20_26 (pc' := 613) dL_acts_611 rfl ?_
  refine lp_L_acts_there hm hv3 hz z L M hL hg.vok hg.zok h1 np 0 _ (by omega) ?_
  obtain ⟨k3, hk3, hT⟩ := (hqw.1).qz v zn hv3 hz
  rw [hnp] at hT
  rw [hT]
  rcases hg.door hv3 with hD | hD
  · exact ac_8x h z h0 hn h1 hm hW hv hz hq hD hk3 L _ hLi
  · by_cases e3 : k3 = 3
    · subst e3
      exact ac_8y h z h0 hn h1 hm hW hv hz hq hD hT L _ hLi
    · by_cases e6 : np = 6
      · exact ac_8z h z h0 hn h1 hm hW hv hz hq hD (by omega) e6 L _ hLi
      · exact ac_8w h z h0 hn h1 hm hW hv hz hq hD (by omega) hT (by omega) L _ hLi
set_option maxRecDepth 20000 in
set_option maxHeartbeats 4000000 in
theorem ac_8 {G : Gl} {M : Mm} (h : INV M) {nv np W v zn q : Nat} (z : Int32) (h0 : M 0 0 = nI nv) (hn : nv ≤ 3) (h1 : M 0 1 = nI np) (hm : np ≤ 6) (hW : W < 60000) (hv : v < nv) (hz : zn < 3) (hq : (np = 0 ∧ q = 0) ∨ q < np)  : AW G cL_acts RL 26 6 140 (some .boolean) ANS 557 [some (.inr (6, 0, 0, 0)), some (.inr (9, 50, 6, 0)), some (.inr (9, 51, 57, 0)), some (.inr (9, 52, 60, 0)), some (.inl z), some (.inl (nI W)), some (.inl (nI v)), some (.inl (nI zn)), some (.inl (nI (4 + 19 * v + 5 * zn))), some (.inl (nI q)), none, none, none, none, none, none, none, none, none, none, none, none, none, none, none, none] [] M := by
  have hL := h.1
  obtain ⟨⟨t, ht, hg⟩, hqw⟩ := id h.2.1
  have hv3 : v < 3 := by omega
  refine a_al_2_26 (pc' := 558) dL_acts_557 rfl ?_
  refine a_il_8_26 (pc' := 560) dL_acts_558 rfl ?_
  refine a_ialdN (pc' := 561) rfl (by omega) (by decide) dL_acts_560 rfl ?_
  rw [hL.z0 hv3 hz]
  refine a_il_5_26 (pc' := 563) dL_acts_561 rfl ?_
  refine a_bipush (v := nI 9) (pc' := 565) dL_acts_563 (by decide) rfl ?_
  refine a_idivN (pc' := 566) (by omega) (by decide) (by decide) dL_acts_565 rfl ?_
  refine a_bipush (v := nI 60) (pc' := 568) dL_acts_566 (by decide) rfl ?_
  refine a_iremN (pc' := 569) (by omega) (by decide) (by decide) dL_acts_568 rfl ?_
  refine a_iadd (pc' := 570) dL_acts_569 rfl ?_
  refine a_bipush (v := nI 20) (pc' := 572) dL_acts_570 (by decide) rfl ?_
  refine a_isub (pc' := 573) dL_acts_572 rfl ?_
  refine a_is_18_26 (pc' := 575) dL_acts_573 rfl ?_
  refine a_il_18_26 (pc' := 577) dL_acts_575 rfl ?_
  refine a_sipush (v := nI 300) (pc' := 580) dL_acts_577 (by decide) rfl ?_
  refine a_icmp_le (pc' := 583) (tgt := 589) dL_acts_580 (by decide) rfl (fun c_580 => ?_) (fun c_580 => ?_)
  · refine a_il_18_26 (pc' := 591) dL_acts_589 rfl ?_
    refine a_sipush (v := (-300)) (pc' := 594) dL_acts_591 (by decide) rfl ?_
    refine a_icmp_ge (pc' := 597) (tgt := 603) dL_acts_594 (by decide) rfl (fun c_594 => ?_) (fun c_594 => ?_)
    · refine a_il_18_26 (pc' := 605) dL_acts_603 rfl ?_
      refine a_is_18_26 (pc' := 607) dL_acts_605 rfl ?_
      exact ac_8b h z h0 hn h1 hm hW hv hz hq _ (by unfold inn; rw [decide_eq_false (Int32.not_lt.mpr c_594), decide_eq_false (Int32.not_lt.mpr c_580)]; rfl)
    · refine a_sipush (v := (-300)) (pc' := 600) dL_acts_597 (by decide) rfl ?_
      refine a_goto (pc' := 605) dL_acts_600 (by decide) ?_
      refine a_is_18_26 (pc' := 607) dL_acts_605 rfl ?_
      exact ac_8b h z h0 hn h1 hm hW hv hz hq _ (by decide)
  · refine a_sipush (v := nI 300) (pc' := 586) dL_acts_583 (by decide) rfl ?_
    refine a_goto (pc' := 605) dL_acts_586 (by decide) ?_
    refine a_is_18_26 (pc' := 607) dL_acts_605 rfl ?_
    exact ac_8b h z h0 hn h1 hm hW hv hz hq _ (by decide)
