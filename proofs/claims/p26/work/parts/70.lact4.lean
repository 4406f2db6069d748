theorem or_nI (a b : Nat) : nI a ||| nI b = nI (a ||| b) := by
  apply Int32.toBitVec_inj.mp
  rw [Int32.toBitVec_or]
  simp [nI]
theorem pin_b (F : Nat → Int32) (x : Int32) : ∀ (n p a : Nat), p + n ≤ 6 → a < 2 ^ p → ∃ b, b < 2 ^ (p + n) ∧ pinL F x n p (nI a) = nI b := by
  intro n
  induction n with
  | zero => intro p a _ h; exact ⟨a, h, rfl⟩
  | succ n ih =>
    intro p a hp ha
    unfold pinL
    have h2 : 2 ^ p < 2 ^ (p + 1) := Nat.pow_lt_pow_right (by decide) (by omega)
    rw [show p + (n + 1) = p + 1 + n by omega]
    split
    · rw [shl1 p (by omega), or_nI]
      exact ih (p + 1) _ (by omega) (Nat.or_lt_two_pow (by omega) h2)
    · exact ih (p + 1) _ (by omega) (by omega)
theorem pin_64 (F : Nat → Int32) (x : Int32) {np : Nat} (hm : np ≤ 6) : ∃ s, s < 64 ∧ pinL F x np 0 (nI 0) = nI s := by
  obtain ⟨b, hb, e⟩ := pin_b F x np 0 0 (by omega) (by decide)
  refine ⟨b, ?_, e⟩
  have : 2 ^ (0 + np) ≤ 2 ^ 6 := Nat.pow_le_pow_right (by decide) (by omega)
  omega
set_option maxRecDepth 20000 in
set_option maxHeartbeats 4000000 in
theorem ac_12_00 {G : Gl} {M : Mm} (h : INV M) {nv np W v zn q : Nat} (z : Int32) (h0 : M 0 0 = nI nv) (hn : nv ≤ 3) (h1 : M 0 1 = nI np) (hm : np ≤ 6) (hW : W < 60000) (hv : v < nv) (hz : zn < 3) (hq : (np = 0 ∧ q = 0) ∨ q < np) (hw : W / 3 % 2 = 0) (D9 : M 0 (6 + 19 * v + 2) = nI 0) : AW G cL_acts RL 26 6 140 (some .boolean) ANS 939 [some (.inr (6, 0, 0, 0)), some (.inr (9, 50, 6, 0)), some (.inr (9, 51, 57, 0)), some (.inr (9, 52, 60, 0)), some (.inl z), some (.inl (nI W)), some (.inl (nI v)), some (.inl (nI zn)), some (.inl (nI (4 + 19 * v + 5 * zn))), some (.inl (nI q)), none, none, none, none, none, none, none, none, none, none, none, none, none, none, none, none] [] M := by
  have hL := h.1
  obtain ⟨⟨t, ht, hg⟩, hqw⟩ := id h.2.1
  have hv3 : v < 3 := by omega
  have hD := D9
  have hnp : npF (M 0) = np := by unfold npF; rw [h1]; exact nI_clamp (by omega)
  have hcl : vN (nI v) = v := vN_nI (by omega)
  have hB : drB (M 0) (nI v) (nI 0) = true := by unfold drB; rw [hv_t h0 hn hv]; decide
  have hgd := hg.dr (nI v) (nI 0)
  have hd1 : drF (M 0) (nI v) (nI 0) 1 = nI np := (samP.dr hg _ _).2.1.trans h1
  obtain ⟨s, hs64, hs⟩ := pin_64 (drF (M 0) (nI v) (nI 0)) (nI v) hm
  have hR : drR (M 0) (nI v) (nI 0) = (-100002) := by unfold drR; rw [if_pos hB, hcl, hD, if_pos (by decide)]
  have hF : drF (M 0) (nI v) (nI 0) = upd (M 0) (6 + 19 * v + 2) (nI 0) := by
    unfold drF
    rw [if_pos hB, hcl, hD]
    rw [if_pos rfl, ← hD, upd_self]
  have hch : wr M 51 (19 * v + 2) (nI 0) = LM M (drF (M 0) (nI v) (nI 0)) := by
    rw [wr_eq, hL.2.1, upd_s _ _ (by omega) (show 6 + 19 * v + 2 = 6 + (19 * v + 2) from rfl), ← hF]
    exact hL.at51 (fun i hi => by rw [hF, upd_at, if_neg (by omega)]) (fun i hi => by rw [hF, upd_at, if_neg (by omega)])
  refine a_il_5_26 (pc' := 941) dL_acts_939 rfl ?_
  refine a_iconst (v := nI 3) (pc' := 942) dL_acts_941 (by decide) rfl ?_
  refine a_idivN (pc' := 943) (by omega) (by decide) (by decide) dL_acts_942 rfl ?_
  refine a_iconst (v := nI 2) (pc' := 944) dL_acts_943 (by decide) rfl ?_
  refine a_iremN (pc' := 945) (by omega) (by decide) (by decide) dL_acts_944 rfl ?_
  rw [hw]
  refine a_is_21_26 (pc' := 947) dL_acts_945 rfl ?_
  refine a_al_2_26 (pc' := 948) dL_acts_947 rfl ?_
  refine a_bipush (v := nI 19) (pc' := 950) dL_acts_948 (by decide) rfl ?_
  refine a_il_6_26 (pc' := 952) dL_acts_950 rfl ?_
  refine a_imulN (pc' := 953) dL_acts_952 rfl ?_
  refine a_iconst (v := nI 2) (pc' := 954) dL_acts_953 (by decide) rfl ?_
  refine a_iaddN (pc' := 955) dL_acts_954 rfl ?_
  refine a_ialdN (pc' := 956) rfl (by omega) (by decide) dL_acts_955 rfl ?_
  rw [hL.v hv3 2 (by decide), hD]
  refine a_il_21_26 (pc' := 958) dL_acts_956 rfl ?_
  refine a_icmp_ne (pc' := 961) (tgt := 965) dL_acts_958 (by decide) rfl (fun c_958 => absurd (by decide) c_958) (fun c_958 => ?_)
  refine a_iconst (v := nI 1) (pc' := 962) dL_acts_961 (by decide) rfl ?_
  refine a_goto (pc' := 966) dL_acts_962 (by decide) ?_
  refine a_is_22_26 (pc' := 968) dL_acts_966 rfl ?_
  refine a_al_2_26 (pc' := 969) dL_acts_968 rfl ?_
  refine a_bipush (v := nI 19) (pc' := 971) dL_acts_969 (by decide) rfl ?_
  refine a_il_6_26 (pc' := 973) dL_acts_971 rfl ?_
  refine a_imulN (pc' := 974) dL_acts_973 rfl ?_
  refine a_iconst (v := nI 2) (pc' := 975) dL_acts_974 (by decide) rfl ?_
  refine a_iaddN (pc' := 976) dL_acts_975 rfl ?_
  refine a_il_21_26 (pc' := 978) dL_acts_976 rfl ?_
  refine a_iastN (pc' := 979) rfl (by omega) (by decide) dL_acts_978 rfl ?_
  rw [hch]
  refine a_al_0_26 (pc' := 980) dL_acts_979 rfl ?_
  refine a_il_6_26 (pc' := 982) dL_acts_980 rfl ?_
  refine a_il_21_26 (pc' := 984) dL_acts_982 rfl ?_
  refine k_VI (pc' := 987) (cx_door (LM_ne M _ (by decide)) (LM_fr h.fr) hg.bok hn h0 (show np ≤ 12 by omega) h1 _ _) cw_L_71 mi_X6_door se_X6_door rfl rfl rfl rfl (by decide) (by decide) (Nat.le_of_ble_eq_true rfl) rfl dL_acts_984 rfl ?_
  refine a_il_22_26 (pc' := 989) dL_acts_987 rfl ?_
  refine a_if_eq (pc' := 992) (tgt := 997) dL_acts_989 (by decide) rfl (fun c_989 => absurd c_989 (by decide)) (fun c_989 => ?_)
  refine a_ldc (pc' := 994) dL_acts_992 cn_L_70 rfl ?_
  refine a_goto (pc' := 1007) dL_acts_994 (by decide) ?_
  refine a_icmp_ne (pc' := 1010) (tgt := 1014) dL_acts_1007 (by decide) rfl (fun c_1007 => absurd hR c_1007) (fun c_1007 => ?_)
  refine a_iconst (v := nI 1) (pc' := 1011) dL_acts_1010 (by decide) rfl ?_
  refine a_goto (pc' := 1015) dL_acts_1011 (by decide) ?_
  refine a_iret dL_acts_1015 rfl rfl ?_
  exact ⟨rfl, h.ed (h.2.1.dr _ _) (by rw [npF_eq (samP.dr hg _ _).2.1]; exact h.2.2.1)⟩
set_option maxRecDepth 20000 in
set_option maxHeartbeats 4000000 in
theorem ac_12_01 {G : Gl} {M : Mm} (h : INV M) {nv np W v zn q : Nat} (z : Int32) (h0 : M 0 0 = nI nv) (hn : nv ≤ 3) (h1 : M 0 1 = nI np) (hm : np ≤ 6) (hW : W < 60000) (hv : v < nv) (hz : zn < 3) (hq : (np = 0 ∧ q = 0) ∨ q < np) (hw : W / 3 % 2 = 0) (D9 : M 0 (6 + 19 * v + 2) = nI 1) : AW G cL_acts RL 26 6 140 (some .boolean) ANS 939 [some (.inr (6, 0, 0, 0)), some (.inr (9, 50, 6, 0)), some (.inr (9, 51, 57, 0)), some (.inr (9, 52, 60, 0)), some (.inl z), some (.inl (nI W)), some (.inl (nI v)), some (.inl (nI zn)), some (.inl (nI (4 + 19 * v + 5 * zn))), some (.inl (nI q)), none, none, none, none, none, none, none, none, none, none, none, none, none, none, none, none] [] M := by
  have hL := h.1
  obtain ⟨⟨t, ht, hg⟩, hqw⟩ := id h.2.1
  have hv3 : v < 3 := by omega
  have hD := D9
  have hnp : npF (M 0) = np := by unfold npF; rw [h1]; exact nI_clamp (by omega)
  have hcl : vN (nI v) = v := vN_nI (by omega)
  have hB : drB (M 0) (nI v) (nI 0) = true := by unfold drB; rw [hv_t h0 hn hv]; decide
  have hgd := hg.dr (nI v) (nI 0)
  have hd1 : drF (M 0) (nI v) (nI 0) 1 = nI np := (samP.dr hg _ _).2.1.trans h1
  obtain ⟨s, hs64, hs⟩ := pin_64 (drF (M 0) (nI v) (nI 0)) (nI v) hm
  have hR : drR (M 0) (nI v) (nI 0) = bcS (nI s) := by unfold drR; rw [if_pos hB, hcl, hD, if_neg (by decide), hnp, hs]
  have hF : drF (M 0) (nI v) (nI 0) = upd (M 0) (6 + 19 * v + 2) (nI 0) := by
    unfold drF
    rw [if_pos hB, hcl, hD]
    rw [if_neg (by decide)]
  have hch : wr M 51 (19 * v + 2) (nI 0) = LM M (drF (M 0) (nI v) (nI 0)) := by
    rw [wr_eq, hL.2.1, upd_s _ _ (by omega) (show 6 + 19 * v + 2 = 6 + (19 * v + 2) from rfl), ← hF]
    exact hL.at51 (fun i hi => by rw [hF, upd_at, if_neg (by omega)]) (fun i hi => by rw [hF, upd_at, if_neg (by omega)])
  refine a_il_5_26 (pc' := 941) dL_acts_939 rfl ?_
  refine a_iconst (v := nI 3) (pc' := 942) dL_acts_941 (by decide) rfl ?_
  refine a_idivN (pc' := 943) (by omega) (by decide) (by decide) dL_acts_942 rfl ?_
  refine a_iconst (v := nI 2) (pc' := 944) dL_acts_943 (by decide) rfl ?_
  refine a_iremN (pc' := 945) (by omega) (by decide) (by decide) dL_acts_944 rfl ?_
  rw [hw]
  refine a_is_21_26 (pc' := 947) dL_acts_945 rfl ?_
  refine a_al_2_26 (pc' := 948) dL_acts_947 rfl ?_
  refine a_bipush (v := nI 19) (pc' := 950) dL_acts_948 (by decide) rfl ?_
  refine a_il_6_26 (pc' := 952) dL_acts_950 rfl ?_
  refine a_imulN (pc' := 953) dL_acts_952 rfl ?_
  refine a_iconst (v := nI 2) (pc' := 954) dL_acts_953 (by decide) rfl ?_
  refine a_iaddN (pc' := 955) dL_acts_954 rfl ?_
  refine a_ialdN (pc' := 956) rfl (by omega) (by decide) dL_acts_955 rfl ?_
  rw [hL.v hv3 2 (by decide), hD]
  refine a_il_21_26 (pc' := 958) dL_acts_956 rfl ?_
  refine a_icmp_ne (pc' := 961) (tgt := 965) dL_acts_958 (by decide) rfl (fun c_958 => ?_) (fun c_958 => absurd c_958 (by decide))
  refine a_iconst (v := nI 0) (pc' := 966) dL_acts_965 (by decide) rfl ?_
  refine a_is_22_26 (pc' := 968) dL_acts_966 rfl ?_
  refine a_al_2_26 (pc' := 969) dL_acts_968 rfl ?_
  refine a_bipush (v := nI 19) (pc' := 971) dL_acts_969 (by decide) rfl ?_
  refine a_il_6_26 (pc' := 973) dL_acts_971 rfl ?_
  refine a_imulN (pc' := 974) dL_acts_973 rfl ?_
  refine a_iconst (v := nI 2) (pc' := 975) dL_acts_974 (by decide) rfl ?_
  refine a_iaddN (pc' := 976) dL_acts_975 rfl ?_
  refine a_il_21_26 (pc' := 978) dL_acts_976 rfl ?_
  refine a_iastN (pc' := 979) rfl (by omega) (by decide) dL_acts_978 rfl ?_
  rw [hch]
  refine a_al_0_26 (pc' := 980) dL_acts_979 rfl ?_
  refine a_il_6_26 (pc' := 982) dL_acts_980 rfl ?_
  refine a_il_21_26 (pc' := 984) dL_acts_982 rfl ?_
  refine k_VI (pc' := 987) (cx_door (LM_ne M _ (by decide)) (LM_fr h.fr) hg.bok hn h0 (show np ≤ 12 by omega) h1 _ _) cw_L_71 mi_X6_door se_X6_door rfl rfl rfl rfl (by decide) (by decide) (Nat.le_of_ble_eq_true rfl) rfl dL_acts_984 rfl ?_
  refine a_il_22_26 (pc' := 989) dL_acts_987 rfl ?_
  refine a_if_eq (pc' := 992) (tgt := 997) dL_acts_989 (by decide) rfl (fun c_989 => ?_) (fun c_989 => absurd (by decide) c_989)
  refine a_al_1_26 (pc' := 998) dL_acts_997 rfl ?_
  refine a_al_3_26 (pc' := 999) dL_acts_998 rfl ?_
  refine a_il_6_26 (pc' := 1001) dL_acts_999 rfl ?_
  refine k_SI (pc' := 1004) (ct_L_inside hm _ _ (LA.ed (LM_fr h.fr) LM_LA) hgd.vok hgd.zok hd1) cw_L_74 ms_L_inside rfl (by decide) (by decide) (Nat.le_of_ble_eq_true rfl) rfl dL_acts_1001 rfl ?_
  rw [hs]
  refine k_SI (pc' := 1007) (ct_L_many hs64 _) cw_L_39 ms_L_many rfl (by decide) (by decide) (Nat.le_of_ble_eq_true rfl) rfl dL_acts_1004 rfl ?_
  refine a_icmp_ne (pc' := 1010) (tgt := 1014) dL_acts_1007 (by decide) rfl (fun c_1007 => absurd hR c_1007) (fun c_1007 => ?_)
  refine a_iconst (v := nI 1) (pc' := 1011) dL_acts_1010 (by decide) rfl ?_
  refine a_goto (pc' := 1015) dL_acts_1011 (by decide) ?_
  refine a_iret dL_acts_1015 rfl rfl ?_
  exact ⟨rfl, h.ed (h.2.1.dr _ _) (by rw [npF_eq (samP.dr hg _ _).2.1]; exact h.2.2.1)⟩
set_option maxRecDepth 20000 in
set_option maxHeartbeats 4000000 in
theorem ac_12_10 {G : Gl} {M : Mm} (h : INV M) {nv np W v zn q : Nat} (z : Int32) (h0 : M 0 0 = nI nv) (hn : nv ≤ 3) (h1 : M 0 1 = nI np) (hm : np ≤ 6) (hW : W < 60000) (hv : v < nv) (hz : zn < 3) (hq : (np = 0 ∧ q = 0) ∨ q < np) (hw : W / 3 % 2 = 1) (D9 : M 0 (6 + 19 * v + 2) = nI 0) : AW G cL_acts RL 26 6 140 (some .boolean) ANS 939 [some (.inr (6, 0, 0, 0)), some (.inr (9, 50, 6, 0)), some (.inr (9, 51, 57, 0)), some (.inr (9, 52, 60, 0)), some (.inl z), some (.inl (nI W)), some (.inl (nI v)), some (.inl (nI zn)), some (.inl (nI (4 + 19 * v + 5 * zn))), some (.inl (nI q)), none, none, none, none, none, none, none, none, none, none, none, none, none, none, none, none] [] M := by
  have hL := h.1
  obtain ⟨⟨t, ht, hg⟩, hqw⟩ := id h.2.1
  have hv3 : v < 3 := by omega
  have hD := D9
  have hnp : npF (M 0) = np := by unfold npF; rw [h1]; exact nI_clamp (by omega)
  have hcl : vN (nI v) = v := vN_nI (by omega)
  have hB : drB (M 0) (nI v) (nI 1) = true := by unfold drB; rw [hv_t h0 hn hv]; decide
  have hgd := hg.dr (nI v) (nI 1)
  have hd1 : drF (M 0) (nI v) (nI 1) 1 = nI np := (samP.dr hg _ _).2.1.trans h1
  obtain ⟨s, hs64, hs⟩ := pin_64 (drF (M 0) (nI v) (nI 1)) (nI v) hm
  have hR : drR (M 0) (nI v) (nI 1) = bcS (nI s) := by unfold drR; rw [if_pos hB, hcl, hD, if_neg (by decide), hnp, hs]
  have hF : drF (M 0) (nI v) (nI 1) = upd (M 0) (6 + 19 * v + 2) (nI 1) := by
    unfold drF
    rw [if_pos hB, hcl, hD]
    rw [if_neg (by decide)]
  have hch : wr M 51 (19 * v + 2) (nI 1) = LM M (drF (M 0) (nI v) (nI 1)) := by
    rw [wr_eq, hL.2.1, upd_s _ _ (by omega) (show 6 + 19 * v + 2 = 6 + (19 * v + 2) from rfl), ← hF]
    exact hL.at51 (fun i hi => by rw [hF, upd_at, if_neg (by omega)]) (fun i hi => by rw [hF, upd_at, if_neg (by omega)])
  refine a_il_5_26 (pc' := 941) dL_acts_939 rfl ?_
  refine a_iconst (v := nI 3) (pc' := 942) dL_acts_941 (by decide) rfl ?_
  refine a_idivN (pc' := 943) (by omega) (by decide) (by decide) dL_acts_942 rfl ?_
  refine a_iconst (v := nI 2) (pc' := 944) dL_acts_943 (by decide) rfl ?_
  refine a_iremN (pc' := 945) (by omega) (by decide) (by decide) dL_acts_944 rfl ?_
  rw [hw]
  refine a_is_21_26 (pc' := 947) dL_acts_945 rfl ?_
  refine a_al_2_26 (pc' := 948) dL_acts_947 rfl ?_
  refine a_bipush (v := nI 19) (pc' := 950) dL_acts_948 (by decide) rfl ?_
  refine a_il_6_26 (pc' := 952) dL_acts_950 rfl ?_
  refine a_imulN (pc' := 953) dL_acts_952 rfl ?_
  refine a_iconst (v := nI 2) (pc' := 954) dL_acts_953 (by decide) rfl ?_
  refine a_iaddN (pc' := 955) dL_acts_954 rfl ?_
  refine a_ialdN (pc' := 956) rfl (by omega) (by decide) dL_acts_955 rfl ?_
  rw [hL.v hv3 2 (by decide), hD]
  refine a_il_21_26 (pc' := 958) dL_acts_956 rfl ?_
  refine a_icmp_ne (pc' := 961) (tgt := 965) dL_acts_958 (by decide) rfl (fun c_958 => ?_) (fun c_958 => absurd c_958 (by decide))
  refine a_iconst (v := nI 0) (pc' := 966) dL_acts_965 (by decide) rfl ?_
  refine a_is_22_26 (pc' := 968) dL_acts_966 rfl ?_
  refine a_al_2_26 (pc' := 969) dL_acts_968 rfl ?_
  refine a_bipush (v := nI 19) (pc' := 971) dL_acts_969 (by decide) rfl ?_
  refine a_il_6_26 (pc' := 973) dL_acts_971 rfl ?_
  refine a_imulN (pc' := 974) dL_acts_973 rfl ?_
  refine a_iconst (v := nI 2) (pc' := 975) dL_acts_974 (by decide) rfl ?_
  refine a_iaddN (pc' := 976) dL_acts_975 rfl ?_
  refine a_il_21_26 (pc' := 978) dL_acts_976 rfl ?_
  refine a_iastN (pc' := 979) rfl (by omega) (by decide) dL_acts_978 rfl ?_
  rw [hch]
  refine a_al_0_26 (pc' := 980) dL_acts_979 rfl ?_
  refine a_il_6_26 (pc' := 982) dL_acts_980 rfl ?_
  refine a_il_21_26 (pc' := 984) dL_acts_982 rfl ?_
  refine k_VI (pc' := 987) (cx_door (LM_ne M _ (by decide)) (LM_fr h.fr) hg.bok hn h0 (show np ≤ 12 by omega) h1 _ _) cw_L_71 mi_X6_door se_X6_door rfl rfl rfl rfl (by decide) (by decide) (Nat.le_of_ble_eq_true rfl) rfl dL_acts_984 rfl ?_
  refine a_il_22_26 (pc' := 989) dL_acts_987 rfl ?_
  refine a_if_eq (pc' := 992) (tgt := 997) dL_acts_989 (by decide) rfl (fun c_989 => ?_) (fun c_989 => absurd (by decide) c_989)
  refine a_al_1_26 (pc' := 998) dL_acts_997 rfl ?_
  refine a_al_3_26 (pc' := 999) dL_acts_998 rfl ?_
  refine a_il_6_26 (pc' := 1001) dL_acts_999 rfl ?_
  refine k_SI (pc' := 1004) (ct_L_inside hm _ _ (LA.ed (LM_fr h.fr) LM_LA) hgd.vok hgd.zok hd1) cw_L_74 ms_L_inside rfl (by decide) (by decide) (Nat.le_of_ble_eq_true rfl) rfl dL_acts_1001 rfl ?_
  rw [hs]
  refine k_SI (pc' := 1007) (ct_L_many hs64 _) cw_L_39 ms_L_many rfl (by decide) (by decide) (Nat.le_of_ble_eq_true rfl) rfl dL_acts_1004 rfl ?_
  refine a_icmp_ne (pc' := 1010) (tgt := 1014) dL_acts_1007 (by decide) rfl (fun c_1007 => absurd hR c_1007) (fun c_1007 => ?_)
  refine a_iconst (v := nI 1) (pc' := 1011) dL_acts_1010 (by decide) rfl ?_
  refine a_goto (pc' := 1015) dL_acts_1011 (by decide) ?_
  refine a_iret dL_acts_1015 rfl rfl ?_
  exact ⟨rfl, h.ed (h.2.1.dr _ _) (by rw [npF_eq (samP.dr hg _ _).2.1]; exact h.2.2.1)⟩
set_option maxRecDepth 20000 in
set_option maxHeartbeats 4000000 in
theorem ac_12_11 {G : Gl} {M : Mm} (h : INV M) {nv np W v zn q : Nat} (z : Int32) (h0 : M 0 0 = nI nv) (hn : nv ≤ 3) (h1 : M 0 1 = nI np) (hm : np ≤ 6) (hW : W < 60000) (hv : v < nv) (hz : zn < 3) (hq : (np = 0 ∧ q = 0) ∨ q < np) (hw : W / 3 % 2 = 1) (D9 : M 0 (6 + 19 * v + 2) = nI 1) : AW G cL_acts RL 26 6 140 (some .boolean) ANS 939 [some (.inr (6, 0, 0, 0)), some (.inr (9, 50, 6, 0)), some (.inr (9, 51, 57, 0)), some (.inr (9, 52, 60, 0)), some (.inl z), some (.inl (nI W)), some (.inl (nI v)), some (.inl (nI zn)), some (.inl (nI (4 + 19 * v + 5 * zn))), some (.inl (nI q)), none, none, none, none, none, none, none, none, none, none, none, none, none, none, none, none] [] M := by
  have hL := h.1
  obtain ⟨⟨t, ht, hg⟩, hqw⟩ := id h.2.1
  have hv3 : v < 3 := by omega
  have hD := D9
  have hnp : npF (M 0) = np := by unfold npF; rw [h1]; exact nI_clamp (by omega)
  have hcl : vN (nI v) = v := vN_nI (by omega)
  have hB : drB (M 0) (nI v) (nI 1) = true := by unfold drB; rw [hv_t h0 hn hv]; decide
  have hgd := hg.dr (nI v) (nI 1)
  have hd1 : drF (M 0) (nI v) (nI 1) 1 = nI np := (samP.dr hg _ _).2.1.trans h1
  obtain ⟨s, hs64, hs⟩ := pin_64 (drF (M 0) (nI v) (nI 1)) (nI v) hm
  have hR : drR (M 0) (nI v) (nI 1) = (-100002) := by unfold drR; rw [if_pos hB, hcl, hD, if_pos (by decide)]
  have hF : drF (M 0) (nI v) (nI 1) = upd (M 0) (6 + 19 * v + 2) (nI 1) := by
    unfold drF
    rw [if_pos hB, hcl, hD]
    rw [if_pos rfl, ← hD, upd_self]
  have hch : wr M 51 (19 * v + 2) (nI 1) = LM M (drF (M 0) (nI v) (nI 1)) := by
    rw [wr_eq, hL.2.1, upd_s _ _ (by omega) (show 6 + 19 * v + 2 = 6 + (19 * v + 2) from rfl), ← hF]
    exact hL.at51 (fun i hi => by rw [hF, upd_at, if_neg (by omega)]) (fun i hi => by rw [hF, upd_at, if_neg (by omega)])
  refine a_il_5_26 (pc' := 941) dL_acts_939 rfl ?_
  refine a_iconst (v := nI 3) (pc' := 942) dL_acts_941 (by decide) rfl ?_
  refine a_idivN (pc' := 943) (by omega) (by decide) (by decide) dL_acts_942 rfl ?_
  refine a_iconst (v := nI 2) (pc' := 944) dL_acts_943 (by decide) rfl ?_
  refine a_iremN (pc' := 945) (by omega) (by decide) (by decide) dL_acts_944 rfl ?_
  rw [hw]
  refine a_is_21_26 (pc' := 947) dL_acts_945 rfl ?_
  refine a_al_2_26 (pc' := 948) dL_acts_947 rfl ?_
  refine a_bipush (v := nI 19) (pc' := 950) dL_acts_948 (by decide) rfl ?_
  refine a_il_6_26 (pc' := 952) dL_acts_950 rfl ?_
  refine a_imulN (pc' := 953) dL_acts_952 rfl ?_
  refine a_iconst (v := nI 2) (pc' := 954) dL_acts_953 (by decide) rfl ?_
  refine a_iaddN (pc' := 955) dL_acts_954 rfl ?_
  refine a_ialdN (pc' := 956) rfl (by omega) (by decide) dL_acts_955 rfl ?_
  rw [hL.v hv3 2 (by decide), hD]
  refine a_il_21_26 (pc' := 958) dL_acts_956 rfl ?_
  refine a_icmp_ne (pc' := 961) (tgt := 965) dL_acts_958 (by decide) rfl (fun c_958 => absurd (by decide) c_958) (fun c_958 => ?_)
  refine a_iconst (v := nI 1) (pc' := 962) dL_acts_961 (by decide) rfl ?_
  refine a_goto (pc' := 966) dL_acts_962 (by decide) ?_
  refine a_is_22_26 (pc' := 968) dL_acts_966 rfl ?_
  refine a_al_2_26 (pc' := 969) dL_acts_968 rfl ?_
  refine a_bipush (v := nI 19) (pc' := 971) dL_acts_969 (by decide) rfl ?_
  refine a_il_6_26 (pc' := 973) dL_acts_971 rfl ?_
  refine a_imulN (pc' := 974) dL_acts_973 rfl ?_
  refine a_iconst (v := nI 2) (pc' := 975) dL_acts_974 (by decide) rfl ?_
  refine a_iaddN (pc' := 976) dL_acts_975 rfl ?_
  refine a_il_21_26 (pc' := 978) dL_acts_976 rfl ?_
  refine a_iastN (pc' := 979) rfl (by omega) (by decide) dL_acts_978 rfl ?_
  rw [hch]
  refine a_al_0_26 (pc' := 980) dL_acts_979 rfl ?_
  refine a_il_6_26 (pc' := 982) dL_acts_980 rfl ?_
  refine a_il_21_26 (pc' := 984) dL_acts_982 rfl ?_
  refine k_VI (pc' := 987) (cx_door (LM_ne M _ (by decide)) (LM_fr h.fr) hg.bok hn h0 (show np ≤ 12 by omega) h1 _ _) cw_L_71 mi_X6_door se_X6_door rfl rfl rfl rfl (by decide) (by decide) (Nat.le_of_ble_eq_true rfl) rfl dL_acts_984 rfl ?_
  refine a_il_22_26 (pc' := 989) dL_acts_987 rfl ?_
  refine a_if_eq (pc' := 992) (tgt := 997) dL_acts_989 (by decide) rfl (fun c_989 => absurd c_989 (by decide)) (fun c_989 => ?_)
  refine a_ldc (pc' := 994) dL_acts_992 cn_L_70 rfl ?_
  refine a_goto (pc' := 1007) dL_acts_994 (by decide) ?_
  refine a_icmp_ne (pc' := 1010) (tgt := 1014) dL_acts_1007 (by decide) rfl (fun c_1007 => absurd hR c_1007) (fun c_1007 => ?_)
  refine a_iconst (v := nI 1) (pc' := 1011) dL_acts_1010 (by decide) rfl ?_
  refine a_goto (pc' := 1015) dL_acts_1011 (by decide) ?_
  refine a_iret dL_acts_1015 rfl rfl ?_
  exact ⟨rfl, h.ed (h.2.1.dr _ _) (by rw [npF_eq (samP.dr hg _ _).2.1]; exact h.2.2.1)⟩
set_option maxRecDepth 20000 in
set_option maxHeartbeats 4000000 in
theorem ac_14a {G : Gl} {M : Mm} (h : INV M) {nv np W v zn q : Nat} (z : Int32) (h0 : M 0 0 = nI nv) (hn : nv ≤ 3) (h1 : M 0 1 = nI np) (hm : np ≤ 6) (hW : W < 60000) (hv : v < nv) (hz : zn < 3) (hq : (np = 0 ∧ q = 0) ∨ q < np) (hn0 : np = 0) : AW G cL_acts RL 26 6 140 (some .boolean) ANS 1016 [some (.inr (6, 0, 0, 0)), some (.inr (9, 50, 6, 0)), some (.inr (9, 51, 57, 0)), some (.inr (9, 52, 60, 0)), some (.inl z), some (.inl (nI W)), some (.inl (nI v)), some (.inl (nI zn)), some (.inl (nI (4 + 19 * v + 5 * zn))), some (.inl (nI q)), none, none, none, none, none, none, none, none, none, none, none, none, none, none, none, none] [] M := by
  have hL := h.1
  obtain ⟨⟨t, ht, hg⟩, hqw⟩ := id h.2.1
  have hv3 : v < 3 := by omega
  have hb : hpS (M 0) (nI 0) = false := by unfold hpS; rw [h1, hn0]; decide
  have hR : dlR (M 0) (nI 0) = (-100001) := by unfold dlR; rw [hb]; rfl
  have hno : dlF (M 0) (nI 0) = M 0 := by unfold dlF; rw [hb]; rfl
  refine a_al_1_26 (pc' := 1017) dL_acts_1016 rfl ?_
  refine a_iconst (v := nI 1) (pc' := 1018) dL_acts_1017 (by decide) rfl ?_
  refine a_ialdN (pc' := 1019) rfl (by omega) (by decide) dL_acts_1018 rfl ?_
  rw [hL.g (show 1 < 6 by decide), h1, hn0]
  refine a_if_ne (pc' := 1022) (tgt := 1038) dL_acts_1019 (by decide) rfl (fun c_1019 => absurd (by decide) c_1019) (fun c_1019 => ?_)
  refine a_al_0_26 (pc' := 1023) dL_acts_1022 rfl ?_
  refine a_iconst (v := nI 0) (pc' := 1024) dL_acts_1023 (by decide) rfl ?_
  refine k_VI (pc' := 1027) (cx_deliver rfl h.fr hg.bok hg.vok (show np ≤ 12 by omega) h1 _) cw_L_77 mi_X6_deliver se_X6_deliver rfl rfl rfl rfl (by decide) (by decide) (Nat.le_of_ble_eq_true rfl) rfl dL_acts_1024 rfl ?_
  refine a_ldc (pc' := 1029) dL_acts_1027 cn_L_69 rfl ?_
  refine a_icmp_ne (pc' := 1032) (tgt := 1036) dL_acts_1029 (by decide) rfl (fun c_1029 => absurd hR c_1029) (fun c_1029 => ?_)
  refine a_iconst (v := nI 1) (pc' := 1033) dL_acts_1032 (by decide) rfl ?_
  refine a_goto (pc' := 1037) dL_acts_1033 (by decide) ?_
  refine a_iret dL_acts_1037 rfl rfl ?_
  exact ⟨rfl, h.no hno⟩
set_option maxRecDepth 20000 in
set_option maxHeartbeats 4000000 in
theorem ac_14b {G : Gl} {M : Mm} (h : INV M) {nv np W v zn q : Nat} (z : Int32) (h0 : M 0 0 = nI nv) (hn : nv ≤ 3) (h1 : M 0 1 = nI np) (hm : np ≤ 6) (hW : W < 60000) (hv : v < nv) (hz : zn < 3) (hq : (np = 0 ∧ q = 0) ∨ q < np) (hq9 : q < np) : AW G cL_acts RL 26 6 140 (some .boolean) ANS 1016 [some (.inr (6, 0, 0, 0)), some (.inr (9, 50, 6, 0)), some (.inr (9, 51, 57, 0)), some (.inr (9, 52, 60, 0)), some (.inl z), some (.inl (nI W)), some (.inl (nI v)), some (.inl (nI zn)), some (.inl (nI (4 + 19 * v + 5 * zn))), some (.inl (nI q)), none, none, none, none, none, none, none, none, none, none, none, none, none, none, none, none] [] M := by
  have hL := h.1
  obtain ⟨⟨t, ht, hg⟩, hqw⟩ := id h.2.1
  have hv3 : v < 3 := by omega
  have hq6 : q < 6 := by omega
  have hcl : vN (nI q) = q := vN_nI (by omega)
  have hpt := hp_t h1 (by omega) hq9
  obtain ⟨w, hw3, ev⟩ := hg.pv (p := q) (by omega)
  obtain ⟨y, hy3, ez⟩ := hg.pz (p := q) (by omega)
  have hwl : vN (nI w) = w := vN_nI (by omega)
  have h3w : (3 * w + y) / 3 = w := by omega
  have hp0 : M 52 (10 * q) = nI (3 * w + y) := by rw [hL.p0 hq6, ev, ez, pk_mul, nI_add]
  have hp4 : M 52 (10 * q + 4) = M 0 (63 + 10 * q + 5) := hL.p hq6 4 5 (by decide) (by decide) rfl
  have hp7 : M 52 (10 * q + 7) = M 0 (63 + 10 * q + 8) := hL.p hq6 7 8 (by decide) (by decide) rfl
  have hp2 : M 52 (10 * q + 2) = M 0 (63 + 10 * q + 3) := hL.p hq6 2 3 (by decide) (by decide) rfl
  have hst := hg.state (p := q) (by omega)
  have hsp : 0 < M 0 (63 + 10 * q + 5) → ¬ M 0 (63 + 10 * q + 5) = 0 := fun a b => by rw [b] at a; exact absurd a (by decide)
  have hs0 : ¬ 0 < M 0 (63 + 10 * q + 5) → M 0 (63 + 10 * q + 5) = 0 := fun a => by
    rcases hst with e | e | e | e
    · exact e
    · rw [e] at a; exact absurd (by decide) a
    · rw [e] at a; exact absurd (by decide) a
    · rw [e] at a; exact absurd (by decide) a
  have bn : ¬ M 0 (63 + 10 * q + 5) = 0 → dlB (M 0) q = false := fun a => by unfold dlB; rw [decide_eq_false a]; rfl
  have bd : M 0 (6 + 19 * w + 2) = 0 → dlB (M 0) q = false := fun a => by unfold dlB; rw [ev, hwl, decide_eq_true a]; simp
  have by9 : ¬ 0 < M 0 (63 + 10 * q + 5) → ¬ M 0 (6 + 19 * w + 2) = 0 → dlB (M 0) q = true := fun a b => by unfold dlB; rw [ev, hwl, decide_eq_true (hs0 a), decide_eq_false b]; rfl
  have rb : dlB (M 0) q = false → dlR (M 0) (nI q) = (-100002) := fun b => by unfold dlR; rw [if_pos hpt, hcl, b]; rfl
  have fb : dlB (M 0) q = false → dlF (M 0) (nI q) = M 0 := fun b => by unfold dlF; rw [if_pos hpt, hcl, b]; rfl
  have hRn := fun a => rb (bn a)
  have hFn := fun a => fb (bn a)
  have hRd := fun a => rb (bd a)
  have hFd := fun a => fb (bd a)
  have hFy : ¬ 0 < M 0 (63 + 10 * q + 5) → ¬ M 0 (6 + 19 * w + 2) = 0 → dlF (M 0) (nI q) = upd (M 0) (63 + 10 * q + 5) (dlv (M 0) q) := fun a b => by unfold dlF; rw [if_pos hpt, hcl, if_pos (by9 a b)]
  have hRy : ¬ 0 < M 0 (63 + 10 * q + 5) → ¬ M 0 (6 + 19 * w + 2) = 0 → dlR (M 0) (nI q) = dlF (M 0) (nI q) (63 + 10 * q + 5) := fun a b => by rw [hFy a b, upd_at, if_pos rfl]; unfold dlR; rw [if_pos hpt, hcl, if_pos (by9 a b)]
  have hch : ¬ 0 < M 0 (63 + 10 * q + 5) → ¬ M 0 (6 + 19 * w + 2) = 0 → wr M 52 (10 * q + 4) (dlv (M 0) q) = LM M (dlF (M 0) (nI q)) := fun a b => by
    rw [wr_eq, hL.2.2, upd_p _ _ hq6 (by decide) (by decide) (show 63 + 10 * q + 5 = 63 + 10 * q + 4 + 1 from rfl), ← hFy a b]
    exact hL.at52 (fun i hi => by rw [hFy a b, upd_at, if_neg (by omega)])
  refine a_al_1_26 (pc' := 1017) dL_acts_1016 rfl ?_
  refine a_iconst (v := nI 1) (pc' := 1018) dL_acts_1017 (by decide) rfl ?_
  refine a_ialdN (pc' := 1019) rfl (by omega) (by decide) dL_acts_1018 rfl ?_
  rw [hL.g (show 1 < 6 by decide), h1]
  refine a_if_ne (pc' := 1022) (tgt := 1038) dL_acts_1019 (by decide) rfl (fun c_1019 => ?_) (fun c_1019 => absurd c_1019 (nI_ne0 (by omega) (by omega)))
  refine a_al_3_26 (pc' := 1039) dL_acts_1038 rfl ?_
  refine a_bipush (v := nI 10) (pc' := 1041) dL_acts_1039 (by decide) rfl ?_
  refine a_il_9_26 (pc' := 1043) dL_acts_1041 rfl ?_
  refine a_imulN (pc' := 1044) dL_acts_1043 rfl ?_
  refine a_iconst (v := nI 4) (pc' := 1045) dL_acts_1044 (by decide) rfl ?_
  refine a_iaddN (pc' := 1046) dL_acts_1045 rfl ?_
  refine a_ialdN (pc' := 1047) rfl (by omega) (by decide) dL_acts_1046 rfl ?_
  rw [hp4]
  refine a_if_gt (pc' := 1050) (tgt := 1069) dL_acts_1047 (by decide) rfl (fun c_1047 => ?_) (fun c_1047 => ?_)
  · refine a_al_0_26 (pc' := 1070) dL_acts_1069 rfl ?_
    refine a_il_9_26 (pc' := 1072) dL_acts_1070 rfl ?_
    refine k_VI (pc' := 1075) (cx_deliver rfl h.fr hg.bok hg.vok (show np ≤ 12 by omega) h1 _) cw_L_77 mi_X6_deliver se_X6_deliver rfl rfl rfl rfl (by decide) (by decide) (Nat.le_of_ble_eq_true rfl) rfl dL_acts_1072 rfl ?_
    refine a_ldc (pc' := 1077) dL_acts_1075 cn_L_70 rfl ?_
    refine a_icmp_ne (pc' := 1080) (tgt := 1084) dL_acts_1077 (by decide) rfl (fun c_1077 => absurd (hRn (fun q => hsp c_1047 q)) c_1077) (fun c_1077 => ?_)
    refine a_iconst (v := nI 1) (pc' := 1081) dL_acts_1080 (by decide) rfl ?_
    refine a_goto (pc' := 1085) dL_acts_1081 (by decide) ?_
    refine a_iret dL_acts_1085 rfl rfl ?_
    exact ⟨rfl, h.no (hFn (fun q => hsp c_1047 q))⟩
  · refine a_al_2_26 (pc' := 1051) dL_acts_1050 rfl ?_
    refine a_bipush (v := nI 19) (pc' := 1053) dL_acts_1051 (by decide) rfl ?_
    refine a_al_3_26 (pc' := 1054) dL_acts_1053 rfl ?_
    refine a_bipush (v := nI 10) (pc' := 1056) dL_acts_1054 (by decide) rfl ?_
    refine a_il_9_26 (pc' := 1058) dL_acts_1056 rfl ?_
    refine a_imulN (pc' := 1059) dL_acts_1058 rfl ?_
    refine a_ialdN (pc' := 1060) rfl (by omega) (by decide) dL_acts_1059 rfl ?_
    rw [hp0]
    refine a_iconst (v := nI 3) (pc' := 1061) dL_acts_1060 (by decide) rfl ?_
    refine a_idivN (pc' := 1062) (by omega) (by decide) (by decide) dL_acts_1061 rfl ?_
    rw [h3w]
    refine a_imulN (pc' := 1063) dL_acts_1062 rfl ?_
    refine a_iconst (v := nI 2) (pc' := 1064) dL_acts_1063 (by decide) rfl ?_
    refine a_iaddN (pc' := 1065) dL_acts_1064 rfl ?_
    refine a_ialdN (pc' := 1066) rfl (by omega) (by decide) dL_acts_1065 rfl ?_
    rw [hL.v hw3 2 (by decide)]
    refine a_if_ne (pc' := 1069) (tgt := 1086) dL_acts_1066 (by decide) rfl (fun c_1066 => ?_) (fun c_1066 => ?_)
    · refine a_al_3_26 (pc' := 1087) dL_acts_1086 rfl ?_
      refine a_bipush (v := nI 10) (pc' := 1089) dL_acts_1087 (by decide) rfl ?_
      refine a_il_9_26 (pc' := 1091) dL_acts_1089 rfl ?_
      refine a_imulN (pc' := 1092) dL_acts_1091 rfl ?_
      refine a_iconst (v := nI 4) (pc' := 1093) dL_acts_1092 (by decide) rfl ?_
      refine a_iaddN (pc' := 1094) dL_acts_1093 rfl ?_
      refine a_al_3_26 (pc' := 1095) dL_acts_1094 rfl ?_
      refine a_bipush (v := nI 10) (pc' := 1097) dL_acts_1095 (by decide) rfl ?_
      refine a_il_9_26 (pc' := 1099) dL_acts_1097 rfl ?_
      refine a_imulN (pc' := 1100) dL_acts_1099 rfl ?_
      refine a_bipush (v := nI 7) (pc' := 1102) dL_acts_1100 (by decide) rfl ?_
      refine a_iaddN (pc' := 1103) dL_acts_1102 rfl ?_
      refine a_ialdN (pc' := 1104) rfl (by omega) (by decide) dL_acts_1103 rfl ?_
      rw [hp7]
      refine a_al_3_26 (pc' := 1105) dL_acts_1104 rfl ?_
      refine a_bipush (v := nI 10) (pc' := 1107) dL_acts_1105 (by decide) rfl ?_
      refine a_il_9_26 (pc' := 1109) dL_acts_1107 rfl ?_
      refine a_imulN (pc' := 1110) dL_acts_1109 rfl ?_
      refine a_iconst (v := nI 2) (pc' := 1111) dL_acts_1110 (by decide) rfl ?_
      refine a_iaddN (pc' := 1112) dL_acts_1111 rfl ?_
      refine a_ialdN (pc' := 1113) rfl (by omega) (by decide) dL_acts_1112 rfl ?_
      rw [hp2]
      refine a_icmp_le (pc' := 1116) (tgt := 1120) dL_acts_1113 (by decide) rfl (fun c_1113 => ?_) (fun c_1113 => ?_)
      · refine a_iconst (v := nI 1) (pc' := 1121) dL_acts_1120 (by decide) rfl ?_
        refine a_iastN (pc' := 1122) rfl (by omega) (by decide) dL_acts_1121 rfl ?_
        rw [show nI 1 = dlv (M 0) q from (by unfold dlv ovP; rw [decide_eq_true c_1113]; rfl), hch c_1047 c_1066]
        refine a_al_0_26 (pc' := 1123) dL_acts_1122 rfl ?_
        refine a_il_9_26 (pc' := 1125) dL_acts_1123 rfl ?_
        refine k_VI (pc' := 1128) (cx_deliver (LM_ne M _ (by decide)) (LM_fr h.fr) hg.bok hg.vok (show np ≤ 12 by omega) h1 _) cw_L_77 mi_X6_deliver se_X6_deliver rfl rfl rfl rfl (by decide) (by decide) (Nat.le_of_ble_eq_true rfl) rfl dL_acts_1125 rfl ?_
        refine a_al_3_26 (pc' := 1129) dL_acts_1128 rfl ?_
        refine a_bipush (v := nI 10) (pc' := 1131) dL_acts_1129 (by decide) rfl ?_
        refine a_il_9_26 (pc' := 1133) dL_acts_1131 rfl ?_
        refine a_imulN (pc' := 1134) dL_acts_1133 rfl ?_
        refine a_iconst (v := nI 4) (pc' := 1135) dL_acts_1134 (by decide) rfl ?_
        refine a_iaddN (pc' := 1136) dL_acts_1135 rfl ?_
        refine a_ialdN (pc' := 1137) rfl (by omega) (by decide) dL_acts_1136 rfl ?_
        rw [LA.p (LA.ed (LM_fr h.fr) LM_LA) hq6 4 5 (by decide) (by decide) rfl]
        refine a_icmp_ne (pc' := 1140) (tgt := 1144) dL_acts_1137 (by decide) rfl (fun c_1137 => absurd (hRy c_1047 c_1066) c_1137) (fun c_1137 => ?_)
        refine a_iconst (v := nI 1) (pc' := 1141) dL_acts_1140 (by decide) rfl ?_
        refine a_goto (pc' := 1145) dL_acts_1141 (by decide) ?_
        refine a_iret dL_acts_1145 rfl rfl ?_
        exact ⟨rfl, h.ed (h.2.1.dl _) (by rw [npF_eq (show dlF (M 0) (nI q) 1 = M 0 1 from by rw [hFy c_1047 c_1066, upd_at, if_neg (by omega)])]; exact h.2.2.1)⟩
      · refine a_iconst (v := nI 2) (pc' := 1117) dL_acts_1116 (by decide) rfl ?_
        refine a_goto (pc' := 1121) dL_acts_1117 (by decide) ?_
        refine a_iastN (pc' := 1122) rfl (by omega) (by decide) dL_acts_1121 rfl ?_
        rw [show nI 2 = dlv (M 0) q from (by unfold dlv ovP; rw [decide_eq_false c_1113]; rfl), hch c_1047 c_1066]
        refine a_al_0_26 (pc' := 1123) dL_acts_1122 rfl ?_
        refine a_il_9_26 (pc' := 1125) dL_acts_1123 rfl ?_
        refine k_VI (pc' := 1128) (cx_deliver (LM_ne M _ (by decide)) (LM_fr h.fr) hg.bok hg.vok (show np ≤ 12 by omega) h1 _) cw_L_77 mi_X6_deliver se_X6_deliver rfl rfl rfl rfl (by decide) (by decide) (Nat.le_of_ble_eq_true rfl) rfl dL_acts_1125 rfl ?_
        refine a_al_3_26 (pc' := 1129) dL_acts_1128 rfl ?_
        refine a_bipush (v := nI 10) (pc' := 1131) dL_acts_1129 (by decide) rfl ?_
        refine a_il_9_26 (pc' := 1133) dL_acts_1131 rfl ?_
        refine a_imulN (pc' := 1134) dL_acts_1133 rfl ?_
        refine a_iconst (v := nI 4) (pc' := 1135) dL_acts_1134 (by decide) rfl ?_
        refine a_iaddN (pc' := 1136) dL_acts_1135 rfl ?_
        refine a_ialdN (pc' := 1137) rfl (by omega) (by decide) dL_acts_1136 rfl ?_
        rw [LA.p (LA.ed (LM_fr h.fr) LM_LA) hq6 4 5 (by decide) (by decide) rfl]
        refine a_icmp_ne (pc' := 1140) (tgt := 1144) dL_acts_1137 (by decide) rfl (fun c_1137_2 => absurd (hRy c_1047 c_1066) c_1137_2) (fun c_1137_2 => ?_)
        refine a_iconst (v := nI 1) (pc' := 1141) dL_acts_1140 (by decide) rfl ?_
        refine a_goto (pc' := 1145) dL_acts_1141 (by decide) ?_
        refine a_iret dL_acts_1145 rfl rfl ?_
        exact ⟨rfl, h.ed (h.2.1.dl _) (by rw [npF_eq (show dlF (M 0) (nI q) 1 = M 0 1 from by rw [hFy c_1047 c_1066, upd_at, if_neg (by omega)])]; exact h.2.2.1)⟩
    · refine a_al_0_26 (pc' := 1070) dL_acts_1069 rfl ?_
      refine a_il_9_26 (pc' := 1072) dL_acts_1070 rfl ?_
      refine k_VI (pc' := 1075) (cx_deliver rfl h.fr hg.bok hg.vok (show np ≤ 12 by omega) h1 _) cw_L_77 mi_X6_deliver se_X6_deliver rfl rfl rfl rfl (by decide) (by decide) (Nat.le_of_ble_eq_true rfl) rfl dL_acts_1072 rfl ?_
      refine a_ldc (pc' := 1077) dL_acts_1075 cn_L_70 rfl ?_
      refine a_icmp_ne (pc' := 1080) (tgt := 1084) dL_acts_1077 (by decide) rfl (fun c_1077_2 => absurd (hRd c_1066) c_1077_2) (fun c_1077_2 => ?_)
      refine a_iconst (v := nI 1) (pc' := 1081) dL_acts_1080 (by decide) rfl ?_
      refine a_goto (pc' := 1085) dL_acts_1081 (by decide) ?_
      refine a_iret dL_acts_1085 rfl rfl ?_
      exact ⟨rfl, h.no (hFd c_1066)⟩
set_option maxRecDepth 20000 in
set_option maxHeartbeats 4000000 in
theorem ac_16b {G : Gl} {M : Mm} (h : INV M) {nv np W v zn q : Nat} (z : Int32) (h0 : M 0 0 = nI nv) (hn : nv ≤ 3) (h1 : M 0 1 = nI np) (hm : np ≤ 6) (hW : W < 60000) (hv : v < nv) (hz : zn < 3) (hq : (np = 0 ∧ q = 0) ∨ q < np) {m : Nat} (hm1 : 1 ≤ m) (hm60 : m ≤ 60) : AW G cL_acts RL 26 6 140 (some .boolean) ANS 1326 [some (.inr (6, 0, 0, 0)), some (.inr (9, 50, 6, 0)), some (.inr (9, 51, 57, 0)), some (.inr (9, 52, 60, 0)), some (.inl z), some (.inl (nI W)), some (.inl (nI v)), some (.inl (nI zn)), some (.inl (nI (4 + 19 * v + 5 * zn))), some (.inl (nI q)), none, none, none, none, none, none, none, none, none, none, none, none, none, none, some (.inl (nI m)), none] [] M := by
  have hL := h.1
  obtain ⟨⟨t, ht, hg⟩, hqw⟩ := id h.2.1
  have hv3 : v < 3 := by omega
  have hin : inn (nI m) (nI 1) (nI 300) = true := inn_ge hm1 (by omega) (by decide)
  have hcm : vN (nI m) = m := vN_nI (by omega)
  have hct : vN (M 0 2) = t := by rw [hg.n2]; exact vN_nI (by omega)
  have hnvf : nvF (M 0) = nv := by unfold nvF; rw [h0]; exact nI_clamp (by omega)
  have hb : psB (M 0) (nI m) = decide (nI (t + m) ≤ nI 600) := by unfold psB; rw [hg.n2, nI_add]
  have hRn : ¬ nI (t + m) ≤ nI 600 → psN (M 0) (nI m) = (-100003) := fun a => by unfold psN; rw [if_pos hin, hb, decide_eq_false a]; rfl
  have hFn : ¬ nI (t + m) ≤ nI 600 → psF (M 0) (nI m) = M 0 := fun a => by unfold psF; rw [if_pos hin, hb, decide_eq_false a]; rfl
  have hRy : nI (t + m) ≤ nI 600 → psN (M 0) (nI m) = passN nv m t (M 0) (nI 0) := fun a => by unfold psN; rw [if_pos hin, hb, decide_eq_true a, hcm, hct, hnvf]; rfl
  have hFy : nI (t + m) ≤ nI 600 → psF (M 0) (nI m) = passF nv m t (M 0) := fun a => by unfold psF; rw [if_pos hin, hb, decide_eq_true a, hcm, hct, hnvf]; rfl
  refine a_al_1_26 (pc' := 1327) dL_acts_1326 rfl ?_
  refine a_iconst (v := nI 2) (pc' := 1328) dL_acts_1327 (by decide) rfl ?_
  refine a_ialdN (pc' := 1329) rfl (by omega) (by decide) dL_acts_1328 rfl ?_
  rw [hL.g (show 2 < 6 by decide), hg.n2]
  refine a_il_24_26 (pc' := 1331) dL_acts_1329 rfl ?_
  refine a_iaddN (pc' := 1332) dL_acts_1331 rfl ?_
  refine a_sipush (v := nI 600) (pc' := 1335) dL_acts_1332 (by decide) rfl ?_
  refine a_icmp_le (pc' := 1338) (tgt := 1355) dL_acts_1335 (by decide) rfl (fun c_1335 => ?_) (fun c_1335 => ?_)
  · refine a_al_1_26 (pc' := 1356) dL_acts_1355 rfl ?_
    refine a_al_2_26 (pc' := 1357) dL_acts_1356 rfl ?_
    refine a_al_3_26 (pc' := 1358) dL_acts_1357 rfl ?_
    refine a_il_24_26 (pc' := 1360) dL_acts_1358 rfl ?_
    refine k_SI (pc' := 1363) (ct_L_passes hn hm (show m ≤ 300 by omega) _ hL hg h0 h1 hqw) cw_L_90 ms_L_passes rfl (by decide) (by decide) (Nat.le_of_ble_eq_true rfl) rfl dL_acts_1360 rfl ?_
    refine a_is_25_26 (pc' := 1365) dL_acts_1363 rfl ?_
    refine a_al_0_26 (pc' := 1366) dL_acts_1365 rfl ?_
    refine a_il_24_26 (pc' := 1368) dL_acts_1366 rfl ?_
    refine k_VI (pc' := 1371) (cx_pass (LM_ne M _ (by decide)) (LM_fr h.fr) hg ht _) cw_L_87 mi_X6_pass se_X6_pass rfl rfl rfl rfl (by decide) (by decide) (Nat.le_of_ble_eq_true rfl) rfl dL_acts_1368 rfl ?_
    refine a_il_25_26 (pc' := 1373) dL_acts_1371 rfl ?_
    refine a_icmp_ne (pc' := 1376) (tgt := 1380) dL_acts_1373 (by decide) rfl (fun c_1373 => absurd (hRy c_1335) c_1373) (fun c_1373 => ?_)
    refine a_iconst (v := nI 1) (pc' := 1377) dL_acts_1376 (by decide) rfl ?_
    refine a_goto (pc' := 1381) dL_acts_1377 (by decide) ?_
    refine a_iret dL_acts_1381 rfl rfl ?_
    have e0 : LM M (passF nv m t (M 0)) 0 = M 0 := LM_ne M _ (by decide)
    exact ⟨rfl, INV.ps (M := M) (LM_fr h.fr) (by rw [e0, hFy c_1335]; exact LM_LA) (by rw [e0]; exact h.2.1) (by rw [e0]; exact h.2.2.1)⟩
  · refine a_al_0_26 (pc' := 1339) dL_acts_1338 rfl ?_
    refine a_il_24_26 (pc' := 1341) dL_acts_1339 rfl ?_
    refine k_VI (pc' := 1344) (cx_pass rfl h.fr hg ht _) cw_L_87 mi_X6_pass se_X6_pass rfl rfl rfl rfl (by decide) (by decide) (Nat.le_of_ble_eq_true rfl) rfl dL_acts_1341 rfl ?_
    refine a_ldc (pc' := 1346) dL_acts_1344 cn_L_50 rfl ?_
    refine a_icmp_ne (pc' := 1349) (tgt := 1353) dL_acts_1346 (by decide) rfl (fun c_1346 => absurd (hRn c_1335) c_1346) (fun c_1346 => ?_)
    refine a_iconst (v := nI 1) (pc' := 1350) dL_acts_1349 (by decide) rfl ?_
    refine a_goto (pc' := 1354) dL_acts_1350 (by decide) ?_
    refine a_iret dL_acts_1354 rfl rfl ?_
    exact ⟨rfl, INV.ps (M := M) h.fr (by rw [hFn c_1335]; exact hL) h.2.1 h.2.2.1⟩
set_option maxRecDepth 20000 in
set_option maxHeartbeats 4000000 in
theorem ac_16 {G : Gl} {M : Mm} (h : INV M) {nv np W v zn q : Nat} (z : Int32) (h0 : M 0 0 = nI nv) (hn : nv ≤ 3) (h1 : M 0 1 = nI np) (hm : np ≤ 6) (hW : W < 60000) (hv : v < nv) (hz : zn < 3) (hq : (np = 0 ∧ q = 0) ∨ q < np)  : AW G cL_acts RL 26 6 140 (some .boolean) ANS 1296 [some (.inr (6, 0, 0, 0)), some (.inr (9, 50, 6, 0)), some (.inr (9, 51, 57, 0)), some (.inr (9, 52, 60, 0)), some (.inl z), some (.inl (nI W)), some (.inl (nI v)), some (.inl (nI zn)), some (.inl (nI (4 + 19 * v + 5 * zn))), some (.inl (nI q)), none, none, none, none, none, none, none, none, none, none, none, none, none, none, none, none] [] M := by
  have hL := h.1
  obtain ⟨⟨t, ht, hg⟩, hqw⟩ := id h.2.1
  have hv3 : v < 3 := by omega
  refine a_il_5_26 (pc' := 1298) dL_acts_1296 rfl ?_
  refine a_bipush (v := nI 7) (pc' := 1300) dL_acts_1298 (by decide) rfl ?_
  refine a_iremN (pc' := 1301) (by omega) (by decide) (by decide) dL_acts_1300 rfl ?_
  refine a_if_ne (pc' := 1304) (tgt := 1317) dL_acts_1301 (by decide) rfl (fun c_1301 => ?_) (fun c_1301 => ?_)
  · refine a_iconst (v := nI 1) (pc' := 1318) dL_acts_1317 (by decide) rfl ?_
    refine a_il_5_26 (pc' := 1320) dL_acts_1318 rfl ?_
    refine a_bipush (v := nI 9) (pc' := 1322) dL_acts_1320 (by decide) rfl ?_
    refine a_iremN (pc' := 1323) (by omega) (by decide) (by decide) dL_acts_1322 rfl ?_
    refine a_iaddN (pc' := 1324) dL_acts_1323 rfl ?_
    refine a_is_24_26 (pc' := 1326) dL_acts_1324 rfl ?_
    exact ac_16b h z h0 hn h1 hm hW hv hz hq (by omega) (by omega)
  · refine a_iconst (v := nI 1) (pc' := 1305) dL_acts_1304 (by decide) rfl ?_
    refine a_il_5_26 (pc' := 1307) dL_acts_1305 rfl ?_
    refine a_bipush (v := nI 7) (pc' := 1309) dL_acts_1307 (by decide) rfl ?_
    refine a_idivN (pc' := 1310) (by omega) (by decide) (by decide) dL_acts_1309 rfl ?_
    refine a_bipush (v := nI 60) (pc' := 1312) dL_acts_1310 (by decide) rfl ?_
    refine a_iremN (pc' := 1313) (by omega) (by decide) (by decide) dL_acts_1312 rfl ?_
    refine a_iaddN (pc' := 1314) dL_acts_1313 rfl ?_
    refine a_goto (pc' := 1324) dL_acts_1314 (by decide) ?_
    refine a_is_24_26 (pc' := 1326) dL_acts_1324 rfl ?_
    exact ac_16b h z h0 hn h1 hm hW hv hz hq (by omega) (by omega)
