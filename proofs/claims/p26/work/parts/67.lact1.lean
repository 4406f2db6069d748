theorem k_SQ {G : Gl} {cc : ByteArray} {own : String} {nL fr lo : Nat} {rt : Option FieldType} {Φ : Option OV → Mm → Prop} {pc pc' : Nat} {ls : List (Option OV)} {M : Mm} {y : MethodName} {cc' : ByteArray} {mL fr' lo' n index : Nat} {rt' : Option FieldType} {r9 : Int32} {Ψ9 : Mm → Prop} {As rest st0 : List OV} (hC : Ct y cc' mL rt' fr' lo' As M (fun v M' => v = some (.inl r9) ∧ Ψ9 M')) (hW : CWd own index y cc' mL rt' n) (hs : Cond.static y ∈ lw_tbl) (hn : As.length = n) (hfr : fr' + 1 ≤ fr) (hlo : 8 + (mL + 11) + lo' ≤ lo) (hrest : rest.length ≤ 8) (hst : st0 = As.reverse ++ rest) (hd : decode cc pc = .ok (.invokestatic index, 3)) (hp : pc + 3 = pc') (kk : ∀ M', Ψ9 M' → AW G cc own nL fr lo rt Φ pc' ls (.inl r9 :: rest) M') : AW G cc own nL fr lo rt Φ pc ls st0 M := a_callS hC hW hs hn hfr hlo hrest hst hd hp (fun v M' h => by obtain ⟨rfl, h2⟩ := h; exact kk M' h2)
theorem a_iret1 {G : Gl} {cc : ByteArray} {own : String} {nL fr lo : Nat} {Φ : Option OV → Mm → Prop} {pc : Nat} {ls : List (Option OV)} {M : Mm} (hd : decode cc pc = .ok (.ireturn, 1)) (hΦ : Φ (some (.inl (nI 1))) M) : AW G cc own nL fr lo (some .boolean) Φ pc ls [.inl (nI 1)] M := a_iret hd rfl rfl hΦ
theorem startV_out (F : Nat → Int32) {v i : Nat} (sp c t : Int32) (h : i < 6 + 19 * v ∨ 25 + 19 * v ≤ i) : startV F v sp c t i = F i := by
  unfold startV mendF
  simp only [upd_at]
  repeat rw [if_neg (by omega)]
set_option maxHeartbeats 4000000 in
theorem adds_eq {M : Mm} {F : Nat → Int32} (hL : LA M F) {nv : Nat} (hn : nv < 3) (sp c x : Int32) (hx : x = F 2) : (wr (wr (wr (wr (wr (wr (wr (wr (wr (wr (wr (wr (wr (wr (wr (wr (wr (wr (wr (wr (wr M 51 (19 * nv + 0) sp) 51 (19 * nv + 1) (nI 0)) 51 (19 * nv + 2) (nI 0)) 51 (19 * nv + 3) (nI 0)) 51 (19 * nv + 4) sp) 51 (19 * nv + 5) (nI 0)) 51 (19 * nv + 6) (nI 0)) 51 (19 * nv + 7) (nI 0)) 51 (19 * nv + 8) (nI 0)) 51 (19 * nv + 9) sp) 51 (19 * nv + 10) (nI 0)) 51 (19 * nv + 11) (nI 0)) 51 (19 * nv + 12) (nI 0)) 51 (19 * nv + 13) (nI 0)) 51 (19 * nv + 14) sp) 51 (19 * nv + 15) (nI 0)) 51 (19 * nv + 16) (nI 0)) 51 (19 * nv + 17) (nI 0)) 51 (19 * nv + 18) (nI 0)) 51 (19 * nv + 1) c) 51 (19 * nv + 3) x) = LM M (startV F nv sp c (F 2)) := by
  refine mm3 ?_ ?_ ?_ (fun r hr => ?_)
  · funext i
    simp only [wr]
    repeat rw [if_neg (fun h => absurd h.1 (by decide))]
    rw [LM_LA.1, hL.1]
    exact congrFun (gF_congr (fun i hi => (startV_out F sp c (F 2) (by omega)).symm)) i
  · funext i
    rw [LM_LA.2.1]
    simp only [wr, true_and]
    by_cases hi : 19 * nv ≤ i ∧ i < 19 * nv + 19
    · obtain ⟨k, hk, rfl⟩ : ∃ k, k < 19 ∧ i = 19 * nv + k := ⟨i - 19 * nv, by omega, by omega⟩
      rw [sh_at (startV F nv sp c (F 2)) (k := 6 + 19 * nv + k) (by omega) (by omega)]
      unfold startV mendF
      simp only [upd_at]
      rcases (by omega : k = 0 ∨ k = 1 ∨ k = 2 ∨ k = 3 ∨ k = 4 ∨ k = 5 ∨ k = 6 ∨ k = 7 ∨ k = 8 ∨ k = 9 ∨ k = 10 ∨ k = 11 ∨ k = 12 ∨ k = 13 ∨ k = 14 ∨ k = 15 ∨ k = 16 ∨ k = 17 ∨ k = 18) with rfl | rfl | rfl | rfl | rfl | rfl | rfl | rfl | rfl | rfl | rfl | rfl | rfl | rfl | rfl | rfl | rfl | rfl | rfl <;> (repeat (first | rw [if_pos (by omega)] | rw [if_neg (by omega)])) <;> first | rfl | exact hx
    · repeat rw [if_neg (by omega)]
      rw [hL.2.1]
      unfold sh
      split
      · rw [startV_out F sp c (F 2) (by omega)]
      · rfl
  · funext i
    simp only [wr]
    repeat rw [if_neg (fun h => absurd h.1 (by decide))]
    rw [LM_LA.2.2, hL.2.2]
    exact congrFun (pk_congr (fun i hi => (startV_out F sp c (F 2) (by omega)).symm)) i
  · funext i
    simp only [wr]
    repeat rw [if_neg (fun h => hr.2.1 h.1)]
    rw [LM_ne _ _ hr]
set_option maxRecDepth 20000 in
set_option maxHeartbeats 4000000 in
theorem ct_L_adds {M : Mm} (h : INV M) {nv : Nat} (hn : nv < 3) (h0 : M 0 0 = nI nv) (sp c : Int32) (hc : coldS sp c = true) : Ct yL_adds cL_adds 7 (some .boolean) 5 107 [.inr (6, 0, 0, 0), .inr (9, 50, 6, 0), .inr (9, 51, 57, 0), .inl sp, .inl c] M (ANS) := by
  have hL := h.1
  obtain ⟨⟨t, ht, hg⟩, hq⟩ := id h.2.1
  have hlt : M 0 0 < nI 3 := by rw [h0]; exact nI_lt hn (by decide)
  have hnvf : nvF (M 0) = nv := by unfold nvF; rw [h0]; exact nI_clamp (by omega)
  have hnew : newF (M 0) sp c = upd (startV (M 0) nv sp c (M 0 2)) 0 (nI (nv + 1)) := by unfold newF; rw [if_pos hc, if_pos hlt, hnvf, h0, nI_add]
  have hF0 : newF (M 0) sp c 0 = nI (nv + 1) := by rw [hnew, upd_at, if_pos rfl]
  have hR : newR (M 0) sp c = nI nv := by unfold newR; rw [if_pos hc, if_pos hlt, h0]
  refine Ct.at RL rfl (by decide +kernel) (Nat.le_of_ble_eq_true rfl) [some (.inr (6, 0, 0, 0)), some (.inr (9, 50, 6, 0)), some (.inr (9, 51, 57, 0)), some (.inl sp), some (.inl c), none, none] rfl (fun G => ?_)
  refine a_bipush (v := nI 19) (pc' := 2) dL_adds_0 (by decide) rfl ?_
  refine a_al_1_7 (pc' := 3) dL_adds_2 rfl ?_
  refine a_iconst (v := nI 0) (pc' := 4) dL_adds_3 (by decide) rfl ?_
  refine a_ialdN (pc' := 5) rfl (by omega) (by decide) dL_adds_4 rfl ?_
  rw [hL.g (show 0 < 6 by decide), h0]
  refine a_imulN (pc' := 6) dL_adds_5 rfl ?_
  refine a_is_5_7 (pc' := 8) dL_adds_6 rfl ?_
  refine a_iconst (v := nI 0) (pc' := 9) dL_adds_8 (by decide) rfl ?_
  refine a_is_6_7 (pc' := 11) dL_adds_9 rfl ?_
  refine a_il_6_7 (pc' := 13) dL_adds_11 rfl ?_
  refine a_bipush (v := nI 19) (pc' := 15) dL_adds_13 (by decide) rfl ?_
  refine a_icmp_ge (pc' := 18) (tgt := 56) dL_adds_15 (by decide) rfl (fun c_15 => absurd c_15 (by decide)) (fun c_15 => ?_)
  refine a_al_2_7 (pc' := 19) dL_adds_18 rfl ?_
  refine a_il_5_7 (pc' := 21) dL_adds_19 rfl ?_
  refine a_il_6_7 (pc' := 23) dL_adds_21 rfl ?_
  refine a_iaddN (pc' := 24) dL_adds_23 rfl ?_
  refine a_il_6_7 (pc' := 26) dL_adds_24 rfl ?_
  refine a_if_eq (pc' := 29) (tgt := 44) dL_adds_26 (by decide) rfl (fun c_26 => ?_) (fun c_26 => absurd (by decide) c_26)
  refine a_il_3_7 (pc' := 45) dL_adds_44 rfl ?_
  refine a_goto (pc' := 49) dL_adds_45 (by decide) ?_
  refine a_iastN (pc' := 50) rfl (by omega) (by decide) dL_adds_49 rfl ?_
  refine a_iN_6_7 (m := 1) (pc' := 53) dL_adds_50 (nI_add _ _) rfl ?_
  refine a_goto (pc' := 11) dL_adds_53 (by decide) ?_
  refine a_il_6_7 (pc' := 13) dL_adds_11 rfl ?_
  refine a_bipush (v := nI 19) (pc' := 15) dL_adds_13 (by decide) rfl ?_
  refine a_icmp_ge (pc' := 18) (tgt := 56) dL_adds_15 (by decide) rfl (fun c_15_2 => absurd c_15_2 (by decide)) (fun c_15_2 => ?_)
  refine a_al_2_7 (pc' := 19) dL_adds_18 rfl ?_
  refine a_il_5_7 (pc' := 21) dL_adds_19 rfl ?_
  refine a_il_6_7 (pc' := 23) dL_adds_21 rfl ?_
  refine a_iaddN (pc' := 24) dL_adds_23 rfl ?_
  refine a_il_6_7 (pc' := 26) dL_adds_24 rfl ?_
  refine a_if_eq (pc' := 29) (tgt := 44) dL_adds_26 (by decide) rfl (fun c_26_2 => absurd c_26_2 (by decide)) (fun c_26_2 => ?_)
  refine a_il_6_7 (pc' := 31) dL_adds_29 rfl ?_
  refine a_iconst (v := nI 3) (pc' := 32) dL_adds_31 (by decide) rfl ?_
  refine a_icmp_le (pc' := 35) (tgt := 48) dL_adds_32 (by decide) rfl (fun c_32 => ?_) (fun c_32 => absurd (by decide) c_32)
  refine a_iconst (v := nI 0) (pc' := 49) dL_adds_48 (by decide) rfl ?_
  refine a_iastN (pc' := 50) rfl (by omega) (by decide) dL_adds_49 rfl ?_
  refine a_iN_6_7 (m := 2) (pc' := 53) dL_adds_50 (nI_add _ _) rfl ?_
  refine a_goto (pc' := 11) dL_adds_53 (by decide) ?_
  refine a_il_6_7 (pc' := 13) dL_adds_11 rfl ?_
  refine a_bipush (v := nI 19) (pc' := 15) dL_adds_13 (by decide) rfl ?_
  refine a_icmp_ge (pc' := 18) (tgt := 56) dL_adds_15 (by decide) rfl (fun c_15_3 => absurd c_15_3 (by decide)) (fun c_15_3 => ?_)
  refine a_al_2_7 (pc' := 19) dL_adds_18 rfl ?_
  refine a_il_5_7 (pc' := 21) dL_adds_19 rfl ?_
  refine a_il_6_7 (pc' := 23) dL_adds_21 rfl ?_
  refine a_iaddN (pc' := 24) dL_adds_23 rfl ?_
  refine a_il_6_7 (pc' := 26) dL_adds_24 rfl ?_
  refine a_if_eq (pc' := 29) (tgt := 44) dL_adds_26 (by decide) rfl (fun c_26_3 => absurd c_26_3 (by decide)) (fun c_26_3 => ?_)
  refine a_il_6_7 (pc' := 31) dL_adds_29 rfl ?_
  refine a_iconst (v := nI 3) (pc' := 32) dL_adds_31 (by decide) rfl ?_
  refine a_icmp_le (pc' := 35) (tgt := 48) dL_adds_32 (by decide) rfl (fun c_32_2 => ?_) (fun c_32_2 => absurd (by decide) c_32_2)
  refine a_iconst (v := nI 0) (pc' := 49) dL_adds_48 (by decide) rfl ?_
  refine a_iastN (pc' := 50) rfl (by omega) (by decide) dL_adds_49 rfl ?_
  refine a_iN_6_7 (m := 3) (pc' := 53) dL_adds_50 (nI_add _ _) rfl ?_
  refine a_goto (pc' := 11) dL_adds_53 (by decide) ?_
  refine a_il_6_7 (pc' := 13) dL_adds_11 rfl ?_
  refine a_bipush (v := nI 19) (pc' := 15) dL_adds_13 (by decide) rfl ?_
  refine a_icmp_ge (pc' := 18) (tgt := 56) dL_adds_15 (by decide) rfl (fun c_15_4 => absurd c_15_4 (by decide)) (fun c_15_4 => ?_)
  refine a_al_2_7 (pc' := 19) dL_adds_18 rfl ?_
  refine a_il_5_7 (pc' := 21) dL_adds_19 rfl ?_
  refine a_il_6_7 (pc' := 23) dL_adds_21 rfl ?_
  refine a_iaddN (pc' := 24) dL_adds_23 rfl ?_
  refine a_il_6_7 (pc' := 26) dL_adds_24 rfl ?_
  refine a_if_eq (pc' := 29) (tgt := 44) dL_adds_26 (by decide) rfl (fun c_26_4 => absurd c_26_4 (by decide)) (fun c_26_4 => ?_)
  refine a_il_6_7 (pc' := 31) dL_adds_29 rfl ?_
  refine a_iconst (v := nI 3) (pc' := 32) dL_adds_31 (by decide) rfl ?_
  refine a_icmp_le (pc' := 35) (tgt := 48) dL_adds_32 (by decide) rfl (fun c_32_3 => ?_) (fun c_32_3 => absurd (by decide) c_32_3)
  refine a_iconst (v := nI 0) (pc' := 49) dL_adds_48 (by decide) rfl ?_
  refine a_iastN (pc' := 50) rfl (by omega) (by decide) dL_adds_49 rfl ?_
  refine a_iN_6_7 (m := 4) (pc' := 53) dL_adds_50 (nI_add _ _) rfl ?_
  refine a_goto (pc' := 11) dL_adds_53 (by decide) ?_
  refine a_il_6_7 (pc' := 13) dL_adds_11 rfl ?_
  refine a_bipush (v := nI 19) (pc' := 15) dL_adds_13 (by decide) rfl ?_
  refine a_icmp_ge (pc' := 18) (tgt := 56) dL_adds_15 (by decide) rfl (fun c_15_5 => absurd c_15_5 (by decide)) (fun c_15_5 => ?_)
  refine a_al_2_7 (pc' := 19) dL_adds_18 rfl ?_
  refine a_il_5_7 (pc' := 21) dL_adds_19 rfl ?_
  refine a_il_6_7 (pc' := 23) dL_adds_21 rfl ?_
  refine a_iaddN (pc' := 24) dL_adds_23 rfl ?_
  refine a_il_6_7 (pc' := 26) dL_adds_24 rfl ?_
  refine a_if_eq (pc' := 29) (tgt := 44) dL_adds_26 (by decide) rfl (fun c_26_5 => absurd c_26_5 (by decide)) (fun c_26_5 => ?_)
  refine a_il_6_7 (pc' := 31) dL_adds_29 rfl ?_
  refine a_iconst (v := nI 3) (pc' := 32) dL_adds_31 (by decide) rfl ?_
  refine a_icmp_le (pc' := 35) (tgt := 48) dL_adds_32 (by decide) rfl (fun c_32_4 => absurd c_32_4 (by decide)) (fun c_32_4 => ?_)
  refine a_il_6_7 (pc' := 37) dL_adds_35 rfl ?_
  refine a_iconst (v := nI 4) (pc' := 38) dL_adds_37 (by decide) rfl ?_
  refine a_isubN (pc' := 39) (by omega) dL_adds_38 rfl ?_
  refine a_iconst (v := nI 5) (pc' := 40) dL_adds_39 (by decide) rfl ?_
  refine a_iremN (pc' := 41) (by omega) (by decide) (by decide) dL_adds_40 rfl ?_
  refine a_if_ne (pc' := 44) (tgt := 48) dL_adds_41 (by decide) rfl (fun c_41 => absurd (by decide) c_41) (fun c_41 => ?_)
  refine a_il_3_7 (pc' := 45) dL_adds_44 rfl ?_
  refine a_goto (pc' := 49) dL_adds_45 (by decide) ?_
  refine a_iastN (pc' := 50) rfl (by omega) (by decide) dL_adds_49 rfl ?_
  refine a_iN_6_7 (m := 5) (pc' := 53) dL_adds_50 (nI_add _ _) rfl ?_
  refine a_goto (pc' := 11) dL_adds_53 (by decide) ?_
  refine a_il_6_7 (pc' := 13) dL_adds_11 rfl ?_
  refine a_bipush (v := nI 19) (pc' := 15) dL_adds_13 (by decide) rfl ?_
  refine a_icmp_ge (pc' := 18) (tgt := 56) dL_adds_15 (by decide) rfl (fun c_15_6 => absurd c_15_6 (by decide)) (fun c_15_6 => ?_)
  refine a_al_2_7 (pc' := 19) dL_adds_18 rfl ?_
  refine a_il_5_7 (pc' := 21) dL_adds_19 rfl ?_
  refine a_il_6_7 (pc' := 23) dL_adds_21 rfl ?_
  refine a_iaddN (pc' := 24) dL_adds_23 rfl ?_
  refine a_il_6_7 (pc' := 26) dL_adds_24 rfl ?_
  refine a_if_eq (pc' := 29) (tgt := 44) dL_adds_26 (by decide) rfl (fun c_26_6 => absurd c_26_6 (by decide)) (fun c_26_6 => ?_)
  refine a_il_6_7 (pc' := 31) dL_adds_29 rfl ?_
  refine a_iconst (v := nI 3) (pc' := 32) dL_adds_31 (by decide) rfl ?_
  refine a_icmp_le (pc' := 35) (tgt := 48) dL_adds_32 (by decide) rfl (fun c_32_5 => absurd c_32_5 (by decide)) (fun c_32_5 => ?_)
  refine a_il_6_7 (pc' := 37) dL_adds_35 rfl ?_
  refine a_iconst (v := nI 4) (pc' := 38) dL_adds_37 (by decide) rfl ?_
  refine a_isubN (pc' := 39) (by omega) dL_adds_38 rfl ?_
  refine a_iconst (v := nI 5) (pc' := 40) dL_adds_39 (by decide) rfl ?_
  refine a_iremN (pc' := 41) (by omega) (by decide) (by decide) dL_adds_40 rfl ?_
  refine a_if_ne (pc' := 44) (tgt := 48) dL_adds_41 (by decide) rfl (fun c_41_2 => ?_) (fun c_41_2 => absurd c_41_2 (by decide))
  refine a_iconst (v := nI 0) (pc' := 49) dL_adds_48 (by decide) rfl ?_
  refine a_iastN (pc' := 50) rfl (by omega) (by decide) dL_adds_49 rfl ?_
  refine a_iN_6_7 (m := 6) (pc' := 53) dL_adds_50 (nI_add _ _) rfl ?_
  refine a_goto (pc' := 11) dL_adds_53 (by decide) ?_
  refine a_il_6_7 (pc' := 13) dL_adds_11 rfl ?_
  refine a_bipush (v := nI 19) (pc' := 15) dL_adds_13 (by decide) rfl ?_
  refine a_icmp_ge (pc' := 18) (tgt := 56) dL_adds_15 (by decide) rfl (fun c_15_7 => absurd c_15_7 (by decide)) (fun c_15_7 => ?_)
  refine a_al_2_7 (pc' := 19) dL_adds_18 rfl ?_
  refine a_il_5_7 (pc' := 21) dL_adds_19 rfl ?_
  refine a_il_6_7 (pc' := 23) dL_adds_21 rfl ?_
  refine a_iaddN (pc' := 24) dL_adds_23 rfl ?_
  refine a_il_6_7 (pc' := 26) dL_adds_24 rfl ?_
  refine a_if_eq (pc' := 29) (tgt := 44) dL_adds_26 (by decide) rfl (fun c_26_7 => absurd c_26_7 (by decide)) (fun c_26_7 => ?_)
  refine a_il_6_7 (pc' := 31) dL_adds_29 rfl ?_
  refine a_iconst (v := nI 3) (pc' := 32) dL_adds_31 (by decide) rfl ?_
  refine a_icmp_le (pc' := 35) (tgt := 48) dL_adds_32 (by decide) rfl (fun c_32_6 => absurd c_32_6 (by decide)) (fun c_32_6 => ?_)
  refine a_il_6_7 (pc' := 37) dL_adds_35 rfl ?_
  refine a_iconst (v := nI 4) (pc' := 38) dL_adds_37 (by decide) rfl ?_
  refine a_isubN (pc' := 39) (by omega) dL_adds_38 rfl ?_
  refine a_iconst (v := nI 5) (pc' := 40) dL_adds_39 (by decide) rfl ?_
  refine a_iremN (pc' := 41) (by omega) (by decide) (by decide) dL_adds_40 rfl ?_
  refine a_if_ne (pc' := 44) (tgt := 48) dL_adds_41 (by decide) rfl (fun c_41_3 => ?_) (fun c_41_3 => absurd c_41_3 (by decide))
  refine a_iconst (v := nI 0) (pc' := 49) dL_adds_48 (by decide) rfl ?_
  refine a_iastN (pc' := 50) rfl (by omega) (by decide) dL_adds_49 rfl ?_
  refine a_iN_6_7 (m := 7) (pc' := 53) dL_adds_50 (nI_add _ _) rfl ?_
  refine a_goto (pc' := 11) dL_adds_53 (by decide) ?_
  refine a_il_6_7 (pc' := 13) dL_adds_11 rfl ?_
  refine a_bipush (v := nI 19) (pc' := 15) dL_adds_13 (by decide) rfl ?_
  refine a_icmp_ge (pc' := 18) (tgt := 56) dL_adds_15 (by decide) rfl (fun c_15_8 => absurd c_15_8 (by decide)) (fun c_15_8 => ?_)
  refine a_al_2_7 (pc' := 19) dL_adds_18 rfl ?_
  refine a_il_5_7 (pc' := 21) dL_adds_19 rfl ?_
  refine a_il_6_7 (pc' := 23) dL_adds_21 rfl ?_
  refine a_iaddN (pc' := 24) dL_adds_23 rfl ?_
  refine a_il_6_7 (pc' := 26) dL_adds_24 rfl ?_
  refine a_if_eq (pc' := 29) (tgt := 44) dL_adds_26 (by decide) rfl (fun c_26_8 => absurd c_26_8 (by decide)) (fun c_26_8 => ?_)
  refine a_il_6_7 (pc' := 31) dL_adds_29 rfl ?_
  refine a_iconst (v := nI 3) (pc' := 32) dL_adds_31 (by decide) rfl ?_
  refine a_icmp_le (pc' := 35) (tgt := 48) dL_adds_32 (by decide) rfl (fun c_32_7 => absurd c_32_7 (by decide)) (fun c_32_7 => ?_)
  refine a_il_6_7 (pc' := 37) dL_adds_35 rfl ?_
  refine a_iconst (v := nI 4) (pc' := 38) dL_adds_37 (by decide) rfl ?_
  refine a_isubN (pc' := 39) (by omega) dL_adds_38 rfl ?_
  refine a_iconst (v := nI 5) (pc' := 40) dL_adds_39 (by decide) rfl ?_
  refine a_iremN (pc' := 41) (by omega) (by decide) (by decide) dL_adds_40 rfl ?_
  refine a_if_ne (pc' := 44) (tgt := 48) dL_adds_41 (by decide) rfl (fun c_41_4 => ?_) (fun c_41_4 => absurd c_41_4 (by decide))
  refine a_iconst (v := nI 0) (pc' := 49) dL_adds_48 (by decide) rfl ?_
  refine a_iastN (pc' := 50) rfl (by omega) (by decide) dL_adds_49 rfl ?_
  refine a_iN_6_7 (m := 8) (pc' := 53) dL_adds_50 (nI_add _ _) rfl ?_
  refine a_goto (pc' := 11) dL_adds_53 (by decide) ?_
  refine a_il_6_7 (pc' := 13) dL_adds_11 rfl ?_
  refine a_bipush (v := nI 19) (pc' := 15) dL_adds_13 (by decide) rfl ?_
  refine a_icmp_ge (pc' := 18) (tgt := 56) dL_adds_15 (by decide) rfl (fun c_15_9 => absurd c_15_9 (by decide)) (fun c_15_9 => ?_)
  refine a_al_2_7 (pc' := 19) dL_adds_18 rfl ?_
  refine a_il_5_7 (pc' := 21) dL_adds_19 rfl ?_
  refine a_il_6_7 (pc' := 23) dL_adds_21 rfl ?_
  refine a_iaddN (pc' := 24) dL_adds_23 rfl ?_
  refine a_il_6_7 (pc' := 26) dL_adds_24 rfl ?_
  refine a_if_eq (pc' := 29) (tgt := 44) dL_adds_26 (by decide) rfl (fun c_26_9 => absurd c_26_9 (by decide)) (fun c_26_9 => ?_)
  refine a_il_6_7 (pc' := 31) dL_adds_29 rfl ?_
  refine a_iconst (v := nI 3) (pc' := 32) dL_adds_31 (by decide) rfl ?_
  refine a_icmp_le (pc' := 35) (tgt := 48) dL_adds_32 (by decide) rfl (fun c_32_8 => absurd c_32_8 (by decide)) (fun c_32_8 => ?_)
  refine a_il_6_7 (pc' := 37) dL_adds_35 rfl ?_
  refine a_iconst (v := nI 4) (pc' := 38) dL_adds_37 (by decide) rfl ?_
  refine a_isubN (pc' := 39) (by omega) dL_adds_38 rfl ?_
  refine a_iconst (v := nI 5) (pc' := 40) dL_adds_39 (by decide) rfl ?_
  refine a_iremN (pc' := 41) (by omega) (by decide) (by decide) dL_adds_40 rfl ?_
  refine a_if_ne (pc' := 44) (tgt := 48) dL_adds_41 (by decide) rfl (fun c_41_5 => ?_) (fun c_41_5 => absurd c_41_5 (by decide))
  refine a_iconst (v := nI 0) (pc' := 49) dL_adds_48 (by decide) rfl ?_
  refine a_iastN (pc' := 50) rfl (by omega) (by decide) dL_adds_49 rfl ?_
  refine a_iN_6_7 (m := 9) (pc' := 53) dL_adds_50 (nI_add _ _) rfl ?_
  refine a_goto (pc' := 11) dL_adds_53 (by decide) ?_
  refine a_il_6_7 (pc' := 13) dL_adds_11 rfl ?_
  refine a_bipush (v := nI 19) (pc' := 15) dL_adds_13 (by decide) rfl ?_
  refine a_icmp_ge (pc' := 18) (tgt := 56) dL_adds_15 (by decide) rfl (fun c_15_10 => absurd c_15_10 (by decide)) (fun c_15_10 => ?_)
  refine a_al_2_7 (pc' := 19) dL_adds_18 rfl ?_
  refine a_il_5_7 (pc' := 21) dL_adds_19 rfl ?_
  refine a_il_6_7 (pc' := 23) dL_adds_21 rfl ?_
  refine a_iaddN (pc' := 24) dL_adds_23 rfl ?_
  refine a_il_6_7 (pc' := 26) dL_adds_24 rfl ?_
  refine a_if_eq (pc' := 29) (tgt := 44) dL_adds_26 (by decide) rfl (fun c_26_10 => absurd c_26_10 (by decide)) (fun c_26_10 => ?_)
  refine a_il_6_7 (pc' := 31) dL_adds_29 rfl ?_
  refine a_iconst (v := nI 3) (pc' := 32) dL_adds_31 (by decide) rfl ?_
  refine a_icmp_le (pc' := 35) (tgt := 48) dL_adds_32 (by decide) rfl (fun c_32_9 => absurd c_32_9 (by decide)) (fun c_32_9 => ?_)
  refine a_il_6_7 (pc' := 37) dL_adds_35 rfl ?_
  refine a_iconst (v := nI 4) (pc' := 38) dL_adds_37 (by decide) rfl ?_
  refine a_isubN (pc' := 39) (by omega) dL_adds_38 rfl ?_
  refine a_iconst (v := nI 5) (pc' := 40) dL_adds_39 (by decide) rfl ?_
  refine a_iremN (pc' := 41) (by omega) (by decide) (by decide) dL_adds_40 rfl ?_
  refine a_if_ne (pc' := 44) (tgt := 48) dL_adds_41 (by decide) rfl (fun c_41_6 => absurd (by decide) c_41_6) (fun c_41_6 => ?_)
  refine a_il_3_7 (pc' := 45) dL_adds_44 rfl ?_
  refine a_goto (pc' := 49) dL_adds_45 (by decide) ?_
  refine a_iastN (pc' := 50) rfl (by omega) (by decide) dL_adds_49 rfl ?_
  refine a_iN_6_7 (m := 10) (pc' := 53) dL_adds_50 (nI_add _ _) rfl ?_
  refine a_goto (pc' := 11) dL_adds_53 (by decide) ?_
  refine a_il_6_7 (pc' := 13) dL_adds_11 rfl ?_
  refine a_bipush (v := nI 19) (pc' := 15) dL_adds_13 (by decide) rfl ?_
  refine a_icmp_ge (pc' := 18) (tgt := 56) dL_adds_15 (by decide) rfl (fun c_15_11 => absurd c_15_11 (by decide)) (fun c_15_11 => ?_)
  refine a_al_2_7 (pc' := 19) dL_adds_18 rfl ?_
  refine a_il_5_7 (pc' := 21) dL_adds_19 rfl ?_
  refine a_il_6_7 (pc' := 23) dL_adds_21 rfl ?_
  refine a_iaddN (pc' := 24) dL_adds_23 rfl ?_
  refine a_il_6_7 (pc' := 26) dL_adds_24 rfl ?_
  refine a_if_eq (pc' := 29) (tgt := 44) dL_adds_26 (by decide) rfl (fun c_26_11 => absurd c_26_11 (by decide)) (fun c_26_11 => ?_)
  refine a_il_6_7 (pc' := 31) dL_adds_29 rfl ?_
  refine a_iconst (v := nI 3) (pc' := 32) dL_adds_31 (by decide) rfl ?_
  refine a_icmp_le (pc' := 35) (tgt := 48) dL_adds_32 (by decide) rfl (fun c_32_10 => absurd c_32_10 (by decide)) (fun c_32_10 => ?_)
  refine a_il_6_7 (pc' := 37) dL_adds_35 rfl ?_
  refine a_iconst (v := nI 4) (pc' := 38) dL_adds_37 (by decide) rfl ?_
  refine a_isubN (pc' := 39) (by omega) dL_adds_38 rfl ?_
  refine a_iconst (v := nI 5) (pc' := 40) dL_adds_39 (by decide) rfl ?_
  refine a_iremN (pc' := 41) (by omega) (by decide) (by decide) dL_adds_40 rfl ?_
  refine a_if_ne (pc' := 44) (tgt := 48) dL_adds_41 (by decide) rfl (fun c_41_7 => ?_) (fun c_41_7 => absurd c_41_7 (by decide))
  refine a_iconst (v := nI 0) (pc' := 49) dL_adds_48 (by decide) rfl ?_
  refine a_iastN (pc' := 50) rfl (by omega) (by decide) dL_adds_49 rfl ?_
  refine a_iN_6_7 (m := 11) (pc' := 53) dL_adds_50 (nI_add _ _) rfl ?_
  refine a_goto (pc' := 11) dL_adds_53 (by decide) ?_
  refine a_il_6_7 (pc' := 13) dL_adds_11 rfl ?_
  refine a_bipush (v := nI 19) (pc' := 15) dL_adds_13 (by decide) rfl ?_
  refine a_icmp_ge (pc' := 18) (tgt := 56) dL_adds_15 (by decide) rfl (fun c_15_12 => absurd c_15_12 (by decide)) (fun c_15_12 => ?_)
  refine a_al_2_7 (pc' := 19) dL_adds_18 rfl ?_
  refine a_il_5_7 (pc' := 21) dL_adds_19 rfl ?_
  refine a_il_6_7 (pc' := 23) dL_adds_21 rfl ?_
  refine a_iaddN (pc' := 24) dL_adds_23 rfl ?_
  refine a_il_6_7 (pc' := 26) dL_adds_24 rfl ?_
  refine a_if_eq (pc' := 29) (tgt := 44) dL_adds_26 (by decide) rfl (fun c_26_12 => absurd c_26_12 (by decide)) (fun c_26_12 => ?_)
  refine a_il_6_7 (pc' := 31) dL_adds_29 rfl ?_
  refine a_iconst (v := nI 3) (pc' := 32) dL_adds_31 (by decide) rfl ?_
  refine a_icmp_le (pc' := 35) (tgt := 48) dL_adds_32 (by decide) rfl (fun c_32_11 => absurd c_32_11 (by decide)) (fun c_32_11 => ?_)
  refine a_il_6_7 (pc' := 37) dL_adds_35 rfl ?_
  refine a_iconst (v := nI 4) (pc' := 38) dL_adds_37 (by decide) rfl ?_
  refine a_isubN (pc' := 39) (by omega) dL_adds_38 rfl ?_
  refine a_iconst (v := nI 5) (pc' := 40) dL_adds_39 (by decide) rfl ?_
  refine a_iremN (pc' := 41) (by omega) (by decide) (by decide) dL_adds_40 rfl ?_
  refine a_if_ne (pc' := 44) (tgt := 48) dL_adds_41 (by decide) rfl (fun c_41_8 => ?_) (fun c_41_8 => absurd c_41_8 (by decide))
  refine a_iconst (v := nI 0) (pc' := 49) dL_adds_48 (by decide) rfl ?_
  refine a_iastN (pc' := 50) rfl (by omega) (by decide) dL_adds_49 rfl ?_
  refine a_iN_6_7 (m := 12) (pc' := 53) dL_adds_50 (nI_add _ _) rfl ?_
  refine a_goto (pc' := 11) dL_adds_53 (by decide) ?_
  refine a_il_6_7 (pc' := 13) dL_adds_11 rfl ?_
  refine a_bipush (v := nI 19) (pc' := 15) dL_adds_13 (by decide) rfl ?_
  refine a_icmp_ge (pc' := 18) (tgt := 56) dL_adds_15 (by decide) rfl (fun c_15_13 => absurd c_15_13 (by decide)) (fun c_15_13 => ?_)
  refine a_al_2_7 (pc' := 19) dL_adds_18 rfl ?_
  refine a_il_5_7 (pc' := 21) dL_adds_19 rfl ?_
  refine a_il_6_7 (pc' := 23) dL_adds_21 rfl ?_
  refine a_iaddN (pc' := 24) dL_adds_23 rfl ?_
  refine a_il_6_7 (pc' := 26) dL_adds_24 rfl ?_
  refine a_if_eq (pc' := 29) (tgt := 44) dL_adds_26 (by decide) rfl (fun c_26_13 => absurd c_26_13 (by decide)) (fun c_26_13 => ?_)
  refine a_il_6_7 (pc' := 31) dL_adds_29 rfl ?_
  refine a_iconst (v := nI 3) (pc' := 32) dL_adds_31 (by decide) rfl ?_
  refine a_icmp_le (pc' := 35) (tgt := 48) dL_adds_32 (by decide) rfl (fun c_32_12 => absurd c_32_12 (by decide)) (fun c_32_12 => ?_)
  refine a_il_6_7 (pc' := 37) dL_adds_35 rfl ?_
  refine a_iconst (v := nI 4) (pc' := 38) dL_adds_37 (by decide) rfl ?_
  refine a_isubN (pc' := 39) (by omega) dL_adds_38 rfl ?_
  refine a_iconst (v := nI 5) (pc' := 40) dL_adds_39 (by decide) rfl ?_
  refine a_iremN (pc' := 41) (by omega) (by decide) (by decide) dL_adds_40 rfl ?_
  refine a_if_ne (pc' := 44) (tgt := 48) dL_adds_41 (by decide) rfl (fun c_41_9 => ?_) (fun c_41_9 => absurd c_41_9 (by decide))
  refine a_iconst (v := nI 0) (pc' := 49) dL_adds_48 (by decide) rfl ?_
  refine a_iastN (pc' := 50) rfl (by omega) (by decide) dL_adds_49 rfl ?_
  refine a_iN_6_7 (m := 13) (pc' := 53) dL_adds_50 (nI_add _ _) rfl ?_
  refine a_goto (pc' := 11) dL_adds_53 (by decide) ?_
  refine a_il_6_7 (pc' := 13) dL_adds_11 rfl ?_
  refine a_bipush (v := nI 19) (pc' := 15) dL_adds_13 (by decide) rfl ?_
  refine a_icmp_ge (pc' := 18) (tgt := 56) dL_adds_15 (by decide) rfl (fun c_15_14 => absurd c_15_14 (by decide)) (fun c_15_14 => ?_)
  refine a_al_2_7 (pc' := 19) dL_adds_18 rfl ?_
  refine a_il_5_7 (pc' := 21) dL_adds_19 rfl ?_
  refine a_il_6_7 (pc' := 23) dL_adds_21 rfl ?_
  refine a_iaddN (pc' := 24) dL_adds_23 rfl ?_
  refine a_il_6_7 (pc' := 26) dL_adds_24 rfl ?_
  refine a_if_eq (pc' := 29) (tgt := 44) dL_adds_26 (by decide) rfl (fun c_26_14 => absurd c_26_14 (by decide)) (fun c_26_14 => ?_)
  refine a_il_6_7 (pc' := 31) dL_adds_29 rfl ?_
  refine a_iconst (v := nI 3) (pc' := 32) dL_adds_31 (by decide) rfl ?_
  refine a_icmp_le (pc' := 35) (tgt := 48) dL_adds_32 (by decide) rfl (fun c_32_13 => absurd c_32_13 (by decide)) (fun c_32_13 => ?_)
  refine a_il_6_7 (pc' := 37) dL_adds_35 rfl ?_
  refine a_iconst (v := nI 4) (pc' := 38) dL_adds_37 (by decide) rfl ?_
  refine a_isubN (pc' := 39) (by omega) dL_adds_38 rfl ?_
  refine a_iconst (v := nI 5) (pc' := 40) dL_adds_39 (by decide) rfl ?_
  refine a_iremN (pc' := 41) (by omega) (by decide) (by decide) dL_adds_40 rfl ?_
  refine a_if_ne (pc' := 44) (tgt := 48) dL_adds_41 (by decide) rfl (fun c_41_10 => ?_) (fun c_41_10 => absurd c_41_10 (by decide))
  refine a_iconst (v := nI 0) (pc' := 49) dL_adds_48 (by decide) rfl ?_
  refine a_iastN (pc' := 50) rfl (by omega) (by decide) dL_adds_49 rfl ?_
  refine a_iN_6_7 (m := 14) (pc' := 53) dL_adds_50 (nI_add _ _) rfl ?_
  refine a_goto (pc' := 11) dL_adds_53 (by decide) ?_
  refine a_il_6_7 (pc' := 13) dL_adds_11 rfl ?_
  refine a_bipush (v := nI 19) (pc' := 15) dL_adds_13 (by decide) rfl ?_
  refine a_icmp_ge (pc' := 18) (tgt := 56) dL_adds_15 (by decide) rfl (fun c_15_15 => absurd c_15_15 (by decide)) (fun c_15_15 => ?_)
  refine a_al_2_7 (pc' := 19) dL_adds_18 rfl ?_
  refine a_il_5_7 (pc' := 21) dL_adds_19 rfl ?_
  refine a_il_6_7 (pc' := 23) dL_adds_21 rfl ?_
  refine a_iaddN (pc' := 24) dL_adds_23 rfl ?_
  refine a_il_6_7 (pc' := 26) dL_adds_24 rfl ?_
  refine a_if_eq (pc' := 29) (tgt := 44) dL_adds_26 (by decide) rfl (fun c_26_15 => absurd c_26_15 (by decide)) (fun c_26_15 => ?_)
  refine a_il_6_7 (pc' := 31) dL_adds_29 rfl ?_
  refine a_iconst (v := nI 3) (pc' := 32) dL_adds_31 (by decide) rfl ?_
  refine a_icmp_le (pc' := 35) (tgt := 48) dL_adds_32 (by decide) rfl (fun c_32_14 => absurd c_32_14 (by decide)) (fun c_32_14 => ?_)
  refine a_il_6_7 (pc' := 37) dL_adds_35 rfl ?_
  refine a_iconst (v := nI 4) (pc' := 38) dL_adds_37 (by decide) rfl ?_
  refine a_isubN (pc' := 39) (by omega) dL_adds_38 rfl ?_
  refine a_iconst (v := nI 5) (pc' := 40) dL_adds_39 (by decide) rfl ?_
  refine a_iremN (pc' := 41) (by omega) (by decide) (by decide) dL_adds_40 rfl ?_
  refine a_if_ne (pc' := 44) (tgt := 48) dL_adds_41 (by decide) rfl (fun c_41_11 => absurd (by decide) c_41_11) (fun c_41_11 => ?_)
  refine a_il_3_7 (pc' := 45) dL_adds_44 rfl ?_
  refine a_goto (pc' := 49) dL_adds_45 (by decide) ?_
  refine a_iastN (pc' := 50) rfl (by omega) (by decide) dL_adds_49 rfl ?_
  refine a_iN_6_7 (m := 15) (pc' := 53) dL_adds_50 (nI_add _ _) rfl ?_
  refine a_goto (pc' := 11) dL_adds_53 (by decide) ?_
  refine a_il_6_7 (pc' := 13) dL_adds_11 rfl ?_
  refine a_bipush (v := nI 19) (pc' := 15) dL_adds_13 (by decide) rfl ?_
  refine a_icmp_ge (pc' := 18) (tgt := 56) dL_adds_15 (by decide) rfl (fun c_15_16 => absurd c_15_16 (by decide)) (fun c_15_16 => ?_)
  refine a_al_2_7 (pc' := 19) dL_adds_18 rfl ?_
  refine a_il_5_7 (pc' := 21) dL_adds_19 rfl ?_
  refine a_il_6_7 (pc' := 23) dL_adds_21 rfl ?_
  refine a_iaddN (pc' := 24) dL_adds_23 rfl ?_
  refine a_il_6_7 (pc' := 26) dL_adds_24 rfl ?_
  refine a_if_eq (pc' := 29) (tgt := 44) dL_adds_26 (by decide) rfl (fun c_26_16 => absurd c_26_16 (by decide)) (fun c_26_16 => ?_)
  refine a_il_6_7 (pc' := 31) dL_adds_29 rfl ?_
  refine a_iconst (v := nI 3) (pc' := 32) dL_adds_31 (by decide) rfl ?_
  refine a_icmp_le (pc' := 35) (tgt := 48) dL_adds_32 (by decide) rfl (fun c_32_15 => absurd c_32_15 (by decide)) (fun c_32_15 => ?_)
  refine a_il_6_7 (pc' := 37) dL_adds_35 rfl ?_
  refine a_iconst (v := nI 4) (pc' := 38) dL_adds_37 (by decide) rfl ?_
  refine a_isubN (pc' := 39) (by omega) dL_adds_38 rfl ?_
  refine a_iconst (v := nI 5) (pc' := 40) dL_adds_39 (by decide) rfl ?_
  refine a_iremN (pc' := 41) (by omega) (by decide) (by decide) dL_adds_40 rfl ?_
  refine a_if_ne (pc' := 44) (tgt := 48) dL_adds_41 (by decide) rfl (fun c_41_12 => ?_) (fun c_41_12 => absurd c_41_12 (by decide))
  refine a_iconst (v := nI 0) (pc' := 49) dL_adds_48 (by decide) rfl ?_
  refine a_iastN (pc' := 50) rfl (by omega) (by decide) dL_adds_49 rfl ?_
  refine a_iN_6_7 (m := 16) (pc' := 53) dL_adds_50 (nI_add _ _) rfl ?_
  refine a_goto (pc' := 11) dL_adds_53 (by decide) ?_
  refine a_il_6_7 (pc' := 13) dL_adds_11 rfl ?_
  refine a_bipush (v := nI 19) (pc' := 15) dL_adds_13 (by decide) rfl ?_
  refine a_icmp_ge (pc' := 18) (tgt := 56) dL_adds_15 (by decide) rfl (fun c_15_17 => absurd c_15_17 (by decide)) (fun c_15_17 => ?_)
  refine a_al_2_7 (pc' := 19) dL_adds_18 rfl ?_
  refine a_il_5_7 (pc' := 21) dL_adds_19 rfl ?_
  refine a_il_6_7 (pc' := 23) dL_adds_21 rfl ?_
  refine a_iaddN (pc' := 24) dL_adds_23 rfl ?_
  refine a_il_6_7 (pc' := 26) dL_adds_24 rfl ?_
  refine a_if_eq (pc' := 29) (tgt := 44) dL_adds_26 (by decide) rfl (fun c_26_17 => absurd c_26_17 (by decide)) (fun c_26_17 => ?_)
  refine a_il_6_7 (pc' := 31) dL_adds_29 rfl ?_
  refine a_iconst (v := nI 3) (pc' := 32) dL_adds_31 (by decide) rfl ?_
  refine a_icmp_le (pc' := 35) (tgt := 48) dL_adds_32 (by decide) rfl (fun c_32_16 => absurd c_32_16 (by decide)) (fun c_32_16 => ?_)
  refine a_il_6_7 (pc' := 37) dL_adds_35 rfl ?_
  refine a_iconst (v := nI 4) (pc' := 38) dL_adds_37 (by decide) rfl ?_
  refine a_isubN (pc' := 39) (by omega) dL_adds_38 rfl ?_
  refine a_iconst (v := nI 5) (pc' := 40) dL_adds_39 (by decide) rfl ?_
  refine a_iremN (pc' := 41) (by omega) (by decide) (by decide) dL_adds_40 rfl ?_
  refine a_if_ne (pc' := 44) (tgt := 48) dL_adds_41 (by decide) rfl (fun c_41_13 => ?_) (fun c_41_13 => absurd c_41_13 (by decide))
  refine a_iconst (v := nI 0) (pc' := 49) dL_adds_48 (by decide) rfl ?_
  refine a_iastN (pc' := 50) rfl (by omega) (by decide) dL_adds_49 rfl ?_
  refine a_iN_6_7 (m := 17) (pc' := 53) dL_adds_50 (nI_add _ _) rfl ?_
  refine a_goto (pc' := 11) dL_adds_53 (by decide) ?_
  refine a_il_6_7 (pc' := 13) dL_adds_11 rfl ?_
  refine a_bipush (v := nI 19) (pc' := 15) dL_adds_13 (by decide) rfl ?_
  refine a_icmp_ge (pc' := 18) (tgt := 56) dL_adds_15 (by decide) rfl (fun c_15_18 => absurd c_15_18 (by decide)) (fun c_15_18 => ?_)
  refine a_al_2_7 (pc' := 19) dL_adds_18 rfl ?_
  refine a_il_5_7 (pc' := 21) dL_adds_19 rfl ?_
  refine a_il_6_7 (pc' := 23) dL_adds_21 rfl ?_
  refine a_iaddN (pc' := 24) dL_adds_23 rfl ?_
  refine a_il_6_7 (pc' := 26) dL_adds_24 rfl ?_
  refine a_if_eq (pc' := 29) (tgt := 44) dL_adds_26 (by decide) rfl (fun c_26_18 => absurd c_26_18 (by decide)) (fun c_26_18 => ?_)
  refine a_il_6_7 (pc' := 31) dL_adds_29 rfl ?_
  refine a_iconst (v := nI 3) (pc' := 32) dL_adds_31 (by decide) rfl ?_
  refine a_icmp_le (pc' := 35) (tgt := 48) dL_adds_32 (by decide) rfl (fun c_32_17 => absurd c_32_17 (by decide)) (fun c_32_17 => ?_)
  refine a_il_6_7 (pc' := 37) dL_adds_35 rfl ?_
  refine a_iconst (v := nI 4) (pc' := 38) dL_adds_37 (by decide) rfl ?_
  refine a_isubN (pc' := 39) (by omega) dL_adds_38 rfl ?_
  refine a_iconst (v := nI 5) (pc' := 40) dL_adds_39 (by decide) rfl ?_
  refine a_iremN (pc' := 41) (by omega) (by decide) (by decide) dL_adds_40 rfl ?_
  refine a_if_ne (pc' := 44) (tgt := 48) dL_adds_41 (by decide) rfl (fun c_41_14 => ?_) (fun c_41_14 => absurd c_41_14 (by decide))
  refine a_iconst (v := nI 0) (pc' := 49) dL_adds_48 (by decide) rfl ?_
  refine a_iastN (pc' := 50) rfl (by omega) (by decide) dL_adds_49 rfl ?_
  refine a_iN_6_7 (m := 18) (pc' := 53) dL_adds_50 (nI_add _ _) rfl ?_
  refine a_goto (pc' := 11) dL_adds_53 (by decide) ?_
  refine a_il_6_7 (pc' := 13) dL_adds_11 rfl ?_
  refine a_bipush (v := nI 19) (pc' := 15) dL_adds_13 (by decide) rfl ?_
  refine a_icmp_ge (pc' := 18) (tgt := 56) dL_adds_15 (by decide) rfl (fun c_15_19 => absurd c_15_19 (by decide)) (fun c_15_19 => ?_)
  refine a_al_2_7 (pc' := 19) dL_adds_18 rfl ?_
  refine a_il_5_7 (pc' := 21) dL_adds_19 rfl ?_
  refine a_il_6_7 (pc' := 23) dL_adds_21 rfl ?_
  refine a_iaddN (pc' := 24) dL_adds_23 rfl ?_
  refine a_il_6_7 (pc' := 26) dL_adds_24 rfl ?_
  refine a_if_eq (pc' := 29) (tgt := 44) dL_adds_26 (by decide) rfl (fun c_26_19 => absurd c_26_19 (by decide)) (fun c_26_19 => ?_)
  refine a_il_6_7 (pc' := 31) dL_adds_29 rfl ?_
  refine a_iconst (v := nI 3) (pc' := 32) dL_adds_31 (by decide) rfl ?_
  refine a_icmp_le (pc' := 35) (tgt := 48) dL_adds_32 (by decide) rfl (fun c_32_18 => absurd c_32_18 (by decide)) (fun c_32_18 => ?_)
  refine a_il_6_7 (pc' := 37) dL_adds_35 rfl ?_
  refine a_iconst (v := nI 4) (pc' := 38) dL_adds_37 (by decide) rfl ?_
  refine a_isubN (pc' := 39) (by omega) dL_adds_38 rfl ?_
  refine a_iconst (v := nI 5) (pc' := 40) dL_adds_39 (by decide) rfl ?_
  refine a_iremN (pc' := 41) (by omega) (by decide) (by decide) dL_adds_40 rfl ?_
  refine a_if_ne (pc' := 44) (tgt := 48) dL_adds_41 (by decide) rfl (fun c_41_15 => ?_) (fun c_41_15 => absurd c_41_15 (by decide))
  refine a_iconst (v := nI 0) (pc' := 49) dL_adds_48 (by decide) rfl ?_
  refine a_iastN (pc' := 50) rfl (by omega) (by decide) dL_adds_49 rfl ?_
  refine a_iN_6_7 (m := 19) (pc' := 53) dL_adds_50 (nI_add _ _) rfl ?_
  refine a_goto (pc' := 11) dL_adds_53 (by decide) ?_
  refine a_il_6_7 (pc' := 13) dL_adds_11 rfl ?_
  refine a_bipush (v := nI 19) (pc' := 15) dL_adds_13 (by decide) rfl ?_
  refine a_icmp_ge (pc' := 18) (tgt := 56) dL_adds_15 (by decide) rfl (fun c_15_20 => ?_) (fun c_15_20 => absurd (by decide) c_15_20)
  refine a_al_2_7 (pc' := 57) dL_adds_56 rfl ?_
  refine a_il_5_7 (pc' := 59) dL_adds_57 rfl ?_
  refine a_iconst (v := nI 1) (pc' := 60) dL_adds_59 (by decide) rfl ?_
  refine a_iaddN (pc' := 61) dL_adds_60 rfl ?_
  refine a_il_4_7 (pc' := 63) dL_adds_61 rfl ?_
  refine a_iastN (pc' := 64) rfl (by omega) (by decide) dL_adds_63 rfl ?_
  refine a_al_2_7 (pc' := 65) dL_adds_64 rfl ?_
  refine a_il_5_7 (pc' := 67) dL_adds_65 rfl ?_
  refine a_iconst (v := nI 3) (pc' := 68) dL_adds_67 (by decide) rfl ?_
  refine a_iaddN (pc' := 69) dL_adds_68 rfl ?_
  refine a_al_1_7 (pc' := 70) dL_adds_69 rfl ?_
  refine a_iconst (v := nI 2) (pc' := 71) dL_adds_70 (by decide) rfl ?_
  refine a_ialdN (pc' := 72) rfl (by omega) (by decide) dL_adds_71 rfl ?_
  refine a_iastN (pc' := 73) rfl (by omega) (by decide) dL_adds_72 rfl ?_
  refine a_castS rfl (adds_eq hL hn sp c _ (by simp only [wr]; repeat (rw [if_neg (fun h => absurd h.1 (by decide))]); exact hL.g (by decide))) ?_
  refine a_al_1_7 (pc' := 74) dL_adds_73 rfl ?_
  refine a_iconst (v := nI 0) (pc' := 75) dL_adds_74 (by decide) rfl ?_
  refine a_dup2 (pc' := 76) dL_adds_75 rfl ?_
  refine a_ialdN (pc' := 77) rfl (by omega) (by decide) dL_adds_76 rfl ?_
  rw [LM_LA.g (show 0 < 6 by decide), startV_hi _ _ _ _ hn (Or.inl (by decide)), h0]
  refine a_iconst (v := nI 1) (pc' := 78) dL_adds_77 (by decide) rfl ?_
  refine a_iaddN (pc' := 79) dL_adds_78 rfl ?_
  refine a_iastN (pc' := 80) rfl (by omega) (by decide) dL_adds_79 rfl ?_
  rw [wr_eq, LM_LA.1, upd_g _ _ (by decide), ← hnew, LM_LA.at50 (fun i hi => by rw [hnew, upd_at, if_neg (by omega)]), LM_LM]
  refine a_al_0_7 (pc' := 81) dL_adds_80 rfl ?_
  refine a_il_3_7 (pc' := 82) dL_adds_81 rfl ?_
  refine a_il_4_7 (pc' := 84) dL_adds_82 rfl ?_
  refine k_VI (pc' := 87) (cx_addVan (LM_ne M _ (by decide)) (LM_fr h.fr) hg.bok (show nv ≤ 3 by omega) h0 sp c) cw_L_34 mi_X6_addVan se_X6_addVan rfl rfl rfl rfl (by decide) (by decide) (Nat.le_of_ble_eq_true rfl) rfl dL_adds_84 rfl ?_
  refine a_al_1_7 (pc' := 88) dL_adds_87 rfl ?_
  refine a_iconst (v := nI 0) (pc' := 89) dL_adds_88 (by decide) rfl ?_
  refine a_ialdN (pc' := 90) rfl (by omega) (by decide) dL_adds_89 rfl ?_
  rw [LA.g (LA.ed (LM_fr h.fr) LM_LA) (show 0 < 6 by decide), hF0]
  refine a_iconst (v := nI 1) (pc' := 91) dL_adds_90 (by decide) rfl ?_
  refine a_isubN (pc' := 92) (by omega) dL_adds_91 rfl ?_
  refine a_icmp_ne (pc' := 95) (tgt := 99) dL_adds_92 (by decide) rfl (fun c_92 => absurd (by rw [hR, Nat.add_sub_cancel]) c_92) (fun c_92 => ?_)
  refine a_iconst (v := nI 1) (pc' := 96) dL_adds_95 (by decide) rfl ?_
  refine a_goto (pc' := 100) dL_adds_96 (by decide) ?_
  refine a_iret dL_adds_100 rfl rfl ?_
  exact ⟨rfl, h.ed (h.2.1.new sp c) (by rw [npF_eq (show newF (M 0) sp c 1 = M 0 1 from by rw [hnew, upd_at, if_neg (by decide), startV_hi _ _ _ _ hn (Or.inl (by decide))])]; exact h.2.2.1)⟩
