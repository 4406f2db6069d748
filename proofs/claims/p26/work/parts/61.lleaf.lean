/-- the law's draw: low 31 bits, modulo n -/
def lowN (x : Int32) (n : Nat) : Nat := x.toBitVec.toNat % 2 ^ 31 % n
theorem lowN_lt (x : Int32) {n : Nat} (h : 0 < n) : lowN x n < n := Nat.mod_lt _ h
set_option maxRecDepth 20000 in
set_option maxHeartbeats 4000000 in
theorem ct_L_low (x : Int32) {n : Nat} (hn : 0 < n) (hn2 : n < 2147483648) (M : Mm) : Ct yL_low cL_low 2 (some .int) 0 0 [.inl x, .inl (nI n)] M (RI (nI (lowN x n)) M) := by
  refine Ct.at RL rfl (by decide +kernel) (Nat.le_of_ble_eq_true rfl) [some (.inl x), some (.inl (nI n))] rfl (fun G => ?_)
  refine a_il_0_2 (pc' := 1) dL_low_0 rfl ?_
  refine a_ldc (pc' := 3) dL_low_1 cn_L_8 rfl ?_
  refine a_iand (pc' := 4) dL_low_3 rfl ?_
  rw [pk_and x (m := 2147483647) 31 (by decide)]
  refine a_il_1_2 (pc' := 5) dL_low_4 rfl ?_
  refine a_iremN (pc' := 6) (by omega) (by omega) (by omega) dL_low_5 rfl ?_
  refine a_iret dL_low_6 rfl rfl ?_
  exact fI rfl
set_option maxRecDepth 20000 in
set_option maxHeartbeats 4000000 in
theorem ct_L_spot {k v z : Nat} (hk : k = 3 * v + z) (hz : z < 3) (hv : v < 3) (M : Mm) : Ct yL_spot cL_spot 1 (some .int) 0 0 [.inl (nI k)] M (RI (nI (4 + 19 * v + 5 * z)) M) := by
  refine Ct.at RL rfl (by decide +kernel) (Nat.le_of_ble_eq_true rfl) [some (.inl (nI k))] rfl (fun G => ?_)
  refine a_bipush (v := nI 19) (pc' := 2) dL_spot_0 (by decide) rfl ?_
  refine a_il_0_1 (pc' := 3) dL_spot_2 rfl ?_
  refine a_iconst (v := nI 3) (pc' := 4) dL_spot_3 (by decide) rfl ?_
  refine a_idivN (pc' := 5) (by omega) (by decide) (by decide) dL_spot_4 rfl ?_
  refine a_imulN (pc' := 6) dL_spot_5 rfl ?_
  refine a_iconst (v := nI 4) (pc' := 7) dL_spot_6 (by decide) rfl ?_
  refine a_iaddN (pc' := 8) dL_spot_7 rfl ?_
  refine a_iconst (v := nI 5) (pc' := 9) dL_spot_8 (by decide) rfl ?_
  refine a_il_0_1 (pc' := 10) dL_spot_9 rfl ?_
  refine a_iconst (v := nI 3) (pc' := 11) dL_spot_10 (by decide) rfl ?_
  refine a_iremN (pc' := 12) (by omega) (by decide) (by decide) dL_spot_11 rfl ?_
  refine a_imulN (pc' := 13) dL_spot_12 rfl ?_
  refine a_iaddN (pc' := 14) dL_spot_13 rfl ?_
  refine a_iret dL_spot_14 rfl rfl ?_
  exact fI (congrArg nI (by omega))
set_option maxRecDepth 20000 in
set_option maxHeartbeats 4000000 in
theorem ct_L_read {k v z : Nat} (hk : k = 3 * v + z) (hz : z < 3) (hv : v < 3) (M : Mm) {F : Nat → Int32} (hL : LA M F) : Ct yL_read cL_read 3 (some .int) 1 20 [.inr (9, 51, 57, 0), .inl (nI k)] M (RI (rdg F (10 + 19 * v + 5 * z)) M) := by
  have e0 : F (10 + 19 * v + 5 * z) = M 51 (4 + 19 * v + 5 * z) := (hL.z0 hv hz).symm
  have e1 : F (10 + 19 * v + 5 * z + 1) = M 51 (4 + 19 * v + 5 * z + 1) := (hL.z hv hz 1 (by decide)).symm
  have e2 : F (10 + 19 * v + 5 * z + 2) = M 51 (4 + 19 * v + 5 * z + 2) := (hL.z hv hz 2 (by decide)).symm
  have e3 : F (10 + 19 * v + 5 * z + 3) = M 51 (4 + 19 * v + 5 * z + 3) := (hL.z hv hz 3 (by decide)).symm
  refine Ct.at RL rfl (by decide +kernel) (Nat.le_of_ble_eq_true rfl) [some (.inr (9, 51, 57, 0)), some (.inl (nI k)), none] rfl (fun G => ?_)
  refine a_il_1_3 (pc' := 1) dL_read_0 rfl ?_
  refine k_SI (pc' := 4) (ct_L_spot (v := v) (z := z) (by omega) (by omega) (by omega) _) cw_L_9 ms_L_spot rfl (by decide) (by decide) (Nat.le_of_ble_eq_true rfl) rfl dL_read_1 rfl ?_
  refine a_is_2_3 (pc' := 5) dL_read_4 rfl ?_
  refine a_al_0_3 (pc' := 6) dL_read_5 rfl ?_
  refine a_il_2_3 (pc' := 7) dL_read_6 rfl ?_
  refine a_iconst (v := nI 1) (pc' := 8) dL_read_7 (by decide) rfl ?_
  refine a_iaddN (pc' := 9) dL_read_8 rfl ?_
  refine a_ialdN (pc' := 10) rfl (by omega) (by decide) dL_read_9 rfl ?_
  refine a_iconst (v := nI 2) (pc' := 11) dL_read_10 (by decide) rfl ?_
  refine a_icmp_ne (pc' := 14) (tgt := 22) dL_read_11 (by decide) rfl (fun c_11 => ?_) (fun c_11 => ?_)
  · refine a_al_0_3 (pc' := 23) dL_read_22 rfl ?_
    refine a_il_2_3 (pc' := 24) dL_read_23 rfl ?_
    refine a_iconst (v := nI 1) (pc' := 25) dL_read_24 (by decide) rfl ?_
    refine a_iaddN (pc' := 26) dL_read_25 rfl ?_
    refine a_ialdN (pc' := 27) rfl (by omega) (by decide) dL_read_26 rfl ?_
    refine a_iconst (v := nI 1) (pc' := 28) dL_read_27 (by decide) rfl ?_
    refine a_icmp_ne (pc' := 31) (tgt := 43) dL_read_28 (by decide) rfl (fun c_28 => ?_) (fun c_28 => ?_)
    · refine a_al_0_3 (pc' := 44) dL_read_43 rfl ?_
      refine a_il_2_3 (pc' := 45) dL_read_44 rfl ?_
      refine a_ialdN (pc' := 46) rfl (by omega) (by decide) dL_read_45 rfl ?_
      refine a_iret dL_read_46 rfl rfl ?_
      exact fI (by simp [rdg, c_11, c_28, e0, e1, e2, nI_eqm])
    · refine a_al_0_3 (pc' := 32) dL_read_31 rfl ?_
      refine a_il_2_3 (pc' := 33) dL_read_32 rfl ?_
      refine a_ialdN (pc' := 34) rfl (by omega) (by decide) dL_read_33 rfl ?_
      refine a_al_0_3 (pc' := 35) dL_read_34 rfl ?_
      refine a_il_2_3 (pc' := 36) dL_read_35 rfl ?_
      refine a_iconst (v := nI 2) (pc' := 37) dL_read_36 (by decide) rfl ?_
      refine a_iaddN (pc' := 38) dL_read_37 rfl ?_
      refine a_ialdN (pc' := 39) rfl (by omega) (by decide) dL_read_38 rfl ?_
      refine a_iadd (pc' := 40) dL_read_39 rfl ?_
      refine a_goto (pc' := 46) dL_read_40 (by decide) ?_
      refine a_iret dL_read_46 rfl rfl ?_
      exact fI (by simp [rdg, c_11, c_28, e0, e1, e2, nI_eqm])
  · refine a_al_0_3 (pc' := 15) dL_read_14 rfl ?_
    refine a_il_2_3 (pc' := 16) dL_read_15 rfl ?_
    refine a_iconst (v := nI 2) (pc' := 17) dL_read_16 (by decide) rfl ?_
    refine a_iaddN (pc' := 18) dL_read_17 rfl ?_
    refine a_ialdN (pc' := 19) rfl (by omega) (by decide) dL_read_18 rfl ?_
    refine a_goto (pc' := 46) dL_read_19 (by decide) ?_
    refine a_iret dL_read_46 rfl rfl ?_
    exact fI (by simp [rdg, c_11, e0, e1, e2, nI_eqm])
theorem and1_toInt (x : Int32) : (x &&& nI 1).toInt = x.toInt % 2 := by
  rw [pk_and x (m := nI 1) 1 (by decide), nI_toInt (by omega)]
  have h := x.toBitVec.isLt
  rw [← Int32.toInt_toBitVec, BitVec.toInt_eq_toNat_cond]
  split <;> omega
theorem half_eq (x : Int32) : (x - (x &&& nI 1)) / nI 2 = fdS x (nI 2) := by
  rw [fdS_shr]
  apply Int32.toInt_inj.mp
  have h1 := and1_toInt x
  have hlt := Int32.toInt_lt x
  have hle := Int32.le_toInt x
  have h2 : (x - (x &&& nI 1)).toInt = x.toInt - x.toInt % 2 := by rw [isub (by rw [h1]; omega) (by rw [h1]; omega), h1]
  rw [shr1_toInt, idiv (by rw [i2]; decide), h2, i2]
  have h3 : x.toInt - x.toInt % 2 = 2 * (x.toInt / 2) := by omega
  rw [h3, Int.mul_tdiv_cancel_left _ (by decide)]
theorem oth0 (a b c : Int32) : a + b + c - a = b + c := by
  rw [Int32.add_assoc, Int32.add_comm, Int32.add_sub_cancel]
theorem oth1 (a b c : Int32) : a + b + c - b = c + a := by
  rw [Int32.add_comm a b, Int32.add_assoc, Int32.add_comm b, Int32.add_sub_cancel, Int32.add_comm]
theorem oth2 (a b c : Int32) : a + b + c - c = a + b := by
  rw [Int32.add_sub_cancel]
theorem others (F : Nat → Int32) (v : Nat) {z : Nat} (hz : z < 3) : rdg F (10 + 19 * v + 5 * 0) + rdg F (10 + 19 * v + 5 * 1) + rdg F (10 + 19 * v + 5 * 2) - rdg F (10 + 19 * v + 5 * z) = rdg F (10 + 19 * v + 5 * ((z + 1) % 3)) + rdg F (10 + 19 * v + 5 * ((z + 2) % 3)) := by
  rcases (by omega : z = 0 ∨ z = 1 ∨ z = 2) with rfl | rfl | rfl
  · exact oth0 _ _ _
  · exact oth1 _ _ _
  · exact oth2 _ _ _
set_option maxRecDepth 20000 in
set_option maxHeartbeats 4000000 in
theorem ct_L_told {k v z : Nat} (hk : k = 3 * v + z) (hz : z < 3) (hv : v < 3) (M : Mm) {F : Nat → Int32} (hL : LA M F) (hf : F (10 + 19 * v + 5 * z + 3) = 0 ∨ F (10 + 19 * v + 5 * z + 3) = 1) : Ct yL_told cL_told 4 (some .int) 2 42 [.inr (9, 51, 57, 0), .inl (nI k)] M (RI (toldF F v z) M) := by
  have e0 : F (10 + 19 * v + 5 * z) = M 51 (4 + 19 * v + 5 * z) := (hL.z0 hv hz).symm
  have e1 : F (10 + 19 * v + 5 * z + 1) = M 51 (4 + 19 * v + 5 * z + 1) := (hL.z hv hz 1 (by decide)).symm
  have e2 : F (10 + 19 * v + 5 * z + 2) = M 51 (4 + 19 * v + 5 * z + 2) := (hL.z hv hz 2 (by decide)).symm
  have e3 : F (10 + 19 * v + 5 * z + 3) = M 51 (4 + 19 * v + 5 * z + 3) := (hL.z hv hz 3 (by decide)).symm
  rw [e3] at hf
  have hdd := door_eq hf
  have h10 : ¬ nI 1 = 0 := by decide
  refine Ct.at RL rfl (by decide +kernel) (Nat.le_of_ble_eq_true rfl) [some (.inr (9, 51, 57, 0)), some (.inl (nI k)), none, none] rfl (fun G => ?_)
  refine a_il_1_4 (pc' := 1) dL_told_0 rfl ?_
  refine a_iconst (v := nI 3) (pc' := 2) dL_told_1 (by decide) rfl ?_
  refine a_idivN (pc' := 3) (by omega) (by decide) (by decide) dL_told_2 rfl ?_
  refine a_iconst (v := nI 3) (pc' := 4) dL_told_3 (by decide) rfl ?_
  refine a_imulN (pc' := 5) dL_told_4 rfl ?_
  refine a_is_2_4 (pc' := 6) dL_told_5 rfl ?_
  refine a_al_0_4 (pc' := 7) dL_told_6 rfl ?_
  refine a_il_2_4 (pc' := 8) dL_told_7 rfl ?_
  refine k_SI (pc' := 11) (ct_L_read (v := v) (z := 0) (by omega) (by omega) (by omega) _ hL) cw_L_15 ms_L_read rfl (by decide) (by decide) (Nat.le_of_ble_eq_true rfl) rfl dL_told_8 rfl ?_
  refine a_al_0_4 (pc' := 12) dL_told_11 rfl ?_
  refine a_il_2_4 (pc' := 13) dL_told_12 rfl ?_
  refine a_iconst (v := nI 1) (pc' := 14) dL_told_13 (by decide) rfl ?_
  refine a_iaddN (pc' := 15) dL_told_14 rfl ?_
  refine k_SI (pc' := 18) (ct_L_read (v := v) (z := 1) (by omega) (by omega) (by omega) _ hL) cw_L_15 ms_L_read rfl (by decide) (by decide) (Nat.le_of_ble_eq_true rfl) rfl dL_told_15 rfl ?_
  refine a_iadd (pc' := 19) dL_told_18 rfl ?_
  refine a_al_0_4 (pc' := 20) dL_told_19 rfl ?_
  refine a_il_2_4 (pc' := 21) dL_told_20 rfl ?_
  refine a_iconst (v := nI 2) (pc' := 22) dL_told_21 (by decide) rfl ?_
  refine a_iaddN (pc' := 23) dL_told_22 rfl ?_
  refine k_SI (pc' := 26) (ct_L_read (v := v) (z := 2) (by omega) (by omega) (by omega) _ hL) cw_L_15 ms_L_read rfl (by decide) (by decide) (Nat.le_of_ble_eq_true rfl) rfl dL_told_23 rfl ?_
  refine a_iadd (pc' := 27) dL_told_26 rfl ?_
  refine a_al_0_4 (pc' := 28) dL_told_27 rfl ?_
  refine a_il_1_4 (pc' := 29) dL_told_28 rfl ?_
  refine k_SI (pc' := 32) (ct_L_read (v := v) (z := z) (by omega) (by omega) (by omega) _ hL) cw_L_15 ms_L_read rfl (by decide) (by decide) (Nat.le_of_ble_eq_true rfl) rfl dL_told_29 rfl ?_
  refine a_isub (pc' := 33) dL_told_32 rfl ?_
  rw [others F v hz]
  refine a_is_3_4 (pc' := 34) dL_told_33 rfl ?_
  refine a_al_0_4 (pc' := 35) dL_told_34 rfl ?_
  refine a_il_1_4 (pc' := 36) dL_told_35 rfl ?_
  refine k_SI (pc' := 39) (ct_L_spot (v := v) (z := z) (by omega) (by omega) (by omega) _) cw_L_9 ms_L_spot rfl (by decide) (by decide) (Nat.le_of_ble_eq_true rfl) rfl dL_told_36 rfl ?_
  refine a_iconst (v := nI 3) (pc' := 40) dL_told_39 (by decide) rfl ?_
  refine a_iaddN (pc' := 41) dL_told_40 rfl ?_
  refine a_ialdN (pc' := 42) rfl (by omega) (by decide) dL_told_41 rfl ?_
  refine a_iconst (v := nI 1) (pc' := 43) dL_told_42 (by decide) rfl ?_
  refine a_icmp_ne (pc' := 46) (tgt := 56) dL_told_43 (by decide) rfl (fun c_43 => ?_) (fun c_43 => ?_)
  · refine a_al_0_4 (pc' := 57) dL_told_56 rfl ?_
    refine a_il_1_4 (pc' := 58) dL_told_57 rfl ?_
    refine k_SI (pc' := 61) (ct_L_read (v := v) (z := z) (by omega) (by omega) (by omega) _ hL) cw_L_15 ms_L_read rfl (by decide) (by decide) (Nat.le_of_ble_eq_true rfl) rfl dL_told_58 rfl ?_
    refine a_iret dL_told_61 rfl rfl ?_
    exact fI (by simp [toldF, c_43, e3, hdd, h10])
  · refine a_il_3_4 (pc' := 47) dL_told_46 rfl ?_
    refine a_il_3_4 (pc' := 48) dL_told_47 rfl ?_
    refine a_iconst (v := nI 1) (pc' := 49) dL_told_48 (by decide) rfl ?_
    refine a_iand (pc' := 50) dL_told_49 rfl ?_
    refine a_isub (pc' := 51) dL_told_50 rfl ?_
    refine a_iconst (v := nI 2) (pc' := 52) dL_told_51 (by decide) rfl ?_
    refine a_idiv (pc' := 53) dL_told_52 (by decide) rfl ?_
    rw [half_eq]
    refine a_goto (pc' := 61) dL_told_53 (by decide) ?_
    refine a_iret dL_told_61 rfl rfl ?_
    exact fI (by simp [toldF, c_43, e3, hdd, h10])
set_option maxRecDepth 20000 in
set_option maxHeartbeats 4000000 in
theorem ct_L_apart (x y : Int32) (M : Mm) : Ct yL_apart cL_apart 2 (some .int) 0 0 [.inl x, .inl y] M (RI (apS x y) M) := by
  refine Ct.at RL rfl (by decide +kernel) (Nat.le_of_ble_eq_true rfl) [some (.inl x), some (.inl y)] rfl (fun G => ?_)
  refine a_il_0_2 (pc' := 1) dL_apart_0 rfl ?_
  refine a_il_1_2 (pc' := 2) dL_apart_1 rfl ?_
  refine a_icmp_ge (pc' := 5) (tgt := 11) dL_apart_2 (by decide) rfl (fun c_2 => ?_) (fun c_2 => ?_)
  · refine a_il_0_2 (pc' := 12) dL_apart_11 rfl ?_
    refine a_il_1_2 (pc' := 13) dL_apart_12 rfl ?_
    refine a_isub (pc' := 14) dL_apart_13 rfl ?_
    refine a_iret dL_apart_14 rfl rfl ?_
    exact fI (by simp [apS, c_2])
  · refine a_il_1_2 (pc' := 6) dL_apart_5 rfl ?_
    refine a_il_0_2 (pc' := 7) dL_apart_6 rfl ?_
    refine a_isub (pc' := 8) dL_apart_7 rfl ?_
    refine a_goto (pc' := 14) dL_apart_8 (by decide) ?_
    refine a_iret dL_apart_14 rfl rfl ?_
    exact fI (by simp [apS, c_2])
set_option maxRecDepth 20000 in
set_option maxHeartbeats 4000000 in
theorem ct_L_isOdd {k v z : Nat} (hk : k = 3 * v + z) (hz : z < 3) (hv : v < 3) (M : Mm) {F : Nat → Int32} (hL : LA M F) (hb : ∀ z, z < 3 → bt (-1000) 1000 (rdg F (10 + 19 * v + 5 * z))) : Ct yL_isOdd cL_isOdd 7 (some .boolean) 2 42 [.inr (9, 50, 6, 0), .inr (9, 51, 57, 0), .inl (nI k)] M (RT (oddF F v z (F 4)) M) := by
  have e0 : abS (rdg F (10 + 19 * v + 5 * z) - rdg F (10 + 19 * v + 5 * ((z + 1) % 3))) = apS (rdg F (10 + 19 * v + 5 * z)) (rdg F (10 + 19 * v + 5 * ((z + 1) % 3))) := ap_ab (hb _ (by omega)) (hb _ (by omega))
  have e1 : abS (rdg F (10 + 19 * v + 5 * z) - rdg F (10 + 19 * v + 5 * ((z + 2) % 3))) = apS (rdg F (10 + 19 * v + 5 * z)) (rdg F (10 + 19 * v + 5 * ((z + 2) % 3))) := ap_ab (hb _ (by omega)) (hb _ (by omega))
  have e2 : abS (rdg F (10 + 19 * v + 5 * ((z + 1) % 3)) - rdg F (10 + 19 * v + 5 * ((z + 2) % 3))) = apS (rdg F (10 + 19 * v + 5 * ((z + 1) % 3))) (rdg F (10 + 19 * v + 5 * ((z + 2) % 3))) := ap_ab (hb _ (by omega)) (hb _ (by omega))
  have eg : M 50 4 = F 4 := hL.g (by decide)
  refine Ct.at RL rfl (by decide +kernel) (Nat.le_of_ble_eq_true rfl) [some (.inr (9, 50, 6, 0)), some (.inr (9, 51, 57, 0)), some (.inl (nI k)), none, none, none, none] rfl (fun G => ?_)
  refine a_il_2_7 (pc' := 1) dL_isOdd_0 rfl ?_
  refine a_iconst (v := nI 3) (pc' := 2) dL_isOdd_1 (by decide) rfl ?_
  refine a_idivN (pc' := 3) (by omega) (by decide) (by decide) dL_isOdd_2 rfl ?_
  refine a_iconst (v := nI 3) (pc' := 4) dL_isOdd_3 (by decide) rfl ?_
  refine a_imulN (pc' := 5) dL_isOdd_4 rfl ?_
  refine a_is_3_7 (pc' := 6) dL_isOdd_5 rfl ?_
  refine a_al_1_7 (pc' := 7) dL_isOdd_6 rfl ?_
  refine a_il_3_7 (pc' := 8) dL_isOdd_7 rfl ?_
  refine a_il_2_7 (pc' := 9) dL_isOdd_8 rfl ?_
  refine a_iconst (v := nI 1) (pc' := 10) dL_isOdd_9 (by decide) rfl ?_
  refine a_iaddN (pc' := 11) dL_isOdd_10 rfl ?_
  refine a_iconst (v := nI 3) (pc' := 12) dL_isOdd_11 (by decide) rfl ?_
  refine a_iremN (pc' := 13) (by omega) (by decide) (by decide) dL_isOdd_12 rfl ?_
  refine a_iaddN (pc' := 14) dL_isOdd_13 rfl ?_
  refine k_SI (pc' := 17) (ct_L_read (v := v) (z := ((z + 1) % 3)) (by omega) (by omega) (by omega) _ hL) cw_L_15 ms_L_read rfl (by decide) (by decide) (Nat.le_of_ble_eq_true rfl) rfl dL_isOdd_14 rfl ?_
  refine a_is_4_7 (pc' := 19) dL_isOdd_17 rfl ?_
  refine a_al_1_7 (pc' := 20) dL_isOdd_19 rfl ?_
  refine a_il_3_7 (pc' := 21) dL_isOdd_20 rfl ?_
  refine a_il_2_7 (pc' := 22) dL_isOdd_21 rfl ?_
  refine a_iconst (v := nI 2) (pc' := 23) dL_isOdd_22 (by decide) rfl ?_
  refine a_iaddN (pc' := 24) dL_isOdd_23 rfl ?_
  refine a_iconst (v := nI 3) (pc' := 25) dL_isOdd_24 (by decide) rfl ?_
  refine a_iremN (pc' := 26) (by omega) (by decide) (by decide) dL_isOdd_25 rfl ?_
  refine a_iaddN (pc' := 27) dL_isOdd_26 rfl ?_
  refine k_SI (pc' := 30) (ct_L_read (v := v) (z := ((z + 2) % 3)) (by omega) (by omega) (by omega) _ hL) cw_L_15 ms_L_read rfl (by decide) (by decide) (Nat.le_of_ble_eq_true rfl) rfl dL_isOdd_27 rfl ?_
  refine a_is_5_7 (pc' := 32) dL_isOdd_30 rfl ?_
  refine a_al_1_7 (pc' := 33) dL_isOdd_32 rfl ?_
  refine a_il_2_7 (pc' := 34) dL_isOdd_33 rfl ?_
  refine k_SI (pc' := 37) (ct_L_read (v := v) (z := z) (by omega) (by omega) (by omega) _ hL) cw_L_15 ms_L_read rfl (by decide) (by decide) (Nat.le_of_ble_eq_true rfl) rfl dL_isOdd_34 rfl ?_
  refine a_il_4_7 (pc' := 39) dL_isOdd_37 rfl ?_
  refine k_SI (pc' := 42) (ct_L_apart _ _ _) cw_L_19 ms_L_apart rfl (by decide) (by decide) (Nat.le_of_ble_eq_true rfl) rfl dL_isOdd_39 rfl ?_
  refine a_al_1_7 (pc' := 43) dL_isOdd_42 rfl ?_
  refine a_il_2_7 (pc' := 44) dL_isOdd_43 rfl ?_
  refine k_SI (pc' := 47) (ct_L_read (v := v) (z := z) (by omega) (by omega) (by omega) _ hL) cw_L_15 ms_L_read rfl (by decide) (by decide) (Nat.le_of_ble_eq_true rfl) rfl dL_isOdd_44 rfl ?_
  refine a_il_5_7 (pc' := 49) dL_isOdd_47 rfl ?_
  refine k_SI (pc' := 52) (ct_L_apart _ _ _) cw_L_19 ms_L_apart rfl (by decide) (by decide) (Nat.le_of_ble_eq_true rfl) rfl dL_isOdd_49 rfl ?_
  refine a_icmp_ge (pc' := 55) (tgt := 68) dL_isOdd_52 (by decide) rfl (fun c_52 => ?_) (fun c_52 => ?_)
  · refine a_al_1_7 (pc' := 69) dL_isOdd_68 rfl ?_
    refine a_il_2_7 (pc' := 70) dL_isOdd_69 rfl ?_
    refine k_SI (pc' := 73) (ct_L_read (v := v) (z := z) (by omega) (by omega) (by omega) _ hL) cw_L_15 ms_L_read rfl (by decide) (by decide) (Nat.le_of_ble_eq_true rfl) rfl dL_isOdd_70 rfl ?_
    refine a_il_5_7 (pc' := 75) dL_isOdd_73 rfl ?_
    refine k_SI (pc' := 78) (ct_L_apart _ _ _) cw_L_19 ms_L_apart rfl (by decide) (by decide) (Nat.le_of_ble_eq_true rfl) rfl dL_isOdd_75 rfl ?_
    refine a_is_6_7 (pc' := 80) dL_isOdd_78 rfl ?_
    refine a_il_6_7 (pc' := 82) dL_isOdd_80 rfl ?_
    refine a_al_0_7 (pc' := 83) dL_isOdd_82 rfl ?_
    refine a_iconst (v := nI 4) (pc' := 84) dL_isOdd_83 (by decide) rfl ?_
    refine a_ialdN (pc' := 85) rfl (by omega) (by decide) dL_isOdd_84 rfl ?_
    rw [eg]
    refine a_icmp_le (pc' := 88) (tgt := 105) dL_isOdd_85 (by decide) rfl (fun c_85 => ?_) (fun c_85 => ?_)
    · refine a_iconst (v := nI 0) (pc' := 106) dL_isOdd_105 (by decide) rfl ?_
      refine a_iret dL_isOdd_106 rfl rfl ?_
      exact fB0 (by simp [oddF, c_52, c_85, e0, e1, e2, -Int32.not_le, -Int32.not_lt])
    · refine a_il_4_7 (pc' := 90) dL_isOdd_88 rfl ?_
      refine a_il_5_7 (pc' := 92) dL_isOdd_90 rfl ?_
      refine k_SI (pc' := 95) (ct_L_apart _ _ _) cw_L_19 ms_L_apart rfl (by decide) (by decide) (Nat.le_of_ble_eq_true rfl) rfl dL_isOdd_92 rfl ?_
      refine a_al_0_7 (pc' := 96) dL_isOdd_95 rfl ?_
      refine a_iconst (v := nI 4) (pc' := 97) dL_isOdd_96 (by decide) rfl ?_
      refine a_ialdN (pc' := 98) rfl (by omega) (by decide) dL_isOdd_97 rfl ?_
      rw [eg]
      refine a_icmp_gt (pc' := 101) (tgt := 105) dL_isOdd_98 (by decide) rfl (fun c_98 => ?_) (fun c_98 => ?_)
      · refine a_iconst (v := nI 0) (pc' := 106) dL_isOdd_105 (by decide) rfl ?_
        refine a_iret dL_isOdd_106 rfl rfl ?_
        exact fB0 (by simp [oddF, c_52, c_85, c_98, e0, e1, e2, -Int32.not_le, -Int32.not_lt])
      · refine a_iconst (v := nI 1) (pc' := 102) dL_isOdd_101 (by decide) rfl ?_
        refine a_goto (pc' := 106) dL_isOdd_102 (by decide) ?_
        refine a_iret dL_isOdd_106 rfl rfl ?_
        exact fB1 (by
          simp [oddF, c_52, c_85, c_98, e0, e1, e2, -Int32.not_le, -Int32.not_lt]
          exact fun q => c_85 (Int32.le_trans c_52 q))
  · refine a_al_1_7 (pc' := 56) dL_isOdd_55 rfl ?_
    refine a_il_2_7 (pc' := 57) dL_isOdd_56 rfl ?_
    refine k_SI (pc' := 60) (ct_L_read (v := v) (z := z) (by omega) (by omega) (by omega) _ hL) cw_L_15 ms_L_read rfl (by decide) (by decide) (Nat.le_of_ble_eq_true rfl) rfl dL_isOdd_57 rfl ?_
    refine a_il_4_7 (pc' := 62) dL_isOdd_60 rfl ?_
    refine k_SI (pc' := 65) (ct_L_apart _ _ _) cw_L_19 ms_L_apart rfl (by decide) (by decide) (Nat.le_of_ble_eq_true rfl) rfl dL_isOdd_62 rfl ?_
    refine a_goto (pc' := 78) dL_isOdd_65 (by decide) ?_
    refine a_is_6_7 (pc' := 80) dL_isOdd_78 rfl ?_
    refine a_il_6_7 (pc' := 82) dL_isOdd_80 rfl ?_
    refine a_al_0_7 (pc' := 83) dL_isOdd_82 rfl ?_
    refine a_iconst (v := nI 4) (pc' := 84) dL_isOdd_83 (by decide) rfl ?_
    refine a_ialdN (pc' := 85) rfl (by omega) (by decide) dL_isOdd_84 rfl ?_
    rw [eg]
    refine a_icmp_le (pc' := 88) (tgt := 105) dL_isOdd_85 (by decide) rfl (fun c_85_2 => ?_) (fun c_85_2 => ?_)
    · refine a_iconst (v := nI 0) (pc' := 106) dL_isOdd_105 (by decide) rfl ?_
      refine a_iret dL_isOdd_106 rfl rfl ?_
      exact fB0 (by simp [oddF, c_52, c_85_2, e0, e1, e2, -Int32.not_le, -Int32.not_lt])
    · refine a_il_4_7 (pc' := 90) dL_isOdd_88 rfl ?_
      refine a_il_5_7 (pc' := 92) dL_isOdd_90 rfl ?_
      refine k_SI (pc' := 95) (ct_L_apart _ _ _) cw_L_19 ms_L_apart rfl (by decide) (by decide) (Nat.le_of_ble_eq_true rfl) rfl dL_isOdd_92 rfl ?_
      refine a_al_0_7 (pc' := 96) dL_isOdd_95 rfl ?_
      refine a_iconst (v := nI 4) (pc' := 97) dL_isOdd_96 (by decide) rfl ?_
      refine a_ialdN (pc' := 98) rfl (by omega) (by decide) dL_isOdd_97 rfl ?_
      rw [eg]
      refine a_icmp_gt (pc' := 101) (tgt := 105) dL_isOdd_98 (by decide) rfl (fun c_98_2 => ?_) (fun c_98_2 => ?_)
      · refine a_iconst (v := nI 0) (pc' := 106) dL_isOdd_105 (by decide) rfl ?_
        refine a_iret dL_isOdd_106 rfl rfl ?_
        exact fB0 (by simp [oddF, c_52, c_85_2, c_98_2, e0, e1, e2, -Int32.not_le, -Int32.not_lt])
      · refine a_iconst (v := nI 1) (pc' := 102) dL_isOdd_101 (by decide) rfl ?_
        refine a_goto (pc' := 106) dL_isOdd_102 (by decide) ?_
        refine a_iret dL_isOdd_106 rfl rfl ?_
        exact fB1 (by
          simp [oddF, c_52, c_85_2, c_98_2, e0, e1, e2, -Int32.not_le, -Int32.not_lt]
          exact fun q => c_85_2 (Int32.le_trans (Int32.le_of_lt (Int32.not_le.mp c_52)) q))
