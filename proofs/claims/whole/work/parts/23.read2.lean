section RowsQ
variable {G : Gl} {cc : ByteArray} {own : String} {nL fr lo : Nat} {rt : Option FieldType} {Φ : Option OV → Mm → Prop} {pc pc' : Nat} {ls : List (Option OV)} {st : List OV} {M : Mm}
theorem k_VQ {y : MethodName} {cc' : ByteArray} {mL fr' lo' n index : Nat} {rt' : Option FieldType} {r9 : Int32} {Ψ9 : Mm → Prop} {x : Obj} {As rest st0 : List OV} {ci : Nat} {fs : List Value} {T : u_T} {N : Nat} (hC : Ct y cc' mL rt' fr' lo' (.inr x :: As) M (fun v M' => v = some (.inl r9) ∧ Ψ9 M')) (hW : CWd own index y cc' mL rt' n) (hs : Cond.instanceMethod y ∈ lw_tbl) (hse : Cond.selects y.cls y y ∈ lw_tbl) (ho : okO x = true) (he : ent G M x = .inr (ci, fs)) (hc : vwCl[ci]? = some (y.cls, T, N)) (hn : As.length = n) (hfr : fr' + 1 ≤ fr) (hlo : 8 + (mL + 11) + lo' ≤ lo) (hrest : rest.length ≤ 8) (hst : st0 = As.reverse ++ .inr x :: rest) (hd : decode cc pc = .ok (.invokevirtual index, 3)) (hp : pc + 3 = pc') (kk : ∀ M', Ψ9 M' → AW G cc own nL fr lo rt Φ pc' ls (.inl r9 :: rest) M') : AW G cc own nL fr lo rt Φ pc ls st0 M := a_callV hC hW hs hse ho he hc hn hfr hlo hrest hst hd hp (fun v M' h => by obtain ⟨rfl, h⟩ := h; exact kk M' h)
end RowsQ
/-- where the j-th command begins -/
def pth (T : Nat → Int32) (n : Nat) : Nat → Nat
  | 0 => skp T n 0
  | j + 1 => nxP T n (pth T n j)
/-- behind read -/
def rdQ (M : Mm) (n : Nat) : Option OV → Mm → Prop := fun v M' =>
  M' 21 0 = nI n ∧ (∀ r, r ≠ 21 → r ≠ 23 → r ≠ 24 → r ≠ 25 → M' r = M r) ∧ ∃ c, c ≤ 80 ∧ (∀ j, j < c → pth (M 22) n j < n ∧ cmOK (M 22) n (pth (M 22) n j) = true) ∧
  ((v = some (.inl (-1)) ∧ n ≤ pth (M 22) n c ∧ M' 21 2 = nI c ∧ ∀ j, j < c → M' 23 j = M 22 (pth (M 22) n j) ∧ M' 24 j = nI (cm1 (M 22) n (pth (M 22) n j)) ∧ (M 22 (pth (M 22) n j) = nI 114 → M' 25 j = nI (cm2 (M 22) n (pth (M 22) n j)))) ∨
   (v = some (.inl (nI (cmE (M 22) n (pth (M 22) n c)))) ∧ pth (M 22) n c < n ∧ cmOK (M 22) n (pth (M 22) n c) = false))
set_option maxRecDepth 20000 in
set_option maxHeartbeats 4000000 in
theorem lp_X2_read {G : Gl} {Φ : Option OV → Mm → Prop} {n : Nat} (hn : n ≤ 80) (M0 : Mm) (hΦ : ∀ v M', rdQ M0 n v M' → Φ v M') : ∀ (m p c : Nat) (M : Mm), n + 1 ≤ p + m → c ≤ p → p ≤ n → M 22 = M0 22 → M 21 0 = nI n → M 21 1 = nI p → M 21 2 = nI c → (∀ r, r ≠ 21 → r ≠ 23 → r ≠ 24 → r ≠ 25 → M r = M0 r) → p = pth (M0 22) n c → (∀ j, j < c → pth (M0 22) n j < n ∧ cmOK (M0 22) n (pth (M0 22) n j) = true) → (∀ j, j < c → M 23 j = M0 22 (pth (M0 22) n j) ∧ M 24 j = nI (cm1 (M0 22) n (pth (M0 22) n j)) ∧ (M0 22 (pth (M0 22) n j) = nI 114 → M 25 j = nI (cm2 (M0 22) n (pth (M0 22) n j)))) → AW G cX2_read RX2 1 3 66 (some .int) Φ 14 [some (.inr (2, 0, 0, 0))] [] M := by
  intro m
  induction m with
  | zero => intro p c M h1 h2 h3; omega
  | succ m ih =>
    intro p c M hm hcp hp9 hM22 hl h1 h2 hoth hp hok harr
    refine a_al_0_1 (pc' := 15) dX2_read_14 rfl ?_
    refine gf_2_2 (pc' := 18) fl_X2_35 dX2_read_15 rfl ?_
    refine a_al_0_1 (pc' := 19) dX2_read_18 rfl ?_
    refine gf_2_1 (pc' := 22) fl_X2_30 dX2_read_19 rfl ?_
    rw [h1, hl]
    refine a_icmp_ge (pc' := 25) (tgt := 67) dX2_read_22 (by decide) rfl (fun c_22 => ?_) (fun c_22 => ?_)
    · refine a_iconst (v := (-1)) (pc' := 68) dX2_read_67 (by decide) rfl ?_
      refine a_iret dX2_read_68 rfl rfl ?_
      have hpn : n ≤ p := (nI_leI (by omega) (by omega)).mp c_22
      exact hΦ _ _ ⟨hl, hoth, c, by omega, hok, Or.inl ⟨rfl, by rw [← hp]; exact hpn, h2, harr⟩⟩
    · have hpn : p < n := Nat.not_le.mp fun w9 => c_22 (nI_le w9 (by omega))
      refine a_al_0_1 (pc' := 26) dX2_read_25 rfl ?_
      refine gf_2_6 (pc' := 29) fl_X2_38 dX2_read_26 rfl ?_
      refine a_bipush (v := nI 80) (pc' := 31) dX2_read_29 (by decide) rfl ?_
      rw [h2]
      refine a_icmp_ge (pc' := 34) (tgt := 67) dX2_read_31 (by decide) rfl (fun c_31 => absurd c_31 (nI_ge (by omega) (by decide))) (fun c_31 => ?_)
      refine a_al_0_1 (pc' := 35) dX2_read_34 rfl ?_
      refine a_al_0_1 (pc' := 36) dX2_read_35 rfl ?_
      refine gf_2_6 (pc' := 39) fl_X2_38 dX2_read_36 rfl ?_
      rw [h2]
      refine k_VQ (pc' := 42) (ct_X2_readCommand hn hpn (by omega) _ hl h1) cw_X2_44 mi_X2_readCommand se_X2_readCommand rfl rfl rfl rfl (by decide) (by decide) (Nat.le_of_ble_eq_true rfl) rfl dX2_read_39 rfl (fun M_39 hq_39 => ?_)
      obtain ⟨q1, q2, q3, q4⟩ := hq_39
      have hE := cmE_b (M 22) hpn
      have e22 : M_39 22 = M 22 := q4 22 (by decide) (by decide) (by decide) (by decide)
      refine a_ifB_ne (pc' := 45) (tgt := 50) dX2_read_42 (by decide) rfl (fun c_42 => ?_) (fun c_42 => ?_)
      · refine a_al_0_1 (pc' := 51) dX2_read_50 rfl ?_
        refine a_dup (pc' := 52) dX2_read_51 rfl ?_
        refine gf_2_6 (pc' := 55) fl_X2_38 dX2_read_52 rfl ?_
        rw [q1, u2, h2]
        refine a_iconst (v := nI 1) (pc' := 56) dX2_read_55 (by decide) rfl ?_
        refine a_iaddN (pc' := 57) dX2_read_56 rfl ?_
        refine pf_2_6 (pc' := 60) fl_X2_38 dX2_read_57 rfl ?_
        refine a_al_0_1 (pc' := 61) dX2_read_60 rfl ?_
        refine k_VV (pc' := 64) (ct_X2_skipSpaces hn (a := cmE (M 22) n p) hE.2 _ (by rw [wr_eq, setR_same, q1]; exact hl) (by rw [wr_eq, setR_same, q1]; rfl)) cw_X2_41 mi_X2_skipSpaces se_X2_skipSpaces rfl rfl rfl rfl (by decide) (by decide) (Nat.le_of_ble_eq_true rfl) rfl dX2_read_61 rfl ?_
        refine a_goto (pc' := 14) dX2_read_64 (by decide) ?_
        refine ih (skp (M 22) n (cmE (M 22) n p)) (c + 1) _ ?_ ?_ ?_ ?_ ?_ ?_ ?_ ?_ ?_ ?_ ?_
        · have h9 := nxP_b (M 22) hpn c_42
          unfold nxP at h9
          omega
        · have h9 := nxP_b (M 22) hpn c_42
          unfold nxP at h9
          omega
        · have h9 := nxP_b (M 22) hpn c_42
          unfold nxP at h9
          omega
        · rw [setR_ne _ _ (by decide), wr_eq, setR_ne _ _ (by decide), e22, hM22]
        · rw [setR_same, u0, wr_eq, setR_same, q1]; exact hl
        · rw [setR_same, u1, wr_eq, setR_ne _ _ (by decide), e22]
        · rw [setR_same, u2, wr_eq, setR_same]; rfl
        · intro r r1 r2 r3 r4
          rw [setR_ne _ _ r1, wr_eq, setR_ne _ _ r1]
          exact (q4 r r1 r2 r3 r4).trans (hoth r r1 r2 r3 r4)
        · rw [← hM22, show pth (M 22) n (c + 1) = nxP (M 22) n (pth (M 22) n c) from rfl, hM22, ← hp]; rfl
        · intro j hj
          by_cases hjc : j = c
          · subst hjc; rw [← hp, ← hM22]; exact ⟨hpn, c_42⟩
          · exact hok j (by omega)
        · intro j hj
          rw [setR_ne _ _ (by decide), setR_ne _ _ (by decide), setR_ne _ _ (by decide), wr_eq, setR_ne _ _ (by decide), setR_ne _ _ (by decide), setR_ne _ _ (by decide)]
          by_cases hjc : j = c
          · subst hjc
            obtain ⟨w1, w2, w3⟩ := q3 c_42
            rw [← hp, ← hM22]
            exact ⟨w1, w2, w3⟩
          · obtain ⟨w1, w2, w3⟩ := q2 j hjc
            rw [w1, w2, w3]
            exact harr j (by omega)
      · refine a_al_0_1 (pc' := 46) dX2_read_45 rfl ?_
        refine gf_2_2 (pc' := 49) fl_X2_35 dX2_read_46 rfl ?_
        refine a_iret dX2_read_49 rfl rfl ?_
        rw [q1, u1]
        exact hΦ _ _ ⟨by rw [q1, u0]; exact hl, fun r r1 r2 r3 r4 => (q4 r r1 r2 r3 r4).trans (hoth r r1 r2 r3 r4), c, by omega, hok, Or.inr ⟨by rw [← hp, hM22], by rw [← hp]; exact hpn, by rw [← hp, ← hM22]; exact c_42⟩⟩
set_option maxRecDepth 20000 in
set_option maxHeartbeats 4000000 in
theorem ct_X2_read {n : Nat} (hn : n ≤ 80) (M : Mm) (hl : M 21 0 = nI n) : Ct yX2_read cX2_read 1 (some .int) 3 66 [.inr (2, 0, 0, 0)] M (rdQ M n) := by
  refine Ct.at RX2 rfl (by decide +kernel) (Nat.le_of_ble_eq_true rfl) [some (.inr (2, 0, 0, 0))] rfl (fun G => ?_)
  refine a_al_0_1 (pc' := 1) dX2_read_0 rfl ?_
  refine a_iconst (v := nI 0) (pc' := 2) dX2_read_1 (by decide) rfl ?_
  refine pf_2_2 (pc' := 5) fl_X2_35 dX2_read_2 rfl ?_
  refine a_al_0_1 (pc' := 6) dX2_read_5 rfl ?_
  refine a_iconst (v := nI 0) (pc' := 7) dX2_read_6 (by decide) rfl ?_
  refine pf_2_6 (pc' := 10) fl_X2_38 dX2_read_7 rfl ?_
  refine a_al_0_1 (pc' := 11) dX2_read_10 rfl ?_
  refine k_VV (pc' := 14) (ct_X2_skipSpaces hn (a := 0) (Nat.zero_le _) _ (by rw [wr_eq, setR_same, wr_eq, setR_same]; exact hl) (by rw [wr_eq, setR_same, wr_eq, setR_same]; rfl)) cw_X2_41 mi_X2_skipSpaces se_X2_skipSpaces rfl rfl rfl rfl (by decide) (by decide) (Nat.le_of_ble_eq_true rfl) rfl dX2_read_11 rfl ?_
  refine lp_X2_read hn M (fun v M' h => h) (n + 1) (skp (M 22) n 0) 0 _ (by omega) (Nat.zero_le _) (skp_b (M 22) (Nat.zero_le _)).2 ?_ ?_ ?_ ?_ ?_ rfl (fun j h => absurd h (Nat.not_lt_zero j)) (fun j h => absurd h (Nat.not_lt_zero j))
  · simp (disch := decide) only [wr_eq, setR_ne]
  · rw [setR_same, u0, wr_eq, setR_same, wr_eq, setR_same]; exact hl
  · rw [setR_same, u1, wr_eq, setR_ne _ _ (by decide), wr_eq, setR_ne _ _ (by decide)]
  · rw [setR_same, u2, wr_eq, setR_same]; rfl
  · intro r r1 r2 r3 r4
    simp only [wr_eq, setR_ne _ _ r1]
