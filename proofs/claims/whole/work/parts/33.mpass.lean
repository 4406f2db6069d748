theorem Good.rdg {F : Nat → Int32} {t T v z : Nat} (h : Good F t T) (hv : v < 3) (hz : z < 3) : bt (-1000) 1000 (rdg F (10 + 19 * v + 5 * z)) := by
  have a := h.heat hv hz
  have b := h.bys hv hz
  unfold Jvm.Pilot.@@N@@.rdg
  unfold bt at *
  split
  · omega
  · split
    · rw [iadd (by omega) (by omega)]; omega
    · omega
def lw1 (M : Mm) (v t z : Nat) : Mm := wr (wr M 54 (18 * (t - 1) + 6 * v + 2 * z) (M 50 (10 + 19 * v + 5 * z))) 54 (18 * (t - 1) + 6 * v + 2 * z + 1) (toldF (M 50) v z)
def lgW (M : Mm) (v t : Nat) : Mm := lw1 (lw1 (lw1 M v t 0) v t 1) v t 2
theorem lgW_ne (M : Mm) (v t : Nat) {r : Nat} (h : r ≠ 54) : lgW M v t r = M r := by
  unfold lgW lw1
  simp (disch := assumption) only [wr_rne]
theorem lgW_50 (M : Mm) (v t : Nat) : lgW M v t 50 = M 50 := lgW_ne _ _ _ (by decide)
def mVan (r : Bool) (t : Nat) (M : Mm) (v : Nat) : Mm := match r with
  | true => lgW (setR M 50 (minF (M 50) v)) v t
  | false => setR M 50 (minF (M 50) v)
def mVans (r : Bool) (t : Nat) : Nat → Nat → Mm → Mm
  | 0, _, M => M
  | n + 1, v, M => mVans r t n (v + 1) (mVan r t M v)
def mVansN (r : Bool) (t : Nat) : Nat → Nat → Mm → Int32 → Int32
  | 0, _, _, a => a
  | n + 1, v, M, a => mVansN r t n (v + 1) (mVan r t M v) (a + minN (M 50) v)
def mMin (r : Bool) (nv t : Nat) (M : Mm) : Mm := mVans r (t + 1) nv 0 (setR M 50 (upd (M 50) 2 (nI (t + 1))))
def mMinN (r : Bool) (nv t : Nat) (M : Mm) : Int32 := mVansN r (t + 1) nv 0 (setR M 50 (upd (M 50) 2 (nI (t + 1)))) (nI 0)
def mPass (nv : Nat) : Nat → Nat → Mm → Mm
  | 0, _, M => M
  | n + 1, t, M => mPass nv n (t + 1) (mMin true nv t M)
def mPassN (nv : Nat) : Nat → Nat → Mm → Int32 → Int32
  | 0, _, _, a => a
  | n + 1, t, M, a => mPassN nv n (t + 1) (mMin true nv t M) (a + mMinN true nv t M)
def mpsR (M : Mm) (x : Int32) : Int32 := if inn x (nI 1) (nI 300) then (if psB (M 50) x then mPassN (nvF (M 50)) (vN x) (vN (M 50 2)) M (nI 0) else (-100003)) else (-100001)
def mpsM (M : Mm) (x : Int32) : Mm := if inn x (nI 1) (nI 300) then (if psB (M 50) x then mPass (nvF (M 50)) (vN x) (vN (M 50 2)) M else M) else M
theorem mVan_50 (r : Bool) (t : Nat) (M : Mm) (v : Nat) : mVan r t M v 50 = minF (M 50) v := by
  cases r
  · exact setR_same _ _ _
  · exact (lgW_50 _ _ _).trans (setR_same _ _ _)
theorem mVan_ne (r : Bool) (t : Nat) (M : Mm) (v : Nat) {q : Nat} (h : q ≠ 50) (h2 : q ≠ 54) : mVan r t M v q = M q := by
  cases r
  · exact setR_ne _ _ h
  · exact (lgW_ne _ _ _ h2).trans (setR_ne _ _ h)
theorem mVans_ok {r : Bool} {nv np t : Nat} (hn : nv ≤ 3) : ∀ (n v : Nat) (M : Mm), v + n ≤ nv → M 50 0 = nI nv → M 50 1 = nI np → (∃ T, Good (M 50) t T) → M 60 1 = bI r → mVans r t n v M 50 0 = nI nv ∧ mVans r t n v M 50 1 = nI np ∧ (∃ T, Good (mVans r t n v M 50) t T) ∧ mVans r t n v M 60 1 = bI r := by
  intro n
  induction n with
  | zero => intro v M _ h0 h1 hg hr; exact ⟨h0, h1, hg, hr⟩
  | succ n ih =>
    intro v M hv h0 h1 hg hr
    obtain ⟨T, hg⟩ := hg
    unfold mVans
    refine ih (v + 1) _ (by omega) ?_ ?_ ⟨T + 1, ?_⟩ ?_
    · rw [mVan_50, minF_lo _ (by decide)]; exact h0
    · rw [mVan_50, minF_lo _ (by decide)]; exact h1
    · rw [mVan_50]; exact hg.kmin (by omega)
    · rw [mVan_ne _ _ _ _ (by decide) (by decide)]; exact hr
theorem mMin_ok {r : Bool} {nv np t : Nat} (hn : nv ≤ 3) {M : Mm} (h0 : M 50 0 = nI nv) (h1 : M 50 1 = nI np) (hg : ∃ T, Good (M 50) t T) (hr : M 60 1 = bI r) : mMin r nv t M 50 0 = nI nv ∧ mMin r nv t M 50 1 = nI np ∧ (∃ T, Good (mMin r nv t M 50) (t + 1) T) ∧ mMin r nv t M 60 1 = bI r := by
  obtain ⟨T, hg⟩ := hg
  unfold mMin
  refine mVans_ok hn _ _ _ (by omega) ?_ ?_ ⟨T, ?_⟩ ?_
  · rw [setR_same]; exact h0
  · rw [setR_same]; exact h1
  · rw [setR_same]; exact hg.tick
  · rw [setR_ne _ _ (by decide)]; exact hr
set_option maxRecDepth 20000 in
set_option maxHeartbeats 4000000 in
theorem lb_X7_minute1 {G : Gl} {Φ : Option OV → Mm → Prop} {nv np v tt : Nat} (hn : nv ≤ 3) (hm : np ≤ 12) (hv : v < nv) (ht1 : 1 ≤ tt)  (ht : tt ≤ 600) (acc : Int32) (x3 x4 : Option OV) (M : Mm) (h0 : M 50 0 = nI nv) (h1 : M 50 1 = nI np) (hg : ∃ T, Good (M 50) tt T) (hr : M 60 1 = nI 1) (kx : ∀ y3 y4 : Option OV, AW G cX7_minute RX7 5 5 116 (some .int) Φ 14 [some (.inr (7, 0, 0, 0)), some (.inl (acc + minN (M 50) v)), some (.inl (nI (v + 1))), y3, y4] [] (lgW (setR M 50 (minF (M 50) v)) v tt)) : AW G cX7_minute RX7 5 5 116 (some .int) Φ 14 [some (.inr (7, 0, 0, 0)), some (.inl acc), some (.inl (nI v)), x3, x4] [] M := by
  obtain ⟨T, hg⟩ := hg
  have hnp : npF (M 50) = np := by unfold npF; rw [h1]; exact nI_clamp (by omega)
  refine a_il_2_5 (pc' := 15) dX7_minute_14 rfl ?_
  refine a_al_0_5 (pc' := 16) dX7_minute_15 rfl ?_
  refine gf_7_0 (pc' := 19) fl_X7_7 dX7_minute_16 rfl ?_
  refine a_iconst (v := nI 0) (pc' := 20) dX7_minute_19 (by decide) rfl ?_
  refine a_ialdN (pc' := 21) rfl (by omega) (by decide) dX7_minute_20 rfl ?_
  rw [h0]
  refine a_icmp_ge (pc' := 24) (tgt := 119) dX7_minute_21 (by decide) rfl (fun c_21 => absurd c_21 (nI_ge (by omega) (by omega))) (fun c_21 => ?_)
  refine a_al_0_5 (pc' := 25) dX7_minute_24 rfl ?_
  refine a_il_2_5 (pc' := 26) dX7_minute_25 rfl ?_
  refine k_VV (pc' := 29) (ct_X7_heats (v := v) (by omega) _ (hg.door (by omega))) cw_X7_78 mi_X7_heats se_X7_heats rfl rfl rfl rfl (by decide) (by decide) (Nat.le_of_ble_eq_true rfl) rfl dX7_minute_26 rfl ?_
  refine a_il_1_5 (pc' := 30) dX7_minute_29 rfl ?_
  refine a_al_0_5 (pc' := 31) dX7_minute_30 rfl ?_
  refine a_il_2_5 (pc' := 32) dX7_minute_31 rfl ?_
  refine k_VI (pc' := 35) (ct_X7_reads (v := v) (by omega) _ (by rw [setR_same]; exact fun z hz => (hg.kmid (by omega)).rdg (by omega) hz) (by rw [setR_same]; exact (hg.kmid (by omega)).pat)) cw_X7_82 mi_X7_reads se_X7_reads rfl rfl rfl rfl (by decide) (by decide) (Nat.le_of_ble_eq_true rfl) rfl dX7_minute_32 rfl ?_
  refine a_iadd (pc' := 36) dX7_minute_35 rfl ?_
  refine a_is_1_5 (pc' := 37) dX7_minute_36 rfl ?_
  refine a_al_0_5 (pc' := 38) dX7_minute_37 rfl ?_
  refine a_il_2_5 (pc' := 39) dX7_minute_38 rfl ?_
  refine k_VV (pc' := 42) (ct_X7_warms (v := v) hm (by omega) _ (by rw [setR_same, setR_same, findA_lo _ _ _ (by decide), midF_lo _ (by decide)]; exact h1) (by rw [setR_same, setR_same]; exact ((hg.kmid (by omega)).kfindA (by omega)).zok) (by rw [setR_same, setR_same]; exact ((hg.kmid (by omega)).kfindA (by omega)).door (by omega))) cw_X7_85 mi_X7_warms se_X7_warms rfl rfl rfl rfl (by decide) (by decide) (Nat.le_of_ble_eq_true rfl) rfl dX7_minute_39 rfl ?_
  refine a_castS rfl (M' := setR M 50 (minF (M 50) v)) (by simp only [setR_same, setR_setR]; rw [midF_lo _ (by decide), midF_lo _ (by decide)]; unfold minF; rw [hnp]) ?_
  rw [setR_same, midF_lo _ (by decide), midF_lo _ (by decide), show fndA (midF (M 50) v) v (M 50 4) (M 50 5) = minN (M 50) v from rfl]
  refine a_iconst (v := nI 0) (pc' := 43) dX7_minute_42 (by decide) rfl ?_
  refine a_is_3_5 (pc' := 44) dX7_minute_43 rfl ?_
  refine a_il_3_5 (pc' := 45) dX7_minute_44 rfl ?_
  refine a_iconst (v := nI 3) (pc' := 46) dX7_minute_45 (by decide) rfl ?_
  refine a_icmp_ge (pc' := 49) (tgt := 113) dX7_minute_46 (by decide) rfl (fun c_46 => absurd c_46 (by decide)) (fun c_46 => ?_)
  refine a_al_0_5 (pc' := 50) dX7_minute_49 rfl ?_
  refine gf_7_6 (pc' := 53) fl_X7_25 dX7_minute_50 rfl ?_
  refine a_if_eq (pc' := 56) (tgt := 113) dX7_minute_53 (by decide) rfl (fun c_53 => absurd c_53 (by simp (disch := decide) only [wr_rne, setR_ne]; rw [hr]; decide)) (fun c_53 => ?_)
  refine a_bipush (v := nI 18) (pc' := 58) dX7_minute_56 (by decide) rfl ?_
  refine a_al_0_5 (pc' := 59) dX7_minute_58 rfl ?_
  refine gf_7_0 (pc' := 62) fl_X7_7 dX7_minute_59 rfl ?_
  refine a_iconst (v := nI 2) (pc' := 63) dX7_minute_62 (by decide) rfl ?_
  refine a_ialdN (pc' := 64) rfl (by omega) (by decide) dX7_minute_63 rfl ?_
  simp (disch := decide) only [wr_rne, setR_same]
  rw [minF_lo _ (by decide), hg.n2]
  refine a_iconst (v := nI 1) (pc' := 65) dX7_minute_64 (by decide) rfl ?_
  refine a_isubN (pc' := 66) (by omega) dX7_minute_65 rfl ?_
  refine a_imulN (pc' := 67) dX7_minute_66 rfl ?_
  refine a_bipush (v := nI 6) (pc' := 69) dX7_minute_67 (by decide) rfl ?_
  refine a_il_2_5 (pc' := 70) dX7_minute_69 rfl ?_
  refine a_imulN (pc' := 71) dX7_minute_70 rfl ?_
  refine a_iaddN (pc' := 72) dX7_minute_71 rfl ?_
  refine a_iconst (v := nI 2) (pc' := 73) dX7_minute_72 (by decide) rfl ?_
  refine a_il_3_5 (pc' := 74) dX7_minute_73 rfl ?_
  refine a_imulN (pc' := 75) dX7_minute_74 rfl ?_
  refine a_iaddN (pc' := 76) dX7_minute_75 rfl ?_
  refine a_is_4_5 (pc' := 78) dX7_minute_76 rfl ?_
  refine a_al_0_5 (pc' := 79) dX7_minute_78 rfl ?_
  refine gf_7_5 (pc' := 82) fl_X7_22 dX7_minute_79 rfl ?_
  refine a_il_4_5 (pc' := 84) dX7_minute_82 rfl ?_
  refine a_al_0_5 (pc' := 85) dX7_minute_84 rfl ?_
  refine a_il_2_5 (pc' := 86) dX7_minute_85 rfl ?_
  refine a_il_3_5 (pc' := 87) dX7_minute_86 rfl ?_
  refine a_iconst (v := nI 0) (pc' := 88) dX7_minute_87 (by decide) rfl ?_
  refine k_VI (pc' := 91) (ct_X7_at (by omega) (by omega) (by omega) _) cw_X7_55 mi_X7_at se_X7_at rfl rfl rfl rfl (by decide) (by decide) (Nat.le_of_ble_eq_true rfl) rfl dX7_minute_88 rfl ?_
  refine a_iastN (pc' := 92) rfl (by omega) (by decide) dX7_minute_91 rfl ?_
  refine a_al_0_5 (pc' := 93) dX7_minute_92 rfl ?_
  refine gf_7_5 (pc' := 96) fl_X7_22 dX7_minute_93 rfl ?_
  refine a_il_4_5 (pc' := 98) dX7_minute_96 rfl ?_
  refine a_iconst (v := nI 1) (pc' := 99) dX7_minute_98 (by decide) rfl ?_
  refine a_iaddN (pc' := 100) dX7_minute_99 rfl ?_
  refine a_al_0_5 (pc' := 101) dX7_minute_100 rfl ?_
  refine a_il_2_5 (pc' := 102) dX7_minute_101 rfl ?_
  refine a_il_3_5 (pc' := 103) dX7_minute_102 rfl ?_
  refine k_VI (pc' := 106) (ct_X7_told (by omega) (by omega) _) cw_X7_75 mi_X7_told se_X7_told rfl rfl rfl rfl (by decide) (by decide) (Nat.le_of_ble_eq_true rfl) rfl dX7_minute_103 rfl ?_
  refine a_iastN (pc' := 107) rfl (by omega) (by decide) dX7_minute_106 rfl ?_
  refine a_iN_3_5 (m := 1) (pc' := 110) dX7_minute_107 (nI_add _ _) rfl ?_
  refine a_goto (pc' := 44) dX7_minute_110 (by decide) ?_
  refine a_il_3_5 (pc' := 45) dX7_minute_44 rfl ?_
  refine a_iconst (v := nI 3) (pc' := 46) dX7_minute_45 (by decide) rfl ?_
  refine a_icmp_ge (pc' := 49) (tgt := 113) dX7_minute_46 (by decide) rfl (fun c_46_2 => absurd c_46_2 (by decide)) (fun c_46_2 => ?_)
  refine a_al_0_5 (pc' := 50) dX7_minute_49 rfl ?_
  refine gf_7_6 (pc' := 53) fl_X7_25 dX7_minute_50 rfl ?_
  refine a_if_eq (pc' := 56) (tgt := 113) dX7_minute_53 (by decide) rfl (fun c_53_2 => absurd c_53_2 (by simp (disch := decide) only [wr_rne, setR_ne]; rw [hr]; decide)) (fun c_53_2 => ?_)
  refine a_bipush (v := nI 18) (pc' := 58) dX7_minute_56 (by decide) rfl ?_
  refine a_al_0_5 (pc' := 59) dX7_minute_58 rfl ?_
  refine gf_7_0 (pc' := 62) fl_X7_7 dX7_minute_59 rfl ?_
  refine a_iconst (v := nI 2) (pc' := 63) dX7_minute_62 (by decide) rfl ?_
  refine a_ialdN (pc' := 64) rfl (by omega) (by decide) dX7_minute_63 rfl ?_
  simp (disch := decide) only [wr_rne, setR_same]
  rw [minF_lo _ (by decide), hg.n2]
  refine a_iconst (v := nI 1) (pc' := 65) dX7_minute_64 (by decide) rfl ?_
  refine a_isubN (pc' := 66) (by omega) dX7_minute_65 rfl ?_
  refine a_imulN (pc' := 67) dX7_minute_66 rfl ?_
  refine a_bipush (v := nI 6) (pc' := 69) dX7_minute_67 (by decide) rfl ?_
  refine a_il_2_5 (pc' := 70) dX7_minute_69 rfl ?_
  refine a_imulN (pc' := 71) dX7_minute_70 rfl ?_
  refine a_iaddN (pc' := 72) dX7_minute_71 rfl ?_
  refine a_iconst (v := nI 2) (pc' := 73) dX7_minute_72 (by decide) rfl ?_
  refine a_il_3_5 (pc' := 74) dX7_minute_73 rfl ?_
  refine a_imulN (pc' := 75) dX7_minute_74 rfl ?_
  refine a_iaddN (pc' := 76) dX7_minute_75 rfl ?_
  refine a_is_4_5 (pc' := 78) dX7_minute_76 rfl ?_
  refine a_al_0_5 (pc' := 79) dX7_minute_78 rfl ?_
  refine gf_7_5 (pc' := 82) fl_X7_22 dX7_minute_79 rfl ?_
  refine a_il_4_5 (pc' := 84) dX7_minute_82 rfl ?_
  refine a_al_0_5 (pc' := 85) dX7_minute_84 rfl ?_
  refine a_il_2_5 (pc' := 86) dX7_minute_85 rfl ?_
  refine a_il_3_5 (pc' := 87) dX7_minute_86 rfl ?_
  refine a_iconst (v := nI 0) (pc' := 88) dX7_minute_87 (by decide) rfl ?_
  refine k_VI (pc' := 91) (ct_X7_at (by omega) (by omega) (by omega) _) cw_X7_55 mi_X7_at se_X7_at rfl rfl rfl rfl (by decide) (by decide) (Nat.le_of_ble_eq_true rfl) rfl dX7_minute_88 rfl ?_
  refine a_iastN (pc' := 92) rfl (by omega) (by decide) dX7_minute_91 rfl ?_
  refine a_al_0_5 (pc' := 93) dX7_minute_92 rfl ?_
  refine gf_7_5 (pc' := 96) fl_X7_22 dX7_minute_93 rfl ?_
  refine a_il_4_5 (pc' := 98) dX7_minute_96 rfl ?_
  refine a_iconst (v := nI 1) (pc' := 99) dX7_minute_98 (by decide) rfl ?_
  refine a_iaddN (pc' := 100) dX7_minute_99 rfl ?_
  refine a_al_0_5 (pc' := 101) dX7_minute_100 rfl ?_
  refine a_il_2_5 (pc' := 102) dX7_minute_101 rfl ?_
  refine a_il_3_5 (pc' := 103) dX7_minute_102 rfl ?_
  refine k_VI (pc' := 106) (ct_X7_told (by omega) (by omega) _) cw_X7_75 mi_X7_told se_X7_told rfl rfl rfl rfl (by decide) (by decide) (Nat.le_of_ble_eq_true rfl) rfl dX7_minute_103 rfl ?_
  refine a_iastN (pc' := 107) rfl (by omega) (by decide) dX7_minute_106 rfl ?_
  refine a_iN_3_5 (m := 2) (pc' := 110) dX7_minute_107 (nI_add _ _) rfl ?_
  refine a_goto (pc' := 44) dX7_minute_110 (by decide) ?_
  refine a_il_3_5 (pc' := 45) dX7_minute_44 rfl ?_
  refine a_iconst (v := nI 3) (pc' := 46) dX7_minute_45 (by decide) rfl ?_
  refine a_icmp_ge (pc' := 49) (tgt := 113) dX7_minute_46 (by decide) rfl (fun c_46_3 => absurd c_46_3 (by decide)) (fun c_46_3 => ?_)
  refine a_al_0_5 (pc' := 50) dX7_minute_49 rfl ?_
  refine gf_7_6 (pc' := 53) fl_X7_25 dX7_minute_50 rfl ?_
  refine a_if_eq (pc' := 56) (tgt := 113) dX7_minute_53 (by decide) rfl (fun c_53_3 => absurd c_53_3 (by simp (disch := decide) only [wr_rne, setR_ne]; rw [hr]; decide)) (fun c_53_3 => ?_)
  refine a_bipush (v := nI 18) (pc' := 58) dX7_minute_56 (by decide) rfl ?_
  refine a_al_0_5 (pc' := 59) dX7_minute_58 rfl ?_
  refine gf_7_0 (pc' := 62) fl_X7_7 dX7_minute_59 rfl ?_
  refine a_iconst (v := nI 2) (pc' := 63) dX7_minute_62 (by decide) rfl ?_
  refine a_ialdN (pc' := 64) rfl (by omega) (by decide) dX7_minute_63 rfl ?_
  simp (disch := decide) only [wr_rne, setR_same]
  rw [minF_lo _ (by decide), hg.n2]
  refine a_iconst (v := nI 1) (pc' := 65) dX7_minute_64 (by decide) rfl ?_
  refine a_isubN (pc' := 66) (by omega) dX7_minute_65 rfl ?_
  refine a_imulN (pc' := 67) dX7_minute_66 rfl ?_
  refine a_bipush (v := nI 6) (pc' := 69) dX7_minute_67 (by decide) rfl ?_
  refine a_il_2_5 (pc' := 70) dX7_minute_69 rfl ?_
  refine a_imulN (pc' := 71) dX7_minute_70 rfl ?_
  refine a_iaddN (pc' := 72) dX7_minute_71 rfl ?_
  refine a_iconst (v := nI 2) (pc' := 73) dX7_minute_72 (by decide) rfl ?_
  refine a_il_3_5 (pc' := 74) dX7_minute_73 rfl ?_
  refine a_imulN (pc' := 75) dX7_minute_74 rfl ?_
  refine a_iaddN (pc' := 76) dX7_minute_75 rfl ?_
  refine a_is_4_5 (pc' := 78) dX7_minute_76 rfl ?_
  refine a_al_0_5 (pc' := 79) dX7_minute_78 rfl ?_
  refine gf_7_5 (pc' := 82) fl_X7_22 dX7_minute_79 rfl ?_
  refine a_il_4_5 (pc' := 84) dX7_minute_82 rfl ?_
  refine a_al_0_5 (pc' := 85) dX7_minute_84 rfl ?_
  refine a_il_2_5 (pc' := 86) dX7_minute_85 rfl ?_
  refine a_il_3_5 (pc' := 87) dX7_minute_86 rfl ?_
  refine a_iconst (v := nI 0) (pc' := 88) dX7_minute_87 (by decide) rfl ?_
  refine k_VI (pc' := 91) (ct_X7_at (by omega) (by omega) (by omega) _) cw_X7_55 mi_X7_at se_X7_at rfl rfl rfl rfl (by decide) (by decide) (Nat.le_of_ble_eq_true rfl) rfl dX7_minute_88 rfl ?_
  refine a_iastN (pc' := 92) rfl (by omega) (by decide) dX7_minute_91 rfl ?_
  refine a_al_0_5 (pc' := 93) dX7_minute_92 rfl ?_
  refine gf_7_5 (pc' := 96) fl_X7_22 dX7_minute_93 rfl ?_
  refine a_il_4_5 (pc' := 98) dX7_minute_96 rfl ?_
  refine a_iconst (v := nI 1) (pc' := 99) dX7_minute_98 (by decide) rfl ?_
  refine a_iaddN (pc' := 100) dX7_minute_99 rfl ?_
  refine a_al_0_5 (pc' := 101) dX7_minute_100 rfl ?_
  refine a_il_2_5 (pc' := 102) dX7_minute_101 rfl ?_
  refine a_il_3_5 (pc' := 103) dX7_minute_102 rfl ?_
  refine k_VI (pc' := 106) (ct_X7_told (by omega) (by omega) _) cw_X7_75 mi_X7_told se_X7_told rfl rfl rfl rfl (by decide) (by decide) (Nat.le_of_ble_eq_true rfl) rfl dX7_minute_103 rfl ?_
  refine a_iastN (pc' := 107) rfl (by omega) (by decide) dX7_minute_106 rfl ?_
  refine a_iN_3_5 (m := 3) (pc' := 110) dX7_minute_107 (nI_add _ _) rfl ?_
  refine a_goto (pc' := 44) dX7_minute_110 (by decide) ?_
  refine a_il_3_5 (pc' := 45) dX7_minute_44 rfl ?_
  refine a_iconst (v := nI 3) (pc' := 46) dX7_minute_45 (by decide) rfl ?_
  refine a_icmp_ge (pc' := 49) (tgt := 113) dX7_minute_46 (by decide) rfl (fun c_46_4 => ?_) (fun c_46_4 => absurd (by decide) c_46_4)
  refine a_iN_2_5 (m := v + 1) (pc' := 116) dX7_minute_113 (nI_add _ _) rfl ?_
  refine a_goto (pc' := 14) dX7_minute_116 (by decide) ?_
  exact a_castS (rfl) (by simp (disch := decide) only [lgW, lw1, wr_rne, setR_same, Nat.add_zero, Nat.reduceMul]) (kx (some (.inl (nI (3)))) (some (.inl (nI (((18 * (tt - 1)) + (6 * v)) + 4)))))
set_option maxRecDepth 20000 in
set_option maxHeartbeats 4000000 in
theorem lp_X7_minute1 {G : Gl} {Φ : Option OV → Mm → Prop} {nv np tt : Nat} (hn : nv ≤ 3) (hm : np ≤ 12) (ht1 : 1 ≤ tt) (ht : tt ≤ 600) : ∀ (n v : Nat) (M : Mm) (acc : Int32) (x3 x4 : Option OV), v + n = nv → M 50 0 = nI nv → M 50 1 = nI np → (∃ T, Good (M 50) tt T) → M 60 1 = nI 1 → (Φ (some (.inl (mVansN true tt n v M acc))) (mVans true tt n v M)) → AW G cX7_minute RX7 5 5 116 (some .int) Φ 14 [some (.inr (7, 0, 0, 0)), some (.inl acc), some (.inl (nI v)), x3, x4] [] M := by
  intro n
  induction n with
  | zero =>
    intro v M acc x3 x4 he h0 h1 hg hr hΦ
    refine a_il_2_5 (pc' := 15) dX7_minute_14 rfl ?_
    refine a_al_0_5 (pc' := 16) dX7_minute_15 rfl ?_
    refine gf_7_0 (pc' := 19) fl_X7_7 dX7_minute_16 rfl ?_
    refine a_iconst (v := nI 0) (pc' := 20) dX7_minute_19 (by decide) rfl ?_
    refine a_ialdN (pc' := 21) rfl (by omega) (by decide) dX7_minute_20 rfl ?_
    rw [h0]
    refine a_icmp_ge (pc' := 24) (tgt := 119) dX7_minute_21 (by decide) rfl (fun c_21 => ?_) (fun c_21 => absurd (nI_le (by omega) (by omega)) c_21)
    refine a_il_1_5 (pc' := 120) dX7_minute_119 rfl ?_
    refine a_iret dX7_minute_120 rfl rfl ?_
    exact hΦ
  | succ n ih =>
    intro v M acc x3 x4 he h0 h1 hg hr hΦ
    refine lb_X7_minute1 hn hm (show v < nv by omega) ht1 ht _ _ _ _ h0 h1 hg hr (fun y3 y4 => ?_)
    have hq := lgW_50 (setR M 50 (minF (M 50) v)) v tt |>.trans (setR_same _ _ _)
    refine ih (v + 1) _ _ _ _ (by omega) ?_ ?_ ?_ ?_ hΦ
    · rw [hq, minF_lo _ (by decide)]; exact h0
    · rw [hq, minF_lo _ (by decide)]; exact h1
    · obtain ⟨T, hg⟩ := hg
      exact ⟨T + 1, by rw [hq]; exact hg.kmin (by omega)⟩
    · rw [lgW_ne _ _ _ (by decide), setR_ne _ _ (by decide)]; exact hr
set_option maxRecDepth 20000 in
set_option maxHeartbeats 4000000 in
theorem ct_X7_minute1 {nv np t : Nat} (hn : nv ≤ 3) (hm : np ≤ 12) (ht : t < 600) (M : Mm) (h0 : M 50 0 = nI nv) (h1 : M 50 1 = nI np) (hg : ∃ T, Good (M 50) t T) (hr : M 60 1 = nI 1) : Ct yX7_minute cX7_minute 5 (some .int) 5 116 [.inr (7, 0, 0, 0)] M (RI (mMinN true nv t M) (mMin true nv t M)) := by
  obtain ⟨T, hg⟩ := hg
  refine Ct.at RX7 rfl (by decide +kernel) (Nat.le_of_ble_eq_true rfl) [some (.inr (7, 0, 0, 0)), none, none, none, none] rfl (fun G => ?_)
  refine a_iconst (v := nI 0) (pc' := 1) dX7_minute_0 (by decide) rfl ?_
  refine a_is_1_5 (pc' := 2) dX7_minute_1 rfl ?_
  refine a_al_0_5 (pc' := 3) dX7_minute_2 rfl ?_
  refine gf_7_0 (pc' := 6) fl_X7_7 dX7_minute_3 rfl ?_
  refine a_iconst (v := nI 2) (pc' := 7) dX7_minute_6 (by decide) rfl ?_
  refine a_dup2 (pc' := 8) dX7_minute_7 rfl ?_
  refine a_ialdN (pc' := 9) rfl (by omega) (by decide) dX7_minute_8 rfl ?_
  refine a_iconst (v := nI 1) (pc' := 10) dX7_minute_9 (by decide) rfl ?_
  refine a_iadd (pc' := 11) dX7_minute_10 rfl ?_
  rw [hg.n2, nI_add]
  refine a_iastN (pc' := 12) rfl (by omega) (by decide) dX7_minute_11 rfl ?_
  refine a_iconst (v := nI 0) (pc' := 13) dX7_minute_12 (by decide) rfl ?_
  refine a_is_2_5 (pc' := 14) dX7_minute_13 rfl ?_
  rw [wr_eq]
  refine lp_X7_minute1 hn hm (tt := t + 1) (by omega) (by omega) nv 0 _ _ _ _ (by omega) ?_ ?_ ?_ ?_ ⟨rfl, rfl⟩
  · rw [setR_same]; exact h0
  · rw [setR_same]; exact h1
  · exact ⟨T, by rw [setR_same]; exact hg.tick⟩
  · rw [setR_ne _ _ (by decide)]; exact hr
set_option maxRecDepth 20000 in
set_option maxHeartbeats 4000000 in
theorem lb_X7_minute0 {G : Gl} {Φ : Option OV → Mm → Prop} {nv np v tt : Nat} (hn : nv ≤ 3) (hm : np ≤ 12) (hv : v < nv) (ht1 : 1 ≤ tt)  (acc : Int32) (x3 x4 : Option OV) (M : Mm) (h0 : M 50 0 = nI nv) (h1 : M 50 1 = nI np) (hg : ∃ T, Good (M 50) tt T) (hr : M 60 1 = nI 0) (kx : ∀ y3 y4 : Option OV, AW G cX7_minute RX7 5 5 116 (some .int) Φ 14 [some (.inr (7, 0, 0, 0)), some (.inl (acc + minN (M 50) v)), some (.inl (nI (v + 1))), y3, y4] [] (setR M 50 (minF (M 50) v))) : AW G cX7_minute RX7 5 5 116 (some .int) Φ 14 [some (.inr (7, 0, 0, 0)), some (.inl acc), some (.inl (nI v)), x3, x4] [] M := by
  obtain ⟨T, hg⟩ := hg
  have hnp : npF (M 50) = np := by unfold npF; rw [h1]; exact nI_clamp (by omega)
  refine a_il_2_5 (pc' := 15) dX7_minute_14 rfl ?_
  refine a_al_0_5 (pc' := 16) dX7_minute_15 rfl ?_
  refine gf_7_0 (pc' := 19) fl_X7_7 dX7_minute_16 rfl ?_
  refine a_iconst (v := nI 0) (pc' := 20) dX7_minute_19 (by decide) rfl ?_
  refine a_ialdN (pc' := 21) rfl (by omega) (by decide) dX7_minute_20 rfl ?_
  rw [h0]
  refine a_icmp_ge (pc' := 24) (tgt := 119) dX7_minute_21 (by decide) rfl (fun c_21 => absurd c_21 (nI_ge (by omega) (by omega))) (fun c_21 => ?_)
  refine a_al_0_5 (pc' := 25) dX7_minute_24 rfl ?_
  refine a_il_2_5 (pc' := 26) dX7_minute_25 rfl ?_
  refine k_VV (pc' := 29) (ct_X7_heats (v := v) (by omega) _ (hg.door (by omega))) cw_X7_78 mi_X7_heats se_X7_heats rfl rfl rfl rfl (by decide) (by decide) (Nat.le_of_ble_eq_true rfl) rfl dX7_minute_26 rfl ?_
  refine a_il_1_5 (pc' := 30) dX7_minute_29 rfl ?_
  refine a_al_0_5 (pc' := 31) dX7_minute_30 rfl ?_
  refine a_il_2_5 (pc' := 32) dX7_minute_31 rfl ?_
  refine k_VI (pc' := 35) (ct_X7_reads (v := v) (by omega) _ (by rw [setR_same]; exact fun z hz => (hg.kmid (by omega)).rdg (by omega) hz) (by rw [setR_same]; exact (hg.kmid (by omega)).pat)) cw_X7_82 mi_X7_reads se_X7_reads rfl rfl rfl rfl (by decide) (by decide) (Nat.le_of_ble_eq_true rfl) rfl dX7_minute_32 rfl ?_
  refine a_iadd (pc' := 36) dX7_minute_35 rfl ?_
  refine a_is_1_5 (pc' := 37) dX7_minute_36 rfl ?_
  refine a_al_0_5 (pc' := 38) dX7_minute_37 rfl ?_
  refine a_il_2_5 (pc' := 39) dX7_minute_38 rfl ?_
  refine k_VV (pc' := 42) (ct_X7_warms (v := v) hm (by omega) _ (by rw [setR_same, setR_same, findA_lo _ _ _ (by decide), midF_lo _ (by decide)]; exact h1) (by rw [setR_same, setR_same]; exact ((hg.kmid (by omega)).kfindA (by omega)).zok) (by rw [setR_same, setR_same]; exact ((hg.kmid (by omega)).kfindA (by omega)).door (by omega))) cw_X7_85 mi_X7_warms se_X7_warms rfl rfl rfl rfl (by decide) (by decide) (Nat.le_of_ble_eq_true rfl) rfl dX7_minute_39 rfl ?_
  refine a_castS rfl (M' := setR M 50 (minF (M 50) v)) (by simp only [setR_same, setR_setR]; rw [midF_lo _ (by decide), midF_lo _ (by decide)]; unfold minF; rw [hnp]) ?_
  rw [setR_same, midF_lo _ (by decide), midF_lo _ (by decide), show fndA (midF (M 50) v) v (M 50 4) (M 50 5) = minN (M 50) v from rfl]
  refine a_iconst (v := nI 0) (pc' := 43) dX7_minute_42 (by decide) rfl ?_
  refine a_is_3_5 (pc' := 44) dX7_minute_43 rfl ?_
  refine a_il_3_5 (pc' := 45) dX7_minute_44 rfl ?_
  refine a_iconst (v := nI 3) (pc' := 46) dX7_minute_45 (by decide) rfl ?_
  refine a_icmp_ge (pc' := 49) (tgt := 113) dX7_minute_46 (by decide) rfl (fun c_46 => absurd c_46 (by decide)) (fun c_46 => ?_)
  refine a_al_0_5 (pc' := 50) dX7_minute_49 rfl ?_
  refine gf_7_6 (pc' := 53) fl_X7_25 dX7_minute_50 rfl ?_
  refine a_if_eq (pc' := 56) (tgt := 113) dX7_minute_53 (by decide) rfl (fun c_53 => ?_) (fun c_53 => absurd (by simp (disch := decide) only [wr_rne, setR_ne]; rw [hr]; decide) c_53)
  refine a_iN_2_5 (m := v + 1) (pc' := 116) dX7_minute_113 (nI_add _ _) rfl ?_
  refine a_goto (pc' := 14) dX7_minute_116 (by decide) ?_
  exact a_castS (rfl) (rfl) (kx (some (.inl (nI (0)))) _)
set_option maxRecDepth 20000 in
set_option maxHeartbeats 4000000 in
theorem lp_X7_minute0 {G : Gl} {Φ : Option OV → Mm → Prop} {nv np tt : Nat} (hn : nv ≤ 3) (hm : np ≤ 12) (ht1 : 1 ≤ tt) : ∀ (n v : Nat) (M : Mm) (acc : Int32) (x3 x4 : Option OV), v + n = nv → M 50 0 = nI nv → M 50 1 = nI np → (∃ T, Good (M 50) tt T) → M 60 1 = nI 0 → (Φ (some (.inl (mVansN false tt n v M acc))) (mVans false tt n v M)) → AW G cX7_minute RX7 5 5 116 (some .int) Φ 14 [some (.inr (7, 0, 0, 0)), some (.inl acc), some (.inl (nI v)), x3, x4] [] M := by
  intro n
  induction n with
  | zero =>
    intro v M acc x3 x4 he h0 h1 hg hr hΦ
    refine a_il_2_5 (pc' := 15) dX7_minute_14 rfl ?_
    refine a_al_0_5 (pc' := 16) dX7_minute_15 rfl ?_
    refine gf_7_0 (pc' := 19) fl_X7_7 dX7_minute_16 rfl ?_
    refine a_iconst (v := nI 0) (pc' := 20) dX7_minute_19 (by decide) rfl ?_
    refine a_ialdN (pc' := 21) rfl (by omega) (by decide) dX7_minute_20 rfl ?_
    rw [h0]
    refine a_icmp_ge (pc' := 24) (tgt := 119) dX7_minute_21 (by decide) rfl (fun c_21 => ?_) (fun c_21 => absurd (nI_le (by omega) (by omega)) c_21)
    refine a_il_1_5 (pc' := 120) dX7_minute_119 rfl ?_
    refine a_iret dX7_minute_120 rfl rfl ?_
    exact hΦ
  | succ n ih =>
    intro v M acc x3 x4 he h0 h1 hg hr hΦ
    refine lb_X7_minute0 hn hm (show v < nv by omega) ht1 _ _ _ _ h0 h1 hg hr (fun y3 y4 => ?_)
    have hq := setR_same M 50 (minF (M 50) v)
    refine ih (v + 1) _ _ _ _ (by omega) ?_ ?_ ?_ ?_ hΦ
    · rw [hq, minF_lo _ (by decide)]; exact h0
    · rw [hq, minF_lo _ (by decide)]; exact h1
    · obtain ⟨T, hg⟩ := hg
      exact ⟨T + 1, by rw [hq]; exact hg.kmin (by omega)⟩
    · rw [setR_ne _ _ (by decide)]; exact hr
set_option maxRecDepth 20000 in
set_option maxHeartbeats 4000000 in
theorem ct_X7_minute0 {nv np t : Nat} (hn : nv ≤ 3) (hm : np ≤ 12) (M : Mm) (h0 : M 50 0 = nI nv) (h1 : M 50 1 = nI np) (hg : ∃ T, Good (M 50) t T) (hr : M 60 1 = nI 0) : Ct yX7_minute cX7_minute 5 (some .int) 5 116 [.inr (7, 0, 0, 0)] M (RI (mMinN false nv t M) (mMin false nv t M)) := by
  obtain ⟨T, hg⟩ := hg
  refine Ct.at RX7 rfl (by decide +kernel) (Nat.le_of_ble_eq_true rfl) [some (.inr (7, 0, 0, 0)), none, none, none, none] rfl (fun G => ?_)
  refine a_iconst (v := nI 0) (pc' := 1) dX7_minute_0 (by decide) rfl ?_
  refine a_is_1_5 (pc' := 2) dX7_minute_1 rfl ?_
  refine a_al_0_5 (pc' := 3) dX7_minute_2 rfl ?_
  refine gf_7_0 (pc' := 6) fl_X7_7 dX7_minute_3 rfl ?_
  refine a_iconst (v := nI 2) (pc' := 7) dX7_minute_6 (by decide) rfl ?_
  refine a_dup2 (pc' := 8) dX7_minute_7 rfl ?_
  refine a_ialdN (pc' := 9) rfl (by omega) (by decide) dX7_minute_8 rfl ?_
  refine a_iconst (v := nI 1) (pc' := 10) dX7_minute_9 (by decide) rfl ?_
  refine a_iadd (pc' := 11) dX7_minute_10 rfl ?_
  rw [hg.n2, nI_add]
  refine a_iastN (pc' := 12) rfl (by omega) (by decide) dX7_minute_11 rfl ?_
  refine a_iconst (v := nI 0) (pc' := 13) dX7_minute_12 (by decide) rfl ?_
  refine a_is_2_5 (pc' := 14) dX7_minute_13 rfl ?_
  rw [wr_eq]
  refine lp_X7_minute0 hn hm (tt := t + 1) (by omega) nv 0 _ _ _ _ (by omega) ?_ ?_ ?_ ?_ ⟨rfl, rfl⟩
  · rw [setR_same]; exact h0
  · rw [setR_same]; exact h1
  · exact ⟨T, by rw [setR_same]; exact hg.tick⟩
  · rw [setR_ne _ _ (by decide)]; exact hr
set_option maxRecDepth 20000 in
set_option maxHeartbeats 4000000 in
theorem lp_X7_passes {G : Gl} {Φ : Option OV → Mm → Prop} {nv np m : Nat} (hn : nv ≤ 3) (hm : np ≤ 12) (hm3 : m ≤ 300) : ∀ (n p : Nat) (t : Nat) (M : Mm) (acc : Int32), p + n = m → (M 50 0 = nI nv) → (M 50 1 = nI np) → (∃ T, Good (M 50) t T) → (M 60 1 = nI 1) → (t + n ≤ 600) → (Φ (some (.inl (mPassN nv n t M acc))) (mPass nv n t M)) → AW G cX7_passes RX7 4 6 140 (some .int) Φ 35 [some (.inr (7, 0, 0, 0)), some (.inl (nI m)), some (.inl acc), some (.inl (nI p))] [] M := by
  intro n
  induction n with
  | zero =>
    intro p t M acc he h0 h1 hg hr ht hΦ
    refine a_il_3_4 (pc' := 36) dX7_passes_35 rfl ?_
    refine a_il_1_4 (pc' := 37) dX7_passes_36 rfl ?_
    refine a_icmp_ge (pc' := 40) (tgt := 53) dX7_passes_37 (by decide) rfl (fun c_37 => ?_) (fun c_37 => absurd (nI_le (by omega) (by omega)) c_37)
    refine a_il_2_4 (pc' := 54) dX7_passes_53 rfl ?_
    refine a_iret dX7_passes_54 rfl rfl ?_
    exact hΦ
  | succ n ih =>
    intro p t M acc he h0 h1 hg hr ht hΦ
    refine a_il_3_4 (pc' := 36) dX7_passes_35 rfl ?_
    refine a_il_1_4 (pc' := 37) dX7_passes_36 rfl ?_
    refine a_icmp_ge (pc' := 40) (tgt := 53) dX7_passes_37 (by decide) rfl (fun c_37 => absurd c_37 (nI_ge (by omega) (by omega))) (fun c_37 => ?_)
    refine a_il_2_4 (pc' := 41) dX7_passes_40 rfl ?_
    refine a_al_0_4 (pc' := 42) dX7_passes_41 rfl ?_
    refine k_VI (pc' := 45) (ct_X7_minute1 hn hm (t := t) (by omega) _ h0 h1 hg hr) cw_X7_101 mi_X7_minute se_X7_minute rfl rfl rfl rfl (by decide) (by decide) (Nat.le_of_ble_eq_true rfl) rfl dX7_passes_42 rfl ?_
    refine a_iadd (pc' := 46) dX7_passes_45 rfl ?_
    refine a_is_2_4 (pc' := 47) dX7_passes_46 rfl ?_
    refine a_iN_3_4 (m := p + 1) (pc' := 50) dX7_passes_47 (nI_add _ _) rfl ?_
    refine a_goto (pc' := 35) dX7_passes_50 (by decide) ?_
    obtain ⟨k0, k1, k2, k3⟩ := mMin_ok (r := true) hn h0 h1 hg hr
    exact ih (p + 1) (t + 1) _ _ (by omega) k0 k1 k2 k3 (by omega) hΦ
set_option maxRecDepth 20000 in
set_option maxHeartbeats 4000000 in
theorem ct_X7_passes {nv np t : Nat} (hn : nv ≤ 3) (hm : np ≤ 12) (ht : t ≤ 600) (x : Int32) (M : Mm) (h0 : M 50 0 = nI nv) (h1 : M 50 1 = nI np) (hg : ∃ T, Good (M 50) t T) (hr : M 60 1 = nI 1) : Ct yX7_passes cX7_passes 4 (some .int) 6 140 [.inr (7, 0, 0, 0), .inl x] M (RI (mpsR M x) (mpsM M x)) := by
  have h2 : M 50 2 = nI t := by obtain ⟨T, hg⟩ := hg; exact hg.n2
  have hct : vN (nI t) = t := vN_nI (by omega)
  have hnv : nvF (M 50) = nv := by unfold nvF; rw [h0]; exact nI_clamp (by omega)
  refine Ct.at RX7 rfl (by decide +kernel) (Nat.le_of_ble_eq_true rfl) [some (.inr (7, 0, 0, 0)), some (.inl x), none, none] rfl (fun G => ?_)
  refine a_il_1_4 (pc' := 1) dX7_passes_0 rfl ?_
  refine a_iconst (v := nI 1) (pc' := 2) dX7_passes_1 (by decide) rfl ?_
  refine a_sipush (v := nI 300) (pc' := 5) dX7_passes_2 (by decide) rfl ?_
  refine k_SI (pc' := 8) (ct_X7_in _ _ _ _) cw_X7_43 ms_X7_in rfl (by decide) (by decide) (Nat.le_of_ble_eq_true rfl) rfl dX7_passes_5 rfl ?_
  refine a_ifB_ne (pc' := 11) (tgt := 14) dX7_passes_8 (by decide) rfl (fun c_8 => ?_) (fun c_8 => ?_)
  · obtain ⟨m, hm1, hm3, rfl⟩ := inn_nI (a := 1) (b := 300) c_8 (by decide)
    have hcm : vN (nI m) = m := vN_nI (by omega)
    refine a_al_0_4 (pc' := 15) dX7_passes_14 rfl ?_
    refine gf_7_0 (pc' := 18) fl_X7_7 dX7_passes_15 rfl ?_
    refine a_iconst (v := nI 2) (pc' := 19) dX7_passes_18 (by decide) rfl ?_
    refine a_ialdN (pc' := 20) rfl (by omega) (by decide) dX7_passes_19 rfl ?_
    rw [h2]
    refine a_il_1_4 (pc' := 21) dX7_passes_20 rfl ?_
    refine a_iaddN (pc' := 22) dX7_passes_21 rfl ?_
    refine a_sipush (v := nI 600) (pc' := 25) dX7_passes_22 (by decide) rfl ?_
    refine a_icmp_le (pc' := 28) (tgt := 31) dX7_passes_25 (by decide) rfl (fun c_25 => ?_) (fun c_25 => ?_)
    · refine a_iconst (v := nI 0) (pc' := 32) dX7_passes_31 (by decide) rfl ?_
      refine a_is_2_4 (pc' := 33) dX7_passes_32 rfl ?_
      refine a_iconst (v := nI 0) (pc' := 34) dX7_passes_33 (by decide) rfl ?_
      refine a_is_3_4 (pc' := 35) dX7_passes_34 rfl ?_
      have hsum : t + m ≤ 600 := (nI_leI (by omega) (by omega)).mp c_25
      refine lp_X7_passes hn hm hm3 m 0 t _ _ (by omega) h0 h1 hg hr hsum ⟨?_, ?_⟩
      · simp [mpsR, c_8, psB, hcm, hct, hnv, h2, nI_add, c_25]
      · simp [mpsM, c_8, psB, hcm, hct, hnv, h2, nI_add, c_25]
    · refine a_ldc (pc' := 30) dX7_passes_28 cn_X7_100 rfl ?_
      refine a_iret dX7_passes_30 rfl rfl ?_
      exact fIM (by simp [mpsR, psB, h2, nI_add, c_8, c_25, -Int32.not_le, -Int32.not_lt]) (by simp [mpsM, psB, h2, nI_add, c_8, c_25, -Int32.not_le, -Int32.not_lt])
  · refine a_ldc (pc' := 13) dX7_passes_11 cn_X7_92 rfl ?_
    refine a_iret dX7_passes_13 rfl rfl ?_
    exact fIM (by simp [mpsR, psB, h2, nI_add, c_8, -Int32.not_le, -Int32.not_lt]) (by simp [mpsM, psB, h2, nI_add, c_8, -Int32.not_le, -Int32.not_lt])
