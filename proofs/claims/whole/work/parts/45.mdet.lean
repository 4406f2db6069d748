def mayL (F : Nat → Int32) (s : Int32) : Nat → Nat → Bool → Bool
  | 0, _, b => b
  | n + 1, p, b => mayL F s n (p + 1) (b && (!bitB s (nI p) || decide (F (63 + 10 * p + 5) = nI 2)))
/-- one pallet's part -/
def ds1 (s c D : Int32) (b : Bool) (F : Nat → Int32) (p : Nat) : Nat → Int32 := upd (upd F (63 + 10 * p + 9) (c * (if b then nI 1 else F (63 + 10 * p + 4)) / D)) (63 + 10 * p + 5) (nI 3)
def dsF (s c D : Int32) (b : Bool) : Nat → Nat → (Nat → Int32) → (Nat → Int32)
  | 0, _, F => F
  | n + 1, p, F => if bitB s (nI p) then dsF s c D b n (p + 1) (ds1 s c D b F p) else dsF s c D b n (p + 1) F
def dsN (s c D : Int32) (b : Bool) : Nat → Nat → (Nat → Int32) → Int32 → Int32
  | 0, _, _, l => l
  | n + 1, p, F, l => if bitB s (nI p) then dsN s c D b n (p + 1) (ds1 s c D b F p) (l - c * (if b then nI 1 else F (63 + 10 * p + 4)) / D) else dsN s c D b n (p + 1) F l
/-- one more for one pallet -/
def dg1 (F : Nat → Int32) (p : Nat) (l : Int32) : Nat → Int32 := upd F (63 + 10 * p + 9) (if l ≤ 0 then F (63 + 10 * p + 9) else F (63 + 10 * p + 9) + nI 1)
def dgF (s : Int32) : Nat → Nat → (Nat → Int32) → Int32 → (Nat → Int32)
  | 0, _, F, _ => F
  | n + 1, p, F, l => if bitB s (nI p) then dgF s n (p + 1) (dg1 F p l) (l + (-1)) else dgF s n (p + 1) F l
def dgN (s : Int32) : Nat → Nat → (Nat → Int32) → Int32 → Int32 → Int32
  | 0, _, _, _, m => m
  | n + 1, p, F, l, m => if bitB s (nI p) then dgN s n (p + 1) (dg1 F p l) (l + (-1)) (mxS m (dg1 F p l (63 + 10 * p + 9))) else dgN s n (p + 1) F l m
set_option maxRecDepth 20000 in
set_option maxHeartbeats 4000000 in
theorem lp_X7_detour1 {G : Gl} {Φ : Option OV → Mm → Prop} {np : Nat} (hm : np ≤ 12) (s c : Int32) (x7 x8 : Option OV) (M : Mm) (h1 : M 50 1 = nI np) : ∀ (n p : Nat) (acc : Int32) (b : Bool) (x6 : Option OV), p + n = np → (∀ x6 : Option OV, AW G cX7_detour RX7 9 2 42 (some .int) Φ 119 [some (.inr (7, 0, 0, 0)), some (.inl s), some (.inl c), some (.inl (valL (M 50) s n p acc)), some (.inl (bI (mayL (M 50) s n p b))), some (.inl (nI np)), x6, x7, x8] [] M) → AW G cX7_detour RX7 9 2 42 (some .int) Φ 38 [some (.inr (7, 0, 0, 0)), some (.inl s), some (.inl c), some (.inl acc), some (.inl (bI b)), some (.inl (nI p)), x6, x7, x8] [] M := by
  intro n
  induction n with
  | zero =>
    intro p acc b x6 he  hΦ
    refine a_il_5_9 (pc' := 40) dX7_detour_38 rfl ?_
    refine a_al_0_9 (pc' := 41) dX7_detour_40 rfl ?_
    refine gf_7_0 (pc' := 44) fl_X7_7 dX7_detour_41 rfl ?_
    refine a_iconst (v := nI 1) (pc' := 45) dX7_detour_44 (by decide) rfl ?_
    refine a_ialdN (pc' := 46) rfl (by omega) (by decide) dX7_detour_45 rfl ?_
    rw [h1]
    refine a_icmp_ge (pc' := 49) (tgt := 119) dX7_detour_46 (by decide) rfl (fun c_46 => ?_) (fun c_46 => absurd (nI_le (by omega) (by omega)) c_46)
    obtain rfl : p = np := by omega
    exact hΦ _
  | succ n ih =>
    intro p acc b x6 he  hΦ
    refine a_il_5_9 (pc' := 40) dX7_detour_38 rfl ?_
    refine a_al_0_9 (pc' := 41) dX7_detour_40 rfl ?_
    refine gf_7_0 (pc' := 44) fl_X7_7 dX7_detour_41 rfl ?_
    refine a_iconst (v := nI 1) (pc' := 45) dX7_detour_44 (by decide) rfl ?_
    refine a_ialdN (pc' := 46) rfl (by omega) (by decide) dX7_detour_45 rfl ?_
    rw [h1]
    refine a_icmp_ge (pc' := 49) (tgt := 119) dX7_detour_46 (by decide) rfl (fun c_46 => absurd c_46 (nI_ge (by omega) (by omega))) (fun c_46 => ?_)
    refine a_il_1_9 (pc' := 50) dX7_detour_49 rfl ?_
    refine a_il_5_9 (pc' := 52) dX7_detour_50 rfl ?_
    refine a_ishr (pc' := 53) dX7_detour_52 rfl ?_
    refine a_iconst (v := nI 1) (pc' := 54) dX7_detour_53 (by decide) rfl ?_
    refine a_iand (pc' := 55) dX7_detour_54 rfl ?_
    refine a_iconst (v := nI 1) (pc' := 56) dX7_detour_55 (by decide) rfl ?_
    refine a_icmp_ne (pc' := 59) (tgt := 63) dX7_detour_56 (by decide) rfl (fun c_56 => ?_) (fun c_56 => ?_)
    · refine a_iconst (v := nI 0) (pc' := 64) dX7_detour_63 (by decide) rfl ?_
      refine a_is_6_9 (pc' := 66) dX7_detour_64 rfl ?_
      refine a_il_4_9 (pc' := 68) dX7_detour_66 rfl ?_
      refine a_ifB_eq (pc' := 71) (tgt := 91) dX7_detour_68 (by decide) rfl (fun c_68 => ?_) (fun c_68 => ?_)
      · refine a_iconst (v := nI 0) (pc' := 92) dX7_detour_91 (by decide) rfl ?_
        refine a_is_4_9 (pc' := 94) dX7_detour_92 rfl ?_
        refine a_il_3_9 (pc' := 95) dX7_detour_94 rfl ?_
        refine a_il_6_9 (pc' := 97) dX7_detour_95 rfl ?_
        refine a_if_eq (pc' := 100) (tgt := 110) dX7_detour_97 (by decide) rfl (fun c_97 => ?_) (fun c_97 => absurd (by decide) c_97)
        refine a_iconst (v := nI 0) (pc' := 111) dX7_detour_110 (by decide) rfl ?_
        refine a_iadd (pc' := 112) dX7_detour_111 rfl ?_
        refine a_is_3_9 (pc' := 113) dX7_detour_112 rfl ?_
        refine a_iN_5_9 (m := p + 1) (pc' := 116) dX7_detour_113 (nI_add _ _) rfl ?_
        refine a_goto (pc' := 38) dX7_detour_116 (by decide) ?_
        try simp only [Nat.add_zero] at c_56 c_68
        refine ih (p + 1) _ false _ (by omega) ?_
        simpa [valL, mayL, bitB, nI_0, Int32.add_zero, c_56, c_68] using hΦ
      · refine a_il_6_9 (pc' := 73) dX7_detour_71 rfl ?_
        refine a_if_eq (pc' := 76) (tgt := 87) dX7_detour_73 (by decide) rfl (fun c_73 => ?_) (fun c_73 => absurd (by decide) c_73)
        refine a_iconst (v := nI 1) (pc' := 88) dX7_detour_87 (by decide) rfl ?_
        refine a_goto (pc' := 92) dX7_detour_88 (by decide) ?_
        refine a_is_4_9 (pc' := 94) dX7_detour_92 rfl ?_
        refine a_il_3_9 (pc' := 95) dX7_detour_94 rfl ?_
        refine a_il_6_9 (pc' := 97) dX7_detour_95 rfl ?_
        refine a_if_eq (pc' := 100) (tgt := 110) dX7_detour_97 (by decide) rfl (fun c_97_2 => ?_) (fun c_97_2 => absurd (by decide) c_97_2)
        refine a_iconst (v := nI 0) (pc' := 111) dX7_detour_110 (by decide) rfl ?_
        refine a_iadd (pc' := 112) dX7_detour_111 rfl ?_
        refine a_is_3_9 (pc' := 113) dX7_detour_112 rfl ?_
        refine a_iN_5_9 (m := p + 1) (pc' := 116) dX7_detour_113 (nI_add _ _) rfl ?_
        refine a_goto (pc' := 38) dX7_detour_116 (by decide) ?_
        try simp only [Nat.add_zero] at c_56 c_68
        refine ih (p + 1) _ true _ (by omega) ?_
        simpa [valL, mayL, bitB, nI_0, Int32.add_zero, c_56, c_68] using hΦ
    · refine a_iconst (v := nI 1) (pc' := 60) dX7_detour_59 (by decide) rfl ?_
      refine a_goto (pc' := 64) dX7_detour_60 (by decide) ?_
      refine a_is_6_9 (pc' := 66) dX7_detour_64 rfl ?_
      refine a_il_4_9 (pc' := 68) dX7_detour_66 rfl ?_
      refine a_ifB_eq (pc' := 71) (tgt := 91) dX7_detour_68 (by decide) rfl (fun c_68_2 => ?_) (fun c_68_2 => ?_)
      · refine a_iconst (v := nI 0) (pc' := 92) dX7_detour_91 (by decide) rfl ?_
        refine a_is_4_9 (pc' := 94) dX7_detour_92 rfl ?_
        refine a_il_3_9 (pc' := 95) dX7_detour_94 rfl ?_
        refine a_il_6_9 (pc' := 97) dX7_detour_95 rfl ?_
        refine a_if_eq (pc' := 100) (tgt := 110) dX7_detour_97 (by decide) rfl (fun c_97_3 => absurd c_97_3 (by decide)) (fun c_97_3 => ?_)
        refine a_al_0_9 (pc' := 101) dX7_detour_100 rfl ?_
        refine a_il_5_9 (pc' := 103) dX7_detour_101 rfl ?_
        refine a_iconst (v := nI 4) (pc' := 104) dX7_detour_103 (by decide) rfl ?_
        refine k_VI (pc' := 107) (ct_X7_its (w := 4) (by omega) (by omega) _) cw_X7_72 mi_X7_its se_X7_its rfl rfl rfl rfl (by decide) (by decide) (Nat.le_of_ble_eq_true rfl) rfl dX7_detour_104 rfl ?_
        refine a_goto (pc' := 111) dX7_detour_107 (by decide) ?_
        refine a_iadd (pc' := 112) dX7_detour_111 rfl ?_
        refine a_is_3_9 (pc' := 113) dX7_detour_112 rfl ?_
        refine a_iN_5_9 (m := p + 1) (pc' := 116) dX7_detour_113 (nI_add _ _) rfl ?_
        refine a_goto (pc' := 38) dX7_detour_116 (by decide) ?_
        try simp only [Nat.add_zero] at c_56 c_68_2
        refine ih (p + 1) _ false _ (by omega) ?_
        simpa [valL, mayL, bitB, nI_0, Int32.add_zero, c_56, c_68_2] using hΦ
      · refine a_il_6_9 (pc' := 73) dX7_detour_71 rfl ?_
        refine a_if_eq (pc' := 76) (tgt := 87) dX7_detour_73 (by decide) rfl (fun c_73_2 => absurd c_73_2 (by decide)) (fun c_73_2 => ?_)
        refine a_al_0_9 (pc' := 77) dX7_detour_76 rfl ?_
        refine a_il_5_9 (pc' := 79) dX7_detour_77 rfl ?_
        refine a_iconst (v := nI 5) (pc' := 80) dX7_detour_79 (by decide) rfl ?_
        refine k_VI (pc' := 83) (ct_X7_its (w := 5) (by omega) (by omega) _) cw_X7_72 mi_X7_its se_X7_its rfl rfl rfl rfl (by decide) (by decide) (Nat.le_of_ble_eq_true rfl) rfl dX7_detour_80 rfl ?_
        refine a_iconst (v := nI 2) (pc' := 84) dX7_detour_83 (by decide) rfl ?_
        refine a_icmp_ne (pc' := 87) (tgt := 91) dX7_detour_84 (by decide) rfl (fun c_84 => ?_) (fun c_84 => ?_)
        · refine a_iconst (v := nI 0) (pc' := 92) dX7_detour_91 (by decide) rfl ?_
          refine a_is_4_9 (pc' := 94) dX7_detour_92 rfl ?_
          refine a_il_3_9 (pc' := 95) dX7_detour_94 rfl ?_
          refine a_il_6_9 (pc' := 97) dX7_detour_95 rfl ?_
          refine a_if_eq (pc' := 100) (tgt := 110) dX7_detour_97 (by decide) rfl (fun c_97_4 => absurd c_97_4 (by decide)) (fun c_97_4 => ?_)
          refine a_al_0_9 (pc' := 101) dX7_detour_100 rfl ?_
          refine a_il_5_9 (pc' := 103) dX7_detour_101 rfl ?_
          refine a_iconst (v := nI 4) (pc' := 104) dX7_detour_103 (by decide) rfl ?_
          refine k_VI (pc' := 107) (ct_X7_its (w := 4) (by omega) (by omega) _) cw_X7_72 mi_X7_its se_X7_its rfl rfl rfl rfl (by decide) (by decide) (Nat.le_of_ble_eq_true rfl) rfl dX7_detour_104 rfl ?_
          refine a_goto (pc' := 111) dX7_detour_107 (by decide) ?_
          refine a_iadd (pc' := 112) dX7_detour_111 rfl ?_
          refine a_is_3_9 (pc' := 113) dX7_detour_112 rfl ?_
          refine a_iN_5_9 (m := p + 1) (pc' := 116) dX7_detour_113 (nI_add _ _) rfl ?_
          refine a_goto (pc' := 38) dX7_detour_116 (by decide) ?_
          try simp only [Nat.add_zero] at c_56 c_68_2 c_84
          refine ih (p + 1) _ false _ (by omega) ?_
          simpa [valL, mayL, bitB, nI_0, Int32.add_zero, c_56, c_68_2, c_84] using hΦ
        · refine a_iconst (v := nI 1) (pc' := 88) dX7_detour_87 (by decide) rfl ?_
          refine a_goto (pc' := 92) dX7_detour_88 (by decide) ?_
          refine a_is_4_9 (pc' := 94) dX7_detour_92 rfl ?_
          refine a_il_3_9 (pc' := 95) dX7_detour_94 rfl ?_
          refine a_il_6_9 (pc' := 97) dX7_detour_95 rfl ?_
          refine a_if_eq (pc' := 100) (tgt := 110) dX7_detour_97 (by decide) rfl (fun c_97_5 => absurd c_97_5 (by decide)) (fun c_97_5 => ?_)
          refine a_al_0_9 (pc' := 101) dX7_detour_100 rfl ?_
          refine a_il_5_9 (pc' := 103) dX7_detour_101 rfl ?_
          refine a_iconst (v := nI 4) (pc' := 104) dX7_detour_103 (by decide) rfl ?_
          refine k_VI (pc' := 107) (ct_X7_its (w := 4) (by omega) (by omega) _) cw_X7_72 mi_X7_its se_X7_its rfl rfl rfl rfl (by decide) (by decide) (Nat.le_of_ble_eq_true rfl) rfl dX7_detour_104 rfl ?_
          refine a_goto (pc' := 111) dX7_detour_107 (by decide) ?_
          refine a_iadd (pc' := 112) dX7_detour_111 rfl ?_
          refine a_is_3_9 (pc' := 113) dX7_detour_112 rfl ?_
          refine a_iN_5_9 (m := p + 1) (pc' := 116) dX7_detour_113 (nI_add _ _) rfl ?_
          refine a_goto (pc' := 38) dX7_detour_116 (by decide) ?_
          try simp only [Nat.add_zero] at c_56 c_68_2 c_84
          refine ih (p + 1) _ true _ (by omega) ?_
          simpa [valL, mayL, bitB, nI_0, Int32.add_zero, c_56, c_68_2, c_84] using hΦ
set_option maxRecDepth 20000 in
set_option maxHeartbeats 4000000 in
theorem lp_X7_detour2 {G : Gl} {Φ : Option OV → Mm → Prop} {np : Nat} (hm : np ≤ 12) (s c D : Int32) (hD : ¬ D = 0) (b : Bool) (x4 : Option OV) : ∀ (n p : Nat) (M : Mm) (lf : Int32) (x8 : Option OV), p + n = np → (M 50 1 = nI np) → (∀ x8 : Option OV, AW G cX7_detour RX7 9 2 42 (some .int) Φ 246 [some (.inr (7, 0, 0, 0)), some (.inl s), some (.inl c), some (.inl D), x4, some (.inl (bI b)), some (.inl (dsN s c D b n p (M 50) lf)), some (.inl (nI np)), x8] [] (setR M 50 (dsF s c D b n p (M 50)))) → AW G cX7_detour RX7 9 2 42 (some .int) Φ 162 [some (.inr (7, 0, 0, 0)), some (.inl s), some (.inl c), some (.inl D), x4, some (.inl (bI b)), some (.inl lf), some (.inl (nI p)), x8] [] M := by
  intro n
  induction n with
  | zero =>
    intro p M lf x8 he h1 hΦ
    refine a_il_7_9 (pc' := 164) dX7_detour_162 rfl ?_
    refine a_al_0_9 (pc' := 165) dX7_detour_164 rfl ?_
    refine gf_7_0 (pc' := 168) fl_X7_7 dX7_detour_165 rfl ?_
    refine a_iconst (v := nI 1) (pc' := 169) dX7_detour_168 (by decide) rfl ?_
    refine a_ialdN (pc' := 170) rfl (by omega) (by decide) dX7_detour_169 rfl ?_
    rw [h1]
    refine a_icmp_ge (pc' := 173) (tgt := 246) dX7_detour_170 (by decide) rfl (fun c_170 => ?_) (fun c_170 => absurd (nI_le (by omega) (by omega)) c_170)
    obtain rfl : p = np := by omega
    rw [show setR M 50 (dsF s c D b 0 p (M 50)) = M from setR_self M 50] at hΦ
    exact hΦ _
  | succ n ih =>
    intro p M lf x8 he h1 hΦ
    refine a_il_7_9 (pc' := 164) dX7_detour_162 rfl ?_
    refine a_al_0_9 (pc' := 165) dX7_detour_164 rfl ?_
    refine gf_7_0 (pc' := 168) fl_X7_7 dX7_detour_165 rfl ?_
    refine a_iconst (v := nI 1) (pc' := 169) dX7_detour_168 (by decide) rfl ?_
    refine a_ialdN (pc' := 170) rfl (by omega) (by decide) dX7_detour_169 rfl ?_
    rw [h1]
    refine a_icmp_ge (pc' := 173) (tgt := 246) dX7_detour_170 (by decide) rfl (fun c_170 => absurd c_170 (nI_ge (by omega) (by omega))) (fun c_170 => ?_)
    refine a_il_1_9 (pc' := 174) dX7_detour_173 rfl ?_
    refine a_il_7_9 (pc' := 176) dX7_detour_174 rfl ?_
    refine a_ishr (pc' := 177) dX7_detour_176 rfl ?_
    refine a_iconst (v := nI 1) (pc' := 178) dX7_detour_177 (by decide) rfl ?_
    refine a_iand (pc' := 179) dX7_detour_178 rfl ?_
    refine a_iconst (v := nI 1) (pc' := 180) dX7_detour_179 (by decide) rfl ?_
    refine a_icmp_ne (pc' := 183) (tgt := 240) dX7_detour_180 (by decide) rfl (fun c_180 => ?_) (fun c_180 => ?_)
    · refine a_iN_7_9 (m := p + 1) (pc' := 243) dX7_detour_240 (nI_add _ _) rfl ?_
      refine a_goto (pc' := 162) dX7_detour_243 (by decide) ?_
      refine ih (p + 1) _ _ _ (by omega) h1 ?_
      simpa [dsF, dsN, bitB, c_180] using hΦ
    · refine a_il_2_9 (pc' := 184) dX7_detour_183 rfl ?_
      refine a_il_5_9 (pc' := 186) dX7_detour_184 rfl ?_
      refine a_ifB_eq (pc' := 189) (tgt := 193) dX7_detour_186 (by decide) rfl (fun c_186 => ?_) (fun c_186 => ?_)
      · refine a_al_0_9 (pc' := 194) dX7_detour_193 rfl ?_
        refine a_il_7_9 (pc' := 196) dX7_detour_194 rfl ?_
        refine a_iconst (v := nI 4) (pc' := 197) dX7_detour_196 (by decide) rfl ?_
        refine k_VI (pc' := 200) (ct_X7_its (w := 4) (by omega) (by omega) _) cw_X7_72 mi_X7_its se_X7_its rfl rfl rfl rfl (by decide) (by decide) (Nat.le_of_ble_eq_true rfl) rfl dX7_detour_197 rfl ?_
        refine a_imul (pc' := 201) dX7_detour_200 rfl ?_
        refine a_il_3_9 (pc' := 202) dX7_detour_201 rfl ?_
        refine a_idiv (pc' := 203) dX7_detour_202 hD rfl ?_
        refine a_is_8_9 (pc' := 205) dX7_detour_203 rfl ?_
        refine a_al_0_9 (pc' := 206) dX7_detour_205 rfl ?_
        refine gf_7_0 (pc' := 209) fl_X7_7 dX7_detour_206 rfl ?_
        refine a_il_7_9 (pc' := 211) dX7_detour_209 rfl ?_
        refine k_SI (pc' := 214) (ct_X7_palletSpot _) cw_X7_51 ms_X7_palletSpot rfl (by decide) (by decide) (Nat.le_of_ble_eq_true rfl) rfl dX7_detour_211 rfl ?_
        refine a_bipush (v := nI 9) (pc' := 216) dX7_detour_214 (by decide) rfl ?_
        refine a_iaddN (pc' := 217) dX7_detour_216 rfl ?_
        refine a_il_8_9 (pc' := 219) dX7_detour_217 rfl ?_
        refine a_iastN (pc' := 220) rfl (by omega) (by decide) dX7_detour_219 rfl ?_
        refine a_al_0_9 (pc' := 221) dX7_detour_220 rfl ?_
        refine gf_7_0 (pc' := 224) fl_X7_7 dX7_detour_221 rfl ?_
        refine a_il_7_9 (pc' := 226) dX7_detour_224 rfl ?_
        refine k_SI (pc' := 229) (ct_X7_palletSpot _) cw_X7_51 ms_X7_palletSpot rfl (by decide) (by decide) (Nat.le_of_ble_eq_true rfl) rfl dX7_detour_226 rfl ?_
        refine a_iconst (v := nI 5) (pc' := 230) dX7_detour_229 (by decide) rfl ?_
        refine a_iaddN (pc' := 231) dX7_detour_230 rfl ?_
        refine a_iconst (v := nI 3) (pc' := 232) dX7_detour_231 (by decide) rfl ?_
        refine a_iastN (pc' := 233) rfl (by omega) (by decide) dX7_detour_232 rfl ?_
        refine a_il_6_9 (pc' := 235) dX7_detour_233 rfl ?_
        refine a_il_8_9 (pc' := 237) dX7_detour_235 rfl ?_
        refine a_isub (pc' := 238) dX7_detour_237 rfl ?_
        refine a_is_6_9 (pc' := 240) dX7_detour_238 rfl ?_
        refine a_iN_7_9 (m := p + 1) (pc' := 243) dX7_detour_240 (nI_add _ _) rfl ?_
        refine a_goto (pc' := 162) dX7_detour_243 (by decide) ?_
        refine a_castS rfl (M' := setR M 50 (ds1 s c D b (M 50) p)) (by simp [wr_eq, setR_same, setR_setR, ds1, c_186]) ?_
        refine ih (p + 1) _ _ _ (by omega) (by rw [setR_same]; unfold ds1; rw [upd_at, if_neg (by omega), upd_at, if_neg (by omega)]; exact h1) ?_
        rw [setR_same, setR_setR]
        simpa [dsF, dsN, bitB, c_180, c_186] using hΦ
      · refine a_iconst (v := nI 1) (pc' := 190) dX7_detour_189 (by decide) rfl ?_
        refine a_goto (pc' := 200) dX7_detour_190 (by decide) ?_
        refine a_imul (pc' := 201) dX7_detour_200 rfl ?_
        refine a_il_3_9 (pc' := 202) dX7_detour_201 rfl ?_
        refine a_idiv (pc' := 203) dX7_detour_202 hD rfl ?_
        refine a_is_8_9 (pc' := 205) dX7_detour_203 rfl ?_
        refine a_al_0_9 (pc' := 206) dX7_detour_205 rfl ?_
        refine gf_7_0 (pc' := 209) fl_X7_7 dX7_detour_206 rfl ?_
        refine a_il_7_9 (pc' := 211) dX7_detour_209 rfl ?_
        refine k_SI (pc' := 214) (ct_X7_palletSpot _) cw_X7_51 ms_X7_palletSpot rfl (by decide) (by decide) (Nat.le_of_ble_eq_true rfl) rfl dX7_detour_211 rfl ?_
        refine a_bipush (v := nI 9) (pc' := 216) dX7_detour_214 (by decide) rfl ?_
        refine a_iaddN (pc' := 217) dX7_detour_216 rfl ?_
        refine a_il_8_9 (pc' := 219) dX7_detour_217 rfl ?_
        refine a_iastN (pc' := 220) rfl (by omega) (by decide) dX7_detour_219 rfl ?_
        refine a_al_0_9 (pc' := 221) dX7_detour_220 rfl ?_
        refine gf_7_0 (pc' := 224) fl_X7_7 dX7_detour_221 rfl ?_
        refine a_il_7_9 (pc' := 226) dX7_detour_224 rfl ?_
        refine k_SI (pc' := 229) (ct_X7_palletSpot _) cw_X7_51 ms_X7_palletSpot rfl (by decide) (by decide) (Nat.le_of_ble_eq_true rfl) rfl dX7_detour_226 rfl ?_
        refine a_iconst (v := nI 5) (pc' := 230) dX7_detour_229 (by decide) rfl ?_
        refine a_iaddN (pc' := 231) dX7_detour_230 rfl ?_
        refine a_iconst (v := nI 3) (pc' := 232) dX7_detour_231 (by decide) rfl ?_
        refine a_iastN (pc' := 233) rfl (by omega) (by decide) dX7_detour_232 rfl ?_
        refine a_il_6_9 (pc' := 235) dX7_detour_233 rfl ?_
        refine a_il_8_9 (pc' := 237) dX7_detour_235 rfl ?_
        refine a_isub (pc' := 238) dX7_detour_237 rfl ?_
        refine a_is_6_9 (pc' := 240) dX7_detour_238 rfl ?_
        refine a_iN_7_9 (m := p + 1) (pc' := 243) dX7_detour_240 (nI_add _ _) rfl ?_
        refine a_goto (pc' := 162) dX7_detour_243 (by decide) ?_
        refine a_castS rfl (M' := setR M 50 (ds1 s c D b (M 50) p)) (by simp [wr_eq, setR_same, setR_setR, ds1, c_186]) ?_
        refine ih (p + 1) _ _ _ (by omega) (by rw [setR_same]; unfold ds1; rw [upd_at, if_neg (by omega), upd_at, if_neg (by omega)]; exact h1) ?_
        rw [setR_same, setR_setR]
        simpa [dsF, dsN, bitB, c_180, c_186] using hΦ
set_option maxRecDepth 20000 in
set_option maxHeartbeats 4000000 in
theorem lp_X7_detour3 {G : Gl} {Φ : Option OV → Mm → Prop} {np k : Nat} (hm : np ≤ 12) (hk : k ≤ 6) (s c : Int32) (x3 x4 x5 : Option OV) : ∀ (n p : Nat) (M : Mm) (lf mo : Int32), p + n = np → (M 50 1 = nI np) → (M 60 0 = nI k) → (Φ (some (.inl (dgN s n p (M 50) lf mo))) (endM (setR M 50 (dgF s n p (M 50) lf)) k)) → AW G cX7_detour RX7 9 2 42 (some .int) Φ 252 [some (.inr (7, 0, 0, 0)), some (.inl s), some (.inl c), x3, x4, x5, some (.inl lf), some (.inl mo), some (.inl (nI p))] [] M := by
  intro n
  induction n with
  | zero =>
    intro p M lf mo he h1 h6 hΦ
    refine a_il_8_9 (pc' := 254) dX7_detour_252 rfl ?_
    refine a_al_0_9 (pc' := 255) dX7_detour_254 rfl ?_
    refine gf_7_0 (pc' := 258) fl_X7_7 dX7_detour_255 rfl ?_
    refine a_iconst (v := nI 1) (pc' := 259) dX7_detour_258 (by decide) rfl ?_
    refine a_ialdN (pc' := 260) rfl (by omega) (by decide) dX7_detour_259 rfl ?_
    rw [h1]
    refine a_icmp_ge (pc' := 263) (tgt := 336) dX7_detour_260 (by decide) rfl (fun c_260 => ?_) (fun c_260 => absurd (nI_le (by omega) (by omega)) c_260)
    refine a_al_0_9 (pc' := 337) dX7_detour_336 rfl ?_
    refine a_il_7_9 (pc' := 339) dX7_detour_337 rfl ?_
    refine k_VI (pc' := 342) (ct_X7_ends hk _ _ h6) cw_X7_111 mi_X7_ends se_X7_ends rfl rfl rfl rfl (by decide) (by decide) (Nat.le_of_ble_eq_true rfl) rfl dX7_detour_339 rfl ?_
    refine a_iret dX7_detour_342 rfl rfl ?_
    rw [show setR M 50 (dgF s 0 p (M 50) lf) = M from setR_self M 50] at hΦ
    exact hΦ
  | succ n ih =>
    intro p M lf mo he h1 h6 hΦ
    refine a_il_8_9 (pc' := 254) dX7_detour_252 rfl ?_
    refine a_al_0_9 (pc' := 255) dX7_detour_254 rfl ?_
    refine gf_7_0 (pc' := 258) fl_X7_7 dX7_detour_255 rfl ?_
    refine a_iconst (v := nI 1) (pc' := 259) dX7_detour_258 (by decide) rfl ?_
    refine a_ialdN (pc' := 260) rfl (by omega) (by decide) dX7_detour_259 rfl ?_
    rw [h1]
    refine a_icmp_ge (pc' := 263) (tgt := 336) dX7_detour_260 (by decide) rfl (fun c_260 => absurd c_260 (nI_ge (by omega) (by omega))) (fun c_260 => ?_)
    refine a_il_1_9 (pc' := 264) dX7_detour_263 rfl ?_
    refine a_il_8_9 (pc' := 266) dX7_detour_264 rfl ?_
    refine a_ishr (pc' := 267) dX7_detour_266 rfl ?_
    refine a_iconst (v := nI 1) (pc' := 268) dX7_detour_267 (by decide) rfl ?_
    refine a_iand (pc' := 269) dX7_detour_268 rfl ?_
    refine a_iconst (v := nI 1) (pc' := 270) dX7_detour_269 (by decide) rfl ?_
    refine a_icmp_ne (pc' := 273) (tgt := 330) dX7_detour_270 (by decide) rfl (fun c_270 => ?_) (fun c_270 => ?_)
    · refine a_iN_8_9 (m := p + 1) (pc' := 333) dX7_detour_330 (nI_add _ _) rfl ?_
      refine a_goto (pc' := 252) dX7_detour_333 (by decide) ?_
      refine ih (p + 1) _ _ _ (by omega) h1 h6 ?_
      simpa [dgF, dgN, bitB, c_270] using hΦ
    · refine a_al_0_9 (pc' := 274) dX7_detour_273 rfl ?_
      refine gf_7_0 (pc' := 277) fl_X7_7 dX7_detour_274 rfl ?_
      refine a_il_8_9 (pc' := 279) dX7_detour_277 rfl ?_
      refine k_SI (pc' := 282) (ct_X7_palletSpot _) cw_X7_51 ms_X7_palletSpot rfl (by decide) (by decide) (Nat.le_of_ble_eq_true rfl) rfl dX7_detour_279 rfl ?_
      refine a_bipush (v := nI 9) (pc' := 284) dX7_detour_282 (by decide) rfl ?_
      refine a_iaddN (pc' := 285) dX7_detour_284 rfl ?_
      refine a_dup2 (pc' := 286) dX7_detour_285 rfl ?_
      refine a_ialdN (pc' := 287) rfl (by omega) (by decide) dX7_detour_286 rfl ?_
      refine a_il_6_9 (pc' := 289) dX7_detour_287 rfl ?_
      refine a_if_le (pc' := 292) (tgt := 296) dX7_detour_289 (by decide) rfl (fun c_289 => ?_) (fun c_289 => ?_)
      · refine a_iconst (v := nI 0) (pc' := 297) dX7_detour_296 (by decide) rfl ?_
        refine a_iadd (pc' := 298) dX7_detour_297 rfl ?_
        refine a_iastN (pc' := 299) rfl (by omega) (by decide) dX7_detour_298 rfl ?_
        refine a_in_6_9 (c9 := (-1)) (pc' := 302) dX7_detour_299 (by decide) rfl ?_
        refine a_al_0_9 (pc' := 303) dX7_detour_302 rfl ?_
        refine a_il_8_9 (pc' := 305) dX7_detour_303 rfl ?_
        refine a_bipush (v := nI 10) (pc' := 307) dX7_detour_305 (by decide) rfl ?_
        refine k_VI (pc' := 310) (ct_X7_its10 (by omega) _) cw_X7_72 mi_X7_its se_X7_its rfl rfl rfl rfl (by decide) (by decide) (Nat.le_of_ble_eq_true rfl) rfl dX7_detour_307 rfl ?_
        refine a_il_7_9 (pc' := 312) dX7_detour_310 rfl ?_
        refine a_icmp_le (pc' := 315) (tgt := 326) dX7_detour_312 (by decide) rfl (fun c_312 => ?_) (fun c_312 => ?_)
        · refine a_il_7_9 (pc' := 328) dX7_detour_326 rfl ?_
          refine a_is_7_9 (pc' := 330) dX7_detour_328 rfl ?_
          refine a_iN_8_9 (m := p + 1) (pc' := 333) dX7_detour_330 (nI_add _ _) rfl ?_
          refine a_goto (pc' := 252) dX7_detour_333 (by decide) ?_
          refine a_castS rfl (M' := setR M 50 (dg1 (M 50) p lf)) (by simp [wr_eq, dg1, nI_0, Int32.add_zero, c_289, -Int32.not_le, -Int32.not_lt]) ?_
          refine ih (p + 1) _ _ _ (by omega) (by rw [setR_same]; unfold dg1; rw [upd_at, if_neg (by omega)]; exact h1) (by rw [setR_ne _ _ (by decide)]; exact h6) ?_
          rw [setR_same, setR_setR]
          try simp [wr_eq, setR_same, upd_at, nI_0, Int32.add_zero, -Int32.not_le, -Int32.not_lt] at c_312
          have e9 := Int32.not_lt.mpr c_312
          simp only [dgF, dgN] at hΦ
          simpa [wr_eq, setR_same, upd_at, bitB, mxS, dg1, nI_0, Int32.add_zero, e9, c_270, c_289, -Int32.not_le, -Int32.not_lt] using hΦ
        · refine a_al_0_9 (pc' := 316) dX7_detour_315 rfl ?_
          refine a_il_8_9 (pc' := 318) dX7_detour_316 rfl ?_
          refine a_bipush (v := nI 10) (pc' := 320) dX7_detour_318 (by decide) rfl ?_
          refine k_VI (pc' := 323) (ct_X7_its10 (by omega) _) cw_X7_72 mi_X7_its se_X7_its rfl rfl rfl rfl (by decide) (by decide) (Nat.le_of_ble_eq_true rfl) rfl dX7_detour_320 rfl ?_
          refine a_goto (pc' := 328) dX7_detour_323 (by decide) ?_
          refine a_is_7_9 (pc' := 330) dX7_detour_328 rfl ?_
          refine a_iN_8_9 (m := p + 1) (pc' := 333) dX7_detour_330 (nI_add _ _) rfl ?_
          refine a_goto (pc' := 252) dX7_detour_333 (by decide) ?_
          refine a_castS rfl (M' := setR M 50 (dg1 (M 50) p lf)) (by simp [wr_eq, dg1, nI_0, Int32.add_zero, c_289, -Int32.not_le, -Int32.not_lt]) ?_
          refine ih (p + 1) _ _ _ (by omega) (by rw [setR_same]; unfold dg1; rw [upd_at, if_neg (by omega)]; exact h1) (by rw [setR_ne _ _ (by decide)]; exact h6) ?_
          rw [setR_same, setR_setR]
          try simp [wr_eq, setR_same, upd_at, nI_0, Int32.add_zero, -Int32.not_le, -Int32.not_lt] at c_312
          have e9 := Int32.not_le.mp c_312
          simp only [dgF, dgN] at hΦ
          simpa [wr_eq, setR_same, upd_at, bitB, mxS, dg1, nI_0, Int32.add_zero, e9, c_270, c_289, -Int32.not_le, -Int32.not_lt] using hΦ
      · refine a_iconst (v := nI 1) (pc' := 293) dX7_detour_292 (by decide) rfl ?_
        refine a_goto (pc' := 297) dX7_detour_293 (by decide) ?_
        refine a_iadd (pc' := 298) dX7_detour_297 rfl ?_
        refine a_iastN (pc' := 299) rfl (by omega) (by decide) dX7_detour_298 rfl ?_
        refine a_in_6_9 (c9 := (-1)) (pc' := 302) dX7_detour_299 (by decide) rfl ?_
        refine a_al_0_9 (pc' := 303) dX7_detour_302 rfl ?_
        refine a_il_8_9 (pc' := 305) dX7_detour_303 rfl ?_
        refine a_bipush (v := nI 10) (pc' := 307) dX7_detour_305 (by decide) rfl ?_
        refine k_VI (pc' := 310) (ct_X7_its10 (by omega) _) cw_X7_72 mi_X7_its se_X7_its rfl rfl rfl rfl (by decide) (by decide) (Nat.le_of_ble_eq_true rfl) rfl dX7_detour_307 rfl ?_
        refine a_il_7_9 (pc' := 312) dX7_detour_310 rfl ?_
        refine a_icmp_le (pc' := 315) (tgt := 326) dX7_detour_312 (by decide) rfl (fun c_312_2 => ?_) (fun c_312_2 => ?_)
        · refine a_il_7_9 (pc' := 328) dX7_detour_326 rfl ?_
          refine a_is_7_9 (pc' := 330) dX7_detour_328 rfl ?_
          refine a_iN_8_9 (m := p + 1) (pc' := 333) dX7_detour_330 (nI_add _ _) rfl ?_
          refine a_goto (pc' := 252) dX7_detour_333 (by decide) ?_
          refine a_castS rfl (M' := setR M 50 (dg1 (M 50) p lf)) (by simp [wr_eq, dg1, nI_0, Int32.add_zero, c_289, -Int32.not_le, -Int32.not_lt]) ?_
          refine ih (p + 1) _ _ _ (by omega) (by rw [setR_same]; unfold dg1; rw [upd_at, if_neg (by omega)]; exact h1) (by rw [setR_ne _ _ (by decide)]; exact h6) ?_
          rw [setR_same, setR_setR]
          try simp [wr_eq, setR_same, upd_at, nI_0, Int32.add_zero, -Int32.not_le, -Int32.not_lt] at c_312_2
          have e9 := Int32.not_lt.mpr c_312_2
          simp only [dgF, dgN] at hΦ
          simpa [wr_eq, setR_same, upd_at, bitB, mxS, dg1, nI_0, Int32.add_zero, e9, c_270, c_289, -Int32.not_le, -Int32.not_lt] using hΦ
        · refine a_al_0_9 (pc' := 316) dX7_detour_315 rfl ?_
          refine a_il_8_9 (pc' := 318) dX7_detour_316 rfl ?_
          refine a_bipush (v := nI 10) (pc' := 320) dX7_detour_318 (by decide) rfl ?_
          refine k_VI (pc' := 323) (ct_X7_its10 (by omega) _) cw_X7_72 mi_X7_its se_X7_its rfl rfl rfl rfl (by decide) (by decide) (Nat.le_of_ble_eq_true rfl) rfl dX7_detour_320 rfl ?_
          refine a_goto (pc' := 328) dX7_detour_323 (by decide) ?_
          refine a_is_7_9 (pc' := 330) dX7_detour_328 rfl ?_
          refine a_iN_8_9 (m := p + 1) (pc' := 333) dX7_detour_330 (nI_add _ _) rfl ?_
          refine a_goto (pc' := 252) dX7_detour_333 (by decide) ?_
          refine a_castS rfl (M' := setR M 50 (dg1 (M 50) p lf)) (by simp [wr_eq, dg1, nI_0, Int32.add_zero, c_289, -Int32.not_le, -Int32.not_lt]) ?_
          refine ih (p + 1) _ _ _ (by omega) (by rw [setR_same]; unfold dg1; rw [upd_at, if_neg (by omega)]; exact h1) (by rw [setR_ne _ _ (by decide)]; exact h6) ?_
          rw [setR_same, setR_setR]
          try simp [wr_eq, setR_same, upd_at, nI_0, Int32.add_zero, -Int32.not_le, -Int32.not_lt] at c_312_2
          have e9 := Int32.not_le.mp c_312_2
          simp only [dgF, dgN] at hΦ
          simpa [wr_eq, setR_same, upd_at, bitB, mxS, dg1, nI_0, Int32.add_zero, e9, c_270, c_289, -Int32.not_le, -Int32.not_lt] using hΦ
