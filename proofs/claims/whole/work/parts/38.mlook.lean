theorem arrV_congr (c : ClassId) (n : Nat) {f g : Nat → Value} (h : ∀ i, i < n → f i = g i) : arrV c n f = arrV c n g := by
  unfold arrV
  congr 1
  exact congrArg _ (funext fun j => h j.val j.isLt)
theorem ent9 (G : Gl) (M : Mm) (r n c : Nat) : ent G M (9, r, n, c) = .inl (G.2.2 9, n, .inl (M r)) := rfl
theorem va_at_arr {D : va_G} {cl : List vw_C} {ad n : Nat} {cA : ClassId} {f : Nat → Int32} {H : Heap} : va_at D cl (ad, .inl (cA, n, .inl f)) H ↔ H[ad]? = some (arrV cA n (fun j => .int (f j))) := Iff.rfl
theorem Mem.ext50 {G : Gl} {M M' : Mm} {H : Heap} (hM : Mem G M H) (h : ∀ r, r ≠ 50 → M r = M' r) (h2 : ∀ i, i < 183 → M 50 i = M' 50 i) : Mem G M' H := by
  intro x hx
  by_cases e : x = (9, 50, 183, 0)
  · subst e
    have := hM _ hx
    rw [ent9] at this ⊢
    rw [va_at_arr] at this ⊢
    rw [this]
    exact congrArg some (arrV_congr _ _ (fun i hi => by rw [h2 i hi]))
  · rw [← ent_congr G hx (fun r i hw => ?_)]
    · exact hM x hx
    · by_cases hr : r = 50
      · subst hr
        exact absurd hw.symm e
      · rw [h r hr]
theorem a_ext50 {G : Gl} {cc : ByteArray} {own : String} {nL fr lo : Nat} {rt : Option FieldType} {Φ : Option OV → Mm → Prop} {pc : Nat} {ls : List (Option OV)} {st : List OV} {M M9 : Mm} (h : ∀ r, r ≠ 50 → M r = M9 r) (h2 : ∀ i, i < 183 → M 50 i = M9 50 i) (kk : AW G cc own nL fr lo rt Φ pc ls st M9) : AW G cc own nL fr lo rt Φ pc ls st M := by
  intro A p l e R s m args below meth c cells slots Z H locs lsA hF hR hM hS hL
  exact kk A p l e R s m args below meth c cells slots Z H locs lsA hF hR (hM.ext50 h h2) hS hL
/-- one minute of the log looked at -/
def wm1 (M : Mm) (v z k : Nat) (l f y : Int32) (i : Nat) (a : Int32) : Int32 := if nI i ≤ f then a else if y < nI i then a else if enS M v z i k = (-100009) then a else if enS M v z i k ≤ l then a else a + nI 1
def wmL (M : Mm) (v z k : Nat) (l f y : Int32) : Nat → Nat → Int32 → Int32
  | 0, _, a => a
  | n + 1, i, a => wmL M v z k l f y n (i + 1) (wm1 M v z k l f y i a)
def mwmS (M : Mm) (x z l f y w : Int32) : Int32 := if wrmB (M 50) x z l f y w then wmL M (vN x) (vN z) (vN w) l f y (vN (M 50 2)) 1 (nI 0) else (-100001)
/-- a trial runs -/
def keepT (M0 M : Mm) : Prop := (∀ q, q ≠ 50 → q ≠ 53 → q ≠ 60 → M q = M0 q) ∧ M 60 = upd (M0 60) 1 (nI 0) ∧ ∀ i, i < 183 → M 53 i = M0 50 i
/-- a trial is over -/
def keepQ (M0 M : Mm) : Prop := (∀ q, q ≠ 50 → q ≠ 53 → M q = M0 q) ∧ ∀ i, i < 183 → M 50 i = M0 50 i
theorem keepQ.refl (M : Mm) : keepQ M M := ⟨fun _ _ _ => rfl, fun _ _ => rfl⟩
theorem keepQ.trans {M0 M1 M2 : Mm} (h : keepQ M0 M1) (h2 : keepQ M1 M2) : keepQ M0 M2 := ⟨fun q a b => (h2.1 q a b).trans (h.1 q a b), fun i hi => (h2.2 i hi).trans (h.2 i hi)⟩
theorem keepQ.fix {M0 M1 : Mm} (h : keepQ M0 M1) : keepQ M0 (setR M1 50 (M0 50)) := ⟨fun q a b => (setR_ne _ _ a).trans (h.1 q a b), fun i _ => by rw [setR_same]⟩
theorem keepT.done {M0 M : Mm} (h : keepT M0 M) (hr : M0 60 1 = nI 1) : keepQ M0 (wr (setR M 50 (cpR (M 50) (M 53) 0 183)) 60 1 (nI 1)) := by
  refine ⟨fun q a b => ?_, fun i hi => ?_⟩
  · by_cases e : q = 60
    · subst e
      rw [wr_eq, setR_same, setR_ne _ _ (by decide), h.2.1, upd_upd, ← hr, upd_self]
    · rw [wr_eq, setR_ne _ _ e, setR_ne _ _ a]; exact h.1 q a b e
  · rw [wr_eq, setR_ne _ _ (by decide), setR_same]
    unfold cpR
    rw [if_pos ⟨Nat.zero_le _, by omega⟩]
    exact h.2.2 i hi
theorem keepT.start (M : Mm) : keepT M (wr (setR M 53 (cpR (M 53) (M 50) 0 183)) 60 1 (nI 0)) := by
  refine ⟨fun q a b c => ?_, ?_, fun i hi => ?_⟩
  · rw [wr_eq, setR_ne _ _ c, setR_ne _ _ b]
  · rw [wr_eq, setR_same, setR_ne _ _ (by decide)]
  · rw [wr_eq, setR_ne _ _ (by decide), setR_same]
    unfold cpR
    rw [if_pos ⟨Nat.zero_le _, by omega⟩]
theorem keepT_50 (M : Mm) : wr (setR M 53 (cpR (M 53) (M 50) 0 183)) 60 1 (nI 0) 50 = M 50 := by
  rw [wr_eq, setR_ne _ _ (by decide), setR_ne _ _ (by decide)]
theorem mVans_f (t : Nat) {q : Nat} (h : q ≠ 50) : ∀ (n v : Nat) (M : Mm), mVans false t n v M q = M q := by
  intro n
  induction n with
  | zero => intro v M; rfl
  | succ n ih =>
    intro v M
    unfold mVans
    rw [ih]
    exact setR_ne _ _ h
theorem keepT.min {M0 M : Mm} (h : keepT M0 M) (nv t : Nat) : keepT M0 (mMin false nv t M) := by
  have e : ∀ q, q ≠ 50 → mMin false nv t M q = M q := fun q hq => by unfold mMin; rw [mVans_f _ hq, setR_ne _ _ hq]
  exact ⟨fun q a b c => (e q a).trans (h.1 q a b c), (e 60 (by decide)).trans h.2.1, fun i hi => by rw [e 53 (by decide)]; exact h.2.2 i hi⟩
theorem keepT.wr50 {M0 M : Mm} (h : keepT M0 M) {i : Nat} {x : Int32} : keepT M0 (wr M 50 i x) := by
  rw [wr_eq]
  exact ⟨fun q a b c => (setR_ne _ _ a).trans (h.1 q a b c), (setR_ne _ _ (by decide)).trans h.2.1, fun i hi => by rw [setR_ne _ _ (by decide)]; exact h.2.2 i hi⟩
/-- n vans' minutes from van v on -/
def vsF : Nat → Nat → (Nat → Int32) → (Nat → Int32)
  | 0, _, F => F
  | n + 1, v, F => vsF n (v + 1) (minF F v)
def minT (nv t : Nat) (F : Nat → Int32) : Nat → Int32 := vsF nv 0 (upd F 2 (nI (t + 1)))
theorem mVans_T (r : Bool) (t : Nat) : ∀ (n v : Nat) (M : Mm), mVans r t n v M 50 = vsF n v (M 50) := by
  intro n
  induction n with
  | zero => intro v M; rfl
  | succ n ih => intro v M; unfold mVans vsF; rw [ih, mVan_50]
theorem mMin_T (r : Bool) (nv t : Nat) (M : Mm) : mMin r nv t M 50 = minT nv t (M 50) := by
  unfold mMin minT
  rw [mVans_T, setR_same]
def mlT (nv p : Nat) : Nat → Nat → Nat → (Nat → Int32) → Option Nat
  | 0, k, _, F => if ovP F p then some k else none
  | n + 1, k, t, F => if ovP F p then some k else mlT nv p n (k + 1) (t + 1) (minT nv t F)
theorem mlT_ov {nv p n k t : Nat} {F : Nat → Int32} (h : ovP F p = true) : mlT nv p n k t F = some k := by
  cases n <;> (unfold mlT; rw [if_pos h])
def mmlR (F : Nat → Int32) (x : Int32) : Int32 := if hpS F x then (if F (63 + 10 * vN x + 5) = 0 then mlA (mlT (nvF F) (vN x) 300 0 (vN (F 2)) F) else (-100002)) else (-100001)
/-- n more trial minutes, k gone; the door is open in the first m -/
def opT (nv v m : Nat) : Nat → Nat → Nat → (Nat → Int32) → (Nat → Int32)
  | 0, _, _, F => F
  | n + 1, k, t, F => opT nv v m n (k + 1) (t + 1) (minT nv t (upd F (6 + 19 * v + 2) (if m ≤ k then nI 0 else nI 1)))
def mbL (F : Nat → Int32) (v : Nat) : Nat → Nat → Bool → Bool
  | 0, _, b => b
  | n + 1, p, b => mbL F v n (p + 1) (b && (!inP F p (nI v) || !ovP F p))
def lgT (nv np t : Nat) (F : Nat → Int32) (v : Nat) : Nat → Int32
  | 0 => if mbL (opT nv v 0 60 0 t F) v np 0 true then nI 0 else (-100009)
  | m + 1 => if mbL (opT nv v (m + 1) 60 0 t F) v np 0 true then nI (m + 1) else lgT nv np t F v m
def mlgR (F : Nat → Int32) (x : Int32) : Int32 := if hvS F x then lgT (nvF F) (npF F) (vN (F 2)) F (vN x) 60 else (-100001)
set_option maxRecDepth 20000 in
set_option maxHeartbeats 4000000 in
theorem lp_X7_warm {G : Gl} {Φ : Option OV → Mm → Prop} {v z k t : Nat} (hv : v < 3) (hz : z < 3) (hk : k < 2) (ht : t ≤ 600) (l f y : Int32) (M : Mm) (h2 : M 50 2 = nI t) (hL : LG M) : ∀ (n p : Nat) (acc : Int32) (x9 x10 : Option OV), p + n = t + 1 → (1 ≤ p) → (Φ (some (.inl (wmL M v z k l f y n p acc))) M) → AW G cX7_warm RX7 11 2 46 (some .int) Φ 59 [some (.inr (7, 0, 0, 0)), some (.inl (nI v)), some (.inl (nI z)), some (.inl l), some (.inl f), some (.inl y), some (.inl (nI k)), some (.inl acc), some (.inl (nI p)), x9, x10] [] M := by
  intro n
  induction n with
  | zero =>
    intro p acc x9 x10 he hp1 hΦ
    refine a_il_8_11 (pc' := 61) dX7_warm_59 rfl ?_
    refine a_al_0_11 (pc' := 62) dX7_warm_61 rfl ?_
    refine gf_7_0 (pc' := 65) fl_X7_7 dX7_warm_62 rfl ?_
    refine a_iconst (v := nI 2) (pc' := 66) dX7_warm_65 (by decide) rfl ?_
    refine a_ialdN (pc' := 67) rfl (by omega) (by decide) dX7_warm_66 rfl ?_
    rw [h2]
    refine a_icmp_gt (pc' := 70) (tgt := 137) dX7_warm_67 (by decide) rfl (fun c_67 => ?_) (fun c_67 => absurd (nI_lt (by omega) (by omega)) c_67)
    refine a_il_7_11 (pc' := 139) dX7_warm_137 rfl ?_
    refine a_iret dX7_warm_139 rfl rfl ?_
    exact hΦ
  | succ n ih =>
    intro p acc x9 x10 he hp1 hΦ
    refine a_il_8_11 (pc' := 61) dX7_warm_59 rfl ?_
    refine a_al_0_11 (pc' := 62) dX7_warm_61 rfl ?_
    refine gf_7_0 (pc' := 65) fl_X7_7 dX7_warm_62 rfl ?_
    refine a_iconst (v := nI 2) (pc' := 66) dX7_warm_65 (by decide) rfl ?_
    refine a_ialdN (pc' := 67) rfl (by omega) (by decide) dX7_warm_66 rfl ?_
    rw [h2]
    refine a_icmp_gt (pc' := 70) (tgt := 137) dX7_warm_67 (by decide) rfl (fun c_67 => absurd c_67 (nI_nlt (by omega) (by omega))) (fun c_67 => ?_)
    refine a_il_8_11 (pc' := 72) dX7_warm_70 rfl ?_
    refine a_il_4_11 (pc' := 74) dX7_warm_72 rfl ?_
    refine a_icmp_le (pc' := 77) (tgt := 88) dX7_warm_74 (by decide) rfl (fun c_74 => ?_) (fun c_74 => ?_)
    · refine a_iconst (v := nI 0) (pc' := 89) dX7_warm_88 (by decide) rfl ?_
      refine a_is_9_11 (pc' := 91) dX7_warm_89 rfl ?_
      refine a_al_0_11 (pc' := 92) dX7_warm_91 rfl ?_
      refine a_il_1_11 (pc' := 93) dX7_warm_92 rfl ?_
      refine a_il_2_11 (pc' := 94) dX7_warm_93 rfl ?_
      refine a_il_8_11 (pc' := 96) dX7_warm_94 rfl ?_
      refine a_il_6_11 (pc' := 98) dX7_warm_96 rfl ?_
      refine k_VI (pc' := 101) (ct_X7_entry (t := t) (by omega) (by omega) hp1 (by omega) (by omega) ht _ h2 hL) cw_X7_184 mi_X7_entry se_X7_entry rfl rfl rfl rfl (by decide) (by decide) (Nat.le_of_ble_eq_true rfl) rfl dX7_warm_98 rfl ?_
      refine a_is_10_11 (pc' := 103) dX7_warm_101 rfl ?_
      refine a_il_7_11 (pc' := 105) dX7_warm_103 rfl ?_
      refine a_il_9_11 (pc' := 107) dX7_warm_105 rfl ?_
      refine a_if_eq (pc' := 110) (tgt := 127) dX7_warm_107 (by decide) rfl (fun c_107 => ?_) (fun c_107 => absurd (by decide) c_107)
      refine a_iconst (v := nI 0) (pc' := 128) dX7_warm_127 (by decide) rfl ?_
      refine a_iadd (pc' := 129) dX7_warm_128 rfl ?_
      refine a_is_7_11 (pc' := 131) dX7_warm_129 rfl ?_
      refine a_iN_8_11 (m := p + 1) (pc' := 134) dX7_warm_131 (nI_add _ _) rfl ?_
      refine a_goto (pc' := 59) dX7_warm_134 (by decide) ?_
      refine ih (p + 1) _ _ _ (by omega) (by omega) ?_
      simpa [wmL, wm1, nI_0, Int32.add_zero, c_74, -Int32.not_le, -Int32.not_lt] using hΦ
    · refine a_il_8_11 (pc' := 79) dX7_warm_77 rfl ?_
      refine a_il_5_11 (pc' := 81) dX7_warm_79 rfl ?_
      refine a_icmp_gt (pc' := 84) (tgt := 88) dX7_warm_81 (by decide) rfl (fun c_81 => ?_) (fun c_81 => ?_)
      · refine a_iconst (v := nI 0) (pc' := 89) dX7_warm_88 (by decide) rfl ?_
        refine a_is_9_11 (pc' := 91) dX7_warm_89 rfl ?_
        refine a_al_0_11 (pc' := 92) dX7_warm_91 rfl ?_
        refine a_il_1_11 (pc' := 93) dX7_warm_92 rfl ?_
        refine a_il_2_11 (pc' := 94) dX7_warm_93 rfl ?_
        refine a_il_8_11 (pc' := 96) dX7_warm_94 rfl ?_
        refine a_il_6_11 (pc' := 98) dX7_warm_96 rfl ?_
        refine k_VI (pc' := 101) (ct_X7_entry (t := t) (by omega) (by omega) hp1 (by omega) (by omega) ht _ h2 hL) cw_X7_184 mi_X7_entry se_X7_entry rfl rfl rfl rfl (by decide) (by decide) (Nat.le_of_ble_eq_true rfl) rfl dX7_warm_98 rfl ?_
        refine a_is_10_11 (pc' := 103) dX7_warm_101 rfl ?_
        refine a_il_7_11 (pc' := 105) dX7_warm_103 rfl ?_
        refine a_il_9_11 (pc' := 107) dX7_warm_105 rfl ?_
        refine a_if_eq (pc' := 110) (tgt := 127) dX7_warm_107 (by decide) rfl (fun c_107_2 => ?_) (fun c_107_2 => absurd (by decide) c_107_2)
        refine a_iconst (v := nI 0) (pc' := 128) dX7_warm_127 (by decide) rfl ?_
        refine a_iadd (pc' := 129) dX7_warm_128 rfl ?_
        refine a_is_7_11 (pc' := 131) dX7_warm_129 rfl ?_
        refine a_iN_8_11 (m := p + 1) (pc' := 134) dX7_warm_131 (nI_add _ _) rfl ?_
        refine a_goto (pc' := 59) dX7_warm_134 (by decide) ?_
        refine ih (p + 1) _ _ _ (by omega) (by omega) ?_
        simpa [wmL, wm1, nI_0, Int32.add_zero, c_74, c_81, -Int32.not_le, -Int32.not_lt] using hΦ
      · refine a_iconst (v := nI 1) (pc' := 85) dX7_warm_84 (by decide) rfl ?_
        refine a_goto (pc' := 89) dX7_warm_85 (by decide) ?_
        refine a_is_9_11 (pc' := 91) dX7_warm_89 rfl ?_
        refine a_al_0_11 (pc' := 92) dX7_warm_91 rfl ?_
        refine a_il_1_11 (pc' := 93) dX7_warm_92 rfl ?_
        refine a_il_2_11 (pc' := 94) dX7_warm_93 rfl ?_
        refine a_il_8_11 (pc' := 96) dX7_warm_94 rfl ?_
        refine a_il_6_11 (pc' := 98) dX7_warm_96 rfl ?_
        refine k_VI (pc' := 101) (ct_X7_entry (t := t) (by omega) (by omega) hp1 (by omega) (by omega) ht _ h2 hL) cw_X7_184 mi_X7_entry se_X7_entry rfl rfl rfl rfl (by decide) (by decide) (Nat.le_of_ble_eq_true rfl) rfl dX7_warm_98 rfl ?_
        refine a_is_10_11 (pc' := 103) dX7_warm_101 rfl ?_
        refine a_il_7_11 (pc' := 105) dX7_warm_103 rfl ?_
        refine a_il_9_11 (pc' := 107) dX7_warm_105 rfl ?_
        refine a_if_eq (pc' := 110) (tgt := 127) dX7_warm_107 (by decide) rfl (fun c_107_3 => absurd c_107_3 (by decide)) (fun c_107_3 => ?_)
        refine a_il_10_11 (pc' := 112) dX7_warm_110 rfl ?_
        refine a_ldc (pc' := 114) dX7_warm_112 cn_X7_183 rfl ?_
        refine a_icmp_eq (pc' := 117) (tgt := 127) dX7_warm_114 (by decide) rfl (fun c_114 => ?_) (fun c_114 => ?_)
        · refine a_iconst (v := nI 0) (pc' := 128) dX7_warm_127 (by decide) rfl ?_
          refine a_iadd (pc' := 129) dX7_warm_128 rfl ?_
          refine a_is_7_11 (pc' := 131) dX7_warm_129 rfl ?_
          refine a_iN_8_11 (m := p + 1) (pc' := 134) dX7_warm_131 (nI_add _ _) rfl ?_
          refine a_goto (pc' := 59) dX7_warm_134 (by decide) ?_
          refine ih (p + 1) _ _ _ (by omega) (by omega) ?_
          simpa [wmL, wm1, nI_0, Int32.add_zero, c_74, c_81, c_114, -Int32.not_le, -Int32.not_lt] using hΦ
        · refine a_il_10_11 (pc' := 119) dX7_warm_117 rfl ?_
          refine a_il_3_11 (pc' := 120) dX7_warm_119 rfl ?_
          refine a_icmp_le (pc' := 123) (tgt := 127) dX7_warm_120 (by decide) rfl (fun c_120 => ?_) (fun c_120 => ?_)
          · refine a_iconst (v := nI 0) (pc' := 128) dX7_warm_127 (by decide) rfl ?_
            refine a_iadd (pc' := 129) dX7_warm_128 rfl ?_
            refine a_is_7_11 (pc' := 131) dX7_warm_129 rfl ?_
            refine a_iN_8_11 (m := p + 1) (pc' := 134) dX7_warm_131 (nI_add _ _) rfl ?_
            refine a_goto (pc' := 59) dX7_warm_134 (by decide) ?_
            refine ih (p + 1) _ _ _ (by omega) (by omega) ?_
            simpa [wmL, wm1, nI_0, Int32.add_zero, c_74, c_81, c_114, c_120, -Int32.not_le, -Int32.not_lt] using hΦ
          · refine a_iconst (v := nI 1) (pc' := 124) dX7_warm_123 (by decide) rfl ?_
            refine a_goto (pc' := 128) dX7_warm_124 (by decide) ?_
            refine a_iadd (pc' := 129) dX7_warm_128 rfl ?_
            refine a_is_7_11 (pc' := 131) dX7_warm_129 rfl ?_
            refine a_iN_8_11 (m := p + 1) (pc' := 134) dX7_warm_131 (nI_add _ _) rfl ?_
            refine a_goto (pc' := 59) dX7_warm_134 (by decide) ?_
            refine ih (p + 1) _ _ _ (by omega) (by omega) ?_
            simpa [wmL, wm1, nI_0, Int32.add_zero, c_74, c_81, c_114, c_120, -Int32.not_le, -Int32.not_lt] using hΦ
set_option maxRecDepth 20000 in
set_option maxHeartbeats 4000000 in
theorem ct_X7_warm {nv : Nat} (hn : nv ≤ 3) {t : Nat} (ht : t ≤ 600) (x z l f y w : Int32) (M : Mm) (h0 : M 50 0 = nI nv) (h2 : M 50 2 = nI t) (hL : LG M) : Ct yX7_warm cX7_warm 11 (some .int) 2 46 [.inr (7, 0, 0, 0), .inl x, .inl z, .inl l, .inl f, .inl y, .inl w] M (RI (mwmS M x z l f y w) M) := by
  refine Ct.at RX7 rfl (by decide +kernel) (Nat.le_of_ble_eq_true rfl) [some (.inr (7, 0, 0, 0)), some (.inl x), some (.inl z), some (.inl l), some (.inl f), some (.inl y), some (.inl w), none, none, none, none] rfl (fun G => ?_)
  refine a_al_0_11 (pc' := 1) dX7_warm_0 rfl ?_
  refine a_il_1_11 (pc' := 2) dX7_warm_1 rfl ?_
  refine k_VI (pc' := 5) (ct_X7_isVan (by omega) _ _ (by assumption)) cw_X7_88 mi_X7_isVan se_X7_isVan rfl rfl rfl rfl (by decide) (by decide) (Nat.le_of_ble_eq_true rfl) rfl dX7_warm_2 rfl ?_
  refine a_ifB_eq (pc' := 8) (tgt := 50) dX7_warm_5 (by decide) rfl (fun c_5 => ?_) (fun c_5 => ?_)
  · refine a_ldc (pc' := 52) dX7_warm_50 cn_X7_92 rfl ?_
    refine a_iret dX7_warm_52 rfl rfl ?_
    exact fI (by simp [mwmS, wrmB, hzS, c_5, -Int32.not_le, -Int32.not_lt])
  · refine a_il_2_11 (pc' := 9) dX7_warm_8 rfl ?_
    refine k_SI (pc' := 12) (ct_X7_isZone _ _) cw_X7_108 ms_X7_isZone rfl (by decide) (by decide) (Nat.le_of_ble_eq_true rfl) rfl dX7_warm_9 rfl ?_
    refine a_ifB_eq (pc' := 15) (tgt := 50) dX7_warm_12 (by decide) rfl (fun c_12 => ?_) (fun c_12 => ?_)
    · refine a_ldc (pc' := 52) dX7_warm_50 cn_X7_92 rfl ?_
      refine a_iret dX7_warm_52 rfl rfl ?_
      exact fI (by simp [mwmS, wrmB, hzS, c_5, c_12, -Int32.not_le, -Int32.not_lt])
    · refine a_il_3_11 (pc' := 16) dX7_warm_15 rfl ?_
      refine a_sipush (v := (-300)) (pc' := 19) dX7_warm_16 (by decide) rfl ?_
      refine a_sipush (v := nI 300) (pc' := 22) dX7_warm_19 (by decide) rfl ?_
      refine k_SI (pc' := 25) (ct_X7_in _ _ _ _) cw_X7_43 ms_X7_in rfl (by decide) (by decide) (Nat.le_of_ble_eq_true rfl) rfl dX7_warm_22 rfl ?_
      refine a_ifB_eq (pc' := 28) (tgt := 50) dX7_warm_25 (by decide) rfl (fun c_25 => ?_) (fun c_25 => ?_)
      · refine a_ldc (pc' := 52) dX7_warm_50 cn_X7_92 rfl ?_
        refine a_iret dX7_warm_52 rfl rfl ?_
        exact fI (by simp [mwmS, wrmB, hzS, c_5, c_12, c_25, -Int32.not_le, -Int32.not_lt])
      · refine a_il_4_11 (pc' := 30) dX7_warm_28 rfl ?_
        refine a_if_lt (pc' := 33) (tgt := 50) dX7_warm_30 (by decide) rfl (fun c_30 => ?_) (fun c_30 => ?_)
        · refine a_ldc (pc' := 52) dX7_warm_50 cn_X7_92 rfl ?_
          refine a_iret dX7_warm_52 rfl rfl ?_
          exact fI (by simp [mwmS, wrmB, hzS, c_5, c_12, c_25, c_30, -Int32.not_le, -Int32.not_lt])
        · refine a_il_5_11 (pc' := 35) dX7_warm_33 rfl ?_
          refine a_il_4_11 (pc' := 37) dX7_warm_35 rfl ?_
          refine a_icmp_lt (pc' := 40) (tgt := 50) dX7_warm_37 (by decide) rfl (fun c_37 => ?_) (fun c_37 => ?_)
          · refine a_ldc (pc' := 52) dX7_warm_50 cn_X7_92 rfl ?_
            refine a_iret dX7_warm_52 rfl rfl ?_
            exact fI (by simp [mwmS, wrmB, hzS, c_5, c_12, c_25, c_30, c_37, -Int32.not_le, -Int32.not_lt])
          · refine a_il_6_11 (pc' := 42) dX7_warm_40 rfl ?_
            refine a_iconst (v := nI 0) (pc' := 43) dX7_warm_42 (by decide) rfl ?_
            refine a_iconst (v := nI 1) (pc' := 44) dX7_warm_43 (by decide) rfl ?_
            refine k_SI (pc' := 47) (ct_X7_in _ _ _ _) cw_X7_43 ms_X7_in rfl (by decide) (by decide) (Nat.le_of_ble_eq_true rfl) rfl dX7_warm_44 rfl ?_
            refine a_ifB_ne (pc' := 50) (tgt := 53) dX7_warm_47 (by decide) rfl (fun c_47 => ?_) (fun c_47 => ?_)
            · obtain ⟨v, z, hv, hz, rfl, rfl⟩ := hzS_nI (show hzS (M 50) x z = true by simp [hzS, c_5, c_12]) h0 (by omega)
              have hcl : vN (nI v) = v := vN_nI (by omega)
              have hcz : vN (nI z) = z := vN_nI (by omega)
              obtain ⟨k, -, hk, rfl⟩ := inn_nI (a := 0) (b := 1) c_47 (by decide)
              have hck : vN (nI k) = k := vN_nI (by omega)
              refine a_iconst (v := nI 0) (pc' := 54) dX7_warm_53 (by decide) rfl ?_
              refine a_is_7_11 (pc' := 56) dX7_warm_54 rfl ?_
              refine a_iconst (v := nI 1) (pc' := 57) dX7_warm_56 (by decide) rfl ?_
              refine a_is_8_11 (pc' := 59) dX7_warm_57 rfl ?_
              refine lp_X7_warm (by omega) (by omega) (by omega) ht _ _ _ _ h2 hL t 1 _ _ _ (by omega) (by decide) ⟨?_, rfl⟩
              simp [mwmS, wrmB, hzS, hcl, hcz, hck, h2, vN_nI (show t < 2147483648 by omega), c_5, c_12, c_25, c_30, c_37, c_47]
            · refine a_ldc (pc' := 52) dX7_warm_50 cn_X7_92 rfl ?_
              refine a_iret dX7_warm_52 rfl rfl ?_
              exact fI (by simp [mwmS, wrmB, hzS, c_5, c_12, c_25, c_30, c_37, c_47, -Int32.not_le, -Int32.not_lt])
set_option maxRecDepth 20000 in
set_option maxHeartbeats 4000000 in
theorem lp_X7_minutesLeft {G : Gl} {Φ : Option OV → Mm → Prop} {nv np pp : Nat} (hn : nv ≤ 3) (hm : np ≤ 12) (hp : pp < 12) (M0 : Mm) (hr0 : M0 60 1 = nI 1) : ∀ (n p : Nat) (t : Nat) (M : Mm) (x3 : Option OV), p + n = 300 → (keepT M0 M) → (M 50 0 = nI nv) → (M 50 1 = nI np) → (∃ T, Good (M 50) t T) → (∀ M9, keepQ M0 M9 → Φ (some (.inl (mlA (mlT nv pp n p t (M 50))))) M9) → AW G cX7_minutesLeft RX7 4 6 140 (some .int) Φ 41 [some (.inr (7, 0, 0, 0)), some (.inl (nI pp)), some (.inl (nI p)), x3] [] M := by
  intro n
  induction n with
  | zero =>
    intro p t M x3 he hT h0 h1 hg hΦ
    have hr : M 60 1 = nI 0 := by rw [hT.2.1]; rfl
    refine a_il_2_4 (pc' := 42) dX7_minutesLeft_41 rfl ?_
    refine a_sipush (v := nI 300) (pc' := 45) dX7_minutesLeft_42 (by decide) rfl ?_
    refine a_icmp_ge (pc' := 48) (tgt := 75) dX7_minutesLeft_45 (by decide) rfl (fun c_45 => ?_) (fun c_45 => absurd (nI_le (by omega) (by omega)) c_45)
    refine a_al_0_4 (pc' := 76) dX7_minutesLeft_75 rfl ?_
    refine a_il_1_4 (pc' := 77) dX7_minutesLeft_76 rfl ?_
    refine a_bipush (v := nI 8) (pc' := 79) dX7_minutesLeft_77 (by decide) rfl ?_
    refine k_VI (pc' := 82) (ct_X7_its (w := 8) (by omega) (by omega) _) cw_X7_72 mi_X7_its se_X7_its rfl rfl rfl rfl (by decide) (by decide) (Nat.le_of_ble_eq_true rfl) rfl dX7_minutesLeft_79 rfl ?_
    refine a_al_0_4 (pc' := 83) dX7_minutesLeft_82 rfl ?_
    refine a_il_1_4 (pc' := 84) dX7_minutesLeft_83 rfl ?_
    refine a_iconst (v := nI 3) (pc' := 85) dX7_minutesLeft_84 (by decide) rfl ?_
    refine k_VI (pc' := 88) (ct_X7_its (w := 3) (by omega) (by omega) _) cw_X7_72 mi_X7_its se_X7_its rfl rfl rfl rfl (by decide) (by decide) (Nat.le_of_ble_eq_true rfl) rfl dX7_minutesLeft_85 rfl ?_
    refine a_icmp_le (pc' := 91) (tgt := 95) dX7_minutesLeft_88 (by decide) rfl (fun c_88 => ?_) (fun c_88 => ?_)
    · refine a_iconst (v := nI 0) (pc' := 96) dX7_minutesLeft_95 (by decide) rfl ?_
      refine a_is_3_4 (pc' := 97) dX7_minutesLeft_96 rfl ?_
      refine a_al_0_4 (pc' := 98) dX7_minutesLeft_97 rfl ?_
      refine gf_7_0 (pc' := 101) fl_X7_7 dX7_minutesLeft_98 rfl ?_
      refine a_al_0_4 (pc' := 102) dX7_minutesLeft_101 rfl ?_
      refine gf_7_3 (pc' := 105) fl_X7_19 dX7_minutesLeft_102 rfl ?_
      refine k_SV (pc' := 108) (ct_X7_copies (r := 50) (r' := 53) rfl rfl (by decide) _) cw_X7_35 ms_X7_copies rfl (by decide) (by decide) (Nat.le_of_ble_eq_true rfl) rfl dX7_minutesLeft_105 rfl ?_
      refine a_al_0_4 (pc' := 109) dX7_minutesLeft_108 rfl ?_
      refine a_iconst (v := nI 1) (pc' := 110) dX7_minutesLeft_109 (by decide) rfl ?_
      refine pf_7_6 (pc' := 113) (Or.inr rfl) fl_X7_25 dX7_minutesLeft_110 rfl ?_
      refine a_il_3_4 (pc' := 114) dX7_minutesLeft_113 rfl ?_
      refine a_if_eq (pc' := 117) (tgt := 121) dX7_minutesLeft_114 (by decide) rfl (fun c_114 => ?_) (fun c_114 => absurd (by decide) c_114)
      refine a_ldc (pc' := 123) dX7_minutesLeft_121 cn_X7_183 rfl ?_
      refine a_iret dX7_minutesLeft_123 rfl rfl ?_
      have hov : ovP (M 50) pp = false := by simp [ovP, c_88]
      have := hΦ _ (hT.done hr0)
      simpa [mlT, hov, mlA] using this
    · refine a_iconst (v := nI 1) (pc' := 92) dX7_minutesLeft_91 (by decide) rfl ?_
      refine a_goto (pc' := 96) dX7_minutesLeft_92 (by decide) ?_
      refine a_is_3_4 (pc' := 97) dX7_minutesLeft_96 rfl ?_
      refine a_al_0_4 (pc' := 98) dX7_minutesLeft_97 rfl ?_
      refine gf_7_0 (pc' := 101) fl_X7_7 dX7_minutesLeft_98 rfl ?_
      refine a_al_0_4 (pc' := 102) dX7_minutesLeft_101 rfl ?_
      refine gf_7_3 (pc' := 105) fl_X7_19 dX7_minutesLeft_102 rfl ?_
      refine k_SV (pc' := 108) (ct_X7_copies (r := 50) (r' := 53) rfl rfl (by decide) _) cw_X7_35 ms_X7_copies rfl (by decide) (by decide) (Nat.le_of_ble_eq_true rfl) rfl dX7_minutesLeft_105 rfl ?_
      refine a_al_0_4 (pc' := 109) dX7_minutesLeft_108 rfl ?_
      refine a_iconst (v := nI 1) (pc' := 110) dX7_minutesLeft_109 (by decide) rfl ?_
      refine pf_7_6 (pc' := 113) (Or.inr rfl) fl_X7_25 dX7_minutesLeft_110 rfl ?_
      refine a_il_3_4 (pc' := 114) dX7_minutesLeft_113 rfl ?_
      refine a_if_eq (pc' := 117) (tgt := 121) dX7_minutesLeft_114 (by decide) rfl (fun c_114_2 => absurd c_114_2 (by decide)) (fun c_114_2 => ?_)
      refine a_il_2_4 (pc' := 118) dX7_minutesLeft_117 rfl ?_
      refine a_goto (pc' := 123) dX7_minutesLeft_118 (by decide) ?_
      refine a_iret dX7_minutesLeft_123 rfl rfl ?_
      have hov : ovP (M 50) pp = true := by simp [ovP, c_88]
      have := hΦ _ (hT.done hr0)
      simpa [mlT_ov hov, mlA] using this
  | succ n ih =>
    intro p t M x3 he hT h0 h1 hg hΦ
    have hr : M 60 1 = nI 0 := by rw [hT.2.1]; rfl
    refine a_il_2_4 (pc' := 42) dX7_minutesLeft_41 rfl ?_
    refine a_sipush (v := nI 300) (pc' := 45) dX7_minutesLeft_42 (by decide) rfl ?_
    refine a_icmp_ge (pc' := 48) (tgt := 75) dX7_minutesLeft_45 (by decide) rfl (fun c_45 => absurd c_45 (nI_ge (by omega) (by omega))) (fun c_45 => ?_)
    refine a_al_0_4 (pc' := 49) dX7_minutesLeft_48 rfl ?_
    refine a_il_1_4 (pc' := 50) dX7_minutesLeft_49 rfl ?_
    refine a_bipush (v := nI 8) (pc' := 52) dX7_minutesLeft_50 (by decide) rfl ?_
    refine k_VI (pc' := 55) (ct_X7_its (w := 8) (by omega) (by omega) _) cw_X7_72 mi_X7_its se_X7_its rfl rfl rfl rfl (by decide) (by decide) (Nat.le_of_ble_eq_true rfl) rfl dX7_minutesLeft_52 rfl ?_
    refine a_al_0_4 (pc' := 56) dX7_minutesLeft_55 rfl ?_
    refine a_il_1_4 (pc' := 57) dX7_minutesLeft_56 rfl ?_
    refine a_iconst (v := nI 3) (pc' := 58) dX7_minutesLeft_57 (by decide) rfl ?_
    refine k_VI (pc' := 61) (ct_X7_its (w := 3) (by omega) (by omega) _) cw_X7_72 mi_X7_its se_X7_its rfl rfl rfl rfl (by decide) (by decide) (Nat.le_of_ble_eq_true rfl) rfl dX7_minutesLeft_58 rfl ?_
    refine a_icmp_gt (pc' := 64) (tgt := 75) dX7_minutesLeft_61 (by decide) rfl (fun c_61 => ?_) (fun c_61 => ?_)
    · refine a_al_0_4 (pc' := 76) dX7_minutesLeft_75 rfl ?_
      refine a_il_1_4 (pc' := 77) dX7_minutesLeft_76 rfl ?_
      refine a_bipush (v := nI 8) (pc' := 79) dX7_minutesLeft_77 (by decide) rfl ?_
      refine k_VI (pc' := 82) (ct_X7_its (w := 8) (by omega) (by omega) _) cw_X7_72 mi_X7_its se_X7_its rfl rfl rfl rfl (by decide) (by decide) (Nat.le_of_ble_eq_true rfl) rfl dX7_minutesLeft_79 rfl ?_
      refine a_al_0_4 (pc' := 83) dX7_minutesLeft_82 rfl ?_
      refine a_il_1_4 (pc' := 84) dX7_minutesLeft_83 rfl ?_
      refine a_iconst (v := nI 3) (pc' := 85) dX7_minutesLeft_84 (by decide) rfl ?_
      refine k_VI (pc' := 88) (ct_X7_its (w := 3) (by omega) (by omega) _) cw_X7_72 mi_X7_its se_X7_its rfl rfl rfl rfl (by decide) (by decide) (Nat.le_of_ble_eq_true rfl) rfl dX7_minutesLeft_85 rfl ?_
      refine a_icmp_le (pc' := 91) (tgt := 95) dX7_minutesLeft_88 (by decide) rfl (fun c_88 => ?_) (fun c_88 => ?_)
      · refine a_iconst (v := nI 0) (pc' := 96) dX7_minutesLeft_95 (by decide) rfl ?_
        refine a_is_3_4 (pc' := 97) dX7_minutesLeft_96 rfl ?_
        refine a_al_0_4 (pc' := 98) dX7_minutesLeft_97 rfl ?_
        refine gf_7_0 (pc' := 101) fl_X7_7 dX7_minutesLeft_98 rfl ?_
        refine a_al_0_4 (pc' := 102) dX7_minutesLeft_101 rfl ?_
        refine gf_7_3 (pc' := 105) fl_X7_19 dX7_minutesLeft_102 rfl ?_
        refine k_SV (pc' := 108) (ct_X7_copies (r := 50) (r' := 53) rfl rfl (by decide) _) cw_X7_35 ms_X7_copies rfl (by decide) (by decide) (Nat.le_of_ble_eq_true rfl) rfl dX7_minutesLeft_105 rfl ?_
        refine a_al_0_4 (pc' := 109) dX7_minutesLeft_108 rfl ?_
        refine a_iconst (v := nI 1) (pc' := 110) dX7_minutesLeft_109 (by decide) rfl ?_
        refine pf_7_6 (pc' := 113) (Or.inr rfl) fl_X7_25 dX7_minutesLeft_110 rfl ?_
        refine a_il_3_4 (pc' := 114) dX7_minutesLeft_113 rfl ?_
        refine a_if_eq (pc' := 117) (tgt := 121) dX7_minutesLeft_114 (by decide) rfl (fun c_114 => ?_) (fun c_114 => absurd (by decide) c_114)
        refine a_ldc (pc' := 123) dX7_minutesLeft_121 cn_X7_183 rfl ?_
        refine a_iret dX7_minutesLeft_123 rfl rfl ?_
        exact absurd c_88 (Int32.not_le.mpr c_61)
      · refine a_iconst (v := nI 1) (pc' := 92) dX7_minutesLeft_91 (by decide) rfl ?_
        refine a_goto (pc' := 96) dX7_minutesLeft_92 (by decide) ?_
        refine a_is_3_4 (pc' := 97) dX7_minutesLeft_96 rfl ?_
        refine a_al_0_4 (pc' := 98) dX7_minutesLeft_97 rfl ?_
        refine gf_7_0 (pc' := 101) fl_X7_7 dX7_minutesLeft_98 rfl ?_
        refine a_al_0_4 (pc' := 102) dX7_minutesLeft_101 rfl ?_
        refine gf_7_3 (pc' := 105) fl_X7_19 dX7_minutesLeft_102 rfl ?_
        refine k_SV (pc' := 108) (ct_X7_copies (r := 50) (r' := 53) rfl rfl (by decide) _) cw_X7_35 ms_X7_copies rfl (by decide) (by decide) (Nat.le_of_ble_eq_true rfl) rfl dX7_minutesLeft_105 rfl ?_
        refine a_al_0_4 (pc' := 109) dX7_minutesLeft_108 rfl ?_
        refine a_iconst (v := nI 1) (pc' := 110) dX7_minutesLeft_109 (by decide) rfl ?_
        refine pf_7_6 (pc' := 113) (Or.inr rfl) fl_X7_25 dX7_minutesLeft_110 rfl ?_
        refine a_il_3_4 (pc' := 114) dX7_minutesLeft_113 rfl ?_
        refine a_if_eq (pc' := 117) (tgt := 121) dX7_minutesLeft_114 (by decide) rfl (fun c_114_2 => absurd c_114_2 (by decide)) (fun c_114_2 => ?_)
        refine a_il_2_4 (pc' := 118) dX7_minutesLeft_117 rfl ?_
        refine a_goto (pc' := 123) dX7_minutesLeft_118 (by decide) ?_
        refine a_iret dX7_minutesLeft_123 rfl rfl ?_
        have hov : ovP (M 50) pp = true := by simp [ovP, c_88]
        have := hΦ _ (hT.done hr0)
        simpa [mlT_ov hov, mlA] using this
    · refine a_al_0_4 (pc' := 65) dX7_minutesLeft_64 rfl ?_
      refine k_VI (pc' := 68) (ct_X7_minute0 hn hm (t := t) _ h0 h1 hg hr) cw_X7_101 mi_X7_minute se_X7_minute rfl rfl rfl rfl (by decide) (by decide) (Nat.le_of_ble_eq_true rfl) rfl dX7_minutesLeft_65 rfl ?_
      refine a_pop (pc' := 69) dX7_minutesLeft_68 rfl ?_
      refine a_iN_2_4 (m := p + 1) (pc' := 72) dX7_minutesLeft_69 (nI_add _ _) rfl ?_
      refine a_goto (pc' := 41) dX7_minutesLeft_72 (by decide) ?_
      have hov : ovP (M 50) pp = false := by simp [ovP, Int32.not_lt.mp c_61]
      obtain ⟨k0, k1, k2, k3⟩ := mMin_ok (r := false) hn h0 h1 hg hr
      refine ih (p + 1) (t + 1) _ _ (by omega) (hT.min nv t) k0 k1 k2 ?_
      intro M9 h9
      have := hΦ M9 h9
      rw [mMin_T]
      simpa [mlT, hov] using this
set_option maxRecDepth 20000 in
set_option maxHeartbeats 4000000 in
theorem ct_X7_minutesLeft {nv np t : Nat} (hn : nv ≤ 3) (hm : np ≤ 12) (ht : t ≤ 600) (x : Int32) (M : Mm) (h0 : M 50 0 = nI nv) (h1 : M 50 1 = nI np) (hg : ∃ T, Good (M 50) t T) (hr : M 60 1 = nI 1) : Ct yX7_minutesLeft cX7_minutesLeft 4 (some .int) 6 140 [.inr (7, 0, 0, 0), .inl x] M (fun v M' => v = some (.inl (mmlR (M 50) x)) ∧ keepQ M M') := by
  have h2 : M 50 2 = nI t := by obtain ⟨T, hg⟩ := hg; exact hg.n2
  have hct : vN (nI t) = t := vN_nI (by omega)
  have hnv : nvF (M 50) = nv := by unfold nvF; rw [h0]; exact nI_clamp (by omega)
  refine Ct.at RX7 rfl (by decide +kernel) (Nat.le_of_ble_eq_true rfl) [some (.inr (7, 0, 0, 0)), some (.inl x), none, none] rfl (fun G => ?_)
  refine a_al_0_4 (pc' := 1) dX7_minutesLeft_0 rfl ?_
  refine a_il_1_4 (pc' := 2) dX7_minutesLeft_1 rfl ?_
  refine k_VI (pc' := 5) (ct_X7_isPallet (by omega) _ _ (by assumption)) cw_X7_105 mi_X7_isPallet se_X7_isPallet rfl rfl rfl rfl (by decide) (by decide) (Nat.le_of_ble_eq_true rfl) rfl dX7_minutesLeft_2 rfl ?_
  refine a_ifB_ne (pc' := 8) (tgt := 11) dX7_minutesLeft_5 (by decide) rfl (fun c_5 => ?_) (fun c_5 => ?_)
  · obtain ⟨pp, hp, rfl⟩ := hpS_nI c_5 h1 (by omega)
    have hcl : vN (nI pp) = pp := vN_nI (by omega)
    refine a_al_0_4 (pc' := 12) dX7_minutesLeft_11 rfl ?_
    refine a_il_1_4 (pc' := 13) dX7_minutesLeft_12 rfl ?_
    refine a_iconst (v := nI 5) (pc' := 14) dX7_minutesLeft_13 (by decide) rfl ?_
    refine k_VI (pc' := 17) (ct_X7_its (w := 5) (by omega) (by omega) _) cw_X7_72 mi_X7_its se_X7_its rfl rfl rfl rfl (by decide) (by decide) (Nat.le_of_ble_eq_true rfl) rfl dX7_minutesLeft_14 rfl ?_
    refine a_if_eq (pc' := 20) (tgt := 23) dX7_minutesLeft_17 (by decide) rfl (fun c_17 => ?_) (fun c_17 => ?_)
    · refine a_al_0_4 (pc' := 24) dX7_minutesLeft_23 rfl ?_
      refine gf_7_3 (pc' := 27) fl_X7_19 dX7_minutesLeft_24 rfl ?_
      refine a_al_0_4 (pc' := 28) dX7_minutesLeft_27 rfl ?_
      refine gf_7_0 (pc' := 31) fl_X7_7 dX7_minutesLeft_28 rfl ?_
      refine k_SV (pc' := 34) (ct_X7_copies (r := 53) (r' := 50) rfl rfl (by decide) _) cw_X7_35 ms_X7_copies rfl (by decide) (by decide) (Nat.le_of_ble_eq_true rfl) rfl dX7_minutesLeft_31 rfl ?_
      refine a_al_0_4 (pc' := 35) dX7_minutesLeft_34 rfl ?_
      refine a_iconst (v := nI 0) (pc' := 36) dX7_minutesLeft_35 (by decide) rfl ?_
      refine pf_7_6 (pc' := 39) (Or.inl rfl) fl_X7_25 dX7_minutesLeft_36 rfl ?_
      refine a_iconst (v := nI 0) (pc' := 40) dX7_minutesLeft_39 (by decide) rfl ?_
      refine a_is_2_4 (pc' := 41) dX7_minutesLeft_40 rfl ?_
      refine lp_X7_minutesLeft hn hm (by omega) M hr 300 0 t _ _ (by omega) (keepT.start M) (by rw [keepT_50]; exact h0) (by rw [keepT_50]; exact h1) (by rw [keepT_50]; exact hg) ?_
      intro M9 h9
      rw [keepT_50]
      exact ⟨by simp [mmlR, c_5, hcl, c_17, hct, hnv, h2], h9⟩
    · refine a_ldc (pc' := 22) dX7_minutesLeft_20 cn_X7_93 rfl ?_
      refine a_iret dX7_minutesLeft_22 rfl rfl ?_
      exact ⟨by simp [mmlR, c_5, c_17, hcl], keepQ.refl M⟩
  · refine a_ldc (pc' := 10) dX7_minutesLeft_8 cn_X7_92 rfl ?_
    refine a_iret dX7_minutesLeft_10 rfl rfl ?_
    exact ⟨by simp [mmlR, c_5], keepQ.refl M⟩
set_option maxRecDepth 20000 in
set_option maxHeartbeats 4000000 in
theorem lp_X7_may2 {G : Gl} {Φ : Option OV → Mm → Prop} {np v m : Nat} (hm : np ≤ 12) (M0 M : Mm) (hr0 : M0 60 1 = nI 1) (hT : keepT M0 M) (h1 : M 50 1 = nI np) : ∀ (n p : Nat) (b : Bool) (x5 : Option OV), p + n = np → (∀ M9, keepQ M0 M9 → Φ (some (.inl (bI (mbL (M 50) v n p b)))) M9) → AW G cX7_mayBeOpen RX7 6 6 140 (some .boolean) Φ 64 [some (.inr (7, 0, 0, 0)), some (.inl (nI v)), some (.inl (nI m)), some (.inl (bI b)), some (.inl (nI p)), x5] [] M := by
  intro n
  induction n with
  | zero =>
    intro p b x5 he  hΦ
    refine a_il_4_6 (pc' := 66) dX7_mayBeOpen_64 rfl ?_
    refine a_al_0_6 (pc' := 67) dX7_mayBeOpen_66 rfl ?_
    refine gf_7_0 (pc' := 70) fl_X7_7 dX7_mayBeOpen_67 rfl ?_
    refine a_iconst (v := nI 1) (pc' := 71) dX7_mayBeOpen_70 (by decide) rfl ?_
    refine a_ialdN (pc' := 72) rfl (by omega) (by decide) dX7_mayBeOpen_71 rfl ?_
    rw [h1]
    refine a_icmp_ge (pc' := 75) (tgt := 142) dX7_mayBeOpen_72 (by decide) rfl (fun c_72 => ?_) (fun c_72 => absurd (nI_le (by omega) (by omega)) c_72)
    refine a_al_0_6 (pc' := 143) dX7_mayBeOpen_142 rfl ?_
    refine gf_7_0 (pc' := 146) fl_X7_7 dX7_mayBeOpen_143 rfl ?_
    refine a_al_0_6 (pc' := 147) dX7_mayBeOpen_146 rfl ?_
    refine gf_7_3 (pc' := 150) fl_X7_19 dX7_mayBeOpen_147 rfl ?_
    refine k_SV (pc' := 153) (ct_X7_copies (r := 50) (r' := 53) rfl rfl (by decide) _) cw_X7_35 ms_X7_copies rfl (by decide) (by decide) (Nat.le_of_ble_eq_true rfl) rfl dX7_mayBeOpen_150 rfl ?_
    refine a_al_0_6 (pc' := 154) dX7_mayBeOpen_153 rfl ?_
    refine a_iconst (v := nI 1) (pc' := 155) dX7_mayBeOpen_154 (by decide) rfl ?_
    refine pf_7_6 (pc' := 158) (Or.inr rfl) fl_X7_25 dX7_mayBeOpen_155 rfl ?_
    refine a_il_3_6 (pc' := 159) dX7_mayBeOpen_158 rfl ?_
    refine a_iret dX7_mayBeOpen_159 rfl (n_bI _) ?_
    exact hΦ _ (hT.done hr0)
  | succ n ih =>
    intro p b x5 he  hΦ
    refine a_il_4_6 (pc' := 66) dX7_mayBeOpen_64 rfl ?_
    refine a_al_0_6 (pc' := 67) dX7_mayBeOpen_66 rfl ?_
    refine gf_7_0 (pc' := 70) fl_X7_7 dX7_mayBeOpen_67 rfl ?_
    refine a_iconst (v := nI 1) (pc' := 71) dX7_mayBeOpen_70 (by decide) rfl ?_
    refine a_ialdN (pc' := 72) rfl (by omega) (by decide) dX7_mayBeOpen_71 rfl ?_
    rw [h1]
    refine a_icmp_ge (pc' := 75) (tgt := 142) dX7_mayBeOpen_72 (by decide) rfl (fun c_72 => absurd c_72 (nI_ge (by omega) (by omega))) (fun c_72 => ?_)
    refine a_al_0_6 (pc' := 76) dX7_mayBeOpen_75 rfl ?_
    refine a_il_4_6 (pc' := 78) dX7_mayBeOpen_76 rfl ?_
    refine a_iconst (v := nI 5) (pc' := 79) dX7_mayBeOpen_78 (by decide) rfl ?_
    refine k_VI (pc' := 82) (ct_X7_its (w := 5) (by omega) (by omega) _) cw_X7_72 mi_X7_its se_X7_its rfl rfl rfl rfl (by decide) (by decide) (Nat.le_of_ble_eq_true rfl) rfl dX7_mayBeOpen_79 rfl ?_
    refine a_if_ne (pc' := 85) (tgt := 100) dX7_mayBeOpen_82 (by decide) rfl (fun c_82 => ?_) (fun c_82 => ?_)
    · refine a_iconst (v := nI 0) (pc' := 101) dX7_mayBeOpen_100 (by decide) rfl ?_
      refine a_is_5_6 (pc' := 103) dX7_mayBeOpen_101 rfl ?_
      refine a_il_3_6 (pc' := 104) dX7_mayBeOpen_103 rfl ?_
      refine a_ifB_eq (pc' := 107) (tgt := 134) dX7_mayBeOpen_104 (by decide) rfl (fun c_104 => ?_) (fun c_104 => ?_)
      · refine a_iconst (v := nI 0) (pc' := 135) dX7_mayBeOpen_134 (by decide) rfl ?_
        refine a_is_3_6 (pc' := 136) dX7_mayBeOpen_135 rfl ?_
        refine a_iN_4_6 (m := p + 1) (pc' := 139) dX7_mayBeOpen_136 (nI_add _ _) rfl ?_
        refine a_goto (pc' := 64) dX7_mayBeOpen_139 (by decide) ?_
        try simp only [Nat.add_zero] at c_82 c_104
        refine ih (p + 1) false _ (by omega) ?_
        intro M9 h9
        have := hΦ M9 h9
        simpa [mbL, inP, ovP, c_82, c_104, -Int32.not_le, -Int32.not_lt] using this
      · refine a_il_5_6 (pc' := 109) dX7_mayBeOpen_107 rfl ?_
        refine a_if_eq (pc' := 112) (tgt := 130) dX7_mayBeOpen_109 (by decide) rfl (fun c_109 => ?_) (fun c_109 => absurd (by decide) c_109)
        refine a_iconst (v := nI 1) (pc' := 131) dX7_mayBeOpen_130 (by decide) rfl ?_
        refine a_goto (pc' := 135) dX7_mayBeOpen_131 (by decide) ?_
        refine a_is_3_6 (pc' := 136) dX7_mayBeOpen_135 rfl ?_
        refine a_iN_4_6 (m := p + 1) (pc' := 139) dX7_mayBeOpen_136 (nI_add _ _) rfl ?_
        refine a_goto (pc' := 64) dX7_mayBeOpen_139 (by decide) ?_
        try simp only [Nat.add_zero] at c_82 c_104
        refine ih (p + 1) true _ (by omega) ?_
        intro M9 h9
        have := hΦ M9 h9
        simpa [mbL, inP, ovP, c_82, c_104, -Int32.not_le, -Int32.not_lt] using this
    · refine a_al_0_6 (pc' := 86) dX7_mayBeOpen_85 rfl ?_
      refine a_il_4_6 (pc' := 88) dX7_mayBeOpen_86 rfl ?_
      refine a_iconst (v := nI 0) (pc' := 89) dX7_mayBeOpen_88 (by decide) rfl ?_
      refine k_VI (pc' := 92) (ct_X7_its (w := 0) (by omega) (by omega) _) cw_X7_72 mi_X7_its se_X7_its rfl rfl rfl rfl (by decide) (by decide) (Nat.le_of_ble_eq_true rfl) rfl dX7_mayBeOpen_89 rfl ?_
      refine a_il_1_6 (pc' := 93) dX7_mayBeOpen_92 rfl ?_
      refine a_icmp_ne (pc' := 96) (tgt := 100) dX7_mayBeOpen_93 (by decide) rfl (fun c_93 => ?_) (fun c_93 => ?_)
      · refine a_iconst (v := nI 0) (pc' := 101) dX7_mayBeOpen_100 (by decide) rfl ?_
        refine a_is_5_6 (pc' := 103) dX7_mayBeOpen_101 rfl ?_
        refine a_il_3_6 (pc' := 104) dX7_mayBeOpen_103 rfl ?_
        refine a_ifB_eq (pc' := 107) (tgt := 134) dX7_mayBeOpen_104 (by decide) rfl (fun c_104_2 => ?_) (fun c_104_2 => ?_)
        · refine a_iconst (v := nI 0) (pc' := 135) dX7_mayBeOpen_134 (by decide) rfl ?_
          refine a_is_3_6 (pc' := 136) dX7_mayBeOpen_135 rfl ?_
          refine a_iN_4_6 (m := p + 1) (pc' := 139) dX7_mayBeOpen_136 (nI_add _ _) rfl ?_
          refine a_goto (pc' := 64) dX7_mayBeOpen_139 (by decide) ?_
          try simp only [Nat.add_zero] at c_82 c_93 c_104_2
          refine ih (p + 1) false _ (by omega) ?_
          intro M9 h9
          have := hΦ M9 h9
          simpa [mbL, inP, ovP, c_82, c_93, c_104_2, -Int32.not_le, -Int32.not_lt] using this
        · refine a_il_5_6 (pc' := 109) dX7_mayBeOpen_107 rfl ?_
          refine a_if_eq (pc' := 112) (tgt := 130) dX7_mayBeOpen_109 (by decide) rfl (fun c_109_2 => ?_) (fun c_109_2 => absurd (by decide) c_109_2)
          refine a_iconst (v := nI 1) (pc' := 131) dX7_mayBeOpen_130 (by decide) rfl ?_
          refine a_goto (pc' := 135) dX7_mayBeOpen_131 (by decide) ?_
          refine a_is_3_6 (pc' := 136) dX7_mayBeOpen_135 rfl ?_
          refine a_iN_4_6 (m := p + 1) (pc' := 139) dX7_mayBeOpen_136 (nI_add _ _) rfl ?_
          refine a_goto (pc' := 64) dX7_mayBeOpen_139 (by decide) ?_
          try simp only [Nat.add_zero] at c_82 c_93 c_104_2
          refine ih (p + 1) true _ (by omega) ?_
          intro M9 h9
          have := hΦ M9 h9
          simpa [mbL, inP, ovP, c_82, c_93, c_104_2, -Int32.not_le, -Int32.not_lt] using this
      · refine a_iconst (v := nI 1) (pc' := 97) dX7_mayBeOpen_96 (by decide) rfl ?_
        refine a_goto (pc' := 101) dX7_mayBeOpen_97 (by decide) ?_
        refine a_is_5_6 (pc' := 103) dX7_mayBeOpen_101 rfl ?_
        refine a_il_3_6 (pc' := 104) dX7_mayBeOpen_103 rfl ?_
        refine a_ifB_eq (pc' := 107) (tgt := 134) dX7_mayBeOpen_104 (by decide) rfl (fun c_104_3 => ?_) (fun c_104_3 => ?_)
        · refine a_iconst (v := nI 0) (pc' := 135) dX7_mayBeOpen_134 (by decide) rfl ?_
          refine a_is_3_6 (pc' := 136) dX7_mayBeOpen_135 rfl ?_
          refine a_iN_4_6 (m := p + 1) (pc' := 139) dX7_mayBeOpen_136 (nI_add _ _) rfl ?_
          refine a_goto (pc' := 64) dX7_mayBeOpen_139 (by decide) ?_
          try simp only [Nat.add_zero] at c_82 c_93 c_104_3
          refine ih (p + 1) false _ (by omega) ?_
          intro M9 h9
          have := hΦ M9 h9
          simpa [mbL, inP, ovP, c_82, c_93, c_104_3, -Int32.not_le, -Int32.not_lt] using this
        · refine a_il_5_6 (pc' := 109) dX7_mayBeOpen_107 rfl ?_
          refine a_if_eq (pc' := 112) (tgt := 130) dX7_mayBeOpen_109 (by decide) rfl (fun c_109_3 => absurd c_109_3 (by decide)) (fun c_109_3 => ?_)
          refine a_al_0_6 (pc' := 113) dX7_mayBeOpen_112 rfl ?_
          refine a_il_4_6 (pc' := 115) dX7_mayBeOpen_113 rfl ?_
          refine a_bipush (v := nI 8) (pc' := 117) dX7_mayBeOpen_115 (by decide) rfl ?_
          refine k_VI (pc' := 120) (ct_X7_its (w := 8) (by omega) (by omega) _) cw_X7_72 mi_X7_its se_X7_its rfl rfl rfl rfl (by decide) (by decide) (Nat.le_of_ble_eq_true rfl) rfl dX7_mayBeOpen_117 rfl ?_
          refine a_al_0_6 (pc' := 121) dX7_mayBeOpen_120 rfl ?_
          refine a_il_4_6 (pc' := 123) dX7_mayBeOpen_121 rfl ?_
          refine a_iconst (v := nI 3) (pc' := 124) dX7_mayBeOpen_123 (by decide) rfl ?_
          refine k_VI (pc' := 127) (ct_X7_its (w := 3) (by omega) (by omega) _) cw_X7_72 mi_X7_its se_X7_its rfl rfl rfl rfl (by decide) (by decide) (Nat.le_of_ble_eq_true rfl) rfl dX7_mayBeOpen_124 rfl ?_
          refine a_icmp_gt (pc' := 130) (tgt := 134) dX7_mayBeOpen_127 (by decide) rfl (fun c_127 => ?_) (fun c_127 => ?_)
          · refine a_iconst (v := nI 0) (pc' := 135) dX7_mayBeOpen_134 (by decide) rfl ?_
            refine a_is_3_6 (pc' := 136) dX7_mayBeOpen_135 rfl ?_
            refine a_iN_4_6 (m := p + 1) (pc' := 139) dX7_mayBeOpen_136 (nI_add _ _) rfl ?_
            refine a_goto (pc' := 64) dX7_mayBeOpen_139 (by decide) ?_
            try simp only [Nat.add_zero] at c_82 c_93 c_104_3 c_127
            have e9 := Int32.not_le.mpr c_127
            refine ih (p + 1) false _ (by omega) ?_
            intro M9 h9
            have := hΦ M9 h9
            simpa [mbL, inP, ovP, c_82, c_93, c_104_3, e9, -Int32.not_le, -Int32.not_lt] using this
          · refine a_iconst (v := nI 1) (pc' := 131) dX7_mayBeOpen_130 (by decide) rfl ?_
            refine a_goto (pc' := 135) dX7_mayBeOpen_131 (by decide) ?_
            refine a_is_3_6 (pc' := 136) dX7_mayBeOpen_135 rfl ?_
            refine a_iN_4_6 (m := p + 1) (pc' := 139) dX7_mayBeOpen_136 (nI_add _ _) rfl ?_
            refine a_goto (pc' := 64) dX7_mayBeOpen_139 (by decide) ?_
            try simp only [Nat.add_zero] at c_82 c_93 c_104_3 c_127
            have e9 := Int32.not_lt.mp c_127
            refine ih (p + 1) true _ (by omega) ?_
            intro M9 h9
            have := hΦ M9 h9
            simpa [mbL, inP, ovP, c_82, c_93, c_104_3, e9, -Int32.not_le, -Int32.not_lt] using this
set_option maxRecDepth 20000 in
set_option maxHeartbeats 4000000 in
theorem lp_X7_may1 {G : Gl} {Φ : Option OV → Mm → Prop} {nv np v m : Nat} (hn : nv ≤ 3) (hm : np ≤ 12) (hv : v < 3) (hm60 : m ≤ 60) (M0 : Mm) (hr0 : M0 60 1 = nI 1) (x4 x5 : Option OV) : ∀ (n p : Nat) (t : Nat) (M : Mm), p + n = 60 → (keepT M0 M) → (M 50 0 = nI nv) → (M 50 1 = nI np) → (∃ T, Good (M 50) t T) → (∀ M9, keepQ M0 M9 → Φ (some (.inl (bI (mbL (opT nv v m n p t (M 50)) v np 0 true)))) M9) → AW G cX7_mayBeOpen RX7 6 6 140 (some .boolean) Φ 18 [some (.inr (7, 0, 0, 0)), some (.inl (nI v)), some (.inl (nI m)), some (.inl (nI p)), x4, x5] [] M := by
  intro n
  induction n with
  | zero =>
    intro p t M he hT h0 h1 hg hΦ
    have hr : M 60 1 = nI 0 := by rw [hT.2.1]; rfl
    refine a_il_3_6 (pc' := 19) dX7_mayBeOpen_18 rfl ?_
    refine a_bipush (v := nI 60) (pc' := 21) dX7_mayBeOpen_19 (by decide) rfl ?_
    refine a_icmp_ge (pc' := 24) (tgt := 59) dX7_mayBeOpen_21 (by decide) rfl (fun c_21 => ?_) (fun c_21 => absurd (nI_le (by omega) (by omega)) c_21)
    refine a_iconst (v := nI 1) (pc' := 60) dX7_mayBeOpen_59 (by decide) rfl ?_
    refine a_is_3_6 (pc' := 61) dX7_mayBeOpen_60 rfl ?_
    refine a_iconst (v := nI 0) (pc' := 62) dX7_mayBeOpen_61 (by decide) rfl ?_
    refine a_is_4_6 (pc' := 64) dX7_mayBeOpen_62 rfl ?_
    refine lp_X7_may2 hm M0 M hr0 hT h1 np 0 true _ (by omega) hΦ
  | succ n ih =>
    intro p t M he hT h0 h1 hg hΦ
    have hr : M 60 1 = nI 0 := by rw [hT.2.1]; rfl
    refine a_il_3_6 (pc' := 19) dX7_mayBeOpen_18 rfl ?_
    refine a_bipush (v := nI 60) (pc' := 21) dX7_mayBeOpen_19 (by decide) rfl ?_
    refine a_icmp_ge (pc' := 24) (tgt := 59) dX7_mayBeOpen_21 (by decide) rfl (fun c_21 => absurd c_21 (nI_ge (by omega) (by omega))) (fun c_21 => ?_)
    refine a_al_0_6 (pc' := 25) dX7_mayBeOpen_24 rfl ?_
    refine gf_7_0 (pc' := 28) fl_X7_7 dX7_mayBeOpen_25 rfl ?_
    refine a_bipush (v := nI 6) (pc' := 30) dX7_mayBeOpen_28 (by decide) rfl ?_
    refine a_bipush (v := nI 19) (pc' := 32) dX7_mayBeOpen_30 (by decide) rfl ?_
    refine a_il_1_6 (pc' := 33) dX7_mayBeOpen_32 rfl ?_
    refine a_imulN (pc' := 34) dX7_mayBeOpen_33 rfl ?_
    refine a_iaddN (pc' := 35) dX7_mayBeOpen_34 rfl ?_
    refine a_iconst (v := nI 2) (pc' := 36) dX7_mayBeOpen_35 (by decide) rfl ?_
    refine a_iaddN (pc' := 37) dX7_mayBeOpen_36 rfl ?_
    refine a_il_3_6 (pc' := 38) dX7_mayBeOpen_37 rfl ?_
    refine a_il_2_6 (pc' := 39) dX7_mayBeOpen_38 rfl ?_
    refine a_icmp_ge (pc' := 42) (tgt := 46) dX7_mayBeOpen_39 (by decide) rfl (fun c_39 => ?_) (fun c_39 => ?_)
    · refine a_iconst (v := nI 0) (pc' := 47) dX7_mayBeOpen_46 (by decide) rfl ?_
      refine a_iastN (pc' := 48) rfl (by omega) (by decide) dX7_mayBeOpen_47 rfl ?_
      refine a_al_0_6 (pc' := 49) dX7_mayBeOpen_48 rfl ?_
      refine k_VI (pc' := 52) (ct_X7_minute0 hn hm (t := t) _ (by rw [wr_eq, setR_same, upd_at, if_neg (by omega)]; exact h0) (by rw [wr_eq, setR_same, upd_at, if_neg (by omega)]; exact h1) (by obtain ⟨T, hg⟩ := hg; exact ⟨T, by rw [wr_eq, setR_same]; exact hg.put 8 (kd_v (j := 2) hv (by decide)) (Or.inl rfl)⟩) (by rw [wr_eq, setR_ne _ _ (by decide)]; exact hr)) cw_X7_101 mi_X7_minute se_X7_minute rfl rfl rfl rfl (by decide) (by decide) (Nat.le_of_ble_eq_true rfl) rfl dX7_mayBeOpen_49 rfl ?_
      refine a_pop (pc' := 53) dX7_mayBeOpen_52 rfl ?_
      refine a_iN_3_6 (m := p + 1) (pc' := 56) dX7_mayBeOpen_53 (nI_add _ _) rfl ?_
      refine a_goto (pc' := 18) dX7_mayBeOpen_56 (by decide) ?_
      have hcm : (if m ≤ p then nI 0 else nI 1) = nI 0 := if_pos ((nI_leI (by omega) (by omega)).mp c_39)
      obtain ⟨k0, k1, k2, k3⟩ := mMin_ok (r := false) hn (M := wr M 50 (6 + 19 * v + 2) (nI 0)) (by rw [wr_eq, setR_same, upd_at, if_neg (by omega)]; exact h0) (by rw [wr_eq, setR_same, upd_at, if_neg (by omega)]; exact h1) (by obtain ⟨T, hg⟩ := hg; exact ⟨T, by rw [wr_eq, setR_same]; exact hg.put 8 (kd_v (j := 2) hv (by decide)) (Or.inl rfl)⟩) (by rw [wr_eq, setR_ne _ _ (by decide)]; exact hr)
      refine ih (p + 1) (t + 1) _ (by omega) (hT.wr50.min nv t) k0 k1 k2 ?_
      intro M9 h9
      have := hΦ M9 h9
      rw [mMin_T, wr_eq, setR_same]
      simpa [opT, hcm] using this
    · refine a_iconst (v := nI 1) (pc' := 43) dX7_mayBeOpen_42 (by decide) rfl ?_
      refine a_goto (pc' := 47) dX7_mayBeOpen_43 (by decide) ?_
      refine a_iastN (pc' := 48) rfl (by omega) (by decide) dX7_mayBeOpen_47 rfl ?_
      refine a_al_0_6 (pc' := 49) dX7_mayBeOpen_48 rfl ?_
      refine k_VI (pc' := 52) (ct_X7_minute0 hn hm (t := t) _ (by rw [wr_eq, setR_same, upd_at, if_neg (by omega)]; exact h0) (by rw [wr_eq, setR_same, upd_at, if_neg (by omega)]; exact h1) (by obtain ⟨T, hg⟩ := hg; exact ⟨T, by rw [wr_eq, setR_same]; exact hg.put 8 (kd_v (j := 2) hv (by decide)) (Or.inr rfl)⟩) (by rw [wr_eq, setR_ne _ _ (by decide)]; exact hr)) cw_X7_101 mi_X7_minute se_X7_minute rfl rfl rfl rfl (by decide) (by decide) (Nat.le_of_ble_eq_true rfl) rfl dX7_mayBeOpen_49 rfl ?_
      refine a_pop (pc' := 53) dX7_mayBeOpen_52 rfl ?_
      refine a_iN_3_6 (m := p + 1) (pc' := 56) dX7_mayBeOpen_53 (nI_add _ _) rfl ?_
      refine a_goto (pc' := 18) dX7_mayBeOpen_56 (by decide) ?_
      have hcm : (if m ≤ p then nI 0 else nI 1) = nI 1 := if_neg (fun w9 => c_39 (nI_le w9 (by omega)))
      obtain ⟨k0, k1, k2, k3⟩ := mMin_ok (r := false) hn (M := wr M 50 (6 + 19 * v + 2) (nI 1)) (by rw [wr_eq, setR_same, upd_at, if_neg (by omega)]; exact h0) (by rw [wr_eq, setR_same, upd_at, if_neg (by omega)]; exact h1) (by obtain ⟨T, hg⟩ := hg; exact ⟨T, by rw [wr_eq, setR_same]; exact hg.put 8 (kd_v (j := 2) hv (by decide)) (Or.inr rfl)⟩) (by rw [wr_eq, setR_ne _ _ (by decide)]; exact hr)
      refine ih (p + 1) (t + 1) _ (by omega) (hT.wr50.min nv t) k0 k1 k2 ?_
      intro M9 h9
      have := hΦ M9 h9
      rw [mMin_T, wr_eq, setR_same]
      simpa [opT, hcm] using this
set_option maxRecDepth 20000 in
set_option maxHeartbeats 4000000 in
theorem ct_X7_mayBeOpen {nv np v m t : Nat} (hn : nv ≤ 3) (hm : np ≤ 12) (hv : v < 3) (hm60 : m ≤ 60) (M : Mm) (h0 : M 50 0 = nI nv) (h1 : M 50 1 = nI np) (hg : ∃ T, Good (M 50) t T) (hr : M 60 1 = nI 1) : Ct yX7_mayBeOpen cX7_mayBeOpen 6 (some .boolean) 6 140 [.inr (7, 0, 0, 0), .inl (nI v), .inl (nI m)] M (fun v9 M' => v9 = some (.inl (bI (mbL (opT nv v m 60 0 t (M 50)) v np 0 true))) ∧ keepQ M M') := by
  refine Ct.at RX7 rfl (by decide +kernel) (Nat.le_of_ble_eq_true rfl) [some (.inr (7, 0, 0, 0)), some (.inl (nI v)), some (.inl (nI m)), none, none, none] rfl (fun G => ?_)
  refine a_al_0_6 (pc' := 1) dX7_mayBeOpen_0 rfl ?_
  refine gf_7_3 (pc' := 4) fl_X7_19 dX7_mayBeOpen_1 rfl ?_
  refine a_al_0_6 (pc' := 5) dX7_mayBeOpen_4 rfl ?_
  refine gf_7_0 (pc' := 8) fl_X7_7 dX7_mayBeOpen_5 rfl ?_
  refine k_SV (pc' := 11) (ct_X7_copies (r := 53) (r' := 50) rfl rfl (by decide) _) cw_X7_35 ms_X7_copies rfl (by decide) (by decide) (Nat.le_of_ble_eq_true rfl) rfl dX7_mayBeOpen_8 rfl ?_
  refine a_al_0_6 (pc' := 12) dX7_mayBeOpen_11 rfl ?_
  refine a_iconst (v := nI 0) (pc' := 13) dX7_mayBeOpen_12 (by decide) rfl ?_
  refine pf_7_6 (pc' := 16) (Or.inl rfl) fl_X7_25 dX7_mayBeOpen_13 rfl ?_
  refine a_iconst (v := nI 0) (pc' := 17) dX7_mayBeOpen_16 (by decide) rfl ?_
  refine a_is_3_6 (pc' := 18) dX7_mayBeOpen_17 rfl ?_
  refine lp_X7_may1 hn hm hv hm60 M hr _ _ 60 0 t _ (by omega) (keepT.start M) (by rw [keepT_50]; exact h0) (by rw [keepT_50]; exact h1) (by rw [keepT_50]; exact hg) ?_
  intro M9 h9
  rw [keepT_50]
  exact ⟨rfl, h9⟩
set_option maxRecDepth 20000 in
set_option maxHeartbeats 4000000 in
theorem lp_X7_longestOpen {G : Gl} {Φ : Option OV → Mm → Prop} {nv np v t : Nat} (hn : nv ≤ 3) (hm : np ≤ 12) (hv : v < 3) (M0 : Mm) : ∀ (m : Nat) (M : Mm), m ≤ 60 → M 50 0 = nI nv → M 50 1 = nI np → (∃ T, Good (M 50) t T) → M 60 1 = nI 1 → keepQ M0 M → (∀ M9, keepQ M0 M9 → Φ (some (.inl (lgT nv np t (M 50) v m))) M9) → AW G cX7_longestOpen RX7 3 7 165 (some .int) Φ 14 [some (.inr (7, 0, 0, 0)), some (.inl (nI v)), some (.inl (nI m))] [] M := by
  intro m
  induction m with
  | zero =>
    intro M hm9 h0 h1 hg hr hQ hΦ
    refine a_il_2_3 (pc' := 15) dX7_longestOpen_14 rfl ?_
    refine a_if_lt (pc' := 18) (tgt := 35) dX7_longestOpen_15 (by decide) rfl (fun c_15 => absurd c_15 (by decide)) (fun c_15 => ?_)
    refine a_al_0_3 (pc' := 19) dX7_longestOpen_18 rfl ?_
    refine a_il_1_3 (pc' := 20) dX7_longestOpen_19 rfl ?_
    refine a_il_2_3 (pc' := 21) dX7_longestOpen_20 rfl ?_
    refine k_VQ (pc' := 24) (ct_X7_mayBeOpen hn hm hv (m := 0) (t := t) (by omega) _ h0 h1 hg hr) cw_X7_188 mi_X7_mayBeOpen se_X7_mayBeOpen rfl rfl rfl rfl (by decide) (by decide) (Nat.le_of_ble_eq_true rfl) rfl dX7_longestOpen_21 rfl (fun M_21 hq_21 => ?_)
    refine a_ext50 (M9 := setR M_21 50 (M 50)) (fun r h => (setR_ne _ _ h).symm) (fun i hi => by rw [setR_same]; exact hq_21.2 i hi) ?_
    have hQ2 := hQ.trans (keepQ.fix hq_21)
    refine a_ifB_eq (pc' := 27) (tgt := 29) dX7_longestOpen_24 (by decide) rfl (fun c_24 => ?_) (fun c_24 => ?_)
    · refine a_in_2_3 (c9 := (-1)) (pc' := 32) dX7_longestOpen_29 (by decide) rfl ?_
      refine a_goto (pc' := 14) dX7_longestOpen_32 (by decide) ?_
      refine a_il_2_3 (pc' := 15) dX7_longestOpen_14 rfl ?_
      refine a_if_lt (pc' := 18) (tgt := 35) dX7_longestOpen_15 (by decide) rfl (fun c_15_2 => ?_) (fun c_15_2 => absurd (by decide) c_15_2)
      refine a_ldc (pc' := 37) dX7_longestOpen_35 cn_X7_183 rfl ?_
      refine a_iret dX7_longestOpen_37 rfl rfl ?_
      have := hΦ _ hQ2
      simpa [lgT, c_24] using this
    · refine a_il_2_3 (pc' := 28) dX7_longestOpen_27 rfl ?_
      refine a_iret dX7_longestOpen_28 rfl rfl ?_
      have := hΦ _ hQ2
      simpa [lgT, c_24] using this
  | succ m ih =>
    intro M hm9 h0 h1 hg hr hQ hΦ
    refine a_il_2_3 (pc' := 15) dX7_longestOpen_14 rfl ?_
    refine a_if_lt (pc' := 18) (tgt := 35) dX7_longestOpen_15 (by decide) rfl (fun c_15 => absurd c_15 (nI_pos (by omega))) (fun c_15 => ?_)
    refine a_al_0_3 (pc' := 19) dX7_longestOpen_18 rfl ?_
    refine a_il_1_3 (pc' := 20) dX7_longestOpen_19 rfl ?_
    refine a_il_2_3 (pc' := 21) dX7_longestOpen_20 rfl ?_
    refine k_VQ (pc' := 24) (ct_X7_mayBeOpen hn hm hv (m := m + 1) (t := t) (by omega) _ h0 h1 hg hr) cw_X7_188 mi_X7_mayBeOpen se_X7_mayBeOpen rfl rfl rfl rfl (by decide) (by decide) (Nat.le_of_ble_eq_true rfl) rfl dX7_longestOpen_21 rfl (fun M_21 hq_21 => ?_)
    refine a_ext50 (M9 := setR M_21 50 (M 50)) (fun r h => (setR_ne _ _ h).symm) (fun i hi => by rw [setR_same]; exact hq_21.2 i hi) ?_
    have hQ2 := hQ.trans (keepQ.fix hq_21)
    refine a_ifB_eq (pc' := 27) (tgt := 29) dX7_longestOpen_24 (by decide) rfl (fun c_24 => ?_) (fun c_24 => ?_)
    · refine a_iN_2_3 (m := m) (pc' := 32) dX7_longestOpen_29 (pk_m1 _) rfl ?_
      refine a_goto (pc' := 14) dX7_longestOpen_32 (by decide) ?_
      refine ih _ (by omega) (by rw [setR_same]; exact h0) (by rw [setR_same]; exact h1) (by rw [setR_same]; exact hg) (by rw [setR_ne _ _ (by decide), hq_21.1 60 (by decide) (by decide)]; exact hr) hQ2 ?_
      intro M9 h9
      have := hΦ M9 h9
      rw [setR_same]
      simpa [lgT, c_24] using this
    · refine a_il_2_3 (pc' := 28) dX7_longestOpen_27 rfl ?_
      refine a_iret dX7_longestOpen_28 rfl rfl ?_
      have := hΦ _ hQ2
      simpa [lgT, c_24] using this
set_option maxRecDepth 20000 in
set_option maxHeartbeats 4000000 in
theorem ct_X7_longestOpen {nv np t : Nat} (hn : nv ≤ 3) (hm : np ≤ 12) (ht : t ≤ 600) (x : Int32) (M : Mm) (h0 : M 50 0 = nI nv) (h1 : M 50 1 = nI np) (hg : ∃ T, Good (M 50) t T) (hr : M 60 1 = nI 1) : Ct yX7_longestOpen cX7_longestOpen 3 (some .int) 7 165 [.inr (7, 0, 0, 0), .inl x] M (fun v M' => v = some (.inl (mlgR (M 50) x)) ∧ keepQ M M') := by
  have h2 : M 50 2 = nI t := by obtain ⟨T, hg⟩ := hg; exact hg.n2
  have hct : vN (nI t) = t := vN_nI (by omega)
  have hnv : nvF (M 50) = nv := by unfold nvF; rw [h0]; exact nI_clamp (by omega)
  have hnp : npF (M 50) = np := by unfold npF; rw [h1]; exact nI_clamp (by omega)
  refine Ct.at RX7 rfl (by decide +kernel) (Nat.le_of_ble_eq_true rfl) [some (.inr (7, 0, 0, 0)), some (.inl x), none] rfl (fun G => ?_)
  refine a_al_0_3 (pc' := 1) dX7_longestOpen_0 rfl ?_
  refine a_il_1_3 (pc' := 2) dX7_longestOpen_1 rfl ?_
  refine k_VI (pc' := 5) (ct_X7_isVan (by omega) _ _ (by assumption)) cw_X7_88 mi_X7_isVan se_X7_isVan rfl rfl rfl rfl (by decide) (by decide) (Nat.le_of_ble_eq_true rfl) rfl dX7_longestOpen_2 rfl ?_
  refine a_ifB_ne (pc' := 8) (tgt := 11) dX7_longestOpen_5 (by decide) rfl (fun c_5 => ?_) (fun c_5 => ?_)
  · obtain ⟨v, hv, rfl⟩ := hvS_nI c_5 h0 (by omega)
    have hcl : vN (nI v) = v := vN_nI (by omega)
    refine a_bipush (v := nI 60) (pc' := 13) dX7_longestOpen_11 (by decide) rfl ?_
    refine a_is_2_3 (pc' := 14) dX7_longestOpen_13 rfl ?_
    refine lp_X7_longestOpen hn hm (by omega) M 60 _ (by decide) h0 h1 hg hr (keepQ.refl M) ?_
    intro M9 h9
    exact ⟨by simp [mlgR, c_5, hcl, hnv, hnp, h2, hct], h9⟩
  · refine a_ldc (pc' := 10) dX7_longestOpen_8 cn_X7_92 rfl ?_
    refine a_iret dX7_longestOpen_10 rfl rfl ?_
    exact ⟨by simp [mlgR, c_5], keepQ.refl M⟩
