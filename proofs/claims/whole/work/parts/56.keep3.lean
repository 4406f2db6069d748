/-! KEEP3: new vans, new pallets. -/
theorem QW.new {F : Nat → Int32} {t T : Nat} (h : Good F t T) (hq : QW F) (sp c : Int32) : QW (newF F sp c) := by
  unfold newF
  split
  · split
    · rename_i hl
      obtain ⟨hn, e⟩ := h.nv
      have hm := h.np.1
      have hv : nvF F < 3 := (nI_ltI (by omega) (by decide)).mp (by rw [← e]; exact hl)
      have hd : ∀ i, i ≠ 0 → i < 6 ∨ 63 ≤ i → upd (startV F (nvF F) sp c (F 2)) 0 (F 0 + nI 1) i = F i := fun i h0 hi => by rw [upd_at, if_neg h0, startV_hi _ _ _ _ hv hi]
      have e1 := npF_eq (hd 1 (by decide) (by omega))
      have e0 : nvF (upd (startV F (nvF F) sp c (F 2)) 0 (F 0 + nI 1)) = nvF F + 1 := by
        show (upd (startV F (nvF F) sp c (F 2)) 0 (F 0 + nI 1) 0).toNatClampNeg = _
        rw [upd_at, if_pos rfl, e, nI_add]
        exact nI_clamp (by omega)
      refine ⟨hq.1.of e1 (fun p hp x z hi => ?_), fun p hp => ?_⟩
      · unfold inZ inP at hi ⊢
        rw [hd _ (by omega) (by omega), hd _ (by omega) (by omega), hd _ (by omega) (by omega)] at hi
        exact hi
      · rw [e1] at hp
        obtain ⟨v, hv2, ev⟩ := hq.2 p hp
        exact ⟨v, by rw [e0]; omega, by rw [hd _ (by omega) (by omega)]; exact ev⟩
    · exact hq
  · exact hq
theorem cz_eq {F F' : Nat → Int32} {x z : Int32} (n : Nat) (h : ∀ p, p < n → inZ F' p x z = inZ F p x z) : cz F' x z n = cz F x z n := by
  induction n with
  | zero => rfl
  | succ n ih =>
    unfold cz
    rw [ih (fun p hp => h p (by omega)), h n (by omega)]
theorem QW.ld {F : Nat → Int32} {t T : Nat} (h : Good F t T) (hq : QW F) (x z l a w : Int32) : QW (ldF F x z l a w) := by
  unfold ldF
  split
  · rename_i hb
    split
    · exact hq
    · split
      · rename_i hc
        obtain ⟨hn, e⟩ := h.np
        have hp := ldC_np e hn hc
        simp only [ldB, Bool.and_eq_true] at hb
        obtain ⟨⟨⟨b1, b2⟩, b3⟩, b4⟩ := hb
        have b1' := b1
        obtain ⟨v, k, hv, hk, rfl, rfl, e1, e2⟩ := h.zone b1
        have hvn : v < nvF F := by
          unfold hzS at b1'
          rw [Bool.and_eq_true] at b1'
          obtain ⟨v2, hv2, -, e3, -⟩ := h.van b1'.1
          have := (nI_eqm v v2).mp e3
          have := h.nv.1
          omega
        have hd : ∀ i, i ≠ 1 → i < 63 + 10 * npF F ∨ 63 + 10 * npF F + 10 ≤ i → upd (startP F (npF F) (nI v) (nI k) l a w) 1 (F 1 + nI 1) i = F i := fun i h1 hi => by rw [upd_at, if_neg h1, startP_ne _ _ _ _ _ _ hi]
        have en : npF (upd (startP F (npF F) (nI v) (nI k) l a w) 1 (F 1 + nI 1)) = npF F + 1 := by
          show (upd (startP F (npF F) (nI v) (nI k) l a w) 1 (F 1 + nI 1) 1).toNatClampNeg = _
          rw [upd_at, if_pos rfl, e, nI_add]
          exact nI_clamp (by omega)
        have e0 := nvF_eq (hd 0 (by decide) (by omega))
        have c0 : upd (startP F (npF F) (nI v) (nI k) l a w) 1 (F 1 + nI 1) (63 + 10 * npF F) = nI v := by
          rw [upd_at, if_neg (by omega)]
          unfold startP
          simp only [upd_at]
          repeat (first | rw [if_neg (by omega)] | rw [if_pos True.intro] | rw [if_pos rfl])
        have c1 : upd (startP F (npF F) (nI v) (nI k) l a w) 1 (F 1 + nI 1) (63 + 10 * npF F + 1) = nI k := by
          rw [upd_at, if_neg (by omega)]
          unfold startP
          simp only [upd_at]
          repeat (first | rw [if_neg (by omega)] | rw [if_pos True.intro] | rw [if_pos rfl])
        refine ⟨fun v2 k2 hv2 hk2 => ?_, fun p hp2 => ?_⟩
        · rw [en]
          have hold : cz (upd (startP F (npF F) (nI v) (nI k) l a w) 1 (F 1 + nI 1)) (nI v2) (nI k2) (npF F) = cz F (nI v2) (nI k2) (npF F) := cz_eq _ (fun p hp2 => by
            unfold inZ inP
            rw [hd _ (by omega) (by omega), hd _ (by omega) (by omega), hd _ (by omega) (by omega)])
          have h3 := hq.1 v2 k2 hv2 hk2
          unfold cz
          rw [hold]
          by_cases hi : inZ (upd (startP F (npF F) (nI v) (nI k) l a w) 1 (F 1 + nI 1)) (npF F) (nI v2) (nI k2) = true
          · rw [if_pos hi]
            unfold inZ inP at hi
            rw [c0, c1] at hi
            simp only [Bool.and_eq_true, decide_eq_true_eq] at hi
            have hvv : v = v2 := by have := (nI_eqm v v2).mp hi.1.2; omega
            have hkk : k = k2 := by have := (nI_eqm k k2).mp hi.2; omega
            subst hvv
            subst hkk
            have hc2 := hc
            unfold ldC at hc2
            rw [Bool.and_eq_true, decide_eq_true_eq] at hc2
            have e5 := (pz_cz F (nI v) (nI k) (npF F) 0 0).1
            rw [Nat.zero_add, Nat.zero_add, show cz F (nI v) (nI k) 0 = 0 from rfl, Nat.sub_zero] at e5
            have hlt := hc2.2
            rw [e5] at hlt
            have := (nI_ltI (by omega) (by decide)).mp hlt
            omega
          · rw [if_neg hi]; omega
        · rw [en] at hp2
          rw [e0]
          by_cases e3 : p = npF F
          · subst e3; exact ⟨v, hvn, c0⟩
          · obtain ⟨v2, hv2, ev⟩ := hq.2 p (by omega)
            exact ⟨v2, hv2, by rw [hd _ (by omega) (by omega)]; exact ev⟩
      · exact hq
  · exact hq
/-- a state as it is between two calls -/
def GX (F : Nat → Int32) : Prop := GG F ∧ QW F
theorem GX.num {F : Nat → Int32} (h : GX F) (w x : Int32) : GX (numF F w x) := by
  obtain ⟨⟨t, ht, h⟩, q⟩ := h
  exact ⟨⟨t, ht, h.num w x⟩, q.sam h.np.1 (samP.num F w x)⟩
theorem GX.setv {F : Nat → Int32} (h : GX F) (x sp c : Int32) : GX (vanF F x sp c) := by
  obtain ⟨⟨t, ht, h⟩, q⟩ := h
  exact ⟨⟨t, ht, h.setv x sp c⟩, q.sam h.np.1 (samP.setv h x sp c)⟩
theorem GX.prb {F : Nat → Int32} (h : GX F) (x z m y : Int32) : GX (prbF F x z m y) := by
  obtain ⟨⟨t, ht, h⟩, q⟩ := h
  exact ⟨⟨t, ht, h.prb x z m y⟩, q.sam h.np.1 (samP.prb h x z m y)⟩
theorem GX.rep {F : Nat → Int32} (h : GX F) (x z : Int32) : GX (repF F x z) := by
  obtain ⟨⟨t, ht, h⟩, q⟩ := h
  exact ⟨⟨t, ht, h.rep x z⟩, q.sam h.np.1 (samP.rep h x z)⟩
theorem GX.dr {F : Nat → Int32} (h : GX F) (x y : Int32) : GX (drF F x y) := by
  obtain ⟨⟨t, ht, h⟩, q⟩ := h
  exact ⟨⟨t, ht, h.dr x y⟩, q.sam h.np.1 (samP.dr h x y)⟩
theorem GX.dl {F : Nat → Int32} (h : GX F) (x : Int32) : GX (dlF F x) := by
  obtain ⟨⟨t, ht, h⟩, q⟩ := h
  exact ⟨⟨t, ht, h.dl x⟩, q.dl h x⟩
theorem GX.dt {F : Nat → Int32} (h : GX F) (s c : Int32) : GX (dtF F s c) := by
  obtain ⟨⟨t, ht, h⟩, q⟩ := h
  exact ⟨⟨t, ht, h.dt s c⟩, q.dt h.np.1 s c⟩
theorem GX.new {F : Nat → Int32} (h : GX F) (sp c : Int32) : GX (newF F sp c) := by
  obtain ⟨⟨t, ht, h⟩, q⟩ := h
  exact ⟨⟨t, ht, h.new sp c⟩, q.new h sp c⟩
theorem GX.ld {F : Nat → Int32} (h : GX F) (x z l a w : Int32) : GX (ldF F x z l a w) := by
  obtain ⟨⟨t, ht, h⟩, q⟩ := h
  exact ⟨⟨t, ht, h.ld x z l a w⟩, q.ld h x z l a w⟩
theorem GX.ps {F : Nat → Int32} (h : GX F) (x : Int32) : GX (psF F x) := by
  have hq := h
  obtain ⟨⟨t, ht, hg⟩, q⟩ := h
  exact ⟨hq.1.ps x, q.sam hg.np.1 (samP.ps hg x)⟩
theorem GX.ex {F : Nat → Int32} (h : GX F) (c f s : Int32) : GX (exF F c f s) := by
  unfold exF
  split
  · exact h.dr _ _
  · split
    · exact h.dl _
    · split
      · exact h.dr _ _
      · split
        · exact h.ps _
        · exact h.rep _ _
