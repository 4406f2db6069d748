/-! STEPS4: running a script on both sides. -/
theorem cmN {T : Nat → Int32} {n c : Nat} (hb : cmOK T n (pth T n c) = false) : ¬ (pth T n c < n ∧ cmOK T n (pth T n c) = true) := fun q => by rw [hb] at q; exact absurd q.2 (by decide)
theorem cmL {T : Nat → Int32} {n c : Nat} (hp : n ≤ pth T n c) : ¬ (pth T n c < n ∧ cmOK T n (pth T n c) = true) := fun q => by omega
/-- both sides find the text wrong, or none does; at the same place -/
theorem read_same {M M1 : Mm} {fr n len : Nat} (h : REL M fr n len) {v v' : Option OV} {M2 : Mm} (hc : rsQ M len fr v M1) (hT : M1 55 = M 55)
    (hm : msQ M1 len n v' M2) :
    (∃ c, v = v' ∧ v = some (.inl ((-200000) - nI (cmE (M 22) len (pth (M 22) len c)))) ∧ (∀ r, r ≠ 21 → r ≠ 23 → r ≠ 24 → r ≠ 25 → M1 r = M r) ∧ M1 21 0 = nI len ∧ (∀ q, q ≠ 56 → q ≠ 60 → M2 q = M1 q) ∧ (∀ i, i ≠ 3 → i ≠ 4 → M2 60 i = M1 60 i)) ∨
    (∃ c R1, c ≤ 80 ∧ (∀ j, j < c → pth (M 22) len j < len ∧ cmOK (M 22) len (pth (M 22) len j) = true) ∧ R1 21 0 = nI len ∧ (∀ r, r ≠ 21 → r ≠ 23 → r ≠ 24 → r ≠ 25 → R1 r = M r) ∧ (∀ j, j < c → R1 23 j = M 22 (pth (M 22) len j) ∧ R1 24 j = nI (cm1 (M 22) len (pth (M 22) len j)) ∧ (M 22 (pth (M 22) len j) = nI 114 → R1 25 j = nI (cm2 (M 22) len (pth (M 22) len j)))) ∧ v = some (.inl (exA (exL c 0 (ntM R1)).1 c)) ∧ M1 = exZ (exL c 0 (ntM R1)) c fr ∧ msZ len c n (rmL (M 22) len c 0 (hM M1)) v' M2) := by
  have e55 : M1 55 = M 22 := hT.trans h.text
  unfold msQ at hm
  rw [e55] at hm
  rcases hc with ⟨c, hv, hp, hb, hok, ho, hl⟩ | ⟨c, R1, hc80, hok, hp, hl, ho, ha, hv, hM⟩
  · rcases hm with ⟨c', hv', hp', hb', hok', ho', h6'⟩ | ⟨c', hok', hp', hz⟩
    · have := pth_uniq hok hok' (cmN hb) (cmN hb')
      subst this
      exact Or.inl ⟨c, hv.trans hv'.symm, hv, ho, hl, ho', h6'⟩
    · have := pth_uniq hok hok' (cmN hb) (cmL hp')
      subst this
      omega
  · rcases hm with ⟨c', hv', hp', hb', hok', ho', h6'⟩ | ⟨c', hok', hp', hz⟩
    · have := pth_uniq hok hok' (cmL hp) (cmN hb')
      subst this
      omega
    · have := pth_uniq hok hok' (cmL hp) (cmL hp')
      subst this
      exact Or.inr ⟨c, R1, hc80, hok, hl, ho, ha, hv, hM, hz⟩
/-- a text that is wrong changes nothing that counts -/
theorem REL.wrong {M M1 M2 : Mm} {fr n len : Nat} (h : REL M fr n len) (hl : LR M) (ho : ∀ r, r ≠ 21 → r ≠ 23 → r ≠ 24 → r ≠ 25 → M1 r = M r) (h21 : M1 21 0 = nI len) (ho2 : ∀ q, q ≠ 56 → q ≠ 60 → M2 q = M1 q) (h6 : ∀ i, i ≠ 3 → i ≠ 4 → M2 60 i = M1 60 i) : REL M2 fr n len ∧ LR M2 := by
  have hfr := h.frlt
  have m : ∀ r, r ≠ 21 → r ≠ 23 → r ≠ 24 → r ≠ 25 → r ≠ 56 → r ≠ 60 → M2 r = M r := fun r a b c d e f => (ho2 r e f).trans (ho r a b c d)
  have m6 : ∀ i, i < 3 → M2 60 i = M 60 i := fun i hi => (h6 i (by omega) (by omega)).trans (by rw [ho 60 (by decide) (by decide) (by decide) (by decide)])
  have s : ∀ r, r < 9 → M2 r = M r := fun r hr => m r (by omega) (by omega) (by omega) (by omega) (by omega) (by omega)
  refine ⟨⟨by rw [m 50 (by decide) (by decide) (by decide) (by decide) (by decide) (by decide), s 0 (by decide)]; exact h.same, by rw [s 0 (by decide)]; exact h.good, h.logs.congr (fun r a b => m r (by omega) (by omega) (by omega) (by omega) (by omega) (by omega)) (m 54 (by decide) (by decide) (by decide) (by decide) (by decide) (by decide)), by rw [m 55 (by decide) (by decide) (by decide) (by decide) (by decide) (by decide), m 22 (by decide) (by decide) (by decide) (by decide) (by decide) (by decide)]; exact h.text, by rw [ho2 21 (by decide) (by decide)]; exact h21, by rw [m6 2 (by decide)]; exact h.len2, h.len3, by rw [m 20 (by decide) (by decide) (by decide) (by decide) (by decide) (by decide)]; exact h.free, hfr, by rw [m 20 (by decide) (by decide) (by decide) (by decide) (by decide) (by decide)]; exact h.num1, by rw [m6 0 (by decide)]; exact h.num2, h.num3, by rw [m6 1 (by decide)]; exact h.real, ?_, ?_⟩, hl.congr (fun r a b => m r (by omega) (by omega) (by omega) (by omega) (by omega) (by omega))⟩
  · rw [m 51 (by decide) (by decide) (by decide) (by decide) (by decide) (by decide)]
    intro j hj i hi
    rw [h.ring j hj i hi]
    show M (2 + _) i = M2 (2 + _) i
    have hlt : (fr + 7 - n + j) % 7 < 7 := Nat.mod_lt _ (by decide)
    rw [s _ (by omega)]
  · intro r hr
    rw [s _ (by omega)]
    exact h.olds r hr
