/-! START: the ints behind the constructors, and what holds of them. -/
def st0 : Nat → Int32 := fun i => if i = 3 then nI 200 else if i = 4 then nI 30 else if i = 5 then nI 3 else nI 0
def M00 : Mm := fun r i => if r < 9 ∨ r = 50 then st0 i else if r = 60 ∧ i = 1 then nI 1 else nI 0
theorem st0_ok : Good st0 0 (3 * 0) := by
  intro i
  by_cases h3 : i = 3
  · subst h3; exact (⟨by decide, by decide⟩ : bt (-200) 450 (nI 200))
  · by_cases h4 : i = 4
    · subst h4; exact (⟨by decide, by decide⟩ : bt 5 100 (nI 30))
    · by_cases h5 : i = 5
      · subst h5; exact (⟨by decide, by decide⟩ : bt 1 30 (nI 3))
      · have e : st0 i = nI 0 := by unfold st0; rw [if_neg h3, if_neg h4, if_neg h5]
        have hk : kd i ≠ 3 ∧ kd i ≠ 4 ∧ kd i ≠ 5 := by unfold kd; split <;> (try split) <;> (try split) <;> omega
        rw [e]
        revert hk
        generalize kd i = k
        rintro ⟨k3, k4, k5⟩
        unfold okK
        split <;> first
          | exact absurd rfl k3
          | exact absurd rfl k4
          | exact absurd rfl k5
          | trivial
          | exact ⟨0, by decide, rfl⟩
          | exact rfl
          | exact Or.inl rfl
          | exact bt0 (by decide) (by decide)
theorem st0_gx : GX st0 := by
  have hn : npF st0 = 0 := by decide
  refine ⟨⟨0, by decide, st0_ok⟩, fun v z _ _ => ?_, fun p hp => ?_⟩
  · rw [hn]; exact Nat.zero_le _
  · rw [hn] at hp; omega
theorem M00_s {r : Nat} (h : r < 9 ∨ r = 50) : M00 r = st0 := by funext i; unfold M00; rw [if_pos h]
theorem M00_0 {r i : Nat} (h : ¬ (r < 9 ∨ r = 50)) (h2 : ¬ (r = 60 ∧ i = 1)) : M00 r i = nI 0 := by unfold M00; rw [if_neg h, if_neg h2]
theorem start_rel : REL M00 0 0 0 := by
  refine ⟨by rw [M00_s (Or.inr rfl), M00_s (Or.inl (by decide))], by rw [M00_s (Or.inl (by decide))]; exact st0_gx, ?_, ?_, M00_0 (by decide) (by decide), M00_0 (by decide) (by decide), by decide, M00_0 (by decide) (by decide), by decide, M00_0 (by decide) (by decide), M00_0 (by decide) (by decide), by decide, rfl, ?_, ?_⟩
  · intro v z k j hv hz hk hj1 hj
    unfold hrow
    rw [M00_0 (by decide) (by omega), M00_0 (by omega) (by omega)]
  · funext i
    rw [M00_0 (by decide) (by omega), M00_0 (by decide) (by omega)]
  · intro j hj; omega
  · intro r hr
    rw [M00_s (Or.inl (by omega))]
    exact st0_gx
theorem start_lr : LR M00 := by
  intro r j h1 h2
  rw [M00_0 (by omega) (by omega)]
  exact bt0 (by decide) (by decide)
