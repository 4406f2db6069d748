/-! RING: the class's ring of saved states and the reference's row of them. -/
def RGf (S : Nat → Nat → Int32) (P : Nat → Int32) (fr n : Nat) : Prop := ∀ j, j < n → ∀ i, i < 183 → P (183 * j + i) = S ((fr + 7 - n + j) % 7) i
theorem RGf.push {S : Nat → Nat → Int32} {P A X : Nat → Int32} {fr n : Nat} (h : RGf S P fr n) (hf : fr < 7) (hn : n ≤ 6) (hA : ∀ i, i < 183 → A i = X i) :
    RGf (fun r => if r = fr then X else S r) (puP (if n = 6 then shP P 915 else P) A (if n = 6 then 5 else n) 183) (if fr = 6 then 0 else fr + 1) (if n = 6 then 6 else n + 1) := by
  intro j hj i hi
  by_cases h6 : n = 6
  · rw [if_pos h6] at hj
    rw [if_pos h6, if_pos h6, if_pos h6]
    unfold puP
    by_cases h5 : j = 5
    · subst h5
      rw [if_pos (by omega)]
      show A (183 * 5 + i - 183 * 5) = (if ((if fr = 6 then 0 else fr + 1) + 7 - 6 + 5) % 7 = fr then X else _) i
      rw [if_pos (by split <;> omega), show 183 * 5 + i - 183 * 5 = i by omega]
      exact hA i hi
    · rw [if_neg (by omega)]
      unfold shP
      rw [if_pos (by omega), show 183 * j + i + 183 = 183 * (j + 1) + i by omega, h (j + 1) (by omega) i hi]
      show _ = (if ((if fr = 6 then 0 else fr + 1) + 7 - 6 + j) % 7 = fr then X else S (((if fr = 6 then 0 else fr + 1) + 7 - 6 + j) % 7)) i
      rw [if_neg (by split <;> omega)]
      have e : (fr + 7 - n + (j + 1)) % 7 = ((if fr = 6 then 0 else fr + 1) + 7 - 6 + j) % 7 := by split <;> omega
      rw [e]
  · rw [if_neg h6] at hj
    rw [if_neg h6, if_neg h6, if_neg h6]
    unfold puP
    by_cases h5 : j = n
    · subst h5
      rw [if_pos (by omega)]
      show A (183 * j + i - 183 * j) = (if ((if fr = 6 then 0 else fr + 1) + 7 - (j + 1) + j) % 7 = fr then X else _) i
      rw [if_pos (by split <;> omega), show 183 * j + i - 183 * j = i by omega]
      exact hA i hi
    · rw [if_neg (by omega), h j (by omega) i hi]
      show _ = (if ((if fr = 6 then 0 else fr + 1) + 7 - (n + 1) + j) % 7 = fr then X else S (((if fr = 6 then 0 else fr + 1) + 7 - (n + 1) + j) % 7)) i
      rw [if_neg (by split <;> omega)]
      have e : (fr + 7 - n + j) % 7 = ((if fr = 6 then 0 else fr + 1) + 7 - (n + 1) + j) % 7 := by split <;> omega
      rw [e]
theorem RGf.pop {S : Nat → Nat → Int32} {P : Nat → Int32} {fr n : Nat} (h : RGf S P fr n) (hf : fr < 7) (hn : n ≤ 6) (h1 : 1 ≤ n) : RGf S P (pfr fr) (n - 1) ∧ ∀ (F : Nat → Int32) i, i < 183 → takF F P (n - 1) 183 i = S (pfr fr) i := by
  refine ⟨fun j hj i hi => ?_, fun F i hi => ?_⟩
  · rw [h j (by omega) i hi]
    have e : (fr + 7 - n + j) % 7 = (pfr fr + 7 - (n - 1) + j) % 7 := by unfold pfr; split <;> omega
    rw [e]
  · unfold takF
    rw [if_pos hi, h (n - 1) (by omega) i hi]
    have e : (fr + 7 - n + (n - 1)) % 7 = pfr fr := by unfold pfr; split <;> omega
    rw [e]
/-- a slot that is not the free one stays as it is saved; so does the row when the free one is written -/
theorem RGf.free {S : Nat → Nat → Int32} {P : Nat → Int32} {fr n : Nat} {X : Nat → Int32} (h : RGf S P fr n) (hf : fr < 7) (hn : n ≤ 6) : RGf (fun r => if r = fr then X else S r) P fr n := by
  intro j hj i hi
  rw [h j hj i hi]
  show _ = (if (fr + 7 - n + j) % 7 = fr then X else S ((fr + 7 - n + j) % 7)) i
  rw [if_neg (by omega)]
/-- GX depends on 183 cells alone, up to what lies behind -/
theorem kd_hi {i : Nat} (h : 183 ≤ i) : kd i = 25 := by unfold kd; rw [if_neg (by omega), if_neg (by omega), if_neg (by omega)]
theorem Good.ext {F F' : Nat → Int32} {t T : Nat} (h : Good F t T) (he : ∀ i, i < 183 → F' i = F i) : Good F' t T := by
  intro i
  rcases Nat.lt_or_ge i 183 with q | q
  · rw [he i q]; exact h i
  · rw [kd_hi q]; trivial
theorem GX.ext {F F' : Nat → Int32} (h : GX F) (he : ∀ i, i < 183 → F' i = F i) : GX F' := by
  obtain ⟨⟨t, ht, hg⟩, q⟩ := h
  refine ⟨⟨t, ht, hg.ext he⟩, q.sam hg.np.1 ⟨he 0 (by decide), he 1 (by decide), fun p hp => ⟨he _ (by omega), he _ (by omega), he _ (by omega)⟩⟩⟩
