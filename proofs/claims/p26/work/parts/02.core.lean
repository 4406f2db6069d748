/-! CORE: the heap of the system once it is built has a fixed shape; only ints change. An object is named by (kind, three indices), the ints by (region, index). -/
abbrev Obj : Type := Nat × Nat × Nat × Nat
abbrev OV : Type := Int32 ⊕ Obj
abbrev Mm : Type := Nat → Nat → Int32
abbrev Gl : Type := va_G × (Obj → Nat) × (Nat → ClassId)
def vlv (G : Gl) : OV → Value
  | .inl x => .int x
  | .inr o => .ref (G.2.1 o)
def wr (M : Mm) (r i : Nat) (x : Int32) : Mm := fun r' i' => if r' = r ∧ i' = i then x else M r' i'
def lenR (r : Nat) : Nat := if r < 26 then 80 else if r < 48 then 601 else if r = 50 then 6 else if r = 51 then 57 else if r = 52 then 60 else 4
/-- which objects there are -/
def okO : Obj → Bool
  | (0, a, b, c) => decide (a = 0 ∧ b = 0 ∧ c = 0)
  | (1, q, p, c) => decide (q < 9 ∧ p < 12 ∧ c = 0)
  | (2, a, b, c) => decide (a = 0 ∧ b = 0 ∧ c = 0)
  | (3, q, b, c) => decide (q < 9 ∧ b = 0 ∧ c = 0)
  | (4, q, v, c) => decide (q < 9 ∧ v < 3 ∧ c = 0)
  | (5, q, v, z) => decide (q < 9 ∧ v < 3 ∧ z < 3)
  | (6, a, b, c) => decide (a = 0 ∧ b = 0 ∧ c = 0)
  | (7, _, _, _) => false
  | (8, r, n, c) => decide (r = 22 ∧ n = 80 ∧ c = 0)
  | (9, r, n, c) => decide (((23 ≤ r ∧ r ≤ 25) ∨ (30 ≤ r ∧ r ≤ 47) ∨ (50 ≤ r ∧ r ≤ 52)) ∧ n = lenR r ∧ c = 0)
  | (10, q, b, c) => decide (q < 9 ∧ b = 0 ∧ c = 0)
  | (11, a, b, c) => decide (a = 0 ∧ b = 0 ∧ c = 0)
  | (12, q, b, c) => decide (q < 9 ∧ b = 0 ∧ c = 0)
  | (13, q, v, c) => decide (q < 9 ∧ v < 3 ∧ c = 0)
  | (14, t, b, c) => decide (t < 2 ∧ b = 0 ∧ c = 0)
  | _ => false
/-- a row of references -/
def rfR (G : Gl) (n : Nat) (f : Nat → Obj) : Nat → Option Nat := fun i => if i < n then some (G.2.1 (f i)) else none
/-- what an object holds -/
def ent (G : Gl) (M : Mm) : Obj → va_E
  | (0, _, _, _) => .inr (0, [.ref (G.2.1 (14, 0, 0, 0)), .ref (G.2.1 (14, 1, 0, 0))])
  | (1, q, p, _) => .inr (1, [.int (M q (63 + 10 * p)), .int (M q (63 + 10 * p + 1)), .int (M q (63 + 10 * p + 2)), .int (M q (63 + 10 * p + 3)), .int (M q (63 + 10 * p + 4)), .int (M q (63 + 10 * p + 5)), .int (M q (63 + 10 * p + 6)), .int (M q (63 + 10 * p + 7)), .int (M q (63 + 10 * p + 8)), .int (M q (63 + 10 * p + 9))])
  | (2, _, _, _) => .inr (2, [.ref (G.2.1 (8, 22, 80, 0)), .int (M 21 0), .int (M 21 1), .ref (G.2.1 (9, 23, 80, 0)), .ref (G.2.1 (9, 24, 80, 0)), .ref (G.2.1 (9, 25, 80, 0)), .int (M 21 2)])
  | (3, q, _, _) => .inr (3, [.int (M q 2), .int (M q 3), .int (M q 4), .int (M q 5), .int (M q 0), .int (M q 1), .ref (G.2.1 (12, q, 0, 0)), .ref (G.2.1 (10, q, 0, 0))])
  | (4, q, v, _) => .inr (4, [.int (M q (6 + 19 * v)), .int (M q (6 + 19 * v + 1)), .int (M q (6 + 19 * v + 2)), .int (M q (6 + 19 * v + 3)), .ref (G.2.1 (13, q, v, 0))])
  | (5, q, v, z) => .inr (5, [.int (M q (10 + 19 * v + 5 * z)), .int (M q (10 + 19 * v + 5 * z + 1)), .int (M q (10 + 19 * v + 5 * z + 2)), .int (M q (10 + 19 * v + 5 * z + 3)), .int (M q (10 + 19 * v + 5 * z + 4))])
  | (6, _, _, _) => .inr (6, [.ref (G.2.1 (3, 0, 0, 0)), .ref (G.2.1 (3, 1, 0, 0)), .ref (G.2.1 (11, 0, 0, 0)), .int (M 20 0), .int (M 20 1), .ref (G.2.1 (0, 0, 0, 0)), .ref (G.2.1 (2, 0, 0, 0))])
  | (8, r, n, _) => .inl (G.2.2 8, n, .inl (M r))
  | (9, r, n, _) => .inl (G.2.2 9, n, .inl (M r))
  | (10, q, _, _) => .inl (G.2.2 10, 12, .inr (.inr (.inr (.inr (rfR G 12 (fun i => (1, q, i, 0)))))))
  | (11, _, _, _) => .inl (G.2.2 11, 7, .inr (.inr (.inr (.inr (rfR G 7 (fun i => (3, 2 + i, 0, 0)))))))
  | (12, q, _, _) => .inl (G.2.2 12, 3, .inr (.inr (.inr (.inr (rfR G 3 (fun i => (4, q, i, 0)))))))
  | (13, q, v, _) => .inl (G.2.2 13, 3, .inr (.inr (.inr (.inr (rfR G 3 (fun i => (5, q, v, i)))))))
  | (14, t, _, _) => .inl (G.2.2 14, 9, .inr (.inr (.inr (.inr (rfR G 9 (fun i => (9, 30 + 9 * t + i, 601, 0)))))))
  | _ => .inr (99, [])
/-- the object that owns a place -/
def ow (r i : Nat) : Obj :=
  if r < 9 then
    if i < 6 then (3, r, 0, 0)
    else if i < 63 then (if (i - 6) % 19 < 4 then (4, r, (i - 6) / 19, 0) else (5, r, (i - 6) / 19, ((i - 6) % 19 - 4) / 5))
    else (1, r, (i - 63) / 10, 0)
  else if r = 20 then (6, 0, 0, 0) else if r = 21 then (2, 0, 0, 0) 
  else if r = 22 then (8, 22, 80, 0) else (9, r, lenR r, 0)
theorem ow1 {q p j : Nat} (hq : q < 9) (hj : j < 10) : ow q (63 + 10 * p + j) = (1, q, p, 0) := by
  have e : (63 + 10 * p + j - 63) / 10 = p := by omega
  rw [ow, if_pos hq, if_neg (by omega), if_neg (by omega), e]
theorem ow4 {q v j : Nat} (hq : q < 9) (hv : v < 3) (hj : j < 4) : ow q (6 + 19 * v + j) = (4, q, v, 0) := by
  have e : (6 + 19 * v + j - 6) / 19 = v := by omega
  rw [ow, if_pos hq, if_neg (by omega), if_pos (by omega), if_pos (by omega), e]
theorem ow5 {q v z j : Nat} (hq : q < 9) (hv : v < 3) (hz : z < 3) (hj : j < 5) : ow q (10 + 19 * v + 5 * z + j) = (5, q, v, z) := by
  have e : (10 + 19 * v + 5 * z + j - 6) / 19 = v := by omega
  have e2 : ((10 + 19 * v + 5 * z + j - 6) % 19 - 4) / 5 = z := by omega
  rw [ow, if_pos hq, if_neg (by omega), if_pos (by omega), if_neg (by omega), e, e2]
theorem ow3 {q j : Nat} (hq : q < 9) (hj : j < 6) : ow q j = (3, q, 0, 0) := by
  rw [ow, if_pos hq, if_pos hj]
theorem ow9 {r n c i : Nat} (h : okO (9, r, n, c) = true) : ow r i = (9, r, n, c) := by
  simp only [okO, decide_eq_true_eq] at h
  obtain ⟨h1, rfl, rfl⟩ := h
  rw [ow, if_neg (by omega), if_neg (by omega), if_neg (by omega), if_neg (by omega)]
theorem ent_congr (G : Gl) {M M' : Mm} {o : Obj} (ho : okO o = true) (h : ∀ r i, ow r i = o → M r i = M' r i) : ent G M o = ent G M' o := by
  obtain ⟨k, a, b, c⟩ := o
  match k, ho, h with
  | 0, _, _ => rfl
  | 1, ho, h =>
    simp only [okO, decide_eq_true_eq] at ho
    obtain ⟨h1, h2, rfl⟩ := ho
    have e : ∀ j, j < 10 → M a (63 + 10 * b + j) = M' a (63 + 10 * b + j) := fun j hj => h _ _ (ow1 h1 hj)
    have e0 : M a (63 + 10 * b) = M' a (63 + 10 * b) := e 0 (by decide)
    simp only [ent, e0, e 1 (by decide), e 2 (by decide), e 3 (by decide), e 4 (by decide), e 5 (by decide), e 6 (by decide), e 7 (by decide), e 8 (by decide), e 9 (by decide)]
  | 2, ho, h =>
    simp only [okO, decide_eq_true_eq] at ho
    obtain ⟨rfl, rfl, rfl⟩ := ho
    have e : ∀ j, M 21 j = M' 21 j := fun j => h _ _ rfl
    simp only [ent, e]
  | 3, ho, h =>
    simp only [okO, decide_eq_true_eq] at ho
    obtain ⟨h1, rfl, rfl⟩ := ho
    have e : ∀ j, j < 6 → M a j = M' a j := fun j hj => h _ _ (ow3 h1 hj)
    simp only [ent, e 0 (by decide), e 1 (by decide), e 2 (by decide), e 3 (by decide), e 4 (by decide), e 5 (by decide)]
  | 4, ho, h =>
    simp only [okO, decide_eq_true_eq] at ho
    obtain ⟨h1, h2, rfl⟩ := ho
    have e : ∀ j, j < 4 → M a (6 + 19 * b + j) = M' a (6 + 19 * b + j) := fun j hj => h _ _ (ow4 h1 h2 hj)
    have e0 : M a (6 + 19 * b) = M' a (6 + 19 * b) := e 0 (by decide)
    simp only [ent, e0, e 1 (by decide), e 2 (by decide), e 3 (by decide)]
  | 5, ho, h =>
    simp only [okO, decide_eq_true_eq] at ho
    obtain ⟨h1, h2, h3⟩ := ho
    have e : ∀ j, j < 5 → M a (10 + 19 * b + 5 * c + j) = M' a (10 + 19 * b + 5 * c + j) := fun j hj => h _ _ (ow5 h1 h2 h3 hj)
    have e0 : M a (10 + 19 * b + 5 * c) = M' a (10 + 19 * b + 5 * c) := e 0 (by decide)
    simp only [ent, e0, e 1 (by decide), e 2 (by decide), e 3 (by decide), e 4 (by decide)]
  | 6, ho, h =>
    simp only [okO, decide_eq_true_eq] at ho
    obtain ⟨rfl, rfl, rfl⟩ := ho
    have e : ∀ j, M 20 j = M' 20 j := fun j => h _ _ rfl
    simp only [ent, e]
  | 7, ho, _ => simp [okO] at ho
  | 8, ho, h =>
    simp only [okO, decide_eq_true_eq] at ho
    obtain ⟨rfl, rfl, rfl⟩ := ho
    have e : M 22 = M' 22 := funext fun j => h _ _ rfl
    simp only [ent, e]
  | 9, ho, h =>
    have e : M a = M' a := funext fun j => h _ _ (ow9 ho)
    simp only [ent, e]
  | 10, _, _ => rfl
  | 11, _, _ => rfl
  | 12, _, _ => rfl
  | 13, _, _ => rfl
  | 14, _, _ => rfl
  | k + 15, ho, _ => simp [okO] at ho
/-- the row that isSo makes; FL: it is there -/
abbrev fo : Obj := (9, 53, 4, 0)
def FL (G : Gl) : Prop := G.2.1 (99, 0, 0, 0) = 1
/-- the heap holds the ints M in the system's shape -/
def Mem (G : Gl) (M : Mm) (H : Heap) : Prop := (∀ o, okO o = true → va_at G.1 vwCl (G.2.1 o, ent G M o) H) ∧ (FL G → va_at G.1 vwCl (G.2.1 fo, ent G M fo) H)
def GI (G : Gl) : Prop := (∀ o o', okO o = true → okO o' = true → G.2.1 o = G.2.1 o' → o = o') ∧ (FL G → ∀ o, okO o = true → G.2.1 o ≠ G.2.1 fo)
def AG (G : Gl) : Nat → Prop := fun a => (∃ o, okO o = true ∧ G.2.1 o = a) ∨ (FL G ∧ G.2.1 fo = a)
theorem AG.o {G : Gl} {x : Obj} (h : okO x = true) : AG G (G.2.1 x) := Or.inl ⟨x, h, rfl⟩
theorem ow53 (i : Nat) : okO (ow 53 i) = false := by
  rw [ow, if_neg (by decide), if_neg (by decide), if_neg (by decide), if_neg (by decide)]
  rfl
theorem wr_53 (M : Mm) {r i : Nat} (x : Int32) (h : okO (ow r i) = true) : wr M r i x 53 = M 53 := by
  funext j
  refine if_neg ?_
  rintro ⟨rfl, rfl⟩
  rw [ow53] at h
  cases h
theorem Mem.put {G : Gl} {M : Mm} {H H1 : Heap} {o : Obj} {r i : Nat} {x : Int32} (hG : GI G) (hM : Mem G M H) (ho : okO o = true) (how : ow r i = o) (h1 : va_at G.1 vwCl (G.2.1 o, ent G (wr M r i x) o) H1) (oq : ∀ q : Nat, q ≠ G.2.1 o → H1[q]? = H[q]?) : Mem G (wr M r i x) H1 := by
  refine ⟨fun o' ho' => ?_, fun hf => ?_⟩
  · by_cases h : o' = o
    · subst h; exact h1
    · have e : ent G (wr M r i x) o' = ent G M o' := ent_congr G ho' (fun r' i' hw => if_neg (by rintro ⟨rfl, rfl⟩; exact h (hw.symm.trans how)))
      rw [e]
      exact (hM.1 o' ho').kept (oq _ (fun z => h (hG.1 o' o ho' ho z)))
  · have e : ent G (wr M r i x) fo = ent G M fo := by
      show (Sum.inl (G.2.2 9, 4, .inl (wr M r i x 53)) : va_E) = _
      rw [wr_53 M x (by rw [how]; exact ho)]
      rfl
    rw [e]
    exact (hM.2 hf).kept (oq _ (fun z => hG.2 hf o ho z.symm))
theorem Mem.ext {G : Gl} {M M' : Mm} {H : Heap} (hM : Mem G M H) (h : ∀ r i, okO (ow r i) = true → M r i = M' r i) (h53 : M 53 = M' 53) : Mem G M' H := by
  refine ⟨fun o ho => ?_, fun hf => ?_⟩
  · rw [← ent_congr G ho (fun r i hw => h r i (by rw [hw]; exact ho))]
    exact hM.1 o ho
  · have e : ent G M' fo = ent G M fo := by
      show (Sum.inl (G.2.2 9, 4, .inl (M' 53)) : va_E) = Sum.inl (G.2.2 9, 4, .inl (M 53))
      rw [h53]
    rw [e]
    exact hM.2 hf
/-- the arrays' classes -/
def tysG (G : Gl) : List (ClassId × FieldType) := [(G.2.2 8, .char), (G.2.2 9, .int), (G.2.2 10, .object "ColdChain$Pallet"), (G.2.2 11, .object "ColdChain$State"), (G.2.2 12, .object "ColdChain$Van"), (G.2.2 13, .object "ColdChain$Zone"), (G.2.2 14, .array .int)]
def KK (G : Gl) (U : State) : Prop := va_K G.1 vwCl (tysG G) U ∧ ∀ w ∈ lw_tbl, wOK w = true → va_Nw w U
/-- the script's length and ints, as the map of addresses keeps them -/
def scL (G : Gl) : Nat := G.2.1 (98, 0, 0, 0)
def scX (G : Gl) : Nat → Int32 := fun j => nI (G.2.1 (98, 1, j, 0))
def warmF (j : Nat) : Int32 := if j = 0 then 3 else if j = 1 then 6 else 12
def SS (G : Gl) (A : Nat → Prop) (U : State) (H : Heap) : Prop := va_Z "ColdChain" "WARMING" "[I" (.ref (G.2.1 (15, 0, 0, 0))) A U H ∧ va_T .int (G.2.1 (15, 0, 0, 0)) 3 (fun j => .int (warmF j)) A U H ∧ scL G ≤ 260 ∧ va_X (G.2.1 (15, 1, 0, 0)) (scL G) (scX G) U H ∧ G.2.1 (15, 1, 0, 0) < H.size ∧ ¬ A (G.2.1 (15, 1, 0, 0))
theorem wOK_warm {w : Cond} {s U : State} (h : wOK w = true) (hW : s.WarmedH U.vm) (hz : va_Nw w s) : va_Nw w U := by
  cases w with
  | fieldLinkNest a i b n d hh => exact va_Nw.warmF hW hz
  | methodLinkNest a i x hh => exact va_Nw.warmM hW hz
  | arrayOver t =>
    cases t with
    | object C => exact va_AO.moved (C := C) hW.alike hz
    | array C => exact over_moved hW.alike hz
    | _ => exact word_at hW (good_of_word h) hz
  | _ => exact word_at hW (good_of_word h) hz
theorem KK.warm {G : Gl} {s U : State} (h : KK G s) (hW : s.WarmedH U.vm) : KK G U := ⟨va_K.moved hW.alike h.1, fun w hw ho => wOK_warm ho hW (h.2 w hw ho)⟩
