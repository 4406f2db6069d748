/-! SPEC of the cells: zones, vans, pallets, on the flat state. -/
theorem wr_self (M : Mm) (r i : Nat) : wr M r i (M r i) = M := by
  funext r' i'
  simp only [wr]
  split
  · rename_i h; rw [h.1, h.2]
  · rfl
theorem upd_self (F : Nat → Int32) (i : Nat) : upd F i (F i) = F := by
  funext j
  simp only [upd]
  split
  · rename_i h; rw [h]
  · rfl
theorem cpR_0 (F F' : Nat → Int32) (a : Nat) : cpR F F' a 0 = F := by
  funext i; unfold cpR; rw [if_neg (by omega)]
theorem cpR_succ (F F' : Nat → Int32) (a n : Nat) : upd (cpR F F' a n) (a + n) (F' (a + n)) = cpR F F' a (n + 1) := by
  funext i
  by_cases h : i = a + n
  · subst h; simp [upd, cpR]
  · simp only [upd, cpR, if_neg h]
    by_cases h2 : a ≤ i ∧ i < a + n
    · rw [if_pos h2, if_pos (by omega)]
    · rw [if_neg h2, if_neg (by omega)]
theorem cpR_app (F F' : Nat → Int32) (a n m : Nat) : cpR (cpR F F' a n) F' (a + n) m = cpR F F' a (n + m) := by
  funext i
  unfold cpR
  by_cases h1 : a + n ≤ i ∧ i < a + n + m
  · rw [if_pos h1, if_pos (by omega)]
  · rw [if_neg h1]
    by_cases h2 : a ≤ i ∧ i < a + n
    · rw [if_pos h2, if_pos (by omega)]
    · rw [if_neg h2, if_neg (by omega)]
theorem cpR5 (F F' : Nat → Int32) (a : Nat) : upd (upd (upd (upd (upd F a (F' a)) (a + 1) (F' (a + 1))) (a + 2) (F' (a + 2))) (a + 3) (F' (a + 3))) (a + 4) (F' (a + 4)) = cpR F F' a 5 := by
  rw [← cpR_succ, ← cpR_succ, ← cpR_succ, ← cpR_succ, ← cpR_succ, cpR_0]; rfl
theorem cpR4 (F F' : Nat → Int32) (a : Nat) : upd (upd (upd (upd F a (F' a)) (a + 1) (F' (a + 1))) (a + 2) (F' (a + 2))) (a + 3) (F' (a + 3)) = cpR F F' a 4 := by
  rw [← cpR_succ, ← cpR_succ, ← cpR_succ, ← cpR_succ, cpR_0]; rfl
theorem cpR10 (F F' : Nat → Int32) (a : Nat) : upd (upd (upd (upd (upd (upd (upd (upd (upd (upd F a (F' a)) (a + 1) (F' (a + 1))) (a + 2) (F' (a + 2))) (a + 3) (F' (a + 3))) (a + 4) (F' (a + 4))) (a + 5) (F' (a + 5))) (a + 6) (F' (a + 6))) (a + 7) (F' (a + 7))) (a + 8) (F' (a + 8))) (a + 9) (F' (a + 9)) = cpR F F' a 10 := by
  rw [← cpR_succ, ← cpR_succ, ← cpR_succ, ← cpR_succ, ← cpR_succ, ← cpR_succ, ← cpR_succ, ← cpR_succ, ← cpR_succ, ← cpR_succ, cpR_0]; rfl
theorem a_castS {G : Gl} {cc : ByteArray} {own : String} {nL fr lo : Nat} {rt : Option FieldType} {Φ : Option OV → Mm → Prop} {pc : Nat} {ls ls' : List (Option OV)} {st : List OV} {M M' : Mm} (h1 : ls = ls') (h2 : M = M') (k : AW G cc own nL fr lo rt Φ pc ls' st M') : AW G cc own nL fr lo rt Φ pc ls st M := by subst h1; subst h2; exact k
/-! zones -/
def mendF (F : Nat → Int32) (b : Nat) : Nat → Int32 := upd (upd (upd (upd F (b + 1) (nI 0)) (b + 2) (nI 0)) (b + 3) (nI 0)) (b + 4) (nI 0)
/-! pallets -/
def inP (F : Nat → Int32) (p : Nat) (x : Int32) : Bool := decide (F (63 + 10 * p + 5) = 0) && decide (F (63 + 10 * p) = x)
def ovP (F : Nat → Int32) (p : Nat) : Bool := !decide (F (63 + 10 * p + 8) ≤ F (63 + 10 * p + 3))
def rejP (F : Nat → Int32) (p : Nat) : Bool := decide (F (63 + 10 * p + 5) = nI 2) || decide (F (63 + 10 * p + 5) = nI 3)
def causeP (F : Nat → Int32) (p : Nat) : Int32 := if rejP F p then (if F (63 + 10 * p + 3) < F (63 + 10 * p + 6) + F (63 + 10 * p + 7) then (if F (63 + 10 * p + 6) < F (63 + 10 * p + 7) then nI 2 else nI 1) else nI 3) else nI 0
def claimP (F : Nat → Int32) (p : Nat) : Int32 := if rejP F p then F (63 + 10 * p + 4) + F (63 + 10 * p + 9) else nI 0
def doorP (F : Nat → Int32) (p : Nat) : Int32 := if F (63 + 10 * p + 6) + F (63 + 10 * p + 7) ≤ 0 then nI 0 else claimP F p * F (63 + 10 * p + 6) / (F (63 + 10 * p + 6) + F (63 + 10 * p + 7))
def claimByP (F : Nat → Int32) (p : Nat) (x : Int32) : Int32 := if causeP F p = nI 3 ∨ x = nI 3 then (if causeP F p = x then claimP F p else nI 0) else if x = nI 1 then doorP F p else claimP F p - doorP F p
def startP (F : Nat → Int32) (p : Nat) (v z l a w : Int32) : Nat → Int32 := upd (upd (upd (upd (upd (upd (upd (upd (upd (upd F (63 + 10 * p) v) (63 + 10 * p + 1) z) (63 + 10 * p + 2) l) (63 + 10 * p + 3) a) (63 + 10 * p + 4) w) (63 + 10 * p + 5) (nI 0)) (63 + 10 * p + 6) (nI 0)) (63 + 10 * p + 7) (nI 0)) (63 + 10 * p + 8) (nI 0)) (63 + 10 * p + 9) (nI 0)
def propP (F : Nat → Int32) (p : Nat) (x : Int32) : Int32 := if x = nI 0 then F (63 + 10 * p) else if x = nI 1 then F (63 + 10 * p + 1) else if x = nI 2 then F (63 + 10 * p + 2) else if x = nI 3 then F (63 + 10 * p + 3) else if x = nI 4 then F (63 + 10 * p + 4) else if x = nI 5 then F (63 + 10 * p + 5) else if x = nI 6 then F (63 + 10 * p + 6) else if x = nI 7 then F (63 + 10 * p + 7) else if x = nI 8 then F (63 + 10 * p + 8) else if x = nI 9 then causeP F p else if x = nI 10 then F (63 + 10 * p + 9) else (-100001)
/-! vans -/
def toldF (F : Nat → Int32) (v z : Nat) : Int32 := if F (10 + 19 * v + 5 * z + 3) = 0 then rdg F (10 + 19 * v + 5 * z) else fdS (rdg F (10 + 19 * v + 5 * ((z + 1) % 3)) + rdg F (10 + 19 * v + 5 * ((z + 2) % 3))) (nI 2)
def heat1 (F : Nat → Int32) (v z : Nat) (out : Int32) : Int32 := if F (6 + 19 * v + 2) = 0 then coolF (F (10 + 19 * v + 5 * z)) (F (6 + 19 * v)) (F (6 + 19 * v + 1)) else F (10 + 19 * v + 5 * z) + (out - F (10 + 19 * v + 5 * z)) * warmF z / nI 100
def heatZ (F : Nat → Int32) (v z : Nat) (out : Int32) : Nat → Int32 := upd F (10 + 19 * v + 5 * z) (heat1 F v z out)
def heatA (F : Nat → Int32) (v : Nat) (out : Int32) : Nat → Int32 := heatZ (heatZ (heatZ F v 0 out) v 1 out) v 2 out
def mixd (F : Nat → Int32) (v z : Nat) : Int32 := (F (10 + 19 * v + 5 * z) - F (10 + 19 * v + 5 * (z + 1))) / nI 10
def mix1 (F : Nat → Int32) (v z : Nat) : Nat → Int32 := upd (upd F (10 + 19 * v + 5 * z) (F (10 + 19 * v + 5 * z) - mixd F v z)) (10 + 19 * v + 5 * (z + 1)) (F (10 + 19 * v + 5 * (z + 1)) + mixd F v z)
def mixA (F : Nat → Int32) (v : Nat) : Nat → Int32 := mix1 (mix1 F v 0) v 1
def oddF (F : Nat → Int32) (v z : Nat) (D : Int32) : Bool := !decide (abS (rdg F (10 + 19 * v + 5 * z) - rdg F (10 + 19 * v + 5 * ((z + 1) % 3))) ≤ D) && !decide (abS (rdg F (10 + 19 * v + 5 * z) - rdg F (10 + 19 * v + 5 * ((z + 2) % 3))) ≤ D) && !decide (D < abS (rdg F (10 + 19 * v + 5 * ((z + 1) % 3)) - rdg F (10 + 19 * v + 5 * ((z + 2) % 3))))
/-- how often a probe is odd, then -/
def oddN (F : Nat → Int32) (v z : Nat) (D : Int32) : Int32 := if oddF F v z D then F (10 + 19 * v + 5 * z + 4) + nI 1 else nI 0
/-- whether it is found now -/
def fndB (F : Nat → Int32) (v z : Nat) (D P : Int32) : Bool := !decide (oddN F v z D < P) && decide (F (10 + 19 * v + 5 * z + 3) = 0)
def find1 (F : Nat → Int32) (v z : Nat) (D P : Int32) : Nat → Int32 := if fndB F v z D P then upd (upd F (10 + 19 * v + 5 * z + 4) (oddN F v z D)) (10 + 19 * v + 5 * z + 3) (nI 1) else upd F (10 + 19 * v + 5 * z + 4) (oddN F v z D)
def fndN (F : Nat → Int32) (v z : Nat) (D P n : Int32) : Int32 := if fndB F v z D P then n + nI 1 else n
def findA (F : Nat → Int32) (v : Nat) (D P : Int32) : Nat → Int32 := find1 (find1 (find1 F v 0 D P) v 1 D P) v 2 D P
def fndA (F : Nat → Int32) (v : Nat) (D P : Int32) : Int32 := fndN (find1 (find1 F v 0 D P) v 1 D P) v 2 D P (fndN (find1 F v 0 D P) v 1 D P (fndN F v 0 D P (nI 0)))
def warmP (F : Nat → Int32) (v p z : Nat) : Nat → Int32 := if F (10 + 19 * v + 5 * z) ≤ F (63 + 10 * p + 2) then F else if F (6 + 19 * v + 2) = 0 then upd F (63 + 10 * p + 7) (F (63 + 10 * p + 7) + nI 1) else upd F (63 + 10 * p + 6) (F (63 + 10 * p + 6) + nI 1)
def tellP (F : Nat → Int32) (v p z : Nat) : Nat → Int32 := if toldF F v z ≤ F (63 + 10 * p + 2) then F else upd F (63 + 10 * p + 8) (F (63 + 10 * p + 8) + nI 1)
def addP (F : Nat → Int32) (v p z : Nat) : Nat → Int32 := tellP (warmP F v p z) v p z
def startV (F : Nat → Int32) (v : Nat) (sp c t : Int32) : Nat → Int32 := (fun F => upd (mendF F (10 + 19 * v + 5 * 2)) (10 + 19 * v + 5 * 2) sp) ((fun F => upd (mendF F (10 + 19 * v + 5 * 1)) (10 + 19 * v + 5 * 1) sp) ((fun F => upd (mendF F (10 + 19 * v + 5 * 0)) (10 + 19 * v + 5 * 0) sp) (upd (upd (upd (upd F (6 + 19 * v) sp) (6 + 19 * v + 1) c) (6 + 19 * v + 2) (nI 0)) (6 + 19 * v + 3) t)))
