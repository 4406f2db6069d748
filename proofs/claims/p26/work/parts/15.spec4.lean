/-! SPEC of the edits: answer and new state. -/
def vN (x : Int32) : Nat := x.toNatClampNeg
def numR (F : Nat → Int32) (w x : Int32) : Int32 := if numS w x then (if w = nI 0 then F 3 else if w = nI 1 then F 4 else F 5) else (-100001)
def numF (F : Nat → Int32) (w x : Int32) : Nat → Int32 := if numS w x then (if w = nI 0 then upd F 3 x else if w = nI 1 then upd F 4 x else upd F 5 x) else F
def vanR (F : Nat → Int32) (x sp c : Int32) : Int32 := if hvS F x && coldS sp c then F (6 + 19 * vN x) else (-100001)
def vanF (F : Nat → Int32) (x sp c : Int32) : Nat → Int32 := if hvS F x && coldS sp c then upd (upd F (6 + 19 * vN x) sp) (6 + 19 * vN x + 1) c else F
def prbR (F : Nat → Int32) (x z m y : Int32) : Int32 := if hzS F x z && modeS m y then F (10 + 19 * vN x + 5 * vN z + 1) else (-100001)
def prbF (F : Nat → Int32) (x z m y : Int32) : Nat → Int32 := if hzS F x z && modeS m y then upd (upd F (10 + 19 * vN x + 5 * vN z + 1) m) (10 + 19 * vN x + 5 * vN z + 2) y else F
def repR (F : Nat → Int32) (x z : Int32) : Int32 := if hzS F x z then (if F (10 + 19 * vN x + 5 * vN z + 3) = 0 then nI 0 else nI 1) else (-100001)
def repF (F : Nat → Int32) (x z : Int32) : Nat → Int32 := if hzS F x z then mendF F (10 + 19 * vN x + 5 * vN z) else F
def newR (F : Nat → Int32) (sp c : Int32) : Int32 := if coldS sp c then (if F 0 < nI 3 then F 0 else (-100003)) else (-100001)
def newF (F : Nat → Int32) (sp c : Int32) : Nat → Int32 := if coldS sp c then (if F 0 < nI 3 then upd (startV F (nvF F) sp c (F 2)) 0 (F 0 + nI 1) else F) else F
def ldB (F : Nat → Int32) (x z l a w : Int32) : Bool := hzS F x z && inn l (-300) (nI 300) && inn a (nI 0) (nI 600) && inn w (nI 0) (nI 9999)
def ldC (F : Nat → Int32) (x z : Int32) : Bool := !decide (nI 12 ≤ F 1) && decide (pzL F x z (npF F) 0 (nI 0) < nI 3)
def ldR (F : Nat → Int32) (x z l a w : Int32) : Int32 := if ldB F x z l a w then (if F (6 + 19 * vN x + 2) = 0 then (-100002) else if ldC F x z then F 1 else (-100003)) else (-100001)
def ldF (F : Nat → Int32) (x z l a w : Int32) : Nat → Int32 := if ldB F x z l a w then (if F (6 + 19 * vN x + 2) = 0 then F else if ldC F x z then upd (startP F (npF F) x z l a w) 1 (F 1 + nI 1) else F) else F
def drB (F : Nat → Int32) (x y : Int32) : Bool := hvS F x && inn y (nI 0) (nI 1)
def drF (F : Nat → Int32) (x y : Int32) : Nat → Int32 := if drB F x y then (if F (6 + 19 * vN x + 2) = y then F else upd F (6 + 19 * vN x + 2) y) else F
def drR (F : Nat → Int32) (x y : Int32) : Int32 := if drB F x y then (if F (6 + 19 * vN x + 2) = y then (-100002) else bcS (pinL (drF F x y) x (npF F) 0 (nI 0))) else (-100001)
def dlv (F : Nat → Int32) (p : Nat) : Int32 := if ovP F p then nI 2 else nI 1
def dlB (F : Nat → Int32) (p : Nat) : Bool := decide (F (63 + 10 * p + 5) = 0) && !decide (F (6 + 19 * vN (F (63 + 10 * p)) + 2) = 0)
def dlR (F : Nat → Int32) (x : Int32) : Int32 := if hpS F x then (if dlB F (vN x) then dlv F (vN x) else (-100002)) else (-100001)
def dlF (F : Nat → Int32) (x : Int32) : Nat → Int32 := if hpS F x then (if dlB F (vN x) then upd F (63 + 10 * vN x + 5) (dlv F (vN x)) else F) else F
theorem vN_nI {n : Nat} (h : n < 2147483648) : vN (nI n) = n := nI_clamp h
theorem startV_hi (F : Nat → Int32) {v i : Nat} (sp c t : Int32) (hv : v < 3) (h : i < 6 ∨ 63 ≤ i) : startV F v sp c t i = F i := by
  unfold startV mendF
  simp only [upd_at]
  repeat rw [if_neg (by omega)]
theorem startP_ne (F : Nat → Int32) {p i : Nat} (v z l a w : Int32) (h : i < 63 + 10 * p ∨ 63 + 10 * p + 10 ≤ i) : startP F p v z l a w i = F i := by
  unfold startP
  simp only [upd_at]
  repeat rw [if_neg (by omega)]
