/-! SPEC of the class's own methods. -/
def ntM (M : Mm) : Mm := setR M (2 + vN (M 20 0)) (M 0)
def ktF (F : Nat → Int32) : Nat → Int32 := upd (upd F 0 (if F 0 = nI 6 then nI 0 else F 0 + nI 1)) 1 (mnS (F 1 + nI 1) (nI 6))
def ktM (M : Mm) (r : Int32) : Mm := if errS r then M else setR M 20 (ktF (M 20))
def edM (M : Mm) (r : Int32) (F : Nat → Int32) : Mm := ktM (setR (ntM M) 0 F) r
def cntS (M : Mm) (w : Int32) : Int32 := if w = nI 0 then M 0 0 else if w = nI 1 then M 0 1 else if w = nI 2 then M 0 2 else if w = nI 3 then M 0 3 else if w = nI 4 then M 0 4 else if w = nI 5 then M 0 5 else if w = nI 6 then M 21 0 else if w = nI 7 then M 20 1 else if w = nI 8 then fndL (M 0) (nvF (M 0)) 0 (nI 0) else (-100001)
def vqS (F : Nat → Int32) (x w : Int32) : Int32 := if hvS F x then (if w = nI 0 then F (6 + 19 * vN x) else if w = nI 1 then F (6 + 19 * vN x + 1) else if w = nI 2 then (if F (6 + 19 * vN x + 2) = 0 then nI 0 else nI 1) else if w = nI 3 then pinL F x (npF F) 0 (nI 0) else (-100001)) else (-100001)
def zqS (F : Nat → Int32) (x z w : Int32) : Int32 := if hzS F x z then (if w = nI 0 then F (10 + 19 * vN x + 5 * vN z) else if w = nI 1 then rdg F (10 + 19 * vN x + 5 * vN z) else if w = nI 2 then toldF F (vN x) (vN z) else if w = nI 3 then F (10 + 19 * vN x + 5 * vN z + 1) else if w = nI 4 then (if F (10 + 19 * vN x + 5 * vN z + 3) = 0 then nI 0 else nI 1) else if w = nI 5 then F (10 + 19 * vN x + 5 * vN z + 4) else (-100001)) else (-100001)
def pqS (F : Nat → Int32) (x w : Int32) : Int32 := if hpS F x then propP F (vN x) w else (-100001)
def clmL (F : Nat → Int32) (x : Int32) : Nat → Nat → Int32 → Int32
  | 0, _, a => a
  | n + 1, p, a => clmL F x n (p + 1) (a + (if x = 0 then claimP F p else claimByP F p x))
def clmS (F : Nat → Int32) (x : Int32) : Int32 := if inn x (nI 0) (nI 3) then clmL F x (npF F) 0 (nI 0) else (-100001)
/-- a log's row -/
def hrow (M : Mm) (v z t : Nat) : Nat → Int32 := M (30 + 9 * t + (v * 3 + z))
def logB (F : Nat → Int32) (x z t w : Int32) : Bool := hzS F x z && !decide (t < nI 1) && inn w (nI 0) (nI 1)
def logS (M : Mm) (x z t w : Int32) : Int32 := if logB (M 0) x z t w then (if M 0 2 < t then (-100009) else if M 0 (6 + 19 * vN x + 3) < t then hrow M (vN x) (vN z) (vN w) (vN t) else (-100009)) else (-100001)
def wrmB (F : Nat → Int32) (x z l f t w : Int32) : Bool := hzS F x z && inn l (-300) (nI 300) && !decide (f < 0) && !decide (t < f) && inn w (nI 0) (nI 1)
/-- times i, .., i + n - 1 -/
def wrmL (h : Nat → Int32) (f l : Int32) : Nat → Nat → Int32 → Int32
  | 0, _, a => a
  | n + 1, i, a => wrmL h f l n (i + 1) (if nI i ≤ f then a else if h i ≤ l then a else a + nI 1)
def wrmS (M : Mm) (x z l f t w : Int32) : Int32 := if wrmB (M 0) x z l f t w then wrmL (hrow M (vN x) (vN z) (vN w)) f l (vN (mnS t (M 0 2)) - vN (M 0 (6 + 19 * vN x + 3))) (vN (M 0 (6 + 19 * vN x + 3)) + 1) (nI 0) else (-100001)
/-- n more minutes looked at, k gone -/
def mlL (F : Nat → Int32) (p v : Nat) : Nat → Nat → Option Nat
  | 0, _ => none
  | n + 1, k => if ovP F p then some k else mlL (minF F v) p v n (k + 1)
def mlM (F : Nat → Int32) (p v : Nat) : Nat → (Nat → Int32)
  | 0 => F
  | n + 1 => if ovP F p then F else mlM (minF F v) p v n
def mlA (o : Option Nat) : Int32 := match o with
  | none => (-100009)
  | some k => nI k
def mlR (F : Nat → Int32) (x : Int32) : Int32 := if hpS F x then (if F (63 + 10 * vN x + 5) = 0 then mlA (mlL F (vN x) (vN (F (63 + 10 * vN x))) 301 0) else (-100002)) else (-100001)
/-- the door is open in the first m of 60 minutes, k gone, n to go -/
def opF (F : Nat → Int32) (v k m : Nat) : Nat → Int32 := minF (upd F (6 + 19 * v + 2) (if m ≤ k then nI 0 else nI 1)) v
def opL (F : Nat → Int32) (v m : Nat) : Nat → Nat → Bool
  | 0, _ => !ovL F (nI v) (npF F) 0
  | n + 1, k => if ovL F (nI v) (npF F) 0 then false else opL (opF F v k m) v m n (k + 1)
def lgL (F : Nat → Int32) (v : Nat) : Nat → Int32
  | 0 => if opL F v 0 60 0 then nI 0 else (-100009)
  | m + 1 => if opL F v (m + 1) 60 0 then nI (m + 1) else lgL F v m
def lgR (F : Nat → Int32) (x : Int32) : Int32 := if hvS F x then lgL F (vN x) 60 else (-100001)
theorem ntM_0 (M : Mm) : ntM M 0 = M 0 := setR_ne _ _ (by omega)
theorem ntM_ne (M : Mm) {r : Nat} (h : r ≠ 2 + vN (M 20 0)) : ntM M r = M r := setR_ne _ _ h
theorem tsw_out3 {x : Int32} (h0 : ¬ x = nI 0) (h1 : ¬ x = nI 1) (h2 : ¬ x = nI 2) (h3 : ¬ x = nI 3) : x.toInt < 0 ∨ (3 : Int) < x.toInt := by
  have e0 : ¬ x.toInt = 0 := fun q => h0 (Int32.toInt_inj.mp (by rw [q]; rfl))
  have e1 : ¬ x.toInt = 1 := fun q => h1 (Int32.toInt_inj.mp (by rw [q]; rfl))
  have e2 : ¬ x.toInt = 2 := fun q => h2 (Int32.toInt_inj.mp (by rw [q]; rfl))
  have e3 : ¬ x.toInt = 3 := fun q => h3 (Int32.toInt_inj.mp (by rw [q]; rfl))
  omega
