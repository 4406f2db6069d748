/-! SPEC: what the methods answer, as functions of ints and of a flat state F (183 ints). -/
theorem fI {r e : Int32} {M : Mm} (h : e = r) : RI r M (some (.inl e)) M := ⟨by rw [h], rfl⟩
theorem fIM {r e : Int32} {M M1 : Mm} (h : e = r) (hm : M = M1) : RI r M1 (some (.inl e)) M := ⟨by rw [h], hm⟩
theorem fB1 {b : Bool} {M : Mm} (h : b = true) : RT b M (some (.inl (nI 1))) M := ⟨by rw [h]; rfl, rfl⟩
theorem fB0 {b : Bool} {M : Mm} (h : b = false) : RT b M (some (.inl (nI 0))) M := ⟨by rw [h]; rfl, rfl⟩
theorem fV {M M1 : Mm} (h : M = M1) : RV M1 none M := ⟨rfl, h⟩
def inn (x lo hi : Int32) : Bool := !decide (x < lo) && !decide (hi < x)
def coldS (sp c : Int32) : Bool := inn sp (-300) (nI 100) && inn c (nI 0) (nI 30)
def modeS (mode value : Int32) : Bool := if mode = nI 0 then decide (value = 0) else if mode = nI 1 then inn value (-200) (nI 200) else if mode = nI 2 then inn value (-300) (nI 450) else false
def numS (what value : Int32) : Bool := if what = nI 0 then inn value (-200) (nI 450) else if what = nI 1 then inn value (nI 5) (nI 100) else if what = nI 2 then inn value (nI 1) (nI 30) else false
def errS (a : Int32) : Bool := !decide ((-100001) < a)
def mxS (a b : Int32) : Int32 := if a < b then b else a
def mnS (a b : Int32) : Int32 := if b < a then b else a
def abS (a : Int32) : Int32 := if 0 ≤ a then a else -a
def fdS (x y : Int32) : Int32 := if 0 ≤ x ^^^ y then x / y else if x / y * y = x then x / y else x / y - nI 1
/-- a probe's reading; b: where its zone begins -/
def rdg (F : Nat → Int32) (b : Nat) : Int32 := if F (b + 1) = nI 2 then F (b + 2) else if F (b + 1) = nI 1 then F b + F (b + 2) else F b
def coolF (t sp c : Int32) : Int32 := if t ≤ sp then (if sp ≤ t then t else t + nI 1) else mxS (t - c) sp
theorem nI_eqm (a b : Nat) : (nI a = nI b) ↔ a % 4294967296 = b % 4294967296 := by
  constructor
  · intro h
    have := congrArg (fun x : Int32 => x.toBitVec.toNat) h
    simpa [nI] using this
  · intro h
    have : (nI a).toBitVec = (nI b).toBitVec := BitVec.eq_of_toNat_eq (by simpa [nI] using h)
    exact Int32.toBitVec_inj.mp this
/-- where zone z of van v begins -/
def zb (v z : Nat) : Nat := 10 + 19 * v + 5 * z
/-- F' on [a, a + n), F elsewhere -/
def cpR (F F' : Nat → Int32) (a n : Nat) : Nat → Int32 := fun i => if a ≤ i ∧ i < a + n then F' i else F i
