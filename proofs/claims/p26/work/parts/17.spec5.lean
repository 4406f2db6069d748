/-! SPEC of the history, of passing minutes, of detours. -/
theorem wr_rne (M : Mm) {r r' : Nat} (i : Nat) (x : Int32) (h : r' ≠ r) : wr M r i x r' = M r' := by
  funext j; simp [wr, h]
/-- one zone's two entries -/
def hw1 (M : Mm) (q v t z : Nat) : Mm := wr (wr M (30 + 9 * 0 + (v * 3 + z)) t (M q (10 + 19 * v + 5 * z))) (30 + 9 * 1 + (v * 3 + z)) t (toldF (M q) v z)
def histW (M : Mm) (q v t : Nat) : Mm := hw1 (hw1 (hw1 M q v t 0) q v t 1) q v t 2
theorem hw1_ne (M : Mm) {q v t z r : Nat} (h : r < 30) : hw1 M q v t z r = M r := by
  unfold hw1; rw [wr_rne _ _ _ (by omega), wr_rne _ _ _ (by omega)]
theorem histW_ne (M : Mm) {q v t r : Nat} (h : r < 30) : histW M q v t r = M r := by
  unfold histW; rw [hw1_ne _ h, hw1_ne _ h, hw1_ne _ h]
theorem addL_lo (v : Nat) {i : Nat} (hi : ∀ p, i ≠ 63 + 10 * p + 6 ∧ i ≠ 63 + 10 * p + 7 ∧ i ≠ 63 + 10 * p + 8) : ∀ (n p : Nat) (F : Nat → Int32), addL F v n p i = F i := by
  intro n
  induction n with
  | zero => intro p F; rfl
  | succ n ih =>
    intro p F
    unfold addL
    rw [ih]
    split
    · exact addP_ne F (hi p).1 (hi p).2.1 (hi p).2.2
    · rfl
theorem minF_lo (F : Nat → Int32) {v i : Nat} (h : i < 6) : minF F v i = F i := by
  unfold minF
  rw [addL_lo v (fun p => ⟨by omega, by omega, by omega⟩), findA_lo _ _ _ (by omega), midF_lo _ (by omega)]
theorem minF_hi (F : Nat → Int32) {v i : Nat} (hv : v < 3) (h : 63 ≤ i) (hi : ∀ p, i ≠ 63 + 10 * p + 6 ∧ i ≠ 63 + 10 * p + 7 ∧ i ≠ 63 + 10 * p + 8) : minF F v i = F i := by
  unfold minF
  rw [addL_lo v hi, findA_hi _ _ _ hv h, midF_hi _ hv h]
theorem zOK.min {F : Nat → Int32} (h : zOK F) {v : Nat} (hv : v < 3) : zOK (minF F v) := h.of fun p' _ => minF_hi F hv (by omega) (fun p => ⟨by omega, by omega, by omega⟩)
/-- what the loops need of a state -/
def sOK (F : Nat → Int32) (nv np : Nat) : Prop := F 0 = nI nv ∧ F 1 = nI np ∧ zOK F
theorem sOK.min {F : Nat → Int32} {nv np : Nat} (h : sOK F nv np) {v : Nat} (hv : v < 3) : sOK (minF F v) nv np := ⟨by rw [minF_lo _ (by decide)]; exact h.1, by rw [minF_lo _ (by decide)]; exact h.2.1, h.2.2.min hv⟩
def cVan (q t : Nat) (M : Mm) (v : Nat) : Mm := histW (setR M q (minF (M q) v)) q v t
def cVans (q t : Nat) : Nat → Nat → Mm → Mm
  | 0, _, M => M
  | n + 1, v, M => cVans q t n (v + 1) (cVan q t M v)
def cVansN (q t : Nat) : Nat → Nat → Mm → Int32 → Int32
  | 0, _, _, a => a
  | n + 1, v, M, a => cVansN q t n (v + 1) (cVan q t M v) (a + minN (M q) v)
def cMin (q nv t : Nat) (M : Mm) : Mm := cVans q (t + 1) nv 0 (setR M q (upd (M q) 2 (nI (t + 1))))
def cMinN (q nv t : Nat) (M : Mm) (a : Int32) : Int32 := cVansN q (t + 1) nv 0 (setR M q (upd (M q) 2 (nI (t + 1)))) a
def cPass (q nv : Nat) : Nat → Nat → Mm → Mm
  | 0, _, M => M
  | n + 1, t, M => cPass q nv n (t + 1) (cMin q nv t M)
def cPassN (q nv : Nat) : Nat → Nat → Mm → Int32 → Int32
  | 0, _, _, a => a
  | n + 1, t, M, a => cPassN q nv n (t + 1) (cMin q nv t M) (cMinN q nv t M a)
def psB (F : Nat → Int32) (x : Int32) : Bool := decide (F 2 + x ≤ nI 600)
def psR (q : Nat) (M : Mm) (x : Int32) : Int32 := if inn x (nI 1) (nI 300) then (if psB (M q) x then cPassN q (nvF (M q)) (vN x) (vN (M q 2)) M (nI 0) else (-100003)) else (-100001)
def psM (q : Nat) (M : Mm) (x : Int32) : Mm := if inn x (nI 1) (nI 300) then (if psB (M q) x then cPass q (nvF (M q)) (vN x) (vN (M q 2)) M else M) else M
theorem cVan_q (q t : Nat) (M : Mm) (v : Nat) (hq : q < 9) : cVan q t M v q = minF (M q) v := by
  unfold cVan; rw [histW_ne _ (by omega), setR_same]
theorem cVans_ok {q nv np t : Nat} (hq : q < 9) {x : Int32} : ∀ (n v : Nat) (M : Mm), v + n ≤ 3 → sOK (M q) nv np → M q 2 = x → sOK (cVans q t n v M q) nv np ∧ cVans q t n v M q 2 = x := by
  intro n
  induction n with
  | zero => intro v M _ h h2; exact ⟨h, h2⟩
  | succ n ih =>
    intro v M hv h h2
    unfold cVans
    refine ih (v + 1) _ (by omega) ?_ ?_
    · rw [cVan_q _ _ _ _ hq]; exact h.min (by omega)
    · rw [cVan_q _ _ _ _ hq, minF_lo _ (by decide)]; exact h2
/-! detours -/
def bitB (s p : Int32) : Bool := decide ((s >>> (p &&& 31)) &&& nI 1 = nI 1)
/-- some pallet of the set isn't rejected -/
def badL (F : Nat → Int32) (s : Int32) : Nat → Nat → Bool
  | 0, _ => false
  | n + 1, p => if bitB s (nI p) then (if F (63 + 10 * p + 5) = nI 2 then badL F s n (p + 1) else true) else badL F s n (p + 1)
def valL (F : Nat → Int32) (s : Int32) : Nat → Nat → Int32 → Int32
  | 0, _, a => a
  | n + 1, p, a => valL F s n (p + 1) (if bitB s (nI p) then a + F (63 + 10 * p + 4) else a)
def shr1 (F : Nat → Int32) (p : Nat) (vs k c : Int32) : Nat → Int32 :=
  if vs ≤ 0 then (if k ≤ 0 then upd F (63 + 10 * p + 5) (nI 3) else upd (upd F (63 + 10 * p + 5) (nI 3)) (63 + 10 * p + 9) (c / k)) else upd (upd F (63 + 10 * p + 5) (nI 3)) (63 + 10 * p + 9) (c * F (63 + 10 * p + 4) / vs)
def shrL (s vs k c : Int32) : Nat → Nat → (Nat → Int32) → (Nat → Int32)
  | 0, _, F => F
  | n + 1, p, F => shrL s vs k c n (p + 1) (if bitB s (nI p) then shr1 F p vs k c else F)
def sbvF (F : Nat → Int32) (s c : Int32) (np : Nat) : Nat → Int32 := shrL s (valL F s np 0 (nI 0)) (bcS s) c np 0 F
def rstL (F : Nat → Int32) (s : Int32) : Nat → Nat → Int32 → Int32
  | 0, _, a => a
  | n + 1, p, a => rstL F s n (p + 1) (if bitB s (nI p) then a - F (63 + 10 * p + 9) else a)
def giv1 (F : Nat → Int32) (p : Nat) (r : Int32) : Nat → Int32 := if r ≤ 0 then F else upd F (63 + 10 * p + 9) (F (63 + 10 * p + 9) + nI 1)
def givL (s : Int32) : Nat → Nat → (Nat → Int32) → Int32 → (Nat → Int32)
  | 0, _, F, _ => F
  | n + 1, p, F, r => if bitB s (nI p) then givL s n (p + 1) (giv1 F p r) (if r ≤ 0 then r else r + (-1)) else givL s n (p + 1) F r
def grtL (s : Int32) : Nat → Nat → (Nat → Int32) → Int32 → Int32 → Int32
  | 0, _, _, _, g => g
  | n + 1, p, F, r, g => if bitB s (nI p) then grtL s n (p + 1) (giv1 F p r) (if r ≤ 0 then r else r + (-1)) (mxS g (giv1 F p r (63 + 10 * p + 9))) else grtL s n (p + 1) F r g
def dtB (F : Nat → Int32) (s c : Int32) : Bool := !decide (s < nI 1) && !decide ((nI 1 <<< (F 1 &&& 31)) ≤ s) && inn c (nI 0) (nI 9999)
def dtF (F : Nat → Int32) (s c : Int32) : Nat → Int32 := if dtB F s c then (if badL F s (npF F) 0 then F else givL s (npF F) 0 (sbvF F s c (npF F)) (rstL (sbvF F s c (npF F)) s (npF F) 0 c)) else F
def dtR (F : Nat → Int32) (s c : Int32) : Int32 := if dtB F s c then (if badL F s (npF F) 0 then (-100002) else grtL s (npF F) 0 (sbvF F s c (npF F)) (rstL (sbvF F s c (npF F)) s (npF F) 0 c) (nI 0)) else (-100001)
