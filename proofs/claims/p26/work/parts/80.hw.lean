/-! HW: the walk of a constructor. An address a is named (a, 0, 0, 0); the heap has sz cells and holds the picture w. -/
def PH (D : va_G) (w : Pw) (H : Heap) : Prop := ∀ q E, w q E → va_at D vwCl (q, E) H
def pup (w : Pw) (a : Nat) (E : va_E) : Pw := fun q E' => (q = a ∧ E' = E) ∨ (q ≠ a ∧ w q E')
def pmg (w : Pw) (a : Nat) (nw : Pw) : Pw := fun q E => nw q E ∨ (q ≠ a ∧ w q E)
def pmn (cid : Nat → ClassId) (w : Pw) (sz N K : Nat) : Pw := fun q E => w q E ∨ (q = sz ∧ E = .inl (cid 14, N, .inr (.inr (.inr (.inr (fun i => if i < N then some (sz + 1 + i) else none)))))) ∨ ∃ k, k < N ∧ q = sz + 1 + k ∧ E = .inl (cid 9, K, .inl (fun _ => 0))
theorem PH.up {D : va_G} {w : Pw} {H H1 : Heap} {a : Nat} {E : va_E} (h : PH D w H) (o : ∀ q : Nat, q ≠ a → H1[q]? = H[q]?) (e : va_at D vwCl (a, E) H1) : PH D (pup w a E) H1 := by
  intro q E' hq
  rcases hq with ⟨rfl, rfl⟩ | ⟨hq, hw⟩
  · exact e
  · exact (h q E' hw).kept (o q hq)
theorem PH.old {D : va_G} {w : Pw} {H H1 : Heap} (h : PH D w H) (o : ∀ q : Nat, q < H.size → H1[q]? = H[q]?) : PH D w H1 := fun q E' hw => (h q E' hw).kept (o q (h q E' hw).lt)
theorem PH.new {D : va_G} {w : Pw} {H H1 : Heap} {E : va_E} (h : PH D w H) (o : ∀ q : Nat, q < H.size → H1[q]? = H[q]?) (e : va_at D vwCl (H.size, E) H1) : PH D (pup w H.size E) H1 := by
  intro q E' hq
  rcases hq with ⟨rfl, rfl⟩ | ⟨hq, hw⟩
  · exact e
  · exact h.old o q E' hw
theorem PH.one {D : va_G} {w : Pw} {H : Heap} {a : Nat} {E : va_E} (h : PH D w H) (he : w a E) : va_P D vwCl [(a, E)] H := fun j q hj => by
  have hz : j < 1 := (List.getElem?_eq_some_iff.mp hj).1
  rw [show j = 0 by omega] at hj
  cases hj
  exact h a E he
def g9 (D : va_G) (cid : Nat → ClassId) : Gl := (D, fun o => o.1, cid)
def FrH (D : va_G) (cid : Nat → ClassId) (A : Nat → Prop) (a0 h0 : Nat) (cc : ByteArray) (own : String) (nL fr lo mc ms : Nat) (p : Program) (R : Room) (s : State) (m : MethodId) (meth : Method) (c : Code) : Prop :=
  p.tables.exec = Jvm.exec ∧ c.code = cc ∧ c.maxLocals = nL ∧ s.vm.findClass own = some m.cls ∧ fr ≤ R.frames ∧ lo ≤ R.locals ∧ mc ≤ R.cells ∧ ms ≤ R.slots ∧ KK (g9 D cid) s ∧ (own ≠ RL → meth.name = "<init>") ∧ s.heap.size = h0 ∧ A a0 ∧ ∀ q, h0 ≤ q → A q
theorem FrH.w {D : va_G} {cid : Nat → ClassId} {A : Nat → Prop} {a0 h0 : Nat} {cc : ByteArray} {own : String} {nL fr lo mc ms : Nat} {p : Program} {R : Room} {s : State} {m : MethodId} {meth : Method} {c : Code} (hF : FrH D cid A a0 h0 cc own nL fr lo mc ms p R s m meth c) {x : Nat} (h : x = a0 ∨ h0 ≤ x) : A x := by
  obtain ⟨-, -, -, -, -, -, -, -, -, -, -, h1, h2⟩ := hF
  rcases h with rfl | h
  · exact h1
  · exact h2 x h
/-- the walk, up to an exit: a program counter, locals, a stack, a picture, a size -/
abbrev Ex : Type := Nat × List (Option OV) × List OV × Pw × Nat
def HW (D : va_G) (cid : Nat → ClassId) (a0 h0 : Nat) (cc : ByteArray) (own : String) (nL fr lo mc ms : Nat) (X : Ex) (pc : Nat) (ls : List (Option OV)) (st : List OV) (w : Pw) (sz j i : Nat) : Prop :=
  ∀ (A : Nat → Prop) (p : Program) (l : Launch) (e : Env) (R : Room) (s : State) (m : MethodId) (args : Array Value) (below : List Frame) (meth : Method) (c : Code) (Z : State → Prop) (H : Heap) (locs : List Loc) (lsA : Array Slot),
    FrH D cid A a0 h0 cc own nL fr lo mc ms p R s m meth c → (∀ (H' : Heap) (locs' : List Loc) (lsA' : Array Slot), H'.size = X.2.2.2.2 → PH D X.2.2.2.1 H' → va_S A s.heap H' locs' → Lh (g9 D cid) lsA' nL X.2.1 → W p l e R s m args below meth c H' locs' mc ms Z (F0 m X.1 lsA' (X.2.2.1.map (vlv (g9 D cid))))) →
    H.size = sz → PH D w H → va_S A s.heap H locs → Lh (g9 D cid) lsA nL ls → W p l e R s m args below meth c H locs j i Z (F0 m pc lsA (st.map (vlv (g9 D cid))))
theorem va_S.up {A : Nat → Prop} {H0 H H1 : Heap} {locs : List Loc} (h : va_S A H0 H locs) (z : H.size ≤ H1.size) (o : ∀ q : Nat, q < H.size → H1[q]? = H[q]?) : va_S A H0 H1 locs := ⟨Nat.le_trans h.1 z, fun x h1 h2 => (o x (Nat.lt_of_lt_of_le h1 h.1)).trans (h.2.1 x h1 h2), h.2.2⟩
section HRows
variable {D : va_G} {cid : Nat → ClassId} {a0 h0 : Nat} {cc : ByteArray} {own : String} {nL fr lo mc ms : Nat} {X : Ex} {pc pc' : Nat} {ls : List (Option OV)} {st : List OV} {w : Pw} {sz j i : Nat}
theorem FrH.use {A : Nat → Prop} {p : Program} {R : Room} {s : State} {m : MethodId} {meth : Method} {c : Code} (hF : FrH D cid A a0 h0 cc own nL fr lo mc ms p R s m meth c) {w : Cond} {args : Array Value} (h : w ∈ lw_tbl) (ho : wOK w = true) : w.before args s = true := wUse ho (hF.2.2.2.2.2.2.2.2.1.2 w h ho)
theorem h_exit {x1 : Nat} {x2 : List (Option OV)} {x3 : List OV} {x4 : Pw} {x5 : Nat} (hX : X = (x1, x2, x3, x4, x5)) (hpc : pc = x1) (hls : x2.length = nL ∧ ∀ (k : Nat) (v : OV), x2[k]? = some (some v) → ls[k]? = some (some v)) (hst : st = x3) (hw : ∀ q E, x4 q E → w q E) (hsz : sz = x5) (hj : j ≤ mc) (hi : i ≤ ms) : HW D cid a0 h0 cc own nL fr lo mc ms X pc ls st w sz j i := by
  subst hX; subst hpc; subst hst; subst hsz
  intro A p l e R s m args below meth c Z H locs lsA hF hR hz hP hS hL
  exact W.widen (k := mc) (n := ms) hj hi (hR H locs lsA hz (fun q E h => hP q E (hw q E h)) hS ⟨hL.1, hls.1, hL.2.2.1, fun k v h => hL.2.2.2 k v (hls.2 k v h)⟩)
theorem h_to {w' : Pw} {sz' j' i' : Nat} (hw : ∀ q E, w' q E → w q E) (hs : sz = sz') (hj : j ≤ j') (hi : i ≤ i') (kk : HW D cid a0 h0 cc own nL fr lo mc ms X pc ls st w' sz' j' i') : HW D cid a0 h0 cc own nL fr lo mc ms X pc ls st w sz j i := by
  subst hs
  intro A p l e R s m args below meth c Z H locs lsA hF hR hz hP hS hL
  exact W.widen (k := j') (n := i') hj hi (kk A p l e R s m args below meth c Z H locs lsA hF hR hz (fun q E h => hP q E (hw q E h)) hS hL)
theorem h_aload {k : Fin 4} {x : Obj} (hd : decode cc pc = .ok (.aload_n k, 1)) (hl : ls[(k : Nat)]? = some (some (.inr x))) (hp : pc + 1 = pc') (kk : HW D cid a0 h0 cc own nL fr lo mc ms X pc' ls (.inr x :: st) w sz j i) : HW D cid a0 h0 cc own nL fr lo mc ms X pc ls st w sz j i := by
  subst hp
  intro A p l e R s m args below meth c Z H locs lsA hF hR hz hP hS hL
  exact lv_aload_n hF.1 hF.2.1 hd rfl (hL.2.2.2 _ _ hl) (kk A p l e R s m args below meth c Z H locs lsA hF hR hz hP hS hL)
theorem h_iload {k : Fin 4} {x : Int32} (hd : decode cc pc = .ok (.iload_n k, 1)) (hl : ls[(k : Nat)]? = some (some (.inl x))) (hp : pc + 1 = pc') (kk : HW D cid a0 h0 cc own nL fr lo mc ms X pc' ls (.inl x :: st) w sz j i) : HW D cid a0 h0 cc own nL fr lo mc ms X pc ls st w sz j i := by
  subst hp
  intro A p l e R s m args below meth c Z H locs lsA hF hR hz hP hS hL
  exact lv_iload_n hF.1 hF.2.1 hd rfl (hL.2.2.2 _ _ hl) (kk A p l e R s m args below meth c Z H locs lsA hF hR hz hP hS hL)
theorem h_istore {k : Fin 4} {x : Int32} (hk : (k : Nat) < nL) (hd : decode cc pc = .ok (.istore_n k, 1)) (hp : pc + 1 = pc') (kk : HW D cid a0 h0 cc own nL fr lo mc ms X pc' (ls.set (k : Nat) (some (.inl x))) st w sz j i) : HW D cid a0 h0 cc own nL fr lo mc ms X pc ls (.inl x :: st) w sz j i := by
  intro A p l e R s m args below meth c Z H locs lsA hF hR hz hP hS hL
  obtain ⟨lsB, e1, hL2⟩ := hL.set hk (.inl x)
  exact w_istore hF.1 hF.2.1 (Or.inl ⟨k, rfl, hd, hp⟩) e1 (kk A p l e R s m args below meth c Z H locs lsB hF hR hz hP hS hL2)
theorem h_astore {k : Fin 4} {x : Obj} (hk : (k : Nat) < nL) (hd : decode cc pc = .ok (.astore_n k, 1)) (hp : pc + 1 = pc') (kk : HW D cid a0 h0 cc own nL fr lo mc ms X pc' (ls.set (k : Nat) (some (.inr x))) st w sz j i) : HW D cid a0 h0 cc own nL fr lo mc ms X pc ls (.inr x :: st) w sz j i := by
  intro A p l e R s m args below meth c Z H locs lsA hF hR hz hP hS hL
  obtain ⟨lsB, e1, hL2⟩ := hL.set hk (.inr x)
  exact w_astore hF.1 hF.2.1 (Or.inl ⟨k, rfl, hd, hp⟩) e1 (kk A p l e R s m args below meth c Z H locs lsB hF hR hz hP hS hL2)
theorem h_iinc {k : Nat} {n : Int} {x y : Int32} (hk : k < nL) (hd : decode cc pc = .ok (.iinc k n, 3)) (hl : ls[k]? = some (some (.inl x))) (hv : x + Int32.ofInt n = y) (hp : pc + 3 = pc') (kk : HW D cid a0 h0 cc own nL fr lo mc ms X pc' (ls.set k (some (.inl y))) st w sz j i) : HW D cid a0 h0 cc own nL fr lo mc ms X pc ls st w sz j i := by
  subst hp
  subst hv
  intro A p l e R s m args below meth c Z H locs lsA hF hR hz hP hS hL
  obtain ⟨lsB, e1, hL2⟩ := hL.set hk (.inl (x + Int32.ofInt n))
  exact w_iinc hF.1 hF.2.1 hd (hL.2.2.2 k _ hl) e1 (kk A p l e R s m args below meth c Z H locs lsB hF hR hz hP hS hL2)
theorem h_iconst {n : Int} {v : Int32} (hd : decode cc pc = .ok (.iconst n, 1)) (hv : Int32.ofInt n = v) (hp : pc + 1 = pc') (kk : HW D cid a0 h0 cc own nL fr lo mc ms X pc' ls (.inl v :: st) w sz j i) : HW D cid a0 h0 cc own nL fr lo mc ms X pc ls st w sz j i := by
  subst hp
  intro A p l e R s m args below meth c Z H locs lsA hF hR hz hP hS hL
  exact lv_iconst hF.1 hF.2.1 hd hv (kk A p l e R s m args below meth c Z H locs lsA hF hR hz hP hS hL)
theorem h_bipush {n : Int} {v : Int32} (hd : decode cc pc = .ok (.bipush n, 2)) (hv : (Int8.ofInt n).toInt32 = v) (hp : pc + 2 = pc') (kk : HW D cid a0 h0 cc own nL fr lo mc ms X pc' ls (.inl v :: st) w sz j i) : HW D cid a0 h0 cc own nL fr lo mc ms X pc ls st w sz j i := by
  subst hp
  intro A p l e R s m args below meth c Z H locs lsA hF hR hz hP hS hL
  exact lv_bipush hF.1 hF.2.1 hd hv (kk A p l e R s m args below meth c Z H locs lsA hF hR hz hP hS hL)
theorem h_sipush {n : Int} {v : Int32} (hd : decode cc pc = .ok (.sipush n, 3)) (hv : (Int16.ofInt n).toInt32 = v) (hp : pc + 3 = pc') (kk : HW D cid a0 h0 cc own nL fr lo mc ms X pc' ls (.inl v :: st) w sz j i) : HW D cid a0 h0 cc own nL fr lo mc ms X pc ls st w sz j i := by
  subst hp
  intro A p l e R s m args below meth c Z H locs lsA hF hR hz hP hS hL
  exact lv_sipush hF.1 hF.2.1 hd hv (kk A p l e R s m args below meth c Z H locs lsA hF hR hz hP hS hL)
theorem h_dup {x : OV} (hd : decode cc pc = .ok (.dup, 1)) (hp : pc + 1 = pc') (kk : HW D cid a0 h0 cc own nL fr lo mc ms X pc' ls (x :: x :: st) w sz j i) : HW D cid a0 h0 cc own nL fr lo mc ms X pc ls (x :: st) w sz j i := by
  subst hp
  intro A p l e R s m args below meth c Z H locs lsA hF hR hz hP hS hL
  exact lv_dup hF.1 hF.2.1 hd (vlv_cat _ x) (kk A p l e R s m args below meth c Z H locs lsA hF hR hz hP hS hL)
theorem h_goto {off : Int} (hd : decode cc pc = .ok (.goto off, 3)) (ht : (pc : Int) + off = (pc' : Int)) (kk : HW D cid a0 h0 cc own nL fr lo mc ms X pc' ls st w sz j i) : HW D cid a0 h0 cc own nL fr lo mc ms X pc ls st w sz j i := by
  intro A p l e R s m args below meth c Z H locs lsA hF hR hz hP hS hL
  exact lv_goto hF.1 hF.2.1 hd ht (kk A p l e R s m args below meth c Z H locs lsA hF hR hz hP hS hL)
theorem h_icmp_ge {x y : Int32} {off : Int} {tgt : Nat} (hd : decode cc pc = .ok (.if_icmp .ge off, 3)) (ht : (pc : Int) + off = (tgt : Int)) (hp : pc + 3 = pc') (kt : y ≤ x → HW D cid a0 h0 cc own nL fr lo mc ms X tgt ls st w sz j i) (kf : ¬ y ≤ x → HW D cid a0 h0 cc own nL fr lo mc ms X pc' ls st w sz j i) : HW D cid a0 h0 cc own nL fr lo mc ms X pc ls (.inl y :: .inl x :: st) w sz j i := by
  subst hp
  intro A p l e R s m args below meth c Z H locs lsA hF hR hz hP hS hL
  exact lv_icmp_ge hF.1 hF.2.1 hd ht (fun z => kt z A p l e R s m args below meth c Z H locs lsA hF hR hz hP hS hL) (fun z => kf z A p l e R s m args below meth c Z H locs lsA hF hR hz hP hS hL)
theorem h_objInit {idx : Nat} {a : Obj} (hd : decode cc pc = .ok (.invokespecial idx, 3)) (hw : Cond.methodLink own idx Lib.objectInit ∈ lw_tbl) (hfr : 1 ≤ fr) (hlo : 12 ≤ lo) (hp : pc + 3 = pc') (kk : HW D cid a0 h0 cc own nL fr lo mc ms X pc' ls [] w sz j i) : HW D cid a0 h0 cc own nL fr lo mc ms X pc ls [.inr a] w sz j i := by
  subst hp
  intro A p l e R s m args below meth c Z H locs lsA hF hR hz hP hS hL
  refine W.objInit hF.1 hF.2.1 hF.2.2.2.1 (hF.use hw rfl) (hF.use oi_m rfl) (hF.use oi_c rfl) rfl (by rw [hF.2.2.1]; exact hL.1) rfl hd (Nat.le_trans hfr hF.2.2.2.2.1) (Nat.le_trans hlo hF.2.2.2.2.2.1) ?_
  exact kk A p l e R s m args below meth c Z H locs lsA hF hR hz hP hS hL
theorem h_new {ci index : Nat} {C : String} {T : u_T} {N : Nat} {fs : List Value} (hc : vwCl[ci]? = some (C, T, N)) (hin : ∀ w ∈ u_ws C T N, w ∈ lw_tbl) (ty : Nat → FieldType) (hty : ∀ k, k < N → parseFieldDescriptor (T k).2.2.1 = some (ty k)) (hfs : ∀ k, k < N → defaultValue (ty k) = vp_V fs k)
    (hw1 : Cond.classLink own index C ∈ lw_tbl) (hw2 : Cond.instantiable C N ∈ lw_tbl) (hw3 : Cond.initialized C ∈ lw_tbl) (hj : j + 1 ≤ mc) (hi : i + N ≤ ms) (hd : decode cc pc = .ok (.new index, 3)) (hp : pc + 3 = pc')
    (kk : HW D cid a0 h0 cc own nL fr lo mc ms X pc' ls (.inr (sz, 0, 0, 0) :: st) (pup w sz (.inr (ci, fs))) (sz + 1) (j + 1) (i + N)) : HW D cid a0 h0 cc own nL fr lo mc ms X pc ls st w sz j i := by
  subst hp
  intro A p l e R s m args below meth c Z H locs lsA hF hR hz hP hS hL
  subst hz
  have hKn := hF.2.2.2.2.2.2.2.2.1.1.1 ci _ hc
  have hts : ∀ w ∈ u_ws C T N, w.before args s = true := fun w h => hF.use (hin w h) (u_ws_ok w h)
  refine W.newcK hF.1 hF.2.1 hF.2.2.2.1 (hF.use hw1 rfl) (hF.use hw2 rfl) (hF.use hw3 rfl) rfl hd (Nat.le_trans hj hF.2.2.2.2.2.2.1) (Nat.le_trans hi hF.2.2.2.2.2.2.2.1) hKn.2.1 rfl fun H1 kC hkC e1 z1 o1 => ?_
  exact kk A p l e R s m args below meth c Z H1 locs lsA hF hR z1 (hP.new o1 ⟨_, hc, (u_born ty hts (fun w h => h) hKn hkC e1 hty).to hfs⟩) (hS.up (by omega) o1) hL
theorem h_newI {n : Nat} (hn : n < 2147483648) (hb : n * componentBytes .int ≤ 536870912) (hj : j + 1 ≤ mc) (hi : i + n ≤ ms) (hd : decode cc pc = .ok (.newarray .int, 2)) (hp : pc + 2 = pc')
    (kk : HW D cid a0 h0 cc own nL fr lo mc ms X pc' ls (.inr (sz, 0, 0, 0) :: st) (pup w sz (.inl (cid 9, n, .inl (fun _ => 0)))) (sz + 1) (j + 1) (i + n)) : HW D cid a0 h0 cc own nL fr lo mc ms X pc ls (.inl (nI n) :: st) w sz j i := by
  subst hp
  intro A p l e R s m args below meth c Z H locs lsA hF hR hz hP hS hL
  subst hz
  refine va_newaK (atype := .int) (N := n) hF.1 hF.2.1 (hF.use ac_int rfl) rfl hd rfl (nI_pos (by omega)) (nI_clamp (by omega)) hb (Nat.le_trans hj hF.2.2.2.2.2.2.1) (Nat.le_trans hi hF.2.2.2.2.2.2.2.1) rfl fun H1 cA e1 z1 o1 hAr hNm => ?_
  have hcA : cA = cid 9 := Option.some.inj (hNm.symm.trans (hF.2.2.2.2.2.2.2.2.1.1.2 1 (cid 9, .int) rfl).2)
  subst hcA
  exact kk A p l e R s m args below meth c Z H1 locs lsA hF hR z1 (hP.new o1 e1) (hS.up (by omega) o1) hL
theorem h_newC {n : Nat} (hn : n < 2147483648) (hb : n * componentBytes .char ≤ 536870912) (hj : j + 1 ≤ mc) (hi : i + n ≤ ms) (hd : decode cc pc = .ok (.newarray .char, 2)) (hp : pc + 2 = pc')
    (kk : HW D cid a0 h0 cc own nL fr lo mc ms X pc' ls (.inr (sz, 0, 0, 0) :: st) (pup w sz (.inl (cid 8, n, .inl (fun _ => 0)))) (sz + 1) (j + 1) (i + n)) : HW D cid a0 h0 cc own nL fr lo mc ms X pc ls (.inl (nI n) :: st) w sz j i := by
  subst hp
  intro A p l e R s m args below meth c Z H locs lsA hF hR hz hP hS hL
  subst hz
  refine va_newaK (atype := .char) (N := n) hF.1 hF.2.1 (hF.use ac_char rfl) rfl hd rfl (nI_pos (by omega)) (nI_clamp (by omega)) hb (Nat.le_trans hj hF.2.2.2.2.2.2.1) (Nat.le_trans hi hF.2.2.2.2.2.2.2.1) rfl fun H1 cA e1 z1 o1 hAr hNm => ?_
  have hcA : cA = cid 8 := Option.some.inj (hNm.symm.trans (hF.2.2.2.2.2.2.2.2.1.1.2 0 (cid 8, .char) rfl).2)
  subst hcA
  exact kk A p l e R s m args below meth c Z H1 locs lsA hF hR z1 (hP.new o1 e1) (hS.up (by omega) o1) hL
theorem h_anew {n index t0 : Nat} {C : String} {kd : Nat} (hn : n < 2147483648) (hw : Cond.classLink own index C ∈ lw_tbl) (hw2 : Cond.arrayOver (.object C) ∈ lw_tbl) (ht : (tysG (g9 D cid))[t0]? = some (cid kd, .object C)) (hb : n * 4 ≤ 536870912) (hj : j + 1 ≤ mc) (hi : i + n ≤ ms) (hd : decode cc pc = .ok (.anewarray index, 3)) (hp : pc + 3 = pc')
    (kk : HW D cid a0 h0 cc own nL fr lo mc ms X pc' ls (.inr (sz, 0, 0, 0) :: st) (pup w sz (.inl (cid kd, n, .inr (.inr (.inr (.inr (fun _ => none))))))) (sz + 1) (j + 1) (i + n)) : HW D cid a0 h0 cc own nL fr lo mc ms X pc ls (.inl (nI n) :: st) w sz j i := by
  subst hp
  intro A p l e R s m args below meth c Z H locs lsA hF hR hz hP hS hL
  subst hz
  have hcl : (nI n).toNatClampNeg = n := nI_clamp (by omega)
  refine W.anew hF.1 hF.2.1 hF.2.2.2.1 (hF.use hw rfl) (hF.use hw2 rfl) rfl hd rfl (nI_pos (by omega)) (by rw [hcl]; exact hb) (Nat.le_trans hj hF.2.2.2.2.2.2.1) (by rw [hcl]; exact Nat.le_trans hi hF.2.2.2.2.2.2.2.1) fun cA kA comp f1 f2 f3 f4 => ?_
  rw [hcl]
  obtain ⟨kA2, comp2, -, -, -, hnm⟩ := (hF.2.2.2.2.2.2.2.2.1.1.2 t0 _ ht).2
  have hcA : cA = cid kd := Option.some.inj (f1.symm.trans hnm)
  subst hcA
  generalize hH1 : H.push ({ cls := cid kd, slots := Array.replicate n .null, vm := .none } : Cell) = H1
  have z1 : H1.size = H.size + 1 := by rw [← hH1, Array.size_push]
  have e1 : H1[H.size]? = some (arrV (cid kd) n (fun _ => .null)) := by rw [← hH1, Array.getElem?_push_size, ← arrV_new]
  have o1 : ∀ q : Nat, q < H.size → H1[q]? = H[q]? := fun q hq => by rw [← hH1, Array.getElem?_push, if_neg (Nat.ne_of_lt hq)]
  refine kk A p l e R s m args below meth c Z H1 locs lsA hF hR z1 (hP.new o1 ?_) (hS.up (by omega) o1) hL
  show H1[H.size]? = some (vp_cell _ _)
  rw [vp_cell_q]
  exact e1
end HRows
