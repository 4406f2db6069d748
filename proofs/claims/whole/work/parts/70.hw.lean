/-! HW: the walk of a constructor over the heap itself. An address a is named (a, 0, 0, 0). -/
def g9 (D : va_G) (cid : Nat → ClassId) : Gl := (D, fun o => o.1, cid)
def FrH (D : va_G) (cid : Nat → ClassId) (A : Nat → Prop) (a0 h0 : Nat) (cc : ByteArray) (own : String) (nL fr lo mc ms : Nat) (p : Program) (R : Room) (s : State) (m : MethodId) (meth : Method) (c : Code) : Prop :=
  p.tables.exec = Jvm.exec ∧ c.code = cc ∧ c.maxLocals = nL ∧ s.vm.findClass own = some m.cls ∧ fr ≤ R.frames ∧ lo ≤ R.locals ∧ mc ≤ R.cells ∧ ms ≤ R.slots ∧ KK (g9 D cid) s ∧ meth.name = "<init>" ∧ s.heap.size = h0 ∧ A a0 ∧ ∀ q, h0 ≤ q → A q
def HW (D : va_G) (cid : Nat → ClassId) (a0 h0 : Nat) (cc : ByteArray) (own : String) (nL fr lo mc ms : Nat) (Ψ : Heap → Prop) (pc : Nat) (ls : List (Option OV)) (st : List OV) (H : Heap) (j i : Nat) : Prop :=
  ∀ (A : Nat → Prop) (p : Program) (l : Launch) (e : Env) (R : Room) (s : State) (m : MethodId) (args : Array Value) (below : List Frame) (meth : Method) (c : Code) (Z : State → Prop) (locs : List Loc) (lsA : Array Slot),
    FrH D cid A a0 h0 cc own nL fr lo mc ms p R s m meth c → (∀ (H' : Heap) (locs' : List Loc) (lsA' : Array Slot) (pc' : Nat), Ψ H' → va_S A s.heap H' locs' → decode cc pc' = .ok (.return_, 1) → W p l e R s m args below meth c H' locs' mc ms Z (F0 m pc' lsA' [])) →
    va_S A s.heap H locs → Lh (g9 D cid) lsA nL ls → W p l e R s m args below meth c H locs j i Z (F0 m pc lsA (st.map (vlv (g9 D cid))))
section HRows
variable {D : va_G} {cid : Nat → ClassId} {a0 h0 : Nat} {cc : ByteArray} {own : String} {nL fr lo mc ms : Nat} {Ψ : Heap → Prop} {pc pc' : Nat} {ls : List (Option OV)} {st : List OV} {H : Heap} {j i : Nat}
theorem FrH.use {A : Nat → Prop} {p : Program} {R : Room} {s : State} {m : MethodId} {meth : Method} {c : Code} (hF : FrH D cid A a0 h0 cc own nL fr lo mc ms p R s m meth c) {w : Cond} {args : Array Value} (h : w ∈ lw_tbl) (ho : wOK w = true) : w.before args s = true := wUse ho (hF.2.2.2.2.2.2.2.2.1.2 w h ho)
theorem h_aload {k : Fin 4} {x : Obj} (hd : decode cc pc = .ok (.aload_n k, 1)) (hl : ls[(k : Nat)]? = some (some (.inr x))) (hp : pc + 1 = pc') (kk : HW D cid a0 h0 cc own nL fr lo mc ms Ψ pc' ls (.inr x :: st) H j i) : HW D cid a0 h0 cc own nL fr lo mc ms Ψ pc ls st H j i := by
  subst hp
  intro A p l e R s m args below meth c Z locs lsA hF hR hS hL
  exact lv_aload_n hF.1 hF.2.1 hd rfl (hL.2.2.2 _ _ hl) (kk A p l e R s m args below meth c Z locs lsA hF hR hS hL)
theorem h_iload {k : Fin 4} {x : Int32} (hd : decode cc pc = .ok (.iload_n k, 1)) (hl : ls[(k : Nat)]? = some (some (.inl x))) (hp : pc + 1 = pc') (kk : HW D cid a0 h0 cc own nL fr lo mc ms Ψ pc' ls (.inl x :: st) H j i) : HW D cid a0 h0 cc own nL fr lo mc ms Ψ pc ls st H j i := by
  subst hp
  intro A p l e R s m args below meth c Z locs lsA hF hR hS hL
  exact lv_iload_n hF.1 hF.2.1 hd rfl (hL.2.2.2 _ _ hl) (kk A p l e R s m args below meth c Z locs lsA hF hR hS hL)
theorem h_istore {k : Fin 4} {x : Int32} (hi : (k : Nat) < nL) (hd : decode cc pc = .ok (.istore_n k, 1)) (hp : pc + 1 = pc') (kk : HW D cid a0 h0 cc own nL fr lo mc ms Ψ pc' (ls.set (k : Nat) (some (.inl x))) st H j i) : HW D cid a0 h0 cc own nL fr lo mc ms Ψ pc ls (.inl x :: st) H j i := by
  intro A p l e R s m args below meth c Z locs lsA hF hR hS hL
  obtain ⟨lsB, e1, hL2⟩ := hL.set hi (.inl x)
  exact w_istore hF.1 hF.2.1 (Or.inl ⟨k, rfl, hd, hp⟩) e1 (kk A p l e R s m args below meth c Z locs lsB hF hR hS hL2)
theorem h_iinc {k : Nat} {n : Int} {x y : Int32} (hi : k < nL) (hd : decode cc pc = .ok (.iinc k n, 3)) (hl : ls[k]? = some (some (.inl x))) (hv : x + Int32.ofInt n = y) (hp : pc + 3 = pc') (kk : HW D cid a0 h0 cc own nL fr lo mc ms Ψ pc' (ls.set k (some (.inl y))) st H j i) : HW D cid a0 h0 cc own nL fr lo mc ms Ψ pc ls st H j i := by
  subst hp
  subst hv
  intro A p l e R s m args below meth c Z locs lsA hF hR hS hL
  obtain ⟨lsB, e1, hL2⟩ := hL.set hi (.inl (x + Int32.ofInt n))
  exact w_iinc hF.1 hF.2.1 hd (hL.2.2.2 k _ hl) e1 (kk A p l e R s m args below meth c Z locs lsB hF hR hS hL2)
theorem h_iconst {n : Int} {v : Int32} (hd : decode cc pc = .ok (.iconst n, 1)) (hv : Int32.ofInt n = v) (hp : pc + 1 = pc') (kk : HW D cid a0 h0 cc own nL fr lo mc ms Ψ pc' ls (.inl v :: st) H j i) : HW D cid a0 h0 cc own nL fr lo mc ms Ψ pc ls st H j i := by
  subst hp
  intro A p l e R s m args below meth c Z locs lsA hF hR hS hL
  exact lv_iconst hF.1 hF.2.1 hd hv (kk A p l e R s m args below meth c Z locs lsA hF hR hS hL)
theorem h_bipush {n : Int} {v : Int32} (hd : decode cc pc = .ok (.bipush n, 2)) (hv : (Int8.ofInt n).toInt32 = v) (hp : pc + 2 = pc') (kk : HW D cid a0 h0 cc own nL fr lo mc ms Ψ pc' ls (.inl v :: st) H j i) : HW D cid a0 h0 cc own nL fr lo mc ms Ψ pc ls st H j i := by
  subst hp
  intro A p l e R s m args below meth c Z locs lsA hF hR hS hL
  exact lv_bipush hF.1 hF.2.1 hd hv (kk A p l e R s m args below meth c Z locs lsA hF hR hS hL)
theorem h_sipush {n : Int} {v : Int32} (hd : decode cc pc = .ok (.sipush n, 3)) (hv : (Int16.ofInt n).toInt32 = v) (hp : pc + 3 = pc') (kk : HW D cid a0 h0 cc own nL fr lo mc ms Ψ pc' ls (.inl v :: st) H j i) : HW D cid a0 h0 cc own nL fr lo mc ms Ψ pc ls st H j i := by
  subst hp
  intro A p l e R s m args below meth c Z locs lsA hF hR hS hL
  exact lv_sipush hF.1 hF.2.1 hd hv (kk A p l e R s m args below meth c Z locs lsA hF hR hS hL)
theorem h_dup {x : OV} (hd : decode cc pc = .ok (.dup, 1)) (hp : pc + 1 = pc') (kk : HW D cid a0 h0 cc own nL fr lo mc ms Ψ pc' ls (x :: x :: st) H j i) : HW D cid a0 h0 cc own nL fr lo mc ms Ψ pc ls (x :: st) H j i := by
  subst hp
  intro A p l e R s m args below meth c Z locs lsA hF hR hS hL
  exact lv_dup hF.1 hF.2.1 hd (vlv_cat _ x) (kk A p l e R s m args below meth c Z locs lsA hF hR hS hL)
theorem h_goto {off : Int} (hd : decode cc pc = .ok (.goto off, 3)) (ht : (pc : Int) + off = (pc' : Int)) (kk : HW D cid a0 h0 cc own nL fr lo mc ms Ψ pc' ls st H j i) : HW D cid a0 h0 cc own nL fr lo mc ms Ψ pc ls st H j i := by
  intro A p l e R s m args below meth c Z locs lsA hF hR hS hL
  exact lv_goto hF.1 hF.2.1 hd ht (kk A p l e R s m args below meth c Z locs lsA hF hR hS hL)
theorem h_icmp_ge {x y : Int32} {off : Int} {tgt : Nat} (hd : decode cc pc = .ok (.if_icmp .ge off, 3)) (ht : (pc : Int) + off = (tgt : Int)) (hp : pc + 3 = pc') (kt : y ≤ x → HW D cid a0 h0 cc own nL fr lo mc ms Ψ tgt ls st H j i) (kf : ¬ y ≤ x → HW D cid a0 h0 cc own nL fr lo mc ms Ψ pc' ls st H j i) : HW D cid a0 h0 cc own nL fr lo mc ms Ψ pc ls (.inl y :: .inl x :: st) H j i := by
  subst hp
  intro A p l e R s m args below meth c Z locs lsA hF hR hS hL
  exact lv_icmp_ge hF.1 hF.2.1 hd ht (fun z => kt z A p l e R s m args below meth c Z locs lsA hF hR hS hL) (fun z => kf z A p l e R s m args below meth c Z locs lsA hF hR hS hL)
theorem h_ret (hd : decode cc pc = .ok (.return_, 1)) (hj : j ≤ mc) (hi : i ≤ ms) (hΨ : Ψ H) : HW D cid a0 h0 cc own nL fr lo mc ms Ψ pc ls [] H j i := by
  intro A p l e R s m args below meth c Z locs lsA hF hR hS hL
  exact W.widen (k := mc) (n := ms) hj hi (hR H locs lsA pc hΨ hS hd)
theorem h_objInit {idx : Nat} {a : Obj} (hd : decode cc pc = .ok (.invokespecial idx, 3)) (hw : Cond.methodLink own idx Lib.objectInit ∈ lw_tbl) (hw2 : Cond.instanceMethod Lib.objectInit ∈ lw_tbl) (hw3 : Cond.code Lib.objectInit ⟨#[0xb1]⟩ 1 none ∈ lw_tbl) (hfr : 1 ≤ fr) (hlo : 12 ≤ lo) (hp : pc + 3 = pc') (kk : HW D cid a0 h0 cc own nL fr lo mc ms Ψ pc' ls [] H j i) : HW D cid a0 h0 cc own nL fr lo mc ms Ψ pc ls [.inr a] H j i := by
  subst hp
  intro A p l e R s m args below meth c Z locs lsA hF hR hS hL
  refine W.objInit hF.1 hF.2.1 hF.2.2.2.1 (hF.use hw rfl) (hF.use hw2 rfl) (hF.use hw3 rfl) rfl (by rw [hF.2.2.1]; exact hL.1) rfl hd (Nat.le_trans hfr hF.2.2.2.2.1) (Nat.le_trans hlo hF.2.2.2.2.2.1) ?_
  exact kk A p l e R s m args below meth c Z locs lsA hF hR hS hL
theorem va_S.up {A : Nat → Prop} {H0 H H1 : Heap} {locs : List Loc} (h : va_S A H0 H locs) (z : H.size ≤ H1.size) (o : ∀ q, q < H.size → H1[q]? = H[q]?) : va_S A H0 H1 locs := ⟨Nat.le_trans h.1 z, fun x h1 h2 => (o x (Nat.lt_of_lt_of_le h1 h.1)).trans (h.2.1 x h1 h2), h.2.2⟩
theorem h_new {ci index : Nat} {C : String} {T : u_T} {N : Nat} {fs : List Value} (hc : vwCl[ci]? = some (C, T, N)) (hin : ∀ w ∈ u_ws C T N, w ∈ lw_tbl) (ty : Nat → FieldType) (hty : ∀ k, k < N → parseFieldDescriptor (T k).2.2.1 = some (ty k)) (hfs : ∀ k, k < N → defaultValue (ty k) = vp_V fs k)
    (hw1 : Cond.classLink own index C ∈ lw_tbl) (hw2 : Cond.instantiable C N ∈ lw_tbl) (hw3 : Cond.initialized C ∈ lw_tbl) (hj : j + 1 ≤ mc) (hi : i + N ≤ ms) (hd : decode cc pc = .ok (.new index, 3)) (hp : pc + 3 = pc')
    (kk : ∀ H' : Heap, va_at D vwCl (H.size, .inr (ci, fs)) H' → H'.size = H.size + 1 → (∀ q, q < H.size → H'[q]? = H[q]?) → HW D cid a0 h0 cc own nL fr lo mc ms Ψ pc' ls (.inr (H.size, 0, 0, 0) :: st) H' (j + 1) (i + N)) : HW D cid a0 h0 cc own nL fr lo mc ms Ψ pc ls st H j i := by
  subst hp
  intro A p l e R s m args below meth c Z locs lsA hF hR hS hL
  have hKn := hF.2.2.2.2.2.2.2.2.1.1.1 ci _ hc
  have hts : ∀ w ∈ u_ws C T N, w.before args s = true := fun w h => hF.use (hin w h) (u_ws_ok w h)
  refine W.newcK hF.1 hF.2.1 hF.2.2.2.1 (hF.use hw1 rfl) (hF.use hw2 rfl) (hF.use hw3 rfl) rfl hd (Nat.le_trans hj hF.2.2.2.2.2.2.1) (Nat.le_trans hi hF.2.2.2.2.2.2.2.1) hKn.2.1 rfl fun H1 kC hkC e1 z1 o1 => ?_
  exact kk H1 ⟨_, hc, (u_born ty hts (fun w h => h) hKn hkC e1 hty).to hfs⟩ z1 o1 A p l e R s m args below meth c Z locs lsA hF hR (hS.up (by omega) o1) hL
theorem h_newI {n : Nat} (hn : n < 2147483648) (hw : Cond.arrayClass .int ∈ lw_tbl) (hb : n * componentBytes .int ≤ 536870912) (hj : j + 1 ≤ mc) (hi : i + n ≤ ms) (hd : decode cc pc = .ok (.newarray .int, 2)) (hp : pc + 2 = pc')
    (kk : ∀ H' : Heap, va_at D vwCl (H.size, .inl (cid 9, n, .inl (fun _ => 0))) H' → H'.size = H.size + 1 → (∀ q, q < H.size → H'[q]? = H[q]?) → HW D cid a0 h0 cc own nL fr lo mc ms Ψ pc' ls (.inr (H.size, 0, 0, 0) :: st) H' (j + 1) (i + n)) : HW D cid a0 h0 cc own nL fr lo mc ms Ψ pc ls (.inl (nI n) :: st) H j i := by
  subst hp
  intro A p l e R s m args below meth c Z locs lsA hF hR hS hL
  refine va_newaK (atype := .int) (N := n) hF.1 hF.2.1 (hF.use hw rfl) rfl hd rfl (nI_pos (by omega)) (nI_clamp (by omega)) hb (Nat.le_trans hj hF.2.2.2.2.2.2.1) (Nat.le_trans hi hF.2.2.2.2.2.2.2.1) rfl fun H1 cA e1 z1 o1 hAr hNm => ?_
  have hcA : cA = cid 9 := Option.some.inj (hNm.symm.trans (hF.2.2.2.2.2.2.2.2.1.1.2 1 (cid 9, .int) rfl).2)
  subst hcA
  exact kk H1 e1 z1 o1 A p l e R s m args below meth c Z locs lsA hF hR (hS.up (by omega) o1) hL
theorem h_newC {n : Nat} (hn : n < 2147483648) (hw : Cond.arrayClass .char ∈ lw_tbl) (hb : n * componentBytes .char ≤ 536870912) (hj : j + 1 ≤ mc) (hi : i + n ≤ ms) (hd : decode cc pc = .ok (.newarray .char, 2)) (hp : pc + 2 = pc')
    (kk : ∀ H' : Heap, va_at D vwCl (H.size, .inl (cid 8, n, .inl (fun _ => 0))) H' → H'.size = H.size + 1 → (∀ q, q < H.size → H'[q]? = H[q]?) → HW D cid a0 h0 cc own nL fr lo mc ms Ψ pc' ls (.inr (H.size, 0, 0, 0) :: st) H' (j + 1) (i + n)) : HW D cid a0 h0 cc own nL fr lo mc ms Ψ pc ls (.inl (nI n) :: st) H j i := by
  subst hp
  intro A p l e R s m args below meth c Z locs lsA hF hR hS hL
  refine va_newaK (atype := .char) (N := n) hF.1 hF.2.1 (hF.use hw rfl) rfl hd rfl (nI_pos (by omega)) (nI_clamp (by omega)) hb (Nat.le_trans hj hF.2.2.2.2.2.2.1) (Nat.le_trans hi hF.2.2.2.2.2.2.2.1) rfl fun H1 cA e1 z1 o1 hAr hNm => ?_
  have hcA : cA = cid 8 := Option.some.inj (hNm.symm.trans (hF.2.2.2.2.2.2.2.2.1.1.2 0 (cid 8, .char) rfl).2)
  subst hcA
  exact kk H1 e1 z1 o1 A p l e R s m args below meth c Z locs lsA hF hR (hS.up (by omega) o1) hL
theorem h_anew {n index t0 : Nat} {C : String} {kd : Nat} (hn : n < 2147483648) (hw : Cond.classLink own index C ∈ lw_tbl) (hw2 : Cond.arrayOver (.object C) ∈ lw_tbl) (ht : (tysG (g9 D cid))[t0]? = some (cid kd, .object C)) (hb : n * 4 ≤ 536870912) (hj : j + 1 ≤ mc) (hi : i + n ≤ ms) (hd : decode cc pc = .ok (.anewarray index, 3)) (hp : pc + 3 = pc')
    (kk : ∀ H' : Heap, va_at D vwCl (H.size, .inl (cid kd, n, .inr (.inr (.inr (.inr (fun _ => none)))))) H' → H'.size = H.size + 1 → (∀ q, q < H.size → H'[q]? = H[q]?) → HW D cid a0 h0 cc own nL fr lo mc ms Ψ pc' ls (.inr (H.size, 0, 0, 0) :: st) H' (j + 1) (i + n)) : HW D cid a0 h0 cc own nL fr lo mc ms Ψ pc ls (.inl (nI n) :: st) H j i := by
  subst hp
  intro A p l e R s m args below meth c Z locs lsA hF hR hS hL
  have hcl : (nI n).toNatClampNeg = n := nI_clamp (by omega)
  refine W.anew hF.1 hF.2.1 hF.2.2.2.1 (hF.use hw rfl) (hF.use hw2 rfl) rfl hd rfl (nI_pos (by omega)) (by rw [hcl]; exact hb) (Nat.le_trans hj hF.2.2.2.2.2.2.1) (by rw [hcl]; exact Nat.le_trans hi hF.2.2.2.2.2.2.2.1) fun cA kA comp f1 f2 f3 f4 => ?_
  rw [hcl]
  obtain ⟨kA2, comp2, -, -, -, hnm⟩ := (hF.2.2.2.2.2.2.2.2.1.1.2 t0 _ ht).2
  have hcA : cA = cid kd := Option.some.inj (f1.symm.trans hnm)
  subst hcA
  generalize hH1 : H.push ({ cls := cid kd, slots := Array.replicate n .null, vm := .none } : Cell) = H1
  have z1 : H1.size = H.size + 1 := by rw [← hH1, Array.size_push]
  have e1 : H1[H.size]? = some (arrV (cid kd) n (fun _ => .null)) := by rw [← hH1, Array.getElem?_push_size, ← arrV_new]
  have o1 : ∀ q : Nat, q < H.size → H1[q]? = H[q]? := fun q hq => by rw [← hH1, Array.getElem?_push, if_neg (Nat.ne_of_lt hq)]
  refine kk H1 ?_ z1 o1 A p l e R s m args below meth c Z locs lsA hF hR (hS.up (by omega) o1) hL
  show H1[H.size]? = some (vp_cell _ _)
  rw [vp_cell_q]
  exact e1
end HRows
