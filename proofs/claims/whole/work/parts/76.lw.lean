/-! LW: the walk of the law's body: AW with the script beside (its row is named (15, 1, 0, 0)), and the law's own end. -/
def LK (G : Gl) (b L : Nat) (xs : Nat → Int32) (A : Nat → Prop) (p : Program) (l : Launch) (e : Env) (R : Room) (s : State) (m : MethodId) (args : Array Value) (below : List Frame) (meth : Method) (c : Code) (cells slots : Nat) (Z : State → Prop) : Prop :=
  va_X b L xs s s.heap ∧ b < s.heap.size ∧ ¬ A b ∧ G.2.1 (15, 1, 0, 0) = b ∧ ∀ (H : Heap) (locs : List Loc) (lsA : Array Slot), va_S A s.heap H locs → W p l e R s m args below meth c H locs cells slots Z (F0 m 908 lsA [.int 1])
def LW (G : Gl) (b L : Nat) (xs : Nat → Int32) (cc : ByteArray) (own : String) (nL fr lo : Nat) (pc : Nat) (ls : List (Option OV)) (st : List OV) (M : Mm) : Prop :=
  ∀ (A : Nat → Prop) (p : Program) (l : Launch) (e : Env) (R : Room) (s : State) (m : MethodId) (args : Array Value) (below : List Frame) (meth : Method) (c : Code) (cells slots : Nat) (Z : State → Prop) (H : Heap) (locs : List Loc) (lsA : Array Slot),
    FrOK G A cc own nL fr lo p R s m c cells slots → LK G b L xs A p l e R s m args below meth c cells slots Z → Mem G M H → va_S A s.heap H locs → Lh G lsA nL ls →
    W p l e R s m args below meth c H locs cells slots Z (F0 m pc lsA (st.map (vlv G)))
section LRows
variable {G : Gl} {b L : Nat} {xs : Nat → Int32} {cc : ByteArray} {own : String} {nL fr lo : Nat} {pc pc' : Nat} {ls : List (Option OV)} {st : List OV} {M : Mm}
theorem l_iconst {n : Int} {v : Int32} (hd : decode cc pc = .ok (.iconst n, 1)) (hv : Int32.ofInt n = v) (hp : pc + 1 = pc') (kk : LW G b L xs cc own nL fr lo pc' ls (.inl v :: st) M) : LW G b L xs cc own nL fr lo pc ls st M := by
  subst hp
  intro A p l e R s m args below meth c cells slots Z H locs lsA hF hR hM hS hL
  exact lv_iconst hF.1 hF.2.1 hd hv (kk A p l e R s m args below meth c cells slots Z H locs lsA hF hR hM hS hL)
theorem l_bipush {n : Int} {v : Int32} (hd : decode cc pc = .ok (.bipush n, 2)) (hv : (Int8.ofInt n).toInt32 = v) (hp : pc + 2 = pc') (kk : LW G b L xs cc own nL fr lo pc' ls (.inl v :: st) M) : LW G b L xs cc own nL fr lo pc ls st M := by
  subst hp
  intro A p l e R s m args below meth c cells slots Z H locs lsA hF hR hM hS hL
  exact lv_bipush hF.1 hF.2.1 hd hv (kk A p l e R s m args below meth c cells slots Z H locs lsA hF hR hM hS hL)
theorem l_iadd {x y : Int32} (hd : decode cc pc = .ok (.iadd, 1)) (hp : pc + 1 = pc') (kk : LW G b L xs cc own nL fr lo pc' ls (.inl (x + y) :: st) M) : LW G b L xs cc own nL fr lo pc ls (.inl y :: .inl x :: st) M := by
  subst hp
  intro A p l e R s m args below meth c cells slots Z H locs lsA hF hR hM hS hL
  exact lv_iadd hF.1 hF.2.1 hd (kk A p l e R s m args below meth c cells slots Z H locs lsA hF hR hM hS hL)
theorem l_isub {x y : Int32} (hd : decode cc pc = .ok (.isub, 1)) (hp : pc + 1 = pc') (kk : LW G b L xs cc own nL fr lo pc' ls (.inl (x - y) :: st) M) : LW G b L xs cc own nL fr lo pc ls (.inl y :: .inl x :: st) M := by
  subst hp
  intro A p l e R s m args below meth c cells slots Z H locs lsA hF hR hM hS hL
  exact lv_isub hF.1 hF.2.1 hd (kk A p l e R s m args below meth c cells slots Z H locs lsA hF hR hM hS hL)
theorem l_iand {x y : Int32} (hd : decode cc pc = .ok (.iand, 1)) (hp : pc + 1 = pc') (kk : LW G b L xs cc own nL fr lo pc' ls (.inl (x &&& y) :: st) M) : LW G b L xs cc own nL fr lo pc ls (.inl y :: .inl x :: st) M := by
  subst hp
  intro A p l e R s m args below meth c cells slots Z H locs lsA hF hR hM hS hL
  exact lv_iand hF.1 hF.2.1 hd (kk A p l e R s m args below meth c cells slots Z H locs lsA hF hR hM hS hL)
theorem l_icmp_eq {x y : Int32} {off : Int} {tgt : Nat} (hd : decode cc pc = .ok (.if_icmp .eq off, 3)) (ht : (pc : Int) + off = (tgt : Int)) (hp : pc + 3 = pc') (kt : x = y → LW G b L xs cc own nL fr lo tgt ls st M) (kf : ¬ x = y → LW G b L xs cc own nL fr lo pc' ls st M) : LW G b L xs cc own nL fr lo pc ls (.inl y :: .inl x :: st) M := by
  subst hp
  intro A p l e R s m args below meth c cells slots Z H locs lsA hF hR hM hS hL
  exact lv_icmp_eq hF.1 hF.2.1 hd ht (fun z => kt z A p l e R s m args below meth c cells slots Z H locs lsA hF hR hM hS hL) (fun z => kf z A p l e R s m args below meth c cells slots Z H locs lsA hF hR hM hS hL)
theorem l_icmp_gt {x y : Int32} {off : Int} {tgt : Nat} (hd : decode cc pc = .ok (.if_icmp .gt off, 3)) (ht : (pc : Int) + off = (tgt : Int)) (hp : pc + 3 = pc') (kt : y < x → LW G b L xs cc own nL fr lo tgt ls st M) (kf : ¬ y < x → LW G b L xs cc own nL fr lo pc' ls st M) : LW G b L xs cc own nL fr lo pc ls (.inl y :: .inl x :: st) M := by
  subst hp
  intro A p l e R s m args below meth c cells slots Z H locs lsA hF hR hM hS hL
  exact lv_icmp_gt hF.1 hF.2.1 hd ht (fun z => kt z A p l e R s m args below meth c cells slots Z H locs lsA hF hR hM hS hL) (fun z => kf z A p l e R s m args below meth c cells slots Z H locs lsA hF hR hM hS hL)
theorem l_goto {off : Int} (hd : decode cc pc = .ok (.goto off, 3)) (ht : (pc : Int) + off = (pc' : Int)) (kk : LW G b L xs cc own nL fr lo pc' ls st M) : LW G b L xs cc own nL fr lo pc ls st M := by
  intro A p l e R s m args below meth c cells slots Z H locs lsA hF hR hM hS hL
  exact lv_goto hF.1 hF.2.1 hd ht (kk A p l e R s m args below meth c cells slots Z H locs lsA hF hR hM hS hL)
theorem l_tswO {dflt lo1 hi : Int} {offs : Array Int} {len : Nat} {x : Int32} {tgt : Nat} (hd : decode cc pc = .ok (.tableswitch dflt lo1 hi offs, len)) (h : x.toInt < lo1 ∨ hi < x.toInt) (ht : (pc : Int) + dflt = (tgt : Int)) (kk : LW G b L xs cc own nL fr lo tgt ls st M) : LW G b L xs cc own nL fr lo pc ls (.inl x :: st) M := by
  intro A p l e R s m args below meth c cells slots Z H locs lsA hF hR hM hS hL
  exact lv_tableOut hF.1 hF.2.1 hd h ht (kk A p l e R s m args below meth c cells slots Z H locs lsA hF hR hM hS hL)
theorem l_tswI {dflt lo1 hi : Int} {offs : Array Int} {len : Nat} {x : Int32} {off : Int} {tgt : Nat} (hd : decode cc pc = .ok (.tableswitch dflt lo1 hi offs, len)) (h1 : ¬ x.toInt < lo1) (h2 : ¬ hi < x.toInt) (ho : offs[(x.toInt - lo1).toNat]? = some off) (ht : (pc : Int) + off = (tgt : Int)) (kk : LW G b L xs cc own nL fr lo tgt ls st M) : LW G b L xs cc own nL fr lo pc ls (.inl x :: st) M := by
  intro A p l e R s m args below meth c cells slots Z H locs lsA hF hR hM hS hL
  exact lv_tableIn hF.1 hF.2.1 hd h1 h2 ho ht (kk A p l e R s m args below meth c cells slots Z H locs lsA hF hR hM hS hL)
theorem l_ild {i : Nat} {x : Int32} (hd : (∃ k : Fin 4, (k : Nat) = i ∧ decode cc pc = .ok (.iload_n k, 1) ∧ pc + 1 = pc') ∨ (decode cc pc = .ok (.iload i, 2) ∧ pc + 2 = pc')) (hl : ls[i]? = some (some (.inl x))) (kk : LW G b L xs cc own nL fr lo pc' ls (.inl x :: st) M) : LW G b L xs cc own nL fr lo pc ls st M := by
  intro A p l e R s m args below meth c cells slots Z H locs lsA hF hR hM hS hL
  rcases hd with ⟨k, hk, hd, rfl⟩ | ⟨hd, rfl⟩
  · exact lv_iload_n hF.1 hF.2.1 hd hk (hL.2.2.2 i _ hl) (kk A p l e R s m args below meth c cells slots Z H locs lsA hF hR hM hS hL)
  · exact lv_iload hF.1 hF.2.1 hd (hL.2.2.2 i _ hl) (kk A p l e R s m args below meth c cells slots Z H locs lsA hF hR hM hS hL)
theorem l_ald {i : Nat} {x : Obj} (hd : (∃ k : Fin 4, (k : Nat) = i ∧ decode cc pc = .ok (.aload_n k, 1) ∧ pc + 1 = pc') ∨ (decode cc pc = .ok (.aload i, 2) ∧ pc + 2 = pc')) (hl : ls[i]? = some (some (.inr x))) (kk : LW G b L xs cc own nL fr lo pc' ls (.inr x :: st) M) : LW G b L xs cc own nL fr lo pc ls st M := by
  intro A p l e R s m args below meth c cells slots Z H locs lsA hF hR hM hS hL
  rcases hd with ⟨k, hk, hd, rfl⟩ | ⟨hd, rfl⟩
  · exact lv_aload_n hF.1 hF.2.1 hd hk (hL.2.2.2 i _ hl) (kk A p l e R s m args below meth c cells slots Z H locs lsA hF hR hM hS hL)
  · exact lv_aload hF.1 hF.2.1 hd (hL.2.2.2 i _ hl) (kk A p l e R s m args below meth c cells slots Z H locs lsA hF hR hM hS hL)
theorem l_inc {i : Nat} {n : Int} {x y : Int32} (hi : i < nL) (hd : decode cc pc = .ok (.iinc i n, 3)) (hl : ls[i]? = some (some (.inl x))) (hv : x + Int32.ofInt n = y) (hp : pc + 3 = pc') (kk : LW G b L xs cc own nL fr lo pc' (ls.set i (some (.inl y))) st M) : LW G b L xs cc own nL fr lo pc ls st M := by
  subst hp
  subst hv
  intro A p l e R s m args below meth c cells slots Z H locs lsA hF hR hM hS hL
  obtain ⟨lsB, e1, hL2⟩ := hL.set hi (.inl (x + Int32.ofInt n))
  exact w_iinc hF.1 hF.2.1 hd (hL.2.2.2 i _ hl) e1 (kk A p l e R s m args below meth c cells slots Z H locs lsB hF hR hM hS hL2)
theorem l_callV {y : MethodName} {cc' : ByteArray} {mL fr' lo' n index : Nat} {rt' : Option FieldType} {x : Obj} {As rest st0 : List OV} {Φ' : Option OV → Mm → Prop} {ci : Nat} {fs : List Value} {T : u_T} {N : Nat} (hC : Ct y cc' mL rt' fr' lo' (.inr x :: As) M Φ') (hW : CWd own index y cc' mL rt' n) (hs : Cond.instanceMethod y ∈ lw_tbl) (hse : Cond.selects y.cls y y ∈ lw_tbl) (ho : okO x = true) (he : ent G M x = .inr (ci, fs)) (hc : vwCl[ci]? = some (y.cls, T, N)) (hn : As.length = n) (hfr : fr' + 1 ≤ fr) (hlo : 8 + (mL + 11) + lo' ≤ lo) (hrest : rest.length ≤ 8) (hst : st0 = As.reverse ++ .inr x :: rest) (hd : decode cc pc = .ok (.invokevirtual index, 3)) (hp : pc + 3 = pc')
    (kk : ∀ v M', Φ' v M' → LW G b L xs cc own nL fr lo pc' ls (v.toList ++ rest) M') : LW G b L xs cc own nL fr lo pc ls st0 M := by
  subst hp
  subst hst
  intro A p l e R s m args below meth c cells slots Z H locs lsA hF hR hM hS hL
  have hcode := hF.use (args := args) hW.2.1 rfl
  have hcw : CallW R s args own y.cls index y cc' mL rt' [.code y cc' mL rt'] { frames := fr', cells := 0, slots := 0, locals := lo' } 0 0 n :=
    ⟨⟨rfl, rfl, Nat.le_trans hfr hF.2.2.2.2.1, Nat.le_trans hlo hF.2.2.2.2.2.1, c_ws hcode, List.mem_cons_self, hcode, hF.use hW.2.2.1 rfl, hW.2.2.2.1, c_len hW.2.2.2.2, hF.use hW.1 rfl⟩, hF.use hs rfl, hF.use hse rfl⟩
  have hx := hM x ho
  rw [he] at hx
  have hP : va_P G.1 vwCl [(G.2.1 x, .inr (ci, fs))] H := fun j q hj => by
    have hz : j < 1 := (List.getElem?_eq_some_iff.mp hj).1
    rw [show j = 0 by omega] at hj
    cases hj
    exact hx
  have hrc := va_recv (q0 := 0) (ws := [(G.2.1 x, .inr (ci, fs))]) hF.2.2.2.2.2.2.2.2.1.1 hP hc rfl
  have hpc := c_pc (av := .inr x :: As) hF hM hS
  rw [List.map_append, List.map_cons, List.map_reverse]
  refine w_call (va_runV (Ts := []) ⟨hF.1, hF.2.1, hF.2.2.1, hF.2.2.2.1, fun w h => absurd h List.not_mem_nil⟩ (hC G l hF.2.2.2.2.2.2.2.2.2.2.1) hcw ⟨hpc.1, hrc, hpc.2⟩ rfl (by rw [List.length_map]; exact hn) hL.1 rfl (w_rest G hrest) hd ⟨by simpa using hF.2.2.2.2.2.2.1, by simpa using hF.2.2.2.2.2.2.2.1⟩) hS hF.2.2.2.2.2.2.2.2.2.2.2 (fun v M' H1 locs1 hΦ hM1 hS1 => ?_)
  rw [← List.map_append]
  exact kk v M' hΦ A p l e R s m args below meth c cells slots Z H1 locs1 lsA hF hR hM1 hS1 hL
theorem l_sld {i : Int32} (hi : vp_in i L) (hd : decode cc pc = .ok (.iaload, 1)) (hp : pc + 1 = pc') (kk : LW G b L xs cc own nL fr lo pc' ls (.inl (xs i.toNatClampNeg) :: st) M) : LW G b L xs cc own nL fr lo pc ls (.inl i :: .inr (15, 1, 0, 0) :: st) M := by
  subst hp
  intro A p l e R s m args below meth c cells slots Z H locs lsA hF hR hM hS hL
  show W p l e R s m args below meth c H locs cells slots Z (F0 m pc lsA (.int i :: .ref (G.2.1 (15, 1, 0, 0)) :: st.map (vlv G)))
  rw [hR.2.2.2.1]
  exact va_sld hF.1 hF.2.1 hR.1 hR.2.1 hR.2.2.1 hS hi hd (kk A p l e R s m args below meth c cells slots Z H locs lsA hF hR hM hS hL)
theorem l_slen (hd : decode cc pc = .ok (.arraylength, 1)) (hp : pc + 1 = pc') (kk : LW G b L xs cc own nL fr lo pc' ls (.inl (nI L) :: st) M) : LW G b L xs cc own nL fr lo pc ls (.inr (15, 1, 0, 0) :: st) M := by
  subst hp
  intro A p l e R s m args below meth c cells slots Z H locs lsA hF hR hM hS hL
  show W p l e R s m args below meth c H locs cells slots Z (F0 m pc lsA (.ref (G.2.1 (15, 1, 0, 0)) :: st.map (vlv G)))
  rw [hR.2.2.2.1]
  exact va_slen hF.1 hF.2.1 hR.1 hR.2.1 hR.2.2.1 hS hd (kk A p l e R s m args below meth c cells slots Z H locs lsA hF hR hM hS hL)
theorem l_ext {M' : Mm} (h : ∀ r i, okO (ow r i) = true → M r i = M' r i) (kk : LW G b L xs cc own nL fr lo pc ls st M') : LW G b L xs cc own nL fr lo pc ls st M := by
  intro A p l e R s m args below meth c cells slots Z H locs lsA hF hR hM hS hL
  exact kk A p l e R s m args below meth c cells slots Z H locs lsA hF hR (hM.ext h) hS hL
theorem l_end (hpc : pc = 908) : LW G b L xs cc own nL fr lo pc ls [.inl 1] M := by
  subst hpc
  intro A p l e R s m args below meth c cells slots Z H locs lsA hF hR hM hS hL
  exact hR.2.2.2.2 H locs lsA hS
end LRows
