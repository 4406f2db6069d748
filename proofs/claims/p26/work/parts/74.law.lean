/-! LAW: the law's body. -/
theorem ct_L_cell {k : Nat} (hk : k < 100000) (M : Mm) : Ct yL_cell cL_cell 2 (some .int) 0 0 [.inr (15, 1, 0, 0), .inl (nI k)] M (fun v M' => (∃ x : Int32, v = some (.inl x)) ∧ M' = M) := by
  refine Ct.at RL rfl (by decide +kernel) (Nat.le_of_ble_eq_true rfl) [some (.inr (15, 1, 0, 0)), some (.inl (nI k))] rfl (fun G => ?_) (fun _ _ h9 => by obtain ⟨⟨x, hx⟩, -⟩ := h9; cases hx)
  refine a_il_1_2 (pc' := 1) dL_cell_0 rfl ?_
  refine a_al_0_2 (pc' := 2) dL_cell_1 rfl ?_
  refine a_slen (pc' := 3) dL_cell_2 rfl (fun hs => ?_)
  refine a_icmp_ge (pc' := 6) (tgt := 12) dL_cell_3 (by decide) rfl (fun c => ?_) (fun c => ?_)
  · refine a_ldc (pc' := 14) dL_cell_12 cn_L_7 rfl ?_
    refine a_il_1_2 (pc' := 15) dL_cell_14 rfl ?_
    refine a_iconst (v := nI 3) (pc' := 16) dL_cell_15 (by decide) rfl ?_
    refine a_iadd (pc' := 17) dL_cell_16 rfl ?_
    refine a_imul (pc' := 18) dL_cell_17 rfl ?_
    exact a_iret dL_cell_18 rfl rfl ⟨⟨_, rfl⟩, rfl⟩
  · have hlt : k < scL G := by
      rcases Nat.lt_or_ge k (scL G) with q | q
      · exact q
      · exact absurd (nI_le q (by omega)) c
    refine a_al_0_2 (pc' := 7) dL_cell_6 rfl ?_
    refine a_il_1_2 (pc' := 8) dL_cell_7 rfl ?_
    refine a_sld (pc' := 9) (vp_in_nI hlt (by omega)) dL_cell_8 rfl ?_
    refine a_goto (pc' := 18) dL_cell_9 (by decide) ?_
    exact a_iret dL_cell_18 rfl rfl ⟨⟨_, rfl⟩, rfl⟩
/-- the law's own end, and the room that its whole run takes: C1 cells, S1 slots -/
def LK (G : Gl) (C1 S1 : Nat) (A : Nat → Prop) (p : Program) (l : Launch) (e : Env) (R : Room) (s : State) (m : MethodId) (args : Array Value) (below : List Frame) (meth : Method) (c : Code) (Z : State → Prop) : Prop :=
  (∀ q : Nat, s.heap.size ≤ q → A q) ∧ ¬ FL G ∧ C1 ≤ R.cells ∧ S1 ≤ R.slots ∧ ∀ (H : Heap) (locs : List Loc) (lsA : Array Slot), va_S A s.heap H locs → W p l e R s m args below meth c H locs C1 S1 Z (F0 m 187 lsA [.int 1])
def LW (G : Gl) (C1 S1 cl sl : Nat) (cc : ByteArray) (own : String) (nL fr lo : Nat) (pc : Nat) (ls : List (Option OV)) (st : List OV) (M : Mm) : Prop :=
  ∀ (A : Nat → Prop) (p : Program) (l : Launch) (e : Env) (R : Room) (s : State) (m : MethodId) (args : Array Value) (below : List Frame) (meth : Method) (c : Code) (Z : State → Prop) (H : Heap) (locs : List Loc) (lsA : Array Slot),
    FrOK G A cc own nL fr lo p R s m c cl sl → LK G C1 S1 A p l e R s m args below meth c Z → Mem G M H → va_S A s.heap H locs → Lh G lsA nL ls →
    W p l e R s m args below meth c H locs cl sl Z (F0 m pc lsA (st.map (vlv G)))
section LRows
variable {G : Gl} {C1 S1 cl sl : Nat} {cc : ByteArray} {own : String} {nL fr lo : Nat} {pc pc' : Nat} {ls : List (Option OV)} {st : List OV} {M : Mm}
theorem l_iconst {n : Int} {v : Int32} (hd : decode cc pc = .ok (.iconst n, 1)) (hv : Int32.ofInt n = v) (hp : pc + 1 = pc') (kk : LW G C1 S1 cl sl cc own nL fr lo pc' ls (.inl v :: st) M) : LW G C1 S1 cl sl cc own nL fr lo pc ls st M := by
  subst hp
  intro A p l e R s m args below meth c Z H locs lsA hF hR hM hS hL
  exact lv_iconst hF.1 hF.2.1 hd hv (kk A p l e R s m args below meth c Z H locs lsA hF hR hM hS hL)
theorem l_bipush {n : Int} {v : Int32} (hd : decode cc pc = .ok (.bipush n, 2)) (hv : (Int8.ofInt n).toInt32 = v) (hp : pc + 2 = pc') (kk : LW G C1 S1 cl sl cc own nL fr lo pc' ls (.inl v :: st) M) : LW G C1 S1 cl sl cc own nL fr lo pc ls st M := by
  subst hp
  intro A p l e R s m args below meth c Z H locs lsA hF hR hM hS hL
  exact lv_bipush hF.1 hF.2.1 hd hv (kk A p l e R s m args below meth c Z H locs lsA hF hR hM hS hL)
theorem l_sipush {n : Int} {v : Int32} (hd : decode cc pc = .ok (.sipush n, 3)) (hv : (Int16.ofInt n).toInt32 = v) (hp : pc + 3 = pc') (kk : LW G C1 S1 cl sl cc own nL fr lo pc' ls (.inl v :: st) M) : LW G C1 S1 cl sl cc own nL fr lo pc ls st M := by
  subst hp
  intro A p l e R s m args below meth c Z H locs lsA hF hR hM hS hL
  exact lv_sipush hF.1 hF.2.1 hd hv (kk A p l e R s m args below meth c Z H locs lsA hF hR hM hS hL)
theorem l_ldc {index : Nat} {v : Int32} (hd : decode cc pc = .ok (.ldc index, 2)) (hw : Cond.constant own index v ∈ lw_tbl) (hp : pc + 2 = pc') (kk : LW G C1 S1 cl sl cc own nL fr lo pc' ls (.inl v :: st) M) : LW G C1 S1 cl sl cc own nL fr lo pc ls st M := by
  subst hp
  intro A p l e R s m args below meth c Z H locs lsA hF hR hM hS hL
  exact lv_ldc hF.1 hF.2.1 hF.2.2.2.1 (hF.use hw rfl) hd (kk A p l e R s m args below meth c Z H locs lsA hF hR hM hS hL)
theorem l_iadd {x y : Int32} (hd : decode cc pc = .ok (.iadd, 1)) (hp : pc + 1 = pc') (kk : LW G C1 S1 cl sl cc own nL fr lo pc' ls (.inl (x + y) :: st) M) : LW G C1 S1 cl sl cc own nL fr lo pc ls (.inl y :: .inl x :: st) M := by
  subst hp
  intro A p l e R s m args below meth c Z H locs lsA hF hR hM hS hL
  exact lv_iadd hF.1 hF.2.1 hd (kk A p l e R s m args below meth c Z H locs lsA hF hR hM hS hL)
theorem l_imul {x y : Int32} (hd : decode cc pc = .ok (.imul, 1)) (hp : pc + 1 = pc') (kk : LW G C1 S1 cl sl cc own nL fr lo pc' ls (.inl (x * y) :: st) M) : LW G C1 S1 cl sl cc own nL fr lo pc ls (.inl y :: .inl x :: st) M := by
  subst hp
  intro A p l e R s m args below meth c Z H locs lsA hF hR hM hS hL
  exact lv_imul hF.1 hF.2.1 hd (kk A p l e R s m args below meth c Z H locs lsA hF hR hM hS hL)
theorem l_ixor {x y : Int32} (hd : decode cc pc = .ok (.ixor, 1)) (hp : pc + 1 = pc') (kk : LW G C1 S1 cl sl cc own nL fr lo pc' ls (.inl (x ^^^ y) :: st) M) : LW G C1 S1 cl sl cc own nL fr lo pc ls (.inl y :: .inl x :: st) M := by
  subst hp
  intro A p l e R s m args below meth c Z H locs lsA hF hR hM hS hL
  exact lv_ixor hF.1 hF.2.1 hd (kk A p l e R s m args below meth c Z H locs lsA hF hR hM hS hL)
theorem l_icmp_ge {x y : Int32} {off : Int} {tgt : Nat} (hd : decode cc pc = .ok (.if_icmp .ge off, 3)) (ht : (pc : Int) + off = (tgt : Int)) (hp : pc + 3 = pc') (kt : y ≤ x → LW G C1 S1 cl sl cc own nL fr lo tgt ls st M) (kf : ¬ y ≤ x → LW G C1 S1 cl sl cc own nL fr lo pc' ls st M) : LW G C1 S1 cl sl cc own nL fr lo pc ls (.inl y :: .inl x :: st) M := by
  subst hp
  intro A p l e R s m args below meth c Z H locs lsA hF hR hM hS hL
  exact lv_icmp_ge hF.1 hF.2.1 hd ht (fun z => kt z A p l e R s m args below meth c Z H locs lsA hF hR hM hS hL) (fun z => kf z A p l e R s m args below meth c Z H locs lsA hF hR hM hS hL)
theorem l_icmp_ne {x y : Int32} {off : Int} {tgt : Nat} (hd : decode cc pc = .ok (.if_icmp .ne off, 3)) (ht : (pc : Int) + off = (tgt : Int)) (hp : pc + 3 = pc') (kt : ¬ x = y → LW G C1 S1 cl sl cc own nL fr lo tgt ls st M) (kf : x = y → LW G C1 S1 cl sl cc own nL fr lo pc' ls st M) : LW G C1 S1 cl sl cc own nL fr lo pc ls (.inl y :: .inl x :: st) M := by
  subst hp
  intro A p l e R s m args below meth c Z H locs lsA hF hR hM hS hL
  exact lv_icmp_ne hF.1 hF.2.1 hd ht (fun z => kt z A p l e R s m args below meth c Z H locs lsA hF hR hM hS hL) (fun z => kf z A p l e R s m args below meth c Z H locs lsA hF hR hM hS hL)
theorem l_if_eq {x : Int32} {off : Int} {tgt : Nat} (hd : decode cc pc = .ok (.ifCond .eq off, 3)) (ht : (pc : Int) + off = (tgt : Int)) (hp : pc + 3 = pc') (kt : x = 0 → LW G C1 S1 cl sl cc own nL fr lo tgt ls st M) (kf : ¬ x = 0 → LW G C1 S1 cl sl cc own nL fr lo pc' ls st M) : LW G C1 S1 cl sl cc own nL fr lo pc ls (.inl x :: st) M := by
  subst hp
  intro A p l e R s m args below meth c Z H locs lsA hF hR hM hS hL
  exact lv_if_eq hF.1 hF.2.1 hd ht (fun z => kt z A p l e R s m args below meth c Z H locs lsA hF hR hM hS hL) (fun z => kf z A p l e R s m args below meth c Z H locs lsA hF hR hM hS hL)
theorem l_goto {off : Int} (hd : decode cc pc = .ok (.goto off, 3)) (ht : (pc : Int) + off = (pc' : Int)) (kk : LW G C1 S1 cl sl cc own nL fr lo pc' ls st M) : LW G C1 S1 cl sl cc own nL fr lo pc ls st M := by
  intro A p l e R s m args below meth c Z H locs lsA hF hR hM hS hL
  exact lv_goto hF.1 hF.2.1 hd ht (kk A p l e R s m args below meth c Z H locs lsA hF hR hM hS hL)
theorem l_ild {i : Nat} {x : Int32} (hd : (∃ k : Fin 4, (k : Nat) = i ∧ decode cc pc = .ok (.iload_n k, 1) ∧ pc + 1 = pc') ∨ (decode cc pc = .ok (.iload i, 2) ∧ pc + 2 = pc')) (hl : ls[i]? = some (some (.inl x))) (kk : LW G C1 S1 cl sl cc own nL fr lo pc' ls (.inl x :: st) M) : LW G C1 S1 cl sl cc own nL fr lo pc ls st M := by
  intro A p l e R s m args below meth c Z H locs lsA hF hR hM hS hL
  rcases hd with ⟨k, hk, hd, rfl⟩ | ⟨hd, rfl⟩
  · exact lv_iload_n hF.1 hF.2.1 hd hk (hL.2.2.2 i _ hl) (kk A p l e R s m args below meth c Z H locs lsA hF hR hM hS hL)
  · exact lv_iload hF.1 hF.2.1 hd (hL.2.2.2 i _ hl) (kk A p l e R s m args below meth c Z H locs lsA hF hR hM hS hL)
theorem l_ald {i : Nat} {x : Obj} (hd : (∃ k : Fin 4, (k : Nat) = i ∧ decode cc pc = .ok (.aload_n k, 1) ∧ pc + 1 = pc') ∨ (decode cc pc = .ok (.aload i, 2) ∧ pc + 2 = pc')) (hl : ls[i]? = some (some (.inr x))) (kk : LW G C1 S1 cl sl cc own nL fr lo pc' ls (.inr x :: st) M) : LW G C1 S1 cl sl cc own nL fr lo pc ls st M := by
  intro A p l e R s m args below meth c Z H locs lsA hF hR hM hS hL
  rcases hd with ⟨k, hk, hd, rfl⟩ | ⟨hd, rfl⟩
  · exact lv_aload_n hF.1 hF.2.1 hd hk (hL.2.2.2 i _ hl) (kk A p l e R s m args below meth c Z H locs lsA hF hR hM hS hL)
  · exact lv_aload hF.1 hF.2.1 hd (hL.2.2.2 i _ hl) (kk A p l e R s m args below meth c Z H locs lsA hF hR hM hS hL)
theorem l_ist {i : Nat} {x : Int32} (hi : i < nL) (hd : (∃ k : Fin 4, (k : Nat) = i ∧ decode cc pc = .ok (.istore_n k, 1) ∧ pc + 1 = pc') ∨ (decode cc pc = .ok (.istore i, 2) ∧ pc + 2 = pc')) (kk : LW G C1 S1 cl sl cc own nL fr lo pc' (ls.set i (some (.inl x))) st M) : LW G C1 S1 cl sl cc own nL fr lo pc ls (.inl x :: st) M := by
  intro A p l e R s m args below meth c Z H locs lsA hF hR hM hS hL
  obtain ⟨lsB, e1, hL2⟩ := hL.set hi (.inl x)
  exact w_istore hF.1 hF.2.1 hd e1 (kk A p l e R s m args below meth c Z H locs lsB hF hR hM hS hL2)
theorem l_inc {i : Nat} {n : Int} {x y : Int32} (hi : i < nL) (hd : decode cc pc = .ok (.iinc i n, 3)) (hl : ls[i]? = some (some (.inl x))) (hv : x + Int32.ofInt n = y) (hp : pc + 3 = pc') (kk : LW G C1 S1 cl sl cc own nL fr lo pc' (ls.set i (some (.inl y))) st M) : LW G C1 S1 cl sl cc own nL fr lo pc ls st M := by
  subst hp
  subst hv
  intro A p l e R s m args below meth c Z H locs lsA hF hR hM hS hL
  obtain ⟨lsB, e1, hL2⟩ := hL.set hi (.inl (x + Int32.ofInt n))
  exact w_iinc hF.1 hF.2.1 hd (hL.2.2.2 i _ hl) e1 (kk A p l e R s m args below meth c Z H locs lsB hF hR hM hS hL2)
theorem l_iald {r n : Nat} {i : Int32} (ho : okO (9, r, n, 0) = true) (hi : vp_in i n) (hd : decode cc pc = .ok (.iaload, 1)) (hp : pc + 1 = pc') (kk : LW G C1 S1 cl sl cc own nL fr lo pc' ls (.inl (M r i.toNatClampNeg) :: st) M) : LW G C1 S1 cl sl cc own nL fr lo pc ls (.inl i :: .inr (9, r, n, 0) :: st) M := by
  subst hp
  intro A p l e R s m args below meth c Z H locs lsA hF hR hM hS hL
  have hP : va_P G.1 vwCl [(G.2.1 (9, r, n, 0), .inl (G.2.2 9, n, .inl (M r)))] H := fun j q hj => by
    have hz : j < 1 := (List.getElem?_eq_some_iff.mp hj).1
    rw [show j = 0 by omega] at hj
    cases hj
    exact hM.1 _ ho
  exact va_iald (D := G.1) (cl := vwCl) (tys := tysG G) hF.1 hF.2.1 hF.2.2.2.2.2.2.2.2.1.1 hP 0 1 rfl rfl hi hd (kk A p l e R s m args below meth c Z H locs lsA hF hR hM hS hL)
theorem l_callS {y : MethodName} {cc' : ByteArray} {mL fr' lo' n index : Nat} {rt' : Option FieldType} {As rest st0 : List OV} {Φ' : Option OV → Mm → Prop} (hC : Ct y cc' mL rt' fr' lo' As M Φ') (hW : CWd own index y cc' mL rt' n) (hs : Cond.static y ∈ lw_tbl) (hn : As.length = n) (hfr : fr' + 1 ≤ fr) (hlo : 8 + (mL + 11) + lo' ≤ lo) (hrest : rest.length ≤ 8) (hst : st0 = As.reverse ++ rest) (hd : decode cc pc = .ok (.invokestatic index, 3)) (hp : pc + 3 = pc')
    (kk : ∀ v M', Φ' v M' → LW G C1 S1 cl sl cc own nL fr lo pc' ls (v.toList ++ rest) M') : LW G C1 S1 cl sl cc own nL fr lo pc ls st0 M := by
  subst hp
  subst hst
  intro A p l e R s m args below meth c Z H locs lsA hF hR hM hS hL
  have hcode := hF.use (args := args) hW.2.1 rfl
  have hcw : CallB R s args own index y cc' mL rt' [.code y cc' mL rt'] { frames := fr', cells := 0, slots := 0, locals := lo' } 0 0 n ∧ (Cond.static y).before args s = true :=
    ⟨⟨rfl, rfl, Nat.le_trans hfr hF.2.2.2.2.1, Nat.le_trans hlo hF.2.2.2.2.2.1, c_ws hcode, List.mem_cons_self, hcode, hF.use hW.2.2.1 rfl, hW.2.2.2.1, c_len hW.2.2.2.2, hF.use hW.1 rfl⟩, hF.use hs rfl⟩
  rw [List.map_append, List.map_reverse]
  refine w_call (va_runS (Ts := []) ⟨hF.1, hF.2.1, hF.2.2.1, hF.2.2.2.1, fun w h => absurd h List.not_mem_nil⟩ (hC G l hF.2.2.2.2.2.2.2.2.2.2.1) hcw (c_pc hF hM hS) rfl (by rw [List.length_map]; exact hn) hL.1 rfl (w_rest G hrest) hd ⟨by simpa using hF.2.2.2.2.2.2.1, by simpa using hF.2.2.2.2.2.2.2.1⟩) hS hF.2.2.2.2.2.2.2.2.2.2.2 (fun v M' H1 locs1 hΦ hM1 hS1 => ?_)
  rw [← List.map_append]
  exact kk v M' hΦ A p l e R s m args below meth c Z H1 locs1 lsA hF hR hM1 hS1 hL
theorem l_callV {y : MethodName} {cc' : ByteArray} {mL fr' lo' n index : Nat} {rt' : Option FieldType} {x : Obj} {As rest st0 : List OV} {Φ' : Option OV → Mm → Prop} {ci : Nat} {fs : List Value} {T : u_T} {N : Nat} (hC : Ct y cc' mL rt' fr' lo' (.inr x :: As) M Φ') (hW : CWd own index y cc' mL rt' n) (hs : Cond.instanceMethod y ∈ lw_tbl) (hse : Cond.selects y.cls y y ∈ lw_tbl) (ho : okO x = true) (he : ent G M x = .inr (ci, fs)) (hc : vwCl[ci]? = some (y.cls, T, N)) (hn : As.length = n) (hfr : fr' + 1 ≤ fr) (hlo : 8 + (mL + 11) + lo' ≤ lo) (hrest : rest.length ≤ 8) (hst : st0 = As.reverse ++ .inr x :: rest) (hd : decode cc pc = .ok (.invokevirtual index, 3)) (hp : pc + 3 = pc')
    (kk : ∀ v M', Φ' v M' → LW G C1 S1 cl sl cc own nL fr lo pc' ls (v.toList ++ rest) M') : LW G C1 S1 cl sl cc own nL fr lo pc ls st0 M := by
  subst hp
  subst hst
  intro A p l e R s m args below meth c Z H locs lsA hF hR hM hS hL
  have hcode := hF.use (args := args) hW.2.1 rfl
  have hcw : CallW R s args own y.cls index y cc' mL rt' [.code y cc' mL rt'] { frames := fr', cells := 0, slots := 0, locals := lo' } 0 0 n :=
    ⟨⟨rfl, rfl, Nat.le_trans hfr hF.2.2.2.2.1, Nat.le_trans hlo hF.2.2.2.2.2.1, c_ws hcode, List.mem_cons_self, hcode, hF.use hW.2.2.1 rfl, hW.2.2.2.1, c_len hW.2.2.2.2, hF.use hW.1 rfl⟩, hF.use hs rfl, hF.use hse rfl⟩
  have hx := hM.1 x ho
  rw [he] at hx
  have hP : va_P G.1 vwCl [(G.2.1 x, .inr (ci, fs))] H := fun j q hj => by
    have hz : j < 1 := (List.getElem?_eq_some_iff.mp hj).1
    rw [show j = 0 by omega] at hj
    cases hj
    exact hx
  have hrc := va_recv (q0 := 0) (ws := [(G.2.1 x, .inr (ci, fs))]) hF.2.2.2.2.2.2.2.2.1.1 hP hc rfl
  have hpc := c_pc (av := .inr x :: As) hF hM hS
  rw [List.map_append, List.map_cons, List.map_reverse]
  refine w_call (va_runV (Ts := []) ⟨hF.1, hF.2.1, hF.2.2.1, hF.2.2.2.1, fun w h => absurd h List.not_mem_nil⟩ (hC G l hF.2.2.2.2.2.2.2.2.2.2.1) hcw ⟨hpc.1, hrc, hpc.2⟩ rfl (by rw [List.length_map]; exact hn) hL.1 rfl (w_rest G hrest) hd ⟨by simpa using hF.2.2.2.2.2.2.1, by simpa using hF.2.2.2.2.2.2.2.1⟩) hS hF.2.2.2.2.2.2.2.2.2.2.2 (fun v M' H1 locs1 hΦ hM1 hS1 => ?_)
  rw [← List.map_append]
  exact kk v M' hΦ A p l e R s m args below meth c Z H1 locs1 lsA hF hR hM1 hS1 hL
theorem l_end (hpc : pc = 187) (hC : cl ≤ C1) (hS1 : sl ≤ S1) : LW G C1 S1 cl sl cc own nL fr lo pc ls [.inl (nI 1)] M := by
  subst hpc
  intro A p l e R s m args below meth c Z H locs lsA hF hR hM hS hL
  exact W.widen (k := C1) (n := S1) hC hS1 (hR.2.2.2.2 H locs lsA hS)
theorem w_callZ {sz : Nat} {p : Program} {l : Launch} {e : Env} {R : Room} {s : State} {m : MethodId} {args : Array Value} {below : List Frame} {meth : Method} {c : Code} {H : Heap} {locs : List Loc} {cells slots : Nat} {Q : State → Prop} {lsA : Array Slot} {st0 rest : List Value} {av : Array Value} {A : Nat → Prop}
    (hr : va_Run p l e R s m args below meth c H locs cells slots 1 4 (F0 m pc lsA st0) rest (QCz G M sz av) (fun q => AG G q ∨ sz ≤ q)) (hS : va_S A s.heap H locs) (hA : ∀ q, (AG G q ∨ sz ≤ q) → A q)
    (kk : ∀ (H1 : Heap) (locs1 : List Loc), Mem G M H1 → va_S A s.heap H1 locs1 → W p l e R s m args below meth c H1 locs1 (cells + 1) (slots + 4) Q (F0 m (pc + 3) lsA (.int (nI 1) :: rest))) : W p l e R s m args below meth c H locs cells slots Q (F0 m pc lsA st0) := by
  intro T hT X
  obtain ⟨v, st₀, t, T', L, h0, X', hL, e1, e2, ⟨⟨hv, hb⟩, hz, hk⟩, stp⟩ := hr T hT X
  cases hv
  rw [h0] at hz hk
  have hS1 : va_S A s.heap T'.heap (locs ++ L) := ⟨Nat.le_trans hS.1 (by rw [e1]; exact hz), fun q h1 h2 => by rw [e1, hk q (Nat.lt_of_lt_of_le h1 hS.1) (fun z => h2 (hA q z))]; exact hS.2.1 q h1 h2, fun q hq => by
      rcases List.mem_append.mp hq with h | h
      · exact hS.2.2 q h
      · exact hA _ (hL q h)⟩
  obtain ⟨t2, a1, b1⟩ := kk T'.heap (locs ++ L) (by rw [e1]; exact hb) hS1 T' rfl X'
  exact ⟨t2, stp t2 a1, b1⟩
theorem l_callI (h : INV M) {index : Nat} {rest st0 : List OV} (hW : CWd own index yL_isSo cL_isSo 13 (some .boolean) 4) (hs : Cond.static yL_isSo ∈ lw_tbl) (hfr : 4 + 1 ≤ fr) (hlo : 8 + (13 + 11) + 88 ≤ lo) (hcl : cl + 1 ≤ C1) (hsl : sl + 4 ≤ S1) (hrest : rest.length ≤ 8) (hst : st0 = [.inr (9, 52, 60, 0), .inr (9, 51, 57, 0), .inr (9, 50, 6, 0), .inr (6, 0, 0, 0)] ++ rest) (hd : decode cc pc = .ok (.invokestatic index, 3)) (hp : pc + 3 = pc')
    (kk : LW G C1 S1 (cl + 1) (sl + 4) cc own nL fr lo pc' ls (.inl (nI 1) :: rest) M) : LW G C1 S1 cl sl cc own nL fr lo pc ls st0 M := by
  subst hp
  subst hst
  intro A p l e R s m args below meth c Z H locs lsA hF hR hM hS hL
  have hcode := hF.use (args := args) hW.2.1 rfl
  have hc1 : cl + 1 ≤ R.cells := Nat.le_trans hcl hR.2.2.1
  have hs1 : sl + 4 ≤ R.slots := Nat.le_trans hsl hR.2.2.2.1
  have hcw : CallB R s args own index yL_isSo cL_isSo 13 (some .boolean) [.code yL_isSo cL_isSo 13 (some .boolean)] { frames := 4, cells := 1, slots := 4, locals := 88 } 1 4 4 ∧ (Cond.static yL_isSo).before args s = true :=
    ⟨⟨rfl, rfl, Nat.le_trans hfr hF.2.2.2.2.1, Nat.le_trans hlo hF.2.2.2.2.2.1, c_ws hcode, List.mem_cons_self, hcode, hF.use hW.2.2.1 rfl, hW.2.2.2.1, c_len hW.2.2.2.2, hF.use hW.1 rfl⟩, hF.use hs rfl⟩
  have hAz : ∀ q, (AG G q ∨ H.size ≤ q) → A q := fun q hq => hq.elim (hF.2.2.2.2.2.2.2.2.2.2.2 q) (fun z => hR.1 q (Nat.le_trans hS.1 z))
  have hpc : FrameBlind (PCz G [.inr (6, 0, 0, 0), .inr (9, 50, 6, 0), .inr (9, 51, 57, 0), .inr (9, 52, 60, 0)] M H.size) ∧ ∀ U : State, U.heap = H → s.WarmedH U.vm → PCz G [.inr (6, 0, 0, 0), .inr (9, 50, 6, 0), .inr (9, 51, 57, 0), .inr (9, 52, 60, 0)] M H.size (([.inr (6, 0, 0, 0), .inr (9, 50, 6, 0), .inr (9, 51, 57, 0), .inr (9, 52, 60, 0)] : List OV).map (vlv G)).toArray U :=
    ⟨PCz.blind G _ M _, fun U hU hW => ⟨rfl, by rw [hU], by rw [hU]; exact hM, hF.2.2.2.2.2.2.2.2.1.warm hW, by rw [hU]; exact ((hF.2.2.2.2.2.2.2.2.2.1.at hS).narrow hAz).warm hW⟩⟩
  rw [List.map_append]
  refine w_callZ (va_runS (Ts := []) (As := ([.inr (6, 0, 0, 0), .inr (9, 50, 6, 0), .inr (9, 51, 57, 0), .inr (9, 52, 60, 0)] : List OV).map (vlv G)) ⟨hF.1, hF.2.1, hF.2.2.1, hF.2.2.2.1, fun w h => absurd h List.not_mem_nil⟩ (ct_isSo h G l hF.2.2.2.2.2.2.2.2.2.2.1 hR.2.1 H.size) hcw hpc rfl rfl hL.1 rfl (w_rest G hrest) hd ⟨hc1, hs1⟩) hS hAz (fun H1 locs1 hM1 hS1 => ?_)
  exact kk A p l e R s m args below meth c Z H1 locs1 lsA ⟨hF.1, hF.2.1, hF.2.2.1, hF.2.2.2.1, hF.2.2.2.2.1, hF.2.2.2.2.2.1, hc1, hs1, hF.2.2.2.2.2.2.2.2⟩ hR hM1 hS1 hL
end LRows
set_option maxHeartbeats 4000000 in
theorem law_end {G : Gl} {C1 S1 cl sl : Nat} (hC : cl ≤ C1) (hS : sl ≤ S1) {M : Mm} (h : INV M) (x6 x7 : Option OV) : LW G C1 S1 cl sl cL_law RL 8 7 185 129 [some (.inr (15, 1, 0, 0)), some (.inr (6, 0, 0, 0)), some (.inr (9, 50, 6, 0)), some (.inr (9, 51, 57, 0)), some (.inr (9, 52, 60, 0)), some (.inl (nI 1)), x6, x7] [] M := by
  obtain ⟨⟨t, ht, hg⟩, hqw⟩ := id h.2.1
  have f1 : vqS (M 0) (M 0 0) (nI 0) = (-100001) := by
    unfold vqS
    rw [show hvS (M 0) (M 0 0) = false from by unfold hvS; rw [decide_eq_true (Int32.le_refl (M 0 0))]; simp]
    rfl
  have f2 : pqS (M 0) (M 0 1) (nI 0) = (-100001) := by
    unfold pqS
    rw [show hpS (M 0) (M 0 1) = false from by unfold hpS; rw [decide_eq_true (Int32.le_refl (M 0 1))]; simp]
    rfl
  have f3 : zqS (M 0) (nI 0) (nI 3) (nI 0) = (-100001) := by
    unfold zqS
    rw [show hzS (M 0) (nI 0) (nI 3) = false from by unfold hzS; rw [show inn (nI 3) (nI 0) (nI 2) = false from by decide, Bool.and_false]]
    rfl
  have f4 : clmS (M 0) (nI 4) = (-100001) := by
    unfold clmS
    rw [show inn (nI 4) (nI 0) (nI 3) = false from by decide]
    rfl
  refine l_ild (pc' := 131) (i := 5) (Or.inr ⟨dL_law_129, rfl⟩) rfl ?_
  refine l_if_eq (pc' := 134) (tgt := 186) dL_law_131 (by decide) rfl (fun c => absurd c (by decide)) (fun _ => ?_)
  refine l_ald (pc' := 135) (i := 1) (Or.inl ⟨1, rfl, dL_law_134, rfl⟩) rfl ?_
  refine l_ald (pc' := 136) (i := 2) (Or.inl ⟨2, rfl, dL_law_135, rfl⟩) rfl ?_
  refine l_iconst (v := nI 0) (pc' := 137) dL_law_136 (by decide) rfl ?_
  refine l_iald (pc' := 138) rfl (vp_in_nI (by decide) (by decide)) dL_law_137 rfl ?_
  rw [show (nI 0).toNatClampNeg = 0 from by decide, h.1.g (show 0 < 6 by decide)]
  refine l_iconst (v := nI 0) (pc' := 139) dL_law_138 (by decide) rfl ?_
  refine l_callV (pc' := 142) (ct_X6_van hg.nv.1 hg.np.1 _ _ _ hg.nv.2 hg.np.2) cw_L_97 mi_X6_van se_X6_van rfl rfl rfl rfl (by decide) (by decide) (Nat.le_of_ble_eq_true rfl) rfl dL_law_139 rfl (fun v M' hv => ?_)
  obtain ⟨rfl, rfl⟩ := hv
  refine l_ldc (pc' := 144) dL_law_142 cn_L_69 rfl ?_
  refine l_icmp_ne (pc' := 147) (tgt := 186) dL_law_144 (by decide) rfl (fun c => absurd f1 c) (fun _ => ?_)
  refine l_ald (pc' := 148) (i := 1) (Or.inl ⟨1, rfl, dL_law_147, rfl⟩) rfl ?_
  refine l_ald (pc' := 149) (i := 2) (Or.inl ⟨2, rfl, dL_law_148, rfl⟩) rfl ?_
  refine l_iconst (v := nI 1) (pc' := 150) dL_law_149 (by decide) rfl ?_
  refine l_iald (pc' := 151) rfl (vp_in_nI (by decide) (by decide)) dL_law_150 rfl ?_
  rw [show (nI 1).toNatClampNeg = 1 from by decide, h.1.g (show 1 < 6 by decide)]
  refine l_iconst (v := nI 0) (pc' := 152) dL_law_151 (by decide) rfl ?_
  refine l_callV (pc' := 155) (ct_X6_pallet hg.np.1 _ _ _ hg.np.2) cw_L_106 mi_X6_pallet se_X6_pallet rfl rfl rfl rfl (by decide) (by decide) (Nat.le_of_ble_eq_true rfl) rfl dL_law_152 rfl (fun v M' hv => ?_)
  obtain ⟨rfl, rfl⟩ := hv
  refine l_ldc (pc' := 157) dL_law_155 cn_L_69 rfl ?_
  refine l_icmp_ne (pc' := 160) (tgt := 186) dL_law_157 (by decide) rfl (fun c => absurd f2 c) (fun _ => ?_)
  refine l_ald (pc' := 161) (i := 1) (Or.inl ⟨1, rfl, dL_law_160, rfl⟩) rfl ?_
  refine l_iconst (v := nI 0) (pc' := 162) dL_law_161 (by decide) rfl ?_
  refine l_iconst (v := nI 3) (pc' := 163) dL_law_162 (by decide) rfl ?_
  refine l_iconst (v := nI 0) (pc' := 164) dL_law_163 (by decide) rfl ?_
  refine l_callV (pc' := 167) (ct_X6_zone hg.nv.1 _ _ _ _ hg.nv.2) cw_L_100 mi_X6_zone se_X6_zone rfl rfl rfl rfl (by decide) (by decide) (Nat.le_of_ble_eq_true rfl) rfl dL_law_164 rfl (fun v M' hv => ?_)
  obtain ⟨rfl, rfl⟩ := hv
  refine l_ldc (pc' := 169) dL_law_167 cn_L_69 rfl ?_
  refine l_icmp_ne (pc' := 172) (tgt := 186) dL_law_169 (by decide) rfl (fun c => absurd f3 c) (fun _ => ?_)
  refine l_ald (pc' := 173) (i := 1) (Or.inl ⟨1, rfl, dL_law_172, rfl⟩) rfl ?_
  refine l_iconst (v := nI 4) (pc' := 174) dL_law_173 (by decide) rfl ?_
  refine l_callV (pc' := 177) (ct_X6_claims hg.np.1 _ _ hg.np.2) cw_L_109 mi_X6_claims se_X6_claims rfl rfl rfl rfl (by decide) (by decide) (Nat.le_of_ble_eq_true rfl) rfl dL_law_174 rfl (fun v M' hv => ?_)
  obtain ⟨rfl, rfl⟩ := hv
  refine l_ldc (pc' := 179) dL_law_177 cn_L_69 rfl ?_
  refine l_icmp_ne (pc' := 182) (tgt := 186) dL_law_179 (by decide) rfl (fun c => absurd f4 c) (fun _ => ?_)
  refine l_iconst (v := nI 1) (pc' := 183) dL_law_182 (by decide) rfl ?_
  refine l_goto (pc' := 187) dL_law_183 (by decide) ?_
  exact l_end rfl hC hS
set_option maxHeartbeats 4000000 in
theorem law_loop {G : Gl} {C1 S1 T : Nat} (hT : T ≤ 69) : ∀ (n k cl sl : Nat) (M : Mm), k + n = T → cl + n ≤ C1 → sl + 4 * n ≤ S1 → INV M → LW G C1 S1 cl sl cL_law RL 8 7 185 67 [some (.inr (15, 1, 0, 0)), some (.inr (6, 0, 0, 0)), some (.inr (9, 50, 6, 0)), some (.inr (9, 51, 57, 0)), some (.inr (9, 52, 60, 0)), some (.inl (nI 1)), some (.inl (nI T)), some (.inl (nI k))] [] M := by
  intro n
  induction n with
  | zero =>
    intro k cl sl M hk hC hS h
    refine l_ild (pc' := 69) (i := 7) (Or.inr ⟨dL_law_67, rfl⟩) rfl ?_
    refine l_ild (pc' := 71) (i := 6) (Or.inr ⟨dL_law_69, rfl⟩) rfl ?_
    refine l_icmp_ge (pc' := 74) (tgt := 129) dL_law_71 (by decide) rfl (fun _ => law_end (by omega) (by omega) h _ _) (fun c => absurd (nI_le (by omega) (by omega)) c)
  | succ n ih =>
    intro k cl sl M hk hC hS h
    refine l_ild (pc' := 69) (i := 7) (Or.inr ⟨dL_law_67, rfl⟩) rfl ?_
    refine l_ild (pc' := 71) (i := 6) (Or.inr ⟨dL_law_69, rfl⟩) rfl ?_
    refine l_icmp_ge (pc' := 74) (tgt := 129) dL_law_71 (by decide) rfl (fun c => absurd c (nI_ge (by omega) (by omega))) (fun _ => ?_)
    refine l_ild (pc' := 76) (i := 5) (Or.inr ⟨dL_law_74, rfl⟩) rfl ?_
    refine l_if_eq (pc' := 79) (tgt := 129) dL_law_76 (by decide) rfl (fun c => absurd c (by decide)) (fun _ => ?_)
    refine l_ald (pc' := 80) (i := 1) (Or.inl ⟨1, rfl, dL_law_79, rfl⟩) rfl ?_
    refine l_ald (pc' := 81) (i := 2) (Or.inl ⟨2, rfl, dL_law_80, rfl⟩) rfl ?_
    refine l_ald (pc' := 82) (i := 3) (Or.inl ⟨3, rfl, dL_law_81, rfl⟩) rfl ?_
    refine l_ald (pc' := 84) (i := 4) (Or.inr ⟨dL_law_82, rfl⟩) rfl ?_
    refine l_ald (pc' := 85) (i := 0) (Or.inl ⟨0, rfl, dL_law_84, rfl⟩) rfl ?_
    refine l_iconst (v := nI 1) (pc' := 86) dL_law_85 (by decide) rfl ?_
    refine l_ild (pc' := 88) (i := 7) (Or.inr ⟨dL_law_86, rfl⟩) rfl ?_
    refine l_iadd (pc' := 89) dL_law_88 rfl ?_
    rw [show nI 1 + nI k = nI (1 + k) from nI_add 1 k]
    refine l_callS (pc' := 92) (ct_L_cell (k := 1 + k) (by omega) _) cw_L_117 ms_L_cell rfl (by decide) (by decide) (Nat.le_of_ble_eq_true rfl) rfl dL_law_89 rfl (fun v M' hv => ?_)
    obtain ⟨⟨x, rfl⟩, rfl⟩ := hv
    refine l_sipush (v := nI 7919) (pc' := 95) dL_law_92 (by decide) rfl ?_
    refine l_ild (pc' := 97) (i := 7) (Or.inr ⟨dL_law_95, rfl⟩) rfl ?_
    refine l_imul (pc' := 98) dL_law_97 rfl ?_
    refine l_ixor (pc' := 99) dL_law_98 rfl ?_
    refine l_callS (pc' := 102) (ct_L_acts h _) cw_L_120 ms_L_acts rfl (by decide) (by decide) (Nat.le_of_ble_eq_true rfl) rfl dL_law_99 rfl (fun v M' hv => ?_)
    obtain ⟨rfl, h⟩ := hv
    refine l_if_eq (pc' := 105) (tgt := 120) dL_law_102 (by decide) rfl (fun c => absurd c (by decide)) (fun _ => ?_)
    refine l_ald (pc' := 106) (i := 1) (Or.inl ⟨1, rfl, dL_law_105, rfl⟩) rfl ?_
    refine l_ald (pc' := 107) (i := 2) (Or.inl ⟨2, rfl, dL_law_106, rfl⟩) rfl ?_
    refine l_ald (pc' := 108) (i := 3) (Or.inl ⟨3, rfl, dL_law_107, rfl⟩) rfl ?_
    refine l_ald (pc' := 110) (i := 4) (Or.inr ⟨dL_law_108, rfl⟩) rfl ?_
    refine l_callI (pc' := 113) h cw_L_113 ms_L_isSo (by decide) (by decide) (by omega) (by omega) (Nat.le_of_ble_eq_true rfl) rfl dL_law_110 rfl ?_
    refine l_if_eq (pc' := 116) (tgt := 120) dL_law_113 (by decide) rfl (fun c => absurd c (by decide)) (fun _ => ?_)
    refine l_iconst (v := nI 1) (pc' := 117) dL_law_116 (by decide) rfl ?_
    refine l_goto (pc' := 121) dL_law_117 (by decide) ?_
    refine l_ist (pc' := 123) (i := 5) (by decide) (Or.inr ⟨dL_law_121, rfl⟩) ?_
    refine l_inc (pc' := 126) (i := 7) (y := nI (k + 1)) (by decide) dL_law_123 rfl (nI_add k 1) rfl ?_
    refine l_goto (pc' := 67) dL_law_126 (by decide) ?_
    exact ih (k + 1) (cl + 1) (sl + 4) _ (by omega) (by omega) (by omega) h
set_option maxHeartbeats 4000000 in
theorem law_body {G : Gl} {C1 S1 cl sl : Nat} (hC : cl + 70 ≤ C1) (hS : sl + 280 ≤ S1) {M : Mm} (h : INV M) (x5 x6 x7 : Option OV) : LW G C1 S1 cl sl cL_law RL 8 7 185 39 [some (.inr (15, 1, 0, 0)), some (.inr (6, 0, 0, 0)), some (.inr (9, 50, 6, 0)), some (.inr (9, 51, 57, 0)), some (.inr (9, 52, 60, 0)), x5, x6, x7] [] M := by
  refine l_ald (pc' := 40) (i := 1) (Or.inl ⟨1, rfl, dL_law_39, rfl⟩) rfl ?_
  refine l_ald (pc' := 41) (i := 2) (Or.inl ⟨2, rfl, dL_law_40, rfl⟩) rfl ?_
  refine l_ald (pc' := 42) (i := 3) (Or.inl ⟨3, rfl, dL_law_41, rfl⟩) rfl ?_
  refine l_ald (pc' := 44) (i := 4) (Or.inr ⟨dL_law_42, rfl⟩) rfl ?_
  refine l_callI (pc' := 47) h cw_L_113 ms_L_isSo (by decide) (by decide) (by omega) (by omega) (Nat.le_of_ble_eq_true rfl) rfl dL_law_44 rfl ?_
  refine l_ist (pc' := 49) (i := 5) (by decide) (Or.inr ⟨dL_law_47, rfl⟩) ?_
  refine l_bipush (v := nI 10) (pc' := 51) dL_law_49 (by decide) rfl ?_
  refine l_ald (pc' := 52) (i := 0) (Or.inl ⟨0, rfl, dL_law_51, rfl⟩) rfl ?_
  refine l_iconst (v := nI 0) (pc' := 53) dL_law_52 (by decide) rfl ?_
  refine l_callS (pc' := 56) (ct_L_cell (k := 0) (by decide) M) cw_L_117 ms_L_cell rfl (by decide) (by decide) (Nat.le_of_ble_eq_true rfl) rfl dL_law_53 rfl (fun v M' hv => ?_)
  obtain ⟨⟨x, rfl⟩, rfl⟩ := hv
  refine l_bipush (v := nI 60) (pc' := 58) dL_law_56 (by decide) rfl ?_
  refine l_callS (pc' := 61) (ct_L_low x (by decide) (by decide) _) cw_L_43 ms_L_low rfl (by decide) (by decide) (Nat.le_of_ble_eq_true rfl) rfl dL_law_58 rfl (fun v M' hv => ?_)
  obtain ⟨rfl, rfl⟩ := hv
  refine l_iadd (pc' := 62) dL_law_61 rfl ?_
  have hl := lowN_lt x (show 0 < 60 by decide)
  rw [nI_add]
  refine l_ist (pc' := 64) (i := 6) (by decide) (Or.inr ⟨dL_law_62, rfl⟩) ?_
  refine l_iconst (v := nI 0) (pc' := 65) dL_law_64 (by decide) rfl ?_
  refine l_ist (pc' := 67) (i := 7) (by decide) (Or.inr ⟨dL_law_65, rfl⟩) ?_
  exact law_loop (T := 10 + lowN x 60) (by omega) (10 + lowN x 60) 0 _ _ _ (by omega) (by omega) (by omega) h
