/-! THE CLAIM OUT OF ONE WALK OF THE LAW'S BODY. Your part is whole_start (and what it stands on); all else here is the same for every law, but numbers. -/
def R_law : String := "ColdChainLaw"
def lw_P (b : Addr) (xs : List Int32) (args : Array Value) (s : State) : Prop := args = #[.ref b] ∧ s.IntsAt b xs ∧ xs.length ≤ 260 ∧ (Jvm.Cond.and given_1 narrow_1).before args s = true
def lw_Q (_ : Array Value) (s : State) (o : Outcome) (t : State) : Prop := o = .returned (some (.int 1)) ∧ Framed s o t [] 600000 7302250
def lw_Z (below : List Frame) (a : Array Value) (s : State) : State → Prop := fun t => ∃ o, t.status = .running ∧ Ended t below o ∧ lw_Q a s o t
/-- the law's own end, with 1 on the stack, nothing written that was there before, its room as the claim has it -/
theorem lw_ret {p : Program} {l : Launch} {e : Env} {s : State} {m : MethodId} {below : List Frame} {meth : Method} {c : Code} {b : Nat} (hx : p.tables.exec = Jvm.exec) (hb : c.code = code) (hr : meth.sig.returnType = ret) (hlocks : meth.locks = false) {pc : Nat} {H : Heap} {ls : Array Slot} (hdg : decode code pc = .ok (.ireturn, 1)) : W p l e room_1 s m #[Value.ref b] below meth c H [] 600000 7302250 (lw_Z below #[Value.ref b] s) (F0 m pc ls [.int 1]) := by
  intro T hT X
  obtain ⟨fs, hret, hrun, hended, hW, hframe⟩ := X.leave (v := some (.int 1)) (hlocks := hlocks) (fun h => by rw [hr] at h; cases h)
  have hmeth' : T.vm.method? m = some meth := X.method'
  refine ⟨T.setFrames fs, ?_, .returned (some (.int 1)), hrun, hended, rfl, ⟨_, rfl⟩, hW, hframe⟩
  jvm_step X.here [X.here.top, hx, hb, hdg, hmeth', hr, ret, narrow_b1]
  (try refine ⟨rfl, ?_⟩); (try refine ⟨rfl, ?_⟩)
  first | (intro acts; rw [hret _ acts rfl rfl rfl]) | rw [hret _ _ rfl rfl rfl]
  exact Steps.refl _
/-- what holds at the law's entry: the machine, the code, the tables' words (any of lw_tbl by 'hts w (by decide +kernel)'), the script of L ints xs at the cell b, what the Statement gives of the start (any of its parts by flat_of_before) -/
def lw_At (p : Program) (s : State) (m : MethodId) (meth : Method) (c : Code) (b L : Nat) (xs : Nat → Int32) : Prop :=
  p.tables.exec = Jvm.exec ∧ c.code = code ∧ meth.sig.returnType = ret ∧ c.maxLocals = 8 ∧ s.vm.findClass R_law = some m.cls ∧ (∀ w ∈ lw_tbl, w.before #[Value.ref b] s = true) ∧ va_X b L xs s s.heap ∧ b < s.heap.size ∧ meth.locks = false ∧ (Jvm.Cond.and given_1 narrow_1).before #[Value.ref b] s = true
set_option maxRecDepth 100000 in
theorem ws_WARMING : Cond.laysStatic "ColdChain" "WARMING" "[I" ∈ lw_tbl := lwm 525 (by decide +kernel)
/-! START: from the law's entry to its loop. -/
theorem h_astoreW {D : va_G} {cid : Nat → ClassId} {a0 h0 : Nat} {cc : ByteArray} {own : String} {nL fr lo mc ms : Nat} {X : Ex} {pc pc' : Nat} {ls : List (Option OV)} {st : List OV} {w : Pw} {sz j i : Nat} {k : Nat} {x : Obj} (hk : k < nL) (hd : decode cc pc = .ok (.astore k, 2)) (hp : pc + 2 = pc') (kk : HW D cid a0 h0 cc own nL fr lo mc ms X pc' (ls.set k (some (.inr x))) st w sz j i) : HW D cid a0 h0 cc own nL fr lo mc ms X pc ls (.inr x :: st) w sz j i := by
  intro A p l e R s m args below meth c Z H locs lsA hF hR hz hP hS hL
  obtain ⟨lsB, e1, hL2⟩ := hL.set hk (.inr x)
  exact w_astore hF.1 hF.2.1 (Or.inr ⟨hd, hp⟩) e1 (kk A p l e R s m args below meth c Z H locs lsB hF hR hz hP hS hL2)
theorem st0_hi {i : Nat} (h : 6 ≤ i) : st0 i = 0 := by
  unfold st0
  rw [if_neg (by omega), if_neg (by omega), if_neg (by omega)]
  rfl
theorem start_inv : INV M00 := by
  have e0 : M00 0 = st0 := M00_s (Or.inl (by decide))
  refine ⟨?_, ?_, ?_, 0, by decide, M00_0 (by decide)⟩
  · rw [e0]
    refine ⟨?_, ?_, ?_⟩
    · rw [M00_s (Or.inr rfl)]
      funext i
      unfold gF
      split
      · rfl
      · exact st0_hi (by omega)
    · funext i
      rw [M00_0 (by decide)]
      unfold sh
      split
      · exact (st0_hi (by omega)).symm
      · rfl
    · funext i
      rw [M00_0 (by decide)]
      unfold pk pkj
      rw [st0_hi (by omega), st0_hi (by omega), st0_hi (by omega)]
      split
      · split
        · decide
        · split <;> rfl
      · rfl
  · rw [e0]; exact st0_gx
  · rw [e0]; decide
theorem nw_of {w : Cond} {args : Array Value} {s : State} (h : wOK w = true) (hz : w.before args s = true) : va_Nw w s := by
  cases w with
  | fieldLinkNest a i b n d hh => exact va_Nw.of rfl hz
  | methodLinkNest a i x hh => exact va_Nw.of rfl hz
  | arrayOver t => exact hz
  | arrayClass t => exact hz
  | _ =>
    simp only [wOK, goodWord, Bool.and_eq_true] at h
    exact va_Nw.of h.1 hz
theorem arO {args : Array Value} {s : State} {C : String} (h : (Cond.arrayOver (.object C)).before args s = true) : ∃ c : ClassId, ArrOfT s c (.object C) ∧ va_RA s c (.object C) := by
  obtain ⟨comp, c, k, h1, h2, h3, h4, h5⟩ := Cond.arrayOver_spec h
  exact ⟨c, fun n z => ⟨(fun k h => by cases h), k, h3, comp, h4⟩, k, comp, h3, h4, h1, h5⟩
set_option maxHeartbeats 1000000 in
theorem kk_start {args : Array Value} {s : State} (hts : ∀ w ∈ lw_tbl, w.before args s = true) : ∃ (D : va_G) (cid : Nat → ClassId), KK (g9 D cid) s := by
  obtain ⟨c0, i0, k0⟩ := u_known (C := RX0) (T := TX0) (N := 2) (n := 2) hts inX0 (hts _ it_X0)
  obtain ⟨c1, i1, k1⟩ := u_known (C := RX1) (T := TX1) (N := 10) (n := 10) hts inX1 (hts _ it_X1)
  obtain ⟨c2, i2, k2⟩ := u_known (C := RX2) (T := TX2) (N := 7) (n := 7) hts inX2 (hts _ it_X2)
  obtain ⟨c3, i3, k3⟩ := u_known (C := RX3) (T := TX3) (N := 8) (n := 8) hts inX3 (hts _ it_X3)
  obtain ⟨c4, i4, k4⟩ := u_known (C := RX4) (T := TX4) (N := 5) (n := 5) hts inX4 (hts _ it_X4)
  obtain ⟨c5, i5, k5⟩ := u_known (C := RX5) (T := TX5) (N := 5) (n := 5) hts inX5 (hts _ it_X5)
  obtain ⟨c6, i6, k6⟩ := u_known (C := RX6) (T := TX6) (N := 7) (n := 7) hts inX6 (hts _ it_X6)
  obtain ⟨q8, kq8, cp8, f8, g8, t8⟩ := Cond.arrayClass_spec (hts _ ac_char)
  obtain ⟨q9, kq9, cp9, f9, g9', t9⟩ := Cond.arrayClass_spec (hts _ ac_int)
  obtain ⟨q10, a10⟩ := arO (hts _ ao_X1)
  obtain ⟨q11, a11⟩ := arO (hts _ ao_X3)
  obtain ⟨q12, a12⟩ := arO (hts _ ao_X4)
  obtain ⟨q13, a13⟩ := arO (hts _ ao_X5)
  obtain ⟨cp14, q14, k14, -, -, g14, t14, f14⟩ := arrayOverA_spec (hts _ ao_int)
  refine ⟨(fun k => if k = 0 then c0 else if k = 1 then c1 else if k = 2 then c2 else if k = 3 then c3 else if k = 4 then c4 else if k = 5 then c5 else c6, fun k => if k = 0 then i0 else if k = 1 then i1 else if k = 2 then i2 else if k = 3 then i3 else if k = 4 then i4 else if k = 5 then i5 else i6), fun k => if k = 8 then q8 else if k = 9 then q9 else if k = 10 then q10 else if k = 11 then q11 else if k = 12 then q12 else if k = 13 then q13 else q14, ⟨?_, ?_⟩, fun w hw ho => nw_of ho (hts w hw)⟩
  · intro k q hq
    match k, hq with
    | 0, hq => cases hq; exact k0
    | 1, hq => cases hq; exact k1
    | 2, hq => cases hq; exact k2
    | 3, hq => cases hq; exact k3
    | 4, hq => cases hq; exact k4
    | 5, hq => cases hq; exact k5
    | 6, hq => cases hq; exact k6
    | k + 7, hq => simp [vwCl] at hq
  · intro k q hq
    match k, hq with
    | 0, hq => cases hq; exact ⟨fun n z => ⟨(fun k h => by cases h), kq8, g8, cp8, t8⟩, f8⟩
    | 1, hq => cases hq; exact ⟨fun n z => ⟨(fun k h => by cases h), kq9, g9', cp9, t9⟩, f9⟩
    | 2, hq => cases hq; exact a10
    | 3, hq => cases hq; exact a11
    | 4, hq => cases hq; exact a12
    | 5, hq => cases hq; exact a13
    | 6, hq => cases hq; exact ⟨fun n z => ⟨(fun k h => by cases h), k14, g14, cp14, t14⟩, f14⟩
    | k + 7, hq => simp [tysG] at hq
theorem eq_ev {args : Array Value} {s : State} {t : Term} {z : Int32} (h : (Cond.eq t (.int z)).before args s = true) : t.eval args s none [] s = some (.int z) := by
  cases hv : t.eval args s none [] s with
  | none => simp [Cond.before, Cond.holds, Cond.value, hv] at h
  | some w =>
    have hz : (Term.int z).eval args s none [] s = some (.int z) := rfl
    simp only [Cond.before, Cond.holds, Cond.value, hv, hz] at h
    cases w <;> simp_all
theorem ss_start {args : Array Value} {s : State} (hts : ∀ w ∈ lw_tbl, w.before args s = true) (hgv : (Jvm.Cond.and given_1 narrow_1).before args s = true) : ∃ wa : Nat, va_Z "ColdChain" "WARMING" "[I" (.ref wa) (fun q => s.heap.size ≤ q) s s.heap ∧ va_T .int wa 3 (fun j => .int (warmF j)) (fun q => s.heap.size ≤ q) s s.heap := by
  have hs := flat_of_before _ hgv
  have hA : ∀ a : Nat, a < s.heap.size → ¬ (fun q => s.heap.size ≤ q) a := fun a h => Nat.not_le.mpr h
  have harr : (Cond.arrayOf (.static "ColdChain" "WARMING" "[I") .int).before args s = true := hs _ (by decide +kernel)
  have hlen : (Cond.eq (.length (.static "ColdChain" "WARMING" "[I")) (.int 3)).before args s = true := hs _ (by decide +kernel)
  have h0 : (Cond.eq (.elem (.static "ColdChain" "WARMING" "[I") (.int 0)) (.int 3)).before args s = true := hs _ (by decide +kernel)
  have h1 : (Cond.eq (.elem (.static "ColdChain" "WARMING" "[I") (.int 1)) (.int 6)).before args s = true := hs _ (by decide +kernel)
  have h2 : (Cond.eq (.elem (.static "ColdChain" "WARMING" "[I") (.int 2)) (.int 12)).before args s = true := hs _ (by decide +kernel)
  obtain ⟨wa, hev, hT⟩ := va_Tof (N := 3) (f := fun j => .int (warmF j)) (A := fun q => s.heap.size ≤ q) (by decide) harr (eq_ev hlen) (fun j hj => by
    rcases (by omega : j = 0 ∨ j = 1 ∨ j = 2) with rfl | rfl | rfl
    · exact eq_ev h0
    · exact eq_ev h1
    · exact eq_ev h2) hA
  exact ⟨wa, va_Zof (hts _ ws_WARMING) (hts _ ini_X6) hev hA, hT⟩
set_option maxHeartbeats 1000000 in
theorem law_pre (D : va_G) (cid : Nat → ClassId) (b s0 : Nat) : HW D cid s0 s0 cL_law RL 8 7 185 301 13210 (39, [some (.inr (b, 0, 0, 0)), some (.inr (s0, 0, 0, 0)), some (.inr (s0 + 298, 0, 0, 0)), some (.inr (s0 + 298 + 1, 0, 0, 0)), some (.inr (s0 + 298 + 1 + 1, 0, 0, 0)), none, none, none], [], endP cid s0, s0 + 301) 0 [some (.inr (b, 0, 0, 0)), none, none, none, none, none, none, none] [] (fun _ _ => False) s0 0 0 := by
  refine h_new (ci := 6) (C := RX6) (T := TX6) (N := 7) (fs := [.null, .null, .null, .int 0, .int 0, .null, .null]) rfl inX6 tyX6 tyX6_ok (by decide) cl_L_35 it_X6 ini_X6 (by omega) (by omega) dL_law_0 rfl ?_
  refine h_dup dL_law_3 rfl ?_
  refine h_call (ci_X6 D cid s0 (s0 + 1) (by omega)) cw_L_112 rfl mi_X6_init (Or.inl rfl) (Or.inl ⟨rfl, rfl⟩) (by omega) (by decide) (by decide) (by omega) (by omega) (by simp) dL_law_4 rfl ?_
  refine h_to (sz' := s0 + 298) (j' := 298) (i' := 13087) (fun q E h => h) (by omega) (by omega) (by omega) ?_
  refine h_astore (k := 1) (by decide) dL_law_7 rfl ?_
  refine h_bipush (v := nI 6) dL_law_8 (by decide) rfl ?_
  refine h_newI (by decide) (by decide) (by decide) (by decide) dL_law_10 rfl ?_
  refine h_astore (k := 2) (by decide) dL_law_12 rfl ?_
  refine h_bipush (v := nI 57) dL_law_13 (by decide) rfl ?_
  refine h_newI (by decide) (by decide) (by decide) (by decide) dL_law_15 rfl ?_
  refine h_astore (k := 3) (by decide) dL_law_17 rfl ?_
  refine h_bipush (v := nI 60) dL_law_18 (by decide) rfl ?_
  refine h_newI (by decide) (by decide) (by decide) (by decide) dL_law_20 rfl ?_
  refine h_astoreW (k := 4) (by decide) dL_law_22 rfl ?_
  refine h_aload (k := 2) dL_law_24 rfl rfl ?_
  refine h_iconst (v := nI 3) dL_law_25 rfl rfl ?_
  refine h_sipush (v := nI 200) dL_law_26 (by decide) rfl ?_
  refine h_iast (x := s0 + 298) (n := 6) (by omega) (Or.inr ⟨by omega, Or.inr ⟨by omega, Or.inl ⟨rfl, rfl⟩⟩⟩) (vp_in_nI (by decide) (by decide)) dL_law_29 rfl ?_
  refine h_aload (k := 2) dL_law_30 rfl rfl ?_
  refine h_iconst (v := nI 4) dL_law_31 rfl rfl ?_
  refine h_bipush (v := nI 30) dL_law_32 (by decide) rfl ?_
  refine h_iast (x := s0 + 298) (n := 6) (by omega) (Or.inl ⟨rfl, rfl⟩) (vp_in_nI (by decide) (by decide)) dL_law_34 rfl ?_
  refine h_aload (k := 2) dL_law_35 rfl rfl ?_
  refine h_iconst (v := nI 5) dL_law_36 rfl rfl ?_
  refine h_iconst (v := nI 3) dL_law_37 rfl rfl ?_
  refine h_iast (x := s0 + 298) (n := 6) (by omega) (Or.inl ⟨rfl, rfl⟩) (vp_in_nI (by decide) (by decide)) dL_law_38 rfl ?_
  refine h_exit rfl rfl ⟨rfl, fun _ _ h => h⟩ rfl (fun q E h => ?_) rfl (by decide) (by decide)
  rcases h with h | ⟨hq, rfl⟩ | ⟨hq, rfl⟩ | ⟨hq, rfl⟩
  · have hr := ccP_rng h
    exact Or.inr ⟨by omega, Or.inr ⟨by omega, Or.inr ⟨by omega, Or.inr ⟨by omega, Or.inr ⟨by omega, Or.inr ⟨by omega, Or.inl h⟩⟩⟩⟩⟩⟩
  · exact Or.inl ⟨hq, by rw [← st0_upd]⟩
  · exact Or.inr ⟨by omega, Or.inr ⟨by omega, Or.inr ⟨by omega, Or.inr ⟨by omega, Or.inl ⟨hq, rfl⟩⟩⟩⟩⟩
  · exact Or.inr ⟨by omega, Or.inr ⟨by omega, Or.inr ⟨by omega, Or.inl ⟨hq, rfl⟩⟩⟩⟩
set_option maxHeartbeats 1000000 in
/-- THE LAW, from its entry -/
theorem whole_start {p : Program} {e : Env} {s : State} {m : MethodId} {below : List Frame} {meth : Method} {c : Code} (l : Launch) (hflags : l.flags = flags0) {b L : Nat} {xs : Nat → Int32} (hL : L ≤ 260) (C0 : lw_At p s m meth c b L xs) : W p l e room_1 s m #[Value.ref b] below meth c s.heap [] 0 0 (lw_Z below #[Value.ref b] s) (entryFrame m ([Value.ref b] : List Value).toArray 8) := by
  obtain ⟨hx, hb, hr, hml, hown, hts, hX, hbl, hlocks, hgv⟩ := id C0
  obtain ⟨D, cid, hK⟩ := kk_start hts
  obtain ⟨wa, hZ, hT⟩ := ss_start hts hgv
  have hL0 := Lh.entry (g9 D cid) (av := [.inr (b, 0, 0, 0)]) (nL := 8) (Nat.le_of_ble_eq_true rfl)
  rw [lg_entry_eq]
  refine law_pre D cid b s.heap.size (fun q => s.heap.size ≤ q) p l e room_1 s m #[Value.ref b] below meth c (lw_Z below #[Value.ref b] s) s.heap [] _ ⟨hx, hb, hml, hown, Nat.le_of_ble_eq_true rfl, Nat.le_of_ble_eq_true rfl, Nat.le_of_ble_eq_true rfl, Nat.le_of_ble_eq_true rfl, hK, fun q => absurd rfl q, rfl, Nat.le_refl s.heap.size, fun _ h => h⟩ ?_ rfl (fun q E h => h.elim) va_S.rf hL0
  intro H' locs' lsA' hz hP hS hL'
  have hSS : SS (gS D cid L xs s.heap.size wa b) (fun q => s.heap.size ≤ q) s s.heap := ⟨hZ, hT, hL, by rw [gS_X]; exact hX, hbl, Nat.not_le.mpr hbl⟩
  refine law_body (G := gS D cid L xs s.heap.size wa b) (C1 := 371) (S1 := 13490) (cl := 301) (sl := 13210) (by decide) (by decide) (M := M00) start_inv none none none (fun q => s.heap.size ≤ q) p l e room_1 s m #[Value.ref b] below meth c (lw_Z below #[Value.ref b] s) H' locs' lsA' ⟨hx, hb, hml, hown, Nat.le_of_ble_eq_true rfl, Nat.le_of_ble_eq_true rfl, Nat.le_of_ble_eq_true rfl, Nat.le_of_ble_eq_true rfl, hK, hSS, gS_GI D cid L xs s.heap.size wa b, fun q h => gS_AG D cid L xs s.heap.size wa b q h⟩ ⟨fun q h => h, gS_FL D cid L xs s.heap.size wa b, Nat.le_of_ble_eq_true rfl, Nat.le_of_ble_eq_true rfl, fun H locs lsA hS2 => ?_⟩ ⟨fun o ho => hP _ _ (end_mem D cid L xs s.heap.size wa b o ho), fun h => absurd h (gS_FL D cid L xs s.heap.size wa b)⟩ hS ⟨hL'.1, rfl, hL'.2.2.1, fun k v hv => ?_⟩
  · refine va_forget (fun q hq => hS2.2.2 q hq) ?_
    refine W.widen (k := 600000) (n := 7302250) (Nat.le_of_ble_eq_true rfl) (Nat.le_of_ble_eq_true rfl) ?_
    exact lw_ret hx hb hr hlocks dL_law_187
  · match k, hv with
    | 0, hv => cases hv; exact hL'.2.2.2 0 (.inr (b, 0, 0, 0)) rfl
    | 1, hv => cases hv; exact hL'.2.2.2 1 (.inr (s.heap.size, 0, 0, 0)) rfl
    | 2, hv => cases hv; exact hL'.2.2.2 2 (.inr (s.heap.size + 298, 0, 0, 0)) rfl
    | 3, hv => cases hv; exact hL'.2.2.2 3 (.inr (s.heap.size + 298 + 1, 0, 0, 0)) rfl
    | 4, hv => cases hv; exact hL'.2.2.2 4 (.inr (s.heap.size + 298 + 1 + 1, 0, 0, 0)) rfl
    | 5, hv => cases hv
    | 6, hv => cases hv
    | 7, hv => cases hv
    | k + 8, hv => simp at hv
