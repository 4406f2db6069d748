section HRows2
variable {D : va_G} {cid : Nat → ClassId} {a0 h0 : Nat} {cc : ByteArray} {own : String} {nL fr lo mc ms : Nat} {X : Ex} {pc pc' : Nat} {ls : List (Option OV)} {st : List OV} {w : Pw} {sz j i : Nat}
theorem h_get {x y ci : Nat} {fs : List Value} {C : String} {T : u_T} {N index : Nat} (he : w x (.inr (ci, fs))) (hc : vwCl[ci]? = some (C, T, N)) (hin : ∀ w ∈ u_ws C T N, w ∈ lw_tbl) (k : Nat) (hk : k < N) (hw : Cond.fieldLink own index (T k).1 (T k).2.1 (T k).2.2.1 ∈ lw_tbl) (hv : fs[k]? = some (.ref y)) (hd : decode cc pc = .ok (.getfield index, 3)) (hp : pc + 3 = pc') (kk : HW D cid a0 h0 cc own nL fr lo mc ms X pc' ls (.inr (y, 0, 0, 0) :: st) w sz j i) : HW D cid a0 h0 cc own nL fr lo mc ms X pc ls (.inr (x, 0, 0, 0) :: st) w sz j i := by
  subst hp
  intro A p l e R s m args below meth c Z H locs lsA hF hR hz hP hS hL
  exact va_get (v := .ref y) (ws := [(x, .inr (ci, fs))]) hF.1 hF.2.1 (Ts := u_ws C T N) (fun w h => hF.use (hin w h) (u_ws_ok w h)) (fun w h => h) hF.2.2.2.1 hF.2.2.2.2.2.2.2.2.1.1 (hP.one he) 0 rfl hc k hk (hF.use hw rfl) (fun _ h => h) hv hd (kk A p l e R s m args below meth c Z H locs lsA hF hR hz hP hS hL)
theorem h_put {x ci : Nat} {fs : List Value} {C : String} {T : u_T} {N index : Nat} {y : OV} {ty : FieldType} (hx : x = a0 ∨ h0 ≤ x) (he : w x (.inr (ci, fs))) (hc : vwCl[ci]? = some (C, T, N)) (hin : ∀ w ∈ u_ws C T N, w ∈ lw_tbl) (ty0 : Nat → FieldType) (hty : ∀ k, k < N → parseFieldDescriptor (T k).2.2.1 = some (ty0 k)) (hnm : ∀ a, a < N → ∀ b, b < N → a ≠ b → (T a).2.1 ≠ (T b).2.1) (k : Nat) (hk : k < N) (hw : Cond.fieldLink own index (T k).1 (T k).2.1 (T k).2.2.1 ∈ lw_tbl) (hfin : (T k).2.2.2 = false) (hdt : parseFieldDescriptor (T k).2.2.1 = some ty) (hn : narrow ty (vlv (g9 D cid) y) = vlv (g9 D cid) y) (hfit : fits ty (vlv (g9 D cid) y) = true) (hl : k < fs.length)
    (hd : decode cc pc = .ok (.putfield index, 3)) (hp : pc + 3 = pc') (kk : HW D cid a0 h0 cc own nL fr lo mc ms X pc' ls st (pup w x (.inr (ci, fs.set k (vlv (g9 D cid) y)))) sz j i) : HW D cid a0 h0 cc own nL fr lo mc ms X pc ls (y :: .inr (x, 0, 0, 0) :: st) w sz j i := by
  subst hp
  intro A p l e R s m args below meth c Z H locs lsA hF hR hz hP hS hL
  have hts : ∀ w ∈ u_ws C T N, w.before args s = true := fun w h => hF.use (hin w h) (u_ws_ok w h)
  have hK := hF.2.2.2.2.2.2.2.2.1.1
  have hap := va_apart (own := own) hts (fun w h => h) ty0 hty hnm hK hc
  obtain ⟨q', h1, cell, q1, q2, q3, q4⟩ := hP x _ he
  have hr : q' = (C, T, N) := Option.some.inj (h1.symm.trans hc)
  subst hr
  obtain ⟨hSl, hfc, kC, hkC, hkind⟩ := hK.1 ci _ hc
  obtain ⟨cf, kf, fi, f, hi, hsl⟩ := hSl k hk
  have hlay := hts _ (u_in_lay hk)
  unfold u_lay at hlay
  rw [if_neg (by rw [hfin]; decide)] at hlay
  have hst := (u_facts hfc hkC (u_lays hts (fun w h => h) hk) hi).1
  have h6 := u_store hfc hkC hkind hlay hi hdt hn hfit
  refine W.putK hF.1 hF.2.1 (f := f) ⟨hF.2.2.2.1, hF.use hw rfl, ⟨_, _, _, hi⟩, hst⟩ (by rw [q2]; exact h6) q1 q3 (by rw [hsl]; exact k2_hasslot (q4 k hk)) rfl rfl hd fun H' e1 e2 e3 => ?_
  rw [hsl] at e1 ⊢
  exact kk A p l e R s m args below meth c Z H' _ lsA hF hR (e2.trans hz) (hP.up e3 ⟨_, hc, t_OB.to (V := updV (vp_V fs) k (vlv (g9 D cid) y)) ⟨_, e1, q2, q3, t_set q4 hap hk _⟩ (fun j _ => vp_updV_set hl _ j)⟩) (hS.put e2 e3 (hF.w hx)) hL
theorem h_putF {x ci : Nat} {fs : List Value} {C : String} {T : u_T} {N index : Nat} {y : OV} {ty : FieldType} (hx : x = a0 ∨ h0 ≤ x) (he : w x (.inr (ci, fs))) (hc : vwCl[ci]? = some (C, T, N)) (hin : ∀ w ∈ u_ws C T N, w ∈ lw_tbl) (ty0 : Nat → FieldType) (hty : ∀ k, k < N → parseFieldDescriptor (T k).2.2.1 = some (ty0 k)) (hnm : ∀ a, a < N → ∀ b, b < N → a ≠ b → (T a).2.1 ≠ (T b).2.1) (k : Nat) (hk : k < N) (hw : Cond.fieldLink own index (T k).1 (T k).2.1 (T k).2.2.1 ∈ lw_tbl) (hfin : (T k).2.2.2 = true) (how : own ≠ RL) (hdecl : (T k).1 = own) (hdt : parseFieldDescriptor (T k).2.2.1 = some ty) (hn : narrow ty (vlv (g9 D cid) y) = vlv (g9 D cid) y) (hfit : fits ty (vlv (g9 D cid) y) = true) (hl : k < fs.length)
    (hd : decode cc pc = .ok (.putfield index, 3)) (hp : pc + 3 = pc') (kk : HW D cid a0 h0 cc own nL fr lo mc ms X pc' ls st (pup w x (.inr (ci, fs.set k (vlv (g9 D cid) y)))) sz j i) : HW D cid a0 h0 cc own nL fr lo mc ms X pc ls (y :: .inr (x, 0, 0, 0) :: st) w sz j i := by
  subst hp
  intro A p l e R s m args below meth c Z H locs lsA hF hR hz hP hS hL
  have hts : ∀ w ∈ u_ws C T N, w.before args s = true := fun w h => hF.use (hin w h) (u_ws_ok w h)
  have hK := hF.2.2.2.2.2.2.2.2.1.1
  have hap := va_apart (own := own) hts (fun w h => h) ty0 hty hnm hK hc
  obtain ⟨q', h1, cell, q1, q2, q3, q4⟩ := hP x _ he
  have hr : q' = (C, T, N) := Option.some.inj (h1.symm.trans hc)
  subst hr
  obtain ⟨hSl, hfc, kC, hkC, hkind⟩ := hK.1 ci _ hc
  obtain ⟨cf, kf, fi, f, hi, hsl⟩ := hSl k hk
  have hlay := hts _ (u_in_lay hk)
  unfold u_lay at hlay
  rw [if_pos hfin] at hlay
  have hst := (u_facts hfc hkC (u_lays hts (fun w h => h) hk) hi).1
  have hcf : m.cls = cf := by
    obtain ⟨_, _, c', _, _, _, -, -, hf', -, -, -, hown2, -⟩ := Cond.laysFinal_spec hlay
    have e1 : c' = cf := by have := hi.symm.trans hf'; simp at this; exact this.1.symm
    rw [hdecl] at hown2
    rw [← e1]; exact Option.some.inj (hF.2.2.2.1.symm.trans hown2)
  have h6 := u_fits hfc hkC hkind (Or.inr hlay) hi hdt hn hfit
  refine W.putFinK hF.1 hF.2.1 hF.2.2.2.1 (hF.use hw rfl) hi hst hcf (hF.2.2.2.2.2.2.2.2.2.1 how) (by rw [q2]; exact h6) q1 q3 (by rw [hsl]; exact k2_hasslot (q4 k hk)) rfl rfl hd fun H' e1 e2 e3 => ?_
  rw [hsl] at e1 ⊢
  exact kk A p l e R s m args below meth c Z H' _ lsA hF hR (e2.trans hz) (hP.up e3 ⟨_, hc, t_OB.to (V := updV (vp_V fs) k (vlv (g9 D cid) y)) ⟨_, e1, q2, q3, t_set q4 hap hk _⟩ (fun j _ => vp_updV_set hl _ j)⟩) (hS.put e2 e3 (hF.w hx)) hL
theorem h_alen {x n kd t0 : Nat} {f : Nat → Option Nat} {ty : FieldType} {v : Int32} (he : w x (.inl (cid kd, n, .inr (.inr (.inr (.inr f)))))) (ht : (tysG (g9 D cid))[t0]? = some (cid kd, ty)) (hv : Int32.ofNat n = v) (hd : decode cc pc = .ok (.arraylength, 1)) (hp : pc + 1 = pc') (kk : HW D cid a0 h0 cc own nL fr lo mc ms X pc' ls (.inl v :: st) w sz j i) : HW D cid a0 h0 cc own nL fr lo mc ms X pc ls (.inr (x, 0, 0, 0) :: st) w sz j i := by
  subst hp
  intro A p l e R s m args below meth c Z H locs lsA hF hR hz hP hS hL
  exact va_alen (ws := [(x, .inl (cid kd, n, .inr (.inr (.inr (.inr f)))))]) hF.1 hF.2.1 hF.2.2.2.2.2.2.2.2.1.1 (hP.one he) 0 t0 rfl ht hv hd (kk A p l e R s m args below meth c Z H locs lsA hF hR hz hP hS hL)
theorem h_aast {x y kd n t0 ci : Nat} {f : Nat → Option Nat} {C : String} {T : u_T} {N : Nat} {fs : List Value} {q : Int32} (hx : x = a0 ∨ h0 ≤ x) (he : w x (.inl (cid kd, n, .inr (.inr (.inr (.inr f)))))) (ht : (tysG (g9 D cid))[t0]? = some (cid kd, .object C)) (hy : w y (.inr (ci, fs))) (hc : vwCl[ci]? = some (C, T, N)) (hi' : vp_in q n) (hd : decode cc pc = .ok (.aastore, 1)) (hp : pc + 1 = pc') (kk : HW D cid a0 h0 cc own nL fr lo mc ms X pc' ls st (pup w x (.inl (cid kd, n, .inr (.inr (.inr (.inr (va_up f q.toNatClampNeg (some y)))))))) sz j i) : HW D cid a0 h0 cc own nL fr lo mc ms X pc ls (.inr (y, 0, 0, 0) :: .inl q :: .inr (x, 0, 0, 0) :: st) w sz j i := by
  subst hp
  intro A p l e R s m args below meth c Z H locs lsA hF hR hz hP hS hL
  have hK := hF.2.2.2.2.2.2.2.2.1.1
  have hlt : q.toNatClampNeg < n := Nat.not_le.mp fun z => hi' (Or.inr z)
  have h0 : ¬ q < 0 := fun z => hi' (Or.inl z)
  obtain ⟨r', hr', cellV, g1, g2, g3, -⟩ := hP y _ hy
  have hcls := (hK.1 ci _ hc).2
  obtain ⟨kA, comp, k1, k2, k3, -⟩ := (hK.2 t0 _ ht).2
  have hcomp : comp = D.1 ci := Option.some.inj (k3.symm.trans hcls.1)
  subst hcomp
  obtain ⟨kC, hkC, -⟩ := hcls.2
  refine W.aast hF.1 hF.2.1 (hP x _ he) (fun q h => by cases h) (fun h => by cases h) k1 k2 rfl hkC ⟨h0, by show _ < (arrV _ _ _).slots.size; rw [arrV_size]; exact hlt⟩ g1 (fun q h => by rw [g3] at h; cases h) (by rw [g2]; exact hkC) (by rw [g2]; exact va_assign hcls) rfl rfl hd fun H1 e z oq => ?_
  refine kk A p l _ R s m args below meth c Z H1 _ lsA hF hR (z.trans hz) (hP.up oq ?_) (hS.put z oq (hF.w hx)) hL
  show H1[x]? = some (vp_cell _ _)
  rw [e]
  rw [vp_cell_q, vp_cell_q, arrV_store]
  congr 2
  funext q'
  by_cases hq : q' = q.toNatClampNeg
  · subst hq
    simp [updV, va_up, va_rf]
  · simp [updV, va_up, hq]
theorem h_iast {x n : Nat} {f : Nat → Int32} {q y : Int32} (hx : x = a0 ∨ h0 ≤ x) (he : w x (.inl (cid 9, n, .inl f))) (hi' : vp_in q n) (hd : decode cc pc = .ok (.iastore, 1)) (hp : pc + 1 = pc') (kk : HW D cid a0 h0 cc own nL fr lo mc ms X pc' ls st (pup w x (.inl (cid 9, n, .inl (upd f q.toNatClampNeg y)))) sz j i) : HW D cid a0 h0 cc own nL fr lo mc ms X pc ls (.inl y :: .inl q :: .inr (x, 0, 0, 0) :: st) w sz j i := by
  subst hp
  intro A p l e R s m args below meth c Z H locs lsA hF hR hz hP hS hL
  refine W.iast hF.1 hF.2.1 (cell := vp_cell (cid 9) (n, .inl f)) (hP x _ he) ((hF.2.2.2.2.2.2.2.2.1.1.2 1 _ rfl).1 n (fun j => .int (f j))) (fun q => by cases q) (by show ¬ (q < 0 ∨ (arrV _ _ _).slots.size ≤ _); rw [arrV_size]; exact hi') rfl rfl hd fun H' e1 e2 e3 => ?_
  refine kk A p l e R s m args below meth c Z H' _ lsA hF hR (e2.trans hz) (hP.up e3 ?_) (hS.put e2 e3 (hF.w hx)) hL
  show H'[_]? = some (vp_cell (cid 9) (n, .inl (upd f q.toNatClampNeg y)))
  rw [e1, vp_cell_i, vp_cell_i, arrV_store, upd_updV]
end HRows2
/-- what a constructor's contract says of its end -/
def QI (D : va_G) (nw : Pw) (a sz d : Nat) : Array Value → State → Outcome → State → Prop := fun _ st oc t => (oc = .returned none ∧ t.heap.size = sz + d ∧ PH D nw t.heap) ∧ va_F (fun x => x = a ∨ sz ≤ x) st t
def PI (D : va_G) (cid : Nat → ClassId) (a sz : Nat) (E0 : va_E) : Array Value → State → Prop := va_Pc [.ref a] (fun U => U.heap.size = sz ∧ va_at D vwCl (a, E0) U.heap ∧ KK (g9 D cid) U)
/-- a constructor's contract: from a heap of sz cells, the object at a holding E0, it comes to d cells more; the picture nw is what it leaves at a and from sz on -/
def CI (y : MethodName) (cc : ByteArray) (maxL fr lo : Nat) (D : va_G) (cid : Nat → ClassId) (a sz : Nat) (E0 : va_E) (nw : Pw) (d mc ms : Nat) : Prop :=
  ∀ l : Launch, Met l y [.code y cc maxL none] { frames := fr, cells := mc, slots := ms, locals := lo } (PI D cid a sz E0) (QI D nw a sz d) mc ms (fun x => x = a ∨ sz ≤ x)
theorem PI.blind (D : va_G) (cid : Nat → ClassId) (a sz : Nat) (E0 : va_E) : FrameBlind (PI D cid a sz E0) := by
  intro a U g mk h
  obtain ⟨h1, h2, h3, h4⟩ := h
  exact ⟨h1, h2, h3, ⟨va_K.moved (u := U) (U := U.calling g mk a) (Vm.Alike.refl U.vm) h4.1, fun w hw ho => wOK_warm (s := U) (U := U.calling g mk a) ho (State.WarmedH.refl U) (h4.2 w hw ho)⟩⟩
set_option maxHeartbeats 1000000 in
theorem CI.of {y : MethodName} {cc : ByteArray} {maxL fr lo : Nat} {D : va_G} {cid : Nat → ClassId} {a sz : Nat} {E0 : va_E} {nw : Pw} {d mc ms : Nat} (hy : plainFor y = true) (hn : y.name = "<init>") (hm : 1 ≤ maxL) {xp : Nat} (hret : decode cc xp = .ok (.return_, 1)) (ls : List (Option OV)) (hls : some (.inr (a, 0, 0, 0)) :: List.replicate (maxL - 1) none = ls)
    (k : HW D cid a sz cc y.cls maxL fr lo mc ms (xp, List.replicate maxL none, [], nw, sz + d) 0 ls [] (fun q E => q = a ∧ E = E0) sz 0 0) : CI y cc maxL fr lo D cid a sz E0 nw d mc ms := by
  intro l
  subst hls
  refine Met.ofWF (cc := cc) (maxL := maxL) (ret := none) hy rfl ?_
  intro p e s m args below meth c s₁ B hml hv
  obtain ⟨rfl, hsz, hE, hK⟩ := hv
  have hr := B.returns
  have hb := B.bytes
  have hx := B.exec
  have hlocks := B.notSynchronized
  have hown : s.vm.findClass y.cls = some m.cls := findClass_of_methodNamed B.named
  have hnm : meth.name = "<init>" := (name_of_methodNamed B.named B.method).1.trans hn
  rw [lg_entry_eq]
  have hL := Lh.entry (g9 D cid) (av := [.inr (a, 0, 0, 0)]) (nL := maxL) hm
  refine k (fun x => x = a ∨ sz ≤ x) p l e _ s m _ below meth c _ s.heap [] _ ⟨hx, hb, hml, hown, Nat.le_refl _, Nat.le_refl _, Nat.le_refl _, Nat.le_refl _, hK, fun _ => hnm, hsz, Or.inl rfl, fun _ h => Or.inr h⟩ ?_ hsz (fun q E h => by obtain ⟨rfl, rfl⟩ := h; exact hE) va_S.rf hL
  intro H' locs' lsA' hz hP hS' hL'
  exact W.vret hx hb hr (fun t ht hW => ⟨⟨rfl, by rw [ht]; exact hz, by rw [ht]; exact hP⟩, hS'.F ht⟩) hS'.2.2 hret
theorem w_callI {D : va_G} {nw : Pw} {a sz d : Nat} {p : Program} {l : Launch} {e : Env} {R : Room} {s : State} {m : MethodId} {args : Array Value} {below : List Frame} {meth : Method} {c : Code} {H : Heap} {locs : List Loc} {cells slots mc ms pc : Nat} {Q : State → Prop} {lsA : Array Slot} {st0 rest : List Value} {av : Array Value} {A : Nat → Prop}
    (hr : va_Run p l e R s m args below meth c H locs cells slots mc ms (F0 m pc lsA st0) rest (QI D nw a sz d av) (fun x => x = a ∨ sz ≤ x)) (hz0 : H.size = sz) (hS : va_S A s.heap H locs) (hA : ∀ q, q = a ∨ sz ≤ q → A q)
    (kk : ∀ (H1 : Heap) (locs1 : List Loc), H1.size = sz + d → PH D nw H1 → (∀ q : Nat, q < H.size → q ≠ a → H1[q]? = H[q]?) → va_S A s.heap H1 locs1 → W p l e R s m args below meth c H1 locs1 (cells + mc) (slots + ms) Q (F0 m (pc + 3) lsA rest)) : W p l e R s m args below meth c H locs cells slots Q (F0 m pc lsA st0) := by
  intro T hT X
  obtain ⟨v, st₀, t, T', L, h0, X', hL, e1, e2, ⟨⟨hv, hp, hb⟩, hz, hk⟩, stp⟩ := hr T hT X
  cases hv
  rw [h0] at hz hk
  have hS1 : va_S A s.heap T'.heap (locs ++ L) := ⟨Nat.le_trans hS.1 (by rw [e1]; exact hz), fun q h1 h2 => by rw [e1, hk q (Nat.lt_of_lt_of_le h1 hS.1) (fun z => h2 (hA q z))]; exact hS.2.1 q h1 h2, fun q hq => by
      rcases List.mem_append.mp hq with h | h
      · exact hS.2.2 q h
      · exact hA _ (hL q h)⟩
  obtain ⟨t2, a1, b1⟩ := kk T'.heap (locs ++ L) (by rw [e1]; exact hp) (by rw [e1]; exact hb) (fun q h1 h2 => by rw [e1]; exact hk q h1 (fun z => z.elim h2 (fun z => by omega))) hS1 T' rfl X'
  exact ⟨t2, stp t2 a1, b1⟩
section HRows3
variable {D : va_G} {cid : Nat → ClassId} {a0 h0 : Nat} {cc : ByteArray} {own : String} {nL fr lo mc ms : Nat} {X : Ex} {pc pc' : Nat} {ls : List (Option OV)} {st : List OV} {w : Pw} {sz j i : Nat}
theorem PH.mg {H H1 : Heap} {a : Nat} {nw : Pw} (h : PH D w H) (h1 : PH D nw H1) (o : ∀ q : Nat, q < H.size → q ≠ a → H1[q]? = H[q]?) : PH D (pmg w a nw) H1 := by
  intro q E hq
  rcases hq with hq | ⟨hq, hw⟩
  · exact h1 q E hq
  · exact (h q E hw).kept (o q (h q E hw).lt hq)
theorem h_call {y : MethodName} {cc' : ByteArray} {mL fr' lo' index a d mc' ms' : Nat} {E0 : va_E} {nw : Pw} {rest : List OV} (hC : CI y cc' mL fr' lo' D cid a sz E0 nw d mc' ms') (hW : CWd own index y cc' mL none 0) (hn : y.name = "<init>") (hs : Cond.instanceMethod y ∈ lw_tbl) (hx : a = a0 ∨ h0 ≤ a) (he : w a E0) (hh : h0 ≤ sz) (hfr : fr' + 1 ≤ fr) (hlo : 8 + (mL + 11) + lo' ≤ lo) (hj : j + mc' ≤ mc) (hi : i + ms' ≤ ms) (hrest : rest.length ≤ 8) (hd : decode cc pc = .ok (.invokespecial index, 3)) (hp : pc + 3 = pc')
    (kk : HW D cid a0 h0 cc own nL fr lo mc ms X pc' ls rest (pmg w a nw) (sz + d) (j + mc') (i + ms')) : HW D cid a0 h0 cc own nL fr lo mc ms X pc ls (.inr (a, 0, 0, 0) :: rest) w sz j i := by
  subst hp
  intro A p l e R s m args below meth c Z H locs lsA hF hR hz hP hS hL
  have hcode := hF.use (args := args) hW.2.1 rfl
  have hcw : CallB R s args own index y cc' mL none [.code y cc' mL none] { frames := fr', cells := mc', slots := ms', locals := lo' } mc' ms' 0 ∧ y.name = "<init>" ∧ (Cond.instanceMethod y).before args s = true :=
    ⟨⟨rfl, rfl, Nat.le_trans hfr hF.2.2.2.2.1, Nat.le_trans hlo hF.2.2.2.2.2.1, c_ws hcode, List.mem_cons_self, hcode, hF.use hW.2.2.1 rfl, hW.2.2.2.1, c_len hW.2.2.2.2, hF.use hW.1 rfl⟩, hn, hF.use hs rfl⟩
  refine w_callI (va_runI (As := []) (b := a) (Ts := []) ⟨hF.1, hF.2.1, hF.2.2.1, hF.2.2.2.1, fun w h => absurd h List.not_mem_nil⟩ (hC l) hcw ⟨PI.blind D cid a sz E0, fun U hU hW => ⟨rfl, by rw [hU]; exact hz, by rw [hU]; exact hP a E0 he, hF.2.2.2.2.2.2.2.2.1.warm hW⟩⟩ rfl rfl hL.1 rfl (w_rest (g9 D cid) hrest) hd ⟨Nat.le_trans hj hF.2.2.2.2.2.2.1, Nat.le_trans hi hF.2.2.2.2.2.2.2.1⟩) hz hS (fun q hq => hq.elim (fun z => by subst z; exact hF.w hx) (fun z => hF.w (Or.inr (Nat.le_trans hh z)))) (fun H1 locs1 hz1 hP1 o1 hS1 => ?_)
  exact kk A p l e R s m args below meth c Z H1 locs1 lsA hF hR hz1 (hP.mg hP1 o1) hS1 hL
theorem h_callN {y : MethodName} {cc' : ByteArray} {mL fr' lo' index a d mc' ms' : Nat} {E0 : va_E} {nw : Pw} {rest : List OV} (hC : CI y cc' mL fr' lo' D cid a sz E0 nw d mc' ms') (hW : CWdN own index y cc' mL none 0) (hn : y.name = "<init>") (hs : Cond.instanceMethod y ∈ lw_tbl) (hx : a = a0 ∨ h0 ≤ a) (he : w a E0) (hh : h0 ≤ sz) (hfr : fr' + 1 ≤ fr) (hlo : 8 + (mL + 11) + lo' ≤ lo) (hj : j + mc' ≤ mc) (hi : i + ms' ≤ ms) (hrest : rest.length ≤ 8) (hd : decode cc pc = .ok (.invokespecial index, 3)) (hp : pc + 3 = pc')
    (kk : HW D cid a0 h0 cc own nL fr lo mc ms X pc' ls rest (pmg w a nw) (sz + d) (j + mc') (i + ms')) : HW D cid a0 h0 cc own nL fr lo mc ms X pc ls (.inr (a, 0, 0, 0) :: rest) w sz j i := by
  subst hp
  intro A p l e R s m args below meth c Z H locs lsA hF hR hz hP hS hL
  have hcode := hF.use (args := args) hW.2.1 rfl
  have hcw : va_CN R s args own index y "ColdChain" cc' mL none [.code y cc' mL none] { frames := fr', cells := mc', slots := ms', locals := lo' } mc' ms' 0 ∧ y.name = "<init>" ∧ (Cond.instanceMethod y).before args s = true :=
    ⟨⟨⟨rfl, rfl, Nat.le_trans hfr hF.2.2.2.2.1, Nat.le_trans hlo hF.2.2.2.2.2.1, c_ws hcode, List.mem_cons_self⟩, hcode, hF.use hW.2.2.1 rfl, hW.2.2.2.1, c_len hW.2.2.2.2, hF.use hW.1 rfl⟩, hn, hF.use hs rfl⟩
  refine w_callI (va_runIN (As := []) (b := a) (Ts := []) ⟨hF.1, hF.2.1, hF.2.2.1, hF.2.2.2.1, fun w h => absurd h List.not_mem_nil⟩ (hC l) hcw ⟨PI.blind D cid a sz E0, fun U hU hW => ⟨rfl, by rw [hU]; exact hz, by rw [hU]; exact hP a E0 he, hF.2.2.2.2.2.2.2.2.1.warm hW⟩⟩ rfl rfl hL.1 rfl (w_rest (g9 D cid) hrest) hd ⟨Nat.le_trans hj hF.2.2.2.2.2.2.1, Nat.le_trans hi hF.2.2.2.2.2.2.2.1⟩) hz hS (fun q hq => hq.elim (fun z => by subst z; exact hF.w hx) (fun z => hF.w (Or.inr (Nat.le_trans hh z)))) (fun H1 locs1 hz1 hP1 o1 hS1 => ?_)
  exact kk A p l e R s m args below meth c Z H1 locs1 lsA hF hR hz1 (hP.mg hP1 o1) hS1 hL
end HRows3
