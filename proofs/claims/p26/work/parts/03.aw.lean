/-! AW: the walk of a method over the shape: program counter, locals, stack, ints. -/
def FrOK (G : Gl) (A : Nat → Prop) (cc : ByteArray) (own : String) (nL fr lo : Nat) (p : Program) (R : Room) (s : State) (m : MethodId) (c : Code) (cells slots : Nat) : Prop :=
  p.tables.exec = Jvm.exec ∧ c.code = cc ∧ c.maxLocals = nL ∧ s.vm.findClass own = some m.cls ∧ fr ≤ R.frames ∧ lo ≤ R.locals ∧ cells ≤ R.cells ∧ slots ≤ R.slots ∧ KK G s ∧ SS G A s s.heap ∧ GI G ∧ (∀ q, AG G q → A q)
/-- the locals: what is known of them -/
def Lh (G : Gl) (lsA : Array Slot) (nL : Nat) (ls : List (Option OV)) : Prop := lsA.size = nL ∧ ls.length = nL ∧ lv_wf lsA ∧ ∀ (i : Nat) (v : OV), ls[i]? = some (some v) → lsA[i]? = some (.val (vlv G v))
/-- the method's end at a program counter with an answer -/
def retI (cc : ByteArray) (pc : Nat) (rt : Option FieldType) : Option OV → Prop
  | none => rt = none ∧ decode cc pc = .ok (.return_, 1)
  | some (.inl x) => (∃ ty, rt = some ty ∧ narrow ty (.int x) = .int x) ∧ decode cc pc = .ok (.ireturn, 1)
  | some (.inr _) => (∃ t, rt = some (.array t)) ∧ decode cc pc = .ok (.areturn, 1)
def RetOK (G : Gl) (A : Nat → Prop) (cc : ByteArray) (rt : Option FieldType) (Φ : Option OV → Mm → Prop) (p : Program) (l : Launch) (e : Env) (R : Room) (s : State) (m : MethodId) (args : Array Value) (below : List Frame) (meth : Method) (c : Code) (cells slots : Nat) (Z : State → Prop) : Prop :=
  ∃ cr sr : Nat, cells ≤ cr ∧ slots ≤ sr ∧ (∀ bc bs : Nat, Φ (some (.inr (77, bc, bs, 0))) (fun _ _ => 0) → cells + bc ≤ cr ∧ slots + bs ≤ sr ∧ cells + bc ≤ R.cells ∧ slots + bs ≤ R.slots ∧ ∀ q : Nat, s.heap.size ≤ q → A q) ∧
  ∀ (v : Option OV) (M : Mm) (H : Heap) (locs : List Loc) (lsA : Array Slot) (pc : Nat), Φ v M → Mem G M H → va_S A s.heap H locs → retI cc pc rt v → W p l e R s m args below meth c H locs cr sr Z (F0 m pc lsA (v.toList.map (vlv G)))
def AW (G : Gl) (cc : ByteArray) (own : String) (nL fr lo : Nat) (rt : Option FieldType) (Φ : Option OV → Mm → Prop) (pc : Nat) (ls : List (Option OV)) (st : List OV) (M : Mm) : Prop :=
  ∀ (A : Nat → Prop) (p : Program) (l : Launch) (e : Env) (R : Room) (s : State) (m : MethodId) (args : Array Value) (below : List Frame) (meth : Method) (c : Code) (cells slots : Nat) (Z : State → Prop) (H : Heap) (locs : List Loc) (lsA : Array Slot),
    FrOK G A cc own nL fr lo p R s m c cells slots → RetOK G A cc rt Φ p l e R s m args below meth c cells slots Z → Mem G M H → va_S A s.heap H locs → Lh G lsA nL ls →
    W p l e R s m args below meth c H locs cells slots Z (F0 m pc lsA (st.map (vlv G)))
def PC (G : Gl) (av : List OV) (M : Mm) : Array Value → State → Prop := va_Pc (av.map (vlv G)) (fun U => Mem G M U.heap ∧ KK G U ∧ SS G (AG G) U U.heap)
def QC (G : Gl) (Φ : Option OV → Mm → Prop) : Array Value → State → Outcome → State → Prop := fun _ st oc t => (∃ (v : Option OV) (M' : Mm), oc = .returned (v.map (vlv G)) ∧ Φ v M' ∧ Mem G M' t.heap) ∧ va_F (AG G) st t
/-- a method's contract -/
def Ct (y : MethodName) (cc : ByteArray) (maxL : Nat) (rt : Option FieldType) (fr lo : Nat) (av : List OV) (M : Mm) (Φ : Option OV → Mm → Prop) : Prop :=
  ∀ (G : Gl) (l : Launch), GI G → Met l y [.code y cc maxL rt] { frames := fr, cells := 0, slots := 0, locals := lo } (PC G av M) (QC G Φ) 0 0 (AG G)
theorem vlv_cat (G : Gl) (v : OV) : (vlv G v).category = 1 := by cases v <;> rfl
theorem lg_sl_vlv (G : Gl) (av : List OV) : lg_sl (av.map (vlv G)) = av.map (fun v => Slot.val (vlv G v)) := by
  induction av with
  | nil => rfl
  | cons a t ih =>
    have h1 : lg_sl (List.map (vlv G) (a :: t)) = [Slot.val (vlv G a)] ++ lg_sl (List.map (vlv G) t) := by
      simp [lg_sl, vlv_cat]
    rw [h1, ih]; rfl
theorem Lh.entry (G : Gl) {av : List OV} {nL : Nat} (h : av.length ≤ nL) : Lh G (lg_sl (av.map (vlv G)) ++ List.replicate (nL - (lg_sl (av.map (vlv G))).length) Slot.unset).toArray nL (av.map some ++ List.replicate (nL - av.length) none) := by
  have h0 : (lg_sl (av.map (vlv G))).length = av.length := by rw [lg_sl_vlv, List.length_map]
  have h1 := lv_entry (av.map (vlv G)) (n := nL) (by rw [h0]; exact h)
  refine ⟨h1.1, by simp; omega, h1.2.1, fun i v hv => ?_⟩
  have hi : i < av.length := by
    rcases Nat.lt_or_ge i av.length with q | q
    · exact q
    · rw [List.getElem?_append_right (by simp; exact q)] at hv
      have := List.eq_of_mem_replicate (List.mem_of_getElem? hv)
      cases this
  rw [List.getElem?_append_left (by simp; exact hi), List.getElem?_map] at hv
  rw [lg_sl_vlv, List.getElem?_toArray, List.getElem?_append_left (by simp; exact hi), List.getElem?_map]
  cases ha : av[i]? with
  | none => rw [ha] at hv; cases hv
  | some a =>
    rw [ha] at hv
    cases hv
    rfl
theorem Lh.set {G : Gl} {lsA : Array Slot} {nL : Nat} {ls : List (Option OV)} (h : Lh G lsA nL ls) {i : Nat} (hi : i < nL) (v : OV) : ∃ lsA', storeLocals lsA i (vlv G v) = some lsA' ∧ Lh G lsA' nL (ls.set i (some v)) := by
  obtain ⟨h1, h2, h3, h4⟩ := h
  let l : List (Nat × Value) := (List.range nL).filterMap (fun j => match ls[j]? with | some (some w) => some (j, vlv G w) | _ => none)
  have hl : lv_has lsA nL l := by
    refine ⟨h1, h3, fun q hq => ?_⟩
    obtain ⟨j, -, hj⟩ := List.mem_filterMap.mp hq
    cases hw : ls[j]? with
    | none => rw [hw] at hj; cases hj
    | some o =>
      rw [hw] at hj
      cases o with
      | none => cases hj
      | some w => cases hj; exact h4 j w hw
  obtain ⟨ls', e1, e2⟩ := lv_store1 hl hi (vlv_cat G v)
  refine ⟨ls', e1, e2.1, by simp [h2], e2.2.1, fun j w hj => ?_⟩
  by_cases hji : j = i
  · subst hji
    rw [List.getElem?_set_self (by omega)] at hj
    cases hj
    exact e2.2.2 (j, vlv G v) List.mem_cons_self
  · rw [List.getElem?_set_ne (Ne.symm hji)] at hj
    refine e2.2.2 (j, vlv G w) (List.mem_cons_of_mem _ (List.mem_filter.mpr ⟨List.mem_filterMap.mpr ⟨j, List.mem_range.mpr ?_, by rw [hj]⟩, ?_⟩))
    · rw [← h2]; exact (List.getElem?_eq_some_iff.mp hj).1
    · simp [vlv_cat, hji]
/-- as Met.ofW, for a method of a class some of whose methods are run by an entry instead -/
theorem Met.ofWF {l : Launch} {y : MethodName} {ws ws' : List Cond} {rm : Room} {Pc : Array Value → State → Prop} {Qc : Array Value → State → Outcome → State → Prop} {mc ms : Nat} {free : Addr → Prop} {cc : ByteArray} {maxL : Nat} {ret : Option FieldType}
    (hy : plainFor y = true) (hw : ws = Cond.code y cc maxL ret :: ws')
    (body : ∀ p e s m args below meth c s₁, BodyLoose p l y (headSpec ws rm) cc maxL ret e s m args below meth c s₁ → c.maxLocals = maxL → Pc args s →
      W p l e (headSpec ws rm).room s m args below meth c s.heap [] 0 0 (MQ below Qc args s mc ms free) (entryFrame m args maxL)) : Met l y ws rm Pc Qc mc ms free := by
  refine MetFree.of_bodySF (code := cc) (maxLocals := maxL) (ret := ret) hy ?_ ?_
  · intro args s m h hn
    obtain ⟨meth, c, h1, h2, h3, h4, h5, h6, -, -⟩ := Cond.code_spec hn (atoms_spec (ws := ws) h _ (by rw [hw]; exact List.mem_cons_self))
    exact ⟨meth, c, h1, h2, h3, h4, h5, h6⟩
  · intro p e s m args below meth c s₁ B hml hP _
    have hh0 : s₁.heap = s.heap := by rw [B.state]; rfl
    obtain ⟨t, a1, o, b1, b2, b3⟩ := body p e s m args below meth c s₁ B hml hP s₁ hh0 (Stand.of_body B)
    exact ⟨t, o, a1, b1, b2, ⟨b3.1, b3.2⟩⟩
set_option maxHeartbeats 1000000 in
/-- a contract out of a walk -/
theorem Ct.of {y : MethodName} {cc : ByteArray} {maxL : Nat} {rt : Option FieldType} {fr lo : Nat} {av : List OV} {M : Mm} {Φ : Option OV → Mm → Prop} (hy : plainFor y = true) (hn : av.length ≤ maxL) (ls : List (Option OV)) (hls : av.map some ++ List.replicate (maxL - av.length) none = ls)
    (k : ∀ G, AW G cc y.cls maxL fr lo rt Φ 0 ls [] M) (hbud : ∀ bc bs : Nat, ¬ Φ (some (.inr (77, bc, bs, 0))) (fun _ _ => 0)) : Ct y cc maxL rt fr lo av M Φ := by
  intro G l hGI
  subst hls
  refine Met.ofWF (cc := cc) (maxL := maxL) (ret := rt) hy rfl ?_
  intro p e s m args below meth c s₁ B hml hv
  obtain ⟨rfl, hM, hK, hSS⟩ := hv
  have hr := B.returns
  have hb := B.bytes
  have hx := B.exec
  have hlocks := B.notSynchronized
  have hown : s.vm.findClass y.cls = some m.cls := findClass_of_methodNamed B.named
  rw [lg_entry_eq]
  refine k G (AG G) p l e _ s m _ below meth c 0 0 _ s.heap [] _ ⟨hx, hb, hml, hown, Nat.le_refl _, Nat.le_refl _, Nat.zero_le _, Nat.zero_le _, hK, hSS, hGI, fun _ h => h⟩ ⟨0, 0, Nat.le_refl _, Nat.le_refl _, fun bc bs h => absurd h (hbud bc bs), ?_⟩ hM va_S.rf (Lh.entry G hn)
  intro v M' H' locs' lsA' pc' hΦ hM' hS' hret
  cases v with
  | none =>
    obtain ⟨hrt, hd⟩ := hret
    exact W.vret hx hb (hr.trans hrt) (fun t ht hW => ⟨⟨none, M', rfl, hΦ, by rw [ht]; exact hM'⟩, hS'.F ht⟩) hS'.2.2 hd
  | some v =>
    cases v with
    | inl z =>
      obtain ⟨⟨ty, hrt, hnar⟩, hd⟩ := hret
      exact W.zret (v := z) hx hb (hr.trans hrt) hnar (fun t ht hW => ⟨⟨some (.inl z), M', rfl, hΦ, by rw [ht]; exact hM'⟩, hS'.F ht⟩) hS'.2.2 hd
    | inr o =>
      obtain ⟨⟨ty, hrt⟩, hd⟩ := hret
      exact W.aret (v := .ref (G.2.1 o)) hx hb (hr.trans hrt) (Or.inr ⟨ty, rfl⟩) (Or.inr ⟨_, rfl⟩) (fun t ht hW => ⟨⟨some (.inr o), M', rfl, hΦ, by rw [ht]; exact hM'⟩, hS'.F ht⟩) hS'.2.2 hd
theorem SS.at {G : Gl} {A : Nat → Prop} {s : State} {H : Heap} {locs : List Loc} (h : SS G A s s.heap) (hS : va_S A s.heap H locs) : SS G A s H := ⟨h.1.kept (fun a h1 h2 => hS.2.1 a h1 h2), h.2.1.kept (fun a h1 h2 => hS.2.1 a h1 h2), h.2.2.1, h.2.2.2.1.kept (hS.2.1 _ h.2.2.2.2.1 h.2.2.2.2.2), Nat.lt_of_lt_of_le h.2.2.2.2.1 hS.1, h.2.2.2.2.2⟩
theorem SS.narrow {G : Gl} {A B : Nat → Prop} {U : State} {H : Heap} (h : SS G A U H) (hAB : ∀ q, B q → A q) : SS G B U H := ⟨va_Z.narrow h.1 hAB, va_T.narrow h.2.1 hAB, h.2.2.1, h.2.2.2.1, h.2.2.2.2.1, fun z => h.2.2.2.2.2 (hAB _ z)⟩
theorem SS.warm {G : Gl} {A : Nat → Prop} {s U : State} {H : Heap} (h : SS G A s H) (hW : s.WarmedH U.vm) : SS G A U H := ⟨va_Z.moved hW.alike h.1, va_T.moved hW.alike h.2.1, h.2.2.1, va_X.moved hW.alike h.2.2.2.1, h.2.2.2.2.1, h.2.2.2.2.2⟩
theorem PC.blind (G : Gl) (av : List OV) (M : Mm) : FrameBlind (PC G av M) := by
  intro a U g mk h
  obtain ⟨h1, h2, h3, h4⟩ := h
  exact ⟨h1, h2, ⟨va_K.moved (u := U) (U := U.calling g mk a) (Vm.Alike.refl U.vm) h3.1, fun w hw ho => wOK_warm (s := U) (U := U.calling g mk a) ho (State.WarmedH.refl U) (h3.2 w hw ho)⟩, ⟨va_Z.moved (u := U) (U := U.calling g mk a) (Vm.Alike.refl U.vm) h4.1, va_T.moved (u := U) (U := U.calling g mk a) (Vm.Alike.refl U.vm) h4.2.1, h4.2.2.1, va_X.moved (u := U) (U := U.calling g mk a) (Vm.Alike.refl U.vm) h4.2.2.2.1, h4.2.2.2.2.1, h4.2.2.2.2.2⟩⟩
