/-! ISOM: isSo's contract: it makes one row of four ints. -/
def reG (G : Gl) (a : Nat) : Gl := (G.1, fun o => if o = fo then a else if o = (99, 0, 0, 0) then 1 else G.2.1 o, G.2.2)
theorem reG_n (G : Gl) (a : Nat) {o : Obj} (h1 : o ≠ fo) (h2 : o ≠ (99, 0, 0, 0)) : (reG G a).2.1 o = G.2.1 o := by
  show (if o = fo then a else if o = (99, 0, 0, 0) then 1 else G.2.1 o) = _
  rw [if_neg h1, if_neg h2]
theorem reG_o (G : Gl) (a : Nat) {o : Obj} (h : okO o = true) : (reG G a).2.1 o = G.2.1 o := by
  refine reG_n G a ?_ ?_
  · rintro rfl; exact absurd h (by decide)
  · rintro rfl; exact absurd h (by decide)
theorem reG_fo (G : Gl) (a : Nat) : (reG G a).2.1 fo = a := by
  show (if fo = fo then a else if fo = (99, 0, 0, 0) then 1 else G.2.1 fo) = a
  exact if_pos rfl
theorem reG_FL (G : Gl) (a : Nat) : FL (reG G a) := by
  show (if ((99, 0, 0, 0) : Obj) = fo then a else if ((99, 0, 0, 0) : Obj) = (99, 0, 0, 0) then 1 else G.2.1 (99, 0, 0, 0)) = 1
  rw [if_neg (by decide), if_pos rfl]
theorem reG_rf (G : Gl) (a n : Nat) (f : Nat → Obj) (h : ∀ i, i < n → f i ≠ fo ∧ f i ≠ (99, 0, 0, 0)) : rfR (reG G a) n f = rfR G n f := by
  funext i
  unfold rfR
  split
  · rw [reG_n G a (h i (by assumption)).1 (h i (by assumption)).2]
  · rfl
theorem reG_ent (G : Gl) (a : Nat) (M : Mm) {o : Obj} (ho : okO o = true) : ent (reG G a) M o = ent G M o := by
  have nn : ∀ k x y w : Nat, k ≠ 9 → k ≠ 99 → ((k, x, y, w) : Obj) ≠ fo ∧ ((k, x, y, w) : Obj) ≠ (99, 0, 0, 0) := fun k x y w h1 h2 => ⟨fun e => h1 (congrArg Prod.fst e), fun e => h2 (congrArg Prod.fst e)⟩
  have n9 : ∀ x y w : Nat, y ≠ 4 → ((9, x, y, w) : Obj) ≠ fo ∧ ((9, x, y, w) : Obj) ≠ (99, 0, 0, 0) := fun x y w h1 => ⟨fun e => h1 (congrArg (fun o : Obj => o.2.2.1) e), fun e => absurd (congrArg Prod.fst e) (by show (9 : Nat) ≠ 99; decide)⟩
  have rn : ∀ k x y w : Nat, k ≠ 9 → k ≠ 99 → (reG G a).2.1 (k, x, y, w) = G.2.1 (k, x, y, w) := fun k x y w h1 h2 => reG_n G a (nn k x y w h1 h2).1 (nn k x y w h1 h2).2
  have r9 : ∀ x y w : Nat, y ≠ 4 → (reG G a).2.1 (9, x, y, w) = G.2.1 (9, x, y, w) := fun x y w h1 => reG_n G a (n9 x y w h1).1 (n9 x y w h1).2
  obtain ⟨k, b, c, d⟩ := o
  match k, ho with
  | 0, _ => simp only [ent]; rw [rn 14 0 0 0 (by decide) (by decide), rn 14 1 0 0 (by decide) (by decide)]
  | 1, _ => rfl
  | 2, _ => simp only [ent]; rw [rn 8 22 80 0 (by decide) (by decide), r9 23 80 0 (by decide), r9 24 80 0 (by decide), r9 25 80 0 (by decide)]
  | 3, _ => simp only [ent]; rw [rn 12 b 0 0 (by decide) (by decide), rn 10 b 0 0 (by decide) (by decide)]
  | 4, _ => simp only [ent]; rw [rn 13 b c 0 (by decide) (by decide)]
  | 5, _ => rfl
  | 6, _ => simp only [ent]; rw [rn 3 0 0 0 (by decide) (by decide), rn 3 1 0 0 (by decide) (by decide), rn 11 0 0 0 (by decide) (by decide), rn 0 0 0 0 (by decide) (by decide), rn 2 0 0 0 (by decide) (by decide)]
  | 7, ho => simp [okO] at ho
  | 8, _ => rfl
  | 9, _ => rfl
  | 10, _ => simp only [ent]; rw [reG_rf G a 12 _ (fun i _ => nn 1 b i 0 (by decide) (by decide))]; rfl
  | 11, _ => simp only [ent]; rw [reG_rf G a 7 _ (fun i _ => nn 3 (2 + i) 0 0 (by decide) (by decide))]; rfl
  | 12, _ => simp only [ent]; rw [reG_rf G a 3 _ (fun i _ => nn 4 b i 0 (by decide) (by decide))]; rfl
  | 13, _ => simp only [ent]; rw [reG_rf G a 3 _ (fun i _ => nn 5 b c i (by decide) (by decide))]; rfl
  | 14, _ => simp only [ent]; rw [reG_rf G a 9 _ (fun i _ => n9 (30 + 9 * b + i) 601 0 (by decide))]; rfl
  | k + 15, ho => simp [okO] at ho
theorem ent_53 (G : Gl) (M : Mm) (f : Nat → Int32) {o : Obj} (ho : okO o = true) : ent G (setR M 53 f) o = ent G M o := ent_congr G ho (fun r i hw => by
  by_cases e : r = 53
  · subst e; rw [← hw, ow53] at ho; cases ho
  · rw [setR_ne _ _ e])
/-- the new row in the shape -/
theorem Mem.re {G : Gl} {M : Mm} {H H1 : Heap} (hM : Mem G M H) (e1 : va_at G.1 vwCl (H.size, .inl (G.2.2 9, 4, .inl (fun _ => 0))) H1) (o1 : ∀ q : Nat, q < H.size → H1[q]? = H[q]?) : Mem (reG G H.size) (setR M 53 (fun _ => 0)) H1 := by
  refine ⟨fun o ho => ?_, fun _ => ?_⟩
  · rw [reG_o G _ ho, reG_ent G _ _ ho, ent_53 G M _ ho]
    exact (hM.1 o ho).kept (o1 _ (hM.1 o ho).lt)
  · rw [reG_fo]
    have e : ent (reG G H.size) (setR M 53 (fun _ => 0)) fo = .inl (G.2.2 9, 4, .inl (fun _ => 0)) := by
      show (Sum.inl (G.2.2 9, 4, .inl (setR M 53 (fun _ => 0) 53)) : va_E) = _
      rw [setR_same]
    rw [e]
    exact e1
theorem Mem.un {G : Gl} {M : Mm} {f : Nat → Int32} {a : Nat} {H : Heap} (hn : ¬ FL G) (hM : Mem (reG G a) (setR M 53 f) H) : Mem G (setR M 53 f) H := by
  refine ⟨fun o ho => ?_, fun h => absurd h hn⟩
  have := hM.1 o ho
  rw [reG_o G _ ho, reG_ent G _ _ ho] at this
  exact this
theorem Mem.no53 {G : Gl} {M : Mm} {f : Nat → Int32} {H : Heap} (hn : ¬ FL G) (hM : Mem G (setR M 53 f) H) : Mem G M H := by
  refine ⟨fun o ho => ?_, fun h => absurd h hn⟩
  have := hM.1 o ho
  rw [ent_53 G M _ ho] at this
  exact this
theorem SS.re {G : Gl} {A : Nat → Prop} {U : State} {H : Heap} (a : Nat) (h : SS G A U H) : SS (reG G a) A U H := by
  have e1 : (reG G a).2.1 (15, 0, 0, 0) = G.2.1 (15, 0, 0, 0) := reG_n G a (by decide) (by decide)
  have e2 : (reG G a).2.1 (15, 1, 0, 0) = G.2.1 (15, 1, 0, 0) := reG_n G a (by decide) (by decide)
  have e3 : scL (reG G a) = scL G := reG_n G a (by decide) (by decide)
  have e4 : scX (reG G a) = scX G := funext fun j => by
    show nI ((reG G a).2.1 (98, 1, j, 0)) = nI (G.2.1 (98, 1, j, 0))
    rw [reG_n G a (fun e => absurd (congrArg Prod.fst e) (by show (98 : Nat) ≠ 9; decide)) (fun e => absurd (congrArg Prod.fst e) (by show (98 : Nat) ≠ 99; decide))]
  unfold SS
  rw [e1, e2, e3, e4]
  exact h
theorem GI.re {G : Gl} {M : Mm} {H : Heap} (hG : GI G) (hM : Mem G M H) : GI (reG G H.size) := by
  refine ⟨fun o o' ho ho' e => ?_, fun _ o ho e => ?_⟩
  · rw [reG_o G _ ho, reG_o G _ ho'] at e
    exact hG.1 o o' ho ho' e
  · rw [reG_o G _ ho, reG_fo] at e
    have := (hM.1 o ho).lt
    have e9 : G.2.1 o = H.size := e
    have : G.2.1 o < H.size := this
    omega
abbrev ISO (M : Mm) : Option OV → Mm → Prop := fun v M' => (v = some (.inl (nI 1)) ∧ ∃ f, M' = setR M 53 f) ∨ v = some (.inr (77, 1, 4, 0))
abbrev ISP (M : Mm) : Option OV → Mm → Prop := fun v M' => v = some (.inl (nI 1)) ∧ ∃ f, M' = setR M 53 f
set_option maxHeartbeats 4000000 in
theorem is_new {G : Gl} (hn0 : ¬ FL G) {M : Mm} (h : INV M) {nv np : Nat} (h0 : M 0 0 = nI nv) (hn : nv ≤ 3) (h1 : M 0 1 = nI np) (hm : np ≤ 6) (y7 y8 : Option OV) : AW G cL_isSo RL 13 4 88 (some .boolean) (ISO M) 318 [some (.inr (6, 0, 0, 0)), some (.inr (9, 50, 6, 0)), some (.inr (9, 51, 57, 0)), some (.inr (9, 52, 60, 0)), some (.inl (nI 1)), some (.inl (fndL (M 0) nv 0 (nI 0))), some (.inl (nI 0)), y7, y8, none, none, none, none] [.inl (nI 4)] M := by
  intro A p l e R s m args below meth c cells slots Z H locs lsA hF hR hM hS hL
  obtain ⟨cr, sr, c1, c2, hbud, hret⟩ := hR
  obtain ⟨b1, b2, b3, b4, hA⟩ := hbud 1 4 (Or.inr rfl)
  refine va_newaK (atype := .int) (N := 4) hF.1 hF.2.1 (hF.use ac_int rfl) rfl dL_isSo_318 rfl (nI_pos (by omega)) (nI_clamp (by omega)) (by decide) b3 b4 rfl fun H1 cA e1 z1 o1 hAr hNm => ?_
  have hcA : cA = G.2.2 9 := Option.some.inj (hNm.symm.trans (hF.2.2.2.2.2.2.2.2.1.1.2 1 (G.2.2 9, .int) rfl).2)
  subst hcA
  have hM1 := hM.re e1 o1
  have de := is_de (G := reG G H.size) (Φ := ISP M) h h0 hn h1 hm (reG_FL G _) none none (fun f => ⟨rfl, f, rfl⟩)
  have hL' : Lh (reG G H.size) lsA 13 [some (.inr (6, 0, 0, 0)), some (.inr (9, 50, 6, 0)), some (.inr (9, 51, 57, 0)), some (.inr (9, 52, 60, 0)), some (.inl (nI 1)), some (.inl (fndL (M 0) nv 0 (nI 0))), some (.inl (nI 0)), none, none, none, none, none, none] := by
    refine ⟨hL.1, rfl, hL.2.2.1, fun i v hv => ?_⟩
    match i, hv with
    | 0, hv => cases hv; show lsA[0]? = some (.val (.ref ((reG G H.size).2.1 (6, 0, 0, 0)))); rw [reG_o G _ (by decide)]; exact hL.2.2.2 0 (.inr (6, 0, 0, 0)) rfl
    | 1, hv => cases hv; show lsA[1]? = some (.val (.ref ((reG G H.size).2.1 (9, 50, 6, 0)))); rw [reG_o G _ (by decide)]; exact hL.2.2.2 1 (.inr (9, 50, 6, 0)) rfl
    | 2, hv => cases hv; show lsA[2]? = some (.val (.ref ((reG G H.size).2.1 (9, 51, 57, 0)))); rw [reG_o G _ (by decide)]; exact hL.2.2.2 2 (.inr (9, 51, 57, 0)) rfl
    | 3, hv => cases hv; show lsA[3]? = some (.val (.ref ((reG G H.size).2.1 (9, 52, 60, 0)))); rw [reG_o G _ (by decide)]; exact hL.2.2.2 3 (.inr (9, 52, 60, 0)) rfl
    | 4, hv => cases hv; exact hL.2.2.2 4 (.inl (nI 1)) rfl
    | 5, hv => cases hv; exact hL.2.2.2 5 (.inl (fndL (M 0) nv 0 (nI 0))) rfl
    | 6, hv => cases hv; exact hL.2.2.2 6 (.inl (nI 0)) rfl
    | 7, hv => cases hv
    | 8, hv => cases hv
    | 9, hv => cases hv
    | 10, hv => cases hv
    | 11, hv => cases hv
    | 12, hv => cases hv
    | k + 13, hv => simp at hv
  have hAq : ∀ q, AG (reG G H.size) q → A q := fun q hq => by
    rcases hq with ⟨o, ho, e9⟩ | ⟨-, e9⟩
    · rw [reG_o G _ ho] at e9; exact hF.2.2.2.2.2.2.2.2.2.2.2 q (Or.inl ⟨o, ho, e9⟩)
    · rw [reG_fo] at e9; subst e9; exact hA _ hS.1
  have go := de A p l e R s m args below meth c (cells + 1) (slots + 4) Z H1 locs lsA
    ⟨hF.1, hF.2.1, hF.2.2.1, hF.2.2.2.1, hF.2.2.2.2.1, hF.2.2.2.2.2.1, b3, b4, hF.2.2.2.2.2.2.2.2.1, hF.2.2.2.2.2.2.2.2.2.1.re _, hF.2.2.2.2.2.2.2.2.2.2.1.re hM, hAq⟩
    ⟨cr, sr, b1, b2, (fun bc bs hb => by cases hb.1), fun v M' H' locs' lsA' pc' hΦ hM' hS' hr' => by
      obtain ⟨rfl, f, rfl⟩ := hΦ
      exact hret (some (.inl (nI 1))) (setR M 53 f) H' locs' lsA' pc' (Or.inl ⟨rfl, f, rfl⟩) (Mem.un hn0 hM') hS' hr'⟩
    hM1 ⟨Nat.le_trans hS.1 (by omega), fun x h9 h8 => (o1 x (Nat.lt_of_lt_of_le h9 hS.1)).trans (hS.2.1 x h9 h8), hS.2.2⟩ hL'
  have e9 : List.map (vlv (reG G H.size)) [Sum.inr (9, 53, 4, 0)] = [Value.ref H.size] := by
    show [Value.ref ((reG G H.size).2.1 fo)] = _
    rw [reG_fo]
  rw [e9] at go
  exact go
/-- isSo's start and end: sz is the heap's size -/
def PCz (G : Gl) (av : List OV) (M : Mm) (sz : Nat) : Array Value → State → Prop := va_Pc (av.map (vlv G)) (fun U => U.heap.size = sz ∧ Mem G M U.heap ∧ KK G U ∧ SS G (fun q => AG G q ∨ sz ≤ q) U U.heap)
def QCz (G : Gl) (M : Mm) (sz : Nat) : Array Value → State → Outcome → State → Prop := fun _ st oc t => (oc = .returned (some (.int (nI 1))) ∧ Mem G M t.heap) ∧ va_F (fun q => AG G q ∨ sz ≤ q) st t
theorem PCz.blind (G : Gl) (av : List OV) (M : Mm) (sz : Nat) : FrameBlind (PCz G av M sz) := by
  intro a U g mk h
  obtain ⟨h1, h0, h2, h3, h4⟩ := h
  exact ⟨h1, h0, h2, ⟨va_K.moved (u := U) (U := U.calling g mk a) (Vm.Alike.refl U.vm) h3.1, fun w hw ho => wOK_warm (s := U) (U := U.calling g mk a) ho (State.WarmedH.refl U) (h3.2 w hw ho)⟩, ⟨va_Z.moved (u := U) (U := U.calling g mk a) (Vm.Alike.refl U.vm) h4.1, va_T.moved (u := U) (U := U.calling g mk a) (Vm.Alike.refl U.vm) h4.2.1, h4.2.2.1, va_X.moved (u := U) (U := U.calling g mk a) (Vm.Alike.refl U.vm) h4.2.2.2.1, h4.2.2.2.2.1, h4.2.2.2.2.2⟩⟩
set_option maxHeartbeats 4000000 in
theorem ct_isSo {M : Mm} (h : INV M) (G : Gl) (l : Launch) (hGI : GI G) (hn0 : ¬ FL G) (sz : Nat) : Met l yL_isSo [.code yL_isSo cL_isSo 13 (some .boolean)] { frames := 4, cells := 1, slots := 4, locals := 88 } (PCz G [.inr (6, 0, 0, 0), .inr (9, 50, 6, 0), .inr (9, 51, 57, 0), .inr (9, 52, 60, 0)] M sz) (QCz G M sz) 1 4 (fun q => AG G q ∨ sz ≤ q) := by
  obtain ⟨⟨t, ht, hg⟩, hqw⟩ := id h.2.1
  refine Met.ofWF (cc := cL_isSo) (maxL := 13) (ret := some .boolean) rfl rfl ?_
  intro p e s m args below meth c s₁ B hml hv
  obtain ⟨rfl, hsz, hM, hK, hSS⟩ := hv
  subst hsz
  have hr := B.returns
  have hb := B.bytes
  have hx := B.exec
  have hlocks := B.notSynchronized
  have hown : s.vm.findClass RL = some m.cls := findClass_of_methodNamed B.named
  have hL0 := Lh.entry G (av := [.inr (6, 0, 0, 0), .inr (9, 50, 6, 0), .inr (9, 51, 57, 0), .inr (9, 52, 60, 0)]) (nL := 13) (Nat.le_of_ble_eq_true rfl)
  rw [lg_entry_eq]
  refine is_ab (G := G) (Φ := ISO M) h hg.nv.2 hg.nv.1 hg.np.2 h.2.2.1 (fun y7 y8 => is_c _ _ _ _ (is_new hn0 h hg.nv.2 hg.nv.1 hg.np.2 h.2.2.1 y7 y8)) (fun q => AG G q ∨ s.heap.size ≤ q) p l e _ s m _ below meth c 0 0 _ s.heap [] _ ⟨hx, hb, hml, hown, Nat.le_refl _, Nat.le_refl _, Nat.zero_le _, Nat.zero_le _, hK, hSS, hGI, fun _ h => Or.inl h⟩ ⟨1, 4, by decide, by decide, fun bc bs hbd => ?_, ?_⟩ hM va_S.rf hL0
  · rcases hbd with hbd | hbd
    · cases hbd.1
    · cases hbd
      exact ⟨Nat.le_refl _, Nat.le_refl _, Nat.le_refl _, Nat.le_refl _, fun q hq => Or.inr hq⟩
  · intro v M' H' locs' lsA' pc' hΦ hM' hS' hret
    rcases hΦ with ⟨rfl, f, rfl⟩ | rfl
    · obtain ⟨⟨ty, hrt, hnar⟩, hd⟩ := hret
      exact W.zret (v := nI 1) hx hb (hr.trans hrt) hnar (fun t ht hW => ⟨⟨rfl, by rw [ht]; exact Mem.no53 hn0 hM'⟩, hS'.F ht⟩) hS'.2.2 hd
    · obtain ⟨⟨ty, hrt⟩, -⟩ := hret
      cases hrt
