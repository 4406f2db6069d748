/-! new int[N][K]: the outer row, then the inner ones. -/
theorem outer_arr (c : ClassId) (N h0 : Nat) : ∀ i : Nat, Jvm.Free.Multi.outerC c N h0 i = arrV c N (fun j => va_rf (if j < i then some (h0 + 1 + j) else none))
  | 0 => by
    show ({ cls := c, slots := Array.replicate N .null, vm := .none } : Cell) = _
    rw [arrV_new]
    exact congrArg (arrV c N) (funext fun j => by simp [va_rf])
  | i + 1 => by
    show (Jvm.Free.Multi.outerC c N h0 i).setSlot i (.ref (h0 + 1 + i)) = _
    rw [outer_arr c N h0 i, arrV_store]
    refine congrArg (arrV c N) (funext fun j => ?_)
    by_cases e : j = i
    · subst e; simp [updV, va_rf]
    · by_cases h : j < i
      · simp [updV, e, h, Nat.lt_succ_of_lt h]
      · simp [updV, e, h, show ¬ j < i + 1 by omega]
section HMna
variable {D : va_G} {cid : Nat → ClassId} {a0 h0 : Nat} {cc : ByteArray} {own : String} {nL fr lo mc ms : Nat} {X : Ex} {pc pc' : Nat} {ls : List (Option OV)} {st : List OV} {w : Pw} {sz j i : Nat}
set_option maxHeartbeats 1000000 in
theorem h_mna {N K index : Nat} (hN : N ≤ 1000) (hK : K ≤ 1000) (hw : Cond.classLink own index "[[I" ∈ lw_tbl) (hj : j + (1 + N) ≤ mc) (hi : i + (N + N * K) ≤ ms) (hd : decode cc pc = .ok (.multianewarray index 2, 4)) (hp : pc + 4 = pc')
    (kk : HW D cid a0 h0 cc own nL fr lo mc ms X pc' ls (.inr (sz, 0, 0, 0) :: st) (pmn cid w sz N K) (sz + 1 + N) (j + 1 + N) (i + N + N * K)) : HW D cid a0 h0 cc own nL fr lo mc ms X pc ls (.inl (nI K) :: .inl (nI N) :: st) w sz j i := by
  subst hp
  intro A p l e R s m args below meth c Z H locs lsA hF hR hz hP hS hL
  subst hz
  have eN : (nI N).toNatClampNeg = N := nI_clamp (by omega)
  have eK : (nI K).toNatClampNeg = K := nI_clamp (by omega)
  have hcl : (Cond.classLink own index ("[" ++ (FieldType.array FieldType.int).toString)).before args s = true := hF.use hw rfl
  intro T hT Xs
  obtain ⟨vm₁, cA, comp, -, fA, fC, -, -, X', step⟩ := Xs.multianewarray2F hF.1 hF.2.2.2.1 hcl (hF.use ao_int rfl) (hF.use ac_int rfl) (g := F0 m pc lsA (.int (nI K) :: .int (nI N) :: st.map (vlv (g9 D cid)))) rfl (by rw [hF.2.1]; exact hd) rfl (nI_pos (by omega)) (nI_pos (by omega)) (by rw [eN]; omega) (by rw [eK]; show K * 4 ≤ _; omega) (by rw [eK]; omega) rfl rfl (by rw [eN]; exact Nat.le_trans hj hF.2.2.2.2.2.2.1) (by rw [eN, eK]; exact Nat.le_trans hi hF.2.2.2.2.2.2.2.1)
  rw [eN, eK] at X' step
  have hKK := hF.2.2.2.2.2.2.2.2.1.1
  have e14 : cA = cid 14 := Option.some.inj (fA.symm.trans (hKK.2 6 (cid 14, .array .int) rfl).2)
  have e9 : comp = cid 9 := Option.some.inj (fC.symm.trans (hKK.2 1 (cid 9, .int) rfl).2)
  subst e14; subst e9
  generalize hFl : Jvm.Free.Multi.fill (T.setVm vm₁) (cid 14) (cid 9) N K (defaultValue .int) N = F at X' step
  have hTh : (T.setVm vm₁).heap = H := hT
  obtain ⟨f1, f2, -, -⟩ := Jvm.Free.Multi.fill_facts (T.setVm vm₁) (cid 14) (cid 9) N K (defaultValue .int) N
  rw [hFl, hTh] at f1 f2
  have hold : ∀ x : Nat, x < H.size → F.heap[x]? = H[x]? := fun x hx => by
    have := Jvm.Free.Multi.fill_old (T.setVm vm₁) (cid 14) (cid 9) N K (defaultValue .int) (a := x) (by rw [hTh]; exact hx) N
    rw [hFl, hTh] at this
    exact this
  have hrow : ∀ k : Nat, k < N → F.heap[H.size + 1 + k]? = some (vp_cell (cid 9) (K, .inl (fun _ => 0))) := fun k hk => by
    have := Jvm.Free.Multi.fill_inner (T.setVm vm₁) (cid 14) (cid 9) N K (defaultValue .int) N k hk
    rw [hFl, hTh] at this
    rw [this, vp_cell_i]
    exact congrArg some (arrV_new (cid 9) K (defaultValue .int))
  rw [outer_arr] at f2
  have hPF : PH D (pmn cid w H.size N K) F.heap := by
    intro q E hq
    rcases hq with hq | ⟨rfl, rfl⟩ | ⟨k, hk, rfl, rfl⟩
    · exact hP.old hold q E hq
    · show F.heap[H.size]? = some (vp_cell (cid 14) _)
      rw [vp_cell_q]
      exact f2
    · exact hrow k hk
  have hTz : T.heap.size = H.size := by rw [hT]
  obtain ⟨t2, a1, b1⟩ := kk A p l e R s m args below meth c Z F.heap locs lsA hF hR f1 hPF (hS.up (by omega) hold) hL F rfl X'
  refine ⟨t2, step t2 ?_, b1⟩
  rw [hT]
  exact a1
end HMna
