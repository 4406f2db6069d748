section Rows
variable {G : Gl} {cc : ByteArray} {own : String} {nL fr lo : Nat} {rt : Option FieldType} {Φ : Option OV → Mm → Prop} {pc pc' : Nat} {ls : List (Option OV)} {st : List OV} {M : Mm}
theorem wUse {w : Cond} {args : Array Value} {s : State} (h : wOK w = true) (hz : va_Nw w s) : w.before args s = true := by
  cases w with
  | fieldLinkNest a i b n d hh => exact va_Nw.use rfl hz
  | methodLinkNest a i x hh => exact va_Nw.use rfl hz
  | arrayOver t => exact hz
  | arrayClass t => exact hz
  | _ =>
    simp only [wOK, goodWord, Bool.and_eq_true] at h
    exact va_Nw.use h.1 hz
theorem FrOK.use {A : Nat → Prop} {p : Program} {R : Room} {s : State} {m : MethodId} {c : Code} {cells slots : Nat} (hF : FrOK G A cc own nL fr lo p R s m c cells slots) {w : Cond} {args : Array Value} (h : w ∈ lw_tbl) (ho : wOK w = true) : w.before args s = true := wUse ho (hF.2.2.2.2.2.2.2.2.1.2 w h ho)
theorem u_ws_ok {C : String} {T : u_T} {N : Nat} : ∀ w ∈ u_ws C T N, wOK w = true := by
  intro w hw
  obtain ⟨k, -, rfl⟩ := List.mem_map.mp hw
  unfold u_lay
  split <;> rfl

theorem a_iconst {n : Int} {v : Int32} (hd : decode cc pc = .ok (.iconst n, 1)) (hv : Int32.ofInt n = v) (hp : pc + 1 = pc') (kk : AW G cc own nL fr lo rt Φ pc' ls (.inl v :: st) M) : AW G cc own nL fr lo rt Φ pc ls st M := by
  subst hp
  intro A p l e R s m args below meth c cells slots Z H locs lsA hF hR hM hS hL
  exact lv_iconst hF.1 hF.2.1 hd hv (kk A p l e R s m args below meth c cells slots Z H locs lsA hF hR hM hS hL)
theorem a_bipush {n : Int} {v : Int32} (hd : decode cc pc = .ok (.bipush n, 2)) (hv : (Int8.ofInt n).toInt32 = v) (hp : pc + 2 = pc') (kk : AW G cc own nL fr lo rt Φ pc' ls (.inl v :: st) M) : AW G cc own nL fr lo rt Φ pc ls st M := by
  subst hp
  intro A p l e R s m args below meth c cells slots Z H locs lsA hF hR hM hS hL
  exact lv_bipush hF.1 hF.2.1 hd hv (kk A p l e R s m args below meth c cells slots Z H locs lsA hF hR hM hS hL)
theorem a_sipush {n : Int} {v : Int32} (hd : decode cc pc = .ok (.sipush n, 3)) (hv : (Int16.ofInt n).toInt32 = v) (hp : pc + 3 = pc') (kk : AW G cc own nL fr lo rt Φ pc' ls (.inl v :: st) M) : AW G cc own nL fr lo rt Φ pc ls st M := by
  subst hp
  intro A p l e R s m args below meth c cells slots Z H locs lsA hF hR hM hS hL
  exact lv_sipush hF.1 hF.2.1 hd hv (kk A p l e R s m args below meth c cells slots Z H locs lsA hF hR hM hS hL)
theorem a_ldc {index : Nat} {v : Int32} (hd : decode cc pc = .ok (.ldc index, 2)) (hw : Cond.constant own index v ∈ lw_tbl) (hp : pc + 2 = pc') (kk : AW G cc own nL fr lo rt Φ pc' ls (.inl v :: st) M) : AW G cc own nL fr lo rt Φ pc ls st M := by
  subst hp
  intro A p l e R s m args below meth c cells slots Z H locs lsA hF hR hM hS hL
  exact lv_ldc hF.1 hF.2.1 hF.2.2.2.1 (hF.use hw rfl) hd (kk A p l e R s m args below meth c cells slots Z H locs lsA hF hR hM hS hL)
theorem a_ldc_w {index : Nat} {v : Int32} (hd : decode cc pc = .ok (.ldc_w index, 3)) (hw : Cond.constant own index v ∈ lw_tbl) (hp : pc + 3 = pc') (kk : AW G cc own nL fr lo rt Φ pc' ls (.inl v :: st) M) : AW G cc own nL fr lo rt Φ pc ls st M := by
  subst hp
  intro A p l e R s m args below meth c cells slots Z H locs lsA hF hR hM hS hL
  exact lv_ldcw hF.1 hF.2.1 hF.2.2.2.1 (hF.use hw rfl) hd (kk A p l e R s m args below meth c cells slots Z H locs lsA hF hR hM hS hL)
theorem a_iadd {x y : Int32} (hd : decode cc pc = .ok (.iadd, 1)) (hp : pc + 1 = pc') (kk : AW G cc own nL fr lo rt Φ pc' ls (.inl (x + y) :: st) M) : AW G cc own nL fr lo rt Φ pc ls (.inl y :: .inl x :: st) M := by
  subst hp
  intro A p l e R s m args below meth c cells slots Z H locs lsA hF hR hM hS hL
  exact lv_iadd hF.1 hF.2.1 hd (kk A p l e R s m args below meth c cells slots Z H locs lsA hF hR hM hS hL)
theorem a_isub {x y : Int32} (hd : decode cc pc = .ok (.isub, 1)) (hp : pc + 1 = pc') (kk : AW G cc own nL fr lo rt Φ pc' ls (.inl (x - y) :: st) M) : AW G cc own nL fr lo rt Φ pc ls (.inl y :: .inl x :: st) M := by
  subst hp
  intro A p l e R s m args below meth c cells slots Z H locs lsA hF hR hM hS hL
  exact lv_isub hF.1 hF.2.1 hd (kk A p l e R s m args below meth c cells slots Z H locs lsA hF hR hM hS hL)
theorem a_imul {x y : Int32} (hd : decode cc pc = .ok (.imul, 1)) (hp : pc + 1 = pc') (kk : AW G cc own nL fr lo rt Φ pc' ls (.inl (x * y) :: st) M) : AW G cc own nL fr lo rt Φ pc ls (.inl y :: .inl x :: st) M := by
  subst hp
  intro A p l e R s m args below meth c cells slots Z H locs lsA hF hR hM hS hL
  exact lv_imul hF.1 hF.2.1 hd (kk A p l e R s m args below meth c cells slots Z H locs lsA hF hR hM hS hL)
theorem a_iand {x y : Int32} (hd : decode cc pc = .ok (.iand, 1)) (hp : pc + 1 = pc') (kk : AW G cc own nL fr lo rt Φ pc' ls (.inl (x &&& y) :: st) M) : AW G cc own nL fr lo rt Φ pc ls (.inl y :: .inl x :: st) M := by
  subst hp
  intro A p l e R s m args below meth c cells slots Z H locs lsA hF hR hM hS hL
  exact lv_iand hF.1 hF.2.1 hd (kk A p l e R s m args below meth c cells slots Z H locs lsA hF hR hM hS hL)
theorem a_ior {x y : Int32} (hd : decode cc pc = .ok (.ior, 1)) (hp : pc + 1 = pc') (kk : AW G cc own nL fr lo rt Φ pc' ls (.inl (x ||| y) :: st) M) : AW G cc own nL fr lo rt Φ pc ls (.inl y :: .inl x :: st) M := by
  subst hp
  intro A p l e R s m args below meth c cells slots Z H locs lsA hF hR hM hS hL
  exact lv_ior hF.1 hF.2.1 hd (kk A p l e R s m args below meth c cells slots Z H locs lsA hF hR hM hS hL)
theorem a_ixor {x y : Int32} (hd : decode cc pc = .ok (.ixor, 1)) (hp : pc + 1 = pc') (kk : AW G cc own nL fr lo rt Φ pc' ls (.inl (x ^^^ y) :: st) M) : AW G cc own nL fr lo rt Φ pc ls (.inl y :: .inl x :: st) M := by
  subst hp
  intro A p l e R s m args below meth c cells slots Z H locs lsA hF hR hM hS hL
  exact lv_ixor hF.1 hF.2.1 hd (kk A p l e R s m args below meth c cells slots Z H locs lsA hF hR hM hS hL)
theorem a_ishl {x y : Int32} (hd : decode cc pc = .ok (.ishl, 1)) (hp : pc + 1 = pc') (kk : AW G cc own nL fr lo rt Φ pc' ls (.inl (x <<< (y &&& 31)) :: st) M) : AW G cc own nL fr lo rt Φ pc ls (.inl y :: .inl x :: st) M := by
  subst hp
  intro A p l e R s m args below meth c cells slots Z H locs lsA hF hR hM hS hL
  exact lv_ishl hF.1 hF.2.1 hd (kk A p l e R s m args below meth c cells slots Z H locs lsA hF hR hM hS hL)
theorem a_ishr {x y : Int32} (hd : decode cc pc = .ok (.ishr, 1)) (hp : pc + 1 = pc') (kk : AW G cc own nL fr lo rt Φ pc' ls (.inl (x >>> (y &&& 31)) :: st) M) : AW G cc own nL fr lo rt Φ pc ls (.inl y :: .inl x :: st) M := by
  subst hp
  intro A p l e R s m args below meth c cells slots Z H locs lsA hF hR hM hS hL
  exact lv_ishr hF.1 hF.2.1 hd (kk A p l e R s m args below meth c cells slots Z H locs lsA hF hR hM hS hL)
theorem a_idiv {x y : Int32} (hd : decode cc pc = .ok (.idiv, 1)) (hy : ¬ y = 0) (hp : pc + 1 = pc') (kk : AW G cc own nL fr lo rt Φ pc' ls (.inl (x / y) :: st) M) : AW G cc own nL fr lo rt Φ pc ls (.inl y :: .inl x :: st) M := by
  subst hp
  intro A p l e R s m args below meth c cells slots Z H locs lsA hF hR hM hS hL
  exact lv_idiv hF.1 hF.2.1 hd hy (kk A p l e R s m args below meth c cells slots Z H locs lsA hF hR hM hS hL)
theorem a_irem {x y : Int32} (hd : decode cc pc = .ok (.irem, 1)) (hy : ¬ y = 0) (hp : pc + 1 = pc') (kk : AW G cc own nL fr lo rt Φ pc' ls (.inl (x - x / y * y) :: st) M) : AW G cc own nL fr lo rt Φ pc ls (.inl y :: .inl x :: st) M := by
  subst hp
  intro A p l e R s m args below meth c cells slots Z H locs lsA hF hR hM hS hL
  exact lv_irem hF.1 hF.2.1 hd hy (kk A p l e R s m args below meth c cells slots Z H locs lsA hF hR hM hS hL)
theorem a_ineg {x : Int32} (hd : decode cc pc = .ok (.ineg, 1)) (hp : pc + 1 = pc') (kk : AW G cc own nL fr lo rt Φ pc' ls (.inl (-x) :: st) M) : AW G cc own nL fr lo rt Φ pc ls (.inl x :: st) M := by
  subst hp
  intro A p l e R s m args below meth c cells slots Z H locs lsA hF hR hM hS hL
  exact lv_ineg hF.1 hF.2.1 hd (kk A p l e R s m args below meth c cells slots Z H locs lsA hF hR hM hS hL)
theorem a_iushr {x y : Int32} (hd : decode cc pc = .ok (.iushr, 1)) (hp : pc + 1 = pc') (kk : AW G cc own nL fr lo rt Φ pc' ls (.inl ((x.toUInt32 >>> (y.toUInt32 &&& Int32.toUInt32 31)).toInt32) :: st) M) : AW G cc own nL fr lo rt Φ pc ls (.inl y :: .inl x :: st) M := by
  subst hp
  intro A p l e R s m args below meth c cells slots Z H locs lsA hF hR hM hS hL
  exact lv_iushr hF.1 hF.2.1 hd rfl (kk A p l e R s m args below meth c cells slots Z H locs lsA hF hR hM hS hL)
theorem a_i2c {x : Int32} (hd : decode cc pc = .ok (.i2c, 1)) (hp : pc + 1 = pc') (kk : AW G cc own nL fr lo rt Φ pc' ls (.inl ((x.toUInt32 % 65536).toInt32) :: st) M) : AW G cc own nL fr lo rt Φ pc ls (.inl x :: st) M := by
  subst hp
  intro A p l e R s m args below meth c cells slots Z H locs lsA hF hR hM hS hL
  exact lv_i2c hF.1 hF.2.1 hd rfl (kk A p l e R s m args below meth c cells slots Z H locs lsA hF hR hM hS hL)
theorem a_dup {x : OV} (hd : decode cc pc = .ok (.dup, 1)) (hp : pc + 1 = pc') (kk : AW G cc own nL fr lo rt Φ pc' ls (x :: x :: st) M) : AW G cc own nL fr lo rt Φ pc ls (x :: st) M := by
  subst hp
  intro A p l e R s m args below meth c cells slots Z H locs lsA hF hR hM hS hL
  exact lv_dup hF.1 hF.2.1 hd (vlv_cat G x) (kk A p l e R s m args below meth c cells slots Z H locs lsA hF hR hM hS hL)
theorem a_pop {x : OV} (hd : decode cc pc = .ok (.pop, 1)) (hp : pc + 1 = pc') (kk : AW G cc own nL fr lo rt Φ pc' ls st M) : AW G cc own nL fr lo rt Φ pc ls (x :: st) M := by
  subst hp
  intro A p l e R s m args below meth c cells slots Z H locs lsA hF hR hM hS hL
  exact lv_pop hF.1 hF.2.1 hd (vlv_cat G x) (kk A p l e R s m args below meth c cells slots Z H locs lsA hF hR hM hS hL)
theorem a_dup2 {x y : OV} (hd : decode cc pc = .ok (.dup2, 1)) (hp : pc + 1 = pc') (kk : AW G cc own nL fr lo rt Φ pc' ls (x :: y :: x :: y :: st) M) : AW G cc own nL fr lo rt Φ pc ls (x :: y :: st) M := by
  subst hp
  intro A p l e R s m args below meth c cells slots Z H locs lsA hF hR hM hS hL
  exact lv_dup2_11 hF.1 hF.2.1 hd (vlv_cat G x) (vlv_cat G y) (kk A p l e R s m args below meth c cells slots Z H locs lsA hF hR hM hS hL)
theorem a_if_eq {x : Int32} {off : Int} {tgt : Nat} (hd : decode cc pc = .ok (.ifCond .eq off, 3)) (ht : (pc : Int) + off = (tgt : Int)) (hp : pc + 3 = pc') (kt : x = 0 → AW G cc own nL fr lo rt Φ tgt ls st M) (kf : ¬ x = 0 → AW G cc own nL fr lo rt Φ pc' ls st M) : AW G cc own nL fr lo rt Φ pc ls (.inl x :: st) M := by
  subst hp
  intro A p l e R s m args below meth c cells slots Z H locs lsA hF hR hM hS hL
  exact lv_if_eq hF.1 hF.2.1 hd ht (fun z => kt z A p l e R s m args below meth c cells slots Z H locs lsA hF hR hM hS hL) (fun z => kf z A p l e R s m args below meth c cells slots Z H locs lsA hF hR hM hS hL)
theorem a_icmp_eq {x y : Int32} {off : Int} {tgt : Nat} (hd : decode cc pc = .ok (.if_icmp .eq off, 3)) (ht : (pc : Int) + off = (tgt : Int)) (hp : pc + 3 = pc') (kt : x = y → AW G cc own nL fr lo rt Φ tgt ls st M) (kf : ¬ x = y → AW G cc own nL fr lo rt Φ pc' ls st M) : AW G cc own nL fr lo rt Φ pc ls (.inl y :: .inl x :: st) M := by
  subst hp
  intro A p l e R s m args below meth c cells slots Z H locs lsA hF hR hM hS hL
  exact lv_icmp_eq hF.1 hF.2.1 hd ht (fun z => kt z A p l e R s m args below meth c cells slots Z H locs lsA hF hR hM hS hL) (fun z => kf z A p l e R s m args below meth c cells slots Z H locs lsA hF hR hM hS hL)
theorem a_if_ne {x : Int32} {off : Int} {tgt : Nat} (hd : decode cc pc = .ok (.ifCond .ne off, 3)) (ht : (pc : Int) + off = (tgt : Int)) (hp : pc + 3 = pc') (kt : ¬ x = 0 → AW G cc own nL fr lo rt Φ tgt ls st M) (kf : x = 0 → AW G cc own nL fr lo rt Φ pc' ls st M) : AW G cc own nL fr lo rt Φ pc ls (.inl x :: st) M := by
  subst hp
  intro A p l e R s m args below meth c cells slots Z H locs lsA hF hR hM hS hL
  exact lv_if_ne hF.1 hF.2.1 hd ht (fun z => kt z A p l e R s m args below meth c cells slots Z H locs lsA hF hR hM hS hL) (fun z => kf z A p l e R s m args below meth c cells slots Z H locs lsA hF hR hM hS hL)
theorem a_icmp_ne {x y : Int32} {off : Int} {tgt : Nat} (hd : decode cc pc = .ok (.if_icmp .ne off, 3)) (ht : (pc : Int) + off = (tgt : Int)) (hp : pc + 3 = pc') (kt : ¬ x = y → AW G cc own nL fr lo rt Φ tgt ls st M) (kf : x = y → AW G cc own nL fr lo rt Φ pc' ls st M) : AW G cc own nL fr lo rt Φ pc ls (.inl y :: .inl x :: st) M := by
  subst hp
  intro A p l e R s m args below meth c cells slots Z H locs lsA hF hR hM hS hL
  exact lv_icmp_ne hF.1 hF.2.1 hd ht (fun z => kt z A p l e R s m args below meth c cells slots Z H locs lsA hF hR hM hS hL) (fun z => kf z A p l e R s m args below meth c cells slots Z H locs lsA hF hR hM hS hL)
theorem a_if_lt {x : Int32} {off : Int} {tgt : Nat} (hd : decode cc pc = .ok (.ifCond .lt off, 3)) (ht : (pc : Int) + off = (tgt : Int)) (hp : pc + 3 = pc') (kt : x < 0 → AW G cc own nL fr lo rt Φ tgt ls st M) (kf : ¬ x < 0 → AW G cc own nL fr lo rt Φ pc' ls st M) : AW G cc own nL fr lo rt Φ pc ls (.inl x :: st) M := by
  subst hp
  intro A p l e R s m args below meth c cells slots Z H locs lsA hF hR hM hS hL
  exact lv_if_lt hF.1 hF.2.1 hd ht (fun z => kt z A p l e R s m args below meth c cells slots Z H locs lsA hF hR hM hS hL) (fun z => kf z A p l e R s m args below meth c cells slots Z H locs lsA hF hR hM hS hL)
theorem a_icmp_lt {x y : Int32} {off : Int} {tgt : Nat} (hd : decode cc pc = .ok (.if_icmp .lt off, 3)) (ht : (pc : Int) + off = (tgt : Int)) (hp : pc + 3 = pc') (kt : x < y → AW G cc own nL fr lo rt Φ tgt ls st M) (kf : ¬ x < y → AW G cc own nL fr lo rt Φ pc' ls st M) : AW G cc own nL fr lo rt Φ pc ls (.inl y :: .inl x :: st) M := by
  subst hp
  intro A p l e R s m args below meth c cells slots Z H locs lsA hF hR hM hS hL
  exact lv_icmp_lt hF.1 hF.2.1 hd ht (fun z => kt z A p l e R s m args below meth c cells slots Z H locs lsA hF hR hM hS hL) (fun z => kf z A p l e R s m args below meth c cells slots Z H locs lsA hF hR hM hS hL)
theorem a_if_ge {x : Int32} {off : Int} {tgt : Nat} (hd : decode cc pc = .ok (.ifCond .ge off, 3)) (ht : (pc : Int) + off = (tgt : Int)) (hp : pc + 3 = pc') (kt : 0 ≤ x → AW G cc own nL fr lo rt Φ tgt ls st M) (kf : ¬ 0 ≤ x → AW G cc own nL fr lo rt Φ pc' ls st M) : AW G cc own nL fr lo rt Φ pc ls (.inl x :: st) M := by
  subst hp
  intro A p l e R s m args below meth c cells slots Z H locs lsA hF hR hM hS hL
  exact lv_if_ge hF.1 hF.2.1 hd ht (fun z => kt z A p l e R s m args below meth c cells slots Z H locs lsA hF hR hM hS hL) (fun z => kf z A p l e R s m args below meth c cells slots Z H locs lsA hF hR hM hS hL)
theorem a_icmp_ge {x y : Int32} {off : Int} {tgt : Nat} (hd : decode cc pc = .ok (.if_icmp .ge off, 3)) (ht : (pc : Int) + off = (tgt : Int)) (hp : pc + 3 = pc') (kt : y ≤ x → AW G cc own nL fr lo rt Φ tgt ls st M) (kf : ¬ y ≤ x → AW G cc own nL fr lo rt Φ pc' ls st M) : AW G cc own nL fr lo rt Φ pc ls (.inl y :: .inl x :: st) M := by
  subst hp
  intro A p l e R s m args below meth c cells slots Z H locs lsA hF hR hM hS hL
  exact lv_icmp_ge hF.1 hF.2.1 hd ht (fun z => kt z A p l e R s m args below meth c cells slots Z H locs lsA hF hR hM hS hL) (fun z => kf z A p l e R s m args below meth c cells slots Z H locs lsA hF hR hM hS hL)
theorem a_if_gt {x : Int32} {off : Int} {tgt : Nat} (hd : decode cc pc = .ok (.ifCond .gt off, 3)) (ht : (pc : Int) + off = (tgt : Int)) (hp : pc + 3 = pc') (kt : 0 < x → AW G cc own nL fr lo rt Φ tgt ls st M) (kf : ¬ 0 < x → AW G cc own nL fr lo rt Φ pc' ls st M) : AW G cc own nL fr lo rt Φ pc ls (.inl x :: st) M := by
  subst hp
  intro A p l e R s m args below meth c cells slots Z H locs lsA hF hR hM hS hL
  exact lv_if_gt hF.1 hF.2.1 hd ht (fun z => kt z A p l e R s m args below meth c cells slots Z H locs lsA hF hR hM hS hL) (fun z => kf z A p l e R s m args below meth c cells slots Z H locs lsA hF hR hM hS hL)
theorem a_icmp_gt {x y : Int32} {off : Int} {tgt : Nat} (hd : decode cc pc = .ok (.if_icmp .gt off, 3)) (ht : (pc : Int) + off = (tgt : Int)) (hp : pc + 3 = pc') (kt : y < x → AW G cc own nL fr lo rt Φ tgt ls st M) (kf : ¬ y < x → AW G cc own nL fr lo rt Φ pc' ls st M) : AW G cc own nL fr lo rt Φ pc ls (.inl y :: .inl x :: st) M := by
  subst hp
  intro A p l e R s m args below meth c cells slots Z H locs lsA hF hR hM hS hL
  exact lv_icmp_gt hF.1 hF.2.1 hd ht (fun z => kt z A p l e R s m args below meth c cells slots Z H locs lsA hF hR hM hS hL) (fun z => kf z A p l e R s m args below meth c cells slots Z H locs lsA hF hR hM hS hL)
theorem a_if_le {x : Int32} {off : Int} {tgt : Nat} (hd : decode cc pc = .ok (.ifCond .le off, 3)) (ht : (pc : Int) + off = (tgt : Int)) (hp : pc + 3 = pc') (kt : x ≤ 0 → AW G cc own nL fr lo rt Φ tgt ls st M) (kf : ¬ x ≤ 0 → AW G cc own nL fr lo rt Φ pc' ls st M) : AW G cc own nL fr lo rt Φ pc ls (.inl x :: st) M := by
  subst hp
  intro A p l e R s m args below meth c cells slots Z H locs lsA hF hR hM hS hL
  exact lv_if_le hF.1 hF.2.1 hd ht (fun z => kt z A p l e R s m args below meth c cells slots Z H locs lsA hF hR hM hS hL) (fun z => kf z A p l e R s m args below meth c cells slots Z H locs lsA hF hR hM hS hL)
theorem a_icmp_le {x y : Int32} {off : Int} {tgt : Nat} (hd : decode cc pc = .ok (.if_icmp .le off, 3)) (ht : (pc : Int) + off = (tgt : Int)) (hp : pc + 3 = pc') (kt : x ≤ y → AW G cc own nL fr lo rt Φ tgt ls st M) (kf : ¬ x ≤ y → AW G cc own nL fr lo rt Φ pc' ls st M) : AW G cc own nL fr lo rt Φ pc ls (.inl y :: .inl x :: st) M := by
  subst hp
  intro A p l e R s m args below meth c cells slots Z H locs lsA hF hR hM hS hL
  exact lv_icmp_le hF.1 hF.2.1 hd ht (fun z => kt z A p l e R s m args below meth c cells slots Z H locs lsA hF hR hM hS hL) (fun z => kf z A p l e R s m args below meth c cells slots Z H locs lsA hF hR hM hS hL)
theorem a_goto {off : Int} (hd : decode cc pc = .ok (.goto off, 3)) (ht : (pc : Int) + off = (pc' : Int)) (kk : AW G cc own nL fr lo rt Φ pc' ls st M) : AW G cc own nL fr lo rt Φ pc ls st M := by
  intro A p l e R s m args below meth c cells slots Z H locs lsA hF hR hM hS hL
  exact lv_goto hF.1 hF.2.1 hd ht (kk A p l e R s m args below meth c cells slots Z H locs lsA hF hR hM hS hL)
theorem a_tswO {dflt lo1 hi : Int} {offs : Array Int} {len : Nat} {x : Int32} {tgt : Nat} (hd : decode cc pc = .ok (.tableswitch dflt lo1 hi offs, len)) (h : x.toInt < lo1 ∨ hi < x.toInt) (ht : (pc : Int) + dflt = (tgt : Int)) (kk : AW G cc own nL fr lo rt Φ tgt ls st M) : AW G cc own nL fr lo rt Φ pc ls (.inl x :: st) M := by
  intro A p l e R s m args below meth c cells slots Z H locs lsA hF hR hM hS hL
  exact lv_tableOut hF.1 hF.2.1 hd h ht (kk A p l e R s m args below meth c cells slots Z H locs lsA hF hR hM hS hL)
theorem a_tswI {dflt lo1 hi : Int} {offs : Array Int} {len : Nat} {x : Int32} {off : Int} {tgt : Nat} (hd : decode cc pc = .ok (.tableswitch dflt lo1 hi offs, len)) (h1 : ¬ x.toInt < lo1) (h2 : ¬ hi < x.toInt) (ho : offs[(x.toInt - lo1).toNat]? = some off) (ht : (pc : Int) + off = (tgt : Int)) (kk : AW G cc own nL fr lo rt Φ tgt ls st M) : AW G cc own nL fr lo rt Φ pc ls (.inl x :: st) M := by
  intro A p l e R s m args below meth c cells slots Z H locs lsA hF hR hM hS hL
  exact lv_tableIn hF.1 hF.2.1 hd h1 h2 ho ht (kk A p l e R s m args below meth c cells slots Z H locs lsA hF hR hM hS hL)
theorem a_lsw {dflt : Int} {ps : Array (Int × Int)} {len : Nat} {x : Int32} {off : Int} {tgt : Nat} (hd : decode cc pc = .ok (.lookupswitch dflt ps, len)) (hq : (ps.toList.zip (ps.toList.drop 1)).all (fun (a, next) => a.1 < next.1) = true) (ho : Op.lookupswitch.offset ps.toList dflt x.toInt = off) (ht : (pc : Int) + off = (tgt : Int)) (kk : AW G cc own nL fr lo rt Φ tgt ls st M) : AW G cc own nL fr lo rt Φ pc ls (.inl x :: st) M := by
  intro A p l e R s m args below meth c cells slots Z H locs lsA hF hR hM hS hL
  exact lv_lookup hF.1 hF.2.1 hd hq ho ht (kk A p l e R s m args below meth c cells slots Z H locs lsA hF hR hM hS hL)
theorem a_ild {i : Nat} {x : Int32} (hd : (∃ k : Fin 4, (k : Nat) = i ∧ decode cc pc = .ok (.iload_n k, 1) ∧ pc + 1 = pc') ∨ (decode cc pc = .ok (.iload i, 2) ∧ pc + 2 = pc')) (hl : ls[i]? = some (some (.inl x))) (kk : AW G cc own nL fr lo rt Φ pc' ls (.inl x :: st) M) : AW G cc own nL fr lo rt Φ pc ls st M := by
  intro A p l e R s m args below meth c cells slots Z H locs lsA hF hR hM hS hL
  rcases hd with ⟨k, hk, hd, rfl⟩ | ⟨hd, rfl⟩
  · exact lv_iload_n hF.1 hF.2.1 hd hk (hL.2.2.2 i _ hl) (kk A p l e R s m args below meth c cells slots Z H locs lsA hF hR hM hS hL)
  · exact lv_iload hF.1 hF.2.1 hd (hL.2.2.2 i _ hl) (kk A p l e R s m args below meth c cells slots Z H locs lsA hF hR hM hS hL)
theorem a_ald {i : Nat} {x : Obj} (hd : (∃ k : Fin 4, (k : Nat) = i ∧ decode cc pc = .ok (.aload_n k, 1) ∧ pc + 1 = pc') ∨ (decode cc pc = .ok (.aload i, 2) ∧ pc + 2 = pc')) (hl : ls[i]? = some (some (.inr x))) (kk : AW G cc own nL fr lo rt Φ pc' ls (.inr x :: st) M) : AW G cc own nL fr lo rt Φ pc ls st M := by
  intro A p l e R s m args below meth c cells slots Z H locs lsA hF hR hM hS hL
  rcases hd with ⟨k, hk, hd, rfl⟩ | ⟨hd, rfl⟩
  · exact lv_aload_n hF.1 hF.2.1 hd hk (hL.2.2.2 i _ hl) (kk A p l e R s m args below meth c cells slots Z H locs lsA hF hR hM hS hL)
  · exact lv_aload hF.1 hF.2.1 hd (hL.2.2.2 i _ hl) (kk A p l e R s m args below meth c cells slots Z H locs lsA hF hR hM hS hL)
theorem w_istore {p : Program} {l : Launch} {e : Env} {R : Room} {s : State} {m : MethodId} {args : Array Value} {below : List Frame} {meth : Method} {c : Code} {H : Heap} {locs : List Loc} {cells slots : Nat} {Q : State → Prop} {lsA lsB : Array Slot} {rest : List Value} (hexec : p.tables.exec = Jvm.exec) (hb : c.code = cc) {i : Nat} {x : Int32} (hd : (∃ k : Fin 4, (k : Nat) = i ∧ decode cc pc = .ok (.istore_n k, 1) ∧ pc + 1 = pc') ∨ (decode cc pc = .ok (.istore i, 2) ∧ pc + 2 = pc')) (hs : storeLocals lsA i (.int x) = some lsB)
    (k : W p l e R s m args below meth c H locs cells slots Q (F0 m pc' lsB rest)) : W p l e R s m args below meth c H locs cells slots Q (F0 m pc lsA (.int x :: rest)) := by
  intro T hT X
  obtain ⟨t, a, b⟩ := k T hT X
  refine ⟨t, ?_, b⟩
  rcases hd with ⟨k, rfl, hd, rfl⟩ | ⟨hd, rfl⟩
  · jvm_step X.here [X.here.top, hexec, hb, hd, hs]
    exact a
  · jvm_step X.here [X.here.top, hexec, hb, hd, hs]
    exact a
theorem w_astore {p : Program} {l : Launch} {e : Env} {R : Room} {s : State} {m : MethodId} {args : Array Value} {below : List Frame} {meth : Method} {c : Code} {H : Heap} {locs : List Loc} {cells slots : Nat} {Q : State → Prop} {lsA lsB : Array Slot} {rest : List Value} (hexec : p.tables.exec = Jvm.exec) (hb : c.code = cc) {i : Nat} {x : Nat} (hd : (∃ k : Fin 4, (k : Nat) = i ∧ decode cc pc = .ok (.astore_n k, 1) ∧ pc + 1 = pc') ∨ (decode cc pc = .ok (.astore i, 2) ∧ pc + 2 = pc')) (hs : storeLocals lsA i (.ref x) = some lsB)
    (k : W p l e R s m args below meth c H locs cells slots Q (F0 m pc' lsB rest)) : W p l e R s m args below meth c H locs cells slots Q (F0 m pc lsA (.ref x :: rest)) := by
  intro T hT X
  obtain ⟨t, a, b⟩ := k T hT X
  refine ⟨t, ?_, b⟩
  rcases hd with ⟨k, rfl, hd, rfl⟩ | ⟨hd, rfl⟩
  · jvm_step X.here [X.here.top, hexec, hb, hd, hs]
    exact ⟨rfl, a⟩
  · jvm_step X.here [X.here.top, hexec, hb, hd, hs]
    exact ⟨rfl, a⟩
theorem w_iinc {p : Program} {l : Launch} {e : Env} {R : Room} {s : State} {m : MethodId} {args : Array Value} {below : List Frame} {meth : Method} {c : Code} {H : Heap} {locs : List Loc} {cells slots : Nat} {Q : State → Prop} {lsA lsB : Array Slot} {rest : List Value} (hexec : p.tables.exec = Jvm.exec) (hb : c.code = cc) {i : Nat} {n : Int} {x : Int32} (hd : decode cc pc = .ok (.iinc i n, 3)) (hl : lsA[i]? = some (.val (.int x))) (hs : storeLocals lsA i (.int (x + Int32.ofInt n)) = some lsB)
    (k : W p l e R s m args below meth c H locs cells slots Q (F0 m (pc + 3) lsB rest)) : W p l e R s m args below meth c H locs cells slots Q (F0 m pc lsA rest) := by
  intro T hT X
  obtain ⟨t, a, b⟩ := k T hT X
  refine ⟨t, ?_, b⟩
  jvm_step X.here [X.here.top, hexec, hb, hd, hl, hs]
  exact a
theorem a_ist {i : Nat} {x : Int32} (hi : i < nL) (hd : (∃ k : Fin 4, (k : Nat) = i ∧ decode cc pc = .ok (.istore_n k, 1) ∧ pc + 1 = pc') ∨ (decode cc pc = .ok (.istore i, 2) ∧ pc + 2 = pc')) (kk : AW G cc own nL fr lo rt Φ pc' (ls.set i (some (.inl x))) st M) : AW G cc own nL fr lo rt Φ pc ls (.inl x :: st) M := by
  intro A p l e R s m args below meth c cells slots Z H locs lsA hF hR hM hS hL
  obtain ⟨lsB, e1, hL2⟩ := hL.set hi (.inl x)
  exact w_istore hF.1 hF.2.1 hd e1 (kk A p l e R s m args below meth c cells slots Z H locs lsB hF hR hM hS hL2)
theorem a_ast {i : Nat} {x : Obj} (hi : i < nL) (hd : (∃ k : Fin 4, (k : Nat) = i ∧ decode cc pc = .ok (.astore_n k, 1) ∧ pc + 1 = pc') ∨ (decode cc pc = .ok (.astore i, 2) ∧ pc + 2 = pc')) (kk : AW G cc own nL fr lo rt Φ pc' (ls.set i (some (.inr x))) st M) : AW G cc own nL fr lo rt Φ pc ls (.inr x :: st) M := by
  intro A p l e R s m args below meth c cells slots Z H locs lsA hF hR hM hS hL
  obtain ⟨lsB, e1, hL2⟩ := hL.set hi (.inr x)
  exact w_astore hF.1 hF.2.1 hd e1 (kk A p l e R s m args below meth c cells slots Z H locs lsB hF hR hM hS hL2)
theorem a_inc {i : Nat} {n : Int} {x y : Int32} (hi : i < nL) (hd : decode cc pc = .ok (.iinc i n, 3)) (hl : ls[i]? = some (some (.inl x))) (hv : x + Int32.ofInt n = y) (hp : pc + 3 = pc') (kk : AW G cc own nL fr lo rt Φ pc' (ls.set i (some (.inl y))) st M) : AW G cc own nL fr lo rt Φ pc ls st M := by
  subst hp
  subst hv
  intro A p l e R s m args below meth c cells slots Z H locs lsA hF hR hM hS hL
  obtain ⟨lsB, e1, hL2⟩ := hL.set hi (.inl (x + Int32.ofInt n))
  exact w_iinc hF.1 hF.2.1 hd (hL.2.2.2 i _ hl) e1 (kk A p l e R s m args below meth c cells slots Z H locs lsB hF hR hM hS hL2)
theorem a_al_0_1 {x : Obj} (hd : decode cc pc = .ok (.aload_n 0, 1)) (hp : pc + 1 = pc') (kk : AW G cc own 1 fr lo rt Φ pc' [some (.inr x)] (.inr x :: st) M) : AW G cc own 1 fr lo rt Φ pc [some (.inr x)] st M := a_ald (i := 0) (Or.inl ⟨0, rfl, hd, hp⟩) rfl kk
theorem a_al_0_2 {x1 : Option OV} {x : Obj} (hd : decode cc pc = .ok (.aload_n 0, 1)) (hp : pc + 1 = pc') (kk : AW G cc own 2 fr lo rt Φ pc' [some (.inr x), x1] (.inr x :: st) M) : AW G cc own 2 fr lo rt Φ pc [some (.inr x), x1] st M := a_ald (i := 0) (Or.inl ⟨0, rfl, hd, hp⟩) rfl kk
theorem a_al_0_3 {x1 x2 : Option OV} {x : Obj} (hd : decode cc pc = .ok (.aload_n 0, 1)) (hp : pc + 1 = pc') (kk : AW G cc own 3 fr lo rt Φ pc' [some (.inr x), x1, x2] (.inr x :: st) M) : AW G cc own 3 fr lo rt Φ pc [some (.inr x), x1, x2] st M := a_ald (i := 0) (Or.inl ⟨0, rfl, hd, hp⟩) rfl kk
theorem a_al_0_4 {x1 x2 x3 : Option OV} {x : Obj} (hd : decode cc pc = .ok (.aload_n 0, 1)) (hp : pc + 1 = pc') (kk : AW G cc own 4 fr lo rt Φ pc' [some (.inr x), x1, x2, x3] (.inr x :: st) M) : AW G cc own 4 fr lo rt Φ pc [some (.inr x), x1, x2, x3] st M := a_ald (i := 0) (Or.inl ⟨0, rfl, hd, hp⟩) rfl kk
theorem a_al_0_5 {x1 x2 x3 x4 : Option OV} {x : Obj} (hd : decode cc pc = .ok (.aload_n 0, 1)) (hp : pc + 1 = pc') (kk : AW G cc own 5 fr lo rt Φ pc' [some (.inr x), x1, x2, x3, x4] (.inr x :: st) M) : AW G cc own 5 fr lo rt Φ pc [some (.inr x), x1, x2, x3, x4] st M := a_ald (i := 0) (Or.inl ⟨0, rfl, hd, hp⟩) rfl kk
theorem a_al_0_6 {x1 x2 x3 x4 x5 : Option OV} {x : Obj} (hd : decode cc pc = .ok (.aload_n 0, 1)) (hp : pc + 1 = pc') (kk : AW G cc own 6 fr lo rt Φ pc' [some (.inr x), x1, x2, x3, x4, x5] (.inr x :: st) M) : AW G cc own 6 fr lo rt Φ pc [some (.inr x), x1, x2, x3, x4, x5] st M := a_ald (i := 0) (Or.inl ⟨0, rfl, hd, hp⟩) rfl kk
theorem a_al_0_7 {x1 x2 x3 x4 x5 x6 : Option OV} {x : Obj} (hd : decode cc pc = .ok (.aload_n 0, 1)) (hp : pc + 1 = pc') (kk : AW G cc own 7 fr lo rt Φ pc' [some (.inr x), x1, x2, x3, x4, x5, x6] (.inr x :: st) M) : AW G cc own 7 fr lo rt Φ pc [some (.inr x), x1, x2, x3, x4, x5, x6] st M := a_ald (i := 0) (Or.inl ⟨0, rfl, hd, hp⟩) rfl kk
theorem a_al_0_9 {x1 x2 x3 x4 x5 x6 x7 x8 : Option OV} {x : Obj} (hd : decode cc pc = .ok (.aload_n 0, 1)) (hp : pc + 1 = pc') (kk : AW G cc own 9 fr lo rt Φ pc' [some (.inr x), x1, x2, x3, x4, x5, x6, x7, x8] (.inr x :: st) M) : AW G cc own 9 fr lo rt Φ pc [some (.inr x), x1, x2, x3, x4, x5, x6, x7, x8] st M := a_ald (i := 0) (Or.inl ⟨0, rfl, hd, hp⟩) rfl kk
theorem a_al_0_11 {x1 x2 x3 x4 x5 x6 x7 x8 x9 x10 : Option OV} {x : Obj} (hd : decode cc pc = .ok (.aload_n 0, 1)) (hp : pc + 1 = pc') (kk : AW G cc own 11 fr lo rt Φ pc' [some (.inr x), x1, x2, x3, x4, x5, x6, x7, x8, x9, x10] (.inr x :: st) M) : AW G cc own 11 fr lo rt Φ pc [some (.inr x), x1, x2, x3, x4, x5, x6, x7, x8, x9, x10] st M := a_ald (i := 0) (Or.inl ⟨0, rfl, hd, hp⟩) rfl kk
theorem a_al_1_2 {x0 : Option OV} {x : Obj} (hd : decode cc pc = .ok (.aload_n 1, 1)) (hp : pc + 1 = pc') (kk : AW G cc own 2 fr lo rt Φ pc' [x0, some (.inr x)] (.inr x :: st) M) : AW G cc own 2 fr lo rt Φ pc [x0, some (.inr x)] st M := a_ald (i := 1) (Or.inl ⟨1, rfl, hd, hp⟩) rfl kk
theorem a_al_1_3 {x0 x2 : Option OV} {x : Obj} (hd : decode cc pc = .ok (.aload_n 1, 1)) (hp : pc + 1 = pc') (kk : AW G cc own 3 fr lo rt Φ pc' [x0, some (.inr x), x2] (.inr x :: st) M) : AW G cc own 3 fr lo rt Φ pc [x0, some (.inr x), x2] st M := a_ald (i := 1) (Or.inl ⟨1, rfl, hd, hp⟩) rfl kk
theorem a_al_1_4 {x0 x2 x3 : Option OV} {x : Obj} (hd : decode cc pc = .ok (.aload_n 1, 1)) (hp : pc + 1 = pc') (kk : AW G cc own 4 fr lo rt Φ pc' [x0, some (.inr x), x2, x3] (.inr x :: st) M) : AW G cc own 4 fr lo rt Φ pc [x0, some (.inr x), x2, x3] st M := a_ald (i := 1) (Or.inl ⟨1, rfl, hd, hp⟩) rfl kk
theorem a_al_2_3 {x0 x1 : Option OV} {x : Obj} (hd : decode cc pc = .ok (.aload_n 2, 1)) (hp : pc + 1 = pc') (kk : AW G cc own 3 fr lo rt Φ pc' [x0, x1, some (.inr x)] (.inr x :: st) M) : AW G cc own 3 fr lo rt Φ pc [x0, x1, some (.inr x)] st M := a_ald (i := 2) (Or.inl ⟨2, rfl, hd, hp⟩) rfl kk
theorem a_al_2_4 {x0 x1 x3 : Option OV} {x : Obj} (hd : decode cc pc = .ok (.aload_n 2, 1)) (hp : pc + 1 = pc') (kk : AW G cc own 4 fr lo rt Φ pc' [x0, x1, some (.inr x), x3] (.inr x :: st) M) : AW G cc own 4 fr lo rt Φ pc [x0, x1, some (.inr x), x3] st M := a_ald (i := 2) (Or.inl ⟨2, rfl, hd, hp⟩) rfl kk
theorem a_al_2_5 {x0 x1 x3 x4 : Option OV} {x : Obj} (hd : decode cc pc = .ok (.aload_n 2, 1)) (hp : pc + 1 = pc') (kk : AW G cc own 5 fr lo rt Φ pc' [x0, x1, some (.inr x), x3, x4] (.inr x :: st) M) : AW G cc own 5 fr lo rt Φ pc [x0, x1, some (.inr x), x3, x4] st M := a_ald (i := 2) (Or.inl ⟨2, rfl, hd, hp⟩) rfl kk
theorem a_al_2_6 {x0 x1 x3 x4 x5 : Option OV} {x : Obj} (hd : decode cc pc = .ok (.aload_n 2, 1)) (hp : pc + 1 = pc') (kk : AW G cc own 6 fr lo rt Φ pc' [x0, x1, some (.inr x), x3, x4, x5] (.inr x :: st) M) : AW G cc own 6 fr lo rt Φ pc [x0, x1, some (.inr x), x3, x4, x5] st M := a_ald (i := 2) (Or.inl ⟨2, rfl, hd, hp⟩) rfl kk
theorem a_al_3_4 {x0 x1 x2 : Option OV} {x : Obj} (hd : decode cc pc = .ok (.aload_n 3, 1)) (hp : pc + 1 = pc') (kk : AW G cc own 4 fr lo rt Φ pc' [x0, x1, x2, some (.inr x)] (.inr x :: st) M) : AW G cc own 4 fr lo rt Φ pc [x0, x1, x2, some (.inr x)] st M := a_ald (i := 3) (Or.inl ⟨3, rfl, hd, hp⟩) rfl kk
theorem a_al_3_5 {x0 x1 x2 x4 : Option OV} {x : Obj} (hd : decode cc pc = .ok (.aload_n 3, 1)) (hp : pc + 1 = pc') (kk : AW G cc own 5 fr lo rt Φ pc' [x0, x1, x2, some (.inr x), x4] (.inr x :: st) M) : AW G cc own 5 fr lo rt Φ pc [x0, x1, x2, some (.inr x), x4] st M := a_ald (i := 3) (Or.inl ⟨3, rfl, hd, hp⟩) rfl kk
theorem a_al_4_5 {x0 x1 x2 x3 : Option OV} {x : Obj} (hd : decode cc pc = .ok (.aload 4, 2)) (hp : pc + 2 = pc') (kk : AW G cc own 5 fr lo rt Φ pc' [x0, x1, x2, x3, some (.inr x)] (.inr x :: st) M) : AW G cc own 5 fr lo rt Φ pc [x0, x1, x2, x3, some (.inr x)] st M := a_ald (i := 4) (Or.inr ⟨hd, hp⟩) rfl kk
theorem a_al_5_6 {x0 x1 x2 x3 x4 : Option OV} {x : Obj} (hd : decode cc pc = .ok (.aload 5, 2)) (hp : pc + 2 = pc') (kk : AW G cc own 6 fr lo rt Φ pc' [x0, x1, x2, x3, x4, some (.inr x)] (.inr x :: st) M) : AW G cc own 6 fr lo rt Φ pc [x0, x1, x2, x3, x4, some (.inr x)] st M := a_ald (i := 5) (Or.inr ⟨hd, hp⟩) rfl kk
theorem a_al_5_7 {x0 x1 x2 x3 x4 x6 : Option OV} {x : Obj} (hd : decode cc pc = .ok (.aload 5, 2)) (hp : pc + 2 = pc') (kk : AW G cc own 7 fr lo rt Φ pc' [x0, x1, x2, x3, x4, some (.inr x), x6] (.inr x :: st) M) : AW G cc own 7 fr lo rt Φ pc [x0, x1, x2, x3, x4, some (.inr x), x6] st M := a_ald (i := 5) (Or.inr ⟨hd, hp⟩) rfl kk
theorem a_al_7_11 {x0 x1 x2 x3 x4 x5 x6 x8 x9 x10 : Option OV} {x : Obj} (hd : decode cc pc = .ok (.aload 7, 2)) (hp : pc + 2 = pc') (kk : AW G cc own 11 fr lo rt Φ pc' [x0, x1, x2, x3, x4, x5, x6, some (.inr x), x8, x9, x10] (.inr x :: st) M) : AW G cc own 11 fr lo rt Φ pc [x0, x1, x2, x3, x4, x5, x6, some (.inr x), x8, x9, x10] st M := a_ald (i := 7) (Or.inr ⟨hd, hp⟩) rfl kk
theorem a_as_1_4 {x0 x2 x3 : Option OV} {y : Option OV} {x : Obj} (hd : decode cc pc = .ok (.astore_n 1, 1)) (hp : pc + 1 = pc') (kk : AW G cc own 4 fr lo rt Φ pc' [x0, some (.inr x), x2, x3] st M) : AW G cc own 4 fr lo rt Φ pc [x0, y, x2, x3] (.inr x :: st) M := a_ast (i := 1) (by decide) (Or.inl ⟨1, rfl, hd, hp⟩) kk
theorem a_as_2_3 {x0 x1 : Option OV} {y : Option OV} {x : Obj} (hd : decode cc pc = .ok (.astore_n 2, 1)) (hp : pc + 1 = pc') (kk : AW G cc own 3 fr lo rt Φ pc' [x0, x1, some (.inr x)] st M) : AW G cc own 3 fr lo rt Φ pc [x0, x1, y] (.inr x :: st) M := a_ast (i := 2) (by decide) (Or.inl ⟨2, rfl, hd, hp⟩) kk
theorem a_as_2_4 {x0 x1 x3 : Option OV} {y : Option OV} {x : Obj} (hd : decode cc pc = .ok (.astore_n 2, 1)) (hp : pc + 1 = pc') (kk : AW G cc own 4 fr lo rt Φ pc' [x0, x1, some (.inr x), x3] st M) : AW G cc own 4 fr lo rt Φ pc [x0, x1, y, x3] (.inr x :: st) M := a_ast (i := 2) (by decide) (Or.inl ⟨2, rfl, hd, hp⟩) kk
theorem a_as_2_5 {x0 x1 x3 x4 : Option OV} {y : Option OV} {x : Obj} (hd : decode cc pc = .ok (.astore_n 2, 1)) (hp : pc + 1 = pc') (kk : AW G cc own 5 fr lo rt Φ pc' [x0, x1, some (.inr x), x3, x4] st M) : AW G cc own 5 fr lo rt Φ pc [x0, x1, y, x3, x4] (.inr x :: st) M := a_ast (i := 2) (by decide) (Or.inl ⟨2, rfl, hd, hp⟩) kk
theorem a_as_3_4 {x0 x1 x2 : Option OV} {y : Option OV} {x : Obj} (hd : decode cc pc = .ok (.astore_n 3, 1)) (hp : pc + 1 = pc') (kk : AW G cc own 4 fr lo rt Φ pc' [x0, x1, x2, some (.inr x)] st M) : AW G cc own 4 fr lo rt Φ pc [x0, x1, x2, y] (.inr x :: st) M := a_ast (i := 3) (by decide) (Or.inl ⟨3, rfl, hd, hp⟩) kk
theorem a_as_3_5 {x0 x1 x2 x4 : Option OV} {y : Option OV} {x : Obj} (hd : decode cc pc = .ok (.astore_n 3, 1)) (hp : pc + 1 = pc') (kk : AW G cc own 5 fr lo rt Φ pc' [x0, x1, x2, some (.inr x), x4] st M) : AW G cc own 5 fr lo rt Φ pc [x0, x1, x2, y, x4] (.inr x :: st) M := a_ast (i := 3) (by decide) (Or.inl ⟨3, rfl, hd, hp⟩) kk
theorem a_as_4_5 {x0 x1 x2 x3 : Option OV} {y : Option OV} {x : Obj} (hd : decode cc pc = .ok (.astore 4, 2)) (hp : pc + 2 = pc') (kk : AW G cc own 5 fr lo rt Φ pc' [x0, x1, x2, x3, some (.inr x)] st M) : AW G cc own 5 fr lo rt Φ pc [x0, x1, x2, x3, y] (.inr x :: st) M := a_ast (i := 4) (by decide) (Or.inr ⟨hd, hp⟩) kk
theorem a_as_5_6 {x0 x1 x2 x3 x4 : Option OV} {y : Option OV} {x : Obj} (hd : decode cc pc = .ok (.astore 5, 2)) (hp : pc + 2 = pc') (kk : AW G cc own 6 fr lo rt Φ pc' [x0, x1, x2, x3, x4, some (.inr x)] st M) : AW G cc own 6 fr lo rt Φ pc [x0, x1, x2, x3, x4, y] (.inr x :: st) M := a_ast (i := 5) (by decide) (Or.inr ⟨hd, hp⟩) kk
theorem a_as_5_7 {x0 x1 x2 x3 x4 x6 : Option OV} {y : Option OV} {x : Obj} (hd : decode cc pc = .ok (.astore 5, 2)) (hp : pc + 2 = pc') (kk : AW G cc own 7 fr lo rt Φ pc' [x0, x1, x2, x3, x4, some (.inr x), x6] st M) : AW G cc own 7 fr lo rt Φ pc [x0, x1, x2, x3, x4, y, x6] (.inr x :: st) M := a_ast (i := 5) (by decide) (Or.inr ⟨hd, hp⟩) kk
theorem a_as_7_11 {x0 x1 x2 x3 x4 x5 x6 x8 x9 x10 : Option OV} {y : Option OV} {x : Obj} (hd : decode cc pc = .ok (.astore 7, 2)) (hp : pc + 2 = pc') (kk : AW G cc own 11 fr lo rt Φ pc' [x0, x1, x2, x3, x4, x5, x6, some (.inr x), x8, x9, x10] st M) : AW G cc own 11 fr lo rt Φ pc [x0, x1, x2, x3, x4, x5, x6, y, x8, x9, x10] (.inr x :: st) M := a_ast (i := 7) (by decide) (Or.inr ⟨hd, hp⟩) kk
theorem a_in_1_2 {x0 : Option OV} {x c9 : Int32} {n9 : Int} (hd : decode cc pc = .ok (.iinc 1 n9, 3)) (hv : Int32.ofInt n9 = c9) (hp : pc + 3 = pc') (kk : AW G cc own 2 fr lo rt Φ pc' [x0, some (.inl (x + c9))] st M) : AW G cc own 2 fr lo rt Φ pc [x0, some (.inl x)] st M := a_inc (i := 1) (by decide) hd rfl (by rw [hv]) hp kk
theorem a_in_1_3 {x0 x2 : Option OV} {x c9 : Int32} {n9 : Int} (hd : decode cc pc = .ok (.iinc 1 n9, 3)) (hv : Int32.ofInt n9 = c9) (hp : pc + 3 = pc') (kk : AW G cc own 3 fr lo rt Φ pc' [x0, some (.inl (x + c9)), x2] st M) : AW G cc own 3 fr lo rt Φ pc [x0, some (.inl x), x2] st M := a_inc (i := 1) (by decide) hd rfl (by rw [hv]) hp kk
theorem a_in_1_4 {x0 x2 x3 : Option OV} {x c9 : Int32} {n9 : Int} (hd : decode cc pc = .ok (.iinc 1 n9, 3)) (hv : Int32.ofInt n9 = c9) (hp : pc + 3 = pc') (kk : AW G cc own 4 fr lo rt Φ pc' [x0, some (.inl (x + c9)), x2, x3] st M) : AW G cc own 4 fr lo rt Φ pc [x0, some (.inl x), x2, x3] st M := a_inc (i := 1) (by decide) hd rfl (by rw [hv]) hp kk
theorem a_in_1_5 {x0 x2 x3 x4 : Option OV} {x c9 : Int32} {n9 : Int} (hd : decode cc pc = .ok (.iinc 1 n9, 3)) (hv : Int32.ofInt n9 = c9) (hp : pc + 3 = pc') (kk : AW G cc own 5 fr lo rt Φ pc' [x0, some (.inl (x + c9)), x2, x3, x4] st M) : AW G cc own 5 fr lo rt Φ pc [x0, some (.inl x), x2, x3, x4] st M := a_inc (i := 1) (by decide) hd rfl (by rw [hv]) hp kk
theorem a_in_2_3 {x0 x1 : Option OV} {x c9 : Int32} {n9 : Int} (hd : decode cc pc = .ok (.iinc 2 n9, 3)) (hv : Int32.ofInt n9 = c9) (hp : pc + 3 = pc') (kk : AW G cc own 3 fr lo rt Φ pc' [x0, x1, some (.inl (x + c9))] st M) : AW G cc own 3 fr lo rt Φ pc [x0, x1, some (.inl x)] st M := a_inc (i := 2) (by decide) hd rfl (by rw [hv]) hp kk
theorem a_in_2_4 {x0 x1 x3 : Option OV} {x c9 : Int32} {n9 : Int} (hd : decode cc pc = .ok (.iinc 2 n9, 3)) (hv : Int32.ofInt n9 = c9) (hp : pc + 3 = pc') (kk : AW G cc own 4 fr lo rt Φ pc' [x0, x1, some (.inl (x + c9)), x3] st M) : AW G cc own 4 fr lo rt Φ pc [x0, x1, some (.inl x), x3] st M := a_inc (i := 2) (by decide) hd rfl (by rw [hv]) hp kk
theorem a_in_2_5 {x0 x1 x3 x4 : Option OV} {x c9 : Int32} {n9 : Int} (hd : decode cc pc = .ok (.iinc 2 n9, 3)) (hv : Int32.ofInt n9 = c9) (hp : pc + 3 = pc') (kk : AW G cc own 5 fr lo rt Φ pc' [x0, x1, some (.inl (x + c9)), x3, x4] st M) : AW G cc own 5 fr lo rt Φ pc [x0, x1, some (.inl x), x3, x4] st M := a_inc (i := 2) (by decide) hd rfl (by rw [hv]) hp kk
theorem a_in_2_7 {x0 x1 x3 x4 x5 x6 : Option OV} {x c9 : Int32} {n9 : Int} (hd : decode cc pc = .ok (.iinc 2 n9, 3)) (hv : Int32.ofInt n9 = c9) (hp : pc + 3 = pc') (kk : AW G cc own 7 fr lo rt Φ pc' [x0, x1, some (.inl (x + c9)), x3, x4, x5, x6] st M) : AW G cc own 7 fr lo rt Φ pc [x0, x1, some (.inl x), x3, x4, x5, x6] st M := a_inc (i := 2) (by decide) hd rfl (by rw [hv]) hp kk
theorem a_in_3_4 {x0 x1 x2 : Option OV} {x c9 : Int32} {n9 : Int} (hd : decode cc pc = .ok (.iinc 3 n9, 3)) (hv : Int32.ofInt n9 = c9) (hp : pc + 3 = pc') (kk : AW G cc own 4 fr lo rt Φ pc' [x0, x1, x2, some (.inl (x + c9))] st M) : AW G cc own 4 fr lo rt Φ pc [x0, x1, x2, some (.inl x)] st M := a_inc (i := 3) (by decide) hd rfl (by rw [hv]) hp kk
theorem a_in_3_5 {x0 x1 x2 x4 : Option OV} {x c9 : Int32} {n9 : Int} (hd : decode cc pc = .ok (.iinc 3 n9, 3)) (hv : Int32.ofInt n9 = c9) (hp : pc + 3 = pc') (kk : AW G cc own 5 fr lo rt Φ pc' [x0, x1, x2, some (.inl (x + c9)), x4] st M) : AW G cc own 5 fr lo rt Φ pc [x0, x1, x2, some (.inl x), x4] st M := a_inc (i := 3) (by decide) hd rfl (by rw [hv]) hp kk
theorem a_in_3_6 {x0 x1 x2 x4 x5 : Option OV} {x c9 : Int32} {n9 : Int} (hd : decode cc pc = .ok (.iinc 3 n9, 3)) (hv : Int32.ofInt n9 = c9) (hp : pc + 3 = pc') (kk : AW G cc own 6 fr lo rt Φ pc' [x0, x1, x2, some (.inl (x + c9)), x4, x5] st M) : AW G cc own 6 fr lo rt Φ pc [x0, x1, x2, some (.inl x), x4, x5] st M := a_inc (i := 3) (by decide) hd rfl (by rw [hv]) hp kk
theorem a_in_4_5 {x0 x1 x2 x3 : Option OV} {x c9 : Int32} {n9 : Int} (hd : decode cc pc = .ok (.iinc 4 n9, 3)) (hv : Int32.ofInt n9 = c9) (hp : pc + 3 = pc') (kk : AW G cc own 5 fr lo rt Φ pc' [x0, x1, x2, x3, some (.inl (x + c9))] st M) : AW G cc own 5 fr lo rt Φ pc [x0, x1, x2, x3, some (.inl x)] st M := a_inc (i := 4) (by decide) hd rfl (by rw [hv]) hp kk
theorem a_in_4_6 {x0 x1 x2 x3 x5 : Option OV} {x c9 : Int32} {n9 : Int} (hd : decode cc pc = .ok (.iinc 4 n9, 3)) (hv : Int32.ofInt n9 = c9) (hp : pc + 3 = pc') (kk : AW G cc own 6 fr lo rt Φ pc' [x0, x1, x2, x3, some (.inl (x + c9)), x5] st M) : AW G cc own 6 fr lo rt Φ pc [x0, x1, x2, x3, some (.inl x), x5] st M := a_inc (i := 4) (by decide) hd rfl (by rw [hv]) hp kk
theorem a_in_4_7 {x0 x1 x2 x3 x5 x6 : Option OV} {x c9 : Int32} {n9 : Int} (hd : decode cc pc = .ok (.iinc 4 n9, 3)) (hv : Int32.ofInt n9 = c9) (hp : pc + 3 = pc') (kk : AW G cc own 7 fr lo rt Φ pc' [x0, x1, x2, x3, some (.inl (x + c9)), x5, x6] st M) : AW G cc own 7 fr lo rt Φ pc [x0, x1, x2, x3, some (.inl x), x5, x6] st M := a_inc (i := 4) (by decide) hd rfl (by rw [hv]) hp kk
theorem a_in_5_6 {x0 x1 x2 x3 x4 : Option OV} {x c9 : Int32} {n9 : Int} (hd : decode cc pc = .ok (.iinc 5 n9, 3)) (hv : Int32.ofInt n9 = c9) (hp : pc + 3 = pc') (kk : AW G cc own 6 fr lo rt Φ pc' [x0, x1, x2, x3, x4, some (.inl (x + c9))] st M) : AW G cc own 6 fr lo rt Φ pc [x0, x1, x2, x3, x4, some (.inl x)] st M := a_inc (i := 5) (by decide) hd rfl (by rw [hv]) hp kk
theorem a_in_5_9 {x0 x1 x2 x3 x4 x6 x7 x8 : Option OV} {x c9 : Int32} {n9 : Int} (hd : decode cc pc = .ok (.iinc 5 n9, 3)) (hv : Int32.ofInt n9 = c9) (hp : pc + 3 = pc') (kk : AW G cc own 9 fr lo rt Φ pc' [x0, x1, x2, x3, x4, some (.inl (x + c9)), x6, x7, x8] st M) : AW G cc own 9 fr lo rt Φ pc [x0, x1, x2, x3, x4, some (.inl x), x6, x7, x8] st M := a_inc (i := 5) (by decide) hd rfl (by rw [hv]) hp kk
theorem a_in_6_9 {x0 x1 x2 x3 x4 x5 x7 x8 : Option OV} {x c9 : Int32} {n9 : Int} (hd : decode cc pc = .ok (.iinc 6 n9, 3)) (hv : Int32.ofInt n9 = c9) (hp : pc + 3 = pc') (kk : AW G cc own 9 fr lo rt Φ pc' [x0, x1, x2, x3, x4, x5, some (.inl (x + c9)), x7, x8] st M) : AW G cc own 9 fr lo rt Φ pc [x0, x1, x2, x3, x4, x5, some (.inl x), x7, x8] st M := a_inc (i := 6) (by decide) hd rfl (by rw [hv]) hp kk
theorem a_in_7_9 {x0 x1 x2 x3 x4 x5 x6 x8 : Option OV} {x c9 : Int32} {n9 : Int} (hd : decode cc pc = .ok (.iinc 7 n9, 3)) (hv : Int32.ofInt n9 = c9) (hp : pc + 3 = pc') (kk : AW G cc own 9 fr lo rt Φ pc' [x0, x1, x2, x3, x4, x5, x6, some (.inl (x + c9)), x8] st M) : AW G cc own 9 fr lo rt Φ pc [x0, x1, x2, x3, x4, x5, x6, some (.inl x), x8] st M := a_inc (i := 7) (by decide) hd rfl (by rw [hv]) hp kk
theorem a_in_8_9 {x0 x1 x2 x3 x4 x5 x6 x7 : Option OV} {x c9 : Int32} {n9 : Int} (hd : decode cc pc = .ok (.iinc 8 n9, 3)) (hv : Int32.ofInt n9 = c9) (hp : pc + 3 = pc') (kk : AW G cc own 9 fr lo rt Φ pc' [x0, x1, x2, x3, x4, x5, x6, x7, some (.inl (x + c9))] st M) : AW G cc own 9 fr lo rt Φ pc [x0, x1, x2, x3, x4, x5, x6, x7, some (.inl x)] st M := a_inc (i := 8) (by decide) hd rfl (by rw [hv]) hp kk
theorem a_in_8_11 {x0 x1 x2 x3 x4 x5 x6 x7 x9 x10 : Option OV} {x c9 : Int32} {n9 : Int} (hd : decode cc pc = .ok (.iinc 8 n9, 3)) (hv : Int32.ofInt n9 = c9) (hp : pc + 3 = pc') (kk : AW G cc own 11 fr lo rt Φ pc' [x0, x1, x2, x3, x4, x5, x6, x7, some (.inl (x + c9)), x9, x10] st M) : AW G cc own 11 fr lo rt Φ pc [x0, x1, x2, x3, x4, x5, x6, x7, some (.inl x), x9, x10] st M := a_inc (i := 8) (by decide) hd rfl (by rw [hv]) hp kk
theorem a_in_9_11 {x0 x1 x2 x3 x4 x5 x6 x7 x8 x10 : Option OV} {x c9 : Int32} {n9 : Int} (hd : decode cc pc = .ok (.iinc 9 n9, 3)) (hv : Int32.ofInt n9 = c9) (hp : pc + 3 = pc') (kk : AW G cc own 11 fr lo rt Φ pc' [x0, x1, x2, x3, x4, x5, x6, x7, x8, some (.inl (x + c9)), x10] st M) : AW G cc own 11 fr lo rt Φ pc [x0, x1, x2, x3, x4, x5, x6, x7, x8, some (.inl x), x10] st M := a_inc (i := 9) (by decide) hd rfl (by rw [hv]) hp kk
theorem a_in_10_11 {x0 x1 x2 x3 x4 x5 x6 x7 x8 x9 : Option OV} {x c9 : Int32} {n9 : Int} (hd : decode cc pc = .ok (.iinc 10 n9, 3)) (hv : Int32.ofInt n9 = c9) (hp : pc + 3 = pc') (kk : AW G cc own 11 fr lo rt Φ pc' [x0, x1, x2, x3, x4, x5, x6, x7, x8, x9, some (.inl (x + c9))] st M) : AW G cc own 11 fr lo rt Φ pc [x0, x1, x2, x3, x4, x5, x6, x7, x8, x9, some (.inl x)] st M := a_inc (i := 10) (by decide) hd rfl (by rw [hv]) hp kk
theorem a_il_0_1 {x : Int32} (hd : decode cc pc = .ok (.iload_n 0, 1)) (hp : pc + 1 = pc') (kk : AW G cc own 1 fr lo rt Φ pc' [some (.inl x)] (.inl x :: st) M) : AW G cc own 1 fr lo rt Φ pc [some (.inl x)] st M := a_ild (i := 0) (Or.inl ⟨0, rfl, hd, hp⟩) rfl kk
theorem a_il_0_2 {x1 : Option OV} {x : Int32} (hd : decode cc pc = .ok (.iload_n 0, 1)) (hp : pc + 1 = pc') (kk : AW G cc own 2 fr lo rt Φ pc' [some (.inl x), x1] (.inl x :: st) M) : AW G cc own 2 fr lo rt Φ pc [some (.inl x), x1] st M := a_ild (i := 0) (Or.inl ⟨0, rfl, hd, hp⟩) rfl kk
theorem a_il_0_3 {x1 x2 : Option OV} {x : Int32} (hd : decode cc pc = .ok (.iload_n 0, 1)) (hp : pc + 1 = pc') (kk : AW G cc own 3 fr lo rt Φ pc' [some (.inl x), x1, x2] (.inl x :: st) M) : AW G cc own 3 fr lo rt Φ pc [some (.inl x), x1, x2] st M := a_ild (i := 0) (Or.inl ⟨0, rfl, hd, hp⟩) rfl kk
theorem a_il_1_2 {x0 : Option OV} {x : Int32} (hd : decode cc pc = .ok (.iload_n 1, 1)) (hp : pc + 1 = pc') (kk : AW G cc own 2 fr lo rt Φ pc' [x0, some (.inl x)] (.inl x :: st) M) : AW G cc own 2 fr lo rt Φ pc [x0, some (.inl x)] st M := a_ild (i := 1) (Or.inl ⟨1, rfl, hd, hp⟩) rfl kk
theorem a_il_1_3 {x0 x2 : Option OV} {x : Int32} (hd : decode cc pc = .ok (.iload_n 1, 1)) (hp : pc + 1 = pc') (kk : AW G cc own 3 fr lo rt Φ pc' [x0, some (.inl x), x2] (.inl x :: st) M) : AW G cc own 3 fr lo rt Φ pc [x0, some (.inl x), x2] st M := a_ild (i := 1) (Or.inl ⟨1, rfl, hd, hp⟩) rfl kk
theorem a_il_1_4 {x0 x2 x3 : Option OV} {x : Int32} (hd : decode cc pc = .ok (.iload_n 1, 1)) (hp : pc + 1 = pc') (kk : AW G cc own 4 fr lo rt Φ pc' [x0, some (.inl x), x2, x3] (.inl x :: st) M) : AW G cc own 4 fr lo rt Φ pc [x0, some (.inl x), x2, x3] st M := a_ild (i := 1) (Or.inl ⟨1, rfl, hd, hp⟩) rfl kk
theorem a_il_1_5 {x0 x2 x3 x4 : Option OV} {x : Int32} (hd : decode cc pc = .ok (.iload_n 1, 1)) (hp : pc + 1 = pc') (kk : AW G cc own 5 fr lo rt Φ pc' [x0, some (.inl x), x2, x3, x4] (.inl x :: st) M) : AW G cc own 5 fr lo rt Φ pc [x0, some (.inl x), x2, x3, x4] st M := a_ild (i := 1) (Or.inl ⟨1, rfl, hd, hp⟩) rfl kk
theorem a_il_1_6 {x0 x2 x3 x4 x5 : Option OV} {x : Int32} (hd : decode cc pc = .ok (.iload_n 1, 1)) (hp : pc + 1 = pc') (kk : AW G cc own 6 fr lo rt Φ pc' [x0, some (.inl x), x2, x3, x4, x5] (.inl x :: st) M) : AW G cc own 6 fr lo rt Φ pc [x0, some (.inl x), x2, x3, x4, x5] st M := a_ild (i := 1) (Or.inl ⟨1, rfl, hd, hp⟩) rfl kk
theorem a_il_1_7 {x0 x2 x3 x4 x5 x6 : Option OV} {x : Int32} (hd : decode cc pc = .ok (.iload_n 1, 1)) (hp : pc + 1 = pc') (kk : AW G cc own 7 fr lo rt Φ pc' [x0, some (.inl x), x2, x3, x4, x5, x6] (.inl x :: st) M) : AW G cc own 7 fr lo rt Φ pc [x0, some (.inl x), x2, x3, x4, x5, x6] st M := a_ild (i := 1) (Or.inl ⟨1, rfl, hd, hp⟩) rfl kk
theorem a_il_1_9 {x0 x2 x3 x4 x5 x6 x7 x8 : Option OV} {x : Int32} (hd : decode cc pc = .ok (.iload_n 1, 1)) (hp : pc + 1 = pc') (kk : AW G cc own 9 fr lo rt Φ pc' [x0, some (.inl x), x2, x3, x4, x5, x6, x7, x8] (.inl x :: st) M) : AW G cc own 9 fr lo rt Φ pc [x0, some (.inl x), x2, x3, x4, x5, x6, x7, x8] st M := a_ild (i := 1) (Or.inl ⟨1, rfl, hd, hp⟩) rfl kk
theorem a_il_1_11 {x0 x2 x3 x4 x5 x6 x7 x8 x9 x10 : Option OV} {x : Int32} (hd : decode cc pc = .ok (.iload_n 1, 1)) (hp : pc + 1 = pc') (kk : AW G cc own 11 fr lo rt Φ pc' [x0, some (.inl x), x2, x3, x4, x5, x6, x7, x8, x9, x10] (.inl x :: st) M) : AW G cc own 11 fr lo rt Φ pc [x0, some (.inl x), x2, x3, x4, x5, x6, x7, x8, x9, x10] st M := a_ild (i := 1) (Or.inl ⟨1, rfl, hd, hp⟩) rfl kk
theorem a_il_2_3 {x0 x1 : Option OV} {x : Int32} (hd : decode cc pc = .ok (.iload_n 2, 1)) (hp : pc + 1 = pc') (kk : AW G cc own 3 fr lo rt Φ pc' [x0, x1, some (.inl x)] (.inl x :: st) M) : AW G cc own 3 fr lo rt Φ pc [x0, x1, some (.inl x)] st M := a_ild (i := 2) (Or.inl ⟨2, rfl, hd, hp⟩) rfl kk
theorem a_il_2_4 {x0 x1 x3 : Option OV} {x : Int32} (hd : decode cc pc = .ok (.iload_n 2, 1)) (hp : pc + 1 = pc') (kk : AW G cc own 4 fr lo rt Φ pc' [x0, x1, some (.inl x), x3] (.inl x :: st) M) : AW G cc own 4 fr lo rt Φ pc [x0, x1, some (.inl x), x3] st M := a_ild (i := 2) (Or.inl ⟨2, rfl, hd, hp⟩) rfl kk
theorem a_il_2_5 {x0 x1 x3 x4 : Option OV} {x : Int32} (hd : decode cc pc = .ok (.iload_n 2, 1)) (hp : pc + 1 = pc') (kk : AW G cc own 5 fr lo rt Φ pc' [x0, x1, some (.inl x), x3, x4] (.inl x :: st) M) : AW G cc own 5 fr lo rt Φ pc [x0, x1, some (.inl x), x3, x4] st M := a_ild (i := 2) (Or.inl ⟨2, rfl, hd, hp⟩) rfl kk
theorem a_il_2_6 {x0 x1 x3 x4 x5 : Option OV} {x : Int32} (hd : decode cc pc = .ok (.iload_n 2, 1)) (hp : pc + 1 = pc') (kk : AW G cc own 6 fr lo rt Φ pc' [x0, x1, some (.inl x), x3, x4, x5] (.inl x :: st) M) : AW G cc own 6 fr lo rt Φ pc [x0, x1, some (.inl x), x3, x4, x5] st M := a_ild (i := 2) (Or.inl ⟨2, rfl, hd, hp⟩) rfl kk
theorem a_il_2_7 {x0 x1 x3 x4 x5 x6 : Option OV} {x : Int32} (hd : decode cc pc = .ok (.iload_n 2, 1)) (hp : pc + 1 = pc') (kk : AW G cc own 7 fr lo rt Φ pc' [x0, x1, some (.inl x), x3, x4, x5, x6] (.inl x :: st) M) : AW G cc own 7 fr lo rt Φ pc [x0, x1, some (.inl x), x3, x4, x5, x6] st M := a_ild (i := 2) (Or.inl ⟨2, rfl, hd, hp⟩) rfl kk
theorem a_il_2_9 {x0 x1 x3 x4 x5 x6 x7 x8 : Option OV} {x : Int32} (hd : decode cc pc = .ok (.iload_n 2, 1)) (hp : pc + 1 = pc') (kk : AW G cc own 9 fr lo rt Φ pc' [x0, x1, some (.inl x), x3, x4, x5, x6, x7, x8] (.inl x :: st) M) : AW G cc own 9 fr lo rt Φ pc [x0, x1, some (.inl x), x3, x4, x5, x6, x7, x8] st M := a_ild (i := 2) (Or.inl ⟨2, rfl, hd, hp⟩) rfl kk
theorem a_il_2_11 {x0 x1 x3 x4 x5 x6 x7 x8 x9 x10 : Option OV} {x : Int32} (hd : decode cc pc = .ok (.iload_n 2, 1)) (hp : pc + 1 = pc') (kk : AW G cc own 11 fr lo rt Φ pc' [x0, x1, some (.inl x), x3, x4, x5, x6, x7, x8, x9, x10] (.inl x :: st) M) : AW G cc own 11 fr lo rt Φ pc [x0, x1, some (.inl x), x3, x4, x5, x6, x7, x8, x9, x10] st M := a_ild (i := 2) (Or.inl ⟨2, rfl, hd, hp⟩) rfl kk
theorem a_il_3_4 {x0 x1 x2 : Option OV} {x : Int32} (hd : decode cc pc = .ok (.iload_n 3, 1)) (hp : pc + 1 = pc') (kk : AW G cc own 4 fr lo rt Φ pc' [x0, x1, x2, some (.inl x)] (.inl x :: st) M) : AW G cc own 4 fr lo rt Φ pc [x0, x1, x2, some (.inl x)] st M := a_ild (i := 3) (Or.inl ⟨3, rfl, hd, hp⟩) rfl kk
theorem a_il_3_5 {x0 x1 x2 x4 : Option OV} {x : Int32} (hd : decode cc pc = .ok (.iload_n 3, 1)) (hp : pc + 1 = pc') (kk : AW G cc own 5 fr lo rt Φ pc' [x0, x1, x2, some (.inl x), x4] (.inl x :: st) M) : AW G cc own 5 fr lo rt Φ pc [x0, x1, x2, some (.inl x), x4] st M := a_ild (i := 3) (Or.inl ⟨3, rfl, hd, hp⟩) rfl kk
theorem a_il_3_6 {x0 x1 x2 x4 x5 : Option OV} {x : Int32} (hd : decode cc pc = .ok (.iload_n 3, 1)) (hp : pc + 1 = pc') (kk : AW G cc own 6 fr lo rt Φ pc' [x0, x1, x2, some (.inl x), x4, x5] (.inl x :: st) M) : AW G cc own 6 fr lo rt Φ pc [x0, x1, x2, some (.inl x), x4, x5] st M := a_ild (i := 3) (Or.inl ⟨3, rfl, hd, hp⟩) rfl kk
theorem a_il_3_7 {x0 x1 x2 x4 x5 x6 : Option OV} {x : Int32} (hd : decode cc pc = .ok (.iload_n 3, 1)) (hp : pc + 1 = pc') (kk : AW G cc own 7 fr lo rt Φ pc' [x0, x1, x2, some (.inl x), x4, x5, x6] (.inl x :: st) M) : AW G cc own 7 fr lo rt Φ pc [x0, x1, x2, some (.inl x), x4, x5, x6] st M := a_ild (i := 3) (Or.inl ⟨3, rfl, hd, hp⟩) rfl kk
theorem a_il_3_9 {x0 x1 x2 x4 x5 x6 x7 x8 : Option OV} {x : Int32} (hd : decode cc pc = .ok (.iload_n 3, 1)) (hp : pc + 1 = pc') (kk : AW G cc own 9 fr lo rt Φ pc' [x0, x1, x2, some (.inl x), x4, x5, x6, x7, x8] (.inl x :: st) M) : AW G cc own 9 fr lo rt Φ pc [x0, x1, x2, some (.inl x), x4, x5, x6, x7, x8] st M := a_ild (i := 3) (Or.inl ⟨3, rfl, hd, hp⟩) rfl kk
theorem a_il_3_11 {x0 x1 x2 x4 x5 x6 x7 x8 x9 x10 : Option OV} {x : Int32} (hd : decode cc pc = .ok (.iload_n 3, 1)) (hp : pc + 1 = pc') (kk : AW G cc own 11 fr lo rt Φ pc' [x0, x1, x2, some (.inl x), x4, x5, x6, x7, x8, x9, x10] (.inl x :: st) M) : AW G cc own 11 fr lo rt Φ pc [x0, x1, x2, some (.inl x), x4, x5, x6, x7, x8, x9, x10] st M := a_ild (i := 3) (Or.inl ⟨3, rfl, hd, hp⟩) rfl kk
theorem a_il_4_5 {x0 x1 x2 x3 : Option OV} {x : Int32} (hd : decode cc pc = .ok (.iload 4, 2)) (hp : pc + 2 = pc') (kk : AW G cc own 5 fr lo rt Φ pc' [x0, x1, x2, x3, some (.inl x)] (.inl x :: st) M) : AW G cc own 5 fr lo rt Φ pc [x0, x1, x2, x3, some (.inl x)] st M := a_ild (i := 4) (Or.inr ⟨hd, hp⟩) rfl kk
theorem a_il_4_6 {x0 x1 x2 x3 x5 : Option OV} {x : Int32} (hd : decode cc pc = .ok (.iload 4, 2)) (hp : pc + 2 = pc') (kk : AW G cc own 6 fr lo rt Φ pc' [x0, x1, x2, x3, some (.inl x), x5] (.inl x :: st) M) : AW G cc own 6 fr lo rt Φ pc [x0, x1, x2, x3, some (.inl x), x5] st M := a_ild (i := 4) (Or.inr ⟨hd, hp⟩) rfl kk
theorem a_il_4_7 {x0 x1 x2 x3 x5 x6 : Option OV} {x : Int32} (hd : decode cc pc = .ok (.iload 4, 2)) (hp : pc + 2 = pc') (kk : AW G cc own 7 fr lo rt Φ pc' [x0, x1, x2, x3, some (.inl x), x5, x6] (.inl x :: st) M) : AW G cc own 7 fr lo rt Φ pc [x0, x1, x2, x3, some (.inl x), x5, x6] st M := a_ild (i := 4) (Or.inr ⟨hd, hp⟩) rfl kk
theorem a_il_4_9 {x0 x1 x2 x3 x5 x6 x7 x8 : Option OV} {x : Int32} (hd : decode cc pc = .ok (.iload 4, 2)) (hp : pc + 2 = pc') (kk : AW G cc own 9 fr lo rt Φ pc' [x0, x1, x2, x3, some (.inl x), x5, x6, x7, x8] (.inl x :: st) M) : AW G cc own 9 fr lo rt Φ pc [x0, x1, x2, x3, some (.inl x), x5, x6, x7, x8] st M := a_ild (i := 4) (Or.inr ⟨hd, hp⟩) rfl kk
theorem a_il_4_11 {x0 x1 x2 x3 x5 x6 x7 x8 x9 x10 : Option OV} {x : Int32} (hd : decode cc pc = .ok (.iload 4, 2)) (hp : pc + 2 = pc') (kk : AW G cc own 11 fr lo rt Φ pc' [x0, x1, x2, x3, some (.inl x), x5, x6, x7, x8, x9, x10] (.inl x :: st) M) : AW G cc own 11 fr lo rt Φ pc [x0, x1, x2, x3, some (.inl x), x5, x6, x7, x8, x9, x10] st M := a_ild (i := 4) (Or.inr ⟨hd, hp⟩) rfl kk
theorem a_il_5_6 {x0 x1 x2 x3 x4 : Option OV} {x : Int32} (hd : decode cc pc = .ok (.iload 5, 2)) (hp : pc + 2 = pc') (kk : AW G cc own 6 fr lo rt Φ pc' [x0, x1, x2, x3, x4, some (.inl x)] (.inl x :: st) M) : AW G cc own 6 fr lo rt Φ pc [x0, x1, x2, x3, x4, some (.inl x)] st M := a_ild (i := 5) (Or.inr ⟨hd, hp⟩) rfl kk
theorem a_il_5_7 {x0 x1 x2 x3 x4 x6 : Option OV} {x : Int32} (hd : decode cc pc = .ok (.iload 5, 2)) (hp : pc + 2 = pc') (kk : AW G cc own 7 fr lo rt Φ pc' [x0, x1, x2, x3, x4, some (.inl x), x6] (.inl x :: st) M) : AW G cc own 7 fr lo rt Φ pc [x0, x1, x2, x3, x4, some (.inl x), x6] st M := a_ild (i := 5) (Or.inr ⟨hd, hp⟩) rfl kk
theorem a_il_5_9 {x0 x1 x2 x3 x4 x6 x7 x8 : Option OV} {x : Int32} (hd : decode cc pc = .ok (.iload 5, 2)) (hp : pc + 2 = pc') (kk : AW G cc own 9 fr lo rt Φ pc' [x0, x1, x2, x3, x4, some (.inl x), x6, x7, x8] (.inl x :: st) M) : AW G cc own 9 fr lo rt Φ pc [x0, x1, x2, x3, x4, some (.inl x), x6, x7, x8] st M := a_ild (i := 5) (Or.inr ⟨hd, hp⟩) rfl kk
theorem a_il_5_11 {x0 x1 x2 x3 x4 x6 x7 x8 x9 x10 : Option OV} {x : Int32} (hd : decode cc pc = .ok (.iload 5, 2)) (hp : pc + 2 = pc') (kk : AW G cc own 11 fr lo rt Φ pc' [x0, x1, x2, x3, x4, some (.inl x), x6, x7, x8, x9, x10] (.inl x :: st) M) : AW G cc own 11 fr lo rt Φ pc [x0, x1, x2, x3, x4, some (.inl x), x6, x7, x8, x9, x10] st M := a_ild (i := 5) (Or.inr ⟨hd, hp⟩) rfl kk
theorem a_il_6_7 {x0 x1 x2 x3 x4 x5 : Option OV} {x : Int32} (hd : decode cc pc = .ok (.iload 6, 2)) (hp : pc + 2 = pc') (kk : AW G cc own 7 fr lo rt Φ pc' [x0, x1, x2, x3, x4, x5, some (.inl x)] (.inl x :: st) M) : AW G cc own 7 fr lo rt Φ pc [x0, x1, x2, x3, x4, x5, some (.inl x)] st M := a_ild (i := 6) (Or.inr ⟨hd, hp⟩) rfl kk
theorem a_il_6_9 {x0 x1 x2 x3 x4 x5 x7 x8 : Option OV} {x : Int32} (hd : decode cc pc = .ok (.iload 6, 2)) (hp : pc + 2 = pc') (kk : AW G cc own 9 fr lo rt Φ pc' [x0, x1, x2, x3, x4, x5, some (.inl x), x7, x8] (.inl x :: st) M) : AW G cc own 9 fr lo rt Φ pc [x0, x1, x2, x3, x4, x5, some (.inl x), x7, x8] st M := a_ild (i := 6) (Or.inr ⟨hd, hp⟩) rfl kk
theorem a_il_6_11 {x0 x1 x2 x3 x4 x5 x7 x8 x9 x10 : Option OV} {x : Int32} (hd : decode cc pc = .ok (.iload 6, 2)) (hp : pc + 2 = pc') (kk : AW G cc own 11 fr lo rt Φ pc' [x0, x1, x2, x3, x4, x5, some (.inl x), x7, x8, x9, x10] (.inl x :: st) M) : AW G cc own 11 fr lo rt Φ pc [x0, x1, x2, x3, x4, x5, some (.inl x), x7, x8, x9, x10] st M := a_ild (i := 6) (Or.inr ⟨hd, hp⟩) rfl kk
theorem a_il_7_9 {x0 x1 x2 x3 x4 x5 x6 x8 : Option OV} {x : Int32} (hd : decode cc pc = .ok (.iload 7, 2)) (hp : pc + 2 = pc') (kk : AW G cc own 9 fr lo rt Φ pc' [x0, x1, x2, x3, x4, x5, x6, some (.inl x), x8] (.inl x :: st) M) : AW G cc own 9 fr lo rt Φ pc [x0, x1, x2, x3, x4, x5, x6, some (.inl x), x8] st M := a_ild (i := 7) (Or.inr ⟨hd, hp⟩) rfl kk
theorem a_il_7_11 {x0 x1 x2 x3 x4 x5 x6 x8 x9 x10 : Option OV} {x : Int32} (hd : decode cc pc = .ok (.iload 7, 2)) (hp : pc + 2 = pc') (kk : AW G cc own 11 fr lo rt Φ pc' [x0, x1, x2, x3, x4, x5, x6, some (.inl x), x8, x9, x10] (.inl x :: st) M) : AW G cc own 11 fr lo rt Φ pc [x0, x1, x2, x3, x4, x5, x6, some (.inl x), x8, x9, x10] st M := a_ild (i := 7) (Or.inr ⟨hd, hp⟩) rfl kk
theorem a_il_8_9 {x0 x1 x2 x3 x4 x5 x6 x7 : Option OV} {x : Int32} (hd : decode cc pc = .ok (.iload 8, 2)) (hp : pc + 2 = pc') (kk : AW G cc own 9 fr lo rt Φ pc' [x0, x1, x2, x3, x4, x5, x6, x7, some (.inl x)] (.inl x :: st) M) : AW G cc own 9 fr lo rt Φ pc [x0, x1, x2, x3, x4, x5, x6, x7, some (.inl x)] st M := a_ild (i := 8) (Or.inr ⟨hd, hp⟩) rfl kk
theorem a_il_8_11 {x0 x1 x2 x3 x4 x5 x6 x7 x9 x10 : Option OV} {x : Int32} (hd : decode cc pc = .ok (.iload 8, 2)) (hp : pc + 2 = pc') (kk : AW G cc own 11 fr lo rt Φ pc' [x0, x1, x2, x3, x4, x5, x6, x7, some (.inl x), x9, x10] (.inl x :: st) M) : AW G cc own 11 fr lo rt Φ pc [x0, x1, x2, x3, x4, x5, x6, x7, some (.inl x), x9, x10] st M := a_ild (i := 8) (Or.inr ⟨hd, hp⟩) rfl kk
theorem a_il_9_11 {x0 x1 x2 x3 x4 x5 x6 x7 x8 x10 : Option OV} {x : Int32} (hd : decode cc pc = .ok (.iload 9, 2)) (hp : pc + 2 = pc') (kk : AW G cc own 11 fr lo rt Φ pc' [x0, x1, x2, x3, x4, x5, x6, x7, x8, some (.inl x), x10] (.inl x :: st) M) : AW G cc own 11 fr lo rt Φ pc [x0, x1, x2, x3, x4, x5, x6, x7, x8, some (.inl x), x10] st M := a_ild (i := 9) (Or.inr ⟨hd, hp⟩) rfl kk
theorem a_il_10_11 {x0 x1 x2 x3 x4 x5 x6 x7 x8 x9 : Option OV} {x : Int32} (hd : decode cc pc = .ok (.iload 10, 2)) (hp : pc + 2 = pc') (kk : AW G cc own 11 fr lo rt Φ pc' [x0, x1, x2, x3, x4, x5, x6, x7, x8, x9, some (.inl x)] (.inl x :: st) M) : AW G cc own 11 fr lo rt Φ pc [x0, x1, x2, x3, x4, x5, x6, x7, x8, x9, some (.inl x)] st M := a_ild (i := 10) (Or.inr ⟨hd, hp⟩) rfl kk
theorem a_is_0_1 {y : Option OV} {x : Int32} (hd : decode cc pc = .ok (.istore_n 0, 1)) (hp : pc + 1 = pc') (kk : AW G cc own 1 fr lo rt Φ pc' [some (.inl x)] st M) : AW G cc own 1 fr lo rt Φ pc [y] (.inl x :: st) M := a_ist (i := 0) (by decide) (Or.inl ⟨0, rfl, hd, hp⟩) kk
theorem a_is_1_2 {x0 : Option OV} {y : Option OV} {x : Int32} (hd : decode cc pc = .ok (.istore_n 1, 1)) (hp : pc + 1 = pc') (kk : AW G cc own 2 fr lo rt Φ pc' [x0, some (.inl x)] st M) : AW G cc own 2 fr lo rt Φ pc [x0, y] (.inl x :: st) M := a_ist (i := 1) (by decide) (Or.inl ⟨1, rfl, hd, hp⟩) kk
theorem a_is_1_3 {x0 x2 : Option OV} {y : Option OV} {x : Int32} (hd : decode cc pc = .ok (.istore_n 1, 1)) (hp : pc + 1 = pc') (kk : AW G cc own 3 fr lo rt Φ pc' [x0, some (.inl x), x2] st M) : AW G cc own 3 fr lo rt Φ pc [x0, y, x2] (.inl x :: st) M := a_ist (i := 1) (by decide) (Or.inl ⟨1, rfl, hd, hp⟩) kk
theorem a_is_1_4 {x0 x2 x3 : Option OV} {y : Option OV} {x : Int32} (hd : decode cc pc = .ok (.istore_n 1, 1)) (hp : pc + 1 = pc') (kk : AW G cc own 4 fr lo rt Φ pc' [x0, some (.inl x), x2, x3] st M) : AW G cc own 4 fr lo rt Φ pc [x0, y, x2, x3] (.inl x :: st) M := a_ist (i := 1) (by decide) (Or.inl ⟨1, rfl, hd, hp⟩) kk
theorem a_is_1_5 {x0 x2 x3 x4 : Option OV} {y : Option OV} {x : Int32} (hd : decode cc pc = .ok (.istore_n 1, 1)) (hp : pc + 1 = pc') (kk : AW G cc own 5 fr lo rt Φ pc' [x0, some (.inl x), x2, x3, x4] st M) : AW G cc own 5 fr lo rt Φ pc [x0, y, x2, x3, x4] (.inl x :: st) M := a_ist (i := 1) (by decide) (Or.inl ⟨1, rfl, hd, hp⟩) kk
theorem a_is_2_3 {x0 x1 : Option OV} {y : Option OV} {x : Int32} (hd : decode cc pc = .ok (.istore_n 2, 1)) (hp : pc + 1 = pc') (kk : AW G cc own 3 fr lo rt Φ pc' [x0, x1, some (.inl x)] st M) : AW G cc own 3 fr lo rt Φ pc [x0, x1, y] (.inl x :: st) M := a_ist (i := 2) (by decide) (Or.inl ⟨2, rfl, hd, hp⟩) kk
theorem a_is_2_4 {x0 x1 x3 : Option OV} {y : Option OV} {x : Int32} (hd : decode cc pc = .ok (.istore_n 2, 1)) (hp : pc + 1 = pc') (kk : AW G cc own 4 fr lo rt Φ pc' [x0, x1, some (.inl x), x3] st M) : AW G cc own 4 fr lo rt Φ pc [x0, x1, y, x3] (.inl x :: st) M := a_ist (i := 2) (by decide) (Or.inl ⟨2, rfl, hd, hp⟩) kk
theorem a_is_2_5 {x0 x1 x3 x4 : Option OV} {y : Option OV} {x : Int32} (hd : decode cc pc = .ok (.istore_n 2, 1)) (hp : pc + 1 = pc') (kk : AW G cc own 5 fr lo rt Φ pc' [x0, x1, some (.inl x), x3, x4] st M) : AW G cc own 5 fr lo rt Φ pc [x0, x1, y, x3, x4] (.inl x :: st) M := a_ist (i := 2) (by decide) (Or.inl ⟨2, rfl, hd, hp⟩) kk
theorem a_is_2_7 {x0 x1 x3 x4 x5 x6 : Option OV} {y : Option OV} {x : Int32} (hd : decode cc pc = .ok (.istore_n 2, 1)) (hp : pc + 1 = pc') (kk : AW G cc own 7 fr lo rt Φ pc' [x0, x1, some (.inl x), x3, x4, x5, x6] st M) : AW G cc own 7 fr lo rt Φ pc [x0, x1, y, x3, x4, x5, x6] (.inl x :: st) M := a_ist (i := 2) (by decide) (Or.inl ⟨2, rfl, hd, hp⟩) kk
theorem a_is_3_4 {x0 x1 x2 : Option OV} {y : Option OV} {x : Int32} (hd : decode cc pc = .ok (.istore_n 3, 1)) (hp : pc + 1 = pc') (kk : AW G cc own 4 fr lo rt Φ pc' [x0, x1, x2, some (.inl x)] st M) : AW G cc own 4 fr lo rt Φ pc [x0, x1, x2, y] (.inl x :: st) M := a_ist (i := 3) (by decide) (Or.inl ⟨3, rfl, hd, hp⟩) kk
theorem a_is_3_5 {x0 x1 x2 x4 : Option OV} {y : Option OV} {x : Int32} (hd : decode cc pc = .ok (.istore_n 3, 1)) (hp : pc + 1 = pc') (kk : AW G cc own 5 fr lo rt Φ pc' [x0, x1, x2, some (.inl x), x4] st M) : AW G cc own 5 fr lo rt Φ pc [x0, x1, x2, y, x4] (.inl x :: st) M := a_ist (i := 3) (by decide) (Or.inl ⟨3, rfl, hd, hp⟩) kk
theorem a_is_3_6 {x0 x1 x2 x4 x5 : Option OV} {y : Option OV} {x : Int32} (hd : decode cc pc = .ok (.istore_n 3, 1)) (hp : pc + 1 = pc') (kk : AW G cc own 6 fr lo rt Φ pc' [x0, x1, x2, some (.inl x), x4, x5] st M) : AW G cc own 6 fr lo rt Φ pc [x0, x1, x2, y, x4, x5] (.inl x :: st) M := a_ist (i := 3) (by decide) (Or.inl ⟨3, rfl, hd, hp⟩) kk
theorem a_is_3_7 {x0 x1 x2 x4 x5 x6 : Option OV} {y : Option OV} {x : Int32} (hd : decode cc pc = .ok (.istore_n 3, 1)) (hp : pc + 1 = pc') (kk : AW G cc own 7 fr lo rt Φ pc' [x0, x1, x2, some (.inl x), x4, x5, x6] st M) : AW G cc own 7 fr lo rt Φ pc [x0, x1, x2, y, x4, x5, x6] (.inl x :: st) M := a_ist (i := 3) (by decide) (Or.inl ⟨3, rfl, hd, hp⟩) kk
theorem a_is_3_9 {x0 x1 x2 x4 x5 x6 x7 x8 : Option OV} {y : Option OV} {x : Int32} (hd : decode cc pc = .ok (.istore_n 3, 1)) (hp : pc + 1 = pc') (kk : AW G cc own 9 fr lo rt Φ pc' [x0, x1, x2, some (.inl x), x4, x5, x6, x7, x8] st M) : AW G cc own 9 fr lo rt Φ pc [x0, x1, x2, y, x4, x5, x6, x7, x8] (.inl x :: st) M := a_ist (i := 3) (by decide) (Or.inl ⟨3, rfl, hd, hp⟩) kk
theorem a_is_4_5 {x0 x1 x2 x3 : Option OV} {y : Option OV} {x : Int32} (hd : decode cc pc = .ok (.istore 4, 2)) (hp : pc + 2 = pc') (kk : AW G cc own 5 fr lo rt Φ pc' [x0, x1, x2, x3, some (.inl x)] st M) : AW G cc own 5 fr lo rt Φ pc [x0, x1, x2, x3, y] (.inl x :: st) M := a_ist (i := 4) (by decide) (Or.inr ⟨hd, hp⟩) kk
theorem a_is_4_6 {x0 x1 x2 x3 x5 : Option OV} {y : Option OV} {x : Int32} (hd : decode cc pc = .ok (.istore 4, 2)) (hp : pc + 2 = pc') (kk : AW G cc own 6 fr lo rt Φ pc' [x0, x1, x2, x3, some (.inl x), x5] st M) : AW G cc own 6 fr lo rt Φ pc [x0, x1, x2, x3, y, x5] (.inl x :: st) M := a_ist (i := 4) (by decide) (Or.inr ⟨hd, hp⟩) kk
theorem a_is_4_7 {x0 x1 x2 x3 x5 x6 : Option OV} {y : Option OV} {x : Int32} (hd : decode cc pc = .ok (.istore 4, 2)) (hp : pc + 2 = pc') (kk : AW G cc own 7 fr lo rt Φ pc' [x0, x1, x2, x3, some (.inl x), x5, x6] st M) : AW G cc own 7 fr lo rt Φ pc [x0, x1, x2, x3, y, x5, x6] (.inl x :: st) M := a_ist (i := 4) (by decide) (Or.inr ⟨hd, hp⟩) kk
theorem a_is_4_9 {x0 x1 x2 x3 x5 x6 x7 x8 : Option OV} {y : Option OV} {x : Int32} (hd : decode cc pc = .ok (.istore 4, 2)) (hp : pc + 2 = pc') (kk : AW G cc own 9 fr lo rt Φ pc' [x0, x1, x2, x3, some (.inl x), x5, x6, x7, x8] st M) : AW G cc own 9 fr lo rt Φ pc [x0, x1, x2, x3, y, x5, x6, x7, x8] (.inl x :: st) M := a_ist (i := 4) (by decide) (Or.inr ⟨hd, hp⟩) kk
theorem a_is_5_6 {x0 x1 x2 x3 x4 : Option OV} {y : Option OV} {x : Int32} (hd : decode cc pc = .ok (.istore 5, 2)) (hp : pc + 2 = pc') (kk : AW G cc own 6 fr lo rt Φ pc' [x0, x1, x2, x3, x4, some (.inl x)] st M) : AW G cc own 6 fr lo rt Φ pc [x0, x1, x2, x3, x4, y] (.inl x :: st) M := a_ist (i := 5) (by decide) (Or.inr ⟨hd, hp⟩) kk
theorem a_is_5_7 {x0 x1 x2 x3 x4 x6 : Option OV} {y : Option OV} {x : Int32} (hd : decode cc pc = .ok (.istore 5, 2)) (hp : pc + 2 = pc') (kk : AW G cc own 7 fr lo rt Φ pc' [x0, x1, x2, x3, x4, some (.inl x), x6] st M) : AW G cc own 7 fr lo rt Φ pc [x0, x1, x2, x3, x4, y, x6] (.inl x :: st) M := a_ist (i := 5) (by decide) (Or.inr ⟨hd, hp⟩) kk
theorem a_is_5_9 {x0 x1 x2 x3 x4 x6 x7 x8 : Option OV} {y : Option OV} {x : Int32} (hd : decode cc pc = .ok (.istore 5, 2)) (hp : pc + 2 = pc') (kk : AW G cc own 9 fr lo rt Φ pc' [x0, x1, x2, x3, x4, some (.inl x), x6, x7, x8] st M) : AW G cc own 9 fr lo rt Φ pc [x0, x1, x2, x3, x4, y, x6, x7, x8] (.inl x :: st) M := a_ist (i := 5) (by decide) (Or.inr ⟨hd, hp⟩) kk
theorem a_is_6_7 {x0 x1 x2 x3 x4 x5 : Option OV} {y : Option OV} {x : Int32} (hd : decode cc pc = .ok (.istore 6, 2)) (hp : pc + 2 = pc') (kk : AW G cc own 7 fr lo rt Φ pc' [x0, x1, x2, x3, x4, x5, some (.inl x)] st M) : AW G cc own 7 fr lo rt Φ pc [x0, x1, x2, x3, x4, x5, y] (.inl x :: st) M := a_ist (i := 6) (by decide) (Or.inr ⟨hd, hp⟩) kk
theorem a_is_6_9 {x0 x1 x2 x3 x4 x5 x7 x8 : Option OV} {y : Option OV} {x : Int32} (hd : decode cc pc = .ok (.istore 6, 2)) (hp : pc + 2 = pc') (kk : AW G cc own 9 fr lo rt Φ pc' [x0, x1, x2, x3, x4, x5, some (.inl x), x7, x8] st M) : AW G cc own 9 fr lo rt Φ pc [x0, x1, x2, x3, x4, x5, y, x7, x8] (.inl x :: st) M := a_ist (i := 6) (by decide) (Or.inr ⟨hd, hp⟩) kk
theorem a_is_7_9 {x0 x1 x2 x3 x4 x5 x6 x8 : Option OV} {y : Option OV} {x : Int32} (hd : decode cc pc = .ok (.istore 7, 2)) (hp : pc + 2 = pc') (kk : AW G cc own 9 fr lo rt Φ pc' [x0, x1, x2, x3, x4, x5, x6, some (.inl x), x8] st M) : AW G cc own 9 fr lo rt Φ pc [x0, x1, x2, x3, x4, x5, x6, y, x8] (.inl x :: st) M := a_ist (i := 7) (by decide) (Or.inr ⟨hd, hp⟩) kk
theorem a_is_7_11 {x0 x1 x2 x3 x4 x5 x6 x8 x9 x10 : Option OV} {y : Option OV} {x : Int32} (hd : decode cc pc = .ok (.istore 7, 2)) (hp : pc + 2 = pc') (kk : AW G cc own 11 fr lo rt Φ pc' [x0, x1, x2, x3, x4, x5, x6, some (.inl x), x8, x9, x10] st M) : AW G cc own 11 fr lo rt Φ pc [x0, x1, x2, x3, x4, x5, x6, y, x8, x9, x10] (.inl x :: st) M := a_ist (i := 7) (by decide) (Or.inr ⟨hd, hp⟩) kk
theorem a_is_8_9 {x0 x1 x2 x3 x4 x5 x6 x7 : Option OV} {y : Option OV} {x : Int32} (hd : decode cc pc = .ok (.istore 8, 2)) (hp : pc + 2 = pc') (kk : AW G cc own 9 fr lo rt Φ pc' [x0, x1, x2, x3, x4, x5, x6, x7, some (.inl x)] st M) : AW G cc own 9 fr lo rt Φ pc [x0, x1, x2, x3, x4, x5, x6, x7, y] (.inl x :: st) M := a_ist (i := 8) (by decide) (Or.inr ⟨hd, hp⟩) kk
theorem a_is_8_11 {x0 x1 x2 x3 x4 x5 x6 x7 x9 x10 : Option OV} {y : Option OV} {x : Int32} (hd : decode cc pc = .ok (.istore 8, 2)) (hp : pc + 2 = pc') (kk : AW G cc own 11 fr lo rt Φ pc' [x0, x1, x2, x3, x4, x5, x6, x7, some (.inl x), x9, x10] st M) : AW G cc own 11 fr lo rt Φ pc [x0, x1, x2, x3, x4, x5, x6, x7, y, x9, x10] (.inl x :: st) M := a_ist (i := 8) (by decide) (Or.inr ⟨hd, hp⟩) kk
theorem a_is_9_11 {x0 x1 x2 x3 x4 x5 x6 x7 x8 x10 : Option OV} {y : Option OV} {x : Int32} (hd : decode cc pc = .ok (.istore 9, 2)) (hp : pc + 2 = pc') (kk : AW G cc own 11 fr lo rt Φ pc' [x0, x1, x2, x3, x4, x5, x6, x7, x8, some (.inl x), x10] st M) : AW G cc own 11 fr lo rt Φ pc [x0, x1, x2, x3, x4, x5, x6, x7, x8, y, x10] (.inl x :: st) M := a_ist (i := 9) (by decide) (Or.inr ⟨hd, hp⟩) kk
theorem a_is_10_11 {x0 x1 x2 x3 x4 x5 x6 x7 x8 x9 : Option OV} {y : Option OV} {x : Int32} (hd : decode cc pc = .ok (.istore 10, 2)) (hp : pc + 2 = pc') (kk : AW G cc own 11 fr lo rt Φ pc' [x0, x1, x2, x3, x4, x5, x6, x7, x8, x9, some (.inl x)] st M) : AW G cc own 11 fr lo rt Φ pc [x0, x1, x2, x3, x4, x5, x6, x7, x8, x9, y] (.inl x :: st) M := a_ist (i := 10) (by decide) (Or.inr ⟨hd, hp⟩) kk
theorem a_iret {x : Int32} {ty : FieldType} (hd : decode cc pc = .ok (.ireturn, 1)) (hr : rt = some ty) (hn : narrow ty (.int x) = .int x) (hΦ : Φ (some (.inl x)) M) : AW G cc own nL fr lo rt Φ pc ls [.inl x] M := by
  intro A p l e R s m args below meth c cells slots Z H locs lsA hF hR hM hS hL
  exact hR (some (.inl x)) M H locs lsA pc hΦ hM hS ⟨⟨ty, hr, hn⟩, hd⟩
theorem a_vret (hd : decode cc pc = .ok (.return_, 1)) (hr : rt = none) (hΦ : Φ none M) : AW G cc own nL fr lo rt Φ pc ls [] M := by
  intro A p l e R s m args below meth c cells slots Z H locs lsA hF hR hM hS hL
  exact hR none M H locs lsA pc hΦ hM hS ⟨hr, hd⟩
theorem a_aret {x : Obj} {t : FieldType} (hd : decode cc pc = .ok (.areturn, 1)) (hr : rt = some (.array t)) (hΦ : Φ (some (.inr x)) M) : AW G cc own nL fr lo rt Φ pc ls [.inr x] M := by
  intro A p l e R s m args below meth c cells slots Z H locs lsA hF hR hM hS hL
  exact hR (some (.inr x)) M H locs lsA pc hΦ hM hS ⟨⟨t, hr⟩, hd⟩
theorem a_ext {M' : Mm} (h : ∀ r i, okO (ow r i) = true → M r i = M' r i) (kk : AW G cc own nL fr lo rt Φ pc ls st M') : AW G cc own nL fr lo rt Φ pc ls st M := by
  intro A p l e R s m args below meth c cells slots Z H locs lsA hF hR hM hS hL
  exact kk A p l e R s m args below meth c cells slots Z H locs lsA hF hR (hM.ext h) hS hL
theorem a_mem {M' : Mm} (h : M = M') (kk : AW G cc own nL fr lo rt Φ pc ls st M') : AW G cc own nL fr lo rt Φ pc ls st M := h ▸ kk
end Rows
