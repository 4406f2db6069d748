/-! LSPEC: the law's own rows g, a, p as views of one flat state F. -/
def gF (F : Nat → Int32) : Nat → Int32 := fun i => if i < 6 then F i else 0
def sh (F : Nat → Int32) : Nat → Int32 := fun i => if i < 57 then F (6 + i) else 0
def pkj (F : Nat → Int32) (p r : Nat) : Int32 := if r = 0 then nI 3 * F (63 + 10 * p) + F (63 + 10 * p + 1) else if r = 9 then 0 else F (63 + 10 * p + r + 1)
def pk (F : Nat → Int32) : Nat → Int32 := fun i => if i < 60 then pkj F (i / 10) (i % 10) else 0
theorem gF_at (F : Nat → Int32) {i : Nat} (h : i < 6) : gF F i = F i := if_pos h
theorem sh_at (F : Nat → Int32) {i k : Nat} (h : k = 6 + i) (hi : i < 57) : sh F i = F k := by subst h; exact if_pos hi
theorem sh_v0 (F : Nat → Int32) {v : Nat} (hv : v < 3) : sh F (19 * v) = F (6 + 19 * v) := sh_at F rfl (by omega)
theorem sh_v (F : Nat → Int32) {v j : Nat} (hv : v < 3) (hj : j < 4) : sh F (19 * v + j) = F (6 + 19 * v + j) := sh_at F (by omega) (by omega)
theorem sh_z0 (F : Nat → Int32) {v z : Nat} (hv : v < 3) (hz : z < 3) : sh F (4 + 19 * v + 5 * z) = F (10 + 19 * v + 5 * z) := sh_at F (by omega) (by omega)
theorem sh_z (F : Nat → Int32) {v z j : Nat} (hv : v < 3) (hz : z < 3) (hj : j < 5) : sh F (4 + 19 * v + 5 * z + j) = F (10 + 19 * v + 5 * z + j) := sh_at F (by omega) (by omega)
theorem pk_0 (F : Nat → Int32) {p : Nat} (hp : p < 6) : pk F (10 * p) = nI 3 * F (63 + 10 * p) + F (63 + 10 * p + 1) := by
  unfold pk
  rw [if_pos (by omega), show 10 * p / 10 = p by omega, show 10 * p % 10 = 0 by omega]
  rfl
theorem pk_j (F : Nat → Int32) {p j k : Nat} (hp : p < 6) (h1 : 1 ≤ j) (h2 : j ≤ 8) (hk : k = 63 + 10 * p + j + 1) : pk F (10 * p + j) = F k := by
  subst hk
  unfold pk
  rw [if_pos (by omega), show (10 * p + j) / 10 = p by omega, show (10 * p + j) % 10 = j by omega]
  unfold pkj
  rw [if_neg (by omega), if_neg (by omega)]
theorem upd_g (F : Nat → Int32) {i : Nat} (x : Int32) (h : i < 6) : upd (gF F) i x = gF (upd F i x) := by
  funext j
  simp only [upd_at, gF]
  by_cases e : j = i
  · subst e; rw [if_pos rfl, if_pos h, if_pos rfl]
  · rw [if_neg e, if_neg e]
theorem upd_s (F : Nat → Int32) {i k : Nat} (x : Int32) (h : i < 57) (hk : k = 6 + i) : upd (sh F) i x = sh (upd F k x) := by
  subst hk
  funext j
  simp only [upd_at, sh]
  by_cases e : j = i
  · subst e; rw [if_pos rfl, if_pos h, if_pos rfl]
  · rw [if_neg e, if_neg (by omega : ¬ 6 + j = 6 + i)]
theorem upd_p (F : Nat → Int32) {p j k : Nat} (x : Int32) (hp : p < 6) (h1 : 1 ≤ j) (h2 : j ≤ 8) (hk : k = 63 + 10 * p + j + 1) : upd (pk F) (10 * p + j) x = pk (upd F k x) := by
  subst hk
  funext i
  simp only [upd_at, pk]
  by_cases e : i = 10 * p + j
  · subst e
    rw [if_pos rfl, if_pos (by omega), show (10 * p + j) / 10 = p by omega, show (10 * p + j) % 10 = j by omega]
    unfold pkj
    rw [if_neg (by omega), if_neg (by omega), upd_at, if_pos rfl]
  · rw [if_neg e]
    by_cases h6 : i < 60
    · rw [if_pos h6, if_pos h6]
      have hi : 10 * (i / 10) + i % 10 = i := by omega
      generalize i / 10 = a at *
      generalize hr : i % 10 = r at *
      have hr9 : r < 10 := by omega
      unfold pkj
      simp only [upd_at]
      rw [if_neg (by omega : ¬ 63 + 10 * a = 63 + 10 * p + j + 1)]
      by_cases h0 : r = 0
      · rw [if_pos h0, if_pos h0, if_neg (by omega)]
      · rw [if_neg h0, if_neg h0]
        by_cases h9 : r = 9
        · rw [if_pos h9, if_pos h9]
        · rw [if_neg h9, if_neg h9, if_neg (by omega)]
    · rw [if_neg h6, if_neg h6]
theorem gF_congr {F F' : Nat → Int32} (h : ∀ i, i < 6 → F i = F' i) : gF F = gF F' := by
  funext i
  unfold gF
  split
  · exact h i (by assumption)
  · rfl
theorem sh_congr {F F' : Nat → Int32} (h : ∀ i, 6 ≤ i → i < 63 → F i = F' i) : sh F = sh F' := by
  funext i
  unfold sh
  split
  · exact h _ (by omega) (by omega)
  · rfl
theorem pk_congr {F F' : Nat → Int32} (h : ∀ i, 63 ≤ i → F i = F' i) : pk F = pk F' := by
  funext i
  unfold pk pkj
  rw [h _ (by omega), h _ (by omega), h _ (by omega)]
/-- the three rows stand for F -/
def LA (M : Mm) (F : Nat → Int32) : Prop := M 50 = gF F ∧ M 51 = sh F ∧ M 52 = pk F
theorem LA.g {M : Mm} {F : Nat → Int32} (h : LA M F) {i : Nat} (hi : i < 6) : M 50 i = F i := by rw [h.1]; exact gF_at F hi
theorem LA.v0 {M : Mm} {F : Nat → Int32} (h : LA M F) {v : Nat} (hv : v < 3) : M 51 (19 * v) = F (6 + 19 * v) := by rw [h.2.1]; exact sh_v0 F hv
theorem LA.v {M : Mm} {F : Nat → Int32} (h : LA M F) {v : Nat} (hv : v < 3) (j : Nat) (hj : j < 4) : M 51 (19 * v + j) = F (6 + 19 * v + j) := by rw [h.2.1]; exact sh_v F hv hj
theorem LA.z0 {M : Mm} {F : Nat → Int32} (h : LA M F) {v z : Nat} (hv : v < 3) (hz : z < 3) : M 51 (4 + 19 * v + 5 * z) = F (10 + 19 * v + 5 * z) := by rw [h.2.1]; exact sh_z0 F hv hz
theorem LA.z {M : Mm} {F : Nat → Int32} (h : LA M F) {v z : Nat} (hv : v < 3) (hz : z < 3) (j : Nat) (hj : j < 5) : M 51 (4 + 19 * v + 5 * z + j) = F (10 + 19 * v + 5 * z + j) := by rw [h.2.1]; exact sh_z F hv hz hj
theorem LA.p0 {M : Mm} {F : Nat → Int32} (h : LA M F) {p : Nat} (hp : p < 6) : M 52 (10 * p) = nI 3 * F (63 + 10 * p) + F (63 + 10 * p + 1) := by rw [h.2.2]; exact pk_0 F hp
theorem LA.p {M : Mm} {F : Nat → Int32} (h : LA M F) {p : Nat} (hp : p < 6) (j k : Nat) (h1 : 1 ≤ j) (h2 : j ≤ 8) (hk : k = j + 1) : M 52 (10 * p + j) = F (63 + 10 * p + k) := by rw [h.2.2]; exact pk_j F hp h1 h2 (by omega)
