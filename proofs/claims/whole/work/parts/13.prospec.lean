/-! ===== energies, speeds, braking distances and times, as the row f tells them ===== -/
theorem z_sqm {a b : Int} (h1 : 0 ≤ a) (h2 : a ≤ b) : 125 * a * a ≤ 125 * b * b := by
  rw [Int.mul_assoc, Int.mul_assoc]
  have h := Int.mul_le_mul h2 h2 h1 (by omega : 0 ≤ b)
  omega
theorem z_sq0 {a : Int} (h1 : 0 ≤ a) : 0 ≤ 125 * a * a := by
  have h := z_sqm (a := 0) (b := a) (by omega) h1
  omega
theorem z_sqb {v : Int} (h : 20 ≤ v ∧ v ≤ 160) : 50000 ≤ 125 * v * v ∧ 125 * v * v ≤ 3200000 := by
  have h1 := z_sqm (a := 20) (b := v) (by omega) h.1
  have h2 := z_sqm (a := v) (b := 160) (by omega) h.2
  omega
/-- what is lost in cell c; behind the line as in the last one -/
def zlost (f : Int → Int) (c : Int) : Int := 162 * (10 * f 1 + 10 * f (129 + (if c < f 0 then c else f 0 - 1)))
theorem zlost_b {f : Int → Int} (ok : OkF f) {c : Int} (h : 0 ≤ c) : 16200 ≤ zlost f c ∧ zlost f c ≤ 388800 := by
  obtain ⟨o0, o1, o2, o3, o4, o5, o7, o8, olim, ogrd, obar, oneed, opost⟩ := id ok
  unfold zlost
  by_cases h1 : c < f 0
  · rw [if_pos h1]
    have := ogrd c h (by omega)
    omega
  · rw [if_neg h1]
    have := ogrd (f 0 - 1) (by omega) (by omega)
    omega
/-- the greatest energy at cell c -/
abbrev zmost (f : Int → Int) (c : Int) : Int := 125 * f (9 + c) * f (9 + c)
theorem zmost_b {f : Int → Int} (ok : OkF f) {c : Int} (h : 0 ≤ c) (h2 : c < 120) : 50000 ≤ zmost f c ∧ zmost f c ≤ 3200000 := z_sqb (ok.2.2.2.2.2.2.2.2.1 c h h2)
def enr (f : Int → Int) : Nat → Int
  | 0 => zmost f (f 0 - 1)
  | k + 1 => if zmost f (f 0 - 1 - (k : Int)) < enr f k + zlost f (f 0 - 1 - (k : Int)) then zmost f (f 0 - 1 - (k : Int)) else enr f k + zlost f (f 0 - 1 - (k : Int))
/-- the energy at x -/
def enE (f : Int → Int) (x : Int) : Int := enr f (f 0 - x).toNat
theorem enE_top (f : Int → Int) : enE f (f 0) = zmost f (f 0 - 1) := by
  unfold enE
  rw [Int.sub_self]
  rfl
theorem enE_s {f : Int → Int} {x : Int} (h : x < f 0) : enE f x = if zmost f x < enE f (x + 1) + zlost f x then zmost f x else enE f (x + 1) + zlost f x := by
  unfold enE
  rw [show (f 0 - x).toNat = (f 0 - (x + 1)).toNat + 1 by omega]
  show (if zmost f (f 0 - 1 - ((f 0 - (x + 1)).toNat : Int)) < enr f (f 0 - (x + 1)).toNat + zlost f (f 0 - 1 - ((f 0 - (x + 1)).toNat : Int)) then zmost f (f 0 - 1 - ((f 0 - (x + 1)).toNat : Int)) else enr f (f 0 - (x + 1)).toNat + zlost f (f 0 - 1 - ((f 0 - (x + 1)).toNat : Int))) = _
  rw [show f 0 - 1 - ((f 0 - (x + 1)).toNat : Int) = x by omega]
theorem enE_b {f : Int → Int} (ok : OkF f) : ∀ x : Int, 0 ≤ x → x ≤ f 0 → 50000 ≤ enE f x ∧ enE f x ≤ 3200000 := by
  have o0 := ok.1
  refine z_indD (by rw [enE_top]; exact zmost_b ok (by omega) (by omega)) (fun x h1 h2 ih => ?_)
  rw [enE_s h2]
  have h3 := zmost_b ok h1 (by omega : x < 120)
  have h4 := zlost_b ok h1
  split <;> omega
/-- v is the speed of energy e -/
def IsV (e v : Int) : Prop := 0 ≤ v ∧ 125 * v * v ≤ e ∧ e < 125 * (v + 1) * (v + 1)
noncomputable def spd (e : Int) : Int := @Classical.epsilon Int ⟨0⟩ (IsV e)
theorem isV_lt {e v w : Int} (h : IsV e v) (h2 : IsV e w) : ¬ v < w := fun q => by
  have h3 := z_sqm (a := v + 1) (b := w) (by have := h.1; omega) (by omega)
  have h4 := h.2.2
  have h5 := h2.2.1
  omega
theorem spd_of {e v : Int} (h : IsV e v) : v = spd e := by
  have h2 : IsV e (spd e) := Classical.epsilon_spec (p := IsV e) ⟨v, h⟩
  have h3 := isV_lt h h2
  have h4 := isV_lt h2 h
  omega
theorem isV_ex {e : Int} (h : 0 ≤ e) : ∀ n : Int, 0 ≤ n → n ≤ 1000 → e < 125 * (n + 1) * (n + 1) → ∃ v : Int, IsV e v := by
  refine z_ind (fun h1 => ⟨0, Int.le_refl _, by omega, h1⟩) (fun n h1 h2 ih h3 => ?_)
  by_cases h4 : 125 * (n + 1) * (n + 1) ≤ e
  · exact ⟨n + 1, by omega, h4, h3⟩
  · exact ih (by omega)
theorem spd_is {e : Int} (h : 0 ≤ e ∧ e ≤ 3200000) : IsV e (spd e) := Classical.epsilon_spec (p := IsV e) (isV_ex h.1 160 (by omega) (by omega) (by omega))
theorem spd_b {e : Int} (h : 50000 ≤ e ∧ e ≤ 3200000) : 20 ≤ spd e ∧ spd e ≤ 160 := by
  obtain ⟨h1, h2, h3⟩ := spd_is (e := e) ⟨by omega, h.2⟩
  constructor
  · rcases Int.lt_or_le (spd e) 20 with q | q
    · have := z_sqm (a := spd e + 1) (b := 20) (by omega) (by omega)
      omega
    · exact q
  · rcases Int.lt_or_le 160 (spd e) with q | q
    · have := z_sqm (a := 161) (b := spd e) (by omega) (by omega)
      omega
    · exact q
/-- the profile speed at x -/
noncomputable def spV (f : Int → Int) (x : Int) : Int := spd (enE f x)
theorem spV_b {f : Int → Int} (ok : OkF f) {x : Int} (h1 : 0 ≤ x) (h2 : x ≤ f 0) : 20 ≤ spV f x ∧ spV f x ≤ 160 := spd_b (enE_b ok x h1 h2)
def cum (f : Int → Int) (a : Int) : Nat → Int
  | 0 => 0
  | k + 1 => cum f a k + zlost f (a + (k : Int))
/-- what is lost in n cells from a on -/
def zcum (f : Int → Int) (a n : Int) : Int := cum f a n.toNat
theorem zcum_s {f : Int → Int} {a n : Int} (h : 0 ≤ n) : zcum f a (n + 1) = zcum f a n + zlost f (a + n) := by
  unfold zcum
  rw [show (n + 1).toNat = n.toNat + 1 by omega]
  show cum f a n.toNat + zlost f (a + (n.toNat : Int)) = _
  rw [show (n.toNat : Int) = n by omega]
theorem zcum_b {f : Int → Int} (ok : OkF f) {a : Int} (h : 0 ≤ a) : ∀ n : Int, 0 ≤ n → n ≤ 1000000 → 16200 * n ≤ zcum f a n ∧ zcum f a n ≤ 388800 * n := by
  refine z_ind (by show 16200 * 0 ≤ (0 : Int) ∧ (0 : Int) ≤ 388800 * 0; omega) (fun n h1 h2 ih => ?_)
  rw [zcum_s h1]
  have := zlost_b ok (c := a + n) (by omega)
  omega
/-- n cells from a on are the least that lose e -/
def IsB (f : Int → Int) (a e n : Int) : Prop := 0 ≤ n ∧ e ≤ zcum f a n ∧ ∀ j : Int, 0 ≤ j → j < n → zcum f a j < e
noncomputable def brk (f : Int → Int) (a e : Int) : Int := @Classical.epsilon Int ⟨0⟩ (IsB f a e)
theorem isB_lt {f : Int → Int} {a e v w : Int} (h : IsB f a e v) (h2 : IsB f a e w) : ¬ v < w := fun q => by
  have h3 := h2.2.2 v h.1 q
  have h4 := h.2.1
  omega
theorem brk_of {f : Int → Int} {a e v : Int} (h : IsB f a e v) : v = brk f a e := by
  have h2 : IsB f a e (brk f a e) := Classical.epsilon_spec (p := IsB f a e) ⟨v, h⟩
  have h3 := isB_lt h h2
  have h4 := isB_lt h2 h
  omega
theorem brk_is {f : Int → Int} (ok : OkF f) {a e : Int} (ha : 0 ≤ a) (he : e ≤ 3200000) : IsB f a e (brk f a e) := by
  refine Classical.epsilon_spec (p := IsB f a e) ?_
  have key : ∀ n : Int, 0 ≤ n → n ≤ 1000 → (∃ v : Int, IsB f a e v) ∨ ∀ j : Int, 0 ≤ j → j < n → zcum f a j < e := by
    refine z_ind (Or.inr (fun j h1 h2 => by omega)) (fun n h1 h2 ih => ?_)
    rcases ih with q | q
    · exact Or.inl q
    · by_cases h3 : e ≤ zcum f a n
      · exact Or.inl ⟨n, h1, h3, q⟩
      · exact Or.inr (fun j h4 h5 => by
          by_cases h6 : j = n
          · rw [h6]; omega
          · exact q j h4 (by omega))
  rcases key 1000 (by omega) (by omega) with q | q
  · exact q
  · have h1 := q 999 (by omega) (by omega)
    have h2 := zcum_b ok ha 999 (by omega) (by omega)
    omega
theorem brk_b {f : Int → Int} (ok : OkF f) {a e : Int} (ha : 0 ≤ a) (he : 50000 ≤ e ∧ e ≤ 3200000) : 1 ≤ brk f a e ∧ brk f a e ≤ 198 := by
  obtain ⟨h1, h2, h3⟩ := brk_is ok ha he.2
  constructor
  · rcases Int.lt_or_le (brk f a e) 1 with q | q
    · rw [show brk f a e = 0 by omega] at h2
      have : zcum f a 0 = 0 := rfl
      omega
    · exact q
  · rcases Int.lt_or_le 198 (brk f a e) with q | q
    · have h4 := h3 198 (by omega) q
      have h5 := zcum_b ok ha 198 (by omega) (by omega)
      omega
    · exact q
/-- a / d, rounded up -/
def rup (a d : Int) : Int := (a + d - 1) / d
theorem rup_b {a d : Int} (ha : 0 ≤ a) (hd : 0 < d) : 0 ≤ rup a d ∧ rup a d ≤ a := by
  unfold rup
  refine ⟨Int.ediv_nonneg (by omega) (by omega), ?_⟩
  rcases Int.lt_or_le 0 a with q | q
  · have h1 : (a + d - 1) / d < a + 1 := Int.ediv_lt_of_lt_mul hd (by
      have h2 : a * 1 ≤ a * d := Int.mul_le_mul_of_nonneg_left (by omega) (by omega)
      have h3 : (a + 1) * d = a * d + d := by rw [Int.add_mul, Int.one_mul]
      omega)
    omega
  · rw [show a = 0 by omega, show 0 + d - 1 = d - 1 by omega, Int.ediv_eq_zero_of_lt (by omega) (by omega)]
    omega
/-- the cells of the reaction at x -/
noncomputable def reaC (f : Int → Int) (x : Int) : Int := rup (spV f x * f 2) 1800
theorem reaM_b {f : Int → Int} (ok : OkF f) {x : Int} (h1 : 0 ≤ x) (h2 : x ≤ f 0) : 0 ≤ spV f x * f 2 ∧ spV f x * f 2 ≤ 16000 := by
  have h3 := spV_b ok h1 h2
  have h4 := ok.2.2.1
  constructor
  · exact Int.mul_nonneg (by omega) (by omega)
  · have := Int.mul_le_mul h3.2 h4.2 h4.1 (by omega : (0 : Int) ≤ 160)
    omega
theorem reaC_b {f : Int → Int} (ok : OkF f) {x : Int} (h1 : 0 ≤ x) (h2 : x ≤ f 0) : 0 ≤ reaC f x ∧ reaC f x ≤ 9 := by
  have h3 := reaM_b ok h1 h2
  unfold reaC rup
  generalize spV f x * f 2 = z at h3
  omega
/-- the braking distance at x -/
noncomputable def brD (f : Int → Int) (x : Int) : Int := reaC f x + brk f (x + reaC f x) (enE f x)
theorem brD_b {f : Int → Int} (ok : OkF f) {x : Int} (h1 : 0 ≤ x) (h2 : x ≤ f 0) : 1 ≤ brD f x ∧ brD f x ≤ 207 := by
  have h3 := reaC_b ok h1 h2
  have h4 := brk_b ok (a := x + reaC f x) (by omega) (enE_b ok x h1 h2)
  unfold brD
  omega
noncomputable def tim (f : Int → Int) : Nat → Int
  | 0 => 0
  | k + 1 => tim f k + rup 180000 (spV f (k : Int))
/-- the travel time from 0 to x -/
noncomputable def tiT (f : Int → Int) (x : Int) : Int := tim f x.toNat
theorem tiT_0 (f : Int → Int) : tiT f 0 = 0 := rfl
theorem tiT_s {f : Int → Int} {x : Int} (h : 0 ≤ x) : tiT f (x + 1) = tiT f x + rup 180000 (spV f x) := by
  unfold tiT
  rw [show (x + 1).toNat = x.toNat + 1 by omega]
  show tim f x.toNat + rup 180000 (spV f (x.toNat : Int)) = _
  rw [show (x.toNat : Int) = x by omega]
theorem rup_v {v : Int} (h : 20 ≤ v ∧ v ≤ 160) : 1125 ≤ rup 180000 v ∧ rup 180000 v ≤ 9000 := by
  unfold rup
  constructor
  · refine Int.le_ediv_of_mul_le (by omega) (by omega)
  · have h1 : (180000 + v - 1) / v < 9001 := Int.ediv_lt_of_lt_mul (by omega) (by omega)
    omega
theorem tiT_b {f : Int → Int} (ok : OkF f) : ∀ x : Int, 0 ≤ x → x ≤ f 0 → 1125 * x ≤ tiT f x ∧ tiT f x ≤ 9000 * x := by
  refine z_ind (by rw [tiT_0]; omega) (fun x h1 h2 ih => ?_)
  rw [tiT_s h1]
  have := rup_v (spV_b ok h1 (by omega : x ≤ f 0))
  omega
theorem tiT_lt {f : Int → Int} (ok : OkF f) {x y : Int} (h1 : 0 ≤ x) (h2 : x < y) (h3 : y ≤ f 0) : tiT f x < tiT f y := by
  have key := z_ind (P := fun k => x + 1 + k ≤ f 0 → tiT f x < tiT f (x + 1 + k)) (n := 1000) (fun h => by
    rw [Int.add_zero, tiT_s h1]
    have := rup_v (spV_b ok h1 (by omega : x ≤ f 0))
    omega) (fun k h4 _ ih h6 => by
    have h7 := ih (by omega)
    rw [show x + 1 + (k + 1) = (x + 1 + k) + 1 by omega, tiT_s (by omega)]
    have := rup_v (spV_b ok (by omega : 0 ≤ x + 1 + k) (by omega))
    omega) (y - x - 1) (by omega) (by have := ok.1; omega)
  have h5 := key (by omega)
  rw [show x + 1 + (y - x - 1) = y by omega] at h5
  exact h5
/-- rows that hold the profile of f -/
def PrOk (f ge gv gd gt : Int → Int) : Prop := ∀ x : Int, 0 ≤ x → x ≤ f 0 → ge x = enE f x ∧ gv x = spV f x ∧ gd x = brD f x ∧ gt x = tiT f x
/-- from where a post at x is seen -/
def sgt (f : Int → Int) (x : Int) : Int := if f 7 < x then x - f 7 else 0
theorem sgt_b {f : Int → Int} (ok : OkF f) {x : Int} (h : 0 ≤ x) : 0 ≤ sgt f x ∧ sgt f x ≤ x := by
  have := ok.2.2.2.2.2.2.1
  unfold sgt
  split <;> omega
/-- up to where a block reaches whose last post is at y -/
def bto (f : Int → Int) (y : Int) : Int := if y + f 8 + f 3 < f 0 then y + f 8 + f 3 else f 0
/-- the block time of post i of the n posts ps, with times gt -/
def blk (f ps gt : Int → Int) (n i : Int) : Int := if n ≤ i + f 4 - 1 then -1 else gt (bto f (ps (i + f 4 - 1))) - gt (sgt f (ps i))
def hwN (f ps gt : Int → Int) (n : Int) : Nat → Int
  | 0 => -1
  | k + 1 => if hwN f ps gt n k < blk f ps gt n (k : Int) then blk f ps gt n (k : Int) else hwN f ps gt n k
/-- the greatest block time of the first i posts -/
def hwy (f ps gt : Int → Int) (n i : Int) : Int := hwN f ps gt n i.toNat
theorem hwy_s {f ps gt : Int → Int} {n i : Int} (h : 0 ≤ i) : hwy f ps gt n (i + 1) = if hwy f ps gt n i < blk f ps gt n i then blk f ps gt n i else hwy f ps gt n i := by
  unfold hwy
  rw [show (i + 1).toNat = i.toNat + 1 by omega]
  show (if hwN f ps gt n i.toNat < blk f ps gt n (i.toNat : Int) then blk f ps gt n (i.toNat : Int) else hwN f ps gt n i.toNat) = _
  rw [show (i.toNat : Int) = i by omega]
/-- powers of two -/
def p2 (b : Int) : Int := 2 ^ b.toNat
theorem p2_s {b : Int} (h : 0 ≤ b) : p2 (b + 1) = p2 b + p2 b := by
  unfold p2
  rw [show (b + 1).toNat = b.toNat + 1 by omega, Int.pow_succ]
  omega
theorem p2_b {b : Int} (h : 0 ≤ b ∧ b ≤ 8) : 1 ≤ p2 b ∧ p2 b ≤ 256 := by
  rcases (by omega : b = 0 ∨ b = 1 ∨ b = 2 ∨ b = 3 ∨ b = 4 ∨ b = 5 ∨ b = 6 ∨ b = 7 ∨ b = 8) with rfl | rfl | rfl | rfl | rfl | rfl | rfl | rfl | rfl <;> decide
theorem p2_is {b : Int} (h : 0 ≤ b ∧ b ≤ 7) : zI 1 <<< (zI b &&& 31) = zI (p2 b) := by
  rcases (by omega : b = 0 ∨ b = 1 ∨ b = 2 ∨ b = 3 ∨ b = 4 ∨ b = 5 ∨ b = 6 ∨ b = 7) with rfl | rfl | rfl | rfl | rfl | rfl | rfl | rfl <;> decide +kernel
section ZS
variable {p : Program} {l : Launch} {e : Env} {R : Room} {s : State} {m : MethodId} {args : Array Value} {below : List Frame} {meth : Method} {c : Code} {H : Heap} {locs : List Loc} {cells slots : Nat} {Q : State → Prop}
variable {cc : ByteArray} {pc : Nat} {ls : Array Slot} {rest : List Value}
theorem z_ishl1 (hx : p.tables.exec = Jvm.exec) (hb : c.code = cc) {b : Int} (hdg : decode cc pc = .ok (.ishl, 1)) (h : 0 ≤ b ∧ b ≤ 7) (k : W p l e R s m args below meth c H locs cells slots Q (F0 m (pc + 1) ls (.int (zI (p2 b)) :: rest))) : W p l e R s m args below meth c H locs cells slots Q (F0 m pc ls (.int (zI b) :: .int (zI 1) :: rest)) := lv_ishl hx hb hdg (by rw [p2_is h]; exact k)
end ZS
