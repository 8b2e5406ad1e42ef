/-! ===== base: whole numbers as Int, rows of numbers as functions of Int ===== -/
def zI (a : Int) : Int32 := Int32.ofInt a
def zL (a : Int) : Int64 := Int64.ofInt a
def zA (g : Int → Int) : Nat → Int32 := fun j => zI (g (j : Int))
def zAL (g : Int → Int) : Nat → Int64 := fun j => zL (g (j : Int))
def zup (g : Int → Int) (k v : Int) : Int → Int := fun j => if j = k then v else g j
noncomputable def zB (P : Prop) : Int := @ite Int P (Classical.propDecidable P) 1 0
theorem zB_t {P : Prop} (h : P) : zB P = 1 := by unfold zB; exact if_pos h
theorem zB_f {P : Prop} (h : ¬ P) : zB P = 0 := by unfold zB; exact if_neg h
theorem zB_iff {P Q : Prop} (h : P ↔ Q) : zB P = zB Q := by rw [propext h]
theorem zB_01 (P : Prop) : zB P = 0 ∨ zB P = 1 := (Classical.em P).elim (fun h => Or.inr (zB_t h)) (fun h => Or.inl (zB_f h))
theorem zB_1 {P : Prop} : zB P = 1 ↔ P := ⟨fun h => (Classical.em P).elim id (fun n => by rw [zB_f n] at h; exact absurd h (by decide)), zB_t⟩
theorem zB_0 {P : Prop} : zB P = 0 ↔ ¬ P := ⟨fun h p => by rw [zB_t p] at h; exact absurd h (by decide), zB_f⟩
theorem zB_n0 {P : Prop} : zB P ≠ 0 ↔ P := ⟨fun h => (Classical.em P).elim id (fun n => absurd (zB_f n) h), fun p h => by rw [zB_t p] at h; exact absurd h (by decide)⟩
theorem zup_at (g : Int → Int) (k v : Int) : zup g k v k = v := if_pos rfl
theorem zup_ne {g : Int → Int} {k v j : Int} (h : j ≠ k) : zup g k v j = g j := if_neg h
theorem zx_up {g h : Int → Int} {i v : Int} (hg : ∀ x : Int, 0 ≤ x → x < i → g x = h x) (hv : v = h i) : ∀ x : Int, 0 ≤ x → x < i + 1 → zup g i v x = h x := fun x h1 h2 => by
  by_cases hx : x = i
  · rw [hx, zup_at, hv]
  · rw [zup_ne hx]; exact hg x h1 (by omega)
theorem z_ifc {α : Type} {c d : Prop} [Decidable c] [Decidable d] {a b : α} (h : c ↔ d) : (if c then a else b) = (if d then a else b) := by
  by_cases hc : c
  · rw [if_pos hc, if_pos (h.mp hc)]
  · rw [if_neg hc, if_neg (fun q => hc (h.mpr q))]
theorem zI_add (a b : Int) : zI (a + b) = zI a + zI b := Int32.ofInt_add a b
theorem zI_sub (a b : Int) : zI (a - b) = zI a - zI b := Int32.ofInt_sub a b
theorem zI_mul (a b : Int) : zI (a * b) = zI a * zI b := Int32.ofInt_mul a b
theorem zL_add (a b : Int) : zL (a + b) = zL a + zL b := Int64.ofInt_add a b
theorem zL_sub (a b : Int) : zL (a - b) = zL a - zL b := Int64.ofInt_sub a b
theorem zL_mul (a b : Int) : zL (a * b) = zL a * zL b := Int64.ofInt_mul a b
theorem zI_int {a : Int} (h : -2147483648 ≤ a ∧ a < 2147483648) : (zI a).toInt = a := Int32.toInt_ofInt_of_le (by omega) (by omega)
theorem zL_int {a : Int} (h : -9223372036854775808 ≤ a ∧ a < 9223372036854775808) : (zL a).toInt = a := Int64.toInt_ofInt_of_le (by omega) (by omega)
theorem zI_lt {a b : Int} (ha : -2147483648 ≤ a ∧ a < 2147483648) (hb : -2147483648 ≤ b ∧ b < 2147483648) : zI a < zI b ↔ a < b := by rw [Int32.lt_iff_toInt_lt, zI_int ha, zI_int hb]
theorem zI_le {a b : Int} (ha : -2147483648 ≤ a ∧ a < 2147483648) (hb : -2147483648 ≤ b ∧ b < 2147483648) : zI a ≤ zI b ↔ a ≤ b := by rw [Int32.le_iff_toInt_le, zI_int ha, zI_int hb]
theorem zI_eq {a b : Int} (ha : -2147483648 ≤ a ∧ a < 2147483648) (hb : -2147483648 ≤ b ∧ b < 2147483648) : zI a = zI b ↔ a = b := by rw [← Int32.toInt_inj, zI_int ha, zI_int hb]
theorem zL_lt {a b : Int} (ha : -9223372036854775808 ≤ a ∧ a < 9223372036854775808) (hb : -9223372036854775808 ≤ b ∧ b < 9223372036854775808) : zL a < zL b ↔ a < b := by rw [Int64.lt_iff_toInt_lt, zL_int ha, zL_int hb]
theorem zL_le {a b : Int} (ha : -9223372036854775808 ≤ a ∧ a < 9223372036854775808) (hb : -9223372036854775808 ≤ b ∧ b < 9223372036854775808) : zL a ≤ zL b ↔ a ≤ b := by rw [Int64.le_iff_toInt_le, zL_int ha, zL_int hb]
theorem zL_eq {a b : Int} (ha : -9223372036854775808 ≤ a ∧ a < 9223372036854775808) (hb : -9223372036854775808 ≤ b ∧ b < 9223372036854775808) : zL a = zL b ↔ a = b := by rw [← Int64.toInt_inj, zL_int ha, zL_int hb]
theorem zI_as (x : Int32) : ∃ a : Int, x = zI a ∧ -2147483648 ≤ a ∧ a < 2147483648 := by
  have h1 := Int32.le_toInt x
  have h2 := Int32.toInt_lt x
  exact ⟨x.toInt, (Int32.ofInt_toInt x).symm, by omega, by omega⟩
theorem zI_cl {i : Int} (h : 0 ≤ i ∧ i < 2147483648) : ((zI i).toNatClampNeg : Int) = i := by
  show (((zI i).toInt.toNat : Nat) : Int) = i
  rw [zI_int ⟨by omega, h.2⟩]
  omega
theorem zA_rd {g : Int → Int} {i : Int} (h : 0 ≤ i ∧ i < 2147483648) : zA g (zI i).toNatClampNeg = zI (g i) := by
  show zI (g ((zI i).toNatClampNeg : Int)) = _
  rw [zI_cl h]
theorem zAL_rd {g : Int → Int} {i : Int} (h : 0 ≤ i ∧ i < 2147483648) : zAL g (zI i).toNatClampNeg = zL (g i) := by
  show zL (g ((zI i).toNatClampNeg : Int)) = _
  rw [zI_cl h]
theorem zA_up {g : Int → Int} {i v : Int} (h : 0 ≤ i ∧ i < 2147483648) : upd (zA g) (zI i).toNatClampNeg (zI v) = zA (zup g i v) := by
  have hc := zI_cl h
  funext j
  show (if j = (zI i).toNatClampNeg then zI v else zI (g (j : Int))) = zI (if (j : Int) = i then v else g (j : Int))
  by_cases hj : (j : Int) = i
  · rw [if_pos (by omega), if_pos hj]
  · rw [if_neg (by omega), if_neg hj]
theorem zAL_up {g : Int → Int} {i v : Int} (h : 0 ≤ i ∧ i < 2147483648) : vp_updL (zAL g) (zI i).toNatClampNeg (zL v) = zAL (zup g i v) := by
  have hc := zI_cl h
  funext j
  show (if j = (zI i).toNatClampNeg then zL v else zL (g (j : Int))) = zL (if (j : Int) = i then v else g (j : Int))
  by_cases hj : (j : Int) = i
  · rw [if_pos (by omega), if_pos hj]
  · rw [if_neg (by omega), if_neg hj]
theorem z_in {i : Int} {n : Nat} (h : 0 ≤ i ∧ i < (n : Int)) (hn : n < 2147483648) : vp_in (zI i) n := vp_in_iff.mpr (by rw [zI_int ⟨by omega, by omega⟩]; exact h)
theorem zI_div {a b : Int} (ha : 0 ≤ a ∧ a < 2147483648) (hb : 0 < b ∧ b < 2147483648) : zI a / zI b = zI (a / b) := by
  have h := Int32.ofInt_tdiv (a := a) (b := b) (by rw [Int32.toInt_minValue]; omega) (by rw [Int32.toInt_maxValue]; omega) (by rw [Int32.toInt_minValue]; omega) (by rw [Int32.toInt_maxValue]; omega)
  rw [Int.tdiv_eq_ediv_of_nonneg ha.1] at h
  exact h.symm
theorem zI_l {a : Int} (h : -2147483648 ≤ a ∧ a < 2147483648) : (zI a).toInt64 = zL a := Int32.toInt64_ofInt (by rw [Int32.toInt_minValue]; omega) (by rw [Int32.toInt_maxValue]; omega)
theorem zI_and31 (a : Int) : ∃ k : Int, zI a &&& 31 = zI k ∧ 0 ≤ k ∧ k < 32 := by
  obtain ⟨j, h1, h2⟩ := pk_andE (zI a) (m := 31) 5 (by decide)
  exact ⟨(j : Int), by rw [h2]; exact (Int32.ofInt_eq_ofNat).symm, by omega, by omega⟩
/-- a comparison of longs, as a number -/
def zcmp (a b : Int) : Int := if b < a then 1 else if a = b then 0 else -1
theorem zcmp_is {a b : Int} (ha : -9223372036854775808 ≤ a ∧ a < 9223372036854775808) (hb : -9223372036854775808 ≤ b ∧ b < 9223372036854775808) : lg_cmp (zL a) (zL b) = zI (zcmp a b) := by
  unfold lg_cmp zcmp
  by_cases h1 : b < a
  · rw [if_pos ((zL_lt hb ha).mpr h1), if_pos h1]; rfl
  · rw [if_neg (fun q => h1 ((zL_lt hb ha).mp q)), if_neg h1]
    by_cases h2 : a = b
    · rw [if_pos ((zL_eq ha hb).mpr h2), if_pos h2]; rfl
    · rw [if_neg (fun q => h2 ((zL_eq ha hb).mp q)), if_neg h2]; rfl
theorem zcmp_cases (a b : Int) : (b < a ∧ zcmp a b = 1) ∨ (a = b ∧ zcmp a b = 0) ∨ (a < b ∧ zcmp a b = -1) := by
  unfold zcmp
  by_cases h1 : b < a
  · exact Or.inl ⟨h1, if_pos h1⟩
  · by_cases h2 : a = b
    · exact Or.inr (Or.inl ⟨h2, by rw [if_neg h1, if_pos h2]⟩)
    · exact Or.inr (Or.inr ⟨by omega, by rw [if_neg h1, if_neg h2]⟩)
/-! worlds -/
abbrev zT (cI cJ cS : ClassId) : List (ClassId × FieldType) := [(cI, .int), (cJ, .long), (cS, .object "SignalSpacing$State")]
def zPc (D : va_G) (T : List (ClassId × FieldType)) (av : List Value) (ws : va_W) : Array Value → State → Prop := fun v U => v = av.toArray ∧ va_P D vwCl ws U.heap ∧ va_K D vwCl T U ∧ va_D (fun _ => True) ws
theorem zPc_blind {D : va_G} {T : List (ClassId × FieldType)} {av : List Value} {ws : va_W} : FrameBlind (zPc D T av ws) := fun a U g mk q => ⟨q.1, q.2.1, va_K.moved (u := U) (U := U.calling g mk a) (Vm.Alike.refl U.vm) q.2.2.1, q.2.2.2⟩
def zAd (ws : va_W) : Nat → Prop := fun q => ∃ (k : Nat) (e : va_E), ws[k]? = some (q, e)
theorem zD_self {A : Nat → Prop} {ws : va_W} (h : va_D A ws) : va_D (zAd ws) ws := ⟨h.1, fun k q hk => ⟨k, q.2, hk⟩⟩
/-- addresses apart: that speaks of the addresses alone -/
theorem zD {A : Nat → Prop} {ws ws' : va_W} (h : va_D A ws) (e : ws'.map Prod.fst = ws.map Prod.fst) : va_D A ws' := by
  have key : ∀ (k : Nat) (q : Nat × va_E), ws'[k]? = some q → ∃ q0, ws[k]? = some q0 ∧ q0.1 = q.1 := by
    intro k q hk
    have h1 : (ws'.map Prod.fst)[k]? = some q.1 := by rw [List.getElem?_map, hk]; rfl
    rw [e, List.getElem?_map] at h1
    cases hq : ws[k]? with
    | none => rw [hq] at h1; cases h1
    | some q0 => rw [hq] at h1; exact ⟨q0, rfl, Option.some.inj h1⟩
  refine ⟨fun i j x y hi hj hxy => ?_, fun k q hk => ?_⟩
  · obtain ⟨x0, h1, h2⟩ := key i x hi
    obtain ⟨y0, h3, h4⟩ := key j y hj
    exact h.1 i j x0 y0 h1 h3 (h2.trans (hxy.trans h4.symm))
  · obtain ⟨q0, h1, h2⟩ := key k q hk
    rw [← h2]
    exact h.2 k q0 h1
def zput : va_W → List Nat → va_W → va_W
  | ws, i :: is, x :: xs => zput (ws.set i x) is xs
  | ws, _, _ => ws
theorem zput_get : ∀ (is : List Nat) (w1 ws : va_W) (k : Nat) (q : Nat × va_E), (zput ws is w1)[k]? = some q → is.length = w1.length → q ∈ w1 ∨ (k ∉ is ∧ ws[k]? = some q)
  | [], [], ws, k, q, h, _ => Or.inr ⟨List.not_mem_nil, h⟩
  | [], _ :: _, _, _, _, _, hl => by simp at hl
  | _ :: _, [], _, _, _, _, hl => by simp at hl
  | i :: is, x :: xs, ws, k, q, h, hl => by
    rcases zput_get is xs (ws.set i x) k q h (by simpa using hl) with h1 | ⟨h1, h2⟩
    · exact Or.inl (List.mem_cons_of_mem _ h1)
    · by_cases hk : k = i
      · subst hk
        have hlt := (List.getElem?_eq_some_iff.mp h2).1
        rw [List.length_set] at hlt
        rw [List.getElem?_set_self hlt] at h2
        cases h2
        exact Or.inl List.mem_cons_self
      · rw [List.getElem?_set_ne (Ne.symm hk)] at h2
        exact Or.inr ⟨fun hm => (List.mem_cons.mp hm).elim hk h1, h2⟩
theorem zput_P {D : va_G} {A : Nat → Prop} {ws Wc w1 : va_W} {H H1 : Heap} (isC : List Nat) (hP : va_P D vwCl ws H) (hD : va_D A ws) (hC : isC.map (fun i => ws[i]?) = Wc.map some) (hP1 : va_P D vwCl w1 H1) (hlen : isC.length = w1.length) (hk : ∀ q : Nat, q < H.size → ¬ zAd Wc q → H1[q]? = H[q]?) : va_P D vwCl (zput ws isC w1) H1 := by
  intro k q hq
  rcases zput_get isC w1 ws k q hq hlen with h1 | ⟨h1, h2⟩
  · obtain ⟨j, hj⟩ := List.getElem?_of_mem h1
    exact hP1 j q hj
  · refine (hP k q h2).kept (hk q.1 (hP k q h2).lt (fun ha => ?_))
    obtain ⟨k2, e, h3⟩ := ha
    have h4 : (isC.map (fun i => ws[i]?))[k2]? = some (some (q.1, e)) := by rw [hC, List.getElem?_map, h3]; rfl
    rw [List.getElem?_map] at h4
    cases hi : isC[k2]? with
    | none => rw [hi] at h4; cases h4
    | some i =>
      rw [hi] at h4
      have h5 : ws[i]? = some (q.1, e) := Option.some.inj h4
      have h6 := hD.1 k i q (q.1, e) h2 h5 rfl
      subst h6
      exact h1 (List.mem_of_getElem? hi)
theorem zAd_in {A : Nat → Prop} {ws Wc : va_W} (isC : List Nat) (hD : va_D A ws) (hC : isC.map (fun i => ws[i]?) = Wc.map some) : ∀ q, zAd Wc q → A q := by
  intro q ha
  obtain ⟨k2, e, h3⟩ := ha
  have h4 : (isC.map (fun i => ws[i]?))[k2]? = some (some (q, e)) := by rw [hC, List.getElem?_map, h3]; rfl
  rw [List.getElem?_map] at h4
  cases hi : isC[k2]? with
  | none => rw [hi] at h4; cases h4
  | some i => rw [hi] at h4; exact hD.2 i (q, e) (Option.some.inj h4)
/-- a part of a world, by its places -/
theorem zsub {D : va_G} {ws Wc : va_W} {H : Heap} (isC : List Nat) (hP : va_P D vwCl ws H) (hC : isC.map (fun i => ws[i]?) = Wc.map some) : va_P D vwCl Wc H := by
  intro k q hq
  have h4 : (isC.map (fun i => ws[i]?))[k]? = some (some q) := by rw [hC, List.getElem?_map, hq]; rfl
  rw [List.getElem?_map] at h4
  cases hi : isC[k]? with
  | none => rw [hi] at h4; cases h4
  | some i => rw [hi] at h4; exact hP i q (Option.some.inj h4)
/-- a row's contents count below its length alone -/
theorem zcell {cI : ClassId} {n : Nat} {g g' : Int → Int} (h : ∀ j : Int, 0 ≤ j → j < (n : Int) → g j = g' j) : vp_cell cI (n, .inl (zA g)) = vp_cell cI (n, .inl (zA g')) := by
  rw [vp_cell_i, vp_cell_i]
  unfold arrV
  congr 1
  refine congrArg _ (funext fun j => ?_)
  show Value.int (zI (g ((j.val : Nat) : Int))) = Value.int (zI (g' ((j.val : Nat) : Int)))
  rw [h _ (by omega) (by have := j.isLt; omega)]
theorem zcellL {cI : ClassId} {n : Nat} {g g' : Int → Int} (h : ∀ j : Int, 0 ≤ j → j < (n : Int) → g j = g' j) : vp_cell cI (n, .inr (.inl (zAL g))) = vp_cell cI (n, .inr (.inl (zAL g'))) := by
  rw [vp_cell_l, vp_cell_l]
  unfold arrV
  congr 1
  refine congrArg _ (funext fun j => ?_)
  show Value.long (zL (g ((j.val : Nat) : Int))) = Value.long (zL (g' ((j.val : Nat) : Int)))
  rw [h _ (by omega) (by have := j.isLt; omega)]
/-- one cell of a world told in other words -/
theorem zre {D : va_G} {ws : va_W} {H : Heap} (k : Nat) {a n : Nat} {cI : ClassId} {g g' : Int → Int} (hP : va_P D vwCl ws H) (hk : ws[k]? = some (a, .inl (cI, n, .inl (zA g)))) (h : ∀ j : Int, 0 ≤ j → j < (n : Int) → g j = g' j) : va_P D vwCl (ws.set k (a, .inl (cI, n, .inl (zA g')))) H := by
  have hl := (List.getElem?_eq_some_iff.mp hk).1
  intro i q hq
  by_cases hi : i = k
  · subst hi
    rw [List.getElem?_set_self hl] at hq
    cases hq
    show H[a]? = some (vp_cell cI (n, .inl (zA g')))
    rw [← zcell h]
    exact hP i _ hk
  · rw [List.getElem?_set_ne (Ne.symm hi)] at hq
    exact hP i q hq
/-! rows of instructions -/
section ZV
variable {p : Program} {l : Launch} {e : Env} {R : Room} {s : State} {m : MethodId} {args : Array Value} {below : List Frame} {meth : Method} {c : Code} {H : Heap} {locs : List Loc} {cells slots : Nat} {Q : State → Prop}
variable {cc : ByteArray} {pc : Nat} {ls : Array Slot} {rest : List Value}
theorem z_iconst (hx : p.tables.exec = Jvm.exec) (hb : c.code = cc) {n : Int} (hdg : decode cc pc = .ok (.iconst n, 1)) (k : W p l e R s m args below meth c H locs cells slots Q (F0 m (pc + 1) ls (.int (zI n) :: rest))) : W p l e R s m args below meth c H locs cells slots Q (F0 m pc ls rest) := lv_iconst hx hb hdg rfl k
theorem z_bipush (hx : p.tables.exec = Jvm.exec) (hb : c.code = cc) {n : Int} (hdg : decode cc pc = .ok (.bipush n, 2)) (hv : (Int8.ofInt n).toInt32 = zI n) (k : W p l e R s m args below meth c H locs cells slots Q (F0 m (pc + 2) ls (.int (zI n) :: rest))) : W p l e R s m args below meth c H locs cells slots Q (F0 m pc ls rest) := lv_bipush hx hb hdg hv k
theorem z_sipush (hx : p.tables.exec = Jvm.exec) (hb : c.code = cc) {n : Int} (hdg : decode cc pc = .ok (.sipush n, 3)) (hv : (Int16.ofInt n).toInt32 = zI n) (k : W p l e R s m args below meth c H locs cells slots Q (F0 m (pc + 3) ls (.int (zI n) :: rest))) : W p l e R s m args below meth c H locs cells slots Q (F0 m pc ls rest) := lv_sipush hx hb hdg hv k
theorem z_iadd (hx : p.tables.exec = Jvm.exec) (hb : c.code = cc) {a b : Int} (hdg : decode cc pc = .ok (.iadd, 1)) (k : W p l e R s m args below meth c H locs cells slots Q (F0 m (pc + 1) ls (.int (zI (a + b)) :: rest))) : W p l e R s m args below meth c H locs cells slots Q (F0 m pc ls (.int (zI b) :: .int (zI a) :: rest)) := lv_iadd hx hb hdg (by rw [← zI_add]; exact k)
theorem z_isub (hx : p.tables.exec = Jvm.exec) (hb : c.code = cc) {a b : Int} (hdg : decode cc pc = .ok (.isub, 1)) (k : W p l e R s m args below meth c H locs cells slots Q (F0 m (pc + 1) ls (.int (zI (a - b)) :: rest))) : W p l e R s m args below meth c H locs cells slots Q (F0 m pc ls (.int (zI b) :: .int (zI a) :: rest)) := lv_isub hx hb hdg (by rw [← zI_sub]; exact k)
theorem z_imul (hx : p.tables.exec = Jvm.exec) (hb : c.code = cc) {a b : Int} (hdg : decode cc pc = .ok (.imul, 1)) (k : W p l e R s m args below meth c H locs cells slots Q (F0 m (pc + 1) ls (.int (zI (a * b)) :: rest))) : W p l e R s m args below meth c H locs cells slots Q (F0 m pc ls (.int (zI b) :: .int (zI a) :: rest)) := lv_imul hx hb hdg (by rw [← zI_mul]; exact k)
theorem z_idiv (hx : p.tables.exec = Jvm.exec) (hb : c.code = cc) {a b : Int} (hdg : decode cc pc = .ok (.idiv, 1)) (ha : 0 ≤ a ∧ a < 2147483648) (hb2 : 0 < b ∧ b < 2147483648) (k : W p l e R s m args below meth c H locs cells slots Q (F0 m (pc + 1) ls (.int (zI (a / b)) :: rest))) : W p l e R s m args below meth c H locs cells slots Q (F0 m pc ls (.int (zI b) :: .int (zI a) :: rest)) := lv_idiv hx hb hdg (fun q => by have h := (zI_eq (a := b) (b := 0) ⟨by omega, by omega⟩ ⟨by omega, by omega⟩).mp q; omega) (by rw [zI_div ha hb2]; exact k)
theorem z_ladd (hx : p.tables.exec = Jvm.exec) (hb : c.code = cc) {a b : Int} (hdg : decode cc pc = .ok (.ladd, 1)) (k : W p l e R s m args below meth c H locs cells slots Q (F0 m (pc + 1) ls (.long (zL (a + b)) :: rest))) : W p l e R s m args below meth c H locs cells slots Q (F0 m pc ls (.long (zL b) :: .long (zL a) :: rest)) := lv_ladd hx hb hdg (by rw [← zL_add]; exact k)
theorem z_lsub (hx : p.tables.exec = Jvm.exec) (hb : c.code = cc) {a b : Int} (hdg : decode cc pc = .ok (.lsub, 1)) (k : W p l e R s m args below meth c H locs cells slots Q (F0 m (pc + 1) ls (.long (zL (a - b)) :: rest))) : W p l e R s m args below meth c H locs cells slots Q (F0 m pc ls (.long (zL b) :: .long (zL a) :: rest)) := lv_lsub hx hb hdg (by rw [← zL_sub]; exact k)
theorem z_lmul (hx : p.tables.exec = Jvm.exec) (hb : c.code = cc) {a b : Int} (hdg : decode cc pc = .ok (.lmul, 1)) (k : W p l e R s m args below meth c H locs cells slots Q (F0 m (pc + 1) ls (.long (zL (a * b)) :: rest))) : W p l e R s m args below meth c H locs cells slots Q (F0 m pc ls (.long (zL b) :: .long (zL a) :: rest)) := lv_lmul hx hb hdg (by rw [← zL_mul]; exact k)
theorem z_lconst (hx : p.tables.exec = Jvm.exec) (hb : c.code = cc) {n : Fin 2} (v : Int) (hdg : decode cc pc = .ok (.lconst n, 1)) (hv : Int64.ofNat (n : Nat) = zL v) (k : W p l e R s m args below meth c H locs cells slots Q (F0 m (pc + 1) ls (.long (zL v) :: rest))) : W p l e R s m args below meth c H locs cells slots Q (F0 m pc ls rest) := lv_lconst hx hb hdg hv k
theorem z_i2l (hx : p.tables.exec = Jvm.exec) (hb : c.code = cc) {a : Int} (hdg : decode cc pc = .ok (.i2l, 1)) (ha : -2147483648 ≤ a ∧ a < 2147483648) (k : W p l e R s m args below meth c H locs cells slots Q (F0 m (pc + 1) ls (.long (zL a) :: rest))) : W p l e R s m args below meth c H locs cells slots Q (F0 m pc ls (.int (zI a) :: rest)) := lv_i2l hx hb hdg (zI_l ha) k
theorem z_lcmp (hx : p.tables.exec = Jvm.exec) (hb : c.code = cc) {a b : Int} (hdg : decode cc pc = .ok (.lcmp, 1)) (ha : -9223372036854775808 ≤ a ∧ a < 9223372036854775808) (hb2 : -9223372036854775808 ≤ b ∧ b < 9223372036854775808) (k : W p l e R s m args below meth c H locs cells slots Q (F0 m (pc + 1) ls (.int (zI (zcmp a b)) :: rest))) : W p l e R s m args below meth c H locs cells slots Q (F0 m pc ls (.long (zL b) :: .long (zL a) :: rest)) := W.lcmp hx hb hdg (by rw [zcmp_is ha hb2]; exact k)
theorem z_ldc (hx : p.tables.exec = Jvm.exec) (hb : c.code = cc) {own : String} {index : Nat} {v : Int32} (n : Int) (hown : s.vm.findClass own = some m.cls) (hconst : (Jvm.Cond.constant own index v).before args s = true) (hv : v = zI n) (hdg : decode cc pc = .ok (.ldc index, 2)) (k : W p l e R s m args below meth c H locs cells slots Q (F0 m (pc + 2) ls (.int (zI n) :: rest))) : W p l e R s m args below meth c H locs cells slots Q (F0 m pc ls rest) := lv_ldc hx hb hown hconst hdg (hv ▸ k)
theorem z_ldc2 (hx : p.tables.exec = Jvm.exec) (hb : c.code = cc) {own : String} {index : Nat} {v : Int64} (n : Int) (hown : s.vm.findClass own = some m.cls) (hconst : (Jvm.Cond.constantLong own index v).before args s = true) (hv : v = zL n) (hdg : decode cc pc = .ok (.ldc2_w index, 3)) (k : W p l e R s m args below meth c H locs cells slots Q (F0 m (pc + 3) ls (.long (zL n) :: rest))) : W p l e R s m args below meth c H locs cells slots Q (F0 m pc ls rest) := lv_ldc2 hx hb hown hconst hdg (hv ▸ k)
theorem z_iinc (hx : p.tables.exec = Jvm.exec) (hb : c.code = cc) {i nL : Nat} {n a : Int} (k : Nat) (v : Int) {lv lv' : List (Nat × Value)} (hdg : decode cc pc = .ok (.iinc i n, 3)) (h : lv_has ls nL lv) (hk : lv[k]? = some (i, .int (zI a))) (hv : a + n = v) (hn : i < nL) (hl : (i, Value.int (zI v)) :: lv.filter (fun q => !(q.1 == i) && !(q.1 + 1 == i && q.2.category == 2)) = lv')
    (kk : ∀ ls' : Array Slot, lv_has ls' nL lv' → W p l e R s m args below meth c H locs cells slots Q (F0 m (pc + 3) ls' rest)) : W p l e R s m args below meth c H locs cells slots Q (F0 m pc ls rest) := lv_iinc hx hb hdg h hk (by rw [← hv]; exact (zI_add a n).symm) hn hl kk
theorem z_if_eq (hx : p.tables.exec = Jvm.exec) (hb : c.code = cc) {a : Int} {off : Int} (tgt : Nat) (hdg : decode cc pc = .ok (.ifCond .eq off, 3)) (ht : (pc : Int) + off = (tgt : Int)) (ha : -2147483648 ≤ a ∧ a < 2147483648)
    (kt : a = 0 → W p l e R s m args below meth c H locs cells slots Q (F0 m tgt ls rest)) (kf : a ≠ 0 → W p l e R s m args below meth c H locs cells slots Q (F0 m (pc + 3) ls rest)) : W p l e R s m args below meth c H locs cells slots Q (F0 m pc ls (.int (zI a) :: rest)) :=
  lv_if_eq hx hb hdg ht (fun h => kt ((zI_eq ha (b := 0) ⟨by decide, by decide⟩).mp h)) (fun h => kf (fun q => h ((zI_eq ha (b := 0) ⟨by decide, by decide⟩).mpr q)))
theorem z_if_ne (hx : p.tables.exec = Jvm.exec) (hb : c.code = cc) {a : Int} {off : Int} (tgt : Nat) (hdg : decode cc pc = .ok (.ifCond .ne off, 3)) (ht : (pc : Int) + off = (tgt : Int)) (ha : -2147483648 ≤ a ∧ a < 2147483648)
    (kt : a ≠ 0 → W p l e R s m args below meth c H locs cells slots Q (F0 m tgt ls rest)) (kf : a = 0 → W p l e R s m args below meth c H locs cells slots Q (F0 m (pc + 3) ls rest)) : W p l e R s m args below meth c H locs cells slots Q (F0 m pc ls (.int (zI a) :: rest)) :=
  lv_if_ne hx hb hdg ht (fun h => kt (fun q => h ((zI_eq ha (b := 0) ⟨by decide, by decide⟩).mpr q))) (fun h => kf ((zI_eq ha (b := 0) ⟨by decide, by decide⟩).mp h))
theorem z_if_lt (hx : p.tables.exec = Jvm.exec) (hb : c.code = cc) {a : Int} {off : Int} (tgt : Nat) (hdg : decode cc pc = .ok (.ifCond .lt off, 3)) (ht : (pc : Int) + off = (tgt : Int)) (ha : -2147483648 ≤ a ∧ a < 2147483648)
    (kt : a < 0 → W p l e R s m args below meth c H locs cells slots Q (F0 m tgt ls rest)) (kf : 0 ≤ a → W p l e R s m args below meth c H locs cells slots Q (F0 m (pc + 3) ls rest)) : W p l e R s m args below meth c H locs cells slots Q (F0 m pc ls (.int (zI a) :: rest)) :=
  lv_if_lt hx hb hdg ht (fun h => kt ((zI_lt ha (b := 0) ⟨by decide, by decide⟩).mp h)) (fun h => kf (Int.not_lt.mp (fun q => h ((zI_lt ha (b := 0) ⟨by decide, by decide⟩).mpr q))))
theorem z_if_ge (hx : p.tables.exec = Jvm.exec) (hb : c.code = cc) {a : Int} {off : Int} (tgt : Nat) (hdg : decode cc pc = .ok (.ifCond .ge off, 3)) (ht : (pc : Int) + off = (tgt : Int)) (ha : -2147483648 ≤ a ∧ a < 2147483648)
    (kt : 0 ≤ a → W p l e R s m args below meth c H locs cells slots Q (F0 m tgt ls rest)) (kf : a < 0 → W p l e R s m args below meth c H locs cells slots Q (F0 m (pc + 3) ls rest)) : W p l e R s m args below meth c H locs cells slots Q (F0 m pc ls (.int (zI a) :: rest)) :=
  lv_if_ge hx hb hdg ht (fun h => kt ((zI_le (a := 0) ⟨by decide, by decide⟩ ha).mp h)) (fun h => kf (Int.not_le.mp (fun q => h ((zI_le (a := 0) ⟨by decide, by decide⟩ ha).mpr q))))
theorem z_if_gt (hx : p.tables.exec = Jvm.exec) (hb : c.code = cc) {a : Int} {off : Int} (tgt : Nat) (hdg : decode cc pc = .ok (.ifCond .gt off, 3)) (ht : (pc : Int) + off = (tgt : Int)) (ha : -2147483648 ≤ a ∧ a < 2147483648)
    (kt : 0 < a → W p l e R s m args below meth c H locs cells slots Q (F0 m tgt ls rest)) (kf : a ≤ 0 → W p l e R s m args below meth c H locs cells slots Q (F0 m (pc + 3) ls rest)) : W p l e R s m args below meth c H locs cells slots Q (F0 m pc ls (.int (zI a) :: rest)) :=
  lv_if_gt hx hb hdg ht (fun h => kt ((zI_lt (a := 0) ⟨by decide, by decide⟩ ha).mp h)) (fun h => kf (Int.not_lt.mp (fun q => h ((zI_lt (a := 0) ⟨by decide, by decide⟩ ha).mpr q))))
theorem z_if_le (hx : p.tables.exec = Jvm.exec) (hb : c.code = cc) {a : Int} {off : Int} (tgt : Nat) (hdg : decode cc pc = .ok (.ifCond .le off, 3)) (ht : (pc : Int) + off = (tgt : Int)) (ha : -2147483648 ≤ a ∧ a < 2147483648)
    (kt : a ≤ 0 → W p l e R s m args below meth c H locs cells slots Q (F0 m tgt ls rest)) (kf : 0 < a → W p l e R s m args below meth c H locs cells slots Q (F0 m (pc + 3) ls rest)) : W p l e R s m args below meth c H locs cells slots Q (F0 m pc ls (.int (zI a) :: rest)) :=
  lv_if_le hx hb hdg ht (fun h => kt ((zI_le ha (b := 0) ⟨by decide, by decide⟩).mp h)) (fun h => kf (Int.not_le.mp (fun q => h ((zI_le ha (b := 0) ⟨by decide, by decide⟩).mpr q))))
theorem z_icmp_eq (hx : p.tables.exec = Jvm.exec) (hb : c.code = cc) {a b : Int} {off : Int} (tgt : Nat) (hdg : decode cc pc = .ok (.if_icmp .eq off, 3)) (ht : (pc : Int) + off = (tgt : Int)) (ha : -2147483648 ≤ a ∧ a < 2147483648) (hb2 : -2147483648 ≤ b ∧ b < 2147483648)
    (kt : a = b → W p l e R s m args below meth c H locs cells slots Q (F0 m tgt ls rest)) (kf : a ≠ b → W p l e R s m args below meth c H locs cells slots Q (F0 m (pc + 3) ls rest)) : W p l e R s m args below meth c H locs cells slots Q (F0 m pc ls (.int (zI b) :: .int (zI a) :: rest)) :=
  lv_icmp_eq hx hb hdg ht (fun h => kt ((zI_eq ha hb2).mp h)) (fun h => kf (fun q => h ((zI_eq ha hb2).mpr q)))
theorem z_icmp_ne (hx : p.tables.exec = Jvm.exec) (hb : c.code = cc) {a b : Int} {off : Int} (tgt : Nat) (hdg : decode cc pc = .ok (.if_icmp .ne off, 3)) (ht : (pc : Int) + off = (tgt : Int)) (ha : -2147483648 ≤ a ∧ a < 2147483648) (hb2 : -2147483648 ≤ b ∧ b < 2147483648)
    (kt : a ≠ b → W p l e R s m args below meth c H locs cells slots Q (F0 m tgt ls rest)) (kf : a = b → W p l e R s m args below meth c H locs cells slots Q (F0 m (pc + 3) ls rest)) : W p l e R s m args below meth c H locs cells slots Q (F0 m pc ls (.int (zI b) :: .int (zI a) :: rest)) :=
  lv_icmp_ne hx hb hdg ht (fun h => kt (fun q => h ((zI_eq ha hb2).mpr q))) (fun h => kf ((zI_eq ha hb2).mp h))
theorem z_icmp_lt (hx : p.tables.exec = Jvm.exec) (hb : c.code = cc) {a b : Int} {off : Int} (tgt : Nat) (hdg : decode cc pc = .ok (.if_icmp .lt off, 3)) (ht : (pc : Int) + off = (tgt : Int)) (ha : -2147483648 ≤ a ∧ a < 2147483648) (hb2 : -2147483648 ≤ b ∧ b < 2147483648)
    (kt : a < b → W p l e R s m args below meth c H locs cells slots Q (F0 m tgt ls rest)) (kf : b ≤ a → W p l e R s m args below meth c H locs cells slots Q (F0 m (pc + 3) ls rest)) : W p l e R s m args below meth c H locs cells slots Q (F0 m pc ls (.int (zI b) :: .int (zI a) :: rest)) :=
  lv_icmp_lt hx hb hdg ht (fun h => kt ((zI_lt ha hb2).mp h)) (fun h => kf (Int.not_lt.mp (fun q => h ((zI_lt ha hb2).mpr q))))
theorem z_icmp_ge (hx : p.tables.exec = Jvm.exec) (hb : c.code = cc) {a b : Int} {off : Int} (tgt : Nat) (hdg : decode cc pc = .ok (.if_icmp .ge off, 3)) (ht : (pc : Int) + off = (tgt : Int)) (ha : -2147483648 ≤ a ∧ a < 2147483648) (hb2 : -2147483648 ≤ b ∧ b < 2147483648)
    (kt : b ≤ a → W p l e R s m args below meth c H locs cells slots Q (F0 m tgt ls rest)) (kf : a < b → W p l e R s m args below meth c H locs cells slots Q (F0 m (pc + 3) ls rest)) : W p l e R s m args below meth c H locs cells slots Q (F0 m pc ls (.int (zI b) :: .int (zI a) :: rest)) :=
  lv_icmp_ge hx hb hdg ht (fun h => kt ((zI_le hb2 ha).mp h)) (fun h => kf (Int.not_le.mp (fun q => h ((zI_le hb2 ha).mpr q))))
theorem z_icmp_gt (hx : p.tables.exec = Jvm.exec) (hb : c.code = cc) {a b : Int} {off : Int} (tgt : Nat) (hdg : decode cc pc = .ok (.if_icmp .gt off, 3)) (ht : (pc : Int) + off = (tgt : Int)) (ha : -2147483648 ≤ a ∧ a < 2147483648) (hb2 : -2147483648 ≤ b ∧ b < 2147483648)
    (kt : b < a → W p l e R s m args below meth c H locs cells slots Q (F0 m tgt ls rest)) (kf : a ≤ b → W p l e R s m args below meth c H locs cells slots Q (F0 m (pc + 3) ls rest)) : W p l e R s m args below meth c H locs cells slots Q (F0 m pc ls (.int (zI b) :: .int (zI a) :: rest)) :=
  lv_icmp_gt hx hb hdg ht (fun h => kt ((zI_lt hb2 ha).mp h)) (fun h => kf (Int.not_lt.mp (fun q => h ((zI_lt hb2 ha).mpr q))))
theorem z_icmp_le (hx : p.tables.exec = Jvm.exec) (hb : c.code = cc) {a b : Int} {off : Int} (tgt : Nat) (hdg : decode cc pc = .ok (.if_icmp .le off, 3)) (ht : (pc : Int) + off = (tgt : Int)) (ha : -2147483648 ≤ a ∧ a < 2147483648) (hb2 : -2147483648 ≤ b ∧ b < 2147483648)
    (kt : a ≤ b → W p l e R s m args below meth c H locs cells slots Q (F0 m tgt ls rest)) (kf : b < a → W p l e R s m args below meth c H locs cells slots Q (F0 m (pc + 3) ls rest)) : W p l e R s m args below meth c H locs cells slots Q (F0 m pc ls (.int (zI b) :: .int (zI a) :: rest)) :=
  lv_icmp_le hx hb hdg ht (fun h => kt ((zI_le ha hb2).mp h)) (fun h => kf (Int.not_le.mp (fun q => h ((zI_le ha hb2).mpr q))))
/-- the top number told in other words -/
theorem z_top (b : Int) {a : Int} (h : a = b) (k : W p l e R s m args below meth c H locs cells slots Q (F0 m pc ls (.int (zI b) :: rest))) : W p l e R s m args below meth c H locs cells slots Q (F0 m pc ls (.int (zI a) :: rest)) := h ▸ k
theorem z_topL (b : Int) {a : Int} (h : a = b) (k : W p l e R s m args below meth c H locs cells slots Q (F0 m pc ls (.long (zL b) :: rest))) : W p l e R s m args below meth c H locs cells slots Q (F0 m pc ls (.long (zL a) :: rest)) := h ▸ k
theorem z_mmax (hx : p.tables.exec = Jvm.exec) (hb : c.code = cc) (hml : c.maxLocals = ls.size) {own : String} {index : Nat} (hown : s.vm.findClass own = some m.cls) (hlink : (Cond.methodLink own index Lib.Math.max.name).before args s = true) (hstat : (Cond.static Lib.Math.max.name).before args s = true) (hini : (Cond.initialized "java/lang/Math").before args s = true) (hcode : (Cond.code Lib.Math.max.name Lib.Math.max.code 2 (some .int)).before args s = true)
    (hframes : 1 ≤ R.frames) (hlocals : (rest.map fun v => v.category).sum + 13 ≤ R.locals) (hf : cells ≤ R.cells ∧ slots ≤ R.slots) {a b : Int} (v : Int) (hdg : decode cc pc = .ok (.invokestatic index, 3)) (ha : -2147483648 ≤ a ∧ a < 2147483648) (hb2 : -2147483648 ≤ b ∧ b < 2147483648) (hv : (a < b ∧ v = b) ∨ (b ≤ a ∧ v = a))
    (kk : W p l e R s m args below meth c H locs cells slots Q (F0 m (pc + 3) ls (.int (zI v) :: rest))) : W p l e R s m args below meth c H locs cells slots Q (F0 m pc ls (.int (zI b) :: .int (zI a) :: rest)) := by
  refine va_mmax hx hb hml hown hlink hstat hini hcode hframes hlocals hf.1 hf.2 hdg ?_
  rcases hv with ⟨h, rfl⟩ | ⟨h, rfl⟩
  · rw [if_pos ((zI_lt ha hb2).mpr h)]; exact kk
  · rw [if_neg (fun q => absurd ((zI_lt ha hb2).mp q) (by omega))]; exact kk
theorem z_mmin (hx : p.tables.exec = Jvm.exec) (hb : c.code = cc) (hml : c.maxLocals = ls.size) {own : String} {index : Nat} (hown : s.vm.findClass own = some m.cls) (hlink : (Cond.methodLink own index Lib.Math.min.name).before args s = true) (hstat : (Cond.static Lib.Math.min.name).before args s = true) (hini : (Cond.initialized "java/lang/Math").before args s = true) (hcode : (Cond.code Lib.Math.min.name Lib.Math.min.code 2 (some .int)).before args s = true)
    (hframes : 1 ≤ R.frames) (hlocals : (rest.map fun v => v.category).sum + 13 ≤ R.locals) (hf : cells ≤ R.cells ∧ slots ≤ R.slots) {a b : Int} (v : Int) (hdg : decode cc pc = .ok (.invokestatic index, 3)) (ha : -2147483648 ≤ a ∧ a < 2147483648) (hb2 : -2147483648 ≤ b ∧ b < 2147483648) (hv : (b < a ∧ v = b) ∨ (a ≤ b ∧ v = a))
    (kk : W p l e R s m args below meth c H locs cells slots Q (F0 m (pc + 3) ls (.int (zI v) :: rest))) : W p l e R s m args below meth c H locs cells slots Q (F0 m pc ls (.int (zI b) :: .int (zI a) :: rest)) := by
  refine va_mmin hx hb hml hown hlink hstat hini hcode hframes hlocals hf.1 hf.2 hdg ?_
  rcases hv with ⟨h, rfl⟩ | ⟨h, rfl⟩
  · rw [if_pos ((zI_lt hb2 ha).mpr h)]; exact kk
  · rw [if_neg (fun q => absurd ((zI_lt hb2 ha).mp q) (by omega))]; exact kk
variable {D : va_G} {T : List (ClassId × FieldType)} {ws : va_W} {A : Nat → Prop} {H0 : Heap} {a : Nat}
theorem z_alen (hx : p.tables.exec = Jvm.exec) (hb : c.code = cc) (hK : va_K D vwCl T s) (hP : va_P D vwCl ws H) (q0 t0 : Nat) {cA : ClassId} {x : vp_A} {ty : FieldType} (v : Int) (ha : ws[q0]? = some (a, .inl (cA, x))) (ht : T[t0]? = some (cA, ty)) (hv : (x.1 : Int) = v) (hdg : decode cc pc = .ok (.arraylength, 1)) (kk : W p l e R s m args below meth c H locs cells slots Q (F0 m (pc + 1) ls (.int (zI v) :: rest))) : W p l e R s m args below meth c H locs cells slots Q (F0 m pc ls (.ref a :: rest)) :=
  va_alen hx hb hK hP q0 t0 ha ht (by rw [← hv]; exact Int32.ofInt_eq_ofNat.symm) hdg kk
theorem z_iald (hx : p.tables.exec = Jvm.exec) (hb : c.code = cc) (hK : va_K D vwCl T s) (hP : va_P D vwCl ws H) (q0 t0 : Nat) {cA : ClassId} {n : Nat} {g : Int → Int} {i : Int} (ha : ws[q0]? = some (a, .inl (cA, n, .inl (zA g)))) (ht : T[t0]? = some (cA, .int)) (hi : 0 ≤ i ∧ i < (n : Int)) (hn : n < 2147483648) (hdg : decode cc pc = .ok (.iaload, 1)) (kk : W p l e R s m args below meth c H locs cells slots Q (F0 m (pc + 1) ls (.int (zI (g i)) :: rest))) : W p l e R s m args below meth c H locs cells slots Q (F0 m pc ls (.int (zI i) :: .ref a :: rest)) :=
  va_iald hx hb hK hP q0 t0 ha ht (z_in hi hn) hdg (by rw [zA_rd ⟨hi.1, by omega⟩]; exact kk)
theorem z_lald (hx : p.tables.exec = Jvm.exec) (hb : c.code = cc) (hK : va_K D vwCl T s) (hP : va_P D vwCl ws H) (q0 t0 : Nat) {cA : ClassId} {n : Nat} {g : Int → Int} {i : Int} (ha : ws[q0]? = some (a, .inl (cA, n, .inr (.inl (zAL g))))) (ht : T[t0]? = some (cA, .long)) (hi : 0 ≤ i ∧ i < (n : Int)) (hn : n < 2147483648) (hdg : decode cc pc = .ok (.laload, 1)) (kk : W p l e R s m args below meth c H locs cells slots Q (F0 m (pc + 1) ls (.long (zL (g i)) :: rest))) : W p l e R s m args below meth c H locs cells slots Q (F0 m pc ls (.int (zI i) :: .ref a :: rest)) :=
  va_lald hx hb hK hP q0 t0 ha ht (z_in hi hn) hdg (by rw [zAL_rd ⟨hi.1, by omega⟩]; exact kk)
theorem z_iast (hx : p.tables.exec = Jvm.exec) (hb : c.code = cc) (hK : va_K D vwCl T s) (hP : va_P D vwCl ws H) (hD : va_D A ws) (hS : va_S A H0 H locs) (q0 t0 : Nat) {cA : ClassId} {n : Nat} {g : Int → Int} {i v : Int} (ws' : va_W) (ha : ws[q0]? = some (a, .inl (cA, n, .inl (zA g)))) (ht : T[t0]? = some (cA, .int)) (hi : 0 ≤ i ∧ i < (n : Int)) (hn : n < 2147483648) (hw : ws.set q0 (a, .inl (cA, n, .inl (zA (zup g i v)))) = ws') (hdg : decode cc pc = .ok (.iastore, 1)) (kk : ∀ (H1 : Heap) (locs1 : List Loc), va_P D vwCl ws' H1 → va_S A H0 H1 locs1 → W p l e R s m args below meth c H1 locs1 cells slots Q (F0 m (pc + 1) ls rest)) : W p l e R s m args below meth c H locs cells slots Q (F0 m pc ls (.int (zI v) :: .int (zI i) :: .ref a :: rest)) :=
  va_iast hx hb hK hP hD hS q0 t0 ha ht (z_in hi hn) hdg (fun H1 locs1 h1 _ h3 => kk H1 locs1 (by rw [zA_up ⟨hi.1, by omega⟩, hw] at h1; exact h1) h3)
theorem z_last (hx : p.tables.exec = Jvm.exec) (hb : c.code = cc) (hK : va_K D vwCl T s) (hP : va_P D vwCl ws H) (hD : va_D A ws) (hS : va_S A H0 H locs) (q0 t0 : Nat) {cA : ClassId} {n : Nat} {g : Int → Int} {i v : Int} (ws' : va_W) (ha : ws[q0]? = some (a, .inl (cA, n, .inr (.inl (zAL g))))) (ht : T[t0]? = some (cA, .long)) (hi : 0 ≤ i ∧ i < (n : Int)) (hn : n < 2147483648) (hw : ws.set q0 (a, .inl (cA, n, .inr (.inl (zAL (zup g i v))))) = ws') (hdg : decode cc pc = .ok (.lastore, 1)) (kk : ∀ (H1 : Heap) (locs1 : List Loc), va_P D vwCl ws' H1 → va_S A H0 H1 locs1 → W p l e R s m args below meth c H1 locs1 cells slots Q (F0 m (pc + 1) ls rest)) : W p l e R s m args below meth c H locs cells slots Q (F0 m pc ls (.long (zL v) :: .int (zI i) :: .ref a :: rest)) :=
  va_last hx hb hK hP hD hS q0 t0 ha ht (z_in hi hn) hdg (fun H1 locs1 h1 _ h3 => kk H1 locs1 (by rw [zAL_up ⟨hi.1, by omega⟩, hw] at h1; exact h1) h3)
theorem z_put (hx : p.tables.exec = Jvm.exec) (hb : c.code = cc) {own ref C : String} {F : u_T} {N ci index : Nat} {Ts : List Cond} (hts : ∀ w ∈ Ts, w.before args s = true) (hin : ∀ w ∈ u_ws C F N, w ∈ Ts) (ty0 : Nat → FieldType) (hty : ∀ k, k < N → parseFieldDescriptor (F k).2.2.1 = some (ty0 k)) (hnm : ∀ a, a < N → ∀ b, b < N → a ≠ b → (F a).2.1 ≠ (F b).2.1) (hown : s.vm.findClass own = some m.cls) (hK : va_K D vwCl T s) (hP : va_P D vwCl ws H) (hD : va_D A ws) (hS0 : va_S A H0 H locs) (q0 : Nat) {fs : List Value} (ws' : va_W) (he : ws[q0]? = some (a, .inr (ci, fs))) (hc : vwCl[ci]? = some (C, F, N)) (k : Nat) (hk : k < N) (hlink : (Cond.fieldLink own index ref (F k).2.1 (F k).2.2.1).before args s = true) (hsame : ∀ x, s.fieldFound? (F k).1 (F k).2.1 (F k).2.2.1 = some x → s.fieldFound? ref (F k).2.1 (F k).2.2.1 = some x) (hfin : (F k).2.2.2 = false) {ty : FieldType} {v : Value} (hd : parseFieldDescriptor (F k).2.2.1 = some ty) (hn : narrow ty v = v) (hfit : fits ty v = true) (hl : k < fs.length) (hdg : decode cc pc = .ok (.putfield index, 3)) (hw : ws.set q0 (a, .inr (ci, fs.set k v)) = ws')
    (kk : ∀ (H1 : Heap) (locs1 : List Loc), va_P D vwCl ws' H1 → va_S A H0 H1 locs1 → W p l e R s m args below meth c H1 locs1 cells slots Q (F0 m (pc + 3) ls rest)) : W p l e R s m args below meth c H locs cells slots Q (F0 m pc ls (v :: .ref a :: rest)) :=
  va_put hx hb hts hin ty0 hty hnm hown hK hP hD hS0 q0 he hc k hk hlink hsame hfin hd hn hfit hl hdg (fun H1 locs1 h1 _ h3 => kk H1 locs1 (by rw [hw] at h1; exact h1) h3)
end ZV
/-! calls -/
section ZC
variable {p : Program} {l : Launch} {e : Env} {R : Room} {s : State} {m : MethodId} {args : Array Value} {below : List Frame} {meth : Method} {c : Code} {H : Heap} {locs : List Loc} {cells slots : Nat} {Q : State → Prop}
  {Ts ws : List Cond} {cc bytes : ByteArray} {nL maxL index n pc : Nat} {own C : String} {y : MethodName} {ret : Option FieldType} {rm : Room} {b : Addr} {As rest st0 : List Value} {ls : Array Slot}
  {D : va_G} {T : List (ClassId × FieldType)} {W0 Wc : va_W} {A : Nat → Prop} {H0 : Heap}
theorem z_preV (hK : va_K D vwCl T s) (hP : va_P D vwCl Wc H) (hD : va_D A Wc) (hv : ∃ cell : Cell, H[b]? = some cell ∧ cell.vm.isStatics = false ∧ s.vm.findClass C = some cell.cls) : PreV s H C b (zPc D T (.ref b :: As) Wc) As :=
  ⟨zPc_blind, hv, fun U hU hW => ⟨rfl, by rw [hU]; exact hP, va_K.moved hW.alike hK, hD.weaken (fun _ _ _ _ => trivial)⟩⟩
theorem z_preS (hK : va_K D vwCl T s) (hP : va_P D vwCl Wc H) (hD : va_D A Wc) : PreS s H (zPc D T As Wc) As :=
  ⟨zPc_blind, fun U hU hW => ⟨rfl, by rw [hU]; exact hP, va_K.moved hW.alike hK, hD.weaken (fun _ _ _ _ => trivial)⟩⟩
theorem zP_nil : va_P D vwCl [] H := fun k q h => by simp at h
theorem zD_nil : va_D A [] := ⟨fun i j p q h => by simp at h, fun k q h => by simp at h⟩
/-- a call that only reads: its answer is v -/
theorem z_rV {v : Int} (hx : p.tables.exec = Jvm.exec) (hb : c.code = cc) (hml : c.maxLocals = nL) (hown : s.vm.findClass own = some m.cls) (hts : ∀ w ∈ Ts, w.before args s = true) (hsz : ls.size = nL) (hf : cells ≤ R.cells ∧ slots ≤ R.slots)
    (hM : Met l y ws rm (zPc D T (.ref b :: As) Wc) (vp_Si (fun r => r = zI v)) 0 0 (fun _ => False)) (cw : CallW R s args own C index y bytes maxL ret ws rm 0 0 n) (hK : va_K D vwCl T s) (isC : List Nat) (hP : va_P D vwCl W0 H) (hD : va_D A W0) (hnd : va_nd isC = true) (hC : isC.map (fun i => W0[i]?) = Wc.map some) (ci : Nat) {fs : List Value} {q : vw_C} (hcl : vwCl[ci]? = some q) (hq : q.1 = C) (he : Wc[0]? = some (b, .inr (ci, fs)))
    (hn : As.length = n) (hst : st0 = As.reverse ++ .ref b :: rest) (hW : (rest.map fun v => v.category).sum ≤ 8) (hdg : decode cc pc = .ok (.invokevirtual index, 3))
    (kk : W p l e R s m args below meth c H locs cells slots Q (F0 m (pc + 3) ls (.int (zI v) :: rest))) : W p l e R s m args below meth c H locs cells slots Q (F0 m pc ls st0) := by
  have hPc := zsub isC hP hC
  have hDc := hD.sub isC hnd hC
  subst hq
  exact vp_callSi (W.runV ⟨hx, hb, hml, hown, hts⟩ hM cw (z_preV hK hPc hDc (va_recv hK hPc hcl he)) rfl hn hsz hst (lv_room hW) hdg hf) (fun r hr => by subst hr; exact kk)
theorem z_rVL {v : Int} (hx : p.tables.exec = Jvm.exec) (hb : c.code = cc) (hml : c.maxLocals = nL) (hown : s.vm.findClass own = some m.cls) (hts : ∀ w ∈ Ts, w.before args s = true) (hsz : ls.size = nL) (hf : cells ≤ R.cells ∧ slots ≤ R.slots)
    (hM : Met l y ws rm (zPc D T (.ref b :: As) Wc) (vp_Sl (fun r => r = zL v)) 0 0 (fun _ => False)) (cw : CallW R s args own C index y bytes maxL ret ws rm 0 0 n) (hK : va_K D vwCl T s) (isC : List Nat) (hP : va_P D vwCl W0 H) (hD : va_D A W0) (hnd : va_nd isC = true) (hC : isC.map (fun i => W0[i]?) = Wc.map some) (ci : Nat) {fs : List Value} {q : vw_C} (hcl : vwCl[ci]? = some q) (hq : q.1 = C) (he : Wc[0]? = some (b, .inr (ci, fs)))
    (hn : As.length = n) (hst : st0 = As.reverse ++ .ref b :: rest) (hW : (rest.map fun v => v.category).sum ≤ 8) (hdg : decode cc pc = .ok (.invokevirtual index, 3))
    (kk : W p l e R s m args below meth c H locs cells slots Q (F0 m (pc + 3) ls (.long (zL v) :: rest))) : W p l e R s m args below meth c H locs cells slots Q (F0 m pc ls st0) := by
  have hPc := zsub isC hP hC
  have hDc := hD.sub isC hnd hC
  subst hq
  exact vp_callSl (W.runV ⟨hx, hb, hml, hown, hts⟩ hM cw (z_preV hK hPc hDc (va_recv hK hPc hcl he)) rfl hn hsz hst (lv_room hW) hdg hf) (fun r hr => by subst hr; exact kk)
/-- a static call that only reads -/
theorem z_rS {v : Int} (hx : p.tables.exec = Jvm.exec) (hb : c.code = cc) (hml : c.maxLocals = nL) (hown : s.vm.findClass own = some m.cls) (hts : ∀ w ∈ Ts, w.before args s = true) (hsz : ls.size = nL) (hf : cells ≤ R.cells ∧ slots ≤ R.slots)
    (hM : Met l y ws rm (zPc D T As []) (vp_Si (fun r => r = zI v)) 0 0 (fun _ => False)) (cw : CallB R s args own index y bytes maxL ret ws rm 0 0 n ∧ (Cond.static y).before args s = true) (hK : va_K D vwCl T s)
    (hn : As.length = n) (hst : st0 = As.reverse ++ rest) (hW : (rest.map fun v => v.category).sum ≤ 8) (hdg : decode cc pc = .ok (.invokestatic index, 3))
    (kk : W p l e R s m args below meth c H locs cells slots Q (F0 m (pc + 3) ls (.int (zI v) :: rest))) : W p l e R s m args below meth c H locs cells slots Q (F0 m pc ls st0) :=
  vp_callSi (W.runS ⟨hx, hb, hml, hown, hts⟩ hM cw (z_preS (A := fun _ => True) hK zP_nil zD_nil) rfl hn hsz hst (lv_room hW) hdg hf) (fun r hr => by subst hr; exact kk)
theorem z_rSL {v : Int} (hx : p.tables.exec = Jvm.exec) (hb : c.code = cc) (hml : c.maxLocals = nL) (hown : s.vm.findClass own = some m.cls) (hts : ∀ w ∈ Ts, w.before args s = true) (hsz : ls.size = nL) (hf : cells ≤ R.cells ∧ slots ≤ R.slots)
    (hM : Met l y ws rm (zPc D T As []) (vp_Sl (fun r => r = zL v)) 0 0 (fun _ => False)) (cw : CallB R s args own index y bytes maxL ret ws rm 0 0 n ∧ (Cond.static y).before args s = true) (hK : va_K D vwCl T s)
    (hn : As.length = n) (hst : st0 = As.reverse ++ rest) (hW : (rest.map fun v => v.category).sum ≤ 8) (hdg : decode cc pc = .ok (.invokestatic index, 3))
    (kk : W p l e R s m args below meth c H locs cells slots Q (F0 m (pc + 3) ls (.long (zL v) :: rest))) : W p l e R s m args below meth c H locs cells slots Q (F0 m pc ls st0) :=
  vp_callSl (W.runS ⟨hx, hb, hml, hown, hts⟩ hM cw (z_preS (A := fun _ => True) hK zP_nil zD_nil) rfl hn hsz hst (lv_room hW) hdg hf) (fun r hr => by subst hr; exact kk)
/-- behind a call that writes: the world with the callee's cells put in their places -/
theorem z_wBack {S : Type} {W1 wN : S → va_W} {H1 : Heap} {u : S} (hP : va_P D vwCl W0 H) (hD : va_D A W0) (isC : List Nat) (hC : isC.map (fun i => W0[i]?) = Wc.map some) (hlen : ∀ u, isC.length = (W1 u).length) (hN : ∀ u, zput W0 isC (W1 u) = wN u) (hB : va_P D vwCl (W1 u) H1) (hk : ∀ q : Nat, q < H.size → ¬ zAd Wc q → H1[q]? = H[q]?) : va_P D vwCl (wN u) H1 := by
  rw [← hN u]
  exact zput_P isC hP hD hC hB (hlen u) hk
theorem z_wVi {S : Type} {post : Int32 → S → Prop} {W1 : S → va_W} (wN : S → va_W) (hx : p.tables.exec = Jvm.exec) (hb : c.code = cc) (hml : c.maxLocals = nL) (hown : s.vm.findClass own = some m.cls) (hts : ∀ w ∈ Ts, w.before args s = true) (hsz : ls.size = nL) (hf : cells ≤ R.cells ∧ slots ≤ R.slots)
    (hM : Met l y ws rm (zPc D T (.ref b :: As) Wc) (va_Qi post (fun u t => va_P D vwCl (W1 u) t.heap) (zAd Wc)) 0 0 (zAd Wc)) (cw : CallW R s args own C index y bytes maxL ret ws rm 0 0 n) (hK : va_K D vwCl T s) (isC : List Nat) (hP : va_P D vwCl W0 H) (hD : va_D A W0) (hS : va_S A H0 H locs) (hnd : va_nd isC = true) (hC : isC.map (fun i => W0[i]?) = Wc.map some) (hlen : ∀ u, isC.length = (W1 u).length) (hN : ∀ u, zput W0 isC (W1 u) = wN u) (ci : Nat) {fs : List Value} {q : vw_C} (hcl : vwCl[ci]? = some q) (hq : q.1 = C) (he : Wc[0]? = some (b, .inr (ci, fs)))
    (hn : As.length = n) (hst : st0 = As.reverse ++ .ref b :: rest) (hW : (rest.map fun v => v.category).sum ≤ 8) (hdg : decode cc pc = .ok (.invokevirtual index, 3))
    (kk : ∀ (r : Int32) (u : S) (H1 : Heap) (locs1 : List Loc), post r u → va_P D vwCl (wN u) H1 → va_S A H0 H1 locs1 → W p l e R s m args below meth c H1 locs1 cells slots Q (F0 m (pc + 3) ls (.int r :: rest))) : W p l e R s m args below meth c H locs cells slots Q (F0 m pc ls st0) := by
  have hPc := zsub isC hP hC
  have hDc := hD.sub isC hnd hC
  subst hq
  have hin := zAd_in isC hD hC
  exact va_calli (va_runV ⟨hx, hb, hml, hown, hts⟩ hM cw (z_preV hK hPc hDc (va_recv hK hPc hcl he)) rfl hn hsz hst (lv_room hW) hdg hf) hS (fun q _ h => hin q h) hin (fun r u t H1 locs1 ht hvm hp hB hz hk hS1 => kk r u H1 locs1 hp (z_wBack hP hD isC hC hlen hN (by rw [← ht]; exact hB) hk) hS1)
theorem z_wVl {S : Type} {post : Int64 → S → Prop} {W1 : S → va_W} (wN : S → va_W) (hx : p.tables.exec = Jvm.exec) (hb : c.code = cc) (hml : c.maxLocals = nL) (hown : s.vm.findClass own = some m.cls) (hts : ∀ w ∈ Ts, w.before args s = true) (hsz : ls.size = nL) (hf : cells ≤ R.cells ∧ slots ≤ R.slots)
    (hM : Met l y ws rm (zPc D T (.ref b :: As) Wc) (va_Ql post (fun u t => va_P D vwCl (W1 u) t.heap) (zAd Wc)) 0 0 (zAd Wc)) (cw : CallW R s args own C index y bytes maxL ret ws rm 0 0 n) (hK : va_K D vwCl T s) (isC : List Nat) (hP : va_P D vwCl W0 H) (hD : va_D A W0) (hS : va_S A H0 H locs) (hnd : va_nd isC = true) (hC : isC.map (fun i => W0[i]?) = Wc.map some) (hlen : ∀ u, isC.length = (W1 u).length) (hN : ∀ u, zput W0 isC (W1 u) = wN u) (ci : Nat) {fs : List Value} {q : vw_C} (hcl : vwCl[ci]? = some q) (hq : q.1 = C) (he : Wc[0]? = some (b, .inr (ci, fs)))
    (hn : As.length = n) (hst : st0 = As.reverse ++ .ref b :: rest) (hW : (rest.map fun v => v.category).sum ≤ 8) (hdg : decode cc pc = .ok (.invokevirtual index, 3))
    (kk : ∀ (r : Int64) (u : S) (H1 : Heap) (locs1 : List Loc), post r u → va_P D vwCl (wN u) H1 → va_S A H0 H1 locs1 → W p l e R s m args below meth c H1 locs1 cells slots Q (F0 m (pc + 3) ls (.long r :: rest))) : W p l e R s m args below meth c H locs cells slots Q (F0 m pc ls st0) := by
  have hPc := zsub isC hP hC
  have hDc := hD.sub isC hnd hC
  subst hq
  have hin := zAd_in isC hD hC
  exact va_calll (va_runV ⟨hx, hb, hml, hown, hts⟩ hM cw (z_preV hK hPc hDc (va_recv hK hPc hcl he)) rfl hn hsz hst (lv_room hW) hdg hf) hS (fun q _ h => hin q h) hin (fun r u t H1 locs1 ht hvm hp hB hz hk hS1 => kk r u H1 locs1 hp (z_wBack hP hD isC hC hlen hN (by rw [← ht]; exact hB) hk) hS1)
theorem z_wVv {S : Type} {post : S → Prop} {W1 : S → va_W} (wN : S → va_W) (hx : p.tables.exec = Jvm.exec) (hb : c.code = cc) (hml : c.maxLocals = nL) (hown : s.vm.findClass own = some m.cls) (hts : ∀ w ∈ Ts, w.before args s = true) (hsz : ls.size = nL) (hf : cells ≤ R.cells ∧ slots ≤ R.slots)
    (hM : Met l y ws rm (zPc D T (.ref b :: As) Wc) (va_Qv post (fun u t => va_P D vwCl (W1 u) t.heap) (zAd Wc)) 0 0 (zAd Wc)) (cw : CallW R s args own C index y bytes maxL ret ws rm 0 0 n) (hK : va_K D vwCl T s) (isC : List Nat) (hP : va_P D vwCl W0 H) (hD : va_D A W0) (hS : va_S A H0 H locs) (hnd : va_nd isC = true) (hC : isC.map (fun i => W0[i]?) = Wc.map some) (hlen : ∀ u, isC.length = (W1 u).length) (hN : ∀ u, zput W0 isC (W1 u) = wN u) (ci : Nat) {fs : List Value} {q : vw_C} (hcl : vwCl[ci]? = some q) (hq : q.1 = C) (he : Wc[0]? = some (b, .inr (ci, fs)))
    (hn : As.length = n) (hst : st0 = As.reverse ++ .ref b :: rest) (hW : (rest.map fun v => v.category).sum ≤ 8) (hdg : decode cc pc = .ok (.invokevirtual index, 3))
    (kk : ∀ (u : S) (H1 : Heap) (locs1 : List Loc), post u → va_P D vwCl (wN u) H1 → va_S A H0 H1 locs1 → W p l e R s m args below meth c H1 locs1 cells slots Q (F0 m (pc + 3) ls rest)) : W p l e R s m args below meth c H locs cells slots Q (F0 m pc ls st0) := by
  have hPc := zsub isC hP hC
  have hDc := hD.sub isC hnd hC
  subst hq
  have hin := zAd_in isC hD hC
  exact va_callv (va_runV ⟨hx, hb, hml, hown, hts⟩ hM cw (z_preV hK hPc hDc (va_recv hK hPc hcl he)) rfl hn hsz hst (lv_room hW) hdg hf) hS (fun q _ h => hin q h) hin (fun u t H1 locs1 ht hvm hp hB hz hk hS1 => kk u H1 locs1 hp (z_wBack hP hD isC hC hlen hN (by rw [← ht]; exact hB) hk) hS1)
end ZC
/-! a method's contract out of its walk -/
section ZM
variable {l : Launch} {y : MethodName} {ws ws' : List Cond} {rm : Room} {cc : ByteArray} {maxL : Nat} {ret : Option FieldType} {D : va_G} {T : List (ClassId × FieldType)} {av : List Value} {W0 : va_W}
theorem zRi_of (v : Int) (hy : plainName y.cls = true) (hw : ws = Cond.code y cc maxL ret :: ws') (hav : (lg_sl av).length ≤ maxL) (hret : ret = some .int)
    (body : ∀ (p : Program) (e : Env) (s : State) (m : MethodId) (args : Array Value) (below : List Frame) (meth : Method) (c : Code) (Q : State → Prop) (ls : Array Slot), p.tables.exec = Jvm.exec → c.code = cc → c.maxLocals = maxL → (∀ w ∈ ws, w.before args s = true) → s.vm.findClass y.cls = some m.cls → va_K D vwCl T s → va_P D vwCl W0 s.heap → va_D (fun _ => True) W0 → lv_has ls maxL (lv_args 0 av) →
      (∀ {pc : Nat} {ls1 : Array Slot}, decode cc pc = .ok (.ireturn, 1) → W p l e rm s m args below meth c s.heap [] 0 0 Q (F0 m pc ls1 [.int (zI v)])) → W p l e rm s m args below meth c s.heap [] 0 0 Q (F0 m 0 ls [])) :
    Met l y ws rm (zPc D T av W0) (vp_Si (fun r => r = zI v)) 0 0 (fun _ => False) := by
  refine Met.ofW (cc := cc) (maxL := maxL) (ret := ret) hy hw ?_
  intro p e s m args below meth c s₁ B hml hv
  obtain ⟨rfl, hP, hK, hD⟩ := hv
  have hr := B.returns
  have hlocks := B.notSynchronized
  rw [lg_entry_eq]
  refine body p e s m _ below meth c _ _ B.exec B.bytes hml (atoms_spec (ws := ws) B.pre) (findClass_of_methodNamed B.named) hK hP hD (lv_entry av hav) (fun hdg => ?_)
  exact W.iret B.exec B.bytes (hr.trans hret) (fun t ht hW => ⟨_, rfl, rfl, ht⟩) (fun q h => by cases h) hdg
theorem zRz_of (v : Int) (hy : plainName y.cls = true) (hw : ws = Cond.code y cc maxL ret :: ws') (hav : (lg_sl av).length ≤ maxL) (hret : ret = some .boolean) (h01 : v = 0 ∨ v = 1)
    (body : ∀ (p : Program) (e : Env) (s : State) (m : MethodId) (args : Array Value) (below : List Frame) (meth : Method) (c : Code) (Q : State → Prop) (ls : Array Slot), p.tables.exec = Jvm.exec → c.code = cc → c.maxLocals = maxL → (∀ w ∈ ws, w.before args s = true) → s.vm.findClass y.cls = some m.cls → va_K D vwCl T s → va_P D vwCl W0 s.heap → va_D (fun _ => True) W0 → lv_has ls maxL (lv_args 0 av) →
      (∀ {pc : Nat} {ls1 : Array Slot}, decode cc pc = .ok (.ireturn, 1) → W p l e rm s m args below meth c s.heap [] 0 0 Q (F0 m pc ls1 [.int (zI v)])) → W p l e rm s m args below meth c s.heap [] 0 0 Q (F0 m 0 ls [])) :
    Met l y ws rm (zPc D T av W0) (vp_Si (fun r => r = zI v)) 0 0 (fun _ => False) := by
  refine Met.ofW (cc := cc) (maxL := maxL) (ret := ret) hy hw ?_
  intro p e s m args below meth c s₁ B hml hv
  obtain ⟨rfl, hP, hK, hD⟩ := hv
  have hr := B.returns
  have hlocks := B.notSynchronized
  rw [lg_entry_eq]
  refine body p e s m _ below meth c _ _ B.exec B.bytes hml (atoms_spec (ws := ws) B.pre) (findClass_of_methodNamed B.named) hK hP hD (lv_entry av hav) (fun hdg => ?_)
  exact W.zret B.exec B.bytes (hr.trans hret) (by rcases h01 with rfl | rfl <;> rfl) (fun t ht hW => ⟨_, rfl, rfl, ht⟩) (fun q h => by cases h) hdg
theorem zRl_of (v : Int) (hy : plainName y.cls = true) (hw : ws = Cond.code y cc maxL ret :: ws') (hav : (lg_sl av).length ≤ maxL) (hret : ret = some .long)
    (body : ∀ (p : Program) (e : Env) (s : State) (m : MethodId) (args : Array Value) (below : List Frame) (meth : Method) (c : Code) (Q : State → Prop) (ls : Array Slot), p.tables.exec = Jvm.exec → c.code = cc → c.maxLocals = maxL → (∀ w ∈ ws, w.before args s = true) → s.vm.findClass y.cls = some m.cls → va_K D vwCl T s → va_P D vwCl W0 s.heap → va_D (fun _ => True) W0 → lv_has ls maxL (lv_args 0 av) →
      (∀ {pc : Nat} {ls1 : Array Slot}, decode cc pc = .ok (.lreturn, 1) → W p l e rm s m args below meth c s.heap [] 0 0 Q (F0 m pc ls1 [.long (zL v)])) → W p l e rm s m args below meth c s.heap [] 0 0 Q (F0 m 0 ls [])) :
    Met l y ws rm (zPc D T av W0) (vp_Sl (fun r => r = zL v)) 0 0 (fun _ => False) := by
  refine Met.ofW (cc := cc) (maxL := maxL) (ret := ret) hy hw ?_
  intro p e s m args below meth c s₁ B hml hv
  obtain ⟨rfl, hP, hK, hD⟩ := hv
  have hr := B.returns
  have hlocks := B.notSynchronized
  rw [lg_entry_eq]
  refine body p e s m _ below meth c _ _ B.exec B.bytes hml (atoms_spec (ws := ws) B.pre) (findClass_of_methodNamed B.named) hK hP hD (lv_entry av hav) (fun hdg => ?_)
  exact W.lret B.exec B.bytes (hr.trans hret) (fun t ht hW => ⟨_, rfl, rfl, ht⟩) (fun q h => by cases h) hdg
theorem zWi_of {S : Type} {post : Int32 → S → Prop} {W1 : S → va_W} (hy : plainName y.cls = true) (hw : ws = Cond.code y cc maxL ret :: ws') (hav : (lg_sl av).length ≤ maxL) (hret : ret = some .int)
    (body : ∀ (p : Program) (e : Env) (s : State) (m : MethodId) (args : Array Value) (below : List Frame) (meth : Method) (c : Code) (Q : State → Prop) (A : Nat → Prop) (ls : Array Slot), p.tables.exec = Jvm.exec → c.code = cc → c.maxLocals = maxL → (∀ w ∈ ws, w.before args s = true) → s.vm.findClass y.cls = some m.cls → va_K D vwCl T s → va_P D vwCl W0 s.heap → va_D A W0 → va_S A s.heap s.heap [] → lv_has ls maxL (lv_args 0 av) →
      (∀ {H : Heap} {locs : List Loc} {pc : Nat} {ls1 : Array Slot} {r : Int32} (u : S), post r u → va_P D vwCl (W1 u) H → va_S A s.heap H locs → decode cc pc = .ok (.ireturn, 1) → W p l e rm s m args below meth c H locs 0 0 Q (F0 m pc ls1 [.int r])) → W p l e rm s m args below meth c s.heap [] 0 0 Q (F0 m 0 ls [])) :
    Met l y ws rm (zPc D T av W0) (va_Qi post (fun u t => va_P D vwCl (W1 u) t.heap) (zAd W0)) 0 0 (zAd W0) := by
  refine Met.ofW (cc := cc) (maxL := maxL) (ret := ret) hy hw ?_
  intro p e s m args below meth c s₁ B hml hv
  obtain ⟨rfl, hP, hK, hD⟩ := hv
  have hr := B.returns
  have hlocks := B.notSynchronized
  rw [lg_entry_eq]
  refine body p e s m _ below meth c _ (zAd W0) _ B.exec B.bytes hml (atoms_spec (ws := ws) B.pre) (findClass_of_methodNamed B.named) hK hP (zD_self hD) va_S.rf (lv_entry av hav) (fun u h1 h2 hS hdg => ?_)
  exact W.iret B.exec B.bytes (hr.trans hret) (fun t ht hW => ⟨⟨_, u, rfl, h1, by show va_P D vwCl (W1 u) t.heap; rw [ht]; exact h2⟩, hS.F ht⟩) hS.2.2 hdg
theorem zWz_of {S : Type} {post : Int32 → S → Prop} {W1 : S → va_W} (hy : plainName y.cls = true) (hw : ws = Cond.code y cc maxL ret :: ws') (hav : (lg_sl av).length ≤ maxL) (hret : ret = some .boolean) (h01 : ∀ r u, post r u → r = zI 0 ∨ r = zI 1)
    (body : ∀ (p : Program) (e : Env) (s : State) (m : MethodId) (args : Array Value) (below : List Frame) (meth : Method) (c : Code) (Q : State → Prop) (A : Nat → Prop) (ls : Array Slot), p.tables.exec = Jvm.exec → c.code = cc → c.maxLocals = maxL → (∀ w ∈ ws, w.before args s = true) → s.vm.findClass y.cls = some m.cls → va_K D vwCl T s → va_P D vwCl W0 s.heap → va_D A W0 → va_S A s.heap s.heap [] → lv_has ls maxL (lv_args 0 av) →
      (∀ {H : Heap} {locs : List Loc} {pc : Nat} {ls1 : Array Slot} {r : Int32} (u : S), post r u → va_P D vwCl (W1 u) H → va_S A s.heap H locs → decode cc pc = .ok (.ireturn, 1) → W p l e rm s m args below meth c H locs 0 0 Q (F0 m pc ls1 [.int r])) → W p l e rm s m args below meth c s.heap [] 0 0 Q (F0 m 0 ls [])) :
    Met l y ws rm (zPc D T av W0) (va_Qi post (fun u t => va_P D vwCl (W1 u) t.heap) (zAd W0)) 0 0 (zAd W0) := by
  refine Met.ofW (cc := cc) (maxL := maxL) (ret := ret) hy hw ?_
  intro p e s m args below meth c s₁ B hml hv
  obtain ⟨rfl, hP, hK, hD⟩ := hv
  have hr := B.returns
  have hlocks := B.notSynchronized
  rw [lg_entry_eq]
  refine body p e s m _ below meth c _ (zAd W0) _ B.exec B.bytes hml (atoms_spec (ws := ws) B.pre) (findClass_of_methodNamed B.named) hK hP (zD_self hD) va_S.rf (lv_entry av hav) (fun u h1 h2 hS hdg => ?_)
  exact W.zret B.exec B.bytes (hr.trans hret) (by rcases h01 _ u h1 with rfl | rfl <;> rfl) (fun t ht hW => ⟨⟨_, u, rfl, h1, by show va_P D vwCl (W1 u) t.heap; rw [ht]; exact h2⟩, hS.F ht⟩) hS.2.2 hdg
theorem zWl_of {S : Type} {post : Int64 → S → Prop} {W1 : S → va_W} (hy : plainName y.cls = true) (hw : ws = Cond.code y cc maxL ret :: ws') (hav : (lg_sl av).length ≤ maxL) (hret : ret = some .long)
    (body : ∀ (p : Program) (e : Env) (s : State) (m : MethodId) (args : Array Value) (below : List Frame) (meth : Method) (c : Code) (Q : State → Prop) (A : Nat → Prop) (ls : Array Slot), p.tables.exec = Jvm.exec → c.code = cc → c.maxLocals = maxL → (∀ w ∈ ws, w.before args s = true) → s.vm.findClass y.cls = some m.cls → va_K D vwCl T s → va_P D vwCl W0 s.heap → va_D A W0 → va_S A s.heap s.heap [] → lv_has ls maxL (lv_args 0 av) →
      (∀ {H : Heap} {locs : List Loc} {pc : Nat} {ls1 : Array Slot} {r : Int64} (u : S), post r u → va_P D vwCl (W1 u) H → va_S A s.heap H locs → decode cc pc = .ok (.lreturn, 1) → W p l e rm s m args below meth c H locs 0 0 Q (F0 m pc ls1 [.long r])) → W p l e rm s m args below meth c s.heap [] 0 0 Q (F0 m 0 ls [])) :
    Met l y ws rm (zPc D T av W0) (va_Ql post (fun u t => va_P D vwCl (W1 u) t.heap) (zAd W0)) 0 0 (zAd W0) := by
  refine Met.ofW (cc := cc) (maxL := maxL) (ret := ret) hy hw ?_
  intro p e s m args below meth c s₁ B hml hv
  obtain ⟨rfl, hP, hK, hD⟩ := hv
  have hr := B.returns
  have hlocks := B.notSynchronized
  rw [lg_entry_eq]
  refine body p e s m _ below meth c _ (zAd W0) _ B.exec B.bytes hml (atoms_spec (ws := ws) B.pre) (findClass_of_methodNamed B.named) hK hP (zD_self hD) va_S.rf (lv_entry av hav) (fun u h1 h2 hS hdg => ?_)
  exact W.lret B.exec B.bytes (hr.trans hret) (fun t ht hW => ⟨⟨_, u, rfl, h1, by show va_P D vwCl (W1 u) t.heap; rw [ht]; exact h2⟩, hS.F ht⟩) hS.2.2 hdg
theorem zWv_of {S : Type} {post : S → Prop} {W1 : S → va_W} (hy : plainName y.cls = true) (hw : ws = Cond.code y cc maxL ret :: ws') (hav : (lg_sl av).length ≤ maxL) (hret : ret = none)
    (body : ∀ (p : Program) (e : Env) (s : State) (m : MethodId) (args : Array Value) (below : List Frame) (meth : Method) (c : Code) (Q : State → Prop) (A : Nat → Prop) (ls : Array Slot), p.tables.exec = Jvm.exec → c.code = cc → c.maxLocals = maxL → (∀ w ∈ ws, w.before args s = true) → s.vm.findClass y.cls = some m.cls → va_K D vwCl T s → va_P D vwCl W0 s.heap → va_D A W0 → va_S A s.heap s.heap [] → lv_has ls maxL (lv_args 0 av) →
      (∀ {H : Heap} {locs : List Loc} {pc : Nat} {ls1 : Array Slot} (u : S), post u → va_P D vwCl (W1 u) H → va_S A s.heap H locs → decode cc pc = .ok (.return_, 1) → W p l e rm s m args below meth c H locs 0 0 Q (F0 m pc ls1 [])) → W p l e rm s m args below meth c s.heap [] 0 0 Q (F0 m 0 ls [])) :
    Met l y ws rm (zPc D T av W0) (va_Qv post (fun u t => va_P D vwCl (W1 u) t.heap) (zAd W0)) 0 0 (zAd W0) := by
  refine Met.ofW (cc := cc) (maxL := maxL) (ret := ret) hy hw ?_
  intro p e s m args below meth c s₁ B hml hv
  obtain ⟨rfl, hP, hK, hD⟩ := hv
  have hr := B.returns
  have hlocks := B.notSynchronized
  rw [lg_entry_eq]
  refine body p e s m _ below meth c _ (zAd W0) _ B.exec B.bytes hml (atoms_spec (ws := ws) B.pre) (findClass_of_methodNamed B.named) hK hP (zD_self hD) va_S.rf (lv_entry av hav) (fun u h1 h2 hS hdg => ?_)
  exact W.vret B.exec B.bytes (hr.trans hret) (fun t ht hW => ⟨⟨u, rfl, h1, by show va_P D vwCl (W1 u) t.heap; rw [ht]; exact h2⟩, hS.F ht⟩) hS.2.2 hdg
end ZM
