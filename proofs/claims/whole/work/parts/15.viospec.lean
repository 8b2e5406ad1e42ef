/-! ===== the violations of a layout ===== -/
noncomputable def zl (P : Prop) (v : Int) : List Int := @ite (List Int) P (Classical.propDecidable P) [v] []
theorem zl_t {P : Prop} (h : P) (v : Int) : zl P v = [v] := by unfold zl; exact if_pos h
theorem zl_f {P : Prop} (h : ¬ P) (v : Int) : zl P v = [] := by unfold zl; exact if_neg h
theorem zl_iff {P Q : Prop} (h : P ↔ Q) (v : Int) : zl P v = zl Q v := by rw [propext h]
theorem zl_len (P : Prop) (v : Int) : (P ∧ (zl P v).length = 1) ∨ (¬ P ∧ (zl P v).length = 0) := (Classical.em P).elim (fun h => Or.inl ⟨h, by rw [zl_t h]; rfl⟩) (fun h => Or.inr ⟨h, by rw [zl_f h]; rfl⟩)
/-- the row g holds the numbers of the list, in order -/
def Fnd (g : Int → Int) (L : List Int) : Prop := ∀ (j : Nat) (v : Int), L[j]? = some v → g (j : Int) = v
theorem fnd_nil (g : Int → Int) : Fnd g [] := fun j v h => by simp at h
theorem fnd_add {g : Int → Int} {L : List Int} (h : Fnd g L) (v : Int) : Fnd (zup g (L.length : Int) v) (L ++ [v]) := by
  intro j w hj
  by_cases hl : j < L.length
  · rw [List.getElem?_append_left hl] at hj
    rw [zup_ne (by omega)]
    exact h j w hj
  · have hj2 := (List.getElem?_eq_some_iff.mp hj).1
    rw [List.length_append] at hj2
    have hj3 : j = L.length := by simp at hj2; omega
    subst hj3
    rw [List.getElem?_append_right (Nat.le_refl _), Nat.sub_self] at hj
    rw [zup_at]
    simpa using hj
/-- a two-aspect post at x can't be stopped at when it is seen -/
def isLate (f gd : Int → Int) (x : Int) : Prop := x - sgt f x < gd (sgt f x)
/-- post i at x comes too near, for braking -/
def near (f ps gd : Int → Int) (n i x : Int) : Prop := (f 4 = 2 ∧ 0 < i ∧ isLate f gd x) ∨ (f 4 ≠ 2 ∧ i + f 4 - 2 < n ∧ ps (i + f 4 - 2) - x < gd x)
/-- the violations at x, where post i is, or would be the next -/
noncomputable def vat (f ps gd : Int → Int) (n i x : Int) : List Int :=
  zl (f (491 + x) = 1 ∧ f (249 + x) = 1) (1000 * 1 + x) ++ (zl (f (491 + x) ≠ 1 ∧ wanted f x) (1000 * 2 + x) ++ (zl (f (491 + x) = 1 ∧ 0 < i ∧ x - ps (i - 1) < f 5) (1000 * 3 + x) ++ (zl (f (491 + x) = 1 ∧ 0 < i ∧ f 6 < x - ps (i - 1)) (1000 * 4 + x) ++ zl (f (491 + x) = 1 ∧ near f ps gd n i x) (1000 * 5 + x))))
theorem vat_yes {f ps gd : Int → Int} {n i x : Int} (h : f (491 + x) = 1) : vat f ps gd n i x = zl (f (249 + x) = 1) (1000 * 1 + x) ++ (zl (0 < i ∧ x - ps (i - 1) < f 5) (1000 * 3 + x) ++ (zl (0 < i ∧ f 6 < x - ps (i - 1)) (1000 * 4 + x) ++ zl (near f ps gd n i x) (1000 * 5 + x))) := by
  unfold vat
  rw [zl_f (fun q : f (491 + x) ≠ 1 ∧ wanted f x => q.1 h), List.nil_append]
  rw [zl_iff (Q := f (249 + x) = 1) ⟨fun q => q.2, fun q => ⟨h, q⟩⟩, zl_iff (P := f (491 + x) = 1 ∧ 0 < i ∧ x - ps (i - 1) < f 5) (Q := 0 < i ∧ x - ps (i - 1) < f 5) ⟨fun q => q.2, fun q => ⟨h, q⟩⟩, zl_iff (P := f (491 + x) = 1 ∧ 0 < i ∧ f 6 < x - ps (i - 1)) (Q := 0 < i ∧ f 6 < x - ps (i - 1)) ⟨fun q => q.2, fun q => ⟨h, q⟩⟩, zl_iff (P := f (491 + x) = 1 ∧ near f ps gd n i x) (Q := near f ps gd n i x) ⟨fun q => q.2, fun q => ⟨h, q⟩⟩]
theorem vat_no {f ps gd : Int → Int} {n i x : Int} (h : f (491 + x) ≠ 1) : vat f ps gd n i x = zl (wanted f x) (1000 * 2 + x) := by
  unfold vat
  rw [zl_f (fun q : f (491 + x) = 1 ∧ f (249 + x) = 1 => h q.1), zl_f (fun q : f (491 + x) = 1 ∧ 0 < i ∧ x - ps (i - 1) < f 5 => h q.1), zl_f (fun q : f (491 + x) = 1 ∧ 0 < i ∧ f 6 < x - ps (i - 1) => h q.1), zl_f (fun q : f (491 + x) = 1 ∧ near f ps gd n i x => h q.1), zl_iff (Q := wanted f x) ⟨fun q => q.2, fun q => ⟨h, q⟩⟩]
  simp
theorem vat_len {f ps gd : Int → Int} {n i x : Int} (ok : OkF f) : (vat f ps gd n i x).length ≤ 3 := by
  have o5 := ok.2.2.2.2.2.1
  by_cases h : f (491 + x) = 1
  · rw [vat_yes h]
    simp only [List.length_append]
    have h1 := zl_len (f (249 + x) = 1) (1000 * 1 + x)
    have h2 := zl_len (0 < i ∧ x - ps (i - 1) < f 5) (1000 * 3 + x)
    have h3 := zl_len (0 < i ∧ f 6 < x - ps (i - 1)) (1000 * 4 + x)
    have h4 := zl_len (near f ps gd n i x) (1000 * 5 + x)
    rcases h1 with ⟨a1, h1⟩ | ⟨a1, h1⟩ <;> rcases h2 with ⟨a2, h2⟩ | ⟨a2, h2⟩ <;> rcases h3 with ⟨a3, h3⟩ | ⟨a3, h3⟩ <;> rcases h4 with ⟨a4, h4⟩ | ⟨a4, h4⟩ <;> omega
  · rw [vat_no h]
    have h1 := zl_len (wanted f x) (1000 * 2 + x)
    omega
noncomputable def vls (f ps gd : Int → Int) (n : Int) : Nat → List Int
  | 0 => []
  | k + 1 => vls f ps gd n k ++ vat f ps gd n (rank f (k : Int)) (k : Int)
/-- the violations at the positions below x -/
noncomputable def vio (f ps gd : Int → Int) (n x : Int) : List Int := vls f ps gd n x.toNat
theorem vio_s {f ps gd : Int → Int} {n x : Int} (h : 0 ≤ x) : vio f ps gd n (x + 1) = vio f ps gd n x ++ vat f ps gd n (rank f x) x := by
  unfold vio
  rw [show (x + 1).toNat = x.toNat + 1 by omega]
  show vls f ps gd n x.toNat ++ vat f ps gd n (rank f (x.toNat : Int)) (x.toNat : Int) = _
  rw [show (x.toNat : Int) = x by omega]
theorem vio_len {f ps gd : Int → Int} {n : Int} (ok : OkF f) : ∀ x : Int, 0 ≤ x → x ≤ 1000 → ((vio f ps gd n x).length : Int) ≤ 3 * x := by
  refine z_ind (by show ((([] : List Int).length : Nat) : Int) ≤ 3 * 0; simp) (fun x h1 h2 ih => ?_)
  rw [vio_s h1, List.length_append]
  have := vat_len (ps := ps) (gd := gd) (n := n) (i := rank f x) (x := x) ok
  omega
/-- the same violations out of other rows that agree -/
theorem vio_congr {f ps gd ps' gd' : Int → Int} {n : Int} (ok : OkF f) (hn : n = rank f (f 0 + 1)) (hp : ∀ k : Int, 0 ≤ k → k < n → ps k = ps' k) (hd : ∀ x : Int, 0 ≤ x → x ≤ f 0 → gd x = gd' x) : ∀ x : Int, 0 ≤ x → x ≤ f 0 + 1 → vio f ps gd n x = vio f ps' gd' n x := by
  have o0 := ok.1
  have o4 := ok.2.2.2.2.1
  refine z_ind rfl (fun x h1 h2 ih => ?_)
  rw [vio_s h1, vio_s h1, ih]
  congr 1
  by_cases h : f (491 + x) = 1
  · rw [vat_yes h, vat_yes h]
    have hr := rank_b ok h1 (by omega : x ≤ 121)
    have hlt := rank_lt ok h1 (by omega : x < f 0 + 1) (by omega) h
    have hs := sgt_b ok h1
    have e3 : (0 < rank f x ∧ x - ps (rank f x - 1) < f 5) ↔ (0 < rank f x ∧ x - ps' (rank f x - 1) < f 5) := by
      constructor
      · intro q; rw [hp _ (by omega) (by omega)] at q; exact q
      · intro q; rw [← hp _ (by omega) (by omega)] at q; exact q
    have e4 : (0 < rank f x ∧ f 6 < x - ps (rank f x - 1)) ↔ (0 < rank f x ∧ f 6 < x - ps' (rank f x - 1)) := by
      constructor
      · intro q; rw [hp _ (by omega) (by omega)] at q; exact q
      · intro q; rw [← hp _ (by omega) (by omega)] at q; exact q
    have e5 : near f ps gd n (rank f x) x ↔ near f ps' gd' n (rank f x) x := by
      unfold near isLate
      rw [hd _ hs.1 (by omega), hd x h1 (by omega)]
      constructor
      · rintro (q | ⟨q1, q2, q3⟩)
        · exact Or.inl q
        · rw [hp _ (by omega) q2] at q3; exact Or.inr ⟨q1, q2, q3⟩
      · rintro (q | ⟨q1, q2, q3⟩)
        · exact Or.inl q
        · rw [← hp _ (by omega) q2] at q3; exact Or.inr ⟨q1, q2, q3⟩
    rw [zl_iff e3, zl_iff e4, zl_iff e5]
  · rw [vat_no h, vat_no h]
