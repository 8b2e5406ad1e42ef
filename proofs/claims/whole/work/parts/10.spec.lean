/-! ===== the state as one row f of whole numbers: 0 length, 1 rate, 2 reaction, 3 train, 4 aspects, 5 minimum, 6 maximum, 7 sighting, 8 overlap; 9 + c limit, 129 + c gradient, 249 + x barred, 370 + x required, 491 + x post ===== -/
def OkF (f : Int → Int) : Prop :=
  (10 ≤ f 0 ∧ f 0 ≤ 120) ∧ (50 ≤ f 1 ∧ f 1 ≤ 200) ∧ (0 ≤ f 2 ∧ f 2 ≤ 100) ∧ (1 ≤ f 3 ∧ f 3 ≤ 20) ∧ (2 ≤ f 4 ∧ f 4 ≤ 4) ∧ (1 ≤ f 5 ∧ f 5 ≤ f 6 ∧ f 6 ≤ 120) ∧ (0 ≤ f 7 ∧ f 7 ≤ 40) ∧ (0 ≤ f 8 ∧ f 8 ≤ 20) ∧
  (∀ x : Int, 0 ≤ x → x < 120 → 20 ≤ f (9 + x) ∧ f (9 + x) ≤ 160) ∧ (∀ x : Int, 0 ≤ x → x < 120 → -40 ≤ f (129 + x) ∧ f (129 + x) ≤ 40) ∧
  (∀ x : Int, 0 ≤ x → x < 121 → f (249 + x) = 0 ∨ f (249 + x) = 1) ∧ (∀ x : Int, 0 ≤ x → x < 121 → f (370 + x) = 0 ∨ f (370 + x) = 1) ∧ (∀ x : Int, 0 ≤ x → x < 121 → f (491 + x) = 0 ∨ f (491 + x) = 1)
def zsum (f : Int → Int) (o : Int) : Nat → Int
  | 0 => 0
  | k + 1 => zsum f o k + f (o + (k : Int))
/-- the sum of x places from o on -/
def zsm (f : Int → Int) (o x : Int) : Int := zsum f o x.toNat
theorem zsm_0 (f : Int → Int) (o : Int) : zsm f o 0 = 0 := rfl
theorem zsm_s {f : Int → Int} {o x : Int} (h : 0 ≤ x) : zsm f o (x + 1) = zsm f o x + f (o + x) := by
  unfold zsm
  rw [show (x + 1).toNat = x.toNat + 1 by omega]
  show zsum f o x.toNat + f (o + (x.toNat : Int)) = _
  rw [show (x.toNat : Int) = x by omega]
/-- induction on whole numbers from 0 to a bound -/
theorem z_ind {P : Int → Prop} {n : Int} (h0 : P 0) (hs : ∀ x : Int, 0 ≤ x → x < n → P x → P (x + 1)) : ∀ x : Int, 0 ≤ x → x ≤ n → P x := by
  have key : ∀ k : Nat, (k : Int) ≤ n → P (k : Int) := by
    intro k
    induction k with
    | zero => intro _; exact h0
    | succ k ih =>
      intro h
      have h1 := hs (k : Int) (by omega) (by omega) (ih (by omega))
      rw [show ((k + 1 : Nat) : Int) = (k : Int) + 1 by omega]
      exact h1
  intro x h1 h2
  have h3 := key x.toNat (by omega)
  rw [show (x.toNat : Int) = x by omega] at h3
  exact h3
/-- downwards -/
theorem z_indD {P : Int → Prop} {n : Int} (h0 : P n) (hs : ∀ x : Int, 0 ≤ x → x < n → P (x + 1) → P x) : ∀ x : Int, 0 ≤ x → x ≤ n → P x := by
  intro x h1 h2
  have h := z_ind (P := fun y => P (n - y)) (n := n) (by rw [Int.sub_zero]; exact h0) (fun y h3 h4 h5 => hs (n - (y + 1)) (by omega) (by omega) (by rw [show n - (y + 1) + 1 = n - y by omega]; exact h5)) (n - x) (by omega) (by omega)
  rw [show n - (n - x) = x by omega] at h
  exact h
theorem zsm_b {f : Int → Int} {o n : Int} (h : ∀ x : Int, 0 ≤ x → x < n → f (o + x) = 0 ∨ f (o + x) = 1) : ∀ x : Int, 0 ≤ x → x ≤ n → 0 ≤ zsm f o x ∧ zsm f o x ≤ x := by
  refine z_ind ⟨by rw [zsm_0]; omega, by rw [zsm_0]; omega⟩ (fun x h1 h2 ih => ?_)
  rw [zsm_s h1]
  have := h x h1 h2
  omega
theorem zsm_up {f : Int → Int} {o x v : Int} (hx : 0 ≤ x) : ∀ y : Int, 0 ≤ y → y ≤ 1000 → zsm (zup f (o + x) v) o y = zsm f o y + (if x < y then v - f (o + x) else 0) := by
  refine z_ind (by rw [zsm_0, zsm_0, if_neg (by omega)]; rfl) (fun y h1 h2 ih => ?_)
  rw [zsm_s h1, zsm_s h1, ih]
  by_cases h : y = x
  · subst h
    rw [zup_at, if_neg (by omega), if_pos (by omega)]
    omega
  · rw [zup_ne (by omega)]
    by_cases h3 : x < y
    · rw [if_pos h3, if_pos (by omega)]; omega
    · rw [if_neg h3, if_neg (by omega)]; omega
/-- how many posts stand ahead of x -/
abbrev rank (f : Int → Int) (x : Int) : Int := zsm f 491 x
theorem rank_b {f : Int → Int} (ok : OkF f) {x : Int} (h1 : 0 ≤ x) (h2 : x ≤ 121) : 0 ≤ rank f x ∧ rank f x ≤ x := zsm_b (n := 121) ok.2.2.2.2.2.2.2.2.2.2.2.2 x h1 h2
theorem rank_mono {f : Int → Int} (ok : OkF f) {x y : Int} (h1 : 0 ≤ x) (h2 : x ≤ y) (h3 : y ≤ 121) : rank f x ≤ rank f y := by
  have opost := ok.2.2.2.2.2.2.2.2.2.2.2.2
  have key := z_ind (P := fun k => x + k ≤ 121 → rank f x ≤ rank f (x + k)) (n := 121) (by rw [Int.add_zero]; exact fun _ => Int.le_refl _) (fun k h4 _ ih h6 => by
    have h7 := ih (by omega)
    have h8 := opost (x + k) (by omega) (by omega)
    rw [show x + (k + 1) = (x + k) + 1 by omega]
    show rank f x ≤ zsm f 491 (x + k + 1)
    rw [zsm_s (by omega)]
    have h9 : rank f x ≤ zsm f 491 (x + k) := h7
    omega) (y - x) (by omega) (by omega)
  have h5 := key (by omega)
  rw [show x + (y - x) = y by omega] at h5
  exact h5
theorem rank_lt {f : Int → Int} (ok : OkF f) {x y : Int} (h1 : 0 ≤ x) (h2 : x < y) (h3 : y ≤ 121) (hm : f (491 + x) = 1) : rank f x + 1 ≤ rank f y := by
  have h := rank_mono ok (x := x + 1) (y := y) (by omega) (by omega) h3
  have h4 : rank f (x + 1) = rank f x + f (491 + x) := zsm_s h1
  omega
theorem rank_at {f : Int → Int} (ok : OkF f) {y k : Int} (h1 : 0 ≤ y) (h2 : y ≤ 121) (h3 : 0 ≤ k) (h4 : k < rank f y) : ∃ x : Int, 0 ≤ x ∧ x < y ∧ f (491 + x) = 1 ∧ rank f x = k := by
  have opost := ok.2.2.2.2.2.2.2.2.2.2.2.2
  have key := z_ind (P := fun y => k < rank f y → ∃ x : Int, 0 ≤ x ∧ x < y ∧ f (491 + x) = 1 ∧ rank f x = k) (n := 121) (fun h => by rw [show rank f 0 = 0 from zsm_0 f 491] at h; omega) (fun z h5 h6 ih h7 => by
    have h8 : rank f (z + 1) = rank f z + f (491 + z) := zsm_s h5
    by_cases h9 : k < rank f z
    · obtain ⟨x, a1, a2, a3, a4⟩ := ih h9
      exact ⟨x, a1, by omega, a3, a4⟩
    · have := opost z h5 h6
      exact ⟨z, h5, by omega, by omega, by omega⟩) y h1 h2
  exact key h4
/-- the row of posts ps, of which n count, says where f has its posts -/
def Rep (f ps : Int → Int) (n : Int) : Prop := n = rank f (f 0 + 1) ∧ ∀ x : Int, 0 ≤ x → x ≤ f 0 → f (491 + x) = 1 → ps (rank f x) = x
theorem rep_n {f ps : Int → Int} {n : Int} (ok : OkF f) (r : Rep f ps n) : 0 ≤ n ∧ n ≤ f 0 + 1 := by
  have o0 := ok.1
  have h := rank_b ok (x := f 0 + 1) (by omega) (by omega)
  rw [r.1]
  exact h
theorem rep_k {f ps : Int → Int} {n k : Int} (ok : OkF f) (r : Rep f ps n) (h1 : 0 ≤ k) (h2 : k < n) : 0 ≤ ps k ∧ ps k ≤ f 0 ∧ f (491 + ps k) = 1 ∧ rank f (ps k) = k := by
  have o0 := ok.1
  rw [r.1] at h2
  obtain ⟨x, a1, a2, a3, a4⟩ := rank_at ok (by omega) (by omega) h1 h2
  have a5 := r.2 x a1 (by omega) a3
  rw [a4] at a5
  rw [a5]
  exact ⟨a1, by omega, a3, a4⟩
theorem rep_lt {f ps : Int → Int} {n k y : Int} (ok : OkF f) (r : Rep f ps n) (h1 : 0 ≤ k) (h2 : k < n) (h3 : 0 ≤ y) (h4 : y ≤ f 0 + 1) : ps k < y ↔ k < rank f y := by
  have o0 := ok.1
  obtain ⟨a1, a2, a3, a4⟩ := rep_k ok r h1 h2
  constructor
  · intro h
    have := rank_lt ok a1 h (by omega) a3
    omega
  · intro h
    rcases Int.lt_or_le (ps k) y with q | q
    · exact q
    · have := rank_mono ok h3 q (by omega)
      omega
/-- a post is put in -/
theorem rep_in {f ps u : Int → Int} {n x : Int} (ok : OkF f) (r : Rep f ps n) (h1 : 0 ≤ x) (h2 : x ≤ f 0) (h3 : f (491 + x) = 0) (hu1 : ∀ j : Int, 0 ≤ j → j < rank f x → u j = ps j) (hu2 : u (rank f x) = x) (hu3 : ∀ j : Int, rank f x < j → j ≤ n → u j = ps (j - 1)) : Rep (zup f (491 + x) 1) u (n + 1) := by
  have o0 := ok.1
  have e0 : zup f (491 + x) 1 0 = f 0 := zup_ne (by omega)
  have er : ∀ y : Int, 0 ≤ y → y ≤ 121 → rank (zup f (491 + x) 1) y = rank f y + (if x < y then 1 else 0) := fun y a b => by
    have h := zsm_up (f := f) (o := 491) (v := 1) h1 y a (by omega)
    rw [h3] at h
    exact h
  refine ⟨by rw [e0, er _ (by omega) (by omega), if_pos (by omega), r.1], fun y a1 a2 a3 => ?_⟩
  rw [e0] at a2
  rw [er y a1 (by omega)]
  by_cases hy : y = x
  · subst hy
    rw [if_neg (by omega), Int.add_zero]
    exact hu2
  · rw [zup_ne (by omega)] at a3
    have b1 := rank_b ok a1 (by omega : y ≤ 121)
    by_cases h : x < y
    · rw [if_pos h]
      have b2 := rank_mono ok h1 (Int.le_of_lt h) (by omega : y ≤ 121)
      have b3 := rank_lt ok a1 (by omega : y < f 0 + 1) (by omega) a3
      rw [hu3 _ (by omega) (by rw [r.1]; omega), Int.add_sub_cancel]
      exact r.2 y a1 a2 a3
    · rw [if_neg h, Int.add_zero]
      have b2 := rank_lt ok a1 (by omega : y < x) (by omega) a3
      rw [hu1 _ b1.1 (by omega)]
      exact r.2 y a1 a2 a3
/-- a post is taken away -/
theorem rep_out {f ps u : Int → Int} {n x : Int} (ok : OkF f) (r : Rep f ps n) (h1 : 0 ≤ x) (h2 : x ≤ f 0) (h3 : f (491 + x) = 1) (hu1 : ∀ j : Int, 0 ≤ j → j < rank f x → u j = ps j) (hu3 : ∀ j : Int, rank f x ≤ j → j < n - 1 → u j = ps (j + 1)) : Rep (zup f (491 + x) 0) u (n - 1) := by
  have o0 := ok.1
  have e0 : zup f (491 + x) 0 0 = f 0 := zup_ne (by omega)
  have er : ∀ y : Int, 0 ≤ y → y ≤ 121 → rank (zup f (491 + x) 0) y = rank f y + (if x < y then -1 else 0) := fun y a b => by
    have h := zsm_up (f := f) (o := 491) (v := 0) h1 y a (by omega)
    rw [h3] at h
    exact h
  refine ⟨by rw [e0, er _ (by omega) (by omega), if_pos (by omega), r.1]; rfl, fun y a1 a2 a3 => ?_⟩
  rw [e0] at a2
  rw [er y a1 (by omega)]
  have hy : y ≠ x := fun q => by rw [q, zup_at] at a3; exact absurd a3 (by decide)
  rw [zup_ne (by omega)] at a3
  have b1 := rank_b ok a1 (by omega : y ≤ 121)
  by_cases h : x < y
  · rw [if_pos h]
    have b2 := rank_lt ok h1 h (by omega : y ≤ 121) h3
    have b3 := rank_lt ok a1 (by omega : y < f 0 + 1) (by omega) a3
    rw [hu3 _ (by omega) (by rw [r.1]; omega), show rank f y + -1 + 1 = rank f y by omega]
    exact r.2 y a1 a2 a3
  · rw [if_neg h, Int.add_zero]
    have b2 := rank_lt ok a1 (by omega : y < x) (by omega) a3
    rw [hu1 _ b1.1 (by omega)]
    exact r.2 y a1 a2 a3
/-- whether a position needs a post -/
def wanted (f : Int → Int) (x : Int) : Prop := x = 0 ∨ x = f 0 ∨ f (370 + x) = 1
/-- a new line of c cells -/
def newl (f : Int → Int) (c : Int) : Int → Int := fun j => if j = 0 then c else if j < 9 then f j else if j < 129 then 80 else 0
theorem newl_lo {f : Int → Int} {c j : Int} (h : 1 ≤ j ∧ j < 9) : newl f c j = f j := by unfold newl; rw [if_neg (by omega), if_pos h.2]
theorem newl_lim {f : Int → Int} {c j : Int} (h : 9 ≤ j ∧ j < 129) : newl f c j = 80 := by unfold newl; rw [if_neg (by omega), if_neg (by omega), if_pos h.2]
theorem newl_hi {f : Int → Int} {c j : Int} (h : 129 ≤ j) : newl f c j = 0 := by unfold newl; rw [if_neg (by omega), if_neg (by omega), if_neg (by omega)]
theorem zsm_none {f : Int → Int} {o n : Int} (h : ∀ x : Int, 0 ≤ x → x < n → f (o + x) = 0) : ∀ x : Int, 0 ≤ x → x ≤ n → zsm f o x = 0 := z_ind (zsm_0 f o) (fun x h1 h2 ih => by rw [zsm_s h1, ih, h x h1 h2]; rfl)
theorem rep_none {f ps : Int → Int} (ok : OkF f) (h : ∀ x : Int, 0 ≤ x → x < 121 → f (491 + x) = 0) : Rep f ps 0 := by
  have o0 := ok.1
  exact ⟨(zsm_none h (f 0 + 1) (by omega) (by omega)).symm, fun x h1 h2 h3 => by rw [h x h1 (by omega)] at h3; exact absurd h3 (by decide)⟩
