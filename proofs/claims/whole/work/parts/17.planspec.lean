/-! ===== the best layout ===== -/
/-- whether a post may stand at x, behind the first one -/
def opn (f gd : Int → Int) (x : Int) : Prop := f (249 + x) = 0 ∧ (f 4 ≠ 2 ∨ ¬ isLate f gd x)
def far (f : Int → Int) (x : Int) : Int := if x + f 6 < f 0 then x + f 6 else f 0
/-- y is the farthest that the next post behind x may stand -/
def IsLst (f : Int → Int) (x y : Int) : Prop := x < y ∧ y ≤ far f x ∧ (y = far f x ∨ wanted f y) ∧ ∀ z : Int, x < z → z < y → ¬ wanted f z
noncomputable def lst (f : Int → Int) (x : Int) : Int := @Classical.epsilon Int ⟨0⟩ (IsLst f x)
theorem isLst_lt {f : Int → Int} {x y z : Int} (h : IsLst f x y) (h2 : IsLst f x z) : ¬ y < z := fun q => by
  rcases h.2.2.1 with a | a
  · have := h2.2.1; omega
  · exact h2.2.2.2 y h.1 q a
theorem lst_of {f : Int → Int} {x y : Int} (h : IsLst f x y) : y = lst f x := by
  have h2 : IsLst f x (lst f x) := Classical.epsilon_spec (p := IsLst f x) ⟨y, h⟩
  have h3 := isLst_lt h h2
  have h4 := isLst_lt h2 h
  omega
theorem far_b {f : Int → Int} (ok : OkF f) {x : Int} (h2 : x < f 0) : x < far f x ∧ far f x ≤ f 0 ∧ far f x ≤ x + f 6 := by
  have := ok.2.2.2.2.2.1
  unfold far
  split <;> omega
theorem lst_is {f : Int → Int} (ok : OkF f) {x : Int} (h1 : 0 ≤ x) (h2 : x < f 0) : IsLst f x (lst f x) := by
  have hf := far_b ok h2
  refine Classical.epsilon_spec (p := IsLst f x) ?_
  have key := z_ind (P := fun k => x + 1 + k ≤ far f x → (∃ y : Int, IsLst f x y) ∨ ∀ z : Int, x < z → z < x + 1 + k → ¬ wanted f z) (n := 1000) (fun _ => Or.inr (fun z a b => by omega)) (fun k a b ih hk => by
    rcases ih (by omega) with q | q
    · exact Or.inl q
    · by_cases hw : wanted f (x + 1 + k)
      · exact Or.inl ⟨x + 1 + k, by omega, by omega, Or.inr hw, q⟩
      · exact Or.inr (fun z c d => by
          by_cases hz : z = x + 1 + k
          · rw [hz]; exact hw
          · exact q z c (by omega))) (far f x - x - 1) (by omega) (by have := ok.1; omega)
  rcases key (by omega) with q | q
  · exact q
  · exact ⟨far f x, hf.1, Int.le_refl _, Or.inl rfl, fun z a b => q z a (by omega)⟩
/-- the earliest position that the braking rule leaves to the next post behind x, with b ahead of it -/
noncomputable def est (f gd : Int → Int) (b x : Int) : Int := if f 4 = 3 then x + gd x else if f 4 = 4 ∧ b ≠ -1 then b + gd b else 0
/-- y may follow x, with b ahead of it -/
def cnd (f gd : Int → Int) (b x y : Int) : Prop := x < y ∧ y ≤ lst f x ∧ f 5 ≤ y - x ∧ opn f gd y ∧ est f gd b x ≤ y
/-- m is the least number of posts behind x, or 1000 -/
def BestU (f gd : Int → Int) (U : Int → Int → Int) (b x m : Int) : Prop :=
  (∃ y : Int, cnd f gd b x y ∧ 0 ≤ U x y ∧ U x y ≤ f 0 - y ∧ m = 1 + U x y ∧ ∀ z : Int, cnd f gd b x z → U x y ≤ U x z) ∨ (m = 1000 ∧ ∀ z : Int, cnd f gd b x z → U x z = 1000)
def IsU (f gd : Int → Int) (U : Int → Int → Int) : Prop := (∀ b : Int, U b (f 0) = 0) ∧ ∀ x b : Int, 0 ≤ x → x < f 0 → -1 ≤ b → b < x → BestU f gd U b x (U b x)
theorem cnd_b {f gd : Int → Int} (ok : OkF f) {b x y : Int} (h1 : 0 ≤ x) (h2 : x < f 0) (h : cnd f gd b x y) : x < y ∧ y ≤ f 0 := by
  have h3 := lst_is ok h1 h2
  have h4 := far_b ok h2
  have h5 := h.2.1
  exact ⟨h.1, by have := h3.2.1; omega⟩
theorem isU_b {f gd : Int → Int} {U : Int → Int → Int} (ok : OkF f) (h : IsU f gd U) {x b : Int} (h1 : 0 ≤ x) (h2 : x ≤ f 0) (h3 : -1 ≤ b) (h4 : b < x) : U b x = 1000 ∨ (0 ≤ U b x ∧ U b x ≤ f 0 - x) := by
  by_cases hx : x = f 0
  · subst hx
    rw [h.1 b]
    omega
  · rcases h.2 x b h1 (by omega) h3 h4 with ⟨y, c1, c2, c3, c4, -⟩ | ⟨c1, -⟩
    · have := cnd_b ok h1 (by omega) c1
      omega
    · exact Or.inl c1
theorem isU_eq {f gd : Int → Int} {U V : Int → Int → Int} (ok : OkF f) (hU : IsU f gd U) (hV : IsU f gd V) : ∀ x : Int, 0 ≤ x → x ≤ f 0 → ∀ y b : Int, x ≤ y → y ≤ f 0 → -1 ≤ b → b < y → U b y = V b y := by
  refine z_indD (fun y b h1 h2 _ _ => ?_) (fun x h1 h2 ih y b h3 h4 h5 h6 => ?_)
  · have : y = f 0 := by omega
    subst this
    rw [hU.1, hV.1]
  · by_cases hy : x < y
    · exact ih y b (by omega) h4 h5 h6
    · have : y = x := by omega
      subst this
      have e : ∀ z : Int, cnd f gd b y z → U y z = V y z := fun z hz => by
        have := cnd_b ok h1 h2 hz
        exact ih z y (by omega) (by omega) (by omega) (by omega)
      rcases hU.2 y b h1 h2 h5 h6 with ⟨u, c1, c2, c3, c4, c5⟩ | ⟨c1, c2⟩ <;> rcases hV.2 y b h1 h2 h5 h6 with ⟨v, d1, d2, d3, d4, d5⟩ | ⟨d1, d2⟩
      · have e1 := c5 v d1
        have e2 := d5 u c1
        rw [e v d1] at e1
        rw [← e u c1] at e2
        rw [c4, d4]
        omega
      · have e1 := d2 u c1
        rw [← e u c1] at e1
        have := cnd_b ok h1 h2 c1
        have := ok.1
        omega
      · have e1 := c2 v d1
        rw [e v d1] at e1
        have := cnd_b ok h1 h2 d1
        have := ok.1
        omega
      · rw [c1, d1]
noncomputable def cU (f gd : Int → Int) : Int → Int → Int := @Classical.epsilon (Int → Int → Int) ⟨fun _ _ => 0⟩ (IsU f gd)
theorem cU_is {f gd : Int → Int} {U : Int → Int → Int} (h : IsU f gd U) : IsU f gd (cU f gd) := Classical.epsilon_spec (p := IsU f gd) ⟨U, h⟩
theorem cU_eq {f gd : Int → Int} {U : Int → Int → Int} (ok : OkF f) (h : IsU f gd U) {x b : Int} (h1 : 0 ≤ x) (h2 : x ≤ f 0) (h3 : -1 ≤ b) (h4 : b < x) : U b x = cU f gd b x := isU_eq ok h (cU_is h) x h1 h2 x b (Int.le_refl _) h2 h3 h4
/-- y is the nearest post behind x by which the fewest are behind -/
def IsNx (f gd : Int → Int) (U : Int → Int → Int) (b x y : Int) : Prop := cnd f gd b x y ∧ 1 + U x y = U b x ∧ ∀ z : Int, z < y → cnd f gd b x z → 1 + U x z ≠ U b x
noncomputable def nx (f gd : Int → Int) (b x : Int) : Int := @Classical.epsilon Int ⟨0⟩ (IsNx f gd (cU f gd) b x)
theorem isNx_lt {f gd : Int → Int} {U : Int → Int → Int} {b x y z : Int} (h : IsNx f gd U b x y) (h2 : IsNx f gd U b x z) : ¬ y < z := fun q => h2.2.2 y q h.1 h.2.1
theorem nx_of {f gd : Int → Int} {b x y : Int} (h : IsNx f gd (cU f gd) b x y) : y = nx f gd b x := by
  have h2 : IsNx f gd (cU f gd) b x (nx f gd b x) := Classical.epsilon_spec (p := IsNx f gd (cU f gd) b x) ⟨y, h⟩
  have h3 := isNx_lt h h2
  have h4 := isNx_lt h2 h
  omega
theorem isNx_eq {f gd : Int → Int} {U : Int → Int → Int} (ok : OkF f) (h : IsU f gd U) {x b y : Int} (h1 : 0 ≤ x) (h2 : x < f 0) (h3 : -1 ≤ b) (h4 : b < x) (hy : IsNx f gd U b x y) : IsNx f gd (cU f gd) b x y := by
  have e : ∀ z : Int, cnd f gd b x z → U x z = cU f gd x z := fun z hz => by
    have := cnd_b ok h1 h2 hz
    exact cU_eq ok h (by omega) (by omega) (by omega) (by omega)
  have e0 := cU_eq ok h h1 (Int.le_of_lt h2) h3 h4
  refine ⟨hy.1, by rw [← e y hy.1, ← e0]; exact hy.2.1, fun z hz hc => ?_⟩
  rw [← e z hc, ← e0]
  exact hy.2.2 z hz hc
/-- where the best layout's posts stand: the one ahead, and post k -/
noncomputable def sq (f gd : Int → Int) : Nat → Int × Int
  | 0 => (-1, 0)
  | k + 1 => ((sq f gd k).2, nx f gd (sq f gd k).1 (sq f gd k).2)
/-- how many posts the best layout has, or none -/
noncomputable def pln (f gd : Int → Int) : Int := @ite Int (f (249 + 0) = 1 ∨ cU f gd (-1) 0 = 1000) (Classical.propDecidable _) (-1) (1 + cU f gd (-1) 0)
/-! the class's own tables -/
def fbh (f tb : Int → Int) (x e : Int) : Int := if f 0 < e then 1000 else tb (x * 121 + (if e < x + 1 then x + 1 else e))
def cap (q : Int) : Int := if 1 + q < 1000 then 1 + q else 1000
noncomputable def thr (f gd tb : Int → Int) (x y : Int) : Int := @ite Int (y - x < f 5 ∨ ¬ opn f gd y) (Classical.propDecidable _) 1000 (if y = f 0 then 1 else cap (fbh f tb y (est f gd x y)))
noncomputable def wtN (f gd tb : Int → Int) (x : Int) : Nat → Int
  | 0 => 1000
  | k + 1 => if f 0 - (k : Int) ≤ lst f x then (if thr f gd tb x (f 0 - (k : Int)) < wtN f gd tb x k then thr f gd tb x (f 0 - (k : Int)) else wtN f gd tb x k) else wtN f gd tb x k
noncomputable def wt (f gd tb : Int → Int) (x y : Int) : Int := wtN f gd tb x (f 0 + 1 - y).toNat
theorem wt_top (f gd tb : Int → Int) (x : Int) : wt f gd tb x (f 0 + 1) = 1000 := by
  unfold wt
  rw [Int.sub_self]
  rfl
theorem wt_s {f gd tb : Int → Int} {x y : Int} (h : y ≤ f 0) : wt f gd tb x y = if y ≤ lst f x then (if thr f gd tb x y < wt f gd tb x (y + 1) then thr f gd tb x y else wt f gd tb x (y + 1)) else wt f gd tb x (y + 1) := by
  unfold wt
  rw [show (f 0 + 1 - y).toNat = (f 0 + 1 - (y + 1)).toNat + 1 by omega]
  show (if f 0 - ((f 0 + 1 - (y + 1)).toNat : Int) ≤ lst f x then (if thr f gd tb x (f 0 - ((f 0 + 1 - (y + 1)).toNat : Int)) < wtN f gd tb x (f 0 + 1 - (y + 1)).toNat then thr f gd tb x (f 0 - ((f 0 + 1 - (y + 1)).toNat : Int)) else wtN f gd tb x (f 0 + 1 - (y + 1)).toNat) else wtN f gd tb x (f 0 + 1 - (y + 1)).toNat) = _
  rw [show f 0 - ((f 0 + 1 - (y + 1)).toNat : Int) = y by omega]
/-- the least of what the posts from y on give -/
theorem wt_min {f gd tb : Int → Int} {x : Int} : ∀ y : Int, 0 ≤ y → y ≤ f 0 + 1 → wt f gd tb x y ≤ 1000 ∧ (∀ z : Int, y ≤ z → z ≤ f 0 → z ≤ lst f x → wt f gd tb x y ≤ thr f gd tb x z) ∧ (wt f gd tb x y = 1000 ∨ ∃ z : Int, y ≤ z ∧ z ≤ f 0 ∧ z ≤ lst f x ∧ wt f gd tb x y = thr f gd tb x z) := by
  refine z_indD (by rw [wt_top]; exact ⟨Int.le_refl _, fun z a b _ => by omega, Or.inl rfl⟩) (fun y h1 h2 ih => ?_)
  obtain ⟨i1, i2, i3⟩ := ih
  rw [wt_s (by omega : y ≤ f 0)]
  by_cases hl : y ≤ lst f x
  · rw [if_pos hl]
    by_cases ht : thr f gd tb x y < wt f gd tb x (y + 1)
    · rw [if_pos ht]
      refine ⟨by omega, fun z a b c => ?_, Or.inr ⟨y, Int.le_refl _, by omega, hl, rfl⟩⟩
      by_cases hz : z = y
      · rw [hz]; exact Int.le_refl _
      · have := i2 z (by omega) b c
        omega
    · rw [if_neg ht]
      refine ⟨i1, fun z a b c => ?_, ?_⟩
      · by_cases hz : z = y
        · rw [hz]; omega
        · exact i2 z (by omega) b c
      · rcases i3 with q | ⟨z, a, b, c, d⟩
        · exact Or.inl q
        · exact Or.inr ⟨z, by omega, b, c, d⟩
  · rw [if_neg hl]
    refine ⟨i1, fun z a b c => i2 z (by omega) b c, ?_⟩
    rcases i3 with q | ⟨z, a, b, c, d⟩
    · exact Or.inl q
    · exact Or.inr ⟨z, by omega, b, c, d⟩
/-- the table's row x is right -/
def Tab (f gd tb : Int → Int) (x : Int) : Prop := ∀ y : Int, x < y → y ≤ f 0 → tb (x * 121 + y) = wt f gd tb x y
theorem fbh_congr {f tb tb' : Int → Int} {x y e : Int} (h0 : 0 ≤ x) (h : ∀ j : Int, (x + 1) * 121 ≤ j → tb j = tb' j) (hy : x < y) : fbh f tb y e = fbh f tb' y e := by
  unfold fbh
  by_cases h1 : f 0 < e
  · rw [if_pos h1, if_pos h1]
  · rw [if_neg h1, if_neg h1]
    refine h _ ?_
    split <;> omega
theorem thr_congr {f gd tb tb' : Int → Int} {x y : Int} (h0 : 0 ≤ x) (h : ∀ j : Int, (x + 1) * 121 ≤ j → tb j = tb' j) (hy : x < y) : thr f gd tb x y = thr f gd tb' x y := by
  unfold thr
  rw [fbh_congr h0 h hy]
theorem wt_congr {f gd tb tb' : Int → Int} {x : Int} (h0 : 0 ≤ x) (h : ∀ j : Int, (x + 1) * 121 ≤ j → tb j = tb' j) : ∀ y : Int, 0 ≤ y → y ≤ f 0 + 1 → x < y → wt f gd tb x y = wt f gd tb' x y := by
  refine z_indD (fun _ => by rw [wt_top, wt_top]) (fun y h1 h2 ih h3 => ?_)
  rw [wt_s (by omega : y ≤ f 0), wt_s (by omega : y ≤ f 0), ih (by omega), thr_congr h0 h h3]
/-- the fewest posts behind x, out of the table -/
noncomputable def UU (f gd tb : Int → Int) (b x : Int) : Int := if x = f 0 then 0 else fbh f tb x (est f gd b x)
theorem thr_yes {f gd tb : Int → Int} {x y : Int} (h1 : f 5 ≤ y - x) (h2 : opn f gd y) : thr f gd tb x y = if y = f 0 then 1 else cap (fbh f tb y (est f gd x y)) := by
  unfold thr
  exact if_neg (fun q => q.elim (fun a => by omega) (fun a => a h2))
theorem thr_no {f gd tb : Int → Int} {x y : Int} (h : y - x < f 5 ∨ ¬ opn f gd y) : thr f gd tb x y = 1000 := by
  unfold thr
  exact if_pos h
theorem tab_U {f gd tb : Int → Int} (ok : OkF f) (hT : ∀ x : Int, 0 ≤ x → x < f 0 → Tab f gd tb x) : ∀ x : Int, 0 ≤ x → x ≤ f 0 → ∀ y b : Int, x ≤ y → y ≤ f 0 → (UU f gd tb b y = 1000 ∨ (0 ≤ UU f gd tb b y ∧ UU f gd tb b y ≤ f 0 - y)) ∧ (y < f 0 → BestU f gd (UU f gd tb) b y (UU f gd tb b y)) := by
  have o0 := ok.1
  refine z_indD (fun y b h1 h2 => ?_) (fun x h1 h2 ih y b h3 h4 => ?_)
  · have : y = f 0 := by omega
    subst this
    have e : UU f gd tb b (f 0) = 0 := if_pos rfl
    rw [e]
    exact ⟨by omega, fun q => by omega⟩
  · by_cases hy : x < y
    · exact ih y b (by omega) h4
    · have hxy : y = x := by omega
      subst hxy
      have hl := lst_is ok h1 h2
      have hf := far_b ok h2
      have eU : UU f gd tb b y = fbh f tb y (est f gd b y) := if_neg (by omega)
      -- what a candidate gives
      have hc : ∀ z : Int, cnd f gd b y z → (UU f gd tb y z = 1000 ∧ thr f gd tb y z = 1000) ∨ (0 ≤ UU f gd tb y z ∧ UU f gd tb y z ≤ f 0 - z ∧ thr f gd tb y z = 1 + UU f gd tb y z) := fun z hz => by
        have hb := cnd_b ok h1 h2 hz
        have hi := (ih z y (by omega) (by omega)).1
        rw [thr_yes hz.2.2.1 hz.2.2.2.1]
        by_cases hzL : z = f 0
        · have e : UU f gd tb y z = 0 := if_pos hzL
          rw [if_pos hzL, e]
          exact Or.inr ⟨by omega, by omega, by omega⟩
        · have e : UU f gd tb y z = fbh f tb z (est f gd y z) := if_neg hzL
          rw [if_neg hzL, ← e]
          unfold cap
          rcases hi with hi | hi
          · exact Or.inl ⟨hi, by rw [if_neg (by omega)]⟩
          · exact Or.inr ⟨hi.1, hi.2, by rw [if_pos (by omega)]⟩
      have hB : BestU f gd (UU f gd tb) b y (UU f gd tb b y) := by
        rw [eU]
        unfold fbh
        by_cases he : f 0 < est f gd b y
        · rw [if_pos he]
          refine Or.inr ⟨rfl, fun z hz => ?_⟩
          have hb := cnd_b ok h1 h2 hz
          have := hz.2.2.2.2
          omega
        · rw [if_neg he]
          obtain ⟨e0, he0⟩ : ∃ e0 : Int, e0 = (if est f gd b y < y + 1 then y + 1 else est f gd b y) := ⟨_, rfl⟩
          rw [← he0]
          have he1 : y < e0 ∧ e0 ≤ f 0 ∧ est f gd b y ≤ e0 := by rw [he0]; split <;> omega
          have he2 : ∀ z : Int, y < z → est f gd b y ≤ z → e0 ≤ z := fun z a c => by rw [he0]; split <;> omega
          rw [hT y h1 h2 e0 he1.1 he1.2.1]
          obtain ⟨m1, m2, m3⟩ := wt_min (f := f) (gd := gd) (tb := tb) (x := y) e0 (by omega) (by omega)
          by_cases hm : wt f gd tb y e0 = 1000
          · refine Or.inr ⟨hm, fun z hz => ?_⟩
            have hb := cnd_b ok h1 h2 hz
            have h5 := m2 z (he2 z hz.1 hz.2.2.2.2) hb.2 hz.2.1
            rcases hc z hz with ⟨a, c⟩ | ⟨a, c, d⟩
            · exact a
            · omega
          · rcases m3 with q | ⟨z, a, c, d, e⟩
            · exact absurd q hm
            · have hz : cnd f gd b y z := by
                refine ⟨by omega, d, ?_, ?_, by omega⟩
                · rcases Int.lt_or_le (z - y) (f 5) with q | q
                  · rw [thr_no (Or.inl q)] at e; exact absurd e hm
                  · exact q
                · exact (Classical.em (opn f gd z)).elim id (fun q => by rw [thr_no (Or.inr q)] at e; exact absurd e hm)
              rcases hc z hz with ⟨a1, c1⟩ | ⟨a1, c1, d1⟩
              · rw [c1] at e; exact absurd e hm
              · refine Or.inl ⟨z, hz, a1, c1, by omega, fun w hw => ?_⟩
                have hb := cnd_b ok h1 h2 hw
                have h5 := m2 w (he2 w hw.1 hw.2.2.2.2) hb.2 hw.2.1
                rcases hc w hw with ⟨a2, c2⟩ | ⟨a2, c2, d2⟩
                · omega
                · omega
      refine ⟨?_, fun _ => hB⟩
      rcases hB with ⟨z, c1, c2, c3, c4, -⟩ | ⟨c1, -⟩
      · have := cnd_b ok h1 h2 c1
        omega
      · exact Or.inl c1
theorem tab_isU {f gd tb : Int → Int} (ok : OkF f) (hT : ∀ x : Int, 0 ≤ x → x < f 0 → Tab f gd tb x) : IsU f gd (UU f gd tb) :=
  ⟨fun b => if_pos rfl, fun x b h1 h2 _ _ => (tab_U ok hT x h1 (Int.le_of_lt h2) x b (Int.le_refl _) (Int.le_of_lt h2)).2 h2⟩
/-- the class's own next post -/
def IsNxt (f gd tb : Int → Int) (x e y : Int) : Prop := x < y ∧ e ≤ y ∧ y ≤ lst f x ∧ thr f gd tb x y = fbh f tb x e ∧ ∀ z : Int, x < z → e ≤ z → z < y → thr f gd tb x z ≠ fbh f tb x e
noncomputable def nxt (f gd tb : Int → Int) (x e : Int) : Int := @Classical.epsilon Int ⟨0⟩ (IsNxt f gd tb x e)
theorem isNxt_lt {f gd tb : Int → Int} {x e y z : Int} (h : IsNxt f gd tb x e y) (h2 : IsNxt f gd tb x e z) : ¬ y < z := fun q => h2.2.2.2.2 y h.1 h.2.1 q h.2.2.2.1
theorem nxt_of {f gd tb : Int → Int} {x e y : Int} (h : IsNxt f gd tb x e y) : y = nxt f gd tb x e := by
  have h2 : IsNxt f gd tb x e (nxt f gd tb x e) := Classical.epsilon_spec (p := IsNxt f gd tb x e) ⟨y, h⟩
  have h3 := isNxt_lt h h2
  have h4 := isNxt_lt h2 h
  omega
/-- there is one, where there is a way -/
theorem nxt_ex {f gd tb : Int → Int} (ok : OkF f) {x e : Int} (h1 : 0 ≤ x) (h2 : x < f 0) (hT : Tab f gd tb x) (hc : fbh f tb x e ≠ 1000) : ∃ z : Int, x < z ∧ e ≤ z ∧ z ≤ lst f x ∧ thr f gd tb x z = fbh f tb x e := by
  unfold fbh at hc ⊢
  by_cases he : f 0 < e
  · rw [if_pos he] at hc
    exact absurd rfl hc
  · rw [if_neg he] at hc ⊢
    obtain ⟨e0, he0⟩ : ∃ e0 : Int, e0 = (if e < x + 1 then x + 1 else e) := ⟨_, rfl⟩
    rw [← he0] at hc ⊢
    have he1 : x < e0 ∧ e0 ≤ f 0 ∧ e ≤ e0 := by rw [he0]; split <;> omega
    rw [hT e0 he1.1 he1.2.1] at hc ⊢
    obtain ⟨m1, m2, m3⟩ := wt_min (f := f) (gd := gd) (tb := tb) (x := x) e0 (by omega) (by omega)
    rcases m3 with q | ⟨z, a, c, d, g⟩
    · exact absurd q hc
    · exact ⟨z, by omega, by omega, d, g.symm⟩
theorem nxt_is {f gd tb : Int → Int} (ok : OkF f) {x e : Int} (h1 : 0 ≤ x) (h2 : x < f 0) (hT : Tab f gd tb x) (hc : fbh f tb x e ≠ 1000) : IsNxt f gd tb x e (nxt f gd tb x e) := by
  refine Classical.epsilon_spec (p := IsNxt f gd tb x e) ?_
  obtain ⟨z, a1, a2, a3, a4⟩ := nxt_ex ok h1 h2 hT hc
  have key := z_ind (P := fun k => (∃ y : Int, IsNxt f gd tb x e y) ∨ ∀ w : Int, x < w → e ≤ w → w < x + 1 + k → w ≤ lst f x → thr f gd tb x w ≠ fbh f tb x e) (n := 1000) (Or.inr (fun w b1 b2 b3 => by omega)) (fun k c1 c2 ih => by
    rcases ih with q | q
    · exact Or.inl q
    · by_cases h : e ≤ x + 1 + k ∧ x + 1 + k ≤ lst f x ∧ thr f gd tb x (x + 1 + k) = fbh f tb x e
      · exact Or.inl ⟨x + 1 + k, by omega, h.1, h.2.1, h.2.2, fun w d1 d2 d3 => q w d1 d2 d3 (by omega)⟩
      · exact Or.inr (fun w d1 d2 d3 d4 => by
          by_cases hw : w = x + 1 + k
          · subst hw
            exact fun q2 => h ⟨d2, d4, q2⟩
          · exact q w d1 d2 (by omega) d4)) (z - x) (by omega) (by have := ok.1; have := lst_is ok h1 h2; have := far_b ok h2; have h9 := (lst_is ok h1 h2).2.1; omega)
  rcases key with q | q
  · exact q
  · exact absurd a4 (q z a1 a2 (by omega) a3)
/-- it is the next one of the best layout -/
theorem nxt_nx {f gd tb : Int → Int} (ok : OkF f) (hT : ∀ x : Int, 0 ≤ x → x < f 0 → Tab f gd tb x) {x b : Int} (h1 : 0 ≤ x) (h2 : x < f 0) (h3 : -1 ≤ b) (h4 : b < x) (hc : UU f gd tb b x ≠ 1000) : nxt f gd tb x (est f gd b x) = nx f gd b x := by
  have eU : UU f gd tb b x = fbh f tb x (est f gd b x) := if_neg (by omega)
  have hn := nxt_is ok h1 h2 (hT x h1 h2) (e := est f gd b x) (by rw [← eU]; exact hc)
  have hIs := tab_isU ok hT
  have hUb := isU_b ok hIs h1 (Int.le_of_lt h2) h3 h4
  have o0 := ok.1
  have hc2 : ∀ z : Int, cnd f gd b x z → thr f gd tb x z = UU f gd tb b x → 1 + UU f gd tb x z = UU f gd tb b x := fun z hz e => by
    have hb := cnd_b ok h1 h2 hz
    have hi := isU_b ok hIs (x := z) (b := x) (by omega) (by omega) (by omega) (by omega)
    rw [thr_yes hz.2.2.1 hz.2.2.2.1] at e
    by_cases hzL : z = f 0
    · have e1 : UU f gd tb x z = 0 := if_pos hzL
      rw [if_pos hzL] at e
      omega
    · have e1 : UU f gd tb x z = fbh f tb z (est f gd x z) := if_neg hzL
      rw [if_neg hzL, ← e1] at e
      unfold cap at e
      split at e <;> omega
  have hc3 : ∀ z : Int, cnd f gd b x z → 1 + UU f gd tb x z = UU f gd tb b x → thr f gd tb x z = UU f gd tb b x := fun z hz e => by
    rw [thr_yes hz.2.2.1 hz.2.2.2.1]
    by_cases hzL : z = f 0
    · have e1 : UU f gd tb x z = 0 := if_pos hzL
      rw [if_pos hzL]
      omega
    · have e1 : UU f gd tb x z = fbh f tb z (est f gd x z) := if_neg hzL
      rw [if_neg hzL, ← e1]
      unfold cap
      split <;> omega
  have hcn : cnd f gd b x (nxt f gd tb x (est f gd b x)) := by
    refine ⟨hn.1, hn.2.2.1, ?_, ?_, hn.2.1⟩
    · rcases Int.lt_or_le (nxt f gd tb x (est f gd b x) - x) (f 5) with q | q
      · have e := hn.2.2.2.1
        rw [thr_no (Or.inl q), ← eU] at e
        exact absurd e.symm hc
      · exact q
    · refine (Classical.em (opn f gd (nxt f gd tb x (est f gd b x)))).elim id (fun q => ?_)
      have e := hn.2.2.2.1
      rw [thr_no (Or.inr q), ← eU] at e
      exact absurd e.symm hc
  refine nx_of (isNx_eq ok hIs h1 h2 h3 h4 ⟨hcn, hc2 _ hcn (by rw [eU]; exact hn.2.2.2.1), fun z hz hcz q => ?_⟩)
  exact hn.2.2.2.2 z hcz.1 hcz.2.2.2.2 hz (by rw [← eU]; exact hc3 z hcz q)
/-- along the best layout -/
theorem sq_ok {f gd : Int → Int} {U : Int → Int → Int} (ok : OkF f) (h : IsU f gd U) (hf : U (-1) 0 ≠ 1000) : ∀ k : Nat, (k : Int) ≤ U (-1) 0 → -1 ≤ (sq f gd k).1 ∧ (sq f gd k).1 < (sq f gd k).2 ∧ 0 ≤ (sq f gd k).2 ∧ (sq f gd k).2 ≤ f 0 ∧ (k : Int) ≤ (sq f gd k).2 ∧ cU f gd (sq f gd k).1 (sq f gd k).2 = U (-1) 0 - (k : Int) ∧ ((k : Int) < U (-1) 0 → (sq f gd k).2 < f 0 ∧ IsNx f gd (cU f gd) (sq f gd k).1 (sq f gd k).2 (sq f gd (k + 1)).2) := by
  have o0 := ok.1
  have hC := cU_is h
  have e0 := cU_eq ok h (x := 0) (b := -1) (by omega) (by omega) (by omega) (by omega)
  have hb0 := isU_b ok h (x := 0) (b := -1) (by omega) (by omega) (by omega) (by omega)
  have step : ∀ b x : Int, -1 ≤ b → b < x → 0 ≤ x → x ≤ f 0 → 0 < cU f gd b x → cU f gd b x ≠ 1000 → x < f 0 ∧ IsNx f gd (cU f gd) b x (nx f gd b x) := fun b x a1 a2 a3 a4 a5 a6 => by
    have hx : x < f 0 := by
      by_cases q : x = f 0
      · rw [q, hC.1] at a5; omega
      · omega
    refine ⟨hx, Classical.epsilon_spec (p := IsNx f gd (cU f gd) b x) ?_⟩
    rcases hC.2 x b a3 hx a1 a2 with ⟨y, c1, c2, c3, c4, c5⟩ | ⟨c1, -⟩
    · have hb := cnd_b ok a3 hx c1
      have key := z_ind (P := fun k => (∃ y : Int, IsNx f gd (cU f gd) b x y) ∨ ∀ w : Int, w < x + k → cnd f gd b x w → 1 + cU f gd x w ≠ cU f gd b x) (n := 1000) (Or.inr (fun w d1 d2 => by have := cnd_b ok a3 hx d2; omega)) (fun k d1 d2 ih => by
        rcases ih with q | q
        · exact Or.inl q
        · by_cases hw : cnd f gd b x (x + k) ∧ 1 + cU f gd x (x + k) = cU f gd b x
          · exact Or.inl ⟨x + k, hw.1, hw.2, fun z e1 e2 => q z e1 e2⟩
          · exact Or.inr (fun w e1 e2 => by
              by_cases hwk : w = x + k
              · subst hwk; exact fun q2 => hw ⟨e2, q2⟩
              · exact q w (by omega) e2)) (y + 1 - x) (by omega) (by omega)
      rcases key with q | q
      · exact q
      · exact absurd c4.symm (q y (by omega) c1)
    · exact absurd c1 a6
  intro k
  induction k with
  | zero =>
    intro _
    refine ⟨by show (-1 : Int) ≤ -1; omega, by show (-1 : Int) < 0; omega, by show (0 : Int) ≤ 0; omega, by show (0 : Int) ≤ f 0; omega, by show (0 : Int) ≤ 0; omega, by show cU f gd (-1) 0 = _; rw [← e0]; simp, fun hk => ?_⟩
    exact step (-1) 0 (by omega) (by omega) (by omega) (by omega) (by rw [← e0]; simpa using hk) (by rw [← e0]; exact hf)
  | succ k ih =>
    intro hk
    obtain ⟨i1, i2, i3, i4, i5, i6, i7⟩ := ih (by omega)
    obtain ⟨i8, i9⟩ := i7 (by omega)
    have hb := cnd_b ok i3 i8 i9.1
    have e1 : (sq f gd (k + 1)).1 = (sq f gd k).2 := rfl
    rw [e1]
    have e2 := i9.2.1
    refine ⟨by omega, hb.1, by omega, hb.2, by omega, by omega, fun hk2 => ?_⟩
    have h9 := step (sq f gd k).2 (sq f gd (k + 1)).2 (by omega) hb.1 (by omega) hb.2 (by omega) (by omega)
    exact h9
