/-! ===== SignalSpacingModel: the best layout ===== -/
/-- the post ahead, out of its number in the table; and the number -/
def bof (a : Int) : Int := if a = 121 then -1 else a
def enc (b : Int) : Int := if b = -1 then 121 else b
theorem enc_bof {a : Int} (h : 0 ≤ a) : enc (bof a) = a := by
  unfold enc bof
  by_cases c : a = 121
  · rw [if_pos c, if_pos rfl, c]
  · rw [if_neg c, if_neg (by omega)]
theorem enc_p {b : Int} (h : 0 ≤ b) : enc b = b := if_neg (by omega)
theorem bof_p {a : Int} (h : a ≠ 121) : bof a = a := if_neg h
theorem bof_b {a x : Int} (h : 0 ≤ a ∧ (a < x ∨ a = 121)) (h1 : 0 ≤ x) : -1 ≤ bof a ∧ bof a < x := by unfold bof; split <;> omega
def alw (f gd : Int → Int) (x : Int) : Prop := f (249 + x) = 0 ∧ (f 4 ≠ 2 ∨ x = 0 ∨ ¬ isLate f gd x)
theorem alw_opn {f gd : Int → Int} {x : Int} (h : x ≠ 0) : alw f gd x ↔ opn f gd x :=
  ⟨fun q => ⟨q.1, q.2.elim Or.inl (fun a => a.elim (fun b => absurd b h) Or.inr)⟩, fun q => ⟨q.1, q.2.elim Or.inl (fun a => Or.inr (Or.inr a))⟩⟩
def cnf (f gd : Int → Int) (a x y : Int) : Prop := (alw f gd y ∧ f 5 ≤ y - x ∧ y - x ≤ f 6) ∧ est f gd (bof a) x ≤ y
theorem est_3 {f gd : Int → Int} {b x : Int} (h : f 4 = 3) : est f gd b x = x + gd x := by unfold est; rw [if_pos h]
theorem est_0 {f gd : Int → Int} {a x : Int} (h : f 4 ≠ 3) (h2 : f 4 ≠ 4 ∨ a = 121) : est f gd (bof a) x = 0 := by
  unfold est
  rw [if_neg h, if_neg (fun q => h2.elim (fun z => z q.1) (fun z => q.2 (if_pos z)))]
theorem est_4 {f gd : Int → Int} {a x : Int} (h : f 4 = 4) (h2 : a ≠ 121) (h3 : 0 ≤ a) : est f gd (bof a) x = a + gd a := by
  rw [bof_p h2]
  unfold est
  rw [if_neg (by omega), if_pos (by omega)]
/-- whether the search behind x goes on at y -/
def Sto (f : Int → Int) (x y go : Int) : Prop := (go = 1 ∧ ∀ z : Int, x < z → z < y → ¬ wanted f z) ∨ (go = 0 ∧ x + 1 < y ∧ wanted f (y - 1) ∧ ∀ z : Int, x < z → z < y - 1 → ¬ wanted f z)
theorem sto_s {f : Int → Int} {x y : Int} (h0 : x < y) (h : ∀ z : Int, x < z → z < y → ¬ wanted f z) : Sto f x (y + 1) (zB (¬ wanted f y)) := by
  by_cases c : wanted f y
  · refine Or.inr ⟨zB_f (fun q => q c), by omega, by rw [show y + 1 - 1 = y by omega]; exact c, fun z a b => h z a (by omega)⟩
  · refine Or.inl ⟨zB_t c, fun z a b => ?_⟩
    by_cases hz : z = y
    · rw [hz]; exact c
    · exact h z a (by omega)
/-- the best of the posts between x and y -/
def BN (f gd g : Int → Int) (a x y best lo : Int) : Prop := (∀ z : Int, x < z → z < y → cnf f gd a x z → lo ≤ g (121 * x + z)) ∧ ((best = -1 ∧ lo = 1000) ∨ (x < best ∧ best < y ∧ cnf f gd a x best ∧ lo = g (121 * x + best) ∧ lo < 1000 ∧ ∀ z : Int, x < z → z < best → cnf f gd a x z → lo < g (121 * x + z)))
theorem bn_s1 {f gd g : Int → Int} {a x y best lo : Int} (h : BN f gd g a x y best lo) (hc : ¬ cnf f gd a x y) : BN f gd g a x (y + 1) best lo := by
  refine ⟨fun z h1 h2 h3 => ?_, h.2.elim Or.inl (fun q => Or.inr ⟨q.1, by have := q.2.1; omega, q.2.2⟩)⟩
  by_cases hz : z = y
  · rw [hz] at h3; exact absurd h3 hc
  · exact h.1 z h1 (by omega) h3
theorem bn_s2 {f gd g : Int → Int} {a x y best lo : Int} (h : BN f gd g a x y best lo) (hc : lo ≤ g (121 * x + y)) : BN f gd g a x (y + 1) best lo := by
  refine ⟨fun z h1 h2 h3 => ?_, h.2.elim Or.inl (fun q => Or.inr ⟨q.1, by have := q.2.1; omega, q.2.2⟩)⟩
  by_cases hz : z = y
  · rw [hz]; exact hc
  · exact h.1 z h1 (by omega) h3
theorem bn_s3 {f gd g : Int → Int} {a x y best lo : Int} (h : BN f gd g a x y best lo) (hc : cnf f gd a x y) (hl : g (121 * x + y) < lo) (h0 : x < y) (h1 : lo ≤ 1000) : BN f gd g a x (y + 1) y (g (121 * x + y)) := by
  refine ⟨fun z h1 h2 h3 => ?_, Or.inr ⟨h0, by omega, hc, rfl, by omega, fun z h1 h2 h3 => ?_⟩⟩
  · by_cases hz : z = y
    · rw [hz]; exact Int.le_refl _
    · have := h.1 z h1 (by omega) h3
      omega
  · have := h.1 z h1 h2 h3
    omega
theorem cnd_cnf {f gd : Int → Int} {a x y go : Int} (ok : OkF f) (h1 : 0 ≤ x) (h2 : x < f 0) (hs : Sto f x y go) (he : go = 0 ∨ f 0 < y) (hy : y ≤ f 0 + 1) (z : Int) : cnd f gd (bof a) x z ↔ (x < z ∧ z < y ∧ cnf f gd a x z) := by
  have hl := lst_is ok h1 h2
  have hf := far_b ok h2
  obtain ⟨l1, l2, l3, l4⟩ := hl
  have hly : lst f x < y := by
    rcases hs with ⟨a1, a2⟩ | ⟨a1, a2, a3, a4⟩
    · omega
    · rcases Int.lt_or_le (lst f x) y with q | q
      · exact q
      · exact absurd a3 (l4 (y - 1) (by omega) (by omega))
  have hyl : ∀ w : Int, x < w → w < y → w ≤ far f x → w ≤ lst f x := fun w b1 b2 b3 => by
    rcases l3 with q | q
    · omega
    · rcases Int.lt_or_le (lst f x) w with p | p
      · exfalso
        rcases hs with ⟨a1, a2⟩ | ⟨a1, a2, a3, a4⟩
        · exact a2 _ l1 hly q
        · exact a4 _ l1 (by omega) q
      · exact p
  constructor
  · rintro ⟨c1, c2, c3, c4, c5⟩
    exact ⟨c1, by omega, ⟨(alw_opn (by omega)).mpr c4, c3, by omega⟩, c5⟩
  · rintro ⟨c1, c2, ⟨c3, c4, c5⟩, c6⟩
    have hz : z ≤ far f x := by unfold far; split <;> omega
    exact ⟨c1, hyl z c1 c2 hz, c4, (alw_opn (by omega)).mp c3, c6⟩
/-- u is the nearest of the best posts behind x, by the table g, or -1 -/
def IsBn (f gd g : Int → Int) (a x u : Int) : Prop := (u = -1 ∧ ∀ z : Int, cnd f gd (bof a) x z → 1000 ≤ g (121 * x + z)) ∨ (cnd f gd (bof a) x u ∧ g (121 * x + u) < 1000 ∧ ∀ z : Int, cnd f gd (bof a) x z → g (121 * x + u) ≤ g (121 * x + z) ∧ (z < u → g (121 * x + u) < g (121 * x + z)))
theorem bn_end {f gd g : Int → Int} {a x y go best lo : Int} (ok : OkF f) (h1 : 0 ≤ x) (h2 : x < f 0) (hs : Sto f x y go) (he : go = 0 ∨ f 0 < y) (hy : y ≤ f 0 + 1) (h : BN f gd g a x y best lo) : IsBn f gd g a x best := by
  have e := cnd_cnf (gd := gd) (a := a) ok h1 h2 hs he hy
  obtain ⟨b1, b2⟩ := h
  rcases b2 with ⟨c1, c2⟩ | ⟨c1, c2, c3, c4, c5, c6⟩
  · refine Or.inl ⟨c1, fun z hz => ?_⟩
    obtain ⟨d1, d2, d3⟩ := (e z).mp hz
    have := b1 z d1 d2 d3
    omega
  · refine Or.inr ⟨(e best).mpr ⟨c1, c2, c3⟩, by omega, fun z hz => ?_⟩
    obtain ⟨d1, d2, d3⟩ := (e z).mp hz
    have := b1 z d1 d2 d3
    exact ⟨by omega, fun q => by have := c6 z d1 q d3; omega⟩
theorem bn_b {f gd g : Int → Int} {a x u : Int} (ok : OkF f) (h1 : 0 ≤ x) (h2 : x < f 0) (h : IsBn f gd g a x u) : -1 ≤ u ∧ u ≤ f 0 := by
  have := ok.1
  rcases h with ⟨c1, -⟩ | ⟨c1, -⟩
  · omega
  · have := cnd_b ok h1 h2 c1
    omega
/-- the table read as the fewest posts -/
def TU (f g : Int → Int) (b x : Int) : Int := if x = f 0 then 0 else g (121 * enc b + x)
/-- the table's cell of x behind b is right -/
def Row (f gd g : Int → Int) (x b : Int) : Prop := (x = f 0 ∧ g (121 * enc b + x) = 0) ∨ (x < f 0 ∧ BestU f gd (TU f g) b x (g (121 * enc b + x)))
theorem best_congr {f gd : Int → Int} {U V : Int → Int → Int} {b x m : Int} (e : ∀ z : Int, cnd f gd b x z → U x z = V x z) (h : BestU f gd U b x m) : BestU f gd V b x m := by
  rcases h with ⟨y, c1, c2, c3, c4, c5⟩ | ⟨c1, c2⟩
  · refine Or.inl ⟨y, c1, by rw [← e y c1]; exact c2, by rw [← e y c1]; exact c3, by rw [← e y c1]; exact c4, fun z hz => ?_⟩
    rw [← e y c1, ← e z hz]
    exact c5 z hz
  · exact Or.inr ⟨c1, fun z hz => by rw [← e z hz]; exact c2 z hz⟩
theorem TU_up {f g : Int → Int} {a b x z v : Int} (h1 : 0 ≤ x) (h2 : x ≤ 120) (h3 : 0 ≤ z) (h4 : z ≤ 120) (h5 : z ≠ x) : TU f (zup g (121 * a + x) v) b z = TU f g b z := by
  unfold TU
  rw [zup_ne (by omega)]
theorem row_up {f gd g : Int → Int} {a x y b v : Int} (ok : OkF f) (h1 : 0 ≤ x) (h2 : x ≤ y) (h3 : y ≤ f 0) (h4 : y = x → enc b ≠ a) (h : Row f gd g y b) : Row f gd (zup g (121 * a + x) v) y b := by
  have o0 := ok.1
  have hne : 121 * enc b + y ≠ 121 * a + x := by
    by_cases c : y = x
    · have := h4 c
      omega
    · omega
  rcases h with ⟨q1, q2⟩ | ⟨q1, q2⟩
  · exact Or.inl ⟨q1, by rw [zup_ne hne]; exact q2⟩
  · refine Or.inr ⟨q1, ?_⟩
    rw [zup_ne hne]
    exact best_congr (fun z hz => by
      have hb := cnd_b ok (by omega) q1 hz
      exact (TU_up h1 (by omega) (by omega) (by omega) (by omega)).symm) q2
theorem row_st {f gd g : Int → Int} {a x b v : Int} (ok : OkF f) (h1 : 0 ≤ x) (h2 : x ≤ f 0) (h3 : 0 ≤ a) (h4 : b = bof a) (h : (x = f 0 ∧ v = 0) ∨ (x < f 0 ∧ BestU f gd (TU f g) (bof a) x v)) : Row f gd (zup g (121 * a + x) v) x b := by
  have o0 := ok.1
  subst h4
  have e : zup g (121 * a + x) v (121 * enc (bof a) + x) = v := by rw [enc_bof h3]; exact zup_at _ _ _
  rcases h with ⟨q1, q2⟩ | ⟨q1, q2⟩
  · exact Or.inl ⟨q1, by rw [e]; exact q2⟩
  · refine Or.inr ⟨q1, ?_⟩
    rw [e]
    exact best_congr (fun z hz => by
      have hb := cnd_b ok h1 q1 hz
      exact (TU_up h1 (by omega) (by omega) (by omega) (by omega)).symm) q2
theorem tg_up {g : Int → Int} {i v : Int} (h : ∀ j : Int, 0 ≤ j → j < 14762 → 0 ≤ g j ∧ g j ≤ 1000) (hv : 0 ≤ v ∧ v ≤ 1000) : ∀ j : Int, 0 ≤ j → j < 14762 → 0 ≤ zup g i v j ∧ zup g i v j ≤ 1000 := fun j a b => by
  by_cases c : j = i
  · rw [c, zup_at]; exact hv
  · rw [zup_ne c]; exact h j a b
/-- behind x the table reads as it stands -/
theorem TU_g {f gd g : Int → Int} {x z : Int} (h1 : 0 ≤ x) (hz : x < z) (hR : Row f gd g z x) : TU f g x z = g (121 * x + z) := by
  unfold TU
  rcases hR with ⟨q1, q2⟩ | ⟨q1, q2⟩
  · rw [if_pos q1]
    rw [enc_p h1] at q2
    exact q2.symm
  · rw [if_neg (by omega), enc_p h1]
theorem row_none {f gd g : Int → Int} {a x : Int} (ok : OkF f) (h1 : 0 ≤ x) (h2 : x < f 0) (htg : ∀ j : Int, 0 ≤ j → j < 14762 → 0 ≤ g j ∧ g j ≤ 1000) (hR : ∀ y : Int, x < y → y ≤ f 0 → ∀ b : Int, -1 ≤ b → b < y → Row f gd g y b) (h : IsBn f gd g a x (-1)) : BestU f gd (TU f g) (bof a) x 1000 := by
  have o0 := ok.1
  rcases h with ⟨-, c2⟩ | ⟨c1, -⟩
  · refine Or.inr ⟨rfl, fun z hz => ?_⟩
    have hb := cnd_b ok h1 h2 hz
    rw [TU_g h1 hb.1 (hR z hb.1 hb.2 x (by omega) hb.1)]
    have := c2 z hz
    have := htg (121 * x + z) (by omega) (by omega)
    omega
  · have := cnd_b ok h1 h2 c1
    omega
theorem row_b {f gd g : Int → Int} {a x y : Int} (ok : OkF f) (h1 : 0 ≤ x) (h2 : x < f 0) (htg : ∀ j : Int, 0 ≤ j → j < 14762 → 0 ≤ g j ∧ g j ≤ 1000) (hR : ∀ y : Int, x < y → y ≤ f 0 → ∀ b : Int, -1 ≤ b → b < y → Row f gd g y b) (hne : y ≠ -1) (h : IsBn f gd g a x y) : x < y ∧ y ≤ f 0 ∧ 0 ≤ g (121 * x + y) ∧ g (121 * x + y) ≤ f 0 - y := by
  have o0 := ok.1
  rcases h with ⟨c1, -⟩ | ⟨c1, c2, -⟩
  · exact absurd c1 hne
  · have hb := cnd_b ok h1 h2 c1
    have hg := htg (121 * x + y) (by omega) (by omega)
    refine ⟨hb.1, hb.2, hg.1, ?_⟩
    have hr := hR y hb.1 hb.2 x (by omega) hb.1
    unfold Row at hr
    rw [enc_p h1] at hr
    rcases hr with ⟨q1, q2⟩ | ⟨q1, q2⟩
    · omega
    · rcases q2 with ⟨w, d1, d2, d3, d4, -⟩ | ⟨d1, -⟩
      · have := cnd_b ok (by omega) q1 d1
        omega
      · omega
theorem row_some {f gd g : Int → Int} {a x y : Int} (ok : OkF f) (h1 : 0 ≤ x) (h2 : x < f 0) (htg : ∀ j : Int, 0 ≤ j → j < 14762 → 0 ≤ g j ∧ g j ≤ 1000) (hR : ∀ y : Int, x < y → y ≤ f 0 → ∀ b : Int, -1 ≤ b → b < y → Row f gd g y b) (hne : y ≠ -1) (h : IsBn f gd g a x y) : BestU f gd (TU f g) (bof a) x (1 + g (121 * x + y)) := by
  obtain ⟨b1, b2, b3, b4⟩ := row_b ok h1 h2 htg hR hne h
  rcases h with ⟨c1, -⟩ | ⟨c1, c2, c3⟩
  · exact absurd c1 hne
  · have e : ∀ z : Int, cnd f gd (bof a) x z → TU f g x z = g (121 * x + z) := fun z hz => by
      have hb := cnd_b ok h1 h2 hz
      exact TU_g h1 hb.1 (hR z hb.1 hb.2 x (by omega) hb.1)
    refine Or.inl ⟨y, c1, by rw [e y c1]; exact b3, by rw [e y c1]; exact b4, by rw [e y c1], fun z hz => ?_⟩
    rw [e y c1, e z hz]
    exact (c3 z hz).1
/-- the same settings, other posts; the same distances -/
theorem cnd_fg {f h gd ge : Int → Int} {b x : Int} (ok : OkF f) (ok2 : OkF h) (e : ∀ j : Int, 0 ≤ j → j < 491 → h j = f j) (eg : ∀ x : Int, 0 ≤ x → x ≤ f 0 → ge x = gd x) (h1 : 0 ≤ x) (h2 : x < f 0) (h3 : -1 ≤ b) (h4 : b < x) (y : Int) : cnd h ge b x y ↔ cnd f gd b x y := by
  have o0 := ok.1
  have e0 := e 0 (by omega) (by omega)
  have e4 := e 4 (by omega) (by omega)
  have e5 := e 5 (by omega) (by omega)
  have e6 := e 6 (by omega) (by omega)
  have e7 := e 7 (by omega) (by omega)
  have eF : far h x = far f x := by unfold far; rw [e0, e6]
  have ew : ∀ z : Int, 0 ≤ z → z ≤ 120 → (wanted h z ↔ wanted f z) := fun z a c => by unfold wanted; rw [e0, e (370 + z) (by omega) (by omega)]
  have hfb := far_b ok h2
  have eL : lst h x = lst f x := by
    obtain ⟨l1, l2, l3, l4⟩ := lst_is ok2 h1 (by omega : x < h 0)
    rw [eF] at l2 l3
    exact lst_of ⟨l1, l2, l3.elim Or.inl (fun q => Or.inr ((ew _ (by omega) (by omega)).mp q)), fun z c1 c2 q => l4 z c1 c2 ((ew z (by omega) (by omega)).mpr q)⟩
  have hll := lst_is ok h1 h2
  have eS : ∀ z : Int, sgt h z = sgt f z := fun z => by unfold sgt; rw [e7]
  have eE : est h ge b x = est f gd b x := by
    unfold est
    rw [e4, eg x h1 (by omega)]
    by_cases c : f 4 = 3
    · rw [if_pos c, if_pos c]
    · rw [if_neg c, if_neg c]
      by_cases d : f 4 = 4 ∧ b ≠ -1
      · rw [if_pos d, if_pos d, eg b (by omega) (by omega)]
      · rw [if_neg d, if_neg d]
  have eO : ∀ z : Int, 0 ≤ z → z ≤ f 0 → (opn h ge z ↔ opn f gd z) := fun z a c => by
    have hs := sgt_b ok a
    unfold opn isLate
    rw [e (249 + z) (by omega) (by omega), e4, eS z, eg (sgt f z) hs.1 (by omega)]
  unfold cnd
  rw [eL, eE, e5]
  constructor
  · rintro ⟨c1, c2, c3, c4, c5⟩
    exact ⟨c1, c2, c3, (eO y (by omega) (by have := hll.2.1; omega)).mp c4, c5⟩
  · rintro ⟨c1, c2, c3, c4, c5⟩
    exact ⟨c1, c2, c3, (eO y (by omega) (by have := hll.2.1; omega)).mpr c4, c5⟩
theorem best_fg {f gd ge : Int → Int} {U : Int → Int → Int} {b x m : Int} (e : ∀ y : Int, cnd f ge b x y ↔ cnd f gd b x y) (h : BestU f ge U b x m) : BestU f gd U b x m := by
  rcases h with ⟨y, c1, c2, c3, c4, c5⟩ | ⟨c1, c2⟩
  · exact Or.inl ⟨y, (e y).mp c1, c2, c3, c4, fun z hz => c5 z ((e z).mpr hz)⟩
  · exact Or.inr ⟨c1, fun z hz => c2 z ((e z).mpr hz)⟩
theorem rows_gd {f gd ge g : Int → Int} (ok : OkF f) (eg : ∀ x : Int, 0 ≤ x → x ≤ f 0 → ge x = gd x) (hR : ∀ y : Int, 0 ≤ y → y ≤ f 0 → ∀ b : Int, -1 ≤ b → b < y → Row f ge g y b) : ∀ y : Int, 0 ≤ y → y ≤ f 0 → ∀ b : Int, -1 ≤ b → b < y → Row f gd g y b := fun y a c b h3 h4 =>
  (hR y a c b h3 h4).elim Or.inl (fun q => Or.inr ⟨q.1, best_fg (cnd_fg ok ok (fun _ _ _ => rfl) eg a q.1 h3 h4) q.2⟩)
theorem rows_isU {f gd g : Int → Int} (hR : ∀ y : Int, 0 ≤ y → y ≤ f 0 → ∀ b : Int, -1 ≤ b → b < y → Row f gd g y b) : IsU f gd (TU f g) := by
  refine ⟨fun b => if_pos rfl, fun x b h1 h2 h3 h4 => ?_⟩
  rcases hR x h1 (by omega) b h3 h4 with ⟨q, -⟩ | ⟨-, q⟩
  · omega
  · have e : TU f g b x = g (121 * enc b + x) := if_neg (by omega)
    rw [e]
    exact q
/-- what the search answers -/
noncomputable def slv (f : Int → Int) : Int := @ite Int (f (249 + 0) = 1 ∨ cU f (brD f) (-1) 0 = 1000) (Classical.propDecidable _) 1000 (cU f (brD f) (-1) 0)
theorem slv_b {f g : Int → Int} (ok : OkF f) (hR : ∀ y : Int, 0 ≤ y → y ≤ f 0 → ∀ b : Int, -1 ≤ b → b < y → Row f (brD f) g y b) : slv f = 1000 ∨ (0 ≤ slv f ∧ slv f ≤ f 0 ∧ f (249 + 0) ≠ 1 ∧ slv f = cU f (brD f) (-1) 0 ∧ cU f (brD f) (-1) 0 ≠ 1000) := by
  have o0 := ok.1
  have hI := cU_is (rows_isU hR)
  have hb := isU_b ok hI (x := 0) (b := -1) (by omega) (by omega) (by omega) (by omega)
  by_cases c : f (249 + 0) = 1 ∨ cU f (brD f) (-1) 0 = 1000
  · exact Or.inl (if_pos c)
  · have e : slv f = cU f (brD f) (-1) 0 := if_neg c
    rw [e]
    refine Or.inr ⟨?_, ?_, fun q => c (Or.inl q), rfl, fun q => c (Or.inr q)⟩ <;> omega
theorem slv_no {f gd : Int → Int} (ok : OkF f) (h : ¬ alw f gd 0) : slv f = 1000 := by
  obtain ⟨o0, o1, o2, o3, o4, o5, o7, o8, olim, ogrd, obar, oneed, opost⟩ := id ok
  refine if_pos (Or.inl ?_)
  have := obar 0 (by omega) (by omega)
  rcases this with q | q
  · exact absurd ⟨q, Or.inr (Or.inl rfl)⟩ h
  · exact q
theorem slv_yes {f gd g : Int → Int} (ok : OkF f) (hR : ∀ y : Int, 0 ≤ y → y ≤ f 0 → ∀ b : Int, -1 ≤ b → b < y → Row f (brD f) g y b) (h : alw f gd 0) : g 14641 = slv f := by
  have o0 := ok.1
  have e := cU_eq ok (rows_isU hR) (x := 0) (b := -1) (by omega) (by omega) (by omega) (by omega)
  have e2 : TU f g (-1) 0 = g 14641 := if_neg (by omega)
  rw [e2] at e
  by_cases c : f (249 + 0) = 1 ∨ cU f (brD f) (-1) 0 = 1000
  · have e3 : slv f = 1000 := if_pos c
    rw [e3, e]
    rcases c with q | q
    · have := h.1
      omega
    · exact q
  · have e3 : slv f = cU f (brD f) (-1) 0 := if_neg c
    rw [e3, e]
theorem slv_pln {f : Int → Int} : (slv f = 1000 → pln f (brD f) = -1) ∧ (slv f ≠ 1000 → pln f (brD f) = slv f + 1) := by
  by_cases c : f (249 + 0) = 1 ∨ cU f (brD f) (-1) 0 = 1000
  · have e3 : slv f = 1000 := if_pos c
    exact ⟨fun _ => if_pos c, fun q => absurd e3 q⟩
  · have e3 : slv f = cU f (brD f) (-1) 0 := if_neg c
    have e4 : pln f (brD f) = 1 + cU f (brD f) (-1) 0 := if_neg c
    rw [e3, e4]
    exact ⟨fun q => absurd (Or.inr q) c, fun _ => by omega⟩
theorem bn_f {f h gd ge g : Int → Int} {a x u : Int} (ok : OkF f) (ok2 : OkF h) (e : ∀ j : Int, 0 ≤ j → j < 491 → h j = f j) (eg : ∀ x : Int, 0 ≤ x → x ≤ f 0 → ge x = gd x) (h1 : 0 ≤ x) (h2 : x < f 0) (h3 : 0 ≤ a ∧ (a < x ∨ a = 121)) (q : IsBn h ge g a x u) : IsBn f gd g a x u := by
  have hb := bof_b h3 h1
  have ec := cnd_fg (b := bof a) ok ok2 e eg h1 h2 hb.1 hb.2
  rcases q with ⟨c1, c2⟩ | ⟨c1, c2, c3⟩
  · exact Or.inl ⟨c1, fun z hz => c2 z ((ec z).mpr hz)⟩
  · exact Or.inr ⟨(ec u).mp c1, c2, fun z hz => c3 z ((ec z).mpr hz)⟩
/-- the search's next post is the best layout's -/
theorem bn_nx {f gd g : Int → Int} {a x u : Int} (ok : OkF f) (hR : ∀ y : Int, 0 ≤ y → y ≤ f 0 → ∀ b : Int, -1 ≤ b → b < y → Row f gd g y b) (h1 : 0 ≤ x) (h2 : x < f 0) (h3 : 0 ≤ a ∧ (a < x ∨ a = 121)) (hc : cU f gd (bof a) x ≠ 1000) (q : IsBn f gd g a x u) : u = nx f gd (bof a) x := by
  have o0 := ok.1
  have hb := bof_b h3 h1
  have hU := rows_isU hR
  have e0 := cU_eq ok hU h1 (Int.le_of_lt h2) hb.1 hb.2
  have e : ∀ z : Int, cnd f gd (bof a) x z → TU f g x z = g (121 * x + z) := fun z hz => by
    have hb := cnd_b ok h1 h2 hz
    exact TU_g h1 hb.1 (hR z (by omega) hb.2 x (by omega) hb.1)
  rcases hU.2 x (bof a) h1 h2 hb.1 hb.2 with ⟨y, c1, c2, c3, c4, c5⟩ | ⟨c1, -⟩
  · rcases q with ⟨d1, d2⟩ | ⟨d1, d2, d3⟩
    · have := d2 y c1
      rw [e y c1] at c3
      have := cnd_b ok h1 h2 c1
      omega
    · have a1 := c5 u d1
      have a2 := (d3 y c1).1
      rw [e y c1] at a1 c4
      rw [e u d1] at a1
      refine nx_of (isNx_eq ok hU h1 h2 hb.1 hb.2 ⟨d1, by rw [c4, e u d1]; omega, fun z hz hcz => ?_⟩)
      have := (d3 z hcz).2 hz
      rw [c4, e z hcz]
      omega
  · exact absurd (by rw [← e0]; exact c1) hc
/-- the row with the best layout's first k + 1 posts -/
noncomputable def mrk (f gd : Int → Int) : Nat → Int → Int
  | 0 => zup (clP f) (491 + 0) 1
  | k + 1 => zup (mrk f gd k) (491 + (sq f gd (k + 1)).2) 1
noncomputable def dsn (f : Int → Int) : Int → Int := mrk f (brD f) (slv f).toNat
theorem sq_up {f gd : Int → Int} {m : Nat} (h : ∀ k : Nat, k < m → (sq f gd k).2 < (sq f gd (k + 1)).2) : ∀ k : Nat, k ≤ m → ∀ i : Nat, i ≤ k → (sq f gd i).2 ≤ (sq f gd k).2 := by
  intro k
  induction k with
  | zero => intro _ i hi; rw [show i = 0 by omega]; exact Int.le_refl _
  | succ k ih =>
    intro hk i hi
    by_cases c : i = k + 1
    · rw [c]; exact Int.le_refl _
    · have h1 := ih (by omega) i (by omega)
      have h2 := h k (by omega)
      omega
theorem mrk_ok {f gd : Int → Int} {m : Nat} (ok : OkF f) (h : ∀ k : Nat, k < m → (sq f gd k).2 < (sq f gd (k + 1)).2 ∧ 0 ≤ (sq f gd (k + 1)).2 ∧ (sq f gd (k + 1)).2 ≤ f 0) : ∀ k : Nat, k ≤ m → OkF (mrk f gd k) ∧ (∀ j : Int, j < 491 → mrk f gd k j = f j) ∧ Rep (mrk f gd k) (fun j => (sq f gd j.toNat).2) ((k : Int) + 1) := by
  have o0 := ok.1
  have hup := sq_up (fun k q => (h k q).1)
  intro k
  induction k with
  | zero =>
    intro _
    have okc := okF_clP ok
    have e0 : ∀ j : Int, j < 491 → clP f j = f j := fun j q => if_neg (by omega)
    have r0 : Rep (clP f) (fun j => (sq f gd j.toNat).2) 0 := rep_none okc (fun x a b => if_pos (by omega))
    have rk : rank (clP f) 0 = 0 := zsm_0 _ _
    refine ⟨okF_post okc (Int.le_refl _) (Or.inr rfl), fun j q => ?_, ?_⟩
    · show zup (clP f) (491 + 0) 1 j = f j
      rw [zup_ne (by omega), e0 j q]
    · exact rep_in okc r0 (Int.le_refl _) (by rw [e0 0 (by omega)]; omega) (if_pos (by omega)) (fun j a b => rfl) (by rw [rk]; rfl) (fun j a b => by rw [rk] at a; omega)
  | succ k ih =>
    intro hk
    obtain ⟨i1, i2, i3⟩ := ih (by omega)
    obtain ⟨s1, s2, s3⟩ := h k (by omega)
    have e0 := i2 0 (by omega)
    have hall : ∀ i : Int, 0 ≤ i → i < (k : Int) + 1 → (sq f gd i.toNat).2 < (sq f gd (k + 1)).2 := fun i a b => by
      have := hup k (by omega) i.toNat (by omega)
      omega
    have hrk : rank (mrk f gd k) (sq f gd (k + 1)).2 = (k : Int) + 1 := by
      have h8 := (rep_lt i1 i3 (k := (k : Int)) (y := (sq f gd (k + 1)).2) (by omega) (by omega) s2 (by omega)).mp (hall _ (by omega) (by omega))
      have h9 := rank_mono i1 s2 (by omega : (sq f gd (k + 1)).2 ≤ mrk f gd k 0 + 1) (by omega)
      rw [← i3.1] at h9
      omega
    have hno : mrk f gd k (491 + (sq f gd (k + 1)).2) = 0 := by
      have := i1.2.2.2.2.2.2.2.2.2.2.2.2 (sq f gd (k + 1)).2 s2 (by omega)
      rcases this with q | q
      · exact q
      · have h9 := rank_lt i1 s2 (by omega : (sq f gd (k + 1)).2 < mrk f gd k 0 + 1) (by omega) q
        rw [← i3.1] at h9
        omega
    refine ⟨okF_post i1 s2 (Or.inr rfl), fun j q => ?_, ?_⟩
    · show zup (mrk f gd k) (491 + (sq f gd (k + 1)).2) 1 j = f j
      rw [zup_ne (by omega), i2 j q]
    · rw [show ((k + 1 : Nat) : Int) + 1 = ((k : Int) + 1) + 1 by omega]
      exact rep_in i1 i3 s2 (by omega) hno (fun j a b => rfl) (by rw [hrk]; rfl) (fun j a b => by rw [hrk] at a; omega)
/-- what the best layout's posts are, all of them -/
theorem sq_all {f g : Int → Int} (ok : OkF f) (hR : ∀ y : Int, 0 ≤ y → y ≤ f 0 → ∀ b : Int, -1 ≤ b → b < y → Row f (brD f) g y b) (hs : slv f ≠ 1000) : ∀ k : Nat, k < (slv f).toNat → (-1 ≤ (sq f (brD f) k).1 ∧ (sq f (brD f) k).1 < (sq f (brD f) k).2 ∧ 0 ≤ (sq f (brD f) k).2 ∧ (sq f (brD f) k).2 < f 0 ∧ cU f (brD f) (sq f (brD f) k).1 (sq f (brD f) k).2 ≠ 1000) ∧ ((sq f (brD f) k).2 < (sq f (brD f) (k + 1)).2 ∧ 0 ≤ (sq f (brD f) (k + 1)).2 ∧ (sq f (brD f) (k + 1)).2 ≤ f 0) := by
  intro k hk
  have o0 := ok.1
  have hI := rows_isU hR
  have hC := cU_is hI
  obtain ⟨b1, b2, b3, b4, b5⟩ := (slv_b ok hR).resolve_left hs
  obtain ⟨s1, s2, s3, s4, s5, s6, s7⟩ := sq_ok ok hC b5 k (by omega)
  obtain ⟨s8, s9⟩ := s7 (by omega)
  have hb := cnd_b ok s3 s8 s9.1
  have e : (sq f (brD f) (k + 1)).2 = nx f (brD f) (sq f (brD f) k).1 (sq f (brD f) k).2 := rfl
  rw [e] at s9 ⊢
  exact ⟨⟨s1, s2, s3, s8, by rw [s6]; omega⟩, hb.1, by omega, hb.2⟩

abbrev rmX7_isAllowed : Room := { frames := 1, cells := 0, slots := 0, locals := 22 }
theorem jX7_isAllowed : yX7_isAllowed.cls = RX7 ∧ yX7_isAllowed.cls ≠ "java/lang/invoke/MethodHandle" ∧ yX7_isAllowed.cls ≠ "java/lang/invoke/VarHandle" ∧ (parseMethodDescriptor yX7_isAllowed.desc).map (fun d => d.parameters.length) = some 1 := by decide +kernel
set_option maxHeartbeats 4000000 in
set_option maxRecDepth 100000 in
theorem kX7_isAllowed (l : Launch) (D : va_G) (cI cJ cS : ClassId) (m0 : Nat) (a : Nat → Nat) (ke th hs : Int) (f : Int → Int) (gd : Int → Int) (x : Int) (ok : OkF f) (hgd : ∀ x : Int, 0 ≤ x → x ≤ f 0 → 0 ≤ gd x ∧ gd x ≤ 1000) (h1 : 0 ≤ x ∧ x ≤ f 0) : Met l yX7_isAllowed wsX7_isAllowed rmX7_isAllowed (zPc D (zT cI cJ cS) [.ref m0, .int (zI (x))] [(m0, .inr (7, [.ref (a 0), .ref (a 1), .int (zI (ke)), .int (zI (th)), .ref (a 2), .ref (a 3), .ref (a 4), .ref (a 5), .ref (a 6), .ref (a 7), .ref (a 8), .long (zL (hs))])), (a 0, .inl (cI, 612, .inl (zA f))), (a 4, .inl (cI, 121, .inl (zA gd)))]) (vp_Si (fun r => r = zI (zB (alw f gd x)))) 0 0 (fun _ => False) := by
  refine zRz_of (cc := cX7_isAllowed) (maxL := 2) (ret := (some .boolean)) (zB (alw f gd x)) (by decide) rfl (Nat.le_of_ble_eq_true rfl) rfl (zB_01 _) ?_
  intro p e s m args below meth c Q ls hx hb hml hts hown hK hP hD hl hret
  have in7 : ∀ w ∈ wsX70, w ∈ wsX7_isAllowed := by decide +kernel
  have f7 := hts (.fieldLink RX7 7 "SignalSpacingModel" "now" "[I") (by decide +kernel)
  have hl : lv_has ls 2 [(0, .ref m0), (1, .int (zI (x)))] := hl
  have hP : va_P D vwCl [(m0, .inr (7, [.ref (a 0), .ref (a 1), .int (zI (ke)), .int (zI (th)), .ref (a 2), .ref (a 3), .ref (a 4), .ref (a 5), .ref (a 6), .ref (a 7), .ref (a 8), .long (zL (hs))])), (a 0, .inl (cI, 612, .inl (zA f))), (a 4, .inl (cI, 121, .inl (zA gd)))] s.heap := hP
  obtain ⟨o0, o1, o2, o3, o4, o5, o7, o8, olim, ogrd, obar, oneed, opost⟩ := id ok
  have hb9 := obar x h1.1 (by omega)
  refine lv_aload_n hx hb dX7_isAllowed_0 rfl (lv_at hl 0 rfl) ?_
  refine va_get (D := D) (ci := 7) (v := .ref (a 0)) (C := RX7) (T := TX7) (N := 12) hx hb hts in7 hown hK hP 0 rfl rfl 0 (by decide) f7 (fun _ h9 => h9) rfl dX7_isAllowed_1 ?_
  refine z_sipush hx hb dX7_isAllowed_4 (by decide +kernel) ?_
  refine lv_iload_n hx hb dX7_isAllowed_7 rfl (lv_at hl 1 rfl) ?_
  refine z_iadd hx hb dX7_isAllowed_8 ?_
  refine z_iald hx hb hK hP 1 0 rfl rfl (by omega) (Nat.lt_of_succ_le (Nat.le_of_ble_eq_true rfl)) dX7_isAllowed_9 ?_
  refine z_if_ne (tgt := 39) hx hb dX7_isAllowed_10 (by decide) (by omega) (fun c10 => ?_) (fun c10 => ?_)
  · refine z_iconst hx hb dX7_isAllowed_39 ?_
    exact z_top (zB (alw f gd x)) (by first | exact (zB_f (fun q => by have h9 := q.1; omega)).symm | exact (zB_f (fun q => q.2.elim (fun a9 => by omega) (fun a9 => a9.elim (fun b9 => by omega) (fun b9 => b9 c32)))).symm) (hret dX7_isAllowed_40)
  · refine lv_aload_n hx hb dX7_isAllowed_13 rfl (lv_at hl 0 rfl) ?_
    refine va_get (D := D) (ci := 7) (v := .ref (a 0)) (C := RX7) (T := TX7) (N := 12) hx hb hts in7 hown hK hP 0 rfl rfl 0 (by decide) f7 (fun _ h9 => h9) rfl dX7_isAllowed_14 ?_
    refine z_iconst hx hb dX7_isAllowed_17 ?_
    refine z_iald hx hb hK hP 1 0 rfl rfl (by omega) (Nat.lt_of_succ_le (Nat.le_of_ble_eq_true rfl)) dX7_isAllowed_18 ?_
    refine z_iconst hx hb dX7_isAllowed_19 ?_
    refine z_icmp_gt (tgt := 35) hx hb dX7_isAllowed_20 (by decide) (by omega) (by omega) (fun c20 => ?_) (fun c20 => ?_)
    · refine z_iconst hx hb dX7_isAllowed_35 ?_
      refine lv_goto (tgt := 40) hx hb dX7_isAllowed_36 (by decide) ?_
      exact z_top (zB (alw f gd x)) (by first | exact (zB_t ⟨by omega, Or.inl (by omega)⟩).symm | exact (zB_t ⟨by omega, Or.inr (Or.inl (by omega))⟩).symm | exact (zB_t ⟨by omega, Or.inr (Or.inr c32)⟩).symm) (hret dX7_isAllowed_40)
    · refine lv_iload_n hx hb dX7_isAllowed_23 rfl (lv_at hl 1 rfl) ?_
      refine z_if_eq (tgt := 35) hx hb dX7_isAllowed_24 (by decide) (by omega) (fun c24 => ?_) (fun c24 => ?_)
      · refine z_iconst hx hb dX7_isAllowed_35 ?_
        refine lv_goto (tgt := 40) hx hb dX7_isAllowed_36 (by decide) ?_
        exact z_top (zB (alw f gd x)) (by first | exact (zB_t ⟨by omega, Or.inl (by omega)⟩).symm | exact (zB_t ⟨by omega, Or.inr (Or.inl (by omega))⟩).symm | exact (zB_t ⟨by omega, Or.inr (Or.inr c32)⟩).symm) (hret dX7_isAllowed_40)
      · refine lv_aload_n hx hb dX7_isAllowed_27 rfl (lv_at hl 0 rfl) ?_
        refine lv_iload_n hx hb dX7_isAllowed_28 rfl (lv_at hl 1 rfl) ?_
        refine y_rV (v := zB (isLate f gd x)) (As := [.int (zI (x))]) (rest := []) hx hb hml hown hts hl.1 ⟨Nat.zero_le _, Nat.zero_le _⟩ (kX7_isSeenLate l D cI cJ cS m0 a ke th hs f gd x ok hgd (by omega)) (cwV 1 hts gX7_isAllowed_X7_isSeenLate rfl rfl rfl jX7_isSeenLate ⟨Nat.le_of_ble_eq_true rfl, Nat.le_of_ble_eq_true rfl⟩) hK [true, true, true] hP hD rfl 7 0 rfl rfl rfl rfl rfl (Nat.le_of_ble_eq_true rfl) dX7_isAllowed_29 ?_
        refine z_if_ne (tgt := 39) hx hb dX7_isAllowed_32 (by decide) (by have hz := zB_01 (isLate f gd x); omega) (fun c32 => ?_) (fun c32 => ?_)
        · have c32 := zB_n0.mp c32
          refine z_iconst hx hb dX7_isAllowed_39 ?_
          exact z_top (zB (alw f gd x)) (by first | exact (zB_f (fun q => by have h9 := q.1; omega)).symm | exact (zB_f (fun q => q.2.elim (fun a9 => by omega) (fun a9 => a9.elim (fun b9 => by omega) (fun b9 => b9 c32)))).symm) (hret dX7_isAllowed_40)
        · have c32 := zB_0.mp c32
          refine z_iconst hx hb dX7_isAllowed_35 ?_
          refine lv_goto (tgt := 40) hx hb dX7_isAllowed_36 (by decide) ?_
          exact z_top (zB (alw f gd x)) (by first | exact (zB_t ⟨by omega, Or.inl (by omega)⟩).symm | exact (zB_t ⟨by omega, Or.inr (Or.inl (by omega))⟩).symm | exact (zB_t ⟨by omega, Or.inr (Or.inr c32)⟩).symm) (hret dX7_isAllowed_40)

abbrev rmX7_canFollow : Room := { frames := 2, cells := 0, slots := 0, locals := 43 }
theorem jX7_canFollow : yX7_canFollow.cls = RX7 ∧ yX7_canFollow.cls ≠ "java/lang/invoke/MethodHandle" ∧ yX7_canFollow.cls ≠ "java/lang/invoke/VarHandle" ∧ (parseMethodDescriptor yX7_canFollow.desc).map (fun d => d.parameters.length) = some 3 := by decide +kernel
set_option maxHeartbeats 4000000 in
set_option maxRecDepth 100000 in
theorem kX7_canFollow (l : Launch) (D : va_G) (cI cJ cS : ClassId) (m0 : Nat) (a : Nat → Nat) (ke th hs : Int) (f : Int → Int) (gd : Int → Int) (a1 x y : Int) (ok : OkF f) (hgd : ∀ x : Int, 0 ≤ x → x ≤ f 0 → 0 ≤ gd x ∧ gd x ≤ 1000) (h1 : 0 ≤ x ∧ x < y ∧ y ≤ f 0) (h2 : 0 ≤ a1 ∧ (a1 < x ∨ a1 = 121)) : Met l yX7_canFollow wsX7_canFollow rmX7_canFollow (zPc D (zT cI cJ cS) [.ref m0, .int (zI (a1)), .int (zI (x)), .int (zI (y))] [(m0, .inr (7, [.ref (a 0), .ref (a 1), .int (zI (ke)), .int (zI (th)), .ref (a 2), .ref (a 3), .ref (a 4), .ref (a 5), .ref (a 6), .ref (a 7), .ref (a 8), .long (zL (hs))])), (a 0, .inl (cI, 612, .inl (zA f))), (a 4, .inl (cI, 121, .inl (zA gd)))]) (vp_Si (fun r => r = zI (zB (cnf f gd a1 x y)))) 0 0 (fun _ => False) := by
  refine zRz_of (cc := cX7_canFollow) (maxL := 6) (ret := (some .boolean)) (zB (cnf f gd a1 x y)) (by decide) rfl (Nat.le_of_ble_eq_true rfl) rfl (zB_01 _) ?_
  intro p e s m args below meth c Q ls hx hb hml hts hown hK hP hD hl hret
  have in7 : ∀ w ∈ wsX70, w ∈ wsX7_canFollow := by decide +kernel
  have f7 := hts (.fieldLink RX7 7 "SignalSpacingModel" "now" "[I") (by decide +kernel)
  have f23 := hts (.fieldLink RX7 23 "SignalSpacingModel" "distances" "[I") (by decide +kernel)
  have hl : lv_has ls 6 [(0, .ref m0), (1, .int (zI (a1))), (2, .int (zI (x))), (3, .int (zI (y)))] := hl
  have hP : va_P D vwCl [(m0, .inr (7, [.ref (a 0), .ref (a 1), .int (zI (ke)), .int (zI (th)), .ref (a 2), .ref (a 3), .ref (a 4), .ref (a 5), .ref (a 6), .ref (a 7), .ref (a 8), .long (zL (hs))])), (a 0, .inl (cI, 612, .inl (zA f))), (a 4, .inl (cI, 121, .inl (zA gd)))] s.heap := hP
  obtain ⟨o0, o1, o2, o3, o4, o5, o7, o8, olim, ogrd, obar, oneed, opost⟩ := id ok
  have hd1 := hgd x h1.1 (by omega)
  refine lv_iload_n hx hb dX7_canFollow_0 rfl (lv_at hl 3 rfl) ?_
  refine lv_iload_n hx hb dX7_canFollow_1 rfl (lv_at hl 2 rfl) ?_
  refine z_isub hx hb dX7_canFollow_2 ?_
  refine lv_istore (lv' := [(4, .int (zI (y - x))), (0, .ref m0), (1, .int (zI (a1))), (2, .int (zI (x))), (3, .int (zI (y)))]) hx hb dX7_canFollow_3 hl (by decide) rfl (fun ls hl => ?_)
  have J39 :  ∀ (ls : Array Slot), lv_has ls 6 [(4, .int (zI (y - x))), (0, .ref m0), (1, .int (zI (a1))), (2, .int (zI (x))), (3, .int (zI (y)))] → W p l e rmX7_canFollow s m args below meth c s.heap [] 0 0 Q (F0 m 39 ls [.int (zI (zB (alw f gd y ∧ f 5 ≤ y - x ∧ y - x ≤ f 6)))]) := by
    intro  ls hl
    refine lv_istore (lv' := [(5, .int (zI (zB (alw f gd y ∧ f 5 ≤ y - x ∧ y - x ≤ f 6)))), (4, .int (zI (y - x))), (0, .ref m0), (1, .int (zI (a1))), (2, .int (zI (x))), (3, .int (zI (y)))]) hx hb dX7_canFollow_39 hl (by decide) rfl (fun ls hl => ?_)
    refine lv_aload_n hx hb dX7_canFollow_41 rfl (lv_at hl 2 rfl) ?_
    refine va_get (D := D) (ci := 7) (v := .ref (a 0)) (C := RX7) (T := TX7) (N := 12) hx hb hts in7 hown hK hP 0 rfl rfl 0 (by decide) f7 (fun _ h9 => h9) rfl dX7_canFollow_42 ?_
    refine z_iconst hx hb dX7_canFollow_45 ?_
    refine z_iald hx hb hK hP 1 0 rfl rfl (by omega) (Nat.lt_of_succ_le (Nat.le_of_ble_eq_true rfl)) dX7_canFollow_46 ?_
    refine z_iconst hx hb dX7_canFollow_47 ?_
    refine z_icmp_ne (tgt := 73) hx hb dX7_canFollow_48 (by decide) (by omega) (by omega) (fun c48 => ?_) (fun c48 => ?_)
    · refine lv_iload hx hb dX7_canFollow_73 (lv_at hl 0 rfl) ?_
      refine z_if_eq (tgt := 110) hx hb dX7_canFollow_75 (by decide) (by have hz := zB_01 (alw f gd y ∧ f 5 ≤ y - x ∧ y - x ≤ f 6); omega) (fun c75 => ?_) (fun c75 => ?_)
      · have c75 := zB_0.mp c75
        refine z_iconst hx hb dX7_canFollow_110 ?_
        exact z_top (zB (cnf f gd a1 x y)) (by first | exact (zB_f (P := cnf f gd a1 x y) (fun q => c53 q.1)).symm | exact (zB_f (P := cnf f gd a1 x y) (fun q => c75 q.1)).symm | exact (zB_f (P := cnf f gd a1 x y) (fun q => by have h9 := q.2; rw [est_3 (f := f) (by omega)] at h9; omega)).symm | exact (zB_f (P := cnf f gd a1 x y) (fun q => by have h9 := q.2; rw [est_4 (f := f) (a := a1) (by omega) (by omega) (by omega)] at h9; omega)).symm) (hret dX7_canFollow_111)
      · have c75 := zB_n0.mp c75
        refine lv_aload_n hx hb dX7_canFollow_78 rfl (lv_at hl 2 rfl) ?_
        refine va_get (D := D) (ci := 7) (v := .ref (a 0)) (C := RX7) (T := TX7) (N := 12) hx hb hts in7 hown hK hP 0 rfl rfl 0 (by decide) f7 (fun _ h9 => h9) rfl dX7_canFollow_79 ?_
        refine z_iconst hx hb dX7_canFollow_82 ?_
        refine z_iald hx hb hK hP 1 0 rfl rfl (by omega) (Nat.lt_of_succ_le (Nat.le_of_ble_eq_true rfl)) dX7_canFollow_83 ?_
        refine z_iconst hx hb dX7_canFollow_84 ?_
        refine z_icmp_lt (tgt := 106) hx hb dX7_canFollow_85 (by decide) (by omega) (by omega) (fun c85 => ?_) (fun c85 => ?_)
        · refine z_iconst hx hb dX7_canFollow_106 ?_
          refine lv_goto (tgt := 111) hx hb dX7_canFollow_107 (by decide) ?_
          exact z_top (zB (cnf f gd a1 x y)) (by first | exact (zB_t (P := cnf f gd a1 x y) ⟨c75, by rw [est_0 (f := f) (a := a1) (by omega) (by omega)]; omega⟩).symm | exact (zB_t (P := cnf f gd a1 x y) ⟨c75, by rw [est_4 (f := f) (a := a1) (by omega) (by omega) (by omega)]; omega⟩).symm | exact (zB_t (P := cnf f gd a1 x y) ⟨c53, by rw [est_3 (f := f) (by omega)]; omega⟩).symm) (hret dX7_canFollow_111)
        · refine lv_iload_n hx hb dX7_canFollow_88 rfl (lv_at hl 3 rfl) ?_
          refine z_bipush hx hb dX7_canFollow_89 (by decide +kernel) ?_
          refine z_icmp_eq (tgt := 106) hx hb dX7_canFollow_91 (by decide) (by omega) (by omega) (fun c91 => ?_) (fun c91 => ?_)
          · refine z_iconst hx hb dX7_canFollow_106 ?_
            refine lv_goto (tgt := 111) hx hb dX7_canFollow_107 (by decide) ?_
            exact z_top (zB (cnf f gd a1 x y)) (by first | exact (zB_t (P := cnf f gd a1 x y) ⟨c75, by rw [est_0 (f := f) (a := a1) (by omega) (by omega)]; omega⟩).symm | exact (zB_t (P := cnf f gd a1 x y) ⟨c75, by rw [est_4 (f := f) (a := a1) (by omega) (by omega) (by omega)]; omega⟩).symm | exact (zB_t (P := cnf f gd a1 x y) ⟨c53, by rw [est_3 (f := f) (by omega)]; omega⟩).symm) (hret dX7_canFollow_111)
          · have hd2 := hgd a1 h2.1 (by omega)
            refine lv_iload_n hx hb dX7_canFollow_94 rfl (lv_at hl 5 rfl) ?_
            refine lv_iload_n hx hb dX7_canFollow_95 rfl (lv_at hl 3 rfl) ?_
            refine z_isub hx hb dX7_canFollow_96 ?_
            refine lv_aload_n hx hb dX7_canFollow_97 rfl (lv_at hl 2 rfl) ?_
            refine va_get (D := D) (ci := 7) (v := .ref (a 4)) (C := RX7) (T := TX7) (N := 12) hx hb hts in7 hown hK hP 0 rfl rfl 6 (by decide) f23 (fun _ h9 => h9) rfl dX7_canFollow_98 ?_
            refine lv_iload_n hx hb dX7_canFollow_101 rfl (lv_at hl 3 rfl) ?_
            refine z_iald hx hb hK hP 2 0 rfl rfl (by omega) (Nat.lt_of_succ_le (Nat.le_of_ble_eq_true rfl)) dX7_canFollow_102 ?_
            refine z_icmp_lt (tgt := 110) hx hb dX7_canFollow_103 (by decide) (by omega) (by omega) (fun c103 => ?_) (fun c103 => ?_)
            · refine z_iconst hx hb dX7_canFollow_110 ?_
              exact z_top (zB (cnf f gd a1 x y)) (by first | exact (zB_f (P := cnf f gd a1 x y) (fun q => c53 q.1)).symm | exact (zB_f (P := cnf f gd a1 x y) (fun q => c75 q.1)).symm | exact (zB_f (P := cnf f gd a1 x y) (fun q => by have h9 := q.2; rw [est_3 (f := f) (by omega)] at h9; omega)).symm | exact (zB_f (P := cnf f gd a1 x y) (fun q => by have h9 := q.2; rw [est_4 (f := f) (a := a1) (by omega) (by omega) (by omega)] at h9; omega)).symm) (hret dX7_canFollow_111)
            · refine z_iconst hx hb dX7_canFollow_106 ?_
              refine lv_goto (tgt := 111) hx hb dX7_canFollow_107 (by decide) ?_
              exact z_top (zB (cnf f gd a1 x y)) (by first | exact (zB_t (P := cnf f gd a1 x y) ⟨c75, by rw [est_0 (f := f) (a := a1) (by omega) (by omega)]; omega⟩).symm | exact (zB_t (P := cnf f gd a1 x y) ⟨c75, by rw [est_4 (f := f) (a := a1) (by omega) (by omega) (by omega)]; omega⟩).symm | exact (zB_t (P := cnf f gd a1 x y) ⟨c53, by rw [est_3 (f := f) (by omega)]; omega⟩).symm) (hret dX7_canFollow_111)
    · refine lv_iload hx hb dX7_canFollow_51 (lv_at hl 0 rfl) ?_
      refine z_if_eq (tgt := 71) hx hb dX7_canFollow_53 (by decide) (by have hz := zB_01 (alw f gd y ∧ f 5 ≤ y - x ∧ y - x ≤ f 6); omega) (fun c53 => ?_) (fun c53 => ?_)
      · have c53 := zB_0.mp c53
        refine z_iconst hx hb dX7_canFollow_71 ?_
        exact z_top (zB (cnf f gd a1 x y)) (by first | exact (zB_f (P := cnf f gd a1 x y) (fun q => c53 q.1)).symm | exact (zB_f (P := cnf f gd a1 x y) (fun q => c75 q.1)).symm | exact (zB_f (P := cnf f gd a1 x y) (fun q => by have h9 := q.2; rw [est_3 (f := f) (by omega)] at h9; omega)).symm | exact (zB_f (P := cnf f gd a1 x y) (fun q => by have h9 := q.2; rw [est_4 (f := f) (a := a1) (by omega) (by omega) (by omega)] at h9; omega)).symm) (hret dX7_canFollow_72)
      · have c53 := zB_n0.mp c53
        refine lv_iload hx hb dX7_canFollow_56 (lv_at hl 1 rfl) ?_
        refine lv_aload_n hx hb dX7_canFollow_58 rfl (lv_at hl 2 rfl) ?_
        refine va_get (D := D) (ci := 7) (v := .ref (a 4)) (C := RX7) (T := TX7) (N := 12) hx hb hts in7 hown hK hP 0 rfl rfl 6 (by decide) f23 (fun _ h9 => h9) rfl dX7_canFollow_59 ?_
        refine lv_iload_n hx hb dX7_canFollow_62 rfl (lv_at hl 4 rfl) ?_
        refine z_iald hx hb hK hP 2 0 rfl rfl (by omega) (Nat.lt_of_succ_le (Nat.le_of_ble_eq_true rfl)) dX7_canFollow_63 ?_
        refine z_icmp_lt (tgt := 71) hx hb dX7_canFollow_64 (by decide) (by omega) (by omega) (fun c64 => ?_) (fun c64 => ?_)
        · refine z_iconst hx hb dX7_canFollow_71 ?_
          exact z_top (zB (cnf f gd a1 x y)) (by first | exact (zB_f (P := cnf f gd a1 x y) (fun q => c53 q.1)).symm | exact (zB_f (P := cnf f gd a1 x y) (fun q => c75 q.1)).symm | exact (zB_f (P := cnf f gd a1 x y) (fun q => by have h9 := q.2; rw [est_3 (f := f) (by omega)] at h9; omega)).symm | exact (zB_f (P := cnf f gd a1 x y) (fun q => by have h9 := q.2; rw [est_4 (f := f) (a := a1) (by omega) (by omega) (by omega)] at h9; omega)).symm) (hret dX7_canFollow_72)
        · refine z_iconst hx hb dX7_canFollow_67 ?_
          refine lv_goto (tgt := 72) hx hb dX7_canFollow_68 (by decide) ?_
          exact z_top (zB (cnf f gd a1 x y)) (by first | exact (zB_t (P := cnf f gd a1 x y) ⟨c75, by rw [est_0 (f := f) (a := a1) (by omega) (by omega)]; omega⟩).symm | exact (zB_t (P := cnf f gd a1 x y) ⟨c75, by rw [est_4 (f := f) (a := a1) (by omega) (by omega) (by omega)]; omega⟩).symm | exact (zB_t (P := cnf f gd a1 x y) ⟨c53, by rw [est_3 (f := f) (by omega)]; omega⟩).symm) (hret dX7_canFollow_72)
  refine lv_aload_n hx hb dX7_canFollow_5 rfl (lv_at hl 1 rfl) ?_
  refine lv_iload_n hx hb dX7_canFollow_6 rfl (lv_at hl 4 rfl) ?_
  refine y_rV (v := zB (alw f gd y)) (As := [.int (zI (y))]) (rest := []) hx hb hml hown hts hl.1 ⟨Nat.zero_le _, Nat.zero_le _⟩ (kX7_isAllowed l D cI cJ cS m0 a ke th hs f gd y ok hgd (by omega)) (cwV 1 hts gX7_canFollow_X7_isAllowed rfl rfl rfl jX7_isAllowed ⟨Nat.le_of_ble_eq_true rfl, Nat.le_of_ble_eq_true rfl⟩) hK [true, true, true] hP hD rfl 7 0 rfl rfl rfl rfl rfl (Nat.le_of_ble_eq_true rfl) dX7_canFollow_7 ?_
  refine z_if_eq (tgt := 38) hx hb dX7_canFollow_10 (by decide) (by have hz := zB_01 (alw f gd y); omega) (fun c10 => ?_) (fun c10 => ?_)
  · have c10 := zB_0.mp c10
    refine z_iconst hx hb dX7_canFollow_38 ?_
    refine z_top (zB (alw f gd y ∧ f 5 ≤ y - x ∧ y - x ≤ f 6)) (by first | exact (zB_f (P := alw f gd y ∧ f 5 ≤ y - x ∧ y - x ≤ f 6) (fun q => c10 q.1)).symm | exact (zB_f (P := alw f gd y ∧ f 5 ≤ y - x ∧ y - x ≤ f 6) (fun q => c31 q.2)).symm) ?_
    exact J39  ls (lv_sub hl [0, 1, 2, 3, 4] rfl)
  · have c10 := zB_n0.mp c10
    refine lv_iload hx hb dX7_canFollow_13 (lv_at hl 0 rfl) ?_
    refine lv_aload_n hx hb dX7_canFollow_15 rfl (lv_at hl 1 rfl) ?_
    refine va_get (D := D) (ci := 7) (v := .ref (a 0)) (C := RX7) (T := TX7) (N := 12) hx hb hts in7 hown hK hP 0 rfl rfl 0 (by decide) f7 (fun _ h9 => h9) rfl dX7_canFollow_16 ?_
    refine z_iconst hx hb dX7_canFollow_19 ?_
    refine z_iald hx hb hK hP 1 0 rfl rfl (by omega) (Nat.lt_of_succ_le (Nat.le_of_ble_eq_true rfl)) dX7_canFollow_20 ?_
    refine lv_aload_n hx hb dX7_canFollow_21 rfl (lv_at hl 1 rfl) ?_
    refine va_get (D := D) (ci := 7) (v := .ref (a 0)) (C := RX7) (T := TX7) (N := 12) hx hb hts in7 hown hK hP 0 rfl rfl 0 (by decide) f7 (fun _ h9 => h9) rfl dX7_canFollow_22 ?_
    refine z_bipush hx hb dX7_canFollow_25 (by decide +kernel) ?_
    refine z_iald hx hb hK hP 1 0 rfl rfl (by omega) (Nat.lt_of_succ_le (Nat.le_of_ble_eq_true rfl)) dX7_canFollow_27 ?_
    refine z_rS (v := zB ((f 5) ≤ (y - x) ∧ (y - x) ≤ (f 6))) (As := [.int (zI (y - x)), .int (zI (f 5)), .int (zI (f 6))]) (rest := []) hx hb hml hown hts hl.1 ⟨Nat.zero_le _, Nat.zero_le _⟩ (kX7_in l D cI cJ cS (y - x) (f 5) (f 6) (by omega) (by omega) (by omega)) (cwS 3 hts gX7_canFollow_X7_in rfl rfl rfl jX7_in ⟨Nat.le_of_ble_eq_true rfl, Nat.le_of_ble_eq_true rfl⟩) hK rfl rfl (Nat.le_of_ble_eq_true rfl) dX7_canFollow_28 ?_
    refine z_if_eq (tgt := 38) hx hb dX7_canFollow_31 (by decide) (by have hz := zB_01 ((f 5) ≤ (y - x) ∧ (y - x) ≤ (f 6)); omega) (fun c31 => ?_) (fun c31 => ?_)
    · have c31 := zB_0.mp c31
      refine z_iconst hx hb dX7_canFollow_38 ?_
      refine z_top (zB (alw f gd y ∧ f 5 ≤ y - x ∧ y - x ≤ f 6)) (by first | exact (zB_f (P := alw f gd y ∧ f 5 ≤ y - x ∧ y - x ≤ f 6) (fun q => c10 q.1)).symm | exact (zB_f (P := alw f gd y ∧ f 5 ≤ y - x ∧ y - x ≤ f 6) (fun q => c31 q.2)).symm) ?_
      exact J39  ls (lv_sub hl [0, 1, 2, 3, 4] rfl)
    · have c31 := zB_n0.mp c31
      refine z_iconst hx hb dX7_canFollow_34 ?_
      refine lv_goto (tgt := 39) hx hb dX7_canFollow_35 (by decide) ?_
      refine z_top (zB (alw f gd y ∧ f 5 ≤ y - x ∧ y - x ≤ f 6)) (zB_t (P := alw f gd y ∧ f 5 ≤ y - x ∧ y - x ≤ f 6) ⟨c10, c31⟩).symm ?_
      exact J39  ls (lv_sub hl [0, 1, 2, 3, 4] rfl)

abbrev rmX7_bestNext : Room := { frames := 3, cells := 0, slots := 0, locals := 68 }
theorem jX7_bestNext : yX7_bestNext.cls = RX7 ∧ yX7_bestNext.cls ≠ "java/lang/invoke/MethodHandle" ∧ yX7_bestNext.cls ≠ "java/lang/invoke/VarHandle" ∧ (parseMethodDescriptor yX7_bestNext.desc).map (fun d => d.parameters.length) = some 2 := by decide +kernel
set_option maxHeartbeats 4000000 in
set_option maxRecDepth 100000 in
theorem kX7_bestNext (l : Launch) (D : va_G) (cI cJ cS : ClassId) (m0 : Nat) (a : Nat → Nat) (ke th hs : Int) (f : Int → Int) (gd g : Int → Int) (a1 x : Int) (ok : OkF f) (hgd : ∀ x : Int, 0 ≤ x → x ≤ f 0 → 0 ≤ gd x ∧ gd x ≤ 1000) (htg : ∀ j : Int, 0 ≤ j → j < 14762 → 0 ≤ g j ∧ g j ≤ 1000) (h1 : 0 ≤ x ∧ x < f 0) (h2 : 0 ≤ a1 ∧ (a1 < x ∨ a1 = 121)) : Met l yX7_bestNext wsX7_bestNext rmX7_bestNext (zPc D (zT cI cJ cS) [.ref m0, .int (zI (a1)), .int (zI (x))] [(m0, .inr (7, [.ref (a 0), .ref (a 1), .int (zI (ke)), .int (zI (th)), .ref (a 2), .ref (a 3), .ref (a 4), .ref (a 5), .ref (a 6), .ref (a 7), .ref (a 8), .long (zL (hs))])), (a 0, .inl (cI, 612, .inl (zA f))), (a 4, .inl (cI, 121, .inl (zA gd))), (a 8, .inl (cI, 14762, .inl (zA g)))]) (va_Qi (fun r u => r = zI u ∧ IsBn f gd g a1 x u) (fun (u : Int) t => va_P D vwCl [(m0, .inr (7, [.ref (a 0), .ref (a 1), .int (zI (ke)), .int (zI (th)), .ref (a 2), .ref (a 3), .ref (a 4), .ref (a 5), .ref (a 6), .ref (a 7), .ref (a 8), .long (zL (hs))])), (a 0, .inl (cI, 612, .inl (zA f))), (a 4, .inl (cI, 121, .inl (zA gd))), (a 8, .inl (cI, 14762, .inl (zA g)))] t.heap) (zAd [(m0, .inr (7, [.ref (a 0), .ref (a 1), .int (zI (ke)), .int (zI (th)), .ref (a 2), .ref (a 3), .ref (a 4), .ref (a 5), .ref (a 6), .ref (a 7), .ref (a 8), .long (zL (hs))])), (a 0, .inl (cI, 612, .inl (zA f))), (a 4, .inl (cI, 121, .inl (zA gd))), (a 8, .inl (cI, 14762, .inl (zA g)))])) 0 0 (zAd [(m0, .inr (7, [.ref (a 0), .ref (a 1), .int (zI (ke)), .int (zI (th)), .ref (a 2), .ref (a 3), .ref (a 4), .ref (a 5), .ref (a 6), .ref (a 7), .ref (a 8), .long (zL (hs))])), (a 0, .inl (cI, 612, .inl (zA f))), (a 4, .inl (cI, 121, .inl (zA gd))), (a 8, .inl (cI, 14762, .inl (zA g)))]) := by
  refine zWi_of (cc := cX7_bestNext) (maxL := 7) (ret := (some .int)) (by decide) rfl (Nat.le_of_ble_eq_true rfl) rfl ?_
  intro p e s m args below meth c Q A ls hx hb hml hts hown hK hP hD hS hl hret
  have in7 : ∀ w ∈ wsX70, w ∈ wsX7_bestNext := by decide +kernel
  have f7 := hts (.fieldLink RX7 7 "SignalSpacingModel" "now" "[I") (by decide +kernel)
  have f35 := hts (.fieldLink RX7 35 "SignalSpacingModel" "fewest" "[I") (by decide +kernel)
  have hl : lv_has ls 7 [(0, .ref m0), (1, .int (zI (a1))), (2, .int (zI (x)))] := hl
  have hP : va_P D vwCl [(m0, .inr (7, [.ref (a 0), .ref (a 1), .int (zI (ke)), .int (zI (th)), .ref (a 2), .ref (a 3), .ref (a 4), .ref (a 5), .ref (a 6), .ref (a 7), .ref (a 8), .long (zL (hs))])), (a 0, .inl (cI, 612, .inl (zA f))), (a 4, .inl (cI, 121, .inl (zA gd))), (a 8, .inl (cI, 14762, .inl (zA g)))] s.heap := hP
  obtain ⟨o0, o1, o2, o3, o4, o5, o7, o8, olim, ogrd, obar, oneed, opost⟩ := id ok
  refine z_iconst hx hb dX7_bestNext_0 ?_
  refine lv_istore_n (lv' := [(3, .int (zI (-1))), (0, .ref m0), (1, .int (zI (a1))), (2, .int (zI (x)))]) hx hb dX7_bestNext_1 rfl hl (by decide) rfl (fun ls hl => ?_)
  refine z_sipush hx hb dX7_bestNext_2 (by decide +kernel) ?_
  refine lv_istore (lv' := [(4, .int (zI (1000))), (3, .int (zI (-1))), (0, .ref m0), (1, .int (zI (a1))), (2, .int (zI (x)))]) hx hb dX7_bestNext_5 hl (by decide) rfl (fun ls hl => ?_)
  refine z_iconst hx hb dX7_bestNext_7 ?_
  refine lv_istore (lv' := [(5, .int (zI (1))), (4, .int (zI (1000))), (3, .int (zI (-1))), (0, .ref m0), (1, .int (zI (a1))), (2, .int (zI (x)))]) hx hb dX7_bestNext_8 hl (by decide) rfl (fun ls hl => ?_)
  refine lv_iload_n hx hb dX7_bestNext_10 rfl (lv_at hl 5 rfl) ?_
  refine z_iconst hx hb dX7_bestNext_11 ?_
  refine z_iadd hx hb dX7_bestNext_12 ?_
  refine lv_istore (lv' := [(6, .int (zI (x + 1))), (5, .int (zI (1))), (4, .int (zI (1000))), (3, .int (zI (-1))), (0, .ref m0), (1, .int (zI (a1))), (2, .int (zI (x)))]) hx hb dX7_bestNext_13 hl (by decide) rfl (fun ls hl => ?_)
  have L15 : ∀ (fuel : Nat), ∀ (best : Int) (lo : Int) (go : Int) (y : Int), ∀ (h3 : x < y ∧ y ≤ f 0 + 1), ∀ (hgo : go = 0 ∨ go = 1), ∀ (hlo : 0 ≤ lo ∧ lo ≤ 1000), ∀ (hst : Sto f x y go), ∀ (hbn : BN f gd g a1 x y best lo), (f 0 + 1 - y).toNat < fuel → ∀ (H : Heap) (locs : List Loc), va_P D vwCl [(m0, .inr (7, [.ref (a 0), .ref (a 1), .int (zI (ke)), .int (zI (th)), .ref (a 2), .ref (a 3), .ref (a 4), .ref (a 5), .ref (a 6), .ref (a 7), .ref (a 8), .long (zL (hs))])), (a 0, .inl (cI, 612, .inl (zA f))), (a 4, .inl (cI, 121, .inl (zA gd))), (a 8, .inl (cI, 14762, .inl (zA g)))] H → va_S A s.heap H locs → ∀ (ls : Array Slot), lv_has ls 7 [(0, .ref m0), (1, .int (zI (a1))), (2, .int (zI (x))), (3, .int (zI (best))), (4, .int (zI (lo))), (5, .int (zI (go))), (6, .int (zI (y)))] → W p l e rmX7_bestNext s m args below meth c H locs 0 0 Q (F0 m 15 ls []) := by
    intro fuel
    induction fuel with
    | zero =>
      intro best lo go y h3 hgo hlo hst hbn hm
      exact absurd hm (Nat.not_lt_zero _)
    | succ fuel ih15 =>
      intro best lo go y h3 hgo hlo hst hbn hm H locs hP hS ls hl
      refine lv_iload hx hb dX7_bestNext_15 (lv_at hl 6 rfl) ?_
      refine lv_aload_n hx hb dX7_bestNext_17 rfl (lv_at hl 0 rfl) ?_
      refine va_get (D := D) (ci := 7) (v := .ref (a 0)) (C := RX7) (T := TX7) (N := 12) hx hb hts in7 hown hK hP 0 rfl rfl 0 (by decide) f7 (fun _ h9 => h9) rfl dX7_bestNext_18 ?_
      refine z_iconst hx hb dX7_bestNext_21 ?_
      refine z_iald hx hb hK hP 1 0 rfl rfl (by omega) (Nat.lt_of_succ_le (Nat.le_of_ble_eq_true rfl)) dX7_bestNext_22 ?_
      refine z_icmp_gt (tgt := 98) hx hb dX7_bestNext_23 (by decide) (by omega) (by omega) (fun c23 => ?_) (fun c23 => ?_)
      · refine lv_iload_n hx hb dX7_bestNext_98 rfl (lv_at hl 3 rfl) ?_
        exact hret best ⟨rfl, bn_end ok h1.1 h1.2 hst (by omega) h3.2 hbn⟩ hP hS dX7_bestNext_99
      · refine lv_iload hx hb dX7_bestNext_26 (lv_at hl 5 rfl) ?_
        refine z_if_eq (tgt := 98) hx hb dX7_bestNext_28 (by decide) (by omega) (fun c28 => ?_) (fun c28 => ?_)
        · refine lv_iload_n hx hb dX7_bestNext_98 rfl (lv_at hl 3 rfl) ?_
          exact hret best ⟨rfl, bn_end ok h1.1 h1.2 hst (by omega) h3.2 hbn⟩ hP hS dX7_bestNext_99
        · have htv := htg (121 * x + y) (by omega) (by omega)
          have hnw := hst.elim (fun q => q.2) (fun q => absurd q.1 c28)
          refine lv_aload_n hx hb dX7_bestNext_31 rfl (lv_at hl 0 rfl) ?_
          have J76 : ∀ (best2 : Int) (lo2 : Int), ∀ (hlo2 : 0 ≤ lo2 ∧ lo2 ≤ 1000), ∀ (hb2 : BN f gd g a1 x (y + 1) best2 lo2), ∀ (H : Heap) (locs : List Loc), va_P D vwCl [(m0, .inr (7, [.ref (a 0), .ref (a 1), .int (zI (ke)), .int (zI (th)), .ref (a 2), .ref (a 3), .ref (a 4), .ref (a 5), .ref (a 6), .ref (a 7), .ref (a 8), .long (zL (hs))])), (a 0, .inl (cI, 612, .inl (zA f))), (a 4, .inl (cI, 121, .inl (zA gd))), (a 8, .inl (cI, 14762, .inl (zA g)))] H → va_S A s.heap H locs → ∀ (ls : Array Slot), lv_has ls 7 [(0, .ref m0), (1, .int (zI (a1))), (2, .int (zI (x))), (3, .int (zI (best2))), (4, .int (zI (lo2))), (5, .int (zI (go))), (6, .int (zI (y)))] → W p l e rmX7_bestNext s m args below meth c H locs 0 0 Q (F0 m 76 ls []) := by
            intro best2 lo2 hlo2 hb2 H locs hP hS ls hl
            refine lv_aload_n hx hb dX7_bestNext_76 rfl (lv_at hl 0 rfl) ?_
            have J90 :  ∀ (H : Heap) (locs : List Loc), va_P D vwCl [(m0, .inr (7, [.ref (a 0), .ref (a 1), .int (zI (ke)), .int (zI (th)), .ref (a 2), .ref (a 3), .ref (a 4), .ref (a 5), .ref (a 6), .ref (a 7), .ref (a 8), .long (zL (hs))])), (a 0, .inl (cI, 612, .inl (zA f))), (a 4, .inl (cI, 121, .inl (zA gd))), (a 8, .inl (cI, 14762, .inl (zA g)))] H → va_S A s.heap H locs → ∀ (ls : Array Slot), lv_has ls 7 [(0, .ref m0), (1, .int (zI (a1))), (2, .int (zI (x))), (3, .int (zI (best2))), (4, .int (zI (lo2))), (5, .int (zI (go))), (6, .int (zI (y)))] → W p l e rmX7_bestNext s m args below meth c H locs 0 0 Q (F0 m 90 ls [.int (zI (zB (¬ wanted f y)))]) := by
              intro  H locs hP hS ls hl
              refine lv_istore (lv' := [(5, .int (zI (zB (¬ wanted f y)))), (0, .ref m0), (1, .int (zI (a1))), (2, .int (zI (x))), (3, .int (zI (best2))), (4, .int (zI (lo2))), (6, .int (zI (y)))]) hx hb dX7_bestNext_90 hl (by decide) rfl (fun ls hl => ?_)
              refine z_iinc (lv' := [(6, .int (zI (y + 1))), (5, .int (zI (zB (¬ wanted f y)))), (0, .ref m0), (1, .int (zI (a1))), (2, .int (zI (x))), (3, .int (zI (best2))), (4, .int (zI (lo2)))]) hx hb 6 (y + 1) dX7_bestNext_92 hl rfl (by omega) (by decide) rfl (fun ls hl => ?_)
              refine lv_goto (tgt := 15) hx hb dX7_bestNext_95 (by decide) ?_
              exact ih15 best2 lo2 (zB (¬ wanted f y)) (y + 1) (by omega) (zB_01 _) hlo2 (sto_s h3.1 hnw) hb2 (by omega) _ _ hP hS ls (lv_sub hl [2, 3, 4, 5, 6, 1, 0] rfl)
            refine lv_iload hx hb dX7_bestNext_77 (lv_at hl 6 rfl) ?_
            refine y_rV (v := zB (wanted f y)) (As := [.int (zI (y))]) (rest := []) hx hb hml hown hts hl.1 ⟨Nat.zero_le _, Nat.zero_le _⟩ (kX7_isWanted l D cI cJ cS m0 a ke th hs f y ok (by omega)) (cwV 1 hts gX7_bestNext_X7_isWanted rfl rfl rfl jX7_isWanted ⟨Nat.le_of_ble_eq_true rfl, Nat.le_of_ble_eq_true rfl⟩) hK [true, true] hP (zD hD rfl) rfl 7 0 rfl rfl rfl rfl rfl (Nat.le_of_ble_eq_true rfl) dX7_bestNext_79 ?_
            refine z_if_ne (tgt := 89) hx hb dX7_bestNext_82 (by decide) (by have hz := zB_01 (wanted f y); omega) (fun c82 => ?_) (fun c82 => ?_)
            · have c82 := zB_n0.mp c82
              refine z_iconst hx hb dX7_bestNext_89 ?_
              refine z_top (zB (¬ wanted f y)) (zB_f (P := ¬ wanted f y) (fun q => q c82)).symm ?_
              exact J90  _ _ hP hS ls (lv_sub hl [0, 1, 2, 3, 4, 5, 6] rfl)
            · have c82 := zB_0.mp c82
              refine z_iconst hx hb dX7_bestNext_85 ?_
              refine lv_goto (tgt := 90) hx hb dX7_bestNext_86 (by decide) ?_
              refine z_top (zB (¬ wanted f y)) (zB_t (P := ¬ wanted f y) c82).symm ?_
              exact J90  _ _ hP hS ls (lv_sub hl [0, 1, 2, 3, 4, 5, 6] rfl)
          refine lv_iload_n hx hb dX7_bestNext_32 rfl (lv_at hl 1 rfl) ?_
          refine lv_iload_n hx hb dX7_bestNext_33 rfl (lv_at hl 2 rfl) ?_
          refine lv_iload hx hb dX7_bestNext_34 (lv_at hl 6 rfl) ?_
          refine y_rV (v := zB (cnf f gd a1 x y)) (As := [.int (zI (a1)), .int (zI (x)), .int (zI (y))]) (rest := []) hx hb hml hown hts hl.1 ⟨Nat.zero_le _, Nat.zero_le _⟩ (kX7_canFollow l D cI cJ cS m0 a ke th hs f gd a1 x y ok hgd (by omega) (by omega)) (cwV 3 hts gX7_bestNext_X7_canFollow rfl rfl rfl jX7_canFollow ⟨Nat.le_of_ble_eq_true rfl, Nat.le_of_ble_eq_true rfl⟩) hK [true, true, true] hP (zD hD rfl) rfl 7 0 rfl rfl rfl rfl rfl (Nat.le_of_ble_eq_true rfl) dX7_bestNext_36 ?_
          refine z_if_eq (tgt := 76) hx hb dX7_bestNext_39 (by decide) (by have hz := zB_01 (cnf f gd a1 x y); omega) (fun c39 => ?_) (fun c39 => ?_)
          · have c39 := zB_0.mp c39
            exact J76 best lo hlo (by first | exact bn_s1 hbn c39 | exact bn_s2 hbn (by omega)) _ _ hP hS ls (lv_sub hl [0, 1, 2, 3, 4, 5, 6] rfl)
          · have c39 := zB_n0.mp c39
            refine lv_aload_n hx hb dX7_bestNext_42 rfl (lv_at hl 0 rfl) ?_
            refine va_get (D := D) (ci := 7) (v := .ref (a 8)) (C := RX7) (T := TX7) (N := 12) hx hb hts in7 hown hK hP 0 rfl rfl 10 (by decide) f35 (fun _ h9 => h9) rfl dX7_bestNext_43 ?_
            refine z_bipush hx hb dX7_bestNext_46 (by decide +kernel) ?_
            refine lv_iload_n hx hb dX7_bestNext_48 rfl (lv_at hl 2 rfl) ?_
            refine z_imul hx hb dX7_bestNext_49 ?_
            refine lv_iload hx hb dX7_bestNext_50 (lv_at hl 6 rfl) ?_
            refine z_iadd hx hb dX7_bestNext_52 ?_
            refine z_iald hx hb hK hP 3 0 rfl rfl (by omega) (Nat.lt_of_succ_le (Nat.le_of_ble_eq_true rfl)) dX7_bestNext_53 ?_
            refine lv_iload hx hb dX7_bestNext_54 (lv_at hl 4 rfl) ?_
            refine z_icmp_ge (tgt := 76) hx hb dX7_bestNext_56 (by decide) (by omega) (by omega) (fun c56 => ?_) (fun c56 => ?_)
            · exact J76 best lo hlo (by first | exact bn_s1 hbn c39 | exact bn_s2 hbn (by omega)) _ _ hP hS ls (lv_sub hl [0, 1, 2, 3, 4, 5, 6] rfl)
            · refine lv_iload hx hb dX7_bestNext_59 (lv_at hl 6 rfl) ?_
              refine lv_istore_n (lv' := [(3, .int (zI (y))), (0, .ref m0), (1, .int (zI (a1))), (2, .int (zI (x))), (4, .int (zI (lo))), (5, .int (zI (go))), (6, .int (zI (y)))]) hx hb dX7_bestNext_61 rfl hl (by decide) rfl (fun ls hl => ?_)
              refine lv_aload_n hx hb dX7_bestNext_62 rfl (lv_at hl 1 rfl) ?_
              refine va_get (D := D) (ci := 7) (v := .ref (a 8)) (C := RX7) (T := TX7) (N := 12) hx hb hts in7 hown hK hP 0 rfl rfl 10 (by decide) f35 (fun _ h9 => h9) rfl dX7_bestNext_63 ?_
              refine z_bipush hx hb dX7_bestNext_66 (by decide +kernel) ?_
              refine lv_iload_n hx hb dX7_bestNext_68 rfl (lv_at hl 3 rfl) ?_
              refine z_imul hx hb dX7_bestNext_69 ?_
              refine lv_iload hx hb dX7_bestNext_70 (lv_at hl 6 rfl) ?_
              refine z_iadd hx hb dX7_bestNext_72 ?_
              refine z_iald hx hb hK hP 3 0 rfl rfl (by omega) (Nat.lt_of_succ_le (Nat.le_of_ble_eq_true rfl)) dX7_bestNext_73 ?_
              refine lv_istore (lv' := [(4, .int (zI (g ((121 * x) + y)))), (3, .int (zI (y))), (0, .ref m0), (1, .int (zI (a1))), (2, .int (zI (x))), (5, .int (zI (go))), (6, .int (zI (y)))]) hx hb dX7_bestNext_74 hl (by decide) rfl (fun ls hl => ?_)
              exact J76 y (g ((121 * x) + y)) (by omega) (bn_s3 hbn c39 (by omega) h3.1 hlo.2) _ _ hP hS ls (lv_sub hl [2, 3, 4, 1, 0, 5, 6] rfl)
  exact L15 _ (-1) 1000 1 (x + 1) (by omega) (by omega) (by omega) (Or.inl ⟨rfl, fun z a b => by omega⟩) ⟨fun z a b => by omega, Or.inl ⟨rfl, rfl⟩⟩ (Nat.lt_succ_self _) _ _ hP hS ls (lv_sub hl [4, 5, 6, 3, 2, 1, 0] rfl)

abbrev rmX7_solves : Room := { frames := 4, cells := 0, slots := 0, locals := 94 }
theorem jX7_solves : yX7_solves.cls = RX7 ∧ yX7_solves.cls ≠ "java/lang/invoke/MethodHandle" ∧ yX7_solves.cls ≠ "java/lang/invoke/VarHandle" ∧ (parseMethodDescriptor yX7_solves.desc).map (fun d => d.parameters.length) = some 0 := by decide +kernel
set_option maxHeartbeats 4000000 in
set_option maxRecDepth 100000 in
theorem kX7_solves (l : Launch) (D : va_G) (cI cJ cS : ClassId) (m0 : Nat) (a : Nat → Nat) (ke th hs : Int) (f : Int → Int) (ge gv gd gt g : Int → Int) (ok : OkF f) : Met l yX7_solves wsX7_solves rmX7_solves (zPc D (zT cI cJ cS) [.ref m0] [(m0, .inr (7, [.ref (a 0), .ref (a 1), .int (zI (ke)), .int (zI (th)), .ref (a 2), .ref (a 3), .ref (a 4), .ref (a 5), .ref (a 6), .ref (a 7), .ref (a 8), .long (zL (hs))])), (a 0, .inl (cI, 612, .inl (zA f))), (a 2, .inl (cJ, 121, .inr (.inl (zAL ge)))), (a 3, .inl (cI, 121, .inl (zA gv))), (a 4, .inl (cI, 121, .inl (zA gd))), (a 5, .inl (cI, 121, .inl (zA gt))), (a 8, .inl (cI, 14762, .inl (zA g)))]) (va_Qi (fun r u => r = zI (slv f) ∧ PrOk f (u 0) (u 1) (u 2) (u 3) ∧ (∀ j : Int, 0 ≤ j → j < 14762 → 0 ≤ (u 4) j ∧ (u 4) j ≤ 1000) ∧ (∀ x : Int, 0 ≤ x → x ≤ f 0 → ∀ b : Int, -1 ≤ b → b < x → Row f (brD f) (u 4) x b)) (fun (u : Nat → Int → Int) t => va_P D vwCl [(m0, .inr (7, [.ref (a 0), .ref (a 1), .int (zI (ke)), .int (zI (th)), .ref (a 2), .ref (a 3), .ref (a 4), .ref (a 5), .ref (a 6), .ref (a 7), .ref (a 8), .long (zL (hs))])), (a 0, .inl (cI, 612, .inl (zA f))), (a 2, .inl (cJ, 121, .inr (.inl (zAL (u 0))))), (a 3, .inl (cI, 121, .inl (zA (u 1)))), (a 4, .inl (cI, 121, .inl (zA (u 2)))), (a 5, .inl (cI, 121, .inl (zA (u 3)))), (a 8, .inl (cI, 14762, .inl (zA (u 4))))] t.heap) (zAd [(m0, .inr (7, [.ref (a 0), .ref (a 1), .int (zI (ke)), .int (zI (th)), .ref (a 2), .ref (a 3), .ref (a 4), .ref (a 5), .ref (a 6), .ref (a 7), .ref (a 8), .long (zL (hs))])), (a 0, .inl (cI, 612, .inl (zA f))), (a 2, .inl (cJ, 121, .inr (.inl (zAL ge)))), (a 3, .inl (cI, 121, .inl (zA gv))), (a 4, .inl (cI, 121, .inl (zA gd))), (a 5, .inl (cI, 121, .inl (zA gt))), (a 8, .inl (cI, 14762, .inl (zA g)))])) 0 0 (zAd [(m0, .inr (7, [.ref (a 0), .ref (a 1), .int (zI (ke)), .int (zI (th)), .ref (a 2), .ref (a 3), .ref (a 4), .ref (a 5), .ref (a 6), .ref (a 7), .ref (a 8), .long (zL (hs))])), (a 0, .inl (cI, 612, .inl (zA f))), (a 2, .inl (cJ, 121, .inr (.inl (zAL ge)))), (a 3, .inl (cI, 121, .inl (zA gv))), (a 4, .inl (cI, 121, .inl (zA gd))), (a 5, .inl (cI, 121, .inl (zA gt))), (a 8, .inl (cI, 14762, .inl (zA g)))]) := by
  refine zWi_of (cc := cX7_solves) (maxL := 6) (ret := (some .int)) (by decide) rfl (Nat.le_of_ble_eq_true rfl) rfl ?_
  intro p e s m args below meth c Q A ls hx hb hml hts hown hK hP hD hS hl hret
  have in7 : ∀ w ∈ wsX70, w ∈ wsX7_solves := by decide +kernel
  have f7 := hts (.fieldLink RX7 7 "SignalSpacingModel" "now" "[I") (by decide +kernel)
  have f35 := hts (.fieldLink RX7 35 "SignalSpacingModel" "fewest" "[I") (by decide +kernel)
  have hl : lv_has ls 6 [(0, .ref m0)] := hl
  have hP : va_P D vwCl [(m0, .inr (7, [.ref (a 0), .ref (a 1), .int (zI (ke)), .int (zI (th)), .ref (a 2), .ref (a 3), .ref (a 4), .ref (a 5), .ref (a 6), .ref (a 7), .ref (a 8), .long (zL (hs))])), (a 0, .inl (cI, 612, .inl (zA f))), (a 2, .inl (cJ, 121, .inr (.inl (zAL ge)))), (a 3, .inl (cI, 121, .inl (zA gv))), (a 4, .inl (cI, 121, .inl (zA gd))), (a 5, .inl (cI, 121, .inl (zA gt))), (a 8, .inl (cI, 14762, .inl (zA g)))] s.heap := hP
  obtain ⟨o0, o1, o2, o3, o4, o5, o7, o8, olim, ogrd, obar, oneed, opost⟩ := id ok
  refine lv_aload_n hx hb dX7_solves_0 rfl (lv_at hl 0 rfl) ?_
  refine y_wVv (As := []) (rest := []) (fun (u1 : Nat → Int → Int) => [(m0, .inr (7, [.ref (a 0), .ref (a 1), .int (zI (ke)), .int (zI (th)), .ref (a 2), .ref (a 3), .ref (a 4), .ref (a 5), .ref (a 6), .ref (a 7), .ref (a 8), .long (zL (hs))])), (a 0, .inl (cI, 612, .inl (zA f))), (a 2, .inl (cJ, 121, .inr (.inl (zAL (u1 0))))), (a 3, .inl (cI, 121, .inl (zA (u1 1)))), (a 4, .inl (cI, 121, .inl (zA (u1 2)))), (a 5, .inl (cI, 121, .inl (zA (u1 3)))), (a 8, .inl (cI, 14762, .inl (zA g)))]) hx hb hml hown hts hl.1 ⟨Nat.zero_le _, Nat.zero_le _⟩ (kX7_lays l D cI cJ cS m0 a ke th hs f ge gv gd gt ok) (cwV 0 hts gX7_solves_X7_lays rfl rfl rfl jX7_lays ⟨Nat.le_of_ble_eq_true rfl, Nat.le_of_ble_eq_true rfl⟩) hK [true, true, true, true, true, true] hP hD hS rfl (fun _ => rfl) (fun _ => rfl) 7 0 rfl rfl rfl rfl rfl (Nat.le_of_ble_eq_true rfl) dX7_solves_1 (fun u1 H locs hu1 hP hS => ?_)
  have hgd : ∀ x : Int, 0 ≤ x → x ≤ f 0 → 0 ≤ (u1 2) x ∧ (u1 2) x ≤ 1000 := fun x a b => by rw [(hu1 x a b).2.2.1]; have := brD_b ok a b; omega
  refine lv_aload_n hx hb dX7_solves_4 rfl (lv_at hl 0 rfl) ?_
  refine va_get (D := D) (ci := 7) (v := .ref (a 0)) (C := RX7) (T := TX7) (N := 12) hx hb hts in7 hown hK hP 0 rfl rfl 0 (by decide) f7 (fun _ h9 => h9) rfl dX7_solves_5 ?_
  refine z_iconst hx hb dX7_solves_8 ?_
  refine z_iald hx hb hK hP 1 0 rfl rfl (by omega) (Nat.lt_of_succ_le (Nat.le_of_ble_eq_true rfl)) dX7_solves_9 ?_
  refine lv_istore_n (lv' := [(1, .int (zI (f 0))), (0, .ref m0)]) hx hb dX7_solves_10 rfl hl (by decide) rfl (fun ls hl => ?_)
  refine z_iconst hx hb dX7_solves_11 ?_
  refine lv_istore_n (lv' := [(2, .int (zI (0))), (1, .int (zI (f 0))), (0, .ref m0)]) hx hb dX7_solves_12 rfl hl (by decide) rfl (fun ls hl => ?_)
  have L13 : ∀ (fuel : Nat), ∀ (i : Int) (g : Int → Int), ∀ (hi : 0 ≤ i ∧ i ≤ 14762), ∀ (hg : ∀ j : Int, 0 ≤ j → j < i → g j = 1000), (14762 - i).toNat < fuel → ∀ (H : Heap) (locs : List Loc), va_P D vwCl [(m0, .inr (7, [.ref (a 0), .ref (a 1), .int (zI (ke)), .int (zI (th)), .ref (a 2), .ref (a 3), .ref (a 4), .ref (a 5), .ref (a 6), .ref (a 7), .ref (a 8), .long (zL (hs))])), (a 0, .inl (cI, 612, .inl (zA f))), (a 2, .inl (cJ, 121, .inr (.inl (zAL (u1 0))))), (a 3, .inl (cI, 121, .inl (zA (u1 1)))), (a 4, .inl (cI, 121, .inl (zA (u1 2)))), (a 5, .inl (cI, 121, .inl (zA (u1 3)))), (a 8, .inl (cI, 14762, .inl (zA g)))] H → va_S A s.heap H locs → ∀ (ls : Array Slot), lv_has ls 6 [(0, .ref m0), (1, .int (zI (f 0))), (2, .int (zI (i)))] → W p l e rmX7_solves s m args below meth c H locs 0 0 Q (F0 m 13 ls []) := by
    intro fuel
    induction fuel with
    | zero =>
      intro i g hi hg hm
      exact absurd hm (Nat.not_lt_zero _)
    | succ fuel ih13 =>
      intro i g hi hg hm H locs hP hS ls hl
      refine lv_iload_n hx hb dX7_solves_13 rfl (lv_at hl 2 rfl) ?_
      refine z_sipush hx hb dX7_solves_14 (by decide +kernel) ?_
      refine z_icmp_ge (tgt := 35) hx hb dX7_solves_17 (by decide) (by omega) (by omega) (fun c17 => ?_) (fun c17 => ?_)
      · refine lv_iload_n hx hb dX7_solves_35 rfl (lv_at hl 1 rfl) ?_
        refine lv_istore_n (lv' := [(2, .int (zI (f 0))), (0, .ref m0), (1, .int (zI (f 0)))]) hx hb dX7_solves_36 rfl hl (by decide) rfl (fun ls hl => ?_)
        have L37 : ∀ (fuel : Nat), ∀ (x : Int) (g : Int → Int), ∀ (hxr : -1 ≤ x ∧ x ≤ f 0), ∀ (htg : ∀ j : Int, 0 ≤ j → j < 14762 → 0 ≤ g j ∧ g j ≤ 1000), ∀ (hR : ∀ y : Int, x < y → y ≤ f 0 → ∀ b : Int, -1 ≤ b → b < y → Row f (u1 2) g y b), (x + 1).toNat < fuel → ∀ (H : Heap) (locs : List Loc), va_P D vwCl [(m0, .inr (7, [.ref (a 0), .ref (a 1), .int (zI (ke)), .int (zI (th)), .ref (a 2), .ref (a 3), .ref (a 4), .ref (a 5), .ref (a 6), .ref (a 7), .ref (a 8), .long (zL (hs))])), (a 0, .inl (cI, 612, .inl (zA f))), (a 2, .inl (cJ, 121, .inr (.inl (zAL (u1 0))))), (a 3, .inl (cI, 121, .inl (zA (u1 1)))), (a 4, .inl (cI, 121, .inl (zA (u1 2)))), (a 5, .inl (cI, 121, .inl (zA (u1 3)))), (a 8, .inl (cI, 14762, .inl (zA g)))] H → va_S A s.heap H locs → ∀ (ls : Array Slot), lv_has ls 6 [(0, .ref m0), (1, .int (zI (f 0))), (2, .int (zI (x)))] → W p l e rmX7_solves s m args below meth c H locs 0 0 Q (F0 m 37 ls []) := by
          intro fuel
          induction fuel with
          | zero =>
            intro x g hxr htg hR hm
            exact absurd hm (Nat.not_lt_zero _)
          | succ fuel ih37 =>
            intro x g hxr htg hR hm H locs hP hS ls hl
            refine lv_iload_n hx hb dX7_solves_37 rfl (lv_at hl 2 rfl) ?_
            refine z_if_lt (tgt := 138) hx hb dX7_solves_38 (by decide) (by omega) (fun c38 => ?_) (fun c38 => ?_)
            · have hx9 : x = -1 := by omega
              have hR9 : ∀ y : Int, 0 ≤ y → y ≤ f 0 → ∀ b : Int, -1 ≤ b → b < y → Row f (u1 2) g y b := fun y a b => hR y (by omega) b
              have hR8 := rows_gd ok (fun y a b => (hu1 y a b).2.2.1) hR9
              have ht9 := htg 14641 (by omega) (by omega)
              refine lv_aload_n hx hb dX7_solves_138 rfl (lv_at hl 0 rfl) ?_
              refine z_iconst hx hb dX7_solves_139 ?_
              refine y_rV (v := zB (alw f (u1 2) 0)) (As := [.int (zI (0))]) (rest := []) hx hb hml hown hts hl.1 ⟨Nat.zero_le _, Nat.zero_le _⟩ (kX7_isAllowed l D cI cJ cS m0 a ke th hs f (u1 2) 0 ok hgd (by omega)) (cwV 1 hts gX7_solves_X7_isAllowed rfl rfl rfl jX7_isAllowed ⟨Nat.le_of_ble_eq_true rfl, Nat.le_of_ble_eq_true rfl⟩) hK [true, true, false, false, true] hP (zD hD rfl) rfl 7 0 rfl rfl rfl rfl rfl (Nat.le_of_ble_eq_true rfl) dX7_solves_140 ?_
              refine z_if_eq (tgt := 157) hx hb dX7_solves_143 (by decide) (by have hz := zB_01 (alw f (u1 2) 0); omega) (fun c143 => ?_) (fun c143 => ?_)
              · have c143 := zB_0.mp c143
                refine z_sipush hx hb dX7_solves_157 (by decide +kernel) ?_
                exact hret (fun j => if j = 0 then (u1 0) else if j = 1 then (u1 1) else if j = 2 then (u1 2) else if j = 3 then (u1 3) else g) ⟨by rw [slv_no ok c143], hu1, htg, hR8⟩ hP hS dX7_solves_160
              · have c143 := zB_n0.mp c143
                refine lv_aload_n hx hb dX7_solves_146 rfl (lv_at hl 0 rfl) ?_
                refine va_get (D := D) (ci := 7) (v := .ref (a 8)) (C := RX7) (T := TX7) (N := 12) hx hb hts in7 hown hK hP 0 rfl rfl 10 (by decide) f35 (fun _ h9 => h9) rfl dX7_solves_147 ?_
                refine z_sipush hx hb dX7_solves_150 (by decide +kernel) ?_
                refine z_iald hx hb hK hP 6 0 rfl rfl (by omega) (Nat.lt_of_succ_le (Nat.le_of_ble_eq_true rfl)) dX7_solves_153 ?_
                refine lv_goto (tgt := 160) hx hb dX7_solves_154 (by decide) ?_
                exact hret (fun j => if j = 0 then (u1 0) else if j = 1 then (u1 1) else if j = 2 then (u1 2) else if j = 3 then (u1 3) else g) ⟨by rw [slv_yes ok hR8 c143], hu1, htg, hR8⟩ hP hS dX7_solves_160
            · refine z_iconst hx hb dX7_solves_41 ?_
              refine lv_istore_n (lv' := [(3, .int (zI (0))), (0, .ref m0), (1, .int (zI (f 0))), (2, .int (zI (x)))]) hx hb dX7_solves_42 rfl hl (by decide) rfl (fun ls hl => ?_)
              have L43 : ∀ (fuel : Nat), ∀ (k : Int) (g : Int → Int), ∀ (hk : 0 ≤ k ∧ k ≤ x + 1), ∀ (htg : ∀ j : Int, 0 ≤ j → j < 14762 → 0 ≤ g j ∧ g j ≤ 1000), ∀ (hR : ∀ y : Int, x < y → y ≤ f 0 → ∀ b : Int, -1 ≤ b → b < y → Row f (u1 2) g y b), ∀ (hI1 : ∀ b : Int, 0 ≤ b → b < x → b < k → Row f (u1 2) g x b), ∀ (hI2 : k = x + 1 → Row f (u1 2) g x (-1)), (x + 1 - k).toNat < fuel → ∀ (H : Heap) (locs : List Loc), va_P D vwCl [(m0, .inr (7, [.ref (a 0), .ref (a 1), .int (zI (ke)), .int (zI (th)), .ref (a 2), .ref (a 3), .ref (a 4), .ref (a 5), .ref (a 6), .ref (a 7), .ref (a 8), .long (zL (hs))])), (a 0, .inl (cI, 612, .inl (zA f))), (a 2, .inl (cJ, 121, .inr (.inl (zAL (u1 0))))), (a 3, .inl (cI, 121, .inl (zA (u1 1)))), (a 4, .inl (cI, 121, .inl (zA (u1 2)))), (a 5, .inl (cI, 121, .inl (zA (u1 3)))), (a 8, .inl (cI, 14762, .inl (zA g)))] H → va_S A s.heap H locs → ∀ (ls : Array Slot), lv_has ls 6 [(0, .ref m0), (1, .int (zI (f 0))), (2, .int (zI (x))), (3, .int (zI (k)))] → W p l e rmX7_solves s m args below meth c H locs 0 0 Q (F0 m 43 ls []) := by
                intro fuel
                induction fuel with
                | zero =>
                  intro k g hk htg hR hI1 hI2 hm
                  exact absurd hm (Nat.not_lt_zero _)
                | succ fuel ih43 =>
                  intro k g hk htg hR hI1 hI2 hm H locs hP hS ls hl
                  refine lv_iload_n hx hb dX7_solves_43 rfl (lv_at hl 3 rfl) ?_
                  refine lv_iload_n hx hb dX7_solves_44 rfl (lv_at hl 2 rfl) ?_
                  refine z_icmp_gt (tgt := 132) hx hb dX7_solves_45 (by decide) (by omega) (by omega) (fun c45 => ?_) (fun c45 => ?_)
                  · refine z_iinc (lv' := [(2, .int (zI (x - 1))), (0, .ref m0), (1, .int (zI (f 0))), (3, .int (zI (k)))]) hx hb 2 (x - 1) dX7_solves_132 hl rfl (by omega) (by decide) rfl (fun ls hl => ?_)
                    refine lv_goto (tgt := 37) hx hb dX7_solves_135 (by decide) ?_
                    exact ih37 (x - 1) g (by omega) htg (fun y a b b2 b3 b4 => if hy : y = x then (by rw [hy] at b4 ⊢; exact if hb2 : b2 = -1 then (by rw [hb2]; exact hI2 (by omega)) else hI1 b2 (by omega) b4 (by omega)) else hR y (by omega) b b2 b3 b4) (by omega) _ _ hP hS ls (lv_sub hl [1, 2, 0] rfl)
                  · have J59 : ∀ (ah : Int), ∀ (hah : ah = if k < x then k else 121), ∀ (hab : 0 ≤ ah ∧ (ah < x ∨ ah = 121)), ∀ (H : Heap) (locs : List Loc), va_P D vwCl [(m0, .inr (7, [.ref (a 0), .ref (a 1), .int (zI (ke)), .int (zI (th)), .ref (a 2), .ref (a 3), .ref (a 4), .ref (a 5), .ref (a 6), .ref (a 7), .ref (a 8), .long (zL (hs))])), (a 0, .inl (cI, 612, .inl (zA f))), (a 2, .inl (cJ, 121, .inr (.inl (zAL (u1 0))))), (a 3, .inl (cI, 121, .inl (zA (u1 1)))), (a 4, .inl (cI, 121, .inl (zA (u1 2)))), (a 5, .inl (cI, 121, .inl (zA (u1 3)))), (a 8, .inl (cI, 14762, .inl (zA g)))] H → va_S A s.heap H locs → ∀ (ls : Array Slot), lv_has ls 6 [(0, .ref m0), (1, .int (zI (f 0))), (2, .int (zI (x))), (3, .int (zI (k)))] → W p l e rmX7_solves s m args below meth c H locs 0 0 Q (F0 m 59 ls [.int (zI (ah))]) := by
                      intro ah hah hab H locs hP hS ls hl
                      refine lv_istore (lv' := [(4, .int (zI (ah))), (0, .ref m0), (1, .int (zI (f 0))), (2, .int (zI (x))), (3, .int (zI (k)))]) hx hb dX7_solves_59 hl (by decide) rfl (fun ls hl => ?_)
                      have J77 : ∀ (y : Int), ∀ (hyb : -1 ≤ y ∧ y ≤ f 0), ∀ (hy : x < f 0 → IsBn f (u1 2) g ah x y), ∀ (H : Heap) (locs : List Loc), va_P D vwCl [(m0, .inr (7, [.ref (a 0), .ref (a 1), .int (zI (ke)), .int (zI (th)), .ref (a 2), .ref (a 3), .ref (a 4), .ref (a 5), .ref (a 6), .ref (a 7), .ref (a 8), .long (zL (hs))])), (a 0, .inl (cI, 612, .inl (zA f))), (a 2, .inl (cJ, 121, .inr (.inl (zAL (u1 0))))), (a 3, .inl (cI, 121, .inl (zA (u1 1)))), (a 4, .inl (cI, 121, .inl (zA (u1 2)))), (a 5, .inl (cI, 121, .inl (zA (u1 3)))), (a 8, .inl (cI, 14762, .inl (zA g)))] H → va_S A s.heap H locs → ∀ (ls : Array Slot), lv_has ls 6 [(4, .int (zI (ah))), (0, .ref m0), (1, .int (zI (f 0))), (2, .int (zI (x))), (3, .int (zI (k)))] → W p l e rmX7_solves s m args below meth c H locs 0 0 Q (F0 m 77 ls [.int (zI (y))]) := by
                        intro y hyb hy H locs hP hS ls hl
                        refine lv_istore (lv' := [(5, .int (zI (y))), (4, .int (zI (ah))), (0, .ref m0), (1, .int (zI (f 0))), (2, .int (zI (x))), (3, .int (zI (k)))]) hx hb dX7_solves_77 hl (by decide) rfl (fun ls hl => ?_)
                        have J125 : ∀ (v : Int), ∀ (hvb : 0 ≤ v ∧ v ≤ 1000), ∀ (hv : (x = f 0 ∧ v = 0) ∨ (x < f 0 ∧ BestU f (u1 2) (TU f g) (bof ah) x v)), ∀ (H : Heap) (locs : List Loc), va_P D vwCl [(m0, .inr (7, [.ref (a 0), .ref (a 1), .int (zI (ke)), .int (zI (th)), .ref (a 2), .ref (a 3), .ref (a 4), .ref (a 5), .ref (a 6), .ref (a 7), .ref (a 8), .long (zL (hs))])), (a 0, .inl (cI, 612, .inl (zA f))), (a 2, .inl (cJ, 121, .inr (.inl (zAL (u1 0))))), (a 3, .inl (cI, 121, .inl (zA (u1 1)))), (a 4, .inl (cI, 121, .inl (zA (u1 2)))), (a 5, .inl (cI, 121, .inl (zA (u1 3)))), (a 8, .inl (cI, 14762, .inl (zA g)))] H → va_S A s.heap H locs → ∀ (ls : Array Slot), lv_has ls 6 [(5, .int (zI (y))), (4, .int (zI (ah))), (0, .ref m0), (1, .int (zI (f 0))), (2, .int (zI (x))), (3, .int (zI (k)))] → W p l e rmX7_solves s m args below meth c H locs 0 0 Q (F0 m 125 ls [.int (zI (v)), .int (zI (121 * ah + x)), .ref (a 8)]) := by
                          intro v hvb hv H locs hP hS ls hl
                          refine z_iast hx hb hK hP (zD hD rfl) hS 6 0 [(m0, .inr (7, [.ref (a 0), .ref (a 1), .int (zI (ke)), .int (zI (th)), .ref (a 2), .ref (a 3), .ref (a 4), .ref (a 5), .ref (a 6), .ref (a 7), .ref (a 8), .long (zL (hs))])), (a 0, .inl (cI, 612, .inl (zA f))), (a 2, .inl (cJ, 121, .inr (.inl (zAL (u1 0))))), (a 3, .inl (cI, 121, .inl (zA (u1 1)))), (a 4, .inl (cI, 121, .inl (zA (u1 2)))), (a 5, .inl (cI, 121, .inl (zA (u1 3)))), (a 8, .inl (cI, 14762, .inl (zA (zup g (121 * ah + x) v))))] rfl rfl (by omega) (Nat.lt_of_succ_le (Nat.le_of_ble_eq_true rfl)) rfl dX7_solves_125 (fun H locs hP hS => ?_)
                          refine z_iinc (lv' := [(3, .int (zI (k + 1))), (5, .int (zI (y))), (4, .int (zI (ah))), (0, .ref m0), (1, .int (zI (f 0))), (2, .int (zI (x)))]) hx hb 5 (k + 1) dX7_solves_126 hl rfl (by omega) (by decide) rfl (fun ls hl => ?_)
                          refine lv_goto (tgt := 43) hx hb dX7_solves_129 (by decide) ?_
                          exact ih43 (k + 1) (zup g (121 * ah + x) v) (by omega) (tg_up htg (by omega)) (fun y a b b2 b3 b4 => row_up ok (by omega) (by omega) b (fun q => absurd q (by omega)) (hR y a b b2 b3 b4)) (fun b c d q => if hbk : b = k then row_st ok (by omega) (by omega) (by omega) (by rw [hbk] at d ⊢; rw [hah, if_pos d, bof_p (by omega)]) hv else row_up ok (by omega) (by omega) (by omega) (fun _ => by rw [enc_p c, hah]; split <;> omega) (hI1 b c d (by omega))) (fun q => row_st ok (by omega) (by omega) (by omega) (by rw [hah, if_neg (by omega)]; exact (if_pos rfl).symm) hv) (by omega) _ _ hP hS ls (lv_sub hl [3, 4, 5, 0] rfl)
                        refine lv_aload_n hx hb dX7_solves_79 rfl (lv_at hl 2 rfl) ?_
                        refine va_get (D := D) (ci := 7) (v := .ref (a 8)) (C := RX7) (T := TX7) (N := 12) hx hb hts in7 hown hK hP 0 rfl rfl 10 (by decide) f35 (fun _ h9 => h9) rfl dX7_solves_80 ?_
                        refine z_bipush hx hb dX7_solves_83 (by decide +kernel) ?_
                        refine lv_iload hx hb dX7_solves_85 (lv_at hl 1 rfl) ?_
                        refine z_imul hx hb dX7_solves_87 ?_
                        refine lv_iload_n hx hb dX7_solves_88 rfl (lv_at hl 4 rfl) ?_
                        refine z_iadd hx hb dX7_solves_89 ?_
                        refine lv_iload_n hx hb dX7_solves_90 rfl (lv_at hl 4 rfl) ?_
                        refine lv_iload_n hx hb dX7_solves_91 rfl (lv_at hl 3 rfl) ?_
                        refine z_icmp_ne (tgt := 99) hx hb dX7_solves_92 (by decide) (by omega) (by omega) (fun c92 => ?_) (fun c92 => ?_)
                        · refine lv_iload hx hb dX7_solves_99 (lv_at hl 0 rfl) ?_
                          refine z_iconst hx hb dX7_solves_101 ?_
                          refine z_icmp_ne (tgt := 111) hx hb dX7_solves_102 (by decide) (by omega) (by omega) (fun c102 => ?_) (fun c102 => ?_)
                          · refine z_iconst hx hb dX7_solves_111 ?_
                            refine lv_aload_n hx hb dX7_solves_112 rfl (lv_at hl 2 rfl) ?_
                            refine va_get (D := D) (ci := 7) (v := .ref (a 8)) (C := RX7) (T := TX7) (N := 12) hx hb hts in7 hown hK hP 0 rfl rfl 10 (by decide) f35 (fun _ h9 => h9) rfl dX7_solves_113 ?_
                            refine z_bipush hx hb dX7_solves_116 (by decide +kernel) ?_
                            refine lv_iload_n hx hb dX7_solves_118 rfl (lv_at hl 4 rfl) ?_
                            refine z_imul hx hb dX7_solves_119 ?_
                            refine lv_iload hx hb dX7_solves_120 (lv_at hl 0 rfl) ?_
                            refine z_iadd hx hb dX7_solves_122 ?_
                            refine z_iald hx hb hK hP 6 0 rfl rfl (by omega) (Nat.lt_of_succ_le (Nat.le_of_ble_eq_true rfl)) dX7_solves_123 ?_
                            refine z_iadd hx hb dX7_solves_124 ?_
                            exact J125 (1 + (g ((121 * x) + y))) (by have h9 := row_b ok (by omega) (by omega) htg hR (by omega) (hy (by omega)); omega) (Or.inr ⟨by omega, row_some ok (by omega) (by omega) htg hR (by omega) (hy (by omega))⟩) _ _ hP hS ls (lv_sub hl [0, 1, 2, 3, 4, 5] rfl)
                          · refine z_sipush hx hb dX7_solves_105 (by decide +kernel) ?_
                            refine lv_goto (tgt := 125) hx hb dX7_solves_108 (by decide) ?_
                            exact J125 1000 (by omega) (Or.inr ⟨by omega, row_none ok (by omega) (by omega) htg hR (by have h9 := hy (by omega); rw [show y = -1 by omega] at h9; exact h9)⟩) _ _ hP hS ls (lv_sub hl [0, 1, 2, 3, 4, 5] rfl)
                        · refine z_iconst hx hb dX7_solves_95 ?_
                          refine lv_goto (tgt := 125) hx hb dX7_solves_96 (by decide) ?_
                          exact J125 0 (by omega) (Or.inl ⟨by omega, rfl⟩) _ _ hP hS ls (lv_sub hl [0, 1, 2, 3, 4, 5] rfl)
                      refine lv_iload_n hx hb dX7_solves_61 rfl (lv_at hl 3 rfl) ?_
                      refine lv_iload_n hx hb dX7_solves_62 rfl (lv_at hl 2 rfl) ?_
                      refine z_icmp_ne (tgt := 70) hx hb dX7_solves_63 (by decide) (by omega) (by omega) (fun c63 => ?_) (fun c63 => ?_)
                      · refine lv_aload_n hx hb dX7_solves_70 rfl (lv_at hl 1 rfl) ?_
                        refine lv_iload hx hb dX7_solves_71 (lv_at hl 0 rfl) ?_
                        refine lv_iload_n hx hb dX7_solves_73 rfl (lv_at hl 3 rfl) ?_
                        refine y_wVi (As := [.int (zI (ah)), .int (zI (x))]) (rest := []) (fun (u74 : Int) => [(m0, .inr (7, [.ref (a 0), .ref (a 1), .int (zI (ke)), .int (zI (th)), .ref (a 2), .ref (a 3), .ref (a 4), .ref (a 5), .ref (a 6), .ref (a 7), .ref (a 8), .long (zL (hs))])), (a 0, .inl (cI, 612, .inl (zA f))), (a 2, .inl (cJ, 121, .inr (.inl (zAL (u1 0))))), (a 3, .inl (cI, 121, .inl (zA (u1 1)))), (a 4, .inl (cI, 121, .inl (zA (u1 2)))), (a 5, .inl (cI, 121, .inl (zA (u1 3)))), (a 8, .inl (cI, 14762, .inl (zA g)))]) hx hb hml hown hts hl.1 ⟨Nat.zero_le _, Nat.zero_le _⟩ (kX7_bestNext l D cI cJ cS m0 a ke th hs f (u1 2) g ah x ok hgd htg (by omega) (by omega)) (cwV 2 hts gX7_solves_X7_bestNext rfl rfl rfl jX7_bestNext ⟨Nat.le_of_ble_eq_true rfl, Nat.le_of_ble_eq_true rfl⟩) hK [true, true, false, false, true, false, true] hP (zD hD rfl) hS rfl (fun _ => rfl) (fun _ => rfl) 7 0 rfl rfl rfl rfl rfl (Nat.le_of_ble_eq_true rfl) dX7_solves_74 (fun r74 u74 H locs hu74 hP hS => ?_)
                        obtain ⟨rfl, hu74⟩ := hu74
                        exact J77 u74 (by have := bn_b ok (by omega) (by omega) hu74; omega) (fun _ => hu74) _ _ hP hS ls (lv_sub hl [0, 1, 2, 3, 4] rfl)
                      · refine z_iconst hx hb dX7_solves_66 ?_
                        refine lv_goto (tgt := 77) hx hb dX7_solves_67 (by decide) ?_
                        exact J77 (-1) (by omega) (fun q => by omega) _ _ hP hS ls (lv_sub hl [0, 1, 2, 3, 4] rfl)
                    refine lv_iload_n hx hb dX7_solves_48 rfl (lv_at hl 3 rfl) ?_
                    refine lv_iload_n hx hb dX7_solves_49 rfl (lv_at hl 2 rfl) ?_
                    refine z_icmp_ge (tgt := 57) hx hb dX7_solves_50 (by decide) (by omega) (by omega) (fun c50 => ?_) (fun c50 => ?_)
                    · refine z_bipush hx hb dX7_solves_57 (by decide +kernel) ?_
                      exact J59 121 (by first | rw [if_pos (by omega)] | rw [if_neg (by omega)]) (by omega) _ _ hP hS ls (lv_sub hl [0, 1, 2, 3] rfl)
                    · refine lv_iload_n hx hb dX7_solves_53 rfl (lv_at hl 3 rfl) ?_
                      refine lv_goto (tgt := 59) hx hb dX7_solves_54 (by decide) ?_
                      exact J59 k (by first | rw [if_pos (by omega)] | rw [if_neg (by omega)]) (by omega) _ _ hP hS ls (lv_sub hl [0, 1, 2, 3] rfl)
              exact L43 _ 0 g (by omega) htg hR (fun b c d => by omega) (fun q => by omega) (Nat.lt_succ_self _) _ _ hP hS ls (lv_sub hl [1, 2, 3, 0] rfl)
        exact L37 _ (f 0) g (by omega) (fun j a b => by rw [hg j a (by omega)]; omega) (fun y a b => by omega) (Nat.lt_succ_self _) _ _ hP hS ls (lv_sub hl [1, 2, 0] rfl)
      · refine lv_aload_n hx hb dX7_solves_20 rfl (lv_at hl 0 rfl) ?_
        refine va_get (D := D) (ci := 7) (v := .ref (a 8)) (C := RX7) (T := TX7) (N := 12) hx hb hts in7 hown hK hP 0 rfl rfl 10 (by decide) f35 (fun _ h9 => h9) rfl dX7_solves_21 ?_
        refine lv_iload_n hx hb dX7_solves_24 rfl (lv_at hl 2 rfl) ?_
        refine z_sipush hx hb dX7_solves_25 (by decide +kernel) ?_
        refine z_iast hx hb hK hP (zD hD rfl) hS 6 0 [(m0, .inr (7, [.ref (a 0), .ref (a 1), .int (zI (ke)), .int (zI (th)), .ref (a 2), .ref (a 3), .ref (a 4), .ref (a 5), .ref (a 6), .ref (a 7), .ref (a 8), .long (zL (hs))])), (a 0, .inl (cI, 612, .inl (zA f))), (a 2, .inl (cJ, 121, .inr (.inl (zAL (u1 0))))), (a 3, .inl (cI, 121, .inl (zA (u1 1)))), (a 4, .inl (cI, 121, .inl (zA (u1 2)))), (a 5, .inl (cI, 121, .inl (zA (u1 3)))), (a 8, .inl (cI, 14762, .inl (zA (zup g i 1000))))] rfl rfl (by omega) (Nat.lt_of_succ_le (Nat.le_of_ble_eq_true rfl)) rfl dX7_solves_28 (fun H locs hP hS => ?_)
        refine z_iinc (lv' := [(2, .int (zI (i + 1))), (0, .ref m0), (1, .int (zI (f 0)))]) hx hb 2 (i + 1) dX7_solves_29 hl rfl (by omega) (by decide) rfl (fun ls hl => ?_)
        refine lv_goto (tgt := 13) hx hb dX7_solves_32 (by decide) ?_
        exact ih13 (i + 1) (zup g i 1000) (by omega) (zx_up (h := fun _ => 1000) hg rfl) (by omega) _ _ hP hS ls (lv_sub hl [1, 2, 0] rfl)
  exact L13 _ 0 g (by omega) (fun j a b => by omega) (Nat.lt_succ_self _) _ _ hP hS ls (lv_sub hl [2, 1, 0] rfl)

abbrev rmX7_fewestPosts : Room := { frames := 5, cells := 0, slots := 0, locals := 119 }
theorem jX7_fewestPosts : yX7_fewestPosts.cls = RX7 ∧ yX7_fewestPosts.cls ≠ "java/lang/invoke/MethodHandle" ∧ yX7_fewestPosts.cls ≠ "java/lang/invoke/VarHandle" ∧ (parseMethodDescriptor yX7_fewestPosts.desc).map (fun d => d.parameters.length) = some 0 := by decide +kernel
set_option maxHeartbeats 4000000 in
set_option maxRecDepth 100000 in
theorem kX7_fewestPosts (l : Launch) (D : va_G) (cI cJ cS : ClassId) (m0 : Nat) (a : Nat → Nat) (ke th hs : Int) (f : Int → Int) (ge gv gd gt g : Int → Int) (ok : OkF f) : Met l yX7_fewestPosts wsX7_fewestPosts rmX7_fewestPosts (zPc D (zT cI cJ cS) [.ref m0] [(m0, .inr (7, [.ref (a 0), .ref (a 1), .int (zI (ke)), .int (zI (th)), .ref (a 2), .ref (a 3), .ref (a 4), .ref (a 5), .ref (a 6), .ref (a 7), .ref (a 8), .long (zL (hs))])), (a 0, .inl (cI, 612, .inl (zA f))), (a 2, .inl (cJ, 121, .inr (.inl (zAL ge)))), (a 3, .inl (cI, 121, .inl (zA gv))), (a 4, .inl (cI, 121, .inl (zA gd))), (a 5, .inl (cI, 121, .inl (zA gt))), (a 8, .inl (cI, 14762, .inl (zA g)))]) (va_Qi (fun r _ => r = zI (pln f (brD f))) (fun (u : Nat → Int → Int) t => va_P D vwCl [(m0, .inr (7, [.ref (a 0), .ref (a 1), .int (zI (ke)), .int (zI (0)), .ref (a 2), .ref (a 3), .ref (a 4), .ref (a 5), .ref (a 6), .ref (a 7), .ref (a 8), .long (zL (hs))])), (a 0, .inl (cI, 612, .inl (zA f))), (a 2, .inl (cJ, 121, .inr (.inl (zAL (u 0))))), (a 3, .inl (cI, 121, .inl (zA (u 1)))), (a 4, .inl (cI, 121, .inl (zA (u 2)))), (a 5, .inl (cI, 121, .inl (zA (u 3)))), (a 8, .inl (cI, 14762, .inl (zA (u 4))))] t.heap) (zAd [(m0, .inr (7, [.ref (a 0), .ref (a 1), .int (zI (ke)), .int (zI (th)), .ref (a 2), .ref (a 3), .ref (a 4), .ref (a 5), .ref (a 6), .ref (a 7), .ref (a 8), .long (zL (hs))])), (a 0, .inl (cI, 612, .inl (zA f))), (a 2, .inl (cJ, 121, .inr (.inl (zAL ge)))), (a 3, .inl (cI, 121, .inl (zA gv))), (a 4, .inl (cI, 121, .inl (zA gd))), (a 5, .inl (cI, 121, .inl (zA gt))), (a 8, .inl (cI, 14762, .inl (zA g)))])) 0 0 (zAd [(m0, .inr (7, [.ref (a 0), .ref (a 1), .int (zI (ke)), .int (zI (th)), .ref (a 2), .ref (a 3), .ref (a 4), .ref (a 5), .ref (a 6), .ref (a 7), .ref (a 8), .long (zL (hs))])), (a 0, .inl (cI, 612, .inl (zA f))), (a 2, .inl (cJ, 121, .inr (.inl (zAL ge)))), (a 3, .inl (cI, 121, .inl (zA gv))), (a 4, .inl (cI, 121, .inl (zA gd))), (a 5, .inl (cI, 121, .inl (zA gt))), (a 8, .inl (cI, 14762, .inl (zA g)))]) := by
  refine zWi_of (cc := cX7_fewestPosts) (maxL := 2) (ret := (some .int)) (by decide) rfl (Nat.le_of_ble_eq_true rfl) rfl ?_
  intro p e s m args below meth c Q A ls hx hb hml hts hown hK hP hD hS hl hret
  have in7 : ∀ w ∈ wsX70, w ∈ wsX7_fewestPosts := by decide +kernel
  have f41 := hts (.fieldLink RX7 41 "SignalSpacingModel" "thrown" "I") (by decide +kernel)
  have hl : lv_has ls 2 [(0, .ref m0)] := hl
  have hP : va_P D vwCl [(m0, .inr (7, [.ref (a 0), .ref (a 1), .int (zI (ke)), .int (zI (th)), .ref (a 2), .ref (a 3), .ref (a 4), .ref (a 5), .ref (a 6), .ref (a 7), .ref (a 8), .long (zL (hs))])), (a 0, .inl (cI, 612, .inl (zA f))), (a 2, .inl (cJ, 121, .inr (.inl (zAL ge)))), (a 3, .inl (cI, 121, .inl (zA gv))), (a 4, .inl (cI, 121, .inl (zA gd))), (a 5, .inl (cI, 121, .inl (zA gt))), (a 8, .inl (cI, 14762, .inl (zA g)))] s.heap := hP
  obtain ⟨o0, o1, o2, o3, o4, o5, o7, o8, olim, ogrd, obar, oneed, opost⟩ := id ok
  refine lv_aload_n hx hb dX7_fewestPosts_0 rfl (lv_at hl 0 rfl) ?_
  refine z_iconst hx hb dX7_fewestPosts_1 ?_
  refine z_put (ci := 7) (v := .int (zI (0))) (ty := .int) (C := RX7) (F := TX7) (N := 12) hx hb hts in7 tyX7 tyX7_ok nmX7 hown hK hP hD hS 0 [(m0, .inr (7, [.ref (a 0), .ref (a 1), .int (zI (ke)), .int (zI (0)), .ref (a 2), .ref (a 3), .ref (a 4), .ref (a 5), .ref (a 6), .ref (a 7), .ref (a 8), .long (zL (hs))])), (a 0, .inl (cI, 612, .inl (zA f))), (a 2, .inl (cJ, 121, .inr (.inl (zAL ge)))), (a 3, .inl (cI, 121, .inl (zA gv))), (a 4, .inl (cI, 121, .inl (zA gd))), (a 5, .inl (cI, 121, .inl (zA gt))), (a 8, .inl (cI, 14762, .inl (zA g)))] rfl rfl 3 (by decide) f41 (fun _ h9 => h9) rfl (by decide +kernel) rfl rfl (Nat.le_of_ble_eq_true rfl) dX7_fewestPosts_2 rfl (fun H locs hP hS => ?_)
  refine lv_aload_n hx hb dX7_fewestPosts_5 rfl (lv_at hl 0 rfl) ?_
  refine y_wVi (As := []) (rest := []) (fun (u6 : Nat → Int → Int) => [(m0, .inr (7, [.ref (a 0), .ref (a 1), .int (zI (ke)), .int (zI (0)), .ref (a 2), .ref (a 3), .ref (a 4), .ref (a 5), .ref (a 6), .ref (a 7), .ref (a 8), .long (zL (hs))])), (a 0, .inl (cI, 612, .inl (zA f))), (a 2, .inl (cJ, 121, .inr (.inl (zAL (u6 0))))), (a 3, .inl (cI, 121, .inl (zA (u6 1)))), (a 4, .inl (cI, 121, .inl (zA (u6 2)))), (a 5, .inl (cI, 121, .inl (zA (u6 3)))), (a 8, .inl (cI, 14762, .inl (zA (u6 4))))]) hx hb hml hown hts hl.1 ⟨Nat.zero_le _, Nat.zero_le _⟩ (kX7_solves l D cI cJ cS m0 a ke 0 hs f ge gv gd gt g ok) (cwV 0 hts gX7_fewestPosts_X7_solves rfl rfl rfl jX7_solves ⟨Nat.le_of_ble_eq_true rfl, Nat.le_of_ble_eq_true rfl⟩) hK [true, true, true, true, true, true, true] hP (zD hD rfl) hS rfl (fun _ => rfl) (fun _ => rfl) 7 0 rfl rfl rfl rfl rfl (Nat.le_of_ble_eq_true rfl) dX7_fewestPosts_6 (fun r6 u6 H locs hu6 hP hS => ?_)
  obtain ⟨rfl, hu6⟩ := hu6
  have hsb := slv_b ok hu6.2.2
  refine lv_istore_n (lv' := [(1, .int (zI (slv f))), (0, .ref m0)]) hx hb dX7_fewestPosts_9 rfl hl (by decide) rfl (fun ls hl => ?_)
  refine lv_iload_n hx hb dX7_fewestPosts_10 rfl (lv_at hl 0 rfl) ?_
  refine z_sipush hx hb dX7_fewestPosts_11 (by decide +kernel) ?_
  refine z_icmp_ge (tgt := 23) hx hb dX7_fewestPosts_14 (by decide) (by omega) (by omega) (fun c14 => ?_) (fun c14 => ?_)
  · refine z_iconst hx hb dX7_fewestPosts_23 ?_
    exact hret u6 (by rw [slv_pln.1 (by omega)]) hP hS dX7_fewestPosts_24
  · refine lv_iload_n hx hb dX7_fewestPosts_17 rfl (lv_at hl 0 rfl) ?_
    refine z_iconst hx hb dX7_fewestPosts_18 ?_
    refine z_iadd hx hb dX7_fewestPosts_19 ?_
    refine lv_goto (tgt := 24) hx hb dX7_fewestPosts_20 (by decide) ?_
    exact hret u6 (by rw [slv_pln.2 (by omega)]) hP hS dX7_fewestPosts_24

abbrev rmX7_design : Room := { frames := 5, cells := 0, slots := 0, locals := 119 }
theorem jX7_design : yX7_design.cls = RX7 ∧ yX7_design.cls ≠ "java/lang/invoke/MethodHandle" ∧ yX7_design.cls ≠ "java/lang/invoke/VarHandle" ∧ (parseMethodDescriptor yX7_design.desc).map (fun d => d.parameters.length) = some 0 := by decide +kernel
set_option maxHeartbeats 4000000 in
set_option maxRecDepth 100000 in
theorem kX7_design_no (l : Launch) (D : va_G) (cI cJ cS : ClassId) (m0 : Nat) (a : Nat → Nat) (ke th hs : Int) (f : Int → Int) (gp ge gv gd gt g : Int → Int) (ok : OkF f) (hke : 0 ≤ ke ∧ ke ≤ 4) (hN : slv f = 1000) : Met l yX7_design wsX7_design rmX7_design (zPc D (zT cI cJ cS) [.ref m0] [(m0, .inr (7, [.ref (a 0), .ref (a 1), .int (zI (ke)), .int (zI (th)), .ref (a 2), .ref (a 3), .ref (a 4), .ref (a 5), .ref (a 6), .ref (a 7), .ref (a 8), .long (zL (hs))])), (a 0, .inl (cI, 612, .inl (zA f))), (a 1, .inl (cI, 2448, .inl (zA gp))), (a 2, .inl (cJ, 121, .inr (.inl (zAL ge)))), (a 3, .inl (cI, 121, .inl (zA gv))), (a 4, .inl (cI, 121, .inl (zA gd))), (a 5, .inl (cI, 121, .inl (zA gt))), (a 8, .inl (cI, 14762, .inl (zA g)))]) (va_Qi (fun r _ => r = zI 0) (fun (u : Nat → Int → Int) t => va_P D vwCl [(m0, .inr (7, [.ref (a 0), .ref (a 1), .int (zI (ke)), .int (zI (1)), .ref (a 2), .ref (a 3), .ref (a 4), .ref (a 5), .ref (a 6), .ref (a 7), .ref (a 8), .long (zL (hs))])), (a 0, .inl (cI, 612, .inl (zA f))), (a 1, .inl (cI, 2448, .inl (zA gp))), (a 2, .inl (cJ, 121, .inr (.inl (zAL (u 0))))), (a 3, .inl (cI, 121, .inl (zA (u 1)))), (a 4, .inl (cI, 121, .inl (zA (u 2)))), (a 5, .inl (cI, 121, .inl (zA (u 3)))), (a 8, .inl (cI, 14762, .inl (zA (u 4))))] t.heap) (zAd [(m0, .inr (7, [.ref (a 0), .ref (a 1), .int (zI (ke)), .int (zI (th)), .ref (a 2), .ref (a 3), .ref (a 4), .ref (a 5), .ref (a 6), .ref (a 7), .ref (a 8), .long (zL (hs))])), (a 0, .inl (cI, 612, .inl (zA f))), (a 1, .inl (cI, 2448, .inl (zA gp))), (a 2, .inl (cJ, 121, .inr (.inl (zAL ge)))), (a 3, .inl (cI, 121, .inl (zA gv))), (a 4, .inl (cI, 121, .inl (zA gd))), (a 5, .inl (cI, 121, .inl (zA gt))), (a 8, .inl (cI, 14762, .inl (zA g)))])) 0 0 (zAd [(m0, .inr (7, [.ref (a 0), .ref (a 1), .int (zI (ke)), .int (zI (th)), .ref (a 2), .ref (a 3), .ref (a 4), .ref (a 5), .ref (a 6), .ref (a 7), .ref (a 8), .long (zL (hs))])), (a 0, .inl (cI, 612, .inl (zA f))), (a 1, .inl (cI, 2448, .inl (zA gp))), (a 2, .inl (cJ, 121, .inr (.inl (zAL ge)))), (a 3, .inl (cI, 121, .inl (zA gv))), (a 4, .inl (cI, 121, .inl (zA gd))), (a 5, .inl (cI, 121, .inl (zA gt))), (a 8, .inl (cI, 14762, .inl (zA g)))]) := by
  refine zWi_of (cc := cX7_design) (maxL := 6) (ret := (some .int)) (by decide) rfl (Nat.le_of_ble_eq_true rfl) rfl ?_
  intro p e s m args below meth c Q A ls hx hb hml hts hown hK hP hD hS hl hret
  have hl : lv_has ls 6 [(0, .ref m0)] := hl
  have hP : va_P D vwCl [(m0, .inr (7, [.ref (a 0), .ref (a 1), .int (zI (ke)), .int (zI (th)), .ref (a 2), .ref (a 3), .ref (a 4), .ref (a 5), .ref (a 6), .ref (a 7), .ref (a 8), .long (zL (hs))])), (a 0, .inl (cI, 612, .inl (zA f))), (a 1, .inl (cI, 2448, .inl (zA gp))), (a 2, .inl (cJ, 121, .inr (.inl (zAL ge)))), (a 3, .inl (cI, 121, .inl (zA gv))), (a 4, .inl (cI, 121, .inl (zA gd))), (a 5, .inl (cI, 121, .inl (zA gt))), (a 8, .inl (cI, 14762, .inl (zA g)))] s.heap := hP
  obtain ⟨o0, o1, o2, o3, o4, o5, o7, o8, olim, ogrd, obar, oneed, opost⟩ := id ok
  refine lv_aload_n hx hb dX7_design_0 rfl (lv_at hl 0 rfl) ?_
  refine y_wVi (As := []) (rest := []) (fun (u1 : Nat → Int → Int) => [(m0, .inr (7, [.ref (a 0), .ref (a 1), .int (zI (ke)), .int (zI (th)), .ref (a 2), .ref (a 3), .ref (a 4), .ref (a 5), .ref (a 6), .ref (a 7), .ref (a 8), .long (zL (hs))])), (a 0, .inl (cI, 612, .inl (zA f))), (a 1, .inl (cI, 2448, .inl (zA gp))), (a 2, .inl (cJ, 121, .inr (.inl (zAL (u1 0))))), (a 3, .inl (cI, 121, .inl (zA (u1 1)))), (a 4, .inl (cI, 121, .inl (zA (u1 2)))), (a 5, .inl (cI, 121, .inl (zA (u1 3)))), (a 8, .inl (cI, 14762, .inl (zA (u1 4))))]) hx hb hml hown hts hl.1 ⟨Nat.zero_le _, Nat.zero_le _⟩ (kX7_solves l D cI cJ cS m0 a ke th hs f ge gv gd gt g ok) (cwV 0 hts gX7_design_X7_solves rfl rfl rfl jX7_solves ⟨Nat.le_of_ble_eq_true rfl, Nat.le_of_ble_eq_true rfl⟩) hK [true, true, false, true, true, true, true, true] hP hD hS rfl (fun _ => rfl) (fun _ => rfl) 7 0 rfl rfl rfl rfl rfl (Nat.le_of_ble_eq_true rfl) dX7_design_1 (fun r1 u1 H locs hu1 hP hS => ?_)
  obtain ⟨rfl, hu1⟩ := hu1
  refine lv_istore_n (lv' := [(1, .int (zI (slv f))), (0, .ref m0)]) hx hb dX7_design_4 rfl hl (by decide) rfl (fun ls hl => ?_)
  refine lv_aload_n hx hb dX7_design_5 rfl (lv_at hl 1 rfl) ?_
  refine lv_iload_n hx hb dX7_design_6 rfl (lv_at hl 0 rfl) ?_
  refine z_sipush hx hb dX7_design_7 (by decide +kernel) ?_
  refine z_icmp_ge (tgt := 17) hx hb dX7_design_10 (by decide) (by omega) (by omega) (fun c10 => ?_) (fun c10 => ?_)
  · refine z_iconst hx hb dX7_design_17 ?_
    refine y_wVi (As := [.int (zI (0))]) (rest := []) (fun (u18 : Unit) => [(m0, .inr (7, [.ref (a 0), .ref (a 1), .int (zI (ke)), .int (zI (1)), .ref (a 2), .ref (a 3), .ref (a 4), .ref (a 5), .ref (a 6), .ref (a 7), .ref (a 8), .long (zL (hs))])), (a 0, .inl (cI, 612, .inl (zA f))), (a 1, .inl (cI, 2448, .inl (zA gp))), (a 2, .inl (cJ, 121, .inr (.inl (zAL (u1 0))))), (a 3, .inl (cI, 121, .inl (zA (u1 1)))), (a 4, .inl (cI, 121, .inl (zA (u1 2)))), (a 5, .inl (cI, 121, .inl (zA (u1 3)))), (a 8, .inl (cI, 14762, .inl (zA (u1 4))))]) hx hb hml hown hts hl.1 ⟨Nat.zero_le _, Nat.zero_le _⟩ (kX7_refuses_0 l D cI cJ cS m0 a ke th hs f) (cwV 1 hts gX7_design_X7_refuses rfl rfl rfl jX7_refuses ⟨Nat.le_of_ble_eq_true rfl, Nat.le_of_ble_eq_true rfl⟩) hK [true] hP (zD hD rfl) hS rfl (fun _ => rfl) (fun _ => rfl) 7 0 rfl rfl rfl rfl rfl (Nat.le_of_ble_eq_true rfl) dX7_design_18 (fun r18 u18 H locs hu18 hP hS => ?_)
    subst hu18
    refine z_if_eq (tgt := 26) hx hb dX7_design_21 (by decide) (by omega) (fun c21 => ?_) (fun c21 => ?_)
    · exfalso; omega
    · refine z_iconst hx hb dX7_design_24 ?_
      exact hret u1 rfl hP hS dX7_design_25
  · exfalso; omega

set_option maxHeartbeats 4000000 in
set_option maxRecDepth 100000 in
theorem kX7_design_ok (l : Launch) (D : va_G) (cI cJ cS : ClassId) (m0 : Nat) (a : Nat → Nat) (ke th hs : Int) (f : Int → Int) (gp ge gv gd gt g : Int → Int) (ok : OkF f) (hke : 0 ≤ ke ∧ ke ≤ 4) (hY : slv f ≠ 1000) : Met l yX7_design wsX7_design rmX7_design (zPc D (zT cI cJ cS) [.ref m0] [(m0, .inr (7, [.ref (a 0), .ref (a 1), .int (zI (ke)), .int (zI (th)), .ref (a 2), .ref (a 3), .ref (a 4), .ref (a 5), .ref (a 6), .ref (a 7), .ref (a 8), .long (zL (hs))])), (a 0, .inl (cI, 612, .inl (zA f))), (a 1, .inl (cI, 2448, .inl (zA gp))), (a 2, .inl (cJ, 121, .inr (.inl (zAL ge)))), (a 3, .inl (cI, 121, .inl (zA gv))), (a 4, .inl (cI, 121, .inl (zA gd))), (a 5, .inl (cI, 121, .inl (zA gt))), (a 8, .inl (cI, 14762, .inl (zA g)))]) (va_Qi (fun r u => r = zI (pln f (brD f)) ∧ pln f (brD f) ≠ -1 ∧ OkF (dsn f) ∧ (∀ j : Int, j < 491 → dsn f j = f j) ∧ Rep (dsn f) (fun j => (sq f (brD f) j.toNat).2) (pln f (brD f))) (fun (u : Nat → Int → Int) t => va_P D vwCl [(m0, .inr (7, [.ref (a 0), .ref (a 1), .int (zI (cnS ke)), .int (zI (0)), .ref (a 2), .ref (a 3), .ref (a 4), .ref (a 5), .ref (a 6), .ref (a 7), .ref (a 8), .long (zL (hs))])), (a 0, .inl (cI, 612, .inl (zA (dsn f)))), (a 1, .inl (cI, 2448, .inl (zA (kpF gp f ke)))), (a 2, .inl (cJ, 121, .inr (.inl (zAL (u 0))))), (a 3, .inl (cI, 121, .inl (zA (u 1)))), (a 4, .inl (cI, 121, .inl (zA (u 2)))), (a 5, .inl (cI, 121, .inl (zA (u 3)))), (a 8, .inl (cI, 14762, .inl (zA (u 4))))] t.heap) (zAd [(m0, .inr (7, [.ref (a 0), .ref (a 1), .int (zI (ke)), .int (zI (th)), .ref (a 2), .ref (a 3), .ref (a 4), .ref (a 5), .ref (a 6), .ref (a 7), .ref (a 8), .long (zL (hs))])), (a 0, .inl (cI, 612, .inl (zA f))), (a 1, .inl (cI, 2448, .inl (zA gp))), (a 2, .inl (cJ, 121, .inr (.inl (zAL ge)))), (a 3, .inl (cI, 121, .inl (zA gv))), (a 4, .inl (cI, 121, .inl (zA gd))), (a 5, .inl (cI, 121, .inl (zA gt))), (a 8, .inl (cI, 14762, .inl (zA g)))])) 0 0 (zAd [(m0, .inr (7, [.ref (a 0), .ref (a 1), .int (zI (ke)), .int (zI (th)), .ref (a 2), .ref (a 3), .ref (a 4), .ref (a 5), .ref (a 6), .ref (a 7), .ref (a 8), .long (zL (hs))])), (a 0, .inl (cI, 612, .inl (zA f))), (a 1, .inl (cI, 2448, .inl (zA gp))), (a 2, .inl (cJ, 121, .inr (.inl (zAL ge)))), (a 3, .inl (cI, 121, .inl (zA gv))), (a 4, .inl (cI, 121, .inl (zA gd))), (a 5, .inl (cI, 121, .inl (zA gt))), (a 8, .inl (cI, 14762, .inl (zA g)))]) := by
  refine zWi_of (cc := cX7_design) (maxL := 6) (ret := (some .int)) (by decide) rfl (Nat.le_of_ble_eq_true rfl) rfl ?_
  intro p e s m args below meth c Q A ls hx hb hml hts hown hK hP hD hS hl hret
  have in7 : ∀ w ∈ wsX70, w ∈ wsX7_design := by decide +kernel
  have f7 := hts (.fieldLink RX7 7 "SignalSpacingModel" "now" "[I") (by decide +kernel)
  have hl : lv_has ls 6 [(0, .ref m0)] := hl
  have hP : va_P D vwCl [(m0, .inr (7, [.ref (a 0), .ref (a 1), .int (zI (ke)), .int (zI (th)), .ref (a 2), .ref (a 3), .ref (a 4), .ref (a 5), .ref (a 6), .ref (a 7), .ref (a 8), .long (zL (hs))])), (a 0, .inl (cI, 612, .inl (zA f))), (a 1, .inl (cI, 2448, .inl (zA gp))), (a 2, .inl (cJ, 121, .inr (.inl (zAL ge)))), (a 3, .inl (cI, 121, .inl (zA gv))), (a 4, .inl (cI, 121, .inl (zA gd))), (a 5, .inl (cI, 121, .inl (zA gt))), (a 8, .inl (cI, 14762, .inl (zA g)))] s.heap := hP
  obtain ⟨o0, o1, o2, o3, o4, o5, o7, o8, olim, ogrd, obar, oneed, opost⟩ := id ok
  refine lv_aload_n hx hb dX7_design_0 rfl (lv_at hl 0 rfl) ?_
  refine y_wVi (As := []) (rest := []) (fun (u1 : Nat → Int → Int) => [(m0, .inr (7, [.ref (a 0), .ref (a 1), .int (zI (ke)), .int (zI (th)), .ref (a 2), .ref (a 3), .ref (a 4), .ref (a 5), .ref (a 6), .ref (a 7), .ref (a 8), .long (zL (hs))])), (a 0, .inl (cI, 612, .inl (zA f))), (a 1, .inl (cI, 2448, .inl (zA gp))), (a 2, .inl (cJ, 121, .inr (.inl (zAL (u1 0))))), (a 3, .inl (cI, 121, .inl (zA (u1 1)))), (a 4, .inl (cI, 121, .inl (zA (u1 2)))), (a 5, .inl (cI, 121, .inl (zA (u1 3)))), (a 8, .inl (cI, 14762, .inl (zA (u1 4))))]) hx hb hml hown hts hl.1 ⟨Nat.zero_le _, Nat.zero_le _⟩ (kX7_solves l D cI cJ cS m0 a ke th hs f ge gv gd gt g ok) (cwV 0 hts gX7_design_X7_solves rfl rfl rfl jX7_solves ⟨Nat.le_of_ble_eq_true rfl, Nat.le_of_ble_eq_true rfl⟩) hK [true, true, false, true, true, true, true, true] hP hD hS rfl (fun _ => rfl) (fun _ => rfl) 7 0 rfl rfl rfl rfl rfl (Nat.le_of_ble_eq_true rfl) dX7_design_1 (fun r1 u1 H locs hu1 hP hS => ?_)
  obtain ⟨rfl, hu1⟩ := hu1
  refine lv_istore_n (lv' := [(1, .int (zI (slv f))), (0, .ref m0)]) hx hb dX7_design_4 rfl hl (by decide) rfl (fun ls hl => ?_)
  have hR8 := hu1.2.2
  have htg := hu1.2.1
  have hsb := (slv_b ok hR8).resolve_left hY
  have hsq := sq_all ok hR8 hY
  have hmk := mrk_ok (m := (slv f).toNat) ok (fun k q => (hsq k q).2)
  have hpl := slv_pln.2 hY
  refine lv_aload_n hx hb dX7_design_5 rfl (lv_at hl 1 rfl) ?_
  refine lv_iload_n hx hb dX7_design_6 rfl (lv_at hl 0 rfl) ?_
  refine z_sipush hx hb dX7_design_7 (by decide +kernel) ?_
  refine z_icmp_ge (tgt := 17) hx hb dX7_design_10 (by decide) (by omega) (by omega) (fun c10 => ?_) (fun c10 => ?_)
  · exfalso; omega
  · refine z_iconst hx hb dX7_design_13 ?_
    refine lv_goto (tgt := 18) hx hb dX7_design_14 (by decide) ?_
    refine y_wVi (As := [.int (zI (1))]) (rest := []) (fun (u18 : Unit) => [(m0, .inr (7, [.ref (a 0), .ref (a 1), .int (zI (ke)), .int (zI (0)), .ref (a 2), .ref (a 3), .ref (a 4), .ref (a 5), .ref (a 6), .ref (a 7), .ref (a 8), .long (zL (hs))])), (a 0, .inl (cI, 612, .inl (zA f))), (a 1, .inl (cI, 2448, .inl (zA gp))), (a 2, .inl (cJ, 121, .inr (.inl (zAL (u1 0))))), (a 3, .inl (cI, 121, .inl (zA (u1 1)))), (a 4, .inl (cI, 121, .inl (zA (u1 2)))), (a 5, .inl (cI, 121, .inl (zA (u1 3)))), (a 8, .inl (cI, 14762, .inl (zA (u1 4))))]) hx hb hml hown hts hl.1 ⟨Nat.zero_le _, Nat.zero_le _⟩ (kX7_refuses_1 l D cI cJ cS m0 a ke th hs f) (cwV 1 hts gX7_design_X7_refuses rfl rfl rfl jX7_refuses ⟨Nat.le_of_ble_eq_true rfl, Nat.le_of_ble_eq_true rfl⟩) hK [true] hP (zD hD rfl) hS rfl (fun _ => rfl) (fun _ => rfl) 7 0 rfl rfl rfl rfl rfl (Nat.le_of_ble_eq_true rfl) dX7_design_18 (fun r18 u18 H locs hu18 hP hS => ?_)
    subst hu18
    refine z_if_eq (tgt := 26) hx hb dX7_design_21 (by decide) (by omega) (fun c21 => ?_) (fun c21 => ?_)
    · refine lv_aload_n hx hb dX7_design_26 rfl (lv_at hl 1 rfl) ?_
      refine y_wVv (As := []) (rest := []) (fun (u27 : Unit) => [(m0, .inr (7, [.ref (a 0), .ref (a 1), .int (zI (cnS ke)), .int (zI (0)), .ref (a 2), .ref (a 3), .ref (a 4), .ref (a 5), .ref (a 6), .ref (a 7), .ref (a 8), .long (zL (hs))])), (a 0, .inl (cI, 612, .inl (zA f))), (a 1, .inl (cI, 2448, .inl (zA (kpF gp f ke)))), (a 2, .inl (cJ, 121, .inr (.inl (zAL (u1 0))))), (a 3, .inl (cI, 121, .inl (zA (u1 1)))), (a 4, .inl (cI, 121, .inl (zA (u1 2)))), (a 5, .inl (cI, 121, .inl (zA (u1 3)))), (a 8, .inl (cI, 14762, .inl (zA (u1 4))))]) hx hb hml hown hts hl.1 ⟨Nat.zero_le _, Nat.zero_le _⟩ (kX7_keep l D cI cJ cS m0 a ke 0 hs f gp hke) (cwV 0 hts gX7_design_X7_keep rfl rfl rfl jX7_keep ⟨Nat.le_of_ble_eq_true rfl, Nat.le_of_ble_eq_true rfl⟩) hK [true, true, true] hP (zD hD rfl) hS rfl (fun _ => rfl) (fun _ => rfl) 7 0 rfl rfl rfl rfl rfl (Nat.le_of_ble_eq_true rfl) dX7_design_27 (fun u27 H locs hu27 hP hS => ?_)
      refine lv_aload_n hx hb dX7_design_30 rfl (lv_at hl 1 rfl) ?_
      refine y_wVv (As := []) (rest := []) (fun (u31 : Unit) => [(m0, .inr (7, [.ref (a 0), .ref (a 1), .int (zI (cnS ke)), .int (zI (0)), .ref (a 2), .ref (a 3), .ref (a 4), .ref (a 5), .ref (a 6), .ref (a 7), .ref (a 8), .long (zL (hs))])), (a 0, .inl (cI, 612, .inl (zA (clP f)))), (a 1, .inl (cI, 2448, .inl (zA (kpF gp f ke)))), (a 2, .inl (cJ, 121, .inr (.inl (zAL (u1 0))))), (a 3, .inl (cI, 121, .inl (zA (u1 1)))), (a 4, .inl (cI, 121, .inl (zA (u1 2)))), (a 5, .inl (cI, 121, .inl (zA (u1 3)))), (a 8, .inl (cI, 14762, .inl (zA (u1 4))))]) hx hb hml hown hts hl.1 ⟨Nat.zero_le _, Nat.zero_le _⟩ (kX7_clears l D cI cJ cS m0 a (cnS ke) 0 hs f) (cwV 0 hts gX7_design_X7_clears rfl rfl rfl jX7_clears ⟨Nat.le_of_ble_eq_true rfl, Nat.le_of_ble_eq_true rfl⟩) hK [true, true] hP (zD hD rfl) hS rfl (fun _ => rfl) (fun _ => rfl) 7 0 rfl rfl rfl rfl rfl (Nat.le_of_ble_eq_true rfl) dX7_design_31 (fun u31 H locs hu31 hP hS => ?_)
      refine z_bipush hx hb dX7_design_34 (by decide +kernel) ?_
      refine lv_istore_n (lv' := [(2, .int (zI (121))), (1, .int (zI (slv f))), (0, .ref m0)]) hx hb dX7_design_36 rfl hl (by decide) rfl (fun ls hl => ?_)
      refine z_iconst hx hb dX7_design_37 ?_
      refine lv_istore_n (lv' := [(3, .int (zI (0))), (2, .int (zI (121))), (1, .int (zI (slv f))), (0, .ref m0)]) hx hb dX7_design_38 rfl hl (by decide) rfl (fun ls hl => ?_)
      refine lv_aload_n hx hb dX7_design_39 rfl (lv_at hl 3 rfl) ?_
      refine va_get (D := D) (ci := 7) (v := .ref (a 0)) (C := RX7) (T := TX7) (N := 12) hx hb hts in7 hown hK hP 0 rfl rfl 0 (by decide) f7 (fun _ h9 => h9) rfl dX7_design_40 ?_
      refine z_sipush hx hb dX7_design_43 (by decide +kernel) ?_
      refine z_iconst hx hb dX7_design_46 ?_
      refine z_iast hx hb hK hP (zD hD rfl) hS 1 0 [(m0, .inr (7, [.ref (a 0), .ref (a 1), .int (zI (cnS ke)), .int (zI (0)), .ref (a 2), .ref (a 3), .ref (a 4), .ref (a 5), .ref (a 6), .ref (a 7), .ref (a 8), .long (zL (hs))])), (a 0, .inl (cI, 612, .inl (zA (zup (clP f) 491 1)))), (a 1, .inl (cI, 2448, .inl (zA (kpF gp f ke)))), (a 2, .inl (cJ, 121, .inr (.inl (zAL (u1 0))))), (a 3, .inl (cI, 121, .inl (zA (u1 1)))), (a 4, .inl (cI, 121, .inl (zA (u1 2)))), (a 5, .inl (cI, 121, .inl (zA (u1 3)))), (a 8, .inl (cI, 14762, .inl (zA (u1 4))))] rfl rfl (by omega) (Nat.lt_of_succ_le (Nat.le_of_ble_eq_true rfl)) rfl dX7_design_47 (fun H locs hP hS => ?_)
      refine z_iconst hx hb dX7_design_48 ?_
      refine lv_istore (lv' := [(4, .int (zI (0))), (3, .int (zI (0))), (2, .int (zI (121))), (1, .int (zI (slv f))), (0, .ref m0)]) hx hb dX7_design_49 hl (by decide) rfl (fun ls hl => ?_)
      have L51 : ∀ (fuel : Nat), ∀ (k : Nat) (a1 : Int) (x : Int) (ix : Int), ∀ (hix : ix = (k : Int)), ∀ (hk : (k : Int) ≤ slv f), ∀ (ha1 : a1 = enc (sq f (brD f) k).1), ∀ (hx9 : x = (sq f (brD f) k).2), (slv f - ix).toNat < fuel → ∀ (H : Heap) (locs : List Loc), va_P D vwCl [(m0, .inr (7, [.ref (a 0), .ref (a 1), .int (zI (cnS ke)), .int (zI (0)), .ref (a 2), .ref (a 3), .ref (a 4), .ref (a 5), .ref (a 6), .ref (a 7), .ref (a 8), .long (zL (hs))])), (a 0, .inl (cI, 612, .inl (zA (mrk f (brD f) k)))), (a 1, .inl (cI, 2448, .inl (zA (kpF gp f ke)))), (a 2, .inl (cJ, 121, .inr (.inl (zAL (u1 0))))), (a 3, .inl (cI, 121, .inl (zA (u1 1)))), (a 4, .inl (cI, 121, .inl (zA (u1 2)))), (a 5, .inl (cI, 121, .inl (zA (u1 3)))), (a 8, .inl (cI, 14762, .inl (zA (u1 4))))] H → va_S A s.heap H locs → ∀ (ls : Array Slot), lv_has ls 6 [(0, .ref m0), (1, .int (zI (slv f))), (2, .int (zI (a1))), (3, .int (zI (x))), (4, .int (zI (ix)))] → W p l e rmX7_design s m args below meth c H locs 0 0 Q (F0 m 51 ls []) := by
        intro fuel
        induction fuel with
        | zero =>
          intro k a1 x ix hix hk ha1 hx9 hm
          exact absurd hm (Nat.not_lt_zero _)
        | succ fuel ih51 =>
          intro k a1 x ix hix hk ha1 hx9 hm H locs hP hS ls hl
          refine lv_iload hx hb dX7_design_51 (lv_at hl 4 rfl) ?_
          refine lv_iload_n hx hb dX7_design_53 rfl (lv_at hl 1 rfl) ?_
          refine z_icmp_ge (tgt := 88) hx hb dX7_design_54 (by decide) (by omega) (by omega) (fun c54 => ?_) (fun c54 => ?_)
          · have hk9 : (slv f).toNat = k := by omega
            obtain ⟨okm, hm1, hm2⟩ := hmk k (by omega)
            have hd9 : mrk f (brD f) k = dsn f := by unfold dsn; rw [hk9]
            rw [hd9] at hP okm hm1 hm2
            refine lv_iload_n hx hb dX7_design_88 rfl (lv_at hl 1 rfl) ?_
            refine z_iconst hx hb dX7_design_89 ?_
            refine z_iadd hx hb dX7_design_90 ?_
            exact hret u1 ⟨by rw [hpl], by omega, okm, hm1, by rw [hpl, show slv f = (k : Int) by omega]; exact hm2⟩ hP hS dX7_design_91
          · obtain ⟨⟨s1, s2, s3, s4, s5⟩, s6, s7, s8⟩ := hsq k (by omega)
            obtain ⟨okm, hm1, hm2⟩ := hmk k (by omega)
            have hm0 := hm1 0 (by omega)
            have hgdM : ∀ x : Int, 0 ≤ x → x ≤ mrk f (brD f) k 0 → 0 ≤ (u1 2) x ∧ (u1 2) x ≤ 1000 := fun x a b => by rw [(hu1.1 x a (by omega)).2.2.1]; have := brD_b ok a (by omega : x ≤ f 0); omega
            have hae : bof a1 = (sq f (brD f) k).1 := by rw [ha1]; unfold bof enc; split <;> (try split) <;> omega
            have hab : 0 ≤ a1 ∧ (a1 < x ∨ a1 = 121) := by rw [ha1]; unfold enc; split <;> omega
            refine lv_aload_n hx hb dX7_design_57 rfl (lv_at hl 0 rfl) ?_
            refine lv_iload_n hx hb dX7_design_58 rfl (lv_at hl 2 rfl) ?_
            refine lv_iload_n hx hb dX7_design_59 rfl (lv_at hl 3 rfl) ?_
            refine y_wVi (As := [.int (zI (a1)), .int (zI (x))]) (rest := []) (fun (u60 : Int) => [(m0, .inr (7, [.ref (a 0), .ref (a 1), .int (zI (cnS ke)), .int (zI (0)), .ref (a 2), .ref (a 3), .ref (a 4), .ref (a 5), .ref (a 6), .ref (a 7), .ref (a 8), .long (zL (hs))])), (a 0, .inl (cI, 612, .inl (zA (mrk f (brD f) k)))), (a 1, .inl (cI, 2448, .inl (zA (kpF gp f ke)))), (a 2, .inl (cJ, 121, .inr (.inl (zAL (u1 0))))), (a 3, .inl (cI, 121, .inl (zA (u1 1)))), (a 4, .inl (cI, 121, .inl (zA (u1 2)))), (a 5, .inl (cI, 121, .inl (zA (u1 3)))), (a 8, .inl (cI, 14762, .inl (zA (u1 4))))]) hx hb hml hown hts hl.1 ⟨Nat.zero_le _, Nat.zero_le _⟩ (kX7_bestNext l D cI cJ cS m0 a (cnS ke) 0 hs (mrk f (brD f) k) (u1 2) (u1 4) a1 x okm hgdM htg (by omega) hab) (cwV 2 hts gX7_design_X7_bestNext rfl rfl rfl jX7_bestNext ⟨Nat.le_of_ble_eq_true rfl, Nat.le_of_ble_eq_true rfl⟩) hK [true, true, false, false, false, true, false, true] hP (zD hD rfl) hS rfl (fun _ => rfl) (fun _ => rfl) 7 0 rfl rfl rfl rfl rfl (Nat.le_of_ble_eq_true rfl) dX7_design_60 (fun r60 u60 H locs hu60 hP hS => ?_)
            obtain ⟨rfl, hu60⟩ := hu60
            have hn9 : u60 = (sq f (brD f) (k + 1)).2 := by
              have h8 := bn_nx ok hR8 (by omega) (by omega) hab (by rw [hae, hx9]; exact s5) (bn_f ok okm (fun j _ q => hm1 j q) (fun x a b => (hu1.1 x a b).2.2.1) (by omega) (by omega) hab hu60)
              rw [h8, hae, hx9]
              rfl
            refine lv_istore (lv' := [(5, .int (zI (u60))), (0, .ref m0), (1, .int (zI (slv f))), (2, .int (zI (a1))), (3, .int (zI (x))), (4, .int (zI (ix)))]) hx hb dX7_design_63 hl (by decide) rfl (fun ls hl => ?_)
            refine lv_aload_n hx hb dX7_design_65 rfl (lv_at hl 1 rfl) ?_
            refine va_get (D := D) (ci := 7) (v := .ref (a 0)) (C := RX7) (T := TX7) (N := 12) hx hb hts in7 hown hK hP 0 rfl rfl 0 (by decide) f7 (fun _ h9 => h9) rfl dX7_design_66 ?_
            refine z_sipush hx hb dX7_design_69 (by decide +kernel) ?_
            refine lv_iload hx hb dX7_design_72 (lv_at hl 0 rfl) ?_
            refine z_iadd hx hb dX7_design_74 ?_
            refine z_top (491 + (sq f (brD f) (k + 1)).2) (by rw [hn9]) ?_
            refine z_iconst hx hb dX7_design_75 ?_
            refine z_iast hx hb hK hP (zD hD rfl) hS 1 0 [(m0, .inr (7, [.ref (a 0), .ref (a 1), .int (zI (cnS ke)), .int (zI (0)), .ref (a 2), .ref (a 3), .ref (a 4), .ref (a 5), .ref (a 6), .ref (a 7), .ref (a 8), .long (zL (hs))])), (a 0, .inl (cI, 612, .inl (zA (zup (mrk f (brD f) k) (491 + (sq f (brD f) (k + 1)).2) 1)))), (a 1, .inl (cI, 2448, .inl (zA (kpF gp f ke)))), (a 2, .inl (cJ, 121, .inr (.inl (zAL (u1 0))))), (a 3, .inl (cI, 121, .inl (zA (u1 1)))), (a 4, .inl (cI, 121, .inl (zA (u1 2)))), (a 5, .inl (cI, 121, .inl (zA (u1 3)))), (a 8, .inl (cI, 14762, .inl (zA (u1 4))))] rfl rfl (by omega) (Nat.lt_of_succ_le (Nat.le_of_ble_eq_true rfl)) rfl dX7_design_76 (fun H locs hP hS => ?_)
            refine lv_iload_n hx hb dX7_design_77 rfl (lv_at hl 4 rfl) ?_
            refine lv_istore_n (lv' := [(2, .int (zI (x))), (5, .int (zI (u60))), (0, .ref m0), (1, .int (zI (slv f))), (3, .int (zI (x))), (4, .int (zI (ix)))]) hx hb dX7_design_78 rfl hl (by decide) rfl (fun ls hl => ?_)
            refine lv_iload hx hb dX7_design_79 (lv_at hl 1 rfl) ?_
            refine lv_istore_n (lv' := [(3, .int (zI (u60))), (2, .int (zI (x))), (5, .int (zI (u60))), (0, .ref m0), (1, .int (zI (slv f))), (4, .int (zI (ix)))]) hx hb dX7_design_81 rfl hl (by decide) rfl (fun ls hl => ?_)
            refine z_iinc (lv' := [(4, .int (zI (ix + 1))), (3, .int (zI (u60))), (2, .int (zI (x))), (5, .int (zI (u60))), (0, .ref m0), (1, .int (zI (slv f)))]) hx hb 5 (ix + 1) dX7_design_82 hl rfl (by omega) (by decide) rfl (fun ls hl => ?_)
            refine lv_goto (tgt := 51) hx hb dX7_design_85 (by decide) ?_
            exact ih51 (k + 1) x u60 (ix + 1) (by omega) (by omega) (by rw [hx9]; exact (enc_p s3).symm) hn9 (by omega) _ _ hP hS ls (lv_sub hl [4, 5, 2, 1, 0] rfl)
      exact L51 _ 0 121 0 0 (by rfl) (by omega) (by rfl) (by rfl) (Nat.lt_succ_self _) _ _ hP hS ls (lv_sub hl [4, 3, 2, 1, 0] rfl)
    · exfalso; omega
