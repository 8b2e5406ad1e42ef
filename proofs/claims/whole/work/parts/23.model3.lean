/-! ===== SignalSpacingModel: violations, block times, undo, digest ===== -/
theorem blk_congr {f ps gt ps' gt' : Int → Int} {n i : Int} (ok : OkF f) (hn : n = rank f (f 0 + 1)) (hp : ∀ k : Int, 0 ≤ k → k < n → ps k = ps' k ∧ 0 ≤ ps k ∧ ps k ≤ f 0) (ht : ∀ x : Int, 0 ≤ x → x ≤ f 0 → gt x = gt' x) (h1 : 0 ≤ i) (h2 : i < n) : blk f ps gt n i = blk f ps' gt' n i := by
  obtain ⟨o0, o1, o2, o3, o4, o5, o7, o8, olim, ogrd, obar, oneed, opost⟩ := id ok
  unfold blk
  by_cases h : n ≤ i + f 4 - 1
  · rw [if_pos h, if_pos h]
  · rw [if_neg h, if_neg h]
    obtain ⟨a1, a2, a3⟩ := hp i h1 h2
    obtain ⟨b1, b2, b3⟩ := hp (i + f 4 - 1) (by omega) (by omega)
    have hs := sgt_b ok a2
    rw [← a1, ← b1]
    have hb : 0 ≤ bto f (ps (i + f 4 - 1)) ∧ bto f (ps (i + f 4 - 1)) ≤ f 0 := by unfold bto; split <;> omega
    rw [ht _ hb.1 hb.2, ht _ hs.1 (by omega)]
theorem hwy_congr {f ps gt ps' gt' : Int → Int} {n : Int} (ok : OkF f) (hn : n = rank f (f 0 + 1)) (hp : ∀ k : Int, 0 ≤ k → k < n → ps k = ps' k ∧ 0 ≤ ps k ∧ ps k ≤ f 0) (ht : ∀ x : Int, 0 ≤ x → x ≤ f 0 → gt x = gt' x) : ∀ i : Int, 0 ≤ i → i ≤ n → hwy f ps gt n i = hwy f ps' gt' n i := by
  refine z_ind rfl (fun i h1 h2 ih => ?_)
  rw [hwy_s h1, hwy_s h1, ih, blk_congr ok hn hp ht h1 h2]
/-- the block time of post i -/
noncomputable def BLK (f : Int → Int) (i : Int) : Int := blk f (pst f) (tiT f) (rank f (f 0 + 1)) i
/-- the headway -/
noncomputable def HW (f : Int → Int) : Int := hwy f (pst f) (tiT f) (rank f (f 0 + 1)) (rank f (f 0 + 1))
theorem pst_is {f : Int → Int} (ok : OkF f) {k : Int} (h1 : 0 ≤ k) (h2 : k < rank f (f 0 + 1)) : IsP f k (pst f k) := by
  have o0 := ok.1
  obtain ⟨x, a1, a2, a3, a4⟩ := rank_at ok (y := f 0 + 1) (by omega) (by omega) h1 h2
  exact Classical.epsilon_spec (p := IsP f k) ⟨x, a1, by omega, a3, a4⟩
theorem rep_c {f ps : Int → Int} {n : Int} (ok : OkF f) (r : Rep f ps n) : ∀ k : Int, 0 ≤ k → k < n → ps k = pst f k ∧ 0 ≤ ps k ∧ ps k ≤ f 0 := fun k h1 h2 => ⟨rep_pst ok r h1 h2, (rep_k ok r h1 h2).1, (rep_k ok r h1 h2).2.1⟩
theorem BLK_b {f : Int → Int} (ok : OkF f) {i : Int} (h1 : 0 ≤ i) (h2 : i < rank f (f 0 + 1)) : BLK f i = -1 ∨ (0 < BLK f i ∧ BLK f i ≤ 1080000) := by
  obtain ⟨o0, o1, o2, o3, o4, o5, o7, o8, olim, ogrd, obar, oneed, opost⟩ := id ok
  unfold BLK blk
  by_cases h : rank f (f 0 + 1) ≤ i + f 4 - 1
  · rw [if_pos h]; exact Or.inl rfl
  · rw [if_neg h]
    obtain ⟨a1, a2, a3, a4⟩ := pst_is ok h1 h2
    obtain ⟨b1, b2, b3, b4⟩ := pst_is ok (k := i + f 4 - 1) (by omega) (by omega)
    have hs := sgt_b ok a1
    have hlt : pst f i < pst f (i + f 4 - 1) := by
      rcases Int.lt_or_le (pst f i) (pst f (i + f 4 - 1)) with q | q
      · exact q
      · have := rank_mono ok b1 q (by omega)
        omega
    have hb : sgt f (pst f i) < bto f (pst f (i + f 4 - 1)) ∧ bto f (pst f (i + f 4 - 1)) ≤ f 0 := by unfold bto; split <;> omega
    have t1 := tiT_lt ok hs.1 hb.1 hb.2
    have t2 := tiT_b ok (bto f (pst f (i + f 4 - 1))) (by omega) hb.2
    have t3 := tiT_b ok (sgt f (pst f i)) hs.1 (by omega)
    exact Or.inr (by omega)
theorem HW_b {f : Int → Int} (ok : OkF f) : HW f = -1 ∨ (0 < HW f ∧ HW f ≤ 1080000) := by
  have o0 := ok.1
  have hn := rank_b ok (x := f 0 + 1) (by omega) (by omega)
  have key : ∀ i : Int, 0 ≤ i → i ≤ rank f (f 0 + 1) → hwy f (pst f) (tiT f) (rank f (f 0 + 1)) i = -1 ∨ (0 < hwy f (pst f) (tiT f) (rank f (f 0 + 1)) i ∧ hwy f (pst f) (tiT f) (rank f (f 0 + 1)) i ≤ 1080000) := by
    refine z_ind (Or.inl rfl) (fun i h1 h2 ih => ?_)
    rw [hwy_s h1]
    have := BLK_b ok h1 h2
    unfold BLK at this
    split <;> omega
  exact key _ hn.1 (Int.le_refl _)
/-- the violations of the present layout -/
noncomputable def VIO (f : Int → Int) : List Int := vio f (pst f) (brD f) (rank f (f 0 + 1)) (f 0 + 1)
noncomputable def VV (f : Int → Int) : Int → Int := fun j => (VIO f).getD j.toNat 0
theorem vio_can {f ps gd : Int → Int} {n : Int} (ok : OkF f) (r : Rep f ps n) (hd : ∀ x : Int, 0 ≤ x → x ≤ f 0 → gd x = brD f x) : vio f ps gd n (f 0 + 1) = VIO f := by
  have o0 := ok.1
  rw [r.1]
  unfold VIO
  exact vio_congr ok rfl (fun k h1 h2 => rep_pst ok (r.1 ▸ r) h1 h2) hd (f 0 + 1) (by omega) (Int.le_refl _)
theorem vat_r {f ps gd : Int → Int} {n i x : Int} (h : 0 ≤ x ∧ x ≤ 120) : ∀ v ∈ vat f ps gd n i x, 0 ≤ v ∧ v ≤ 5200 := by
  have key : ∀ (P : Prop) (k v : Int), 1 ≤ k ∧ k ≤ 5 → v ∈ zl P (1000 * k + x) → 0 ≤ v ∧ v ≤ 5200 := fun P k v hk hv => by
    by_cases hP : P
    · rw [zl_t hP] at hv
      have := List.mem_singleton.mp hv
      omega
    · rw [zl_f hP] at hv
      exact absurd hv List.not_mem_nil
  intro v hv
  unfold vat at hv
  rcases List.mem_append.mp hv with q | q
  · exact key _ 1 v (by omega) q
  · rcases List.mem_append.mp q with q | q
    · exact key _ 2 v (by omega) q
    · rcases List.mem_append.mp q with q | q
      · exact key _ 3 v (by omega) q
      · rcases List.mem_append.mp q with q | q
        · exact key _ 4 v (by omega) q
        · exact key _ 5 v (by omega) q
theorem vio_r {f ps gd : Int → Int} {n : Int} : ∀ x : Int, 0 ≤ x → x ≤ 121 → ∀ v ∈ vio f ps gd n x, 0 ≤ v ∧ v ≤ 5200 := by
  refine z_ind (fun v hv => absurd hv List.not_mem_nil) (fun x h1 h2 ih v hv => ?_)
  rw [vio_s h1] at hv
  rcases List.mem_append.mp hv with q | q
  · exact ih v q
  · exact vat_r ⟨h1, by omega⟩ v q
theorem VIO_len {f : Int → Int} (ok : OkF f) : ((VIO f).length : Int) ≤ 363 := by
  have o0 := ok.1
  have := vio_len (ps := pst f) (gd := brD f) (n := rank f (f 0 + 1)) ok (f 0 + 1) (by omega) (by omega)
  unfold VIO
  omega
theorem fnd_VV {f g : Int → Int} (h : Fnd g (VIO f)) {j : Int} (h1 : 0 ≤ j) (h2 : j < ((VIO f).length : Int)) : g j = VV f j := by
  have hl : j.toNat < (VIO f).length := by omega
  have := h j.toNat ((VIO f)[j.toNat]) (List.getElem?_eq_getElem hl)
  rw [show ((j.toNat : Nat) : Int) = j by omega] at this
  rw [this]
  unfold VV
  rw [List.getD_eq_getElem?_getD, List.getElem?_eq_getElem hl]
  rfl
theorem VV_r {f : Int → Int} (ok : OkF f) {j : Int} (h1 : 0 ≤ j) (h2 : j < ((VIO f).length : Int)) : 0 ≤ VV f j ∧ VV f j ≤ 5200 := by
  have o0 := ok.1
  have hl : j.toNat < (VIO f).length := by omega
  unfold VV
  rw [List.getD_eq_getElem?_getD, List.getElem?_eq_getElem hl]
  exact vio_r (f 0 + 1) (by omega) (by omega) _ (List.getElem_mem hl)
/-! the digest -/
def mxN (g : Int → Int) (h : Int) : Nat → Int
  | 0 => h
  | k + 1 => 31 * mxN g h k + g (k : Int)
def mxr (g : Int → Int) (h n : Int) : Int := mxN g h n.toNat
theorem mxr_s {g : Int → Int} {h n : Int} (q : 0 ≤ n) : mxr g h (n + 1) = 31 * mxr g h n + g n := by
  unfold mxr
  rw [show (n + 1).toNat = n.toNat + 1 by omega]
  show 31 * mxN g h n.toNat + g (n.toNat : Int) = _
  rw [show (n.toNat : Int) = n by omega]
def mx2N (g1 g2 : Int → Int) (h : Int) : Nat → Int
  | 0 => h
  | k + 1 => 31 * (31 * mx2N g1 g2 h k + g1 (k : Int)) + g2 (k : Int)
def mx2 (g1 g2 : Int → Int) (h n : Int) : Int := mx2N g1 g2 h n.toNat
theorem mx2_s {g1 g2 : Int → Int} {h n : Int} (q : 0 ≤ n) : mx2 g1 g2 h (n + 1) = 31 * (31 * mx2 g1 g2 h n + g1 n) + g2 n := by
  unfold mx2
  rw [show (n + 1).toNat = n.toNat + 1 by omega]
  show 31 * (31 * mx2N g1 g2 h n.toNat + g1 (n.toNat : Int)) + g2 (n.toNat : Int) = _
  rw [show (n.toNat : Int) = n by omega]
def mx4N (g1 g2 g3 g4 : Int → Int) (h : Int) : Nat → Int
  | 0 => h
  | k + 1 => 31 * (31 * (31 * (31 * mx4N g1 g2 g3 g4 h k + g1 (k : Int)) + g2 (k : Int)) + g3 (k : Int)) + g4 (k : Int)
def mx4 (g1 g2 g3 g4 : Int → Int) (h n : Int) : Int := mx4N g1 g2 g3 g4 h n.toNat
theorem mx4_s {g1 g2 g3 g4 : Int → Int} {h n : Int} (q : 0 ≤ n) : mx4 g1 g2 g3 g4 h (n + 1) = 31 * (31 * (31 * (31 * mx4 g1 g2 g3 g4 h n + g1 n) + g2 n) + g3 n) + g4 n := by
  unfold mx4
  rw [show (n + 1).toNat = n.toNat + 1 by omega]
  show 31 * (31 * (31 * (31 * mx4N g1 g2 g3 g4 h n.toNat + g1 (n.toNat : Int)) + g2 (n.toNat : Int)) + g3 (n.toNat : Int)) + g4 (n.toNat : Int) = _
  rw [show (n.toNat : Int) = n by omega]
/-- the hash behind the settings, the cells, the positions, the posts, the violations; the whole -/
def dg1 (f : Int → Int) (ke : Int) : Int := mxr f (31 * 12211 + ke) 9
def dg2 (f : Int → Int) (h : Int) : Int := mx2 (fun x => f (9 + x)) (fun x => f (129 + x)) h (f 0)
noncomputable def dg3 (f : Int → Int) (h : Int) : Int := mx4 (fun x => f (249 + x)) (fun x => f (370 + x)) (enE f) (brD f) h (f 0 + 1)
noncomputable def dg4 (f : Int → Int) (h : Int) : Int := mxr (pst f) (31 * h + rank f (f 0 + 1)) (rank f (f 0 + 1))
noncomputable def dg5 (f : Int → Int) (h : Int) : Int := mxr (VV f) (31 * h + ((VIO f).length : Int)) ((VIO f).length : Int)
noncomputable def DG (f : Int → Int) (ke : Int) : Int := 31 * (31 * dg5 f (dg4 f (dg3 f (dg2 f (dg1 f ke)))) + HW f) + tiT f (f 0)

abbrev rmX7_isWanted : Room := { frames := 0, cells := 0, slots := 0, locals := 0 }
theorem jX7_isWanted : yX7_isWanted.cls = RX7 ∧ yX7_isWanted.cls ≠ "java/lang/invoke/MethodHandle" ∧ yX7_isWanted.cls ≠ "java/lang/invoke/VarHandle" ∧ (parseMethodDescriptor yX7_isWanted.desc).map (fun d => d.parameters.length) = some 1 := by decide +kernel
set_option maxHeartbeats 4000000 in
set_option maxRecDepth 100000 in
theorem kX7_isWanted (l : Launch) (D : va_G) (cI cJ cS : ClassId) (m0 : Nat) (a : Nat → Nat) (ke th hs : Int) (f : Int → Int) (x : Int) (ok : OkF f) (h1 : 0 ≤ x ∧ x ≤ 120) : Met l yX7_isWanted wsX7_isWanted rmX7_isWanted (zPc D (zT cI cJ cS) [.ref m0, .int (zI (x))] [(m0, .inr (7, [.ref (a 0), .ref (a 1), .int (zI (ke)), .int (zI (th)), .ref (a 2), .ref (a 3), .ref (a 4), .ref (a 5), .ref (a 6), .ref (a 7), .ref (a 8), .long (zL (hs))])), (a 0, .inl (cI, 612, .inl (zA f)))]) (vp_Si (fun r => r = zI (zB (wanted f x)))) 0 0 (fun _ => False) := by
  refine zRz_of (cc := cX7_isWanted) (maxL := 2) (ret := (some .boolean)) (zB (wanted f x)) (by decide) rfl (Nat.le_of_ble_eq_true rfl) rfl (zB_01 _) ?_
  intro p e s m args below meth c Q ls hx hb hml hts hown hK hP hD hl hret
  have in7 : ∀ w ∈ wsX70, w ∈ wsX7_isWanted := by decide +kernel
  have f7 := hts (.fieldLink RX7 7 "SignalSpacingModel" "now" "[I") (by decide +kernel)
  have hl : lv_has ls 2 [(0, .ref m0), (1, .int (zI (x)))] := hl
  have hP : va_P D vwCl [(m0, .inr (7, [.ref (a 0), .ref (a 1), .int (zI (ke)), .int (zI (th)), .ref (a 2), .ref (a 3), .ref (a 4), .ref (a 5), .ref (a 6), .ref (a 7), .ref (a 8), .long (zL (hs))])), (a 0, .inl (cI, 612, .inl (zA f)))] s.heap := hP
  obtain ⟨o0, o1, o2, o3, o4, o5, o7, o8, olim, ogrd, obar, oneed, opost⟩ := id ok
  refine lv_iload_n hx hb dX7_isWanted_0 rfl (lv_at hl 1 rfl) ?_
  refine z_if_eq (tgt := 28) hx hb dX7_isWanted_1 (by decide) (by omega) (fun c1 => ?_) (fun c1 => ?_)
  · refine z_iconst hx hb dX7_isWanted_28 ?_
    refine lv_goto (tgt := 33) hx hb dX7_isWanted_29 (by decide) ?_
    exact z_top (zB (wanted f x)) (zB_t (by unfold wanted; omega)).symm (hret dX7_isWanted_33)
  · refine lv_iload_n hx hb dX7_isWanted_4 rfl (lv_at hl 1 rfl) ?_
    refine lv_aload_n hx hb dX7_isWanted_5 rfl (lv_at hl 0 rfl) ?_
    refine va_get (D := D) (ci := 7) (v := .ref (a 0)) (C := RX7) (T := TX7) (N := 12) hx hb hts in7 hown hK hP 0 rfl rfl 0 (by decide) f7 (fun _ h9 => h9) rfl dX7_isWanted_6 ?_
    refine z_iconst hx hb dX7_isWanted_9 ?_
    refine z_iald hx hb hK hP 1 0 rfl rfl (by omega) (Nat.lt_of_succ_le (Nat.le_of_ble_eq_true rfl)) dX7_isWanted_10 ?_
    refine z_icmp_eq (tgt := 28) hx hb dX7_isWanted_11 (by decide) (by omega) (by omega) (fun c11 => ?_) (fun c11 => ?_)
    · refine z_iconst hx hb dX7_isWanted_28 ?_
      refine lv_goto (tgt := 33) hx hb dX7_isWanted_29 (by decide) ?_
      exact z_top (zB (wanted f x)) (zB_t (by unfold wanted; omega)).symm (hret dX7_isWanted_33)
    · refine lv_aload_n hx hb dX7_isWanted_14 rfl (lv_at hl 0 rfl) ?_
      refine va_get (D := D) (ci := 7) (v := .ref (a 0)) (C := RX7) (T := TX7) (N := 12) hx hb hts in7 hown hK hP 0 rfl rfl 0 (by decide) f7 (fun _ h9 => h9) rfl dX7_isWanted_15 ?_
      refine z_sipush hx hb dX7_isWanted_18 (by decide +kernel) ?_
      refine lv_iload_n hx hb dX7_isWanted_21 rfl (lv_at hl 1 rfl) ?_
      refine z_iadd hx hb dX7_isWanted_22 ?_
      refine z_iald hx hb hK hP 1 0 rfl rfl (by omega) (Nat.lt_of_succ_le (Nat.le_of_ble_eq_true rfl)) dX7_isWanted_23 ?_
      have h21 := oneed x (by omega) (by omega)
      refine z_iconst hx hb dX7_isWanted_24 ?_
      refine z_icmp_ne (tgt := 32) hx hb dX7_isWanted_25 (by decide) (by omega) (by omega) (fun c25 => ?_) (fun c25 => ?_)
      · refine z_iconst hx hb dX7_isWanted_32 ?_
        exact z_top (zB (wanted f x)) (zB_f (by unfold wanted; omega)).symm (hret dX7_isWanted_33)
      · refine z_iconst hx hb dX7_isWanted_28 ?_
        refine lv_goto (tgt := 33) hx hb dX7_isWanted_29 (by decide) ?_
        exact z_top (zB (wanted f x)) (zB_t (by unfold wanted; omega)).symm (hret dX7_isWanted_33)

abbrev rmX7_isSeenLate : Room := { frames := 0, cells := 0, slots := 0, locals := 0 }
theorem jX7_isSeenLate : yX7_isSeenLate.cls = RX7 ∧ yX7_isSeenLate.cls ≠ "java/lang/invoke/MethodHandle" ∧ yX7_isSeenLate.cls ≠ "java/lang/invoke/VarHandle" ∧ (parseMethodDescriptor yX7_isSeenLate.desc).map (fun d => d.parameters.length) = some 1 := by decide +kernel
set_option maxHeartbeats 4000000 in
set_option maxRecDepth 100000 in
theorem kX7_isSeenLate (l : Launch) (D : va_G) (cI cJ cS : ClassId) (m0 : Nat) (a : Nat → Nat) (ke th hs : Int) (f : Int → Int) (gd : Int → Int) (x : Int) (ok : OkF f) (hgd : ∀ x : Int, 0 ≤ x → x ≤ f 0 → 0 ≤ gd x ∧ gd x ≤ 1000) (h1 : 0 ≤ x ∧ x ≤ f 0) : Met l yX7_isSeenLate wsX7_isSeenLate rmX7_isSeenLate (zPc D (zT cI cJ cS) [.ref m0, .int (zI (x))] [(m0, .inr (7, [.ref (a 0), .ref (a 1), .int (zI (ke)), .int (zI (th)), .ref (a 2), .ref (a 3), .ref (a 4), .ref (a 5), .ref (a 6), .ref (a 7), .ref (a 8), .long (zL (hs))])), (a 0, .inl (cI, 612, .inl (zA f))), (a 4, .inl (cI, 121, .inl (zA gd)))]) (vp_Si (fun r => r = zI (zB (isLate f gd x)))) 0 0 (fun _ => False) := by
  refine zRz_of (cc := cX7_isSeenLate) (maxL := 3) (ret := (some .boolean)) (zB (isLate f gd x)) (by decide) rfl (Nat.le_of_ble_eq_true rfl) rfl (zB_01 _) ?_
  intro p e s m args below meth c Q ls hx hb hml hts hown hK hP hD hl hret
  have in7 : ∀ w ∈ wsX70, w ∈ wsX7_isSeenLate := by decide +kernel
  have f7 := hts (.fieldLink RX7 7 "SignalSpacingModel" "now" "[I") (by decide +kernel)
  have f23 := hts (.fieldLink RX7 23 "SignalSpacingModel" "distances" "[I") (by decide +kernel)
  have hl : lv_has ls 3 [(0, .ref m0), (1, .int (zI (x)))] := hl
  have hP : va_P D vwCl [(m0, .inr (7, [.ref (a 0), .ref (a 1), .int (zI (ke)), .int (zI (th)), .ref (a 2), .ref (a 3), .ref (a 4), .ref (a 5), .ref (a 6), .ref (a 7), .ref (a 8), .long (zL (hs))])), (a 0, .inl (cI, 612, .inl (zA f))), (a 4, .inl (cI, 121, .inl (zA gd)))] s.heap := hP
  obtain ⟨o0, o1, o2, o3, o4, o5, o7, o8, olim, ogrd, obar, oneed, opost⟩ := id ok
  have hs1 := sgt_b ok h1.1
  have hs2 := hgd (sgt f x) hs1.1 (by omega)
  have J24 :  ∀ (ls : Array Slot), lv_has ls 3 [(0, .ref m0), (1, .int (zI (x)))] → W p l e rmX7_isSeenLate s m args below meth c s.heap [] 0 0 Q (F0 m 24 ls [.int (zI (sgt f x))]) := by
    intro  ls hl
    refine lv_istore_n (lv' := [(2, .int (zI (sgt f x))), (0, .ref m0), (1, .int (zI (x)))]) hx hb dX7_isSeenLate_24 rfl hl (by decide) rfl (fun ls hl => ?_)
    refine lv_aload_n hx hb dX7_isSeenLate_25 rfl (lv_at hl 1 rfl) ?_
    refine va_get (D := D) (ci := 7) (v := .ref (a 4)) (C := RX7) (T := TX7) (N := 12) hx hb hts in7 hown hK hP 0 rfl rfl 6 (by decide) f23 (fun _ h9 => h9) rfl dX7_isSeenLate_26 ?_
    refine lv_iload_n hx hb dX7_isSeenLate_29 rfl (lv_at hl 0 rfl) ?_
    refine z_iald hx hb hK hP 2 0 rfl rfl (by omega) (Nat.lt_of_succ_le (Nat.le_of_ble_eq_true rfl)) dX7_isSeenLate_30 ?_
    refine lv_iload_n hx hb dX7_isSeenLate_31 rfl (lv_at hl 2 rfl) ?_
    refine lv_iload_n hx hb dX7_isSeenLate_32 rfl (lv_at hl 0 rfl) ?_
    refine z_isub hx hb dX7_isSeenLate_33 ?_
    refine z_icmp_le (tgt := 41) hx hb dX7_isSeenLate_34 (by decide) (by omega) (by omega) (fun c34 => ?_) (fun c34 => ?_)
    · refine z_iconst hx hb dX7_isSeenLate_41 ?_
      exact z_top (zB (isLate f gd x)) (zB_f (by unfold isLate; omega)).symm (hret dX7_isSeenLate_42)
    · refine z_iconst hx hb dX7_isSeenLate_37 ?_
      refine lv_goto (tgt := 42) hx hb dX7_isSeenLate_38 (by decide) ?_
      exact z_top (zB (isLate f gd x)) (zB_t (by unfold isLate; omega)).symm (hret dX7_isSeenLate_42)
  refine lv_iload_n hx hb dX7_isSeenLate_0 rfl (lv_at hl 1 rfl) ?_
  refine lv_aload_n hx hb dX7_isSeenLate_1 rfl (lv_at hl 0 rfl) ?_
  refine va_get (D := D) (ci := 7) (v := .ref (a 0)) (C := RX7) (T := TX7) (N := 12) hx hb hts in7 hown hK hP 0 rfl rfl 0 (by decide) f7 (fun _ h9 => h9) rfl dX7_isSeenLate_2 ?_
  refine z_bipush hx hb dX7_isSeenLate_5 (by decide +kernel) ?_
  refine z_iald hx hb hK hP 1 0 rfl rfl (by omega) (Nat.lt_of_succ_le (Nat.le_of_ble_eq_true rfl)) dX7_isSeenLate_7 ?_
  refine z_icmp_ge (tgt := 15) hx hb dX7_isSeenLate_8 (by decide) (by omega) (by omega) (fun c8 => ?_) (fun c8 => ?_)
  · refine lv_iload_n hx hb dX7_isSeenLate_15 rfl (lv_at hl 1 rfl) ?_
    refine lv_aload_n hx hb dX7_isSeenLate_16 rfl (lv_at hl 0 rfl) ?_
    refine va_get (D := D) (ci := 7) (v := .ref (a 0)) (C := RX7) (T := TX7) (N := 12) hx hb hts in7 hown hK hP 0 rfl rfl 0 (by decide) f7 (fun _ h9 => h9) rfl dX7_isSeenLate_17 ?_
    refine z_bipush hx hb dX7_isSeenLate_20 (by decide +kernel) ?_
    refine z_iald hx hb hK hP 1 0 rfl rfl (by omega) (Nat.lt_of_succ_le (Nat.le_of_ble_eq_true rfl)) dX7_isSeenLate_22 ?_
    refine z_isub hx hb dX7_isSeenLate_23 ?_
    refine z_top (sgt f x) (by unfold sgt; exact if h9 : f 7 < x then (by rw [if_pos h9]) else (by rw [if_neg h9]; omega)) ?_
    exact J24  ls (lv_sub hl [0, 1] rfl)
  · refine z_iconst hx hb dX7_isSeenLate_11 ?_
    refine lv_goto (tgt := 24) hx hb dX7_isSeenLate_12 (by decide) ?_
    refine z_top (sgt f x) (by unfold sgt; rw [if_neg (by omega)]) ?_
    exact J24  ls (lv_sub hl [0, 1] rfl)

abbrev rmX7_isTooNear : Room := { frames := 1, cells := 0, slots := 0, locals := 22 }
theorem jX7_isTooNear : yX7_isTooNear.cls = RX7 ∧ yX7_isTooNear.cls ≠ "java/lang/invoke/MethodHandle" ∧ yX7_isTooNear.cls ≠ "java/lang/invoke/VarHandle" ∧ (parseMethodDescriptor yX7_isTooNear.desc).map (fun d => d.parameters.length) = some 2 := by decide +kernel
set_option maxHeartbeats 4000000 in
set_option maxRecDepth 100000 in
theorem kX7_isTooNear (l : Launch) (D : va_G) (cI cJ cS : ClassId) (m0 : Nat) (a : Nat → Nat) (ke th hs : Int) (f : Int → Int) (gd gr : Int → Int) (n i : Int) (ok : OkF f) (hgd : ∀ x : Int, 0 ≤ x → x ≤ f 0 → 0 ≤ gd x ∧ gd x ≤ 1000) (rep : Rep f gr n) (h1 : 0 ≤ i ∧ i < n) : Met l yX7_isTooNear wsX7_isTooNear rmX7_isTooNear (zPc D (zT cI cJ cS) [.ref m0, .int (zI (i)), .int (zI (n))] [(m0, .inr (7, [.ref (a 0), .ref (a 1), .int (zI (ke)), .int (zI (th)), .ref (a 2), .ref (a 3), .ref (a 4), .ref (a 5), .ref (a 6), .ref (a 7), .ref (a 8), .long (zL (hs))])), (a 0, .inl (cI, 612, .inl (zA f))), (a 4, .inl (cI, 121, .inl (zA gd))), (a 6, .inl (cI, 121, .inl (zA gr)))]) (vp_Si (fun r => r = zI (zB (near f gr gd n i (gr i))))) 0 0 (fun _ => False) := by
  refine zRz_of (cc := cX7_isTooNear) (maxL := 5) (ret := (some .boolean)) (zB (near f gr gd n i (gr i))) (by decide) rfl (Nat.le_of_ble_eq_true rfl) rfl (zB_01 _) ?_
  intro p e s m args below meth c Q ls hx hb hml hts hown hK hP hD hl hret
  have in7 : ∀ w ∈ wsX70, w ∈ wsX7_isTooNear := by decide +kernel
  have f7 := hts (.fieldLink RX7 7 "SignalSpacingModel" "now" "[I") (by decide +kernel)
  have f23 := hts (.fieldLink RX7 23 "SignalSpacingModel" "distances" "[I") (by decide +kernel)
  have f29 := hts (.fieldLink RX7 29 "SignalSpacingModel" "row" "[I") (by decide +kernel)
  have hl : lv_has ls 5 [(0, .ref m0), (1, .int (zI (i))), (2, .int (zI (n)))] := hl
  have hP : va_P D vwCl [(m0, .inr (7, [.ref (a 0), .ref (a 1), .int (zI (ke)), .int (zI (th)), .ref (a 2), .ref (a 3), .ref (a 4), .ref (a 5), .ref (a 6), .ref (a 7), .ref (a 8), .long (zL (hs))])), (a 0, .inl (cI, 612, .inl (zA f))), (a 4, .inl (cI, 121, .inl (zA gd))), (a 6, .inl (cI, 121, .inl (zA gr)))] s.heap := hP
  obtain ⟨o0, o1, o2, o3, o4, o5, o7, o8, olim, ogrd, obar, oneed, opost⟩ := id ok
  have hn := rep_n ok rep
  have hi9 := rep_k ok rep h1.1 h1.2
  have hd9 := hgd (gr i) hi9.1 hi9.2.1
  refine lv_aload_n hx hb dX7_isTooNear_0 rfl (lv_at hl 0 rfl) ?_
  refine va_get (D := D) (ci := 7) (v := .ref (a 6)) (C := RX7) (T := TX7) (N := 12) hx hb hts in7 hown hK hP 0 rfl rfl 8 (by decide) f29 (fun _ h9 => h9) rfl dX7_isTooNear_1 ?_
  refine lv_iload_n hx hb dX7_isTooNear_4 rfl (lv_at hl 1 rfl) ?_
  refine z_iald hx hb hK hP 3 0 rfl rfl (by omega) (Nat.lt_of_succ_le (Nat.le_of_ble_eq_true rfl)) dX7_isTooNear_5 ?_
  refine lv_istore_n (lv' := [(3, .int (zI (gr i))), (0, .ref m0), (1, .int (zI (i))), (2, .int (zI (n)))]) hx hb dX7_isTooNear_6 rfl hl (by decide) rfl (fun ls hl => ?_)
  refine lv_aload_n hx hb dX7_isTooNear_7 rfl (lv_at hl 1 rfl) ?_
  refine va_get (D := D) (ci := 7) (v := .ref (a 0)) (C := RX7) (T := TX7) (N := 12) hx hb hts in7 hown hK hP 0 rfl rfl 0 (by decide) f7 (fun _ h9 => h9) rfl dX7_isTooNear_8 ?_
  refine z_iconst hx hb dX7_isTooNear_11 ?_
  refine z_iald hx hb hK hP 1 0 rfl rfl (by omega) (Nat.lt_of_succ_le (Nat.le_of_ble_eq_true rfl)) dX7_isTooNear_12 ?_
  refine z_iconst hx hb dX7_isTooNear_13 ?_
  refine z_icmp_ne (tgt := 35) hx hb dX7_isTooNear_14 (by decide) (by omega) (by omega) (fun c14 => ?_) (fun c14 => ?_)
  · refine lv_iload_n hx hb dX7_isTooNear_35 rfl (lv_at hl 2 rfl) ?_
    refine lv_aload_n hx hb dX7_isTooNear_36 rfl (lv_at hl 1 rfl) ?_
    refine va_get (D := D) (ci := 7) (v := .ref (a 0)) (C := RX7) (T := TX7) (N := 12) hx hb hts in7 hown hK hP 0 rfl rfl 0 (by decide) f7 (fun _ h9 => h9) rfl dX7_isTooNear_37 ?_
    refine z_iconst hx hb dX7_isTooNear_40 ?_
    refine z_iald hx hb hK hP 1 0 rfl rfl (by omega) (Nat.lt_of_succ_le (Nat.le_of_ble_eq_true rfl)) dX7_isTooNear_41 ?_
    refine z_iadd hx hb dX7_isTooNear_42 ?_
    refine z_iconst hx hb dX7_isTooNear_43 ?_
    refine z_isub hx hb dX7_isTooNear_44 ?_
    refine lv_istore (lv' := [(4, .int (zI ((i + (f 4)) - 2))), (3, .int (zI (gr i))), (0, .ref m0), (1, .int (zI (i))), (2, .int (zI (n)))]) hx hb dX7_isTooNear_45 hl (by decide) rfl (fun ls hl => ?_)
    refine lv_iload hx hb dX7_isTooNear_47 (lv_at hl 0 rfl) ?_
    refine lv_iload_n hx hb dX7_isTooNear_49 rfl (lv_at hl 4 rfl) ?_
    refine z_icmp_ge (tgt := 75) hx hb dX7_isTooNear_50 (by decide) (by omega) (by omega) (fun c50 => ?_) (fun c50 => ?_)
    · refine z_iconst hx hb dX7_isTooNear_75 ?_
      exact z_top (zB (near f gr gd n i (gr i))) (zB_f (fun q => by rcases q with ⟨q1, q2, q3⟩ | ⟨q1, q2, q3⟩ <;> omega)).symm (hret dX7_isTooNear_76)
    · have hj9 := rep_k ok rep (k := i + f 4 - 2) (by omega) (by omega)
      refine lv_aload_n hx hb dX7_isTooNear_53 rfl (lv_at hl 2 rfl) ?_
      refine va_get (D := D) (ci := 7) (v := .ref (a 6)) (C := RX7) (T := TX7) (N := 12) hx hb hts in7 hown hK hP 0 rfl rfl 8 (by decide) f29 (fun _ h9 => h9) rfl dX7_isTooNear_54 ?_
      refine lv_iload hx hb dX7_isTooNear_57 (lv_at hl 0 rfl) ?_
      refine z_iald hx hb hK hP 3 0 rfl rfl (by omega) (Nat.lt_of_succ_le (Nat.le_of_ble_eq_true rfl)) dX7_isTooNear_59 ?_
      refine lv_iload_n hx hb dX7_isTooNear_60 rfl (lv_at hl 1 rfl) ?_
      refine z_isub hx hb dX7_isTooNear_61 ?_
      refine lv_aload_n hx hb dX7_isTooNear_62 rfl (lv_at hl 2 rfl) ?_
      refine va_get (D := D) (ci := 7) (v := .ref (a 4)) (C := RX7) (T := TX7) (N := 12) hx hb hts in7 hown hK hP 0 rfl rfl 6 (by decide) f23 (fun _ h9 => h9) rfl dX7_isTooNear_63 ?_
      refine lv_iload_n hx hb dX7_isTooNear_66 rfl (lv_at hl 1 rfl) ?_
      refine z_iald hx hb hK hP 2 0 rfl rfl (by omega) (Nat.lt_of_succ_le (Nat.le_of_ble_eq_true rfl)) dX7_isTooNear_67 ?_
      refine z_icmp_ge (tgt := 75) hx hb dX7_isTooNear_68 (by decide) (by omega) (by omega) (fun c68 => ?_) (fun c68 => ?_)
      · refine z_iconst hx hb dX7_isTooNear_75 ?_
        exact z_top (zB (near f gr gd n i (gr i))) (zB_f (fun q => by rcases q with ⟨q1, q2, q3⟩ | ⟨q1, q2, q3⟩ <;> omega)).symm (hret dX7_isTooNear_76)
      · refine z_iconst hx hb dX7_isTooNear_71 ?_
        refine lv_goto (tgt := 76) hx hb dX7_isTooNear_72 (by decide) ?_
        exact z_top (zB (near f gr gd n i (gr i))) (zB_t (Or.inr ⟨c14, by omega, by omega⟩)).symm (hret dX7_isTooNear_76)
  · refine lv_iload_n hx hb dX7_isTooNear_17 rfl (lv_at hl 2 rfl) ?_
    refine z_if_le (tgt := 33) hx hb dX7_isTooNear_18 (by decide) (by omega) (fun c18 => ?_) (fun c18 => ?_)
    · refine z_iconst hx hb dX7_isTooNear_33 ?_
      exact z_top (zB (near f gr gd n i (gr i))) (zB_f (fun q => by rcases q with ⟨q1, q2, q3⟩ | ⟨q1, q2, q3⟩ <;> omega)).symm (hret dX7_isTooNear_34)
    · refine lv_aload_n hx hb dX7_isTooNear_21 rfl (lv_at hl 1 rfl) ?_
      refine lv_iload_n hx hb dX7_isTooNear_22 rfl (lv_at hl 0 rfl) ?_
      refine y_rV (v := zB (isLate f gd (gr i))) (As := [.int (zI (gr i))]) (rest := []) hx hb hml hown hts hl.1 ⟨Nat.zero_le _, Nat.zero_le _⟩ (kX7_isSeenLate l D cI cJ cS m0 a ke th hs f gd (gr i) ok hgd (by omega)) (cwV 1 hts gX7_isTooNear_X7_isSeenLate rfl rfl rfl jX7_isSeenLate ⟨Nat.le_of_ble_eq_true rfl, Nat.le_of_ble_eq_true rfl⟩) hK [true, true, true] hP hD rfl 7 0 rfl rfl rfl rfl rfl (Nat.le_of_ble_eq_true rfl) dX7_isTooNear_23 ?_
      refine z_if_eq (tgt := 33) hx hb dX7_isTooNear_26 (by decide) (by have hz := zB_01 (isLate f gd (gr i)); omega) (fun c26 => ?_) (fun c26 => ?_)
      · have c26 := zB_0.mp c26
        refine z_iconst hx hb dX7_isTooNear_33 ?_
        exact z_top (zB (near f gr gd n i (gr i))) (zB_f (fun q => q.elim (fun z => c26 z.2.2) (fun z => z.1 c14))).symm (hret dX7_isTooNear_34)
      · have c26 := zB_n0.mp c26
        refine z_iconst hx hb dX7_isTooNear_29 ?_
        refine lv_goto (tgt := 34) hx hb dX7_isTooNear_30 (by decide) ?_
        exact z_top (zB (near f gr gd n i (gr i))) (zB_t (Or.inl ⟨c14, c18, c26⟩)).symm (hret dX7_isTooNear_34)

abbrev rmX7_isViolated : Room := { frames := 2, cells := 0, slots := 0, locals := 46 }
theorem jX7_isViolated : yX7_isViolated.cls = RX7 ∧ yX7_isViolated.cls ≠ "java/lang/invoke/MethodHandle" ∧ yX7_isViolated.cls ≠ "java/lang/invoke/VarHandle" ∧ (parseMethodDescriptor yX7_isViolated.desc).map (fun d => d.parameters.length) = some 4 := by decide +kernel
set_option maxHeartbeats 4000000 in
set_option maxRecDepth 100000 in
theorem kX7_isViolated_1 (l : Launch) (D : va_G) (cI cJ cS : ClassId) (m0 : Nat) (a : Nat → Nat) (ke th hs : Int) (f : Int → Int) (gd gr : Int → Int) (n i x : Int) (ok : OkF f) (hgd : ∀ x : Int, 0 ≤ x → x ≤ f 0 → 0 ≤ gd x ∧ gd x ≤ 1000) (rep : Rep f gr n) (h1 : 0 ≤ x ∧ x ≤ f 0) (hi : i = rank f x) : Met l yX7_isViolated wsX7_isViolated rmX7_isViolated (zPc D (zT cI cJ cS) [.ref m0, .int (zI (1)), .int (zI (x)), .int (zI (i)), .int (zI (n))] [(m0, .inr (7, [.ref (a 0), .ref (a 1), .int (zI (ke)), .int (zI (th)), .ref (a 2), .ref (a 3), .ref (a 4), .ref (a 5), .ref (a 6), .ref (a 7), .ref (a 8), .long (zL (hs))])), (a 0, .inl (cI, 612, .inl (zA f))), (a 4, .inl (cI, 121, .inl (zA gd))), (a 6, .inl (cI, 121, .inl (zA gr)))]) (vp_Si (fun r => r = zI (zB (f (491 + x) = 1 ∧ f (249 + x) = 1)))) 0 0 (fun _ => False) := by
  refine zRz_of (cc := cX7_isViolated) (maxL := 6) (ret := (some .boolean)) (zB (f (491 + x) = 1 ∧ f (249 + x) = 1)) (by decide) rfl (Nat.le_of_ble_eq_true rfl) rfl (zB_01 _) ?_
  intro p e s m args below meth c Q ls hx hb hml hts hown hK hP hD hl hret
  have in7 : ∀ w ∈ wsX70, w ∈ wsX7_isViolated := by decide +kernel
  have f7 := hts (.fieldLink RX7 7 "SignalSpacingModel" "now" "[I") (by decide +kernel)
  have hl : lv_has ls 6 [(0, .ref m0), (1, .int (zI (1))), (2, .int (zI (x))), (3, .int (zI (i))), (4, .int (zI (n)))] := hl
  have hP : va_P D vwCl [(m0, .inr (7, [.ref (a 0), .ref (a 1), .int (zI (ke)), .int (zI (th)), .ref (a 2), .ref (a 3), .ref (a 4), .ref (a 5), .ref (a 6), .ref (a 7), .ref (a 8), .long (zL (hs))])), (a 0, .inl (cI, 612, .inl (zA f))), (a 4, .inl (cI, 121, .inl (zA gd))), (a 6, .inl (cI, 121, .inl (zA gr)))] s.heap := hP
  obtain ⟨o0, o1, o2, o3, o4, o5, o7, o8, olim, ogrd, obar, oneed, opost⟩ := id ok
  have hn := rep_n ok rep
  have hr9 := rank_b ok h1.1 (by omega : x ≤ 121)
  have hrm := rank_mono ok h1.1 (by omega : x ≤ f 0 + 1) (by omega)
  have hr1 := rep.1
  have hb1 := opost x h1.1 (by omega)
  have hb2 := obar x h1.1 (by omega)
  have hlt : f (491 + x) = 1 → i < n := fun q => by have := rank_lt ok h1.1 (by omega : x < f 0 + 1) (by omega) q; omega
  have hix : f (491 + x) = 1 → gr i = x := fun q => by rw [hi]; exact rep.2 x h1.1 h1.2 q
  refine lv_aload_n hx hb dX7_isViolated_0 rfl (lv_at hl 0 rfl) ?_
  refine va_get (D := D) (ci := 7) (v := .ref (a 0)) (C := RX7) (T := TX7) (N := 12) hx hb hts in7 hown hK hP 0 rfl rfl 0 (by decide) f7 (fun _ h9 => h9) rfl dX7_isViolated_1 ?_
  refine z_sipush hx hb dX7_isViolated_4 (by decide +kernel) ?_
  refine lv_iload_n hx hb dX7_isViolated_7 rfl (lv_at hl 2 rfl) ?_
  refine z_iadd hx hb dX7_isViolated_8 ?_
  refine z_iald hx hb hK hP 1 0 rfl rfl (by omega) (Nat.lt_of_succ_le (Nat.le_of_ble_eq_true rfl)) dX7_isViolated_9 ?_
  have J19 :  ∀ (ls : Array Slot), lv_has ls 6 [(0, .ref m0), (1, .int (zI (1))), (2, .int (zI (x))), (3, .int (zI (i))), (4, .int (zI (n)))] → W p l e rmX7_isViolated s m args below meth c s.heap [] 0 0 Q (F0 m 19 ls [.int (zI (zB (f (491 + x) = 1)))]) := by
    intro  ls hl
    refine lv_istore (lv' := [(5, .int (zI (zB (f (491 + x) = 1)))), (0, .ref m0), (1, .int (zI (1))), (2, .int (zI (x))), (3, .int (zI (i))), (4, .int (zI (n)))]) hx hb dX7_isViolated_19 hl (by decide) rfl (fun ls hl => ?_)
    refine lv_iload_n hx hb dX7_isViolated_21 rfl (lv_at hl 2 rfl) ?_
    refine lv_tableIn (off := 30) (tgt := 52) hx hb dX7_isViolated_22 (by decide +kernel) (by decide +kernel) (by decide +kernel) (by decide) ?_
    refine lv_iload hx hb dX7_isViolated_52 (lv_at hl 0 rfl) ?_
    refine z_if_eq (tgt := 75) hx hb dX7_isViolated_54 (by decide) (by have hz := zB_01 (f (491 + x) = 1); omega) (fun c54 => ?_) (fun c54 => ?_)
    · have c54 := zB_0.mp c54
      refine z_iconst hx hb dX7_isViolated_75 ?_
      exact z_top (zB (f (491 + x) = 1 ∧ f (249 + x) = 1)) (zB_f (P := f (491 + x) = 1 ∧ f (249 + x) = 1) (fun q => c54 q.1)).symm (hret dX7_isViolated_76)
    · have c54 := zB_n0.mp c54
      refine lv_aload_n hx hb dX7_isViolated_57 rfl (lv_at hl 1 rfl) ?_
      refine va_get (D := D) (ci := 7) (v := .ref (a 0)) (C := RX7) (T := TX7) (N := 12) hx hb hts in7 hown hK hP 0 rfl rfl 0 (by decide) f7 (fun _ h9 => h9) rfl dX7_isViolated_58 ?_
      refine z_sipush hx hb dX7_isViolated_61 (by decide +kernel) ?_
      refine lv_iload_n hx hb dX7_isViolated_64 rfl (lv_at hl 3 rfl) ?_
      refine z_iadd hx hb dX7_isViolated_65 ?_
      refine z_iald hx hb hK hP 1 0 rfl rfl (by omega) (Nat.lt_of_succ_le (Nat.le_of_ble_eq_true rfl)) dX7_isViolated_66 ?_
      refine z_iconst hx hb dX7_isViolated_67 ?_
      refine z_icmp_ne (tgt := 75) hx hb dX7_isViolated_68 (by decide) (by omega) (by omega) (fun c68 => ?_) (fun c68 => ?_)
      · refine z_iconst hx hb dX7_isViolated_75 ?_
        exact z_top (zB (f (491 + x) = 1 ∧ f (249 + x) = 1)) (zB_f (P := f (491 + x) = 1 ∧ f (249 + x) = 1) (fun q => by have := q.2; omega)).symm (hret dX7_isViolated_76)
      · refine z_iconst hx hb dX7_isViolated_71 ?_
        refine lv_goto (tgt := 76) hx hb dX7_isViolated_72 (by decide) ?_
        exact z_top (zB (f (491 + x) = 1 ∧ f (249 + x) = 1)) (zB_t (P := f (491 + x) = 1 ∧ f (249 + x) = 1) ⟨c54, by omega⟩).symm (hret dX7_isViolated_76)
  refine z_iconst hx hb dX7_isViolated_10 ?_
  refine z_icmp_ne (tgt := 18) hx hb dX7_isViolated_11 (by decide) (by omega) (by omega) (fun c11 => ?_) (fun c11 => ?_)
  · refine z_iconst hx hb dX7_isViolated_18 ?_
    refine z_top (zB (f (491 + x) = 1)) (zB_f (P := f (491 + x) = 1) (by omega)).symm ?_
    exact J19  ls (lv_sub hl [0, 1, 2, 3, 4] rfl)
  · refine z_iconst hx hb dX7_isViolated_14 ?_
    refine lv_goto (tgt := 19) hx hb dX7_isViolated_15 (by decide) ?_
    refine z_top (zB (f (491 + x) = 1)) (zB_t (P := f (491 + x) = 1) (by omega)).symm ?_
    exact J19  ls (lv_sub hl [0, 1, 2, 3, 4] rfl)

set_option maxHeartbeats 4000000 in
set_option maxRecDepth 100000 in
theorem kX7_isViolated_2 (l : Launch) (D : va_G) (cI cJ cS : ClassId) (m0 : Nat) (a : Nat → Nat) (ke th hs : Int) (f : Int → Int) (gd gr : Int → Int) (n i x : Int) (ok : OkF f) (hgd : ∀ x : Int, 0 ≤ x → x ≤ f 0 → 0 ≤ gd x ∧ gd x ≤ 1000) (rep : Rep f gr n) (h1 : 0 ≤ x ∧ x ≤ f 0) (hi : i = rank f x) : Met l yX7_isViolated wsX7_isViolated rmX7_isViolated (zPc D (zT cI cJ cS) [.ref m0, .int (zI (2)), .int (zI (x)), .int (zI (i)), .int (zI (n))] [(m0, .inr (7, [.ref (a 0), .ref (a 1), .int (zI (ke)), .int (zI (th)), .ref (a 2), .ref (a 3), .ref (a 4), .ref (a 5), .ref (a 6), .ref (a 7), .ref (a 8), .long (zL (hs))])), (a 0, .inl (cI, 612, .inl (zA f))), (a 4, .inl (cI, 121, .inl (zA gd))), (a 6, .inl (cI, 121, .inl (zA gr)))]) (vp_Si (fun r => r = zI (zB (f (491 + x) ≠ 1 ∧ wanted f x)))) 0 0 (fun _ => False) := by
  refine zRz_of (cc := cX7_isViolated) (maxL := 6) (ret := (some .boolean)) (zB (f (491 + x) ≠ 1 ∧ wanted f x)) (by decide) rfl (Nat.le_of_ble_eq_true rfl) rfl (zB_01 _) ?_
  intro p e s m args below meth c Q ls hx hb hml hts hown hK hP hD hl hret
  have in7 : ∀ w ∈ wsX70, w ∈ wsX7_isViolated := by decide +kernel
  have f7 := hts (.fieldLink RX7 7 "SignalSpacingModel" "now" "[I") (by decide +kernel)
  have hl : lv_has ls 6 [(0, .ref m0), (1, .int (zI (2))), (2, .int (zI (x))), (3, .int (zI (i))), (4, .int (zI (n)))] := hl
  have hP : va_P D vwCl [(m0, .inr (7, [.ref (a 0), .ref (a 1), .int (zI (ke)), .int (zI (th)), .ref (a 2), .ref (a 3), .ref (a 4), .ref (a 5), .ref (a 6), .ref (a 7), .ref (a 8), .long (zL (hs))])), (a 0, .inl (cI, 612, .inl (zA f))), (a 4, .inl (cI, 121, .inl (zA gd))), (a 6, .inl (cI, 121, .inl (zA gr)))] s.heap := hP
  obtain ⟨o0, o1, o2, o3, o4, o5, o7, o8, olim, ogrd, obar, oneed, opost⟩ := id ok
  have hn := rep_n ok rep
  have hr9 := rank_b ok h1.1 (by omega : x ≤ 121)
  have hrm := rank_mono ok h1.1 (by omega : x ≤ f 0 + 1) (by omega)
  have hr1 := rep.1
  have hb1 := opost x h1.1 (by omega)
  have hb2 := obar x h1.1 (by omega)
  have hlt : f (491 + x) = 1 → i < n := fun q => by have := rank_lt ok h1.1 (by omega : x < f 0 + 1) (by omega) q; omega
  have hix : f (491 + x) = 1 → gr i = x := fun q => by rw [hi]; exact rep.2 x h1.1 h1.2 q
  refine lv_aload_n hx hb dX7_isViolated_0 rfl (lv_at hl 0 rfl) ?_
  refine va_get (D := D) (ci := 7) (v := .ref (a 0)) (C := RX7) (T := TX7) (N := 12) hx hb hts in7 hown hK hP 0 rfl rfl 0 (by decide) f7 (fun _ h9 => h9) rfl dX7_isViolated_1 ?_
  refine z_sipush hx hb dX7_isViolated_4 (by decide +kernel) ?_
  refine lv_iload_n hx hb dX7_isViolated_7 rfl (lv_at hl 2 rfl) ?_
  refine z_iadd hx hb dX7_isViolated_8 ?_
  refine z_iald hx hb hK hP 1 0 rfl rfl (by omega) (Nat.lt_of_succ_le (Nat.le_of_ble_eq_true rfl)) dX7_isViolated_9 ?_
  have J19 :  ∀ (ls : Array Slot), lv_has ls 6 [(0, .ref m0), (1, .int (zI (2))), (2, .int (zI (x))), (3, .int (zI (i))), (4, .int (zI (n)))] → W p l e rmX7_isViolated s m args below meth c s.heap [] 0 0 Q (F0 m 19 ls [.int (zI (zB (f (491 + x) = 1)))]) := by
    intro  ls hl
    refine lv_istore (lv' := [(5, .int (zI (zB (f (491 + x) = 1)))), (0, .ref m0), (1, .int (zI (2))), (2, .int (zI (x))), (3, .int (zI (i))), (4, .int (zI (n)))]) hx hb dX7_isViolated_19 hl (by decide) rfl (fun ls hl => ?_)
    refine lv_iload_n hx hb dX7_isViolated_21 rfl (lv_at hl 2 rfl) ?_
    refine lv_tableIn (off := 55) (tgt := 77) hx hb dX7_isViolated_22 (by decide +kernel) (by decide +kernel) (by decide +kernel) (by decide) ?_
    refine lv_iload hx hb dX7_isViolated_77 (lv_at hl 0 rfl) ?_
    refine z_if_ne (tgt := 94) hx hb dX7_isViolated_79 (by decide) (by have hz := zB_01 (f (491 + x) = 1); omega) (fun c79 => ?_) (fun c79 => ?_)
    · have c79 := zB_n0.mp c79
      refine z_iconst hx hb dX7_isViolated_94 ?_
      exact z_top (zB (f (491 + x) ≠ 1 ∧ wanted f x)) (zB_f (P := f (491 + x) ≠ 1 ∧ wanted f x) (fun q => q.1 c79)).symm (hret dX7_isViolated_95)
    · have c79 := zB_0.mp c79
      refine lv_aload_n hx hb dX7_isViolated_82 rfl (lv_at hl 1 rfl) ?_
      refine lv_iload_n hx hb dX7_isViolated_83 rfl (lv_at hl 3 rfl) ?_
      refine y_rV (v := zB (wanted f x)) (As := [.int (zI (x))]) (rest := []) hx hb hml hown hts hl.1 ⟨Nat.zero_le _, Nat.zero_le _⟩ (kX7_isWanted l D cI cJ cS m0 a ke th hs f x ok (by omega)) (cwV 1 hts gX7_isViolated_X7_isWanted rfl rfl rfl jX7_isWanted ⟨Nat.le_of_ble_eq_true rfl, Nat.le_of_ble_eq_true rfl⟩) hK [true, true] hP hD rfl 7 0 rfl rfl rfl rfl rfl (Nat.le_of_ble_eq_true rfl) dX7_isViolated_84 ?_
      refine z_if_eq (tgt := 94) hx hb dX7_isViolated_87 (by decide) (by have hz := zB_01 (wanted f x); omega) (fun c87 => ?_) (fun c87 => ?_)
      · have c87 := zB_0.mp c87
        refine z_iconst hx hb dX7_isViolated_94 ?_
        exact z_top (zB (f (491 + x) ≠ 1 ∧ wanted f x)) (zB_f (P := f (491 + x) ≠ 1 ∧ wanted f x) (fun q => c87 q.2)).symm (hret dX7_isViolated_95)
      · have c87 := zB_n0.mp c87
        refine z_iconst hx hb dX7_isViolated_90 ?_
        refine lv_goto (tgt := 95) hx hb dX7_isViolated_91 (by decide) ?_
        exact z_top (zB (f (491 + x) ≠ 1 ∧ wanted f x)) (zB_t (P := f (491 + x) ≠ 1 ∧ wanted f x) ⟨c79, c87⟩).symm (hret dX7_isViolated_95)
  refine z_iconst hx hb dX7_isViolated_10 ?_
  refine z_icmp_ne (tgt := 18) hx hb dX7_isViolated_11 (by decide) (by omega) (by omega) (fun c11 => ?_) (fun c11 => ?_)
  · refine z_iconst hx hb dX7_isViolated_18 ?_
    refine z_top (zB (f (491 + x) = 1)) (zB_f (P := f (491 + x) = 1) (by omega)).symm ?_
    exact J19  ls (lv_sub hl [0, 1, 2, 3, 4] rfl)
  · refine z_iconst hx hb dX7_isViolated_14 ?_
    refine lv_goto (tgt := 19) hx hb dX7_isViolated_15 (by decide) ?_
    refine z_top (zB (f (491 + x) = 1)) (zB_t (P := f (491 + x) = 1) (by omega)).symm ?_
    exact J19  ls (lv_sub hl [0, 1, 2, 3, 4] rfl)

set_option maxHeartbeats 4000000 in
set_option maxRecDepth 100000 in
theorem kX7_isViolated_3 (l : Launch) (D : va_G) (cI cJ cS : ClassId) (m0 : Nat) (a : Nat → Nat) (ke th hs : Int) (f : Int → Int) (gd gr : Int → Int) (n i x : Int) (ok : OkF f) (hgd : ∀ x : Int, 0 ≤ x → x ≤ f 0 → 0 ≤ gd x ∧ gd x ≤ 1000) (rep : Rep f gr n) (h1 : 0 ≤ x ∧ x ≤ f 0) (hi : i = rank f x) : Met l yX7_isViolated wsX7_isViolated rmX7_isViolated (zPc D (zT cI cJ cS) [.ref m0, .int (zI (3)), .int (zI (x)), .int (zI (i)), .int (zI (n))] [(m0, .inr (7, [.ref (a 0), .ref (a 1), .int (zI (ke)), .int (zI (th)), .ref (a 2), .ref (a 3), .ref (a 4), .ref (a 5), .ref (a 6), .ref (a 7), .ref (a 8), .long (zL (hs))])), (a 0, .inl (cI, 612, .inl (zA f))), (a 4, .inl (cI, 121, .inl (zA gd))), (a 6, .inl (cI, 121, .inl (zA gr)))]) (vp_Si (fun r => r = zI (zB (f (491 + x) = 1 ∧ 0 < i ∧ x - gr (i - 1) < f 5)))) 0 0 (fun _ => False) := by
  refine zRz_of (cc := cX7_isViolated) (maxL := 6) (ret := (some .boolean)) (zB (f (491 + x) = 1 ∧ 0 < i ∧ x - gr (i - 1) < f 5)) (by decide) rfl (Nat.le_of_ble_eq_true rfl) rfl (zB_01 _) ?_
  intro p e s m args below meth c Q ls hx hb hml hts hown hK hP hD hl hret
  have in7 : ∀ w ∈ wsX70, w ∈ wsX7_isViolated := by decide +kernel
  have f7 := hts (.fieldLink RX7 7 "SignalSpacingModel" "now" "[I") (by decide +kernel)
  have f29 := hts (.fieldLink RX7 29 "SignalSpacingModel" "row" "[I") (by decide +kernel)
  have hl : lv_has ls 6 [(0, .ref m0), (1, .int (zI (3))), (2, .int (zI (x))), (3, .int (zI (i))), (4, .int (zI (n)))] := hl
  have hP : va_P D vwCl [(m0, .inr (7, [.ref (a 0), .ref (a 1), .int (zI (ke)), .int (zI (th)), .ref (a 2), .ref (a 3), .ref (a 4), .ref (a 5), .ref (a 6), .ref (a 7), .ref (a 8), .long (zL (hs))])), (a 0, .inl (cI, 612, .inl (zA f))), (a 4, .inl (cI, 121, .inl (zA gd))), (a 6, .inl (cI, 121, .inl (zA gr)))] s.heap := hP
  obtain ⟨o0, o1, o2, o3, o4, o5, o7, o8, olim, ogrd, obar, oneed, opost⟩ := id ok
  have hn := rep_n ok rep
  have hr9 := rank_b ok h1.1 (by omega : x ≤ 121)
  have hrm := rank_mono ok h1.1 (by omega : x ≤ f 0 + 1) (by omega)
  have hr1 := rep.1
  have hb1 := opost x h1.1 (by omega)
  have hb2 := obar x h1.1 (by omega)
  have hlt : f (491 + x) = 1 → i < n := fun q => by have := rank_lt ok h1.1 (by omega : x < f 0 + 1) (by omega) q; omega
  have hix : f (491 + x) = 1 → gr i = x := fun q => by rw [hi]; exact rep.2 x h1.1 h1.2 q
  refine lv_aload_n hx hb dX7_isViolated_0 rfl (lv_at hl 0 rfl) ?_
  refine va_get (D := D) (ci := 7) (v := .ref (a 0)) (C := RX7) (T := TX7) (N := 12) hx hb hts in7 hown hK hP 0 rfl rfl 0 (by decide) f7 (fun _ h9 => h9) rfl dX7_isViolated_1 ?_
  refine z_sipush hx hb dX7_isViolated_4 (by decide +kernel) ?_
  refine lv_iload_n hx hb dX7_isViolated_7 rfl (lv_at hl 2 rfl) ?_
  refine z_iadd hx hb dX7_isViolated_8 ?_
  refine z_iald hx hb hK hP 1 0 rfl rfl (by omega) (Nat.lt_of_succ_le (Nat.le_of_ble_eq_true rfl)) dX7_isViolated_9 ?_
  have J19 :  ∀ (ls : Array Slot), lv_has ls 6 [(0, .ref m0), (1, .int (zI (3))), (2, .int (zI (x))), (3, .int (zI (i))), (4, .int (zI (n)))] → W p l e rmX7_isViolated s m args below meth c s.heap [] 0 0 Q (F0 m 19 ls [.int (zI (zB (f (491 + x) = 1)))]) := by
    intro  ls hl
    refine lv_istore (lv' := [(5, .int (zI (zB (f (491 + x) = 1)))), (0, .ref m0), (1, .int (zI (3))), (2, .int (zI (x))), (3, .int (zI (i))), (4, .int (zI (n)))]) hx hb dX7_isViolated_19 hl (by decide) rfl (fun ls hl => ?_)
    refine lv_iload_n hx hb dX7_isViolated_21 rfl (lv_at hl 2 rfl) ?_
    refine lv_tableIn (off := 74) (tgt := 96) hx hb dX7_isViolated_22 (by decide +kernel) (by decide +kernel) (by decide +kernel) (by decide) ?_
    refine lv_iload hx hb dX7_isViolated_96 (lv_at hl 0 rfl) ?_
    refine z_if_eq (tgt := 128) hx hb dX7_isViolated_98 (by decide) (by have hz := zB_01 (f (491 + x) = 1); omega) (fun c98 => ?_) (fun c98 => ?_)
    · have c98 := zB_0.mp c98
      refine z_iconst hx hb dX7_isViolated_128 ?_
      exact z_top (zB (f (491 + x) = 1 ∧ 0 < i ∧ x - gr (i - 1) < f 5)) (zB_f (P := f (491 + x) = 1 ∧ 0 < i ∧ x - gr (i - 1) < f 5) (fun q => c98 q.1)).symm (hret dX7_isViolated_129)
    · have c98 := zB_n0.mp c98
      refine lv_iload_n hx hb dX7_isViolated_101 rfl (lv_at hl 4 rfl) ?_
      refine z_if_le (tgt := 128) hx hb dX7_isViolated_102 (by decide) (by omega) (fun c102 => ?_) (fun c102 => ?_)
      · refine z_iconst hx hb dX7_isViolated_128 ?_
        exact z_top (zB (f (491 + x) = 1 ∧ 0 < i ∧ x - gr (i - 1) < f 5)) (zB_f (P := f (491 + x) = 1 ∧ 0 < i ∧ x - gr (i - 1) < f 5) (fun q => by have := q.2; omega)).symm (hret dX7_isViolated_129)
      · have hj9 := rep_k ok rep (k := i - 1) (by omega) (by omega)
        refine lv_iload_n hx hb dX7_isViolated_105 rfl (lv_at hl 3 rfl) ?_
        refine lv_aload_n hx hb dX7_isViolated_106 rfl (lv_at hl 1 rfl) ?_
        refine va_get (D := D) (ci := 7) (v := .ref (a 6)) (C := RX7) (T := TX7) (N := 12) hx hb hts in7 hown hK hP 0 rfl rfl 8 (by decide) f29 (fun _ h9 => h9) rfl dX7_isViolated_107 ?_
        refine lv_iload_n hx hb dX7_isViolated_110 rfl (lv_at hl 4 rfl) ?_
        refine z_iconst hx hb dX7_isViolated_111 ?_
        refine z_isub hx hb dX7_isViolated_112 ?_
        refine z_iald hx hb hK hP 3 0 rfl rfl (by omega) (Nat.lt_of_succ_le (Nat.le_of_ble_eq_true rfl)) dX7_isViolated_113 ?_
        refine z_isub hx hb dX7_isViolated_114 ?_
        refine lv_aload_n hx hb dX7_isViolated_115 rfl (lv_at hl 1 rfl) ?_
        refine va_get (D := D) (ci := 7) (v := .ref (a 0)) (C := RX7) (T := TX7) (N := 12) hx hb hts in7 hown hK hP 0 rfl rfl 0 (by decide) f7 (fun _ h9 => h9) rfl dX7_isViolated_116 ?_
        refine z_iconst hx hb dX7_isViolated_119 ?_
        refine z_iald hx hb hK hP 1 0 rfl rfl (by omega) (Nat.lt_of_succ_le (Nat.le_of_ble_eq_true rfl)) dX7_isViolated_120 ?_
        refine z_icmp_ge (tgt := 128) hx hb dX7_isViolated_121 (by decide) (by omega) (by omega) (fun c121 => ?_) (fun c121 => ?_)
        · refine z_iconst hx hb dX7_isViolated_128 ?_
          exact z_top (zB (f (491 + x) = 1 ∧ 0 < i ∧ x - gr (i - 1) < f 5)) (zB_f (P := f (491 + x) = 1 ∧ 0 < i ∧ x - gr (i - 1) < f 5) (fun q => by have := q.2; omega)).symm (hret dX7_isViolated_129)
        · refine z_iconst hx hb dX7_isViolated_124 ?_
          refine lv_goto (tgt := 129) hx hb dX7_isViolated_125 (by decide) ?_
          exact z_top (zB (f (491 + x) = 1 ∧ 0 < i ∧ x - gr (i - 1) < f 5)) (zB_t (P := f (491 + x) = 1 ∧ 0 < i ∧ x - gr (i - 1) < f 5) ⟨c98, by omega, by omega⟩).symm (hret dX7_isViolated_129)
  refine z_iconst hx hb dX7_isViolated_10 ?_
  refine z_icmp_ne (tgt := 18) hx hb dX7_isViolated_11 (by decide) (by omega) (by omega) (fun c11 => ?_) (fun c11 => ?_)
  · refine z_iconst hx hb dX7_isViolated_18 ?_
    refine z_top (zB (f (491 + x) = 1)) (zB_f (P := f (491 + x) = 1) (by omega)).symm ?_
    exact J19  ls (lv_sub hl [0, 1, 2, 3, 4] rfl)
  · refine z_iconst hx hb dX7_isViolated_14 ?_
    refine lv_goto (tgt := 19) hx hb dX7_isViolated_15 (by decide) ?_
    refine z_top (zB (f (491 + x) = 1)) (zB_t (P := f (491 + x) = 1) (by omega)).symm ?_
    exact J19  ls (lv_sub hl [0, 1, 2, 3, 4] rfl)

set_option maxHeartbeats 4000000 in
set_option maxRecDepth 100000 in
theorem kX7_isViolated_4 (l : Launch) (D : va_G) (cI cJ cS : ClassId) (m0 : Nat) (a : Nat → Nat) (ke th hs : Int) (f : Int → Int) (gd gr : Int → Int) (n i x : Int) (ok : OkF f) (hgd : ∀ x : Int, 0 ≤ x → x ≤ f 0 → 0 ≤ gd x ∧ gd x ≤ 1000) (rep : Rep f gr n) (h1 : 0 ≤ x ∧ x ≤ f 0) (hi : i = rank f x) : Met l yX7_isViolated wsX7_isViolated rmX7_isViolated (zPc D (zT cI cJ cS) [.ref m0, .int (zI (4)), .int (zI (x)), .int (zI (i)), .int (zI (n))] [(m0, .inr (7, [.ref (a 0), .ref (a 1), .int (zI (ke)), .int (zI (th)), .ref (a 2), .ref (a 3), .ref (a 4), .ref (a 5), .ref (a 6), .ref (a 7), .ref (a 8), .long (zL (hs))])), (a 0, .inl (cI, 612, .inl (zA f))), (a 4, .inl (cI, 121, .inl (zA gd))), (a 6, .inl (cI, 121, .inl (zA gr)))]) (vp_Si (fun r => r = zI (zB (f (491 + x) = 1 ∧ 0 < i ∧ f 6 < x - gr (i - 1))))) 0 0 (fun _ => False) := by
  refine zRz_of (cc := cX7_isViolated) (maxL := 6) (ret := (some .boolean)) (zB (f (491 + x) = 1 ∧ 0 < i ∧ f 6 < x - gr (i - 1))) (by decide) rfl (Nat.le_of_ble_eq_true rfl) rfl (zB_01 _) ?_
  intro p e s m args below meth c Q ls hx hb hml hts hown hK hP hD hl hret
  have in7 : ∀ w ∈ wsX70, w ∈ wsX7_isViolated := by decide +kernel
  have f7 := hts (.fieldLink RX7 7 "SignalSpacingModel" "now" "[I") (by decide +kernel)
  have f29 := hts (.fieldLink RX7 29 "SignalSpacingModel" "row" "[I") (by decide +kernel)
  have hl : lv_has ls 6 [(0, .ref m0), (1, .int (zI (4))), (2, .int (zI (x))), (3, .int (zI (i))), (4, .int (zI (n)))] := hl
  have hP : va_P D vwCl [(m0, .inr (7, [.ref (a 0), .ref (a 1), .int (zI (ke)), .int (zI (th)), .ref (a 2), .ref (a 3), .ref (a 4), .ref (a 5), .ref (a 6), .ref (a 7), .ref (a 8), .long (zL (hs))])), (a 0, .inl (cI, 612, .inl (zA f))), (a 4, .inl (cI, 121, .inl (zA gd))), (a 6, .inl (cI, 121, .inl (zA gr)))] s.heap := hP
  obtain ⟨o0, o1, o2, o3, o4, o5, o7, o8, olim, ogrd, obar, oneed, opost⟩ := id ok
  have hn := rep_n ok rep
  have hr9 := rank_b ok h1.1 (by omega : x ≤ 121)
  have hrm := rank_mono ok h1.1 (by omega : x ≤ f 0 + 1) (by omega)
  have hr1 := rep.1
  have hb1 := opost x h1.1 (by omega)
  have hb2 := obar x h1.1 (by omega)
  have hlt : f (491 + x) = 1 → i < n := fun q => by have := rank_lt ok h1.1 (by omega : x < f 0 + 1) (by omega) q; omega
  have hix : f (491 + x) = 1 → gr i = x := fun q => by rw [hi]; exact rep.2 x h1.1 h1.2 q
  refine lv_aload_n hx hb dX7_isViolated_0 rfl (lv_at hl 0 rfl) ?_
  refine va_get (D := D) (ci := 7) (v := .ref (a 0)) (C := RX7) (T := TX7) (N := 12) hx hb hts in7 hown hK hP 0 rfl rfl 0 (by decide) f7 (fun _ h9 => h9) rfl dX7_isViolated_1 ?_
  refine z_sipush hx hb dX7_isViolated_4 (by decide +kernel) ?_
  refine lv_iload_n hx hb dX7_isViolated_7 rfl (lv_at hl 2 rfl) ?_
  refine z_iadd hx hb dX7_isViolated_8 ?_
  refine z_iald hx hb hK hP 1 0 rfl rfl (by omega) (Nat.lt_of_succ_le (Nat.le_of_ble_eq_true rfl)) dX7_isViolated_9 ?_
  have J19 :  ∀ (ls : Array Slot), lv_has ls 6 [(0, .ref m0), (1, .int (zI (4))), (2, .int (zI (x))), (3, .int (zI (i))), (4, .int (zI (n)))] → W p l e rmX7_isViolated s m args below meth c s.heap [] 0 0 Q (F0 m 19 ls [.int (zI (zB (f (491 + x) = 1)))]) := by
    intro  ls hl
    refine lv_istore (lv' := [(5, .int (zI (zB (f (491 + x) = 1)))), (0, .ref m0), (1, .int (zI (4))), (2, .int (zI (x))), (3, .int (zI (i))), (4, .int (zI (n)))]) hx hb dX7_isViolated_19 hl (by decide) rfl (fun ls hl => ?_)
    refine lv_iload_n hx hb dX7_isViolated_21 rfl (lv_at hl 2 rfl) ?_
    refine lv_tableIn (off := 108) (tgt := 130) hx hb dX7_isViolated_22 (by decide +kernel) (by decide +kernel) (by decide +kernel) (by decide) ?_
    refine lv_iload hx hb dX7_isViolated_130 (lv_at hl 0 rfl) ?_
    refine z_if_eq (tgt := 163) hx hb dX7_isViolated_132 (by decide) (by have hz := zB_01 (f (491 + x) = 1); omega) (fun c132 => ?_) (fun c132 => ?_)
    · have c132 := zB_0.mp c132
      refine z_iconst hx hb dX7_isViolated_163 ?_
      exact z_top (zB (f (491 + x) = 1 ∧ 0 < i ∧ f 6 < x - gr (i - 1))) (zB_f (P := f (491 + x) = 1 ∧ 0 < i ∧ f 6 < x - gr (i - 1)) (fun q => c132 q.1)).symm (hret dX7_isViolated_164)
    · have c132 := zB_n0.mp c132
      refine lv_iload_n hx hb dX7_isViolated_135 rfl (lv_at hl 4 rfl) ?_
      refine z_if_le (tgt := 163) hx hb dX7_isViolated_136 (by decide) (by omega) (fun c136 => ?_) (fun c136 => ?_)
      · refine z_iconst hx hb dX7_isViolated_163 ?_
        exact z_top (zB (f (491 + x) = 1 ∧ 0 < i ∧ f 6 < x - gr (i - 1))) (zB_f (P := f (491 + x) = 1 ∧ 0 < i ∧ f 6 < x - gr (i - 1)) (fun q => by have := q.2; omega)).symm (hret dX7_isViolated_164)
      · have hj9 := rep_k ok rep (k := i - 1) (by omega) (by omega)
        refine lv_iload_n hx hb dX7_isViolated_139 rfl (lv_at hl 3 rfl) ?_
        refine lv_aload_n hx hb dX7_isViolated_140 rfl (lv_at hl 1 rfl) ?_
        refine va_get (D := D) (ci := 7) (v := .ref (a 6)) (C := RX7) (T := TX7) (N := 12) hx hb hts in7 hown hK hP 0 rfl rfl 8 (by decide) f29 (fun _ h9 => h9) rfl dX7_isViolated_141 ?_
        refine lv_iload_n hx hb dX7_isViolated_144 rfl (lv_at hl 4 rfl) ?_
        refine z_iconst hx hb dX7_isViolated_145 ?_
        refine z_isub hx hb dX7_isViolated_146 ?_
        refine z_iald hx hb hK hP 3 0 rfl rfl (by omega) (Nat.lt_of_succ_le (Nat.le_of_ble_eq_true rfl)) dX7_isViolated_147 ?_
        refine z_isub hx hb dX7_isViolated_148 ?_
        refine lv_aload_n hx hb dX7_isViolated_149 rfl (lv_at hl 1 rfl) ?_
        refine va_get (D := D) (ci := 7) (v := .ref (a 0)) (C := RX7) (T := TX7) (N := 12) hx hb hts in7 hown hK hP 0 rfl rfl 0 (by decide) f7 (fun _ h9 => h9) rfl dX7_isViolated_150 ?_
        refine z_bipush hx hb dX7_isViolated_153 (by decide +kernel) ?_
        refine z_iald hx hb hK hP 1 0 rfl rfl (by omega) (Nat.lt_of_succ_le (Nat.le_of_ble_eq_true rfl)) dX7_isViolated_155 ?_
        refine z_icmp_le (tgt := 163) hx hb dX7_isViolated_156 (by decide) (by omega) (by omega) (fun c156 => ?_) (fun c156 => ?_)
        · refine z_iconst hx hb dX7_isViolated_163 ?_
          exact z_top (zB (f (491 + x) = 1 ∧ 0 < i ∧ f 6 < x - gr (i - 1))) (zB_f (P := f (491 + x) = 1 ∧ 0 < i ∧ f 6 < x - gr (i - 1)) (fun q => by have := q.2; omega)).symm (hret dX7_isViolated_164)
        · refine z_iconst hx hb dX7_isViolated_159 ?_
          refine lv_goto (tgt := 164) hx hb dX7_isViolated_160 (by decide) ?_
          exact z_top (zB (f (491 + x) = 1 ∧ 0 < i ∧ f 6 < x - gr (i - 1))) (zB_t (P := f (491 + x) = 1 ∧ 0 < i ∧ f 6 < x - gr (i - 1)) ⟨c132, by omega, by omega⟩).symm (hret dX7_isViolated_164)
  refine z_iconst hx hb dX7_isViolated_10 ?_
  refine z_icmp_ne (tgt := 18) hx hb dX7_isViolated_11 (by decide) (by omega) (by omega) (fun c11 => ?_) (fun c11 => ?_)
  · refine z_iconst hx hb dX7_isViolated_18 ?_
    refine z_top (zB (f (491 + x) = 1)) (zB_f (P := f (491 + x) = 1) (by omega)).symm ?_
    exact J19  ls (lv_sub hl [0, 1, 2, 3, 4] rfl)
  · refine z_iconst hx hb dX7_isViolated_14 ?_
    refine lv_goto (tgt := 19) hx hb dX7_isViolated_15 (by decide) ?_
    refine z_top (zB (f (491 + x) = 1)) (zB_t (P := f (491 + x) = 1) (by omega)).symm ?_
    exact J19  ls (lv_sub hl [0, 1, 2, 3, 4] rfl)

set_option maxHeartbeats 4000000 in
set_option maxRecDepth 100000 in
theorem kX7_isViolated_5 (l : Launch) (D : va_G) (cI cJ cS : ClassId) (m0 : Nat) (a : Nat → Nat) (ke th hs : Int) (f : Int → Int) (gd gr : Int → Int) (n i x : Int) (ok : OkF f) (hgd : ∀ x : Int, 0 ≤ x → x ≤ f 0 → 0 ≤ gd x ∧ gd x ≤ 1000) (rep : Rep f gr n) (h1 : 0 ≤ x ∧ x ≤ f 0) (hi : i = rank f x) : Met l yX7_isViolated wsX7_isViolated rmX7_isViolated (zPc D (zT cI cJ cS) [.ref m0, .int (zI (5)), .int (zI (x)), .int (zI (i)), .int (zI (n))] [(m0, .inr (7, [.ref (a 0), .ref (a 1), .int (zI (ke)), .int (zI (th)), .ref (a 2), .ref (a 3), .ref (a 4), .ref (a 5), .ref (a 6), .ref (a 7), .ref (a 8), .long (zL (hs))])), (a 0, .inl (cI, 612, .inl (zA f))), (a 4, .inl (cI, 121, .inl (zA gd))), (a 6, .inl (cI, 121, .inl (zA gr)))]) (vp_Si (fun r => r = zI (zB (f (491 + x) = 1 ∧ near f gr gd n i x)))) 0 0 (fun _ => False) := by
  refine zRz_of (cc := cX7_isViolated) (maxL := 6) (ret := (some .boolean)) (zB (f (491 + x) = 1 ∧ near f gr gd n i x)) (by decide) rfl (Nat.le_of_ble_eq_true rfl) rfl (zB_01 _) ?_
  intro p e s m args below meth c Q ls hx hb hml hts hown hK hP hD hl hret
  have in7 : ∀ w ∈ wsX70, w ∈ wsX7_isViolated := by decide +kernel
  have f7 := hts (.fieldLink RX7 7 "SignalSpacingModel" "now" "[I") (by decide +kernel)
  have hl : lv_has ls 6 [(0, .ref m0), (1, .int (zI (5))), (2, .int (zI (x))), (3, .int (zI (i))), (4, .int (zI (n)))] := hl
  have hP : va_P D vwCl [(m0, .inr (7, [.ref (a 0), .ref (a 1), .int (zI (ke)), .int (zI (th)), .ref (a 2), .ref (a 3), .ref (a 4), .ref (a 5), .ref (a 6), .ref (a 7), .ref (a 8), .long (zL (hs))])), (a 0, .inl (cI, 612, .inl (zA f))), (a 4, .inl (cI, 121, .inl (zA gd))), (a 6, .inl (cI, 121, .inl (zA gr)))] s.heap := hP
  obtain ⟨o0, o1, o2, o3, o4, o5, o7, o8, olim, ogrd, obar, oneed, opost⟩ := id ok
  have hn := rep_n ok rep
  have hr9 := rank_b ok h1.1 (by omega : x ≤ 121)
  have hrm := rank_mono ok h1.1 (by omega : x ≤ f 0 + 1) (by omega)
  have hr1 := rep.1
  have hb1 := opost x h1.1 (by omega)
  have hb2 := obar x h1.1 (by omega)
  have hlt : f (491 + x) = 1 → i < n := fun q => by have := rank_lt ok h1.1 (by omega : x < f 0 + 1) (by omega) q; omega
  have hix : f (491 + x) = 1 → gr i = x := fun q => by rw [hi]; exact rep.2 x h1.1 h1.2 q
  refine lv_aload_n hx hb dX7_isViolated_0 rfl (lv_at hl 0 rfl) ?_
  refine va_get (D := D) (ci := 7) (v := .ref (a 0)) (C := RX7) (T := TX7) (N := 12) hx hb hts in7 hown hK hP 0 rfl rfl 0 (by decide) f7 (fun _ h9 => h9) rfl dX7_isViolated_1 ?_
  refine z_sipush hx hb dX7_isViolated_4 (by decide +kernel) ?_
  refine lv_iload_n hx hb dX7_isViolated_7 rfl (lv_at hl 2 rfl) ?_
  refine z_iadd hx hb dX7_isViolated_8 ?_
  refine z_iald hx hb hK hP 1 0 rfl rfl (by omega) (Nat.lt_of_succ_le (Nat.le_of_ble_eq_true rfl)) dX7_isViolated_9 ?_
  have J19 :  ∀ (ls : Array Slot), lv_has ls 6 [(0, .ref m0), (1, .int (zI (5))), (2, .int (zI (x))), (3, .int (zI (i))), (4, .int (zI (n)))] → W p l e rmX7_isViolated s m args below meth c s.heap [] 0 0 Q (F0 m 19 ls [.int (zI (zB (f (491 + x) = 1)))]) := by
    intro  ls hl
    refine lv_istore (lv' := [(5, .int (zI (zB (f (491 + x) = 1)))), (0, .ref m0), (1, .int (zI (5))), (2, .int (zI (x))), (3, .int (zI (i))), (4, .int (zI (n)))]) hx hb dX7_isViolated_19 hl (by decide) rfl (fun ls hl => ?_)
    refine lv_iload_n hx hb dX7_isViolated_21 rfl (lv_at hl 2 rfl) ?_
    refine lv_tableOut (tgt := 165) hx hb dX7_isViolated_22 (by decide +kernel) (by decide) ?_
    refine lv_iload hx hb dX7_isViolated_165 (lv_at hl 0 rfl) ?_
    refine z_if_eq (tgt := 184) hx hb dX7_isViolated_167 (by decide) (by have hz := zB_01 (f (491 + x) = 1); omega) (fun c167 => ?_) (fun c167 => ?_)
    · have c167 := zB_0.mp c167
      refine z_iconst hx hb dX7_isViolated_184 ?_
      exact z_top (zB (f (491 + x) = 1 ∧ near f gr gd n i x)) (zB_f (P := f (491 + x) = 1 ∧ near f gr gd n i x) (fun q => c167 q.1)).symm (hret dX7_isViolated_185)
    · have c167 := zB_n0.mp c167
      have hin9 := hlt c167
      refine lv_aload_n hx hb dX7_isViolated_170 rfl (lv_at hl 1 rfl) ?_
      refine lv_iload_n hx hb dX7_isViolated_171 rfl (lv_at hl 4 rfl) ?_
      refine lv_iload hx hb dX7_isViolated_172 (lv_at hl 5 rfl) ?_
      refine y_rV (v := zB (near f gr gd n i (gr i))) (As := [.int (zI (i)), .int (zI (n))]) (rest := []) hx hb hml hown hts hl.1 ⟨Nat.zero_le _, Nat.zero_le _⟩ (kX7_isTooNear l D cI cJ cS m0 a ke th hs f gd gr n i ok hgd rep (by omega)) (cwV 2 hts gX7_isViolated_X7_isTooNear rfl rfl rfl jX7_isTooNear ⟨Nat.le_of_ble_eq_true rfl, Nat.le_of_ble_eq_true rfl⟩) hK [true, true, true, true] hP hD rfl 7 0 rfl rfl rfl rfl rfl (Nat.le_of_ble_eq_true rfl) dX7_isViolated_174 ?_
      refine z_if_eq (tgt := 184) hx hb dX7_isViolated_177 (by decide) (by have hz := zB_01 (near f gr gd n i (gr i)); omega) (fun c177 => ?_) (fun c177 => ?_)
      · have c177 := zB_0.mp c177
        refine z_iconst hx hb dX7_isViolated_184 ?_
        exact z_top (zB (f (491 + x) = 1 ∧ near f gr gd n i x)) (zB_f (P := f (491 + x) = 1 ∧ near f gr gd n i x) (fun q => c177 (by rw [hix q.1]; exact q.2))).symm (hret dX7_isViolated_185)
      · have c177 := zB_n0.mp c177
        refine z_iconst hx hb dX7_isViolated_180 ?_
        refine lv_goto (tgt := 185) hx hb dX7_isViolated_181 (by decide) ?_
        exact z_top (zB (f (491 + x) = 1 ∧ near f gr gd n i x)) (zB_t (P := f (491 + x) = 1 ∧ near f gr gd n i x) ⟨c167, by rw [hix c167] at c177; exact c177⟩).symm (hret dX7_isViolated_185)
  refine z_iconst hx hb dX7_isViolated_10 ?_
  refine z_icmp_ne (tgt := 18) hx hb dX7_isViolated_11 (by decide) (by omega) (by omega) (fun c11 => ?_) (fun c11 => ?_)
  · refine z_iconst hx hb dX7_isViolated_18 ?_
    refine z_top (zB (f (491 + x) = 1)) (zB_f (P := f (491 + x) = 1) (by omega)).symm ?_
    exact J19  ls (lv_sub hl [0, 1, 2, 3, 4] rfl)
  · refine z_iconst hx hb dX7_isViolated_14 ?_
    refine lv_goto (tgt := 19) hx hb dX7_isViolated_15 (by decide) ?_
    refine z_top (zB (f (491 + x) = 1)) (zB_t (P := f (491 + x) = 1) (by omega)).symm ?_
    exact J19  ls (lv_sub hl [0, 1, 2, 3, 4] rfl)

abbrev rmX7_findViolations : Room := { frames := 3, cells := 0, slots := 0, locals := 71 }
theorem jX7_findViolations : yX7_findViolations.cls = RX7 ∧ yX7_findViolations.cls ≠ "java/lang/invoke/MethodHandle" ∧ yX7_findViolations.cls ≠ "java/lang/invoke/VarHandle" ∧ (parseMethodDescriptor yX7_findViolations.desc).map (fun d => d.parameters.length) = some 0 := by decide +kernel
set_option maxHeartbeats 4000000 in
set_option maxRecDepth 100000 in
theorem kX7_findViolations (l : Launch) (D : va_G) (cI cJ cS : ClassId) (m0 : Nat) (a : Nat → Nat) (ke th hs : Int) (f : Int → Int) (ge gv gd gt gr gf : Int → Int) (ok : OkF f) : Met l yX7_findViolations wsX7_findViolations rmX7_findViolations (zPc D (zT cI cJ cS) [.ref m0] [(m0, .inr (7, [.ref (a 0), .ref (a 1), .int (zI (ke)), .int (zI (th)), .ref (a 2), .ref (a 3), .ref (a 4), .ref (a 5), .ref (a 6), .ref (a 7), .ref (a 8), .long (zL (hs))])), (a 0, .inl (cI, 612, .inl (zA f))), (a 2, .inl (cJ, 121, .inr (.inl (zAL ge)))), (a 3, .inl (cI, 121, .inl (zA gv))), (a 4, .inl (cI, 121, .inl (zA gd))), (a 5, .inl (cI, 121, .inl (zA gt))), (a 6, .inl (cI, 121, .inl (zA gr))), (a 7, .inl (cI, 605, .inl (zA gf)))]) (va_Qi (fun r u => r = zI ((VIO f).length : Int) ∧ Fnd (u 5) (VIO f) ∧ PrOk f (u 0) (u 1) (u 2) (u 3) ∧ Rep f (u 4) (rank f (f 0 + 1))) (fun (u : Nat → Int → Int) t => va_P D vwCl [(m0, .inr (7, [.ref (a 0), .ref (a 1), .int (zI (ke)), .int (zI (th)), .ref (a 2), .ref (a 3), .ref (a 4), .ref (a 5), .ref (a 6), .ref (a 7), .ref (a 8), .long (zL (hs))])), (a 0, .inl (cI, 612, .inl (zA f))), (a 2, .inl (cJ, 121, .inr (.inl (zAL (u 0))))), (a 3, .inl (cI, 121, .inl (zA (u 1)))), (a 4, .inl (cI, 121, .inl (zA (u 2)))), (a 5, .inl (cI, 121, .inl (zA (u 3)))), (a 6, .inl (cI, 121, .inl (zA (u 4)))), (a 7, .inl (cI, 605, .inl (zA (u 5))))] t.heap) (zAd [(m0, .inr (7, [.ref (a 0), .ref (a 1), .int (zI (ke)), .int (zI (th)), .ref (a 2), .ref (a 3), .ref (a 4), .ref (a 5), .ref (a 6), .ref (a 7), .ref (a 8), .long (zL (hs))])), (a 0, .inl (cI, 612, .inl (zA f))), (a 2, .inl (cJ, 121, .inr (.inl (zAL ge)))), (a 3, .inl (cI, 121, .inl (zA gv))), (a 4, .inl (cI, 121, .inl (zA gd))), (a 5, .inl (cI, 121, .inl (zA gt))), (a 6, .inl (cI, 121, .inl (zA gr))), (a 7, .inl (cI, 605, .inl (zA gf)))])) 0 0 (zAd [(m0, .inr (7, [.ref (a 0), .ref (a 1), .int (zI (ke)), .int (zI (th)), .ref (a 2), .ref (a 3), .ref (a 4), .ref (a 5), .ref (a 6), .ref (a 7), .ref (a 8), .long (zL (hs))])), (a 0, .inl (cI, 612, .inl (zA f))), (a 2, .inl (cJ, 121, .inr (.inl (zAL ge)))), (a 3, .inl (cI, 121, .inl (zA gv))), (a 4, .inl (cI, 121, .inl (zA gd))), (a 5, .inl (cI, 121, .inl (zA gt))), (a 6, .inl (cI, 121, .inl (zA gr))), (a 7, .inl (cI, 605, .inl (zA gf)))]) := by
  refine zWi_of (cc := cX7_findViolations) (maxL := 6) (ret := (some .int)) (by decide) rfl (Nat.le_of_ble_eq_true rfl) rfl ?_
  intro p e s m args below meth c Q A ls hx hb hml hts hown hK hP hD hS hl hret
  have in7 : ∀ w ∈ wsX70, w ∈ wsX7_findViolations := by decide +kernel
  have f7 := hts (.fieldLink RX7 7 "SignalSpacingModel" "now" "[I") (by decide +kernel)
  have f32 := hts (.fieldLink RX7 32 "SignalSpacingModel" "found" "[I") (by decide +kernel)
  have hl : lv_has ls 6 [(0, .ref m0)] := hl
  have hP : va_P D vwCl [(m0, .inr (7, [.ref (a 0), .ref (a 1), .int (zI (ke)), .int (zI (th)), .ref (a 2), .ref (a 3), .ref (a 4), .ref (a 5), .ref (a 6), .ref (a 7), .ref (a 8), .long (zL (hs))])), (a 0, .inl (cI, 612, .inl (zA f))), (a 2, .inl (cJ, 121, .inr (.inl (zAL ge)))), (a 3, .inl (cI, 121, .inl (zA gv))), (a 4, .inl (cI, 121, .inl (zA gd))), (a 5, .inl (cI, 121, .inl (zA gt))), (a 6, .inl (cI, 121, .inl (zA gr))), (a 7, .inl (cI, 605, .inl (zA gf)))] s.heap := hP
  obtain ⟨o0, o1, o2, o3, o4, o5, o7, o8, olim, ogrd, obar, oneed, opost⟩ := id ok
  refine lv_aload_n hx hb dX7_findViolations_0 rfl (lv_at hl 0 rfl) ?_
  refine y_wVv (As := []) (rest := []) (fun (u1 : Nat → Int → Int) => [(m0, .inr (7, [.ref (a 0), .ref (a 1), .int (zI (ke)), .int (zI (th)), .ref (a 2), .ref (a 3), .ref (a 4), .ref (a 5), .ref (a 6), .ref (a 7), .ref (a 8), .long (zL (hs))])), (a 0, .inl (cI, 612, .inl (zA f))), (a 2, .inl (cJ, 121, .inr (.inl (zAL (u1 0))))), (a 3, .inl (cI, 121, .inl (zA (u1 1)))), (a 4, .inl (cI, 121, .inl (zA (u1 2)))), (a 5, .inl (cI, 121, .inl (zA (u1 3)))), (a 6, .inl (cI, 121, .inl (zA gr))), (a 7, .inl (cI, 605, .inl (zA gf)))]) hx hb hml hown hts hl.1 ⟨Nat.zero_le _, Nat.zero_le _⟩ (kX7_lays l D cI cJ cS m0 a ke th hs f ge gv gd gt ok) (cwV 0 hts gX7_findViolations_X7_lays rfl rfl rfl jX7_lays ⟨Nat.le_of_ble_eq_true rfl, Nat.le_of_ble_eq_true rfl⟩) hK [true, true, true, true, true, true] hP hD hS rfl (fun _ => rfl) (fun _ => rfl) 7 0 rfl rfl rfl rfl rfl (Nat.le_of_ble_eq_true rfl) dX7_findViolations_1 (fun u1 H locs hu1 hP hS => ?_)
  refine lv_aload_n hx hb dX7_findViolations_4 rfl (lv_at hl 0 rfl) ?_
  refine y_wVi (As := []) (rest := []) (fun (u5 : Int → Int) => [(m0, .inr (7, [.ref (a 0), .ref (a 1), .int (zI (ke)), .int (zI (th)), .ref (a 2), .ref (a 3), .ref (a 4), .ref (a 5), .ref (a 6), .ref (a 7), .ref (a 8), .long (zL (hs))])), (a 0, .inl (cI, 612, .inl (zA f))), (a 2, .inl (cJ, 121, .inr (.inl (zAL (u1 0))))), (a 3, .inl (cI, 121, .inl (zA (u1 1)))), (a 4, .inl (cI, 121, .inl (zA (u1 2)))), (a 5, .inl (cI, 121, .inl (zA (u1 3)))), (a 6, .inl (cI, 121, .inl (zA u5))), (a 7, .inl (cI, 605, .inl (zA gf)))]) hx hb hml hown hts hl.1 ⟨Nat.zero_le _, Nat.zero_le _⟩ (kX7_layRow l D cI cJ cS m0 a ke th hs f gr ok) (cwV 0 hts gX7_findViolations_X7_layRow rfl rfl rfl jX7_layRow ⟨Nat.le_of_ble_eq_true rfl, Nat.le_of_ble_eq_true rfl⟩) hK [true, true, false, false, false, false, true] hP (zD hD rfl) hS rfl (fun _ => rfl) (fun _ => rfl) 7 0 rfl rfl rfl rfl rfl (Nat.le_of_ble_eq_true rfl) dX7_findViolations_5 (fun r5 u5 H locs hu5 hP hS => ?_)
  obtain ⟨rfl, hu5⟩ := hu5
  have hgd : ∀ x : Int, 0 ≤ x → x ≤ f 0 → 0 ≤ (u1 2) x ∧ (u1 2) x ≤ 1000 := fun x a b => by rw [(hu1 x a b).2.2.1]; have := brD_b ok a b; omega
  have rep := hu5
  have hrn := rep_n ok rep
  refine lv_istore_n (lv' := [(1, .int (zI (rank f (f 0 + 1)))), (0, .ref m0)]) hx hb dX7_findViolations_8 rfl hl (by decide) rfl (fun ls hl => ?_)
  refine z_iconst hx hb dX7_findViolations_9 ?_
  refine lv_istore_n (lv' := [(2, .int (zI (0))), (1, .int (zI (rank f (f 0 + 1)))), (0, .ref m0)]) hx hb dX7_findViolations_10 rfl hl (by decide) rfl (fun ls hl => ?_)
  refine z_iconst hx hb dX7_findViolations_11 ?_
  refine lv_istore_n (lv' := [(3, .int (zI (0))), (2, .int (zI (0))), (1, .int (zI (rank f (f 0 + 1)))), (0, .ref m0)]) hx hb dX7_findViolations_12 rfl hl (by decide) rfl (fun ls hl => ?_)
  refine z_iconst hx hb dX7_findViolations_13 ?_
  refine lv_istore (lv' := [(4, .int (zI (0))), (3, .int (zI (0))), (2, .int (zI (0))), (1, .int (zI (rank f (f 0 + 1)))), (0, .ref m0)]) hx hb dX7_findViolations_14 hl (by decide) rfl (fun ls hl => ?_)
  have L16 : ∀ (fuel : Nat), ∀ (cn : Int) (i : Int) (x : Int) (g : Int → Int), ∀ (h1 : 0 ≤ x ∧ x ≤ f 0 + 1), ∀ (hi : i = rank f x), ∀ (hc : cn = ((vio f u5 (u1 2) (rank f (f 0 + 1)) x).length : Int)), ∀ (hF : Fnd g (vio f u5 (u1 2) (rank f (f 0 + 1)) x)), (f 0 + 1 - x).toNat < fuel → ∀ (H : Heap) (locs : List Loc), va_P D vwCl [(m0, .inr (7, [.ref (a 0), .ref (a 1), .int (zI (ke)), .int (zI (th)), .ref (a 2), .ref (a 3), .ref (a 4), .ref (a 5), .ref (a 6), .ref (a 7), .ref (a 8), .long (zL (hs))])), (a 0, .inl (cI, 612, .inl (zA f))), (a 2, .inl (cJ, 121, .inr (.inl (zAL (u1 0))))), (a 3, .inl (cI, 121, .inl (zA (u1 1)))), (a 4, .inl (cI, 121, .inl (zA (u1 2)))), (a 5, .inl (cI, 121, .inl (zA (u1 3)))), (a 6, .inl (cI, 121, .inl (zA u5))), (a 7, .inl (cI, 605, .inl (zA g)))] H → va_S A s.heap H locs → ∀ (ls : Array Slot), lv_has ls 6 [(0, .ref m0), (1, .int (zI (rank f (f 0 + 1)))), (2, .int (zI (cn))), (3, .int (zI (i))), (4, .int (zI (x)))] → W p l e rmX7_findViolations s m args below meth c H locs 0 0 Q (F0 m 16 ls []) := by
    intro fuel
    induction fuel with
    | zero =>
      intro cn i x g h1 hi hc hF hm
      exact absurd hm (Nat.not_lt_zero _)
    | succ fuel ih16 =>
      intro cn i x g h1 hi hc hF hm H locs hP hS ls hl
      have hl9 := vio_len (ps := u5) (gd := u1 2) (n := (rank f (f 0 + 1))) ok x h1.1 (by omega)
      refine lv_iload hx hb dX7_findViolations_16 (lv_at hl 4 rfl) ?_
      refine lv_aload_n hx hb dX7_findViolations_18 rfl (lv_at hl 0 rfl) ?_
      refine va_get (D := D) (ci := 7) (v := .ref (a 0)) (C := RX7) (T := TX7) (N := 12) hx hb hts in7 hown hK hP 0 rfl rfl 0 (by decide) f7 (fun _ h9 => h9) rfl dX7_findViolations_19 ?_
      refine z_iconst hx hb dX7_findViolations_22 ?_
      refine z_iald hx hb hK hP 1 0 rfl rfl (by omega) (Nat.lt_of_succ_le (Nat.le_of_ble_eq_true rfl)) dX7_findViolations_23 ?_
      refine z_icmp_gt (tgt := 93) hx hb dX7_findViolations_24 (by decide) (by omega) (by omega) (fun c24 => ?_) (fun c24 => ?_)
      · refine lv_iload_n hx hb dX7_findViolations_93 rfl (lv_at hl 2 rfl) ?_
        have hx9 : x = f 0 + 1 := by omega
        rw [hx9] at hc hF
        have e8 := vio_can ok rep (gd := u1 2) (fun z a b => (hu1 z a b).2.2.1)
        rw [e8] at hc hF
        exact hret (fun j => if j = 0 then (u1 0) else if j = 1 then (u1 1) else if j = 2 then (u1 2) else if j = 3 then (u1 3) else if j = 4 then u5 else g) ⟨by rw [hc], hF, hu1, rep⟩ hP hS dX7_findViolations_94
      · refine z_iconst hx hb dX7_findViolations_27 ?_
        refine lv_istore (lv' := [(5, .int (zI (1))), (0, .ref m0), (1, .int (zI (rank f (f 0 + 1)))), (2, .int (zI (cn))), (3, .int (zI (i))), (4, .int (zI (x)))]) hx hb dX7_findViolations_28 hl (by decide) rfl (fun ls hl => ?_)
        refine lv_iload hx hb dX7_findViolations_30 (lv_at hl 0 rfl) ?_
        refine z_iconst hx hb dX7_findViolations_32 ?_
        refine z_icmp_gt (tgt := 73) hx hb dX7_findViolations_33 (by decide) (by omega) (by omega) (fun c33 => ?_) (fun c33 => ?_)
        · exfalso; omega
        · refine lv_aload_n hx hb dX7_findViolations_36 rfl (lv_at hl 1 rfl) ?_
          refine lv_iload hx hb dX7_findViolations_37 (lv_at hl 0 rfl) ?_
          refine lv_iload hx hb dX7_findViolations_39 (lv_at hl 5 rfl) ?_
          refine lv_iload_n hx hb dX7_findViolations_41 rfl (lv_at hl 4 rfl) ?_
          refine lv_iload_n hx hb dX7_findViolations_42 rfl (lv_at hl 2 rfl) ?_
          refine y_rV (v := zB (f (491 + x) = 1 ∧ f (249 + x) = 1)) (As := [.int (zI (1)), .int (zI (x)), .int (zI (i)), .int (zI (rank f (f 0 + 1)))]) (rest := []) hx hb hml hown hts hl.1 ⟨Nat.zero_le _, Nat.zero_le _⟩ (kX7_isViolated_1 l D cI cJ cS m0 a ke th hs f (u1 2) u5 (rank f (f 0 + 1)) i x ok hgd rep (by omega) hi) (cwV 4 hts gX7_findViolations_X7_isViolated rfl rfl rfl jX7_isViolated ⟨Nat.le_of_ble_eq_true rfl, Nat.le_of_ble_eq_true rfl⟩) hK [true, true, false, false, true, false, true] hP (zD hD rfl) rfl 7 0 rfl rfl rfl rfl rfl (Nat.le_of_ble_eq_true rfl) dX7_findViolations_43 ?_
          have J67 : ∀ (cn1 : Int) (g1 : Int → Int), ∀ (hc1 : cn1 = (((vio f u5 (u1 2) (rank f (f 0 + 1)) x) ++ zl (f (491 + x) = 1 ∧ f (249 + x) = 1) (1000 * 1 + x)).length : Int)), ∀ (hF1 : Fnd g1 ((vio f u5 (u1 2) (rank f (f 0 + 1)) x) ++ zl (f (491 + x) = 1 ∧ f (249 + x) = 1) (1000 * 1 + x))), ∀ (H : Heap) (locs : List Loc), va_P D vwCl [(m0, .inr (7, [.ref (a 0), .ref (a 1), .int (zI (ke)), .int (zI (th)), .ref (a 2), .ref (a 3), .ref (a 4), .ref (a 5), .ref (a 6), .ref (a 7), .ref (a 8), .long (zL (hs))])), (a 0, .inl (cI, 612, .inl (zA f))), (a 2, .inl (cJ, 121, .inr (.inl (zAL (u1 0))))), (a 3, .inl (cI, 121, .inl (zA (u1 1)))), (a 4, .inl (cI, 121, .inl (zA (u1 2)))), (a 5, .inl (cI, 121, .inl (zA (u1 3)))), (a 6, .inl (cI, 121, .inl (zA u5))), (a 7, .inl (cI, 605, .inl (zA g1)))] H → va_S A s.heap H locs → ∀ (ls : Array Slot), lv_has ls 6 [(5, .int (zI (1))), (0, .ref m0), (1, .int (zI (rank f (f 0 + 1)))), (2, .int (zI (cn1))), (3, .int (zI (i))), (4, .int (zI (x)))] → W p l e rmX7_findViolations s m args below meth c H locs 0 0 Q (F0 m 67 ls []) := by
            intro cn1 g1 hc1 hF1 H locs hP hS ls hl
            have hl1 : ((vio f u5 (u1 2) (rank f (f 0 + 1)) x) ++ zl (f (491 + x) = 1 ∧ f (249 + x) = 1) (1000 * 1 + x)).length ≤ (vio f u5 (u1 2) (rank f (f 0 + 1)) x).length + 1 := by rw [List.length_append]; have := zl_len (f (491 + x) = 1 ∧ f (249 + x) = 1) (1000 * 1 + x); omega
            refine z_iinc (lv' := [(5, .int (zI (2))), (0, .ref m0), (1, .int (zI (rank f (f 0 + 1)))), (2, .int (zI (cn1))), (3, .int (zI (i))), (4, .int (zI (x)))]) hx hb 0 (2) dX7_findViolations_67 hl rfl (by omega) (by decide) rfl (fun ls hl => ?_)
            refine lv_goto (tgt := 30) hx hb dX7_findViolations_70 (by decide) ?_
            refine lv_iload hx hb dX7_findViolations_30 (lv_at hl 0 rfl) ?_
            refine z_iconst hx hb dX7_findViolations_32 ?_
            refine z_icmp_gt (tgt := 73) hx hb dX7_findViolations_33 (by decide) (by omega) (by omega) (fun c33 => ?_) (fun c33 => ?_)
            · exfalso; omega
            · refine lv_aload_n hx hb dX7_findViolations_36 rfl (lv_at hl 1 rfl) ?_
              refine lv_iload hx hb dX7_findViolations_37 (lv_at hl 0 rfl) ?_
              refine lv_iload hx hb dX7_findViolations_39 (lv_at hl 5 rfl) ?_
              refine lv_iload_n hx hb dX7_findViolations_41 rfl (lv_at hl 4 rfl) ?_
              refine lv_iload_n hx hb dX7_findViolations_42 rfl (lv_at hl 2 rfl) ?_
              refine y_rV (v := zB (f (491 + x) ≠ 1 ∧ wanted f x)) (As := [.int (zI (2)), .int (zI (x)), .int (zI (i)), .int (zI (rank f (f 0 + 1)))]) (rest := []) hx hb hml hown hts hl.1 ⟨Nat.zero_le _, Nat.zero_le _⟩ (kX7_isViolated_2 l D cI cJ cS m0 a ke th hs f (u1 2) u5 (rank f (f 0 + 1)) i x ok hgd rep (by omega) hi) (cwV 4 hts gX7_findViolations_X7_isViolated rfl rfl rfl jX7_isViolated ⟨Nat.le_of_ble_eq_true rfl, Nat.le_of_ble_eq_true rfl⟩) hK [true, true, false, false, true, false, true] hP (zD hD rfl) rfl 7 0 rfl rfl rfl rfl rfl (Nat.le_of_ble_eq_true rfl) dX7_findViolations_43 ?_
              have J67 : ∀ (cn2 : Int) (g2 : Int → Int), ∀ (hc2 : cn2 = ((((vio f u5 (u1 2) (rank f (f 0 + 1)) x) ++ zl (f (491 + x) = 1 ∧ f (249 + x) = 1) (1000 * 1 + x)) ++ zl (f (491 + x) ≠ 1 ∧ wanted f x) (1000 * 2 + x)).length : Int)), ∀ (hF2 : Fnd g2 (((vio f u5 (u1 2) (rank f (f 0 + 1)) x) ++ zl (f (491 + x) = 1 ∧ f (249 + x) = 1) (1000 * 1 + x)) ++ zl (f (491 + x) ≠ 1 ∧ wanted f x) (1000 * 2 + x))), ∀ (H : Heap) (locs : List Loc), va_P D vwCl [(m0, .inr (7, [.ref (a 0), .ref (a 1), .int (zI (ke)), .int (zI (th)), .ref (a 2), .ref (a 3), .ref (a 4), .ref (a 5), .ref (a 6), .ref (a 7), .ref (a 8), .long (zL (hs))])), (a 0, .inl (cI, 612, .inl (zA f))), (a 2, .inl (cJ, 121, .inr (.inl (zAL (u1 0))))), (a 3, .inl (cI, 121, .inl (zA (u1 1)))), (a 4, .inl (cI, 121, .inl (zA (u1 2)))), (a 5, .inl (cI, 121, .inl (zA (u1 3)))), (a 6, .inl (cI, 121, .inl (zA u5))), (a 7, .inl (cI, 605, .inl (zA g2)))] H → va_S A s.heap H locs → ∀ (ls : Array Slot), lv_has ls 6 [(5, .int (zI (2))), (0, .ref m0), (1, .int (zI (rank f (f 0 + 1)))), (2, .int (zI (cn2))), (3, .int (zI (i))), (4, .int (zI (x)))] → W p l e rmX7_findViolations s m args below meth c H locs 0 0 Q (F0 m 67 ls []) := by
                intro cn2 g2 hc2 hF2 H locs hP hS ls hl
                have hl2 : (((vio f u5 (u1 2) (rank f (f 0 + 1)) x) ++ zl (f (491 + x) = 1 ∧ f (249 + x) = 1) (1000 * 1 + x)) ++ zl (f (491 + x) ≠ 1 ∧ wanted f x) (1000 * 2 + x)).length ≤ ((vio f u5 (u1 2) (rank f (f 0 + 1)) x) ++ zl (f (491 + x) = 1 ∧ f (249 + x) = 1) (1000 * 1 + x)).length + 1 := by rw [List.length_append]; have := zl_len (f (491 + x) ≠ 1 ∧ wanted f x) (1000 * 2 + x); omega
                refine z_iinc (lv' := [(5, .int (zI (3))), (0, .ref m0), (1, .int (zI (rank f (f 0 + 1)))), (2, .int (zI (cn2))), (3, .int (zI (i))), (4, .int (zI (x)))]) hx hb 0 (3) dX7_findViolations_67 hl rfl (by omega) (by decide) rfl (fun ls hl => ?_)
                refine lv_goto (tgt := 30) hx hb dX7_findViolations_70 (by decide) ?_
                refine lv_iload hx hb dX7_findViolations_30 (lv_at hl 0 rfl) ?_
                refine z_iconst hx hb dX7_findViolations_32 ?_
                refine z_icmp_gt (tgt := 73) hx hb dX7_findViolations_33 (by decide) (by omega) (by omega) (fun c33 => ?_) (fun c33 => ?_)
                · exfalso; omega
                · refine lv_aload_n hx hb dX7_findViolations_36 rfl (lv_at hl 1 rfl) ?_
                  refine lv_iload hx hb dX7_findViolations_37 (lv_at hl 0 rfl) ?_
                  refine lv_iload hx hb dX7_findViolations_39 (lv_at hl 5 rfl) ?_
                  refine lv_iload_n hx hb dX7_findViolations_41 rfl (lv_at hl 4 rfl) ?_
                  refine lv_iload_n hx hb dX7_findViolations_42 rfl (lv_at hl 2 rfl) ?_
                  refine y_rV (v := zB (f (491 + x) = 1 ∧ 0 < i ∧ x - u5 (i - 1) < f 5)) (As := [.int (zI (3)), .int (zI (x)), .int (zI (i)), .int (zI (rank f (f 0 + 1)))]) (rest := []) hx hb hml hown hts hl.1 ⟨Nat.zero_le _, Nat.zero_le _⟩ (kX7_isViolated_3 l D cI cJ cS m0 a ke th hs f (u1 2) u5 (rank f (f 0 + 1)) i x ok hgd rep (by omega) hi) (cwV 4 hts gX7_findViolations_X7_isViolated rfl rfl rfl jX7_isViolated ⟨Nat.le_of_ble_eq_true rfl, Nat.le_of_ble_eq_true rfl⟩) hK [true, true, false, false, true, false, true] hP (zD hD rfl) rfl 7 0 rfl rfl rfl rfl rfl (Nat.le_of_ble_eq_true rfl) dX7_findViolations_43 ?_
                  have J67 : ∀ (cn3 : Int) (g3 : Int → Int), ∀ (hc3 : cn3 = (((((vio f u5 (u1 2) (rank f (f 0 + 1)) x) ++ zl (f (491 + x) = 1 ∧ f (249 + x) = 1) (1000 * 1 + x)) ++ zl (f (491 + x) ≠ 1 ∧ wanted f x) (1000 * 2 + x)) ++ zl (f (491 + x) = 1 ∧ 0 < i ∧ x - u5 (i - 1) < f 5) (1000 * 3 + x)).length : Int)), ∀ (hF3 : Fnd g3 ((((vio f u5 (u1 2) (rank f (f 0 + 1)) x) ++ zl (f (491 + x) = 1 ∧ f (249 + x) = 1) (1000 * 1 + x)) ++ zl (f (491 + x) ≠ 1 ∧ wanted f x) (1000 * 2 + x)) ++ zl (f (491 + x) = 1 ∧ 0 < i ∧ x - u5 (i - 1) < f 5) (1000 * 3 + x))), ∀ (H : Heap) (locs : List Loc), va_P D vwCl [(m0, .inr (7, [.ref (a 0), .ref (a 1), .int (zI (ke)), .int (zI (th)), .ref (a 2), .ref (a 3), .ref (a 4), .ref (a 5), .ref (a 6), .ref (a 7), .ref (a 8), .long (zL (hs))])), (a 0, .inl (cI, 612, .inl (zA f))), (a 2, .inl (cJ, 121, .inr (.inl (zAL (u1 0))))), (a 3, .inl (cI, 121, .inl (zA (u1 1)))), (a 4, .inl (cI, 121, .inl (zA (u1 2)))), (a 5, .inl (cI, 121, .inl (zA (u1 3)))), (a 6, .inl (cI, 121, .inl (zA u5))), (a 7, .inl (cI, 605, .inl (zA g3)))] H → va_S A s.heap H locs → ∀ (ls : Array Slot), lv_has ls 6 [(5, .int (zI (3))), (0, .ref m0), (1, .int (zI (rank f (f 0 + 1)))), (2, .int (zI (cn3))), (3, .int (zI (i))), (4, .int (zI (x)))] → W p l e rmX7_findViolations s m args below meth c H locs 0 0 Q (F0 m 67 ls []) := by
                    intro cn3 g3 hc3 hF3 H locs hP hS ls hl
                    have hl3 : ((((vio f u5 (u1 2) (rank f (f 0 + 1)) x) ++ zl (f (491 + x) = 1 ∧ f (249 + x) = 1) (1000 * 1 + x)) ++ zl (f (491 + x) ≠ 1 ∧ wanted f x) (1000 * 2 + x)) ++ zl (f (491 + x) = 1 ∧ 0 < i ∧ x - u5 (i - 1) < f 5) (1000 * 3 + x)).length ≤ (((vio f u5 (u1 2) (rank f (f 0 + 1)) x) ++ zl (f (491 + x) = 1 ∧ f (249 + x) = 1) (1000 * 1 + x)) ++ zl (f (491 + x) ≠ 1 ∧ wanted f x) (1000 * 2 + x)).length + 1 := by rw [List.length_append]; have := zl_len (f (491 + x) = 1 ∧ 0 < i ∧ x - u5 (i - 1) < f 5) (1000 * 3 + x); omega
                    refine z_iinc (lv' := [(5, .int (zI (4))), (0, .ref m0), (1, .int (zI (rank f (f 0 + 1)))), (2, .int (zI (cn3))), (3, .int (zI (i))), (4, .int (zI (x)))]) hx hb 0 (4) dX7_findViolations_67 hl rfl (by omega) (by decide) rfl (fun ls hl => ?_)
                    refine lv_goto (tgt := 30) hx hb dX7_findViolations_70 (by decide) ?_
                    refine lv_iload hx hb dX7_findViolations_30 (lv_at hl 0 rfl) ?_
                    refine z_iconst hx hb dX7_findViolations_32 ?_
                    refine z_icmp_gt (tgt := 73) hx hb dX7_findViolations_33 (by decide) (by omega) (by omega) (fun c33 => ?_) (fun c33 => ?_)
                    · exfalso; omega
                    · refine lv_aload_n hx hb dX7_findViolations_36 rfl (lv_at hl 1 rfl) ?_
                      refine lv_iload hx hb dX7_findViolations_37 (lv_at hl 0 rfl) ?_
                      refine lv_iload hx hb dX7_findViolations_39 (lv_at hl 5 rfl) ?_
                      refine lv_iload_n hx hb dX7_findViolations_41 rfl (lv_at hl 4 rfl) ?_
                      refine lv_iload_n hx hb dX7_findViolations_42 rfl (lv_at hl 2 rfl) ?_
                      refine y_rV (v := zB (f (491 + x) = 1 ∧ 0 < i ∧ f 6 < x - u5 (i - 1))) (As := [.int (zI (4)), .int (zI (x)), .int (zI (i)), .int (zI (rank f (f 0 + 1)))]) (rest := []) hx hb hml hown hts hl.1 ⟨Nat.zero_le _, Nat.zero_le _⟩ (kX7_isViolated_4 l D cI cJ cS m0 a ke th hs f (u1 2) u5 (rank f (f 0 + 1)) i x ok hgd rep (by omega) hi) (cwV 4 hts gX7_findViolations_X7_isViolated rfl rfl rfl jX7_isViolated ⟨Nat.le_of_ble_eq_true rfl, Nat.le_of_ble_eq_true rfl⟩) hK [true, true, false, false, true, false, true] hP (zD hD rfl) rfl 7 0 rfl rfl rfl rfl rfl (Nat.le_of_ble_eq_true rfl) dX7_findViolations_43 ?_
                      have J67 : ∀ (cn4 : Int) (g4 : Int → Int), ∀ (hc4 : cn4 = ((((((vio f u5 (u1 2) (rank f (f 0 + 1)) x) ++ zl (f (491 + x) = 1 ∧ f (249 + x) = 1) (1000 * 1 + x)) ++ zl (f (491 + x) ≠ 1 ∧ wanted f x) (1000 * 2 + x)) ++ zl (f (491 + x) = 1 ∧ 0 < i ∧ x - u5 (i - 1) < f 5) (1000 * 3 + x)) ++ zl (f (491 + x) = 1 ∧ 0 < i ∧ f 6 < x - u5 (i - 1)) (1000 * 4 + x)).length : Int)), ∀ (hF4 : Fnd g4 (((((vio f u5 (u1 2) (rank f (f 0 + 1)) x) ++ zl (f (491 + x) = 1 ∧ f (249 + x) = 1) (1000 * 1 + x)) ++ zl (f (491 + x) ≠ 1 ∧ wanted f x) (1000 * 2 + x)) ++ zl (f (491 + x) = 1 ∧ 0 < i ∧ x - u5 (i - 1) < f 5) (1000 * 3 + x)) ++ zl (f (491 + x) = 1 ∧ 0 < i ∧ f 6 < x - u5 (i - 1)) (1000 * 4 + x))), ∀ (H : Heap) (locs : List Loc), va_P D vwCl [(m0, .inr (7, [.ref (a 0), .ref (a 1), .int (zI (ke)), .int (zI (th)), .ref (a 2), .ref (a 3), .ref (a 4), .ref (a 5), .ref (a 6), .ref (a 7), .ref (a 8), .long (zL (hs))])), (a 0, .inl (cI, 612, .inl (zA f))), (a 2, .inl (cJ, 121, .inr (.inl (zAL (u1 0))))), (a 3, .inl (cI, 121, .inl (zA (u1 1)))), (a 4, .inl (cI, 121, .inl (zA (u1 2)))), (a 5, .inl (cI, 121, .inl (zA (u1 3)))), (a 6, .inl (cI, 121, .inl (zA u5))), (a 7, .inl (cI, 605, .inl (zA g4)))] H → va_S A s.heap H locs → ∀ (ls : Array Slot), lv_has ls 6 [(5, .int (zI (4))), (0, .ref m0), (1, .int (zI (rank f (f 0 + 1)))), (2, .int (zI (cn4))), (3, .int (zI (i))), (4, .int (zI (x)))] → W p l e rmX7_findViolations s m args below meth c H locs 0 0 Q (F0 m 67 ls []) := by
                        intro cn4 g4 hc4 hF4 H locs hP hS ls hl
                        have hl4 : (((((vio f u5 (u1 2) (rank f (f 0 + 1)) x) ++ zl (f (491 + x) = 1 ∧ f (249 + x) = 1) (1000 * 1 + x)) ++ zl (f (491 + x) ≠ 1 ∧ wanted f x) (1000 * 2 + x)) ++ zl (f (491 + x) = 1 ∧ 0 < i ∧ x - u5 (i - 1) < f 5) (1000 * 3 + x)) ++ zl (f (491 + x) = 1 ∧ 0 < i ∧ f 6 < x - u5 (i - 1)) (1000 * 4 + x)).length ≤ ((((vio f u5 (u1 2) (rank f (f 0 + 1)) x) ++ zl (f (491 + x) = 1 ∧ f (249 + x) = 1) (1000 * 1 + x)) ++ zl (f (491 + x) ≠ 1 ∧ wanted f x) (1000 * 2 + x)) ++ zl (f (491 + x) = 1 ∧ 0 < i ∧ x - u5 (i - 1) < f 5) (1000 * 3 + x)).length + 1 := by rw [List.length_append]; have := zl_len (f (491 + x) = 1 ∧ 0 < i ∧ f 6 < x - u5 (i - 1)) (1000 * 4 + x); omega
                        refine z_iinc (lv' := [(5, .int (zI (5))), (0, .ref m0), (1, .int (zI (rank f (f 0 + 1)))), (2, .int (zI (cn4))), (3, .int (zI (i))), (4, .int (zI (x)))]) hx hb 0 (5) dX7_findViolations_67 hl rfl (by omega) (by decide) rfl (fun ls hl => ?_)
                        refine lv_goto (tgt := 30) hx hb dX7_findViolations_70 (by decide) ?_
                        refine lv_iload hx hb dX7_findViolations_30 (lv_at hl 0 rfl) ?_
                        refine z_iconst hx hb dX7_findViolations_32 ?_
                        refine z_icmp_gt (tgt := 73) hx hb dX7_findViolations_33 (by decide) (by omega) (by omega) (fun c33 => ?_) (fun c33 => ?_)
                        · exfalso; omega
                        · refine lv_aload_n hx hb dX7_findViolations_36 rfl (lv_at hl 1 rfl) ?_
                          refine lv_iload hx hb dX7_findViolations_37 (lv_at hl 0 rfl) ?_
                          refine lv_iload hx hb dX7_findViolations_39 (lv_at hl 5 rfl) ?_
                          refine lv_iload_n hx hb dX7_findViolations_41 rfl (lv_at hl 4 rfl) ?_
                          refine lv_iload_n hx hb dX7_findViolations_42 rfl (lv_at hl 2 rfl) ?_
                          refine y_rV (v := zB (f (491 + x) = 1 ∧ near f u5 (u1 2) (rank f (f 0 + 1)) i x)) (As := [.int (zI (5)), .int (zI (x)), .int (zI (i)), .int (zI (rank f (f 0 + 1)))]) (rest := []) hx hb hml hown hts hl.1 ⟨Nat.zero_le _, Nat.zero_le _⟩ (kX7_isViolated_5 l D cI cJ cS m0 a ke th hs f (u1 2) u5 (rank f (f 0 + 1)) i x ok hgd rep (by omega) hi) (cwV 4 hts gX7_findViolations_X7_isViolated rfl rfl rfl jX7_isViolated ⟨Nat.le_of_ble_eq_true rfl, Nat.le_of_ble_eq_true rfl⟩) hK [true, true, false, false, true, false, true] hP (zD hD rfl) rfl 7 0 rfl rfl rfl rfl rfl (Nat.le_of_ble_eq_true rfl) dX7_findViolations_43 ?_
                          have J67 : ∀ (cn5 : Int) (g5 : Int → Int), ∀ (hc5 : cn5 = (((((((vio f u5 (u1 2) (rank f (f 0 + 1)) x) ++ zl (f (491 + x) = 1 ∧ f (249 + x) = 1) (1000 * 1 + x)) ++ zl (f (491 + x) ≠ 1 ∧ wanted f x) (1000 * 2 + x)) ++ zl (f (491 + x) = 1 ∧ 0 < i ∧ x - u5 (i - 1) < f 5) (1000 * 3 + x)) ++ zl (f (491 + x) = 1 ∧ 0 < i ∧ f 6 < x - u5 (i - 1)) (1000 * 4 + x)) ++ zl (f (491 + x) = 1 ∧ near f u5 (u1 2) (rank f (f 0 + 1)) i x) (1000 * 5 + x)).length : Int)), ∀ (hF5 : Fnd g5 ((((((vio f u5 (u1 2) (rank f (f 0 + 1)) x) ++ zl (f (491 + x) = 1 ∧ f (249 + x) = 1) (1000 * 1 + x)) ++ zl (f (491 + x) ≠ 1 ∧ wanted f x) (1000 * 2 + x)) ++ zl (f (491 + x) = 1 ∧ 0 < i ∧ x - u5 (i - 1) < f 5) (1000 * 3 + x)) ++ zl (f (491 + x) = 1 ∧ 0 < i ∧ f 6 < x - u5 (i - 1)) (1000 * 4 + x)) ++ zl (f (491 + x) = 1 ∧ near f u5 (u1 2) (rank f (f 0 + 1)) i x) (1000 * 5 + x))), ∀ (H : Heap) (locs : List Loc), va_P D vwCl [(m0, .inr (7, [.ref (a 0), .ref (a 1), .int (zI (ke)), .int (zI (th)), .ref (a 2), .ref (a 3), .ref (a 4), .ref (a 5), .ref (a 6), .ref (a 7), .ref (a 8), .long (zL (hs))])), (a 0, .inl (cI, 612, .inl (zA f))), (a 2, .inl (cJ, 121, .inr (.inl (zAL (u1 0))))), (a 3, .inl (cI, 121, .inl (zA (u1 1)))), (a 4, .inl (cI, 121, .inl (zA (u1 2)))), (a 5, .inl (cI, 121, .inl (zA (u1 3)))), (a 6, .inl (cI, 121, .inl (zA u5))), (a 7, .inl (cI, 605, .inl (zA g5)))] H → va_S A s.heap H locs → ∀ (ls : Array Slot), lv_has ls 6 [(5, .int (zI (5))), (0, .ref m0), (1, .int (zI (rank f (f 0 + 1)))), (2, .int (zI (cn5))), (3, .int (zI (i))), (4, .int (zI (x)))] → W p l e rmX7_findViolations s m args below meth c H locs 0 0 Q (F0 m 67 ls []) := by
                            intro cn5 g5 hc5 hF5 H locs hP hS ls hl
                            have hl5 : ((((((vio f u5 (u1 2) (rank f (f 0 + 1)) x) ++ zl (f (491 + x) = 1 ∧ f (249 + x) = 1) (1000 * 1 + x)) ++ zl (f (491 + x) ≠ 1 ∧ wanted f x) (1000 * 2 + x)) ++ zl (f (491 + x) = 1 ∧ 0 < i ∧ x - u5 (i - 1) < f 5) (1000 * 3 + x)) ++ zl (f (491 + x) = 1 ∧ 0 < i ∧ f 6 < x - u5 (i - 1)) (1000 * 4 + x)) ++ zl (f (491 + x) = 1 ∧ near f u5 (u1 2) (rank f (f 0 + 1)) i x) (1000 * 5 + x)).length ≤ (((((vio f u5 (u1 2) (rank f (f 0 + 1)) x) ++ zl (f (491 + x) = 1 ∧ f (249 + x) = 1) (1000 * 1 + x)) ++ zl (f (491 + x) ≠ 1 ∧ wanted f x) (1000 * 2 + x)) ++ zl (f (491 + x) = 1 ∧ 0 < i ∧ x - u5 (i - 1) < f 5) (1000 * 3 + x)) ++ zl (f (491 + x) = 1 ∧ 0 < i ∧ f 6 < x - u5 (i - 1)) (1000 * 4 + x)).length + 1 := by rw [List.length_append]; have := zl_len (f (491 + x) = 1 ∧ near f u5 (u1 2) (rank f (f 0 + 1)) i x) (1000 * 5 + x); omega
                            refine z_iinc (lv' := [(5, .int (zI (6))), (0, .ref m0), (1, .int (zI (rank f (f 0 + 1)))), (2, .int (zI (cn5))), (3, .int (zI (i))), (4, .int (zI (x)))]) hx hb 0 (6) dX7_findViolations_67 hl rfl (by omega) (by decide) rfl (fun ls hl => ?_)
                            refine lv_goto (tgt := 30) hx hb dX7_findViolations_70 (by decide) ?_
                            refine lv_iload hx hb dX7_findViolations_30 (lv_at hl 0 rfl) ?_
                            refine z_iconst hx hb dX7_findViolations_32 ?_
                            refine z_icmp_gt (tgt := 73) hx hb dX7_findViolations_33 (by decide) (by omega) (by omega) (fun c33 => ?_) (fun c33 => ?_)
                            · refine lv_iload_n hx hb dX7_findViolations_73 rfl (lv_at hl 4 rfl) ?_
                              refine lv_aload_n hx hb dX7_findViolations_74 rfl (lv_at hl 1 rfl) ?_
                              refine va_get (D := D) (ci := 7) (v := .ref (a 0)) (C := RX7) (T := TX7) (N := 12) hx hb hts in7 hown hK hP 0 rfl rfl 0 (by decide) f7 (fun _ h9 => h9) rfl dX7_findViolations_75 ?_
                              refine z_sipush hx hb dX7_findViolations_78 (by decide +kernel) ?_
                              refine lv_iload hx hb dX7_findViolations_81 (lv_at hl 5 rfl) ?_
                              refine z_iadd hx hb dX7_findViolations_83 ?_
                              refine z_iald hx hb hK hP 1 0 rfl rfl (by omega) (Nat.lt_of_succ_le (Nat.le_of_ble_eq_true rfl)) dX7_findViolations_84 ?_
                              refine z_iadd hx hb dX7_findViolations_85 ?_
                              refine z_top (rank f (x + 1)) (by rw [hi]; exact (zsm_s h1.1).symm) ?_
                              have e9 : ((((((vio f u5 (u1 2) (rank f (f 0 + 1)) x) ++ zl (f (491 + x) = 1 ∧ f (249 + x) = 1) (1000 * 1 + x)) ++ zl (f (491 + x) ≠ 1 ∧ wanted f x) (1000 * 2 + x)) ++ zl (f (491 + x) = 1 ∧ 0 < i ∧ x - u5 (i - 1) < f 5) (1000 * 3 + x)) ++ zl (f (491 + x) = 1 ∧ 0 < i ∧ f 6 < x - u5 (i - 1)) (1000 * 4 + x)) ++ zl (f (491 + x) = 1 ∧ near f u5 (u1 2) (rank f (f 0 + 1)) i x) (1000 * 5 + x)) = vio f u5 (u1 2) (rank f (f 0 + 1)) (x + 1) := by rw [vio_s h1.1, ← hi]; unfold vat; simp only [List.append_assoc]
                              refine lv_istore_n (lv' := [(3, .int (zI (rank f (x + 1)))), (5, .int (zI (6))), (0, .ref m0), (1, .int (zI (rank f (f 0 + 1)))), (2, .int (zI (cn5))), (4, .int (zI (x)))]) hx hb dX7_findViolations_86 rfl hl (by decide) rfl (fun ls hl => ?_)
                              refine z_iinc (lv' := [(4, .int (zI (x + 1))), (3, .int (zI (rank f (x + 1)))), (5, .int (zI (6))), (0, .ref m0), (1, .int (zI (rank f (f 0 + 1)))), (2, .int (zI (cn5)))]) hx hb 5 (x + 1) dX7_findViolations_87 hl rfl (by omega) (by decide) rfl (fun ls hl => ?_)
                              refine lv_goto (tgt := 16) hx hb dX7_findViolations_90 (by decide) ?_
                              exact ih16 cn5 (rank f (x + 1)) (x + 1) g5 (by omega) rfl (by rw [hc5, e9]) (by rw [← e9]; exact hF5) (by omega) _ _ hP hS ls (lv_sub hl [3, 4, 5, 1, 0] rfl)
                            · exfalso; omega
                          refine z_if_eq (tgt := 67) hx hb dX7_findViolations_46 (by decide) (by have hz := zB_01 (f (491 + x) = 1 ∧ near f u5 (u1 2) (rank f (f 0 + 1)) i x); omega) (fun c46 => ?_) (fun c46 => ?_)
                          · have c46 := zB_0.mp c46
                            exact J67 cn4 g4 (by rw [zl_f c46, List.append_nil]; exact hc4) (by rw [zl_f c46, List.append_nil]; exact hF4) _ _ hP hS ls (lv_sub hl [0, 1, 2, 3, 4, 5] rfl)
                          · have c46 := zB_n0.mp c46
                            refine lv_aload_n hx hb dX7_findViolations_49 rfl (lv_at hl 1 rfl) ?_
                            refine va_get (D := D) (ci := 7) (v := .ref (a 7)) (C := RX7) (T := TX7) (N := 12) hx hb hts in7 hown hK hP 0 rfl rfl 9 (by decide) f32 (fun _ h9 => h9) rfl dX7_findViolations_50 ?_
                            refine lv_iload_n hx hb dX7_findViolations_53 rfl (lv_at hl 3 rfl) ?_
                            refine z_sipush hx hb dX7_findViolations_54 (by decide +kernel) ?_
                            refine lv_iload hx hb dX7_findViolations_57 (lv_at hl 0 rfl) ?_
                            refine z_imul hx hb dX7_findViolations_59 ?_
                            refine lv_iload hx hb dX7_findViolations_60 (lv_at hl 5 rfl) ?_
                            refine z_iadd hx hb dX7_findViolations_62 ?_
                            refine z_iast hx hb hK hP (zD hD rfl) hS 7 0 [(m0, .inr (7, [.ref (a 0), .ref (a 1), .int (zI (ke)), .int (zI (th)), .ref (a 2), .ref (a 3), .ref (a 4), .ref (a 5), .ref (a 6), .ref (a 7), .ref (a 8), .long (zL (hs))])), (a 0, .inl (cI, 612, .inl (zA f))), (a 2, .inl (cJ, 121, .inr (.inl (zAL (u1 0))))), (a 3, .inl (cI, 121, .inl (zA (u1 1)))), (a 4, .inl (cI, 121, .inl (zA (u1 2)))), (a 5, .inl (cI, 121, .inl (zA (u1 3)))), (a 6, .inl (cI, 121, .inl (zA u5))), (a 7, .inl (cI, 605, .inl (zA (zup g4 cn4 ((1000 * 5) + x)))))] rfl rfl (by omega) (Nat.lt_of_succ_le (Nat.le_of_ble_eq_true rfl)) rfl dX7_findViolations_63 (fun H locs hP hS => ?_)
                            refine z_iinc (lv' := [(2, .int (zI (cn4 + 1))), (5, .int (zI (5))), (0, .ref m0), (1, .int (zI (rank f (f 0 + 1)))), (3, .int (zI (i))), (4, .int (zI (x)))]) hx hb 3 (cn4 + 1) dX7_findViolations_64 hl rfl (by omega) (by decide) rfl (fun ls hl => ?_)
                            exact J67 (cn4 + 1) (zup g4 cn4 ((1000 * 5) + x)) (by rw [zl_t c46, List.length_append, hc4]; simp) (by rw [zl_t c46, hc4]; exact fnd_add hF4 _) _ _ hP hS ls (lv_sub hl [1, 2, 3, 0, 4, 5] rfl)
                      refine z_if_eq (tgt := 67) hx hb dX7_findViolations_46 (by decide) (by have hz := zB_01 (f (491 + x) = 1 ∧ 0 < i ∧ f 6 < x - u5 (i - 1)); omega) (fun c46 => ?_) (fun c46 => ?_)
                      · have c46 := zB_0.mp c46
                        exact J67 cn3 g3 (by rw [zl_f c46, List.append_nil]; exact hc3) (by rw [zl_f c46, List.append_nil]; exact hF3) _ _ hP hS ls (lv_sub hl [0, 1, 2, 3, 4, 5] rfl)
                      · have c46 := zB_n0.mp c46
                        refine lv_aload_n hx hb dX7_findViolations_49 rfl (lv_at hl 1 rfl) ?_
                        refine va_get (D := D) (ci := 7) (v := .ref (a 7)) (C := RX7) (T := TX7) (N := 12) hx hb hts in7 hown hK hP 0 rfl rfl 9 (by decide) f32 (fun _ h9 => h9) rfl dX7_findViolations_50 ?_
                        refine lv_iload_n hx hb dX7_findViolations_53 rfl (lv_at hl 3 rfl) ?_
                        refine z_sipush hx hb dX7_findViolations_54 (by decide +kernel) ?_
                        refine lv_iload hx hb dX7_findViolations_57 (lv_at hl 0 rfl) ?_
                        refine z_imul hx hb dX7_findViolations_59 ?_
                        refine lv_iload hx hb dX7_findViolations_60 (lv_at hl 5 rfl) ?_
                        refine z_iadd hx hb dX7_findViolations_62 ?_
                        refine z_iast hx hb hK hP (zD hD rfl) hS 7 0 [(m0, .inr (7, [.ref (a 0), .ref (a 1), .int (zI (ke)), .int (zI (th)), .ref (a 2), .ref (a 3), .ref (a 4), .ref (a 5), .ref (a 6), .ref (a 7), .ref (a 8), .long (zL (hs))])), (a 0, .inl (cI, 612, .inl (zA f))), (a 2, .inl (cJ, 121, .inr (.inl (zAL (u1 0))))), (a 3, .inl (cI, 121, .inl (zA (u1 1)))), (a 4, .inl (cI, 121, .inl (zA (u1 2)))), (a 5, .inl (cI, 121, .inl (zA (u1 3)))), (a 6, .inl (cI, 121, .inl (zA u5))), (a 7, .inl (cI, 605, .inl (zA (zup g3 cn3 ((1000 * 4) + x)))))] rfl rfl (by omega) (Nat.lt_of_succ_le (Nat.le_of_ble_eq_true rfl)) rfl dX7_findViolations_63 (fun H locs hP hS => ?_)
                        refine z_iinc (lv' := [(2, .int (zI (cn3 + 1))), (5, .int (zI (4))), (0, .ref m0), (1, .int (zI (rank f (f 0 + 1)))), (3, .int (zI (i))), (4, .int (zI (x)))]) hx hb 3 (cn3 + 1) dX7_findViolations_64 hl rfl (by omega) (by decide) rfl (fun ls hl => ?_)
                        exact J67 (cn3 + 1) (zup g3 cn3 ((1000 * 4) + x)) (by rw [zl_t c46, List.length_append, hc3]; simp) (by rw [zl_t c46, hc3]; exact fnd_add hF3 _) _ _ hP hS ls (lv_sub hl [1, 2, 3, 0, 4, 5] rfl)
                  refine z_if_eq (tgt := 67) hx hb dX7_findViolations_46 (by decide) (by have hz := zB_01 (f (491 + x) = 1 ∧ 0 < i ∧ x - u5 (i - 1) < f 5); omega) (fun c46 => ?_) (fun c46 => ?_)
                  · have c46 := zB_0.mp c46
                    exact J67 cn2 g2 (by rw [zl_f c46, List.append_nil]; exact hc2) (by rw [zl_f c46, List.append_nil]; exact hF2) _ _ hP hS ls (lv_sub hl [0, 1, 2, 3, 4, 5] rfl)
                  · have c46 := zB_n0.mp c46
                    refine lv_aload_n hx hb dX7_findViolations_49 rfl (lv_at hl 1 rfl) ?_
                    refine va_get (D := D) (ci := 7) (v := .ref (a 7)) (C := RX7) (T := TX7) (N := 12) hx hb hts in7 hown hK hP 0 rfl rfl 9 (by decide) f32 (fun _ h9 => h9) rfl dX7_findViolations_50 ?_
                    refine lv_iload_n hx hb dX7_findViolations_53 rfl (lv_at hl 3 rfl) ?_
                    refine z_sipush hx hb dX7_findViolations_54 (by decide +kernel) ?_
                    refine lv_iload hx hb dX7_findViolations_57 (lv_at hl 0 rfl) ?_
                    refine z_imul hx hb dX7_findViolations_59 ?_
                    refine lv_iload hx hb dX7_findViolations_60 (lv_at hl 5 rfl) ?_
                    refine z_iadd hx hb dX7_findViolations_62 ?_
                    refine z_iast hx hb hK hP (zD hD rfl) hS 7 0 [(m0, .inr (7, [.ref (a 0), .ref (a 1), .int (zI (ke)), .int (zI (th)), .ref (a 2), .ref (a 3), .ref (a 4), .ref (a 5), .ref (a 6), .ref (a 7), .ref (a 8), .long (zL (hs))])), (a 0, .inl (cI, 612, .inl (zA f))), (a 2, .inl (cJ, 121, .inr (.inl (zAL (u1 0))))), (a 3, .inl (cI, 121, .inl (zA (u1 1)))), (a 4, .inl (cI, 121, .inl (zA (u1 2)))), (a 5, .inl (cI, 121, .inl (zA (u1 3)))), (a 6, .inl (cI, 121, .inl (zA u5))), (a 7, .inl (cI, 605, .inl (zA (zup g2 cn2 ((1000 * 3) + x)))))] rfl rfl (by omega) (Nat.lt_of_succ_le (Nat.le_of_ble_eq_true rfl)) rfl dX7_findViolations_63 (fun H locs hP hS => ?_)
                    refine z_iinc (lv' := [(2, .int (zI (cn2 + 1))), (5, .int (zI (3))), (0, .ref m0), (1, .int (zI (rank f (f 0 + 1)))), (3, .int (zI (i))), (4, .int (zI (x)))]) hx hb 3 (cn2 + 1) dX7_findViolations_64 hl rfl (by omega) (by decide) rfl (fun ls hl => ?_)
                    exact J67 (cn2 + 1) (zup g2 cn2 ((1000 * 3) + x)) (by rw [zl_t c46, List.length_append, hc2]; simp) (by rw [zl_t c46, hc2]; exact fnd_add hF2 _) _ _ hP hS ls (lv_sub hl [1, 2, 3, 0, 4, 5] rfl)
              refine z_if_eq (tgt := 67) hx hb dX7_findViolations_46 (by decide) (by have hz := zB_01 (f (491 + x) ≠ 1 ∧ wanted f x); omega) (fun c46 => ?_) (fun c46 => ?_)
              · have c46 := zB_0.mp c46
                exact J67 cn1 g1 (by rw [zl_f c46, List.append_nil]; exact hc1) (by rw [zl_f c46, List.append_nil]; exact hF1) _ _ hP hS ls (lv_sub hl [0, 1, 2, 3, 4, 5] rfl)
              · have c46 := zB_n0.mp c46
                refine lv_aload_n hx hb dX7_findViolations_49 rfl (lv_at hl 1 rfl) ?_
                refine va_get (D := D) (ci := 7) (v := .ref (a 7)) (C := RX7) (T := TX7) (N := 12) hx hb hts in7 hown hK hP 0 rfl rfl 9 (by decide) f32 (fun _ h9 => h9) rfl dX7_findViolations_50 ?_
                refine lv_iload_n hx hb dX7_findViolations_53 rfl (lv_at hl 3 rfl) ?_
                refine z_sipush hx hb dX7_findViolations_54 (by decide +kernel) ?_
                refine lv_iload hx hb dX7_findViolations_57 (lv_at hl 0 rfl) ?_
                refine z_imul hx hb dX7_findViolations_59 ?_
                refine lv_iload hx hb dX7_findViolations_60 (lv_at hl 5 rfl) ?_
                refine z_iadd hx hb dX7_findViolations_62 ?_
                refine z_iast hx hb hK hP (zD hD rfl) hS 7 0 [(m0, .inr (7, [.ref (a 0), .ref (a 1), .int (zI (ke)), .int (zI (th)), .ref (a 2), .ref (a 3), .ref (a 4), .ref (a 5), .ref (a 6), .ref (a 7), .ref (a 8), .long (zL (hs))])), (a 0, .inl (cI, 612, .inl (zA f))), (a 2, .inl (cJ, 121, .inr (.inl (zAL (u1 0))))), (a 3, .inl (cI, 121, .inl (zA (u1 1)))), (a 4, .inl (cI, 121, .inl (zA (u1 2)))), (a 5, .inl (cI, 121, .inl (zA (u1 3)))), (a 6, .inl (cI, 121, .inl (zA u5))), (a 7, .inl (cI, 605, .inl (zA (zup g1 cn1 ((1000 * 2) + x)))))] rfl rfl (by omega) (Nat.lt_of_succ_le (Nat.le_of_ble_eq_true rfl)) rfl dX7_findViolations_63 (fun H locs hP hS => ?_)
                refine z_iinc (lv' := [(2, .int (zI (cn1 + 1))), (5, .int (zI (2))), (0, .ref m0), (1, .int (zI (rank f (f 0 + 1)))), (3, .int (zI (i))), (4, .int (zI (x)))]) hx hb 3 (cn1 + 1) dX7_findViolations_64 hl rfl (by omega) (by decide) rfl (fun ls hl => ?_)
                exact J67 (cn1 + 1) (zup g1 cn1 ((1000 * 2) + x)) (by rw [zl_t c46, List.length_append, hc1]; simp) (by rw [zl_t c46, hc1]; exact fnd_add hF1 _) _ _ hP hS ls (lv_sub hl [1, 2, 3, 0, 4, 5] rfl)
          refine z_if_eq (tgt := 67) hx hb dX7_findViolations_46 (by decide) (by have hz := zB_01 (f (491 + x) = 1 ∧ f (249 + x) = 1); omega) (fun c46 => ?_) (fun c46 => ?_)
          · have c46 := zB_0.mp c46
            exact J67 cn g (by rw [zl_f c46, List.append_nil]; exact hc) (by rw [zl_f c46, List.append_nil]; exact hF) _ _ hP hS ls (lv_sub hl [0, 1, 2, 3, 4, 5] rfl)
          · have c46 := zB_n0.mp c46
            refine lv_aload_n hx hb dX7_findViolations_49 rfl (lv_at hl 1 rfl) ?_
            refine va_get (D := D) (ci := 7) (v := .ref (a 7)) (C := RX7) (T := TX7) (N := 12) hx hb hts in7 hown hK hP 0 rfl rfl 9 (by decide) f32 (fun _ h9 => h9) rfl dX7_findViolations_50 ?_
            refine lv_iload_n hx hb dX7_findViolations_53 rfl (lv_at hl 3 rfl) ?_
            refine z_sipush hx hb dX7_findViolations_54 (by decide +kernel) ?_
            refine lv_iload hx hb dX7_findViolations_57 (lv_at hl 0 rfl) ?_
            refine z_imul hx hb dX7_findViolations_59 ?_
            refine lv_iload hx hb dX7_findViolations_60 (lv_at hl 5 rfl) ?_
            refine z_iadd hx hb dX7_findViolations_62 ?_
            refine z_iast hx hb hK hP (zD hD rfl) hS 7 0 [(m0, .inr (7, [.ref (a 0), .ref (a 1), .int (zI (ke)), .int (zI (th)), .ref (a 2), .ref (a 3), .ref (a 4), .ref (a 5), .ref (a 6), .ref (a 7), .ref (a 8), .long (zL (hs))])), (a 0, .inl (cI, 612, .inl (zA f))), (a 2, .inl (cJ, 121, .inr (.inl (zAL (u1 0))))), (a 3, .inl (cI, 121, .inl (zA (u1 1)))), (a 4, .inl (cI, 121, .inl (zA (u1 2)))), (a 5, .inl (cI, 121, .inl (zA (u1 3)))), (a 6, .inl (cI, 121, .inl (zA u5))), (a 7, .inl (cI, 605, .inl (zA (zup g cn ((1000 * 1) + x)))))] rfl rfl (by omega) (Nat.lt_of_succ_le (Nat.le_of_ble_eq_true rfl)) rfl dX7_findViolations_63 (fun H locs hP hS => ?_)
            refine z_iinc (lv' := [(2, .int (zI (cn + 1))), (5, .int (zI (1))), (0, .ref m0), (1, .int (zI (rank f (f 0 + 1)))), (3, .int (zI (i))), (4, .int (zI (x)))]) hx hb 3 (cn + 1) dX7_findViolations_64 hl rfl (by omega) (by decide) rfl (fun ls hl => ?_)
            exact J67 (cn + 1) (zup g cn ((1000 * 1) + x)) (by rw [zl_t c46, List.length_append, hc]; simp) (by rw [zl_t c46, hc]; exact fnd_add hF _) _ _ hP hS ls (lv_sub hl [1, 2, 3, 0, 4, 5] rfl)
  exact L16 _ 0 0 0 gf (by omega) (by rw [show rank f 0 = 0 from zsm_0 f 491]) rfl (fnd_nil _) (Nat.lt_succ_self _) _ _ hP hS ls (lv_sub hl [4, 3, 2, 1, 0] rfl)

abbrev rmX7_violationCount : Room := { frames := 4, cells := 0, slots := 0, locals := 96 }
theorem jX7_violationCount : yX7_violationCount.cls = RX7 ∧ yX7_violationCount.cls ≠ "java/lang/invoke/MethodHandle" ∧ yX7_violationCount.cls ≠ "java/lang/invoke/VarHandle" ∧ (parseMethodDescriptor yX7_violationCount.desc).map (fun d => d.parameters.length) = some 0 := by decide +kernel
set_option maxHeartbeats 4000000 in
set_option maxRecDepth 100000 in
theorem kX7_violationCount (l : Launch) (D : va_G) (cI cJ cS : ClassId) (m0 : Nat) (a : Nat → Nat) (ke th hs : Int) (f : Int → Int) (ge gv gd gt gr gf : Int → Int) (ok : OkF f) : Met l yX7_violationCount wsX7_violationCount rmX7_violationCount (zPc D (zT cI cJ cS) [.ref m0] [(m0, .inr (7, [.ref (a 0), .ref (a 1), .int (zI (ke)), .int (zI (th)), .ref (a 2), .ref (a 3), .ref (a 4), .ref (a 5), .ref (a 6), .ref (a 7), .ref (a 8), .long (zL (hs))])), (a 0, .inl (cI, 612, .inl (zA f))), (a 2, .inl (cJ, 121, .inr (.inl (zAL ge)))), (a 3, .inl (cI, 121, .inl (zA gv))), (a 4, .inl (cI, 121, .inl (zA gd))), (a 5, .inl (cI, 121, .inl (zA gt))), (a 6, .inl (cI, 121, .inl (zA gr))), (a 7, .inl (cI, 605, .inl (zA gf)))]) (va_Qi (fun r _ => r = zI ((VIO f).length : Int)) (fun (u : Nat → Int → Int) t => va_P D vwCl [(m0, .inr (7, [.ref (a 0), .ref (a 1), .int (zI (ke)), .int (zI (0)), .ref (a 2), .ref (a 3), .ref (a 4), .ref (a 5), .ref (a 6), .ref (a 7), .ref (a 8), .long (zL (hs))])), (a 0, .inl (cI, 612, .inl (zA f))), (a 2, .inl (cJ, 121, .inr (.inl (zAL (u 0))))), (a 3, .inl (cI, 121, .inl (zA (u 1)))), (a 4, .inl (cI, 121, .inl (zA (u 2)))), (a 5, .inl (cI, 121, .inl (zA (u 3)))), (a 6, .inl (cI, 121, .inl (zA (u 4)))), (a 7, .inl (cI, 605, .inl (zA (u 5))))] t.heap) (zAd [(m0, .inr (7, [.ref (a 0), .ref (a 1), .int (zI (ke)), .int (zI (th)), .ref (a 2), .ref (a 3), .ref (a 4), .ref (a 5), .ref (a 6), .ref (a 7), .ref (a 8), .long (zL (hs))])), (a 0, .inl (cI, 612, .inl (zA f))), (a 2, .inl (cJ, 121, .inr (.inl (zAL ge)))), (a 3, .inl (cI, 121, .inl (zA gv))), (a 4, .inl (cI, 121, .inl (zA gd))), (a 5, .inl (cI, 121, .inl (zA gt))), (a 6, .inl (cI, 121, .inl (zA gr))), (a 7, .inl (cI, 605, .inl (zA gf)))])) 0 0 (zAd [(m0, .inr (7, [.ref (a 0), .ref (a 1), .int (zI (ke)), .int (zI (th)), .ref (a 2), .ref (a 3), .ref (a 4), .ref (a 5), .ref (a 6), .ref (a 7), .ref (a 8), .long (zL (hs))])), (a 0, .inl (cI, 612, .inl (zA f))), (a 2, .inl (cJ, 121, .inr (.inl (zAL ge)))), (a 3, .inl (cI, 121, .inl (zA gv))), (a 4, .inl (cI, 121, .inl (zA gd))), (a 5, .inl (cI, 121, .inl (zA gt))), (a 6, .inl (cI, 121, .inl (zA gr))), (a 7, .inl (cI, 605, .inl (zA gf)))]) := by
  refine zWi_of (cc := cX7_violationCount) (maxL := 1) (ret := (some .int)) (by decide) rfl (Nat.le_of_ble_eq_true rfl) rfl ?_
  intro p e s m args below meth c Q A ls hx hb hml hts hown hK hP hD hS hl hret
  have in7 : ∀ w ∈ wsX70, w ∈ wsX7_violationCount := by decide +kernel
  have f41 := hts (.fieldLink RX7 41 "SignalSpacingModel" "thrown" "I") (by decide +kernel)
  have hl : lv_has ls 1 [(0, .ref m0)] := hl
  have hP : va_P D vwCl [(m0, .inr (7, [.ref (a 0), .ref (a 1), .int (zI (ke)), .int (zI (th)), .ref (a 2), .ref (a 3), .ref (a 4), .ref (a 5), .ref (a 6), .ref (a 7), .ref (a 8), .long (zL (hs))])), (a 0, .inl (cI, 612, .inl (zA f))), (a 2, .inl (cJ, 121, .inr (.inl (zAL ge)))), (a 3, .inl (cI, 121, .inl (zA gv))), (a 4, .inl (cI, 121, .inl (zA gd))), (a 5, .inl (cI, 121, .inl (zA gt))), (a 6, .inl (cI, 121, .inl (zA gr))), (a 7, .inl (cI, 605, .inl (zA gf)))] s.heap := hP
  refine lv_aload_n hx hb dX7_violationCount_0 rfl (lv_at hl 0 rfl) ?_
  refine z_iconst hx hb dX7_violationCount_1 ?_
  refine z_put (ci := 7) (v := .int (zI (0))) (ty := .int) (C := RX7) (F := TX7) (N := 12) hx hb hts in7 tyX7 tyX7_ok nmX7 hown hK hP hD hS 0 [(m0, .inr (7, [.ref (a 0), .ref (a 1), .int (zI (ke)), .int (zI (0)), .ref (a 2), .ref (a 3), .ref (a 4), .ref (a 5), .ref (a 6), .ref (a 7), .ref (a 8), .long (zL (hs))])), (a 0, .inl (cI, 612, .inl (zA f))), (a 2, .inl (cJ, 121, .inr (.inl (zAL ge)))), (a 3, .inl (cI, 121, .inl (zA gv))), (a 4, .inl (cI, 121, .inl (zA gd))), (a 5, .inl (cI, 121, .inl (zA gt))), (a 6, .inl (cI, 121, .inl (zA gr))), (a 7, .inl (cI, 605, .inl (zA gf)))] rfl rfl 3 (by decide) f41 (fun _ h9 => h9) rfl (by decide +kernel) rfl rfl (Nat.le_of_ble_eq_true rfl) dX7_violationCount_2 rfl (fun H locs hP hS => ?_)
  refine lv_aload_n hx hb dX7_violationCount_5 rfl (lv_at hl 0 rfl) ?_
  refine y_wVi (As := []) (rest := []) (fun (u6 : Nat → Int → Int) => [(m0, .inr (7, [.ref (a 0), .ref (a 1), .int (zI (ke)), .int (zI (0)), .ref (a 2), .ref (a 3), .ref (a 4), .ref (a 5), .ref (a 6), .ref (a 7), .ref (a 8), .long (zL (hs))])), (a 0, .inl (cI, 612, .inl (zA f))), (a 2, .inl (cJ, 121, .inr (.inl (zAL (u6 0))))), (a 3, .inl (cI, 121, .inl (zA (u6 1)))), (a 4, .inl (cI, 121, .inl (zA (u6 2)))), (a 5, .inl (cI, 121, .inl (zA (u6 3)))), (a 6, .inl (cI, 121, .inl (zA (u6 4)))), (a 7, .inl (cI, 605, .inl (zA (u6 5))))]) hx hb hml hown hts hl.1 ⟨Nat.zero_le _, Nat.zero_le _⟩ (kX7_findViolations l D cI cJ cS m0 a ke 0 hs f ge gv gd gt gr gf ok) (cwV 0 hts gX7_violationCount_X7_findViolations rfl rfl rfl jX7_findViolations ⟨Nat.le_of_ble_eq_true rfl, Nat.le_of_ble_eq_true rfl⟩) hK [true, true, true, true, true, true, true, true] hP (zD hD rfl) hS rfl (fun _ => rfl) (fun _ => rfl) 7 0 rfl rfl rfl rfl rfl (Nat.le_of_ble_eq_true rfl) dX7_violationCount_6 (fun r6 u6 H locs hu6 hP hS => ?_)
  obtain ⟨rfl, hu6⟩ := hu6
  exact hret u6 rfl hP hS dX7_violationCount_9

abbrev rmX7_violation : Room := { frames := 4, cells := 0, slots := 0, locals := 96 }
theorem jX7_violation : yX7_violation.cls = RX7 ∧ yX7_violation.cls ≠ "java/lang/invoke/MethodHandle" ∧ yX7_violation.cls ≠ "java/lang/invoke/VarHandle" ∧ (parseMethodDescriptor yX7_violation.desc).map (fun d => d.parameters.length) = some 1 := by decide +kernel
set_option maxHeartbeats 4000000 in
set_option maxRecDepth 100000 in
theorem kX7_violation_no (l : Launch) (D : va_G) (cI cJ cS : ClassId) (m0 : Nat) (a : Nat → Nat) (ke th hs : Int) (f : Int → Int) (ge gv gd gt gr gf : Int → Int) (i : Int) (ok : OkF f) (hN : ¬ (0 ≤ i ∧ i < ((VIO f).length : Int))) (hr_i : -2147483648 ≤ i ∧ i < 2147483648) : Met l yX7_violation wsX7_violation rmX7_violation (zPc D (zT cI cJ cS) [.ref m0, .int (zI (i))] [(m0, .inr (7, [.ref (a 0), .ref (a 1), .int (zI (ke)), .int (zI (th)), .ref (a 2), .ref (a 3), .ref (a 4), .ref (a 5), .ref (a 6), .ref (a 7), .ref (a 8), .long (zL (hs))])), (a 0, .inl (cI, 612, .inl (zA f))), (a 2, .inl (cJ, 121, .inr (.inl (zAL ge)))), (a 3, .inl (cI, 121, .inl (zA gv))), (a 4, .inl (cI, 121, .inl (zA gd))), (a 5, .inl (cI, 121, .inl (zA gt))), (a 6, .inl (cI, 121, .inl (zA gr))), (a 7, .inl (cI, 605, .inl (zA gf)))]) (va_Qi (fun r _ => r = zI 0) (fun (u : Nat → Int → Int) t => va_P D vwCl [(m0, .inr (7, [.ref (a 0), .ref (a 1), .int (zI (ke)), .int (zI (1)), .ref (a 2), .ref (a 3), .ref (a 4), .ref (a 5), .ref (a 6), .ref (a 7), .ref (a 8), .long (zL (hs))])), (a 0, .inl (cI, 612, .inl (zA f))), (a 2, .inl (cJ, 121, .inr (.inl (zAL (u 0))))), (a 3, .inl (cI, 121, .inl (zA (u 1)))), (a 4, .inl (cI, 121, .inl (zA (u 2)))), (a 5, .inl (cI, 121, .inl (zA (u 3)))), (a 6, .inl (cI, 121, .inl (zA (u 4)))), (a 7, .inl (cI, 605, .inl (zA (u 5))))] t.heap) (zAd [(m0, .inr (7, [.ref (a 0), .ref (a 1), .int (zI (ke)), .int (zI (th)), .ref (a 2), .ref (a 3), .ref (a 4), .ref (a 5), .ref (a 6), .ref (a 7), .ref (a 8), .long (zL (hs))])), (a 0, .inl (cI, 612, .inl (zA f))), (a 2, .inl (cJ, 121, .inr (.inl (zAL ge)))), (a 3, .inl (cI, 121, .inl (zA gv))), (a 4, .inl (cI, 121, .inl (zA gd))), (a 5, .inl (cI, 121, .inl (zA gt))), (a 6, .inl (cI, 121, .inl (zA gr))), (a 7, .inl (cI, 605, .inl (zA gf)))])) 0 0 (zAd [(m0, .inr (7, [.ref (a 0), .ref (a 1), .int (zI (ke)), .int (zI (th)), .ref (a 2), .ref (a 3), .ref (a 4), .ref (a 5), .ref (a 6), .ref (a 7), .ref (a 8), .long (zL (hs))])), (a 0, .inl (cI, 612, .inl (zA f))), (a 2, .inl (cJ, 121, .inr (.inl (zAL ge)))), (a 3, .inl (cI, 121, .inl (zA gv))), (a 4, .inl (cI, 121, .inl (zA gd))), (a 5, .inl (cI, 121, .inl (zA gt))), (a 6, .inl (cI, 121, .inl (zA gr))), (a 7, .inl (cI, 605, .inl (zA gf)))]) := by
  refine zWi_of (cc := cX7_violation) (maxL := 3) (ret := (some .int)) (by decide) rfl (Nat.le_of_ble_eq_true rfl) rfl ?_
  intro p e s m args below meth c Q A ls hx hb hml hts hown hK hP hD hS hl hret
  have hl : lv_has ls 3 [(0, .ref m0), (1, .int (zI (i)))] := hl
  have hP : va_P D vwCl [(m0, .inr (7, [.ref (a 0), .ref (a 1), .int (zI (ke)), .int (zI (th)), .ref (a 2), .ref (a 3), .ref (a 4), .ref (a 5), .ref (a 6), .ref (a 7), .ref (a 8), .long (zL (hs))])), (a 0, .inl (cI, 612, .inl (zA f))), (a 2, .inl (cJ, 121, .inr (.inl (zAL ge)))), (a 3, .inl (cI, 121, .inl (zA gv))), (a 4, .inl (cI, 121, .inl (zA gd))), (a 5, .inl (cI, 121, .inl (zA gt))), (a 6, .inl (cI, 121, .inl (zA gr))), (a 7, .inl (cI, 605, .inl (zA gf)))] s.heap := hP
  have hvl := VIO_len ok
  refine lv_aload_n hx hb dX7_violation_0 rfl (lv_at hl 0 rfl) ?_
  refine y_wVi (As := []) (rest := []) (fun (u1 : Nat → Int → Int) => [(m0, .inr (7, [.ref (a 0), .ref (a 1), .int (zI (ke)), .int (zI (th)), .ref (a 2), .ref (a 3), .ref (a 4), .ref (a 5), .ref (a 6), .ref (a 7), .ref (a 8), .long (zL (hs))])), (a 0, .inl (cI, 612, .inl (zA f))), (a 2, .inl (cJ, 121, .inr (.inl (zAL (u1 0))))), (a 3, .inl (cI, 121, .inl (zA (u1 1)))), (a 4, .inl (cI, 121, .inl (zA (u1 2)))), (a 5, .inl (cI, 121, .inl (zA (u1 3)))), (a 6, .inl (cI, 121, .inl (zA (u1 4)))), (a 7, .inl (cI, 605, .inl (zA (u1 5))))]) hx hb hml hown hts hl.1 ⟨Nat.zero_le _, Nat.zero_le _⟩ (kX7_findViolations l D cI cJ cS m0 a ke th hs f ge gv gd gt gr gf ok) (cwV 0 hts gX7_violation_X7_findViolations rfl rfl rfl jX7_findViolations ⟨Nat.le_of_ble_eq_true rfl, Nat.le_of_ble_eq_true rfl⟩) hK [true, true, true, true, true, true, true, true] hP hD hS rfl (fun _ => rfl) (fun _ => rfl) 7 0 rfl rfl rfl rfl rfl (Nat.le_of_ble_eq_true rfl) dX7_violation_1 (fun r1 u1 H locs hu1 hP hS => ?_)
  obtain ⟨rfl, hu1⟩ := hu1
  refine lv_istore_n (lv' := [(2, .int (zI (((VIO f).length : Int)))), (0, .ref m0), (1, .int (zI (i)))]) hx hb dX7_violation_4 rfl hl (by decide) rfl (fun ls hl => ?_)
  refine lv_aload_n hx hb dX7_violation_5 rfl (lv_at hl 1 rfl) ?_
  refine lv_iload_n hx hb dX7_violation_6 rfl (lv_at hl 2 rfl) ?_
  refine z_iconst hx hb dX7_violation_7 ?_
  refine lv_iload_n hx hb dX7_violation_8 rfl (lv_at hl 0 rfl) ?_
  refine z_iconst hx hb dX7_violation_9 ?_
  refine z_isub hx hb dX7_violation_10 ?_
  refine z_rS (v := zB (0 ≤ i ∧ i ≤ (((VIO f).length : Int) - 1))) (As := [.int (zI (i)), .int (zI (0)), .int (zI (((VIO f).length : Int) - 1))]) (rest := [.ref m0]) hx hb hml hown hts hl.1 ⟨Nat.zero_le _, Nat.zero_le _⟩ (kX7_in l D cI cJ cS i 0 (((VIO f).length : Int) - 1) (by omega) (by omega) (by omega)) (cwS 3 hts gX7_violation_X7_in rfl rfl rfl jX7_in ⟨Nat.le_of_ble_eq_true rfl, Nat.le_of_ble_eq_true rfl⟩) hK rfl rfl (Nat.le_of_ble_eq_true rfl) dX7_violation_11 ?_
  refine z_top (0) (zB_f (by omega)) ?_
  refine y_wVi (As := [.int (zI (0))]) (rest := []) (fun (u14 : Unit) => [(m0, .inr (7, [.ref (a 0), .ref (a 1), .int (zI (ke)), .int (zI (1)), .ref (a 2), .ref (a 3), .ref (a 4), .ref (a 5), .ref (a 6), .ref (a 7), .ref (a 8), .long (zL (hs))])), (a 0, .inl (cI, 612, .inl (zA f))), (a 2, .inl (cJ, 121, .inr (.inl (zAL (u1 0))))), (a 3, .inl (cI, 121, .inl (zA (u1 1)))), (a 4, .inl (cI, 121, .inl (zA (u1 2)))), (a 5, .inl (cI, 121, .inl (zA (u1 3)))), (a 6, .inl (cI, 121, .inl (zA (u1 4)))), (a 7, .inl (cI, 605, .inl (zA (u1 5))))]) hx hb hml hown hts hl.1 ⟨Nat.zero_le _, Nat.zero_le _⟩ (kX7_refuses_0 l D cI cJ cS m0 a ke th hs f) (cwV 1 hts gX7_violation_X7_refuses rfl rfl rfl jX7_refuses ⟨Nat.le_of_ble_eq_true rfl, Nat.le_of_ble_eq_true rfl⟩) hK [true] hP (zD hD rfl) hS rfl (fun _ => rfl) (fun _ => rfl) 7 0 rfl rfl rfl rfl rfl (Nat.le_of_ble_eq_true rfl) dX7_violation_14 (fun r14 u14 H locs hu14 hP hS => ?_)
  subst hu14
  refine z_if_eq (tgt := 24) hx hb dX7_violation_17 (by decide) (by omega) (fun c17 => ?_) (fun c17 => ?_)
  · exfalso; omega
  · refine z_iconst hx hb dX7_violation_20 ?_
    refine lv_goto (tgt := 30) hx hb dX7_violation_21 (by decide) ?_
    exact hret u1 rfl hP hS dX7_violation_30

set_option maxHeartbeats 4000000 in
set_option maxRecDepth 100000 in
theorem kX7_violation_ok (l : Launch) (D : va_G) (cI cJ cS : ClassId) (m0 : Nat) (a : Nat → Nat) (ke th hs : Int) (f : Int → Int) (ge gv gd gt gr gf : Int → Int) (i : Int) (ok : OkF f) (hY : 0 ≤ i ∧ i < ((VIO f).length : Int)) : Met l yX7_violation wsX7_violation rmX7_violation (zPc D (zT cI cJ cS) [.ref m0, .int (zI (i))] [(m0, .inr (7, [.ref (a 0), .ref (a 1), .int (zI (ke)), .int (zI (th)), .ref (a 2), .ref (a 3), .ref (a 4), .ref (a 5), .ref (a 6), .ref (a 7), .ref (a 8), .long (zL (hs))])), (a 0, .inl (cI, 612, .inl (zA f))), (a 2, .inl (cJ, 121, .inr (.inl (zAL ge)))), (a 3, .inl (cI, 121, .inl (zA gv))), (a 4, .inl (cI, 121, .inl (zA gd))), (a 5, .inl (cI, 121, .inl (zA gt))), (a 6, .inl (cI, 121, .inl (zA gr))), (a 7, .inl (cI, 605, .inl (zA gf)))]) (va_Qi (fun r _ => r = zI (VV f i)) (fun (u : Nat → Int → Int) t => va_P D vwCl [(m0, .inr (7, [.ref (a 0), .ref (a 1), .int (zI (ke)), .int (zI (0)), .ref (a 2), .ref (a 3), .ref (a 4), .ref (a 5), .ref (a 6), .ref (a 7), .ref (a 8), .long (zL (hs))])), (a 0, .inl (cI, 612, .inl (zA f))), (a 2, .inl (cJ, 121, .inr (.inl (zAL (u 0))))), (a 3, .inl (cI, 121, .inl (zA (u 1)))), (a 4, .inl (cI, 121, .inl (zA (u 2)))), (a 5, .inl (cI, 121, .inl (zA (u 3)))), (a 6, .inl (cI, 121, .inl (zA (u 4)))), (a 7, .inl (cI, 605, .inl (zA (u 5))))] t.heap) (zAd [(m0, .inr (7, [.ref (a 0), .ref (a 1), .int (zI (ke)), .int (zI (th)), .ref (a 2), .ref (a 3), .ref (a 4), .ref (a 5), .ref (a 6), .ref (a 7), .ref (a 8), .long (zL (hs))])), (a 0, .inl (cI, 612, .inl (zA f))), (a 2, .inl (cJ, 121, .inr (.inl (zAL ge)))), (a 3, .inl (cI, 121, .inl (zA gv))), (a 4, .inl (cI, 121, .inl (zA gd))), (a 5, .inl (cI, 121, .inl (zA gt))), (a 6, .inl (cI, 121, .inl (zA gr))), (a 7, .inl (cI, 605, .inl (zA gf)))])) 0 0 (zAd [(m0, .inr (7, [.ref (a 0), .ref (a 1), .int (zI (ke)), .int (zI (th)), .ref (a 2), .ref (a 3), .ref (a 4), .ref (a 5), .ref (a 6), .ref (a 7), .ref (a 8), .long (zL (hs))])), (a 0, .inl (cI, 612, .inl (zA f))), (a 2, .inl (cJ, 121, .inr (.inl (zAL ge)))), (a 3, .inl (cI, 121, .inl (zA gv))), (a 4, .inl (cI, 121, .inl (zA gd))), (a 5, .inl (cI, 121, .inl (zA gt))), (a 6, .inl (cI, 121, .inl (zA gr))), (a 7, .inl (cI, 605, .inl (zA gf)))]) := by
  refine zWi_of (cc := cX7_violation) (maxL := 3) (ret := (some .int)) (by decide) rfl (Nat.le_of_ble_eq_true rfl) rfl ?_
  intro p e s m args below meth c Q A ls hx hb hml hts hown hK hP hD hS hl hret
  have in7 : ∀ w ∈ wsX70, w ∈ wsX7_violation := by decide +kernel
  have f32 := hts (.fieldLink RX7 32 "SignalSpacingModel" "found" "[I") (by decide +kernel)
  have hl : lv_has ls 3 [(0, .ref m0), (1, .int (zI (i)))] := hl
  have hP : va_P D vwCl [(m0, .inr (7, [.ref (a 0), .ref (a 1), .int (zI (ke)), .int (zI (th)), .ref (a 2), .ref (a 3), .ref (a 4), .ref (a 5), .ref (a 6), .ref (a 7), .ref (a 8), .long (zL (hs))])), (a 0, .inl (cI, 612, .inl (zA f))), (a 2, .inl (cJ, 121, .inr (.inl (zAL ge)))), (a 3, .inl (cI, 121, .inl (zA gv))), (a 4, .inl (cI, 121, .inl (zA gd))), (a 5, .inl (cI, 121, .inl (zA gt))), (a 6, .inl (cI, 121, .inl (zA gr))), (a 7, .inl (cI, 605, .inl (zA gf)))] s.heap := hP
  have hvl := VIO_len ok
  refine lv_aload_n hx hb dX7_violation_0 rfl (lv_at hl 0 rfl) ?_
  refine y_wVi (As := []) (rest := []) (fun (u1 : Nat → Int → Int) => [(m0, .inr (7, [.ref (a 0), .ref (a 1), .int (zI (ke)), .int (zI (th)), .ref (a 2), .ref (a 3), .ref (a 4), .ref (a 5), .ref (a 6), .ref (a 7), .ref (a 8), .long (zL (hs))])), (a 0, .inl (cI, 612, .inl (zA f))), (a 2, .inl (cJ, 121, .inr (.inl (zAL (u1 0))))), (a 3, .inl (cI, 121, .inl (zA (u1 1)))), (a 4, .inl (cI, 121, .inl (zA (u1 2)))), (a 5, .inl (cI, 121, .inl (zA (u1 3)))), (a 6, .inl (cI, 121, .inl (zA (u1 4)))), (a 7, .inl (cI, 605, .inl (zA (u1 5))))]) hx hb hml hown hts hl.1 ⟨Nat.zero_le _, Nat.zero_le _⟩ (kX7_findViolations l D cI cJ cS m0 a ke th hs f ge gv gd gt gr gf ok) (cwV 0 hts gX7_violation_X7_findViolations rfl rfl rfl jX7_findViolations ⟨Nat.le_of_ble_eq_true rfl, Nat.le_of_ble_eq_true rfl⟩) hK [true, true, true, true, true, true, true, true] hP hD hS rfl (fun _ => rfl) (fun _ => rfl) 7 0 rfl rfl rfl rfl rfl (Nat.le_of_ble_eq_true rfl) dX7_violation_1 (fun r1 u1 H locs hu1 hP hS => ?_)
  obtain ⟨rfl, hu1⟩ := hu1
  refine lv_istore_n (lv' := [(2, .int (zI (((VIO f).length : Int)))), (0, .ref m0), (1, .int (zI (i)))]) hx hb dX7_violation_4 rfl hl (by decide) rfl (fun ls hl => ?_)
  refine lv_aload_n hx hb dX7_violation_5 rfl (lv_at hl 1 rfl) ?_
  refine lv_iload_n hx hb dX7_violation_6 rfl (lv_at hl 2 rfl) ?_
  refine z_iconst hx hb dX7_violation_7 ?_
  refine lv_iload_n hx hb dX7_violation_8 rfl (lv_at hl 0 rfl) ?_
  refine z_iconst hx hb dX7_violation_9 ?_
  refine z_isub hx hb dX7_violation_10 ?_
  refine z_rS (v := zB (0 ≤ i ∧ i ≤ (((VIO f).length : Int) - 1))) (As := [.int (zI (i)), .int (zI (0)), .int (zI (((VIO f).length : Int) - 1))]) (rest := [.ref m0]) hx hb hml hown hts hl.1 ⟨Nat.zero_le _, Nat.zero_le _⟩ (kX7_in l D cI cJ cS i 0 (((VIO f).length : Int) - 1) (by omega) (by omega) (by omega)) (cwS 3 hts gX7_violation_X7_in rfl rfl rfl jX7_in ⟨Nat.le_of_ble_eq_true rfl, Nat.le_of_ble_eq_true rfl⟩) hK rfl rfl (Nat.le_of_ble_eq_true rfl) dX7_violation_11 ?_
  refine z_top (1) (zB_t (by omega)) ?_
  refine y_wVi (As := [.int (zI (1))]) (rest := []) (fun (u14 : Unit) => [(m0, .inr (7, [.ref (a 0), .ref (a 1), .int (zI (ke)), .int (zI (0)), .ref (a 2), .ref (a 3), .ref (a 4), .ref (a 5), .ref (a 6), .ref (a 7), .ref (a 8), .long (zL (hs))])), (a 0, .inl (cI, 612, .inl (zA f))), (a 2, .inl (cJ, 121, .inr (.inl (zAL (u1 0))))), (a 3, .inl (cI, 121, .inl (zA (u1 1)))), (a 4, .inl (cI, 121, .inl (zA (u1 2)))), (a 5, .inl (cI, 121, .inl (zA (u1 3)))), (a 6, .inl (cI, 121, .inl (zA (u1 4)))), (a 7, .inl (cI, 605, .inl (zA (u1 5))))]) hx hb hml hown hts hl.1 ⟨Nat.zero_le _, Nat.zero_le _⟩ (kX7_refuses_1 l D cI cJ cS m0 a ke th hs f) (cwV 1 hts gX7_violation_X7_refuses rfl rfl rfl jX7_refuses ⟨Nat.le_of_ble_eq_true rfl, Nat.le_of_ble_eq_true rfl⟩) hK [true] hP (zD hD rfl) hS rfl (fun _ => rfl) (fun _ => rfl) 7 0 rfl rfl rfl rfl rfl (Nat.le_of_ble_eq_true rfl) dX7_violation_14 (fun r14 u14 H locs hu14 hP hS => ?_)
  subst hu14
  refine z_if_eq (tgt := 24) hx hb dX7_violation_17 (by decide) (by omega) (fun c17 => ?_) (fun c17 => ?_)
  · refine lv_aload_n hx hb dX7_violation_24 rfl (lv_at hl 1 rfl) ?_
    refine va_get (D := D) (ci := 7) (v := .ref (a 7)) (C := RX7) (T := TX7) (N := 12) hx hb hts in7 hown hK hP 0 rfl rfl 9 (by decide) f32 (fun _ h9 => h9) rfl dX7_violation_25 ?_
    refine lv_iload_n hx hb dX7_violation_28 rfl (lv_at hl 2 rfl) ?_
    refine z_iald hx hb hK hP 7 0 rfl rfl (by omega) (Nat.lt_of_succ_le (Nat.le_of_ble_eq_true rfl)) dX7_violation_29 ?_
    exact hret u1 (by rw [fnd_VV hu1.1 hY.1 hY.2]) hP hS dX7_violation_30
  · exfalso; omega

abbrev rmX7_blockOf : Room := { frames := 0, cells := 0, slots := 0, locals := 0 }
theorem jX7_blockOf : yX7_blockOf.cls = RX7 ∧ yX7_blockOf.cls ≠ "java/lang/invoke/MethodHandle" ∧ yX7_blockOf.cls ≠ "java/lang/invoke/VarHandle" ∧ (parseMethodDescriptor yX7_blockOf.desc).map (fun d => d.parameters.length) = some 2 := by decide +kernel
set_option maxHeartbeats 4000000 in
set_option maxRecDepth 100000 in
theorem kX7_blockOf (l : Launch) (D : va_G) (cI cJ cS : ClassId) (m0 : Nat) (a : Nat → Nat) (ke th hs : Int) (f : Int → Int) (gt gr : Int → Int) (n i : Int) (ok : OkF f) (rep : Rep f gr n) (h1 : 0 ≤ i ∧ i < n) : Met l yX7_blockOf wsX7_blockOf rmX7_blockOf (zPc D (zT cI cJ cS) [.ref m0, .int (zI (i)), .int (zI (n))] [(m0, .inr (7, [.ref (a 0), .ref (a 1), .int (zI (ke)), .int (zI (th)), .ref (a 2), .ref (a 3), .ref (a 4), .ref (a 5), .ref (a 6), .ref (a 7), .ref (a 8), .long (zL (hs))])), (a 0, .inl (cI, 612, .inl (zA f))), (a 5, .inl (cI, 121, .inl (zA gt))), (a 6, .inl (cI, 121, .inl (zA gr)))]) (vp_Si (fun r => r = zI (blk f gr gt n i))) 0 0 (fun _ => False) := by
  refine zRi_of (cc := cX7_blockOf) (maxL := 6) (ret := (some .int)) (blk f gr gt n i) (by decide) rfl (Nat.le_of_ble_eq_true rfl) rfl ?_
  intro p e s m args below meth c Q ls hx hb hml hts hown hK hP hD hl hret
  have in7 : ∀ w ∈ wsX70, w ∈ wsX7_blockOf := by decide +kernel
  have f7 := hts (.fieldLink RX7 7 "SignalSpacingModel" "now" "[I") (by decide +kernel)
  have f26 := hts (.fieldLink RX7 26 "SignalSpacingModel" "times" "[I") (by decide +kernel)
  have f29 := hts (.fieldLink RX7 29 "SignalSpacingModel" "row" "[I") (by decide +kernel)
  have hl : lv_has ls 6 [(0, .ref m0), (1, .int (zI (i))), (2, .int (zI (n)))] := hl
  have hP : va_P D vwCl [(m0, .inr (7, [.ref (a 0), .ref (a 1), .int (zI (ke)), .int (zI (th)), .ref (a 2), .ref (a 3), .ref (a 4), .ref (a 5), .ref (a 6), .ref (a 7), .ref (a 8), .long (zL (hs))])), (a 0, .inl (cI, 612, .inl (zA f))), (a 5, .inl (cI, 121, .inl (zA gt))), (a 6, .inl (cI, 121, .inl (zA gr)))] s.heap := hP
  obtain ⟨o0, o1, o2, o3, o4, o5, o7, o8, olim, ogrd, obar, oneed, opost⟩ := id ok
  have hn := rep_n ok rep
  have hi := rep_k ok rep h1.1 h1.2
  refine lv_iload_n hx hb dX7_blockOf_0 rfl (lv_at hl 1 rfl) ?_
  refine lv_aload_n hx hb dX7_blockOf_1 rfl (lv_at hl 0 rfl) ?_
  refine va_get (D := D) (ci := 7) (v := .ref (a 0)) (C := RX7) (T := TX7) (N := 12) hx hb hts in7 hown hK hP 0 rfl rfl 0 (by decide) f7 (fun _ h9 => h9) rfl dX7_blockOf_2 ?_
  refine z_iconst hx hb dX7_blockOf_5 ?_
  refine z_iald hx hb hK hP 1 0 rfl rfl (by omega) (Nat.lt_of_succ_le (Nat.le_of_ble_eq_true rfl)) dX7_blockOf_6 ?_
  refine z_iadd hx hb dX7_blockOf_7 ?_
  refine z_iconst hx hb dX7_blockOf_8 ?_
  refine z_isub hx hb dX7_blockOf_9 ?_
  refine lv_istore_n (lv' := [(3, .int (zI ((i + (f 4)) - 1))), (0, .ref m0), (1, .int (zI (i))), (2, .int (zI (n)))]) hx hb dX7_blockOf_10 rfl hl (by decide) rfl (fun ls hl => ?_)
  refine lv_iload_n hx hb dX7_blockOf_11 rfl (lv_at hl 0 rfl) ?_
  refine lv_iload_n hx hb dX7_blockOf_12 rfl (lv_at hl 3 rfl) ?_
  refine z_icmp_lt (tgt := 18) hx hb dX7_blockOf_13 (by decide) (by omega) (by omega) (fun c13 => ?_) (fun c13 => ?_)
  · have J52 :  ∀ (ls : Array Slot), lv_has ls 6 [(3, .int (zI ((i + (f 4)) - 1))), (0, .ref m0), (1, .int (zI (i))), (2, .int (zI (n)))] → W p l e rmX7_blockOf s m args below meth c s.heap [] 0 0 Q (F0 m 52 ls [.int (zI (sgt f (gr i)))]) := by
      intro  ls hl
      refine lv_istore (lv' := [(4, .int (zI (sgt f (gr i)))), (3, .int (zI ((i + (f 4)) - 1))), (0, .ref m0), (1, .int (zI (i))), (2, .int (zI (n)))]) hx hb dX7_blockOf_52 hl (by decide) rfl (fun ls hl => ?_)
      have hj := rep_k ok rep (k := i + f 4 - 1) (by omega) (by omega)
      have hs1 := sgt_b ok hi.1
      have hb9 : 0 ≤ bto f (gr (i + f 4 - 1)) ∧ bto f (gr (i + f 4 - 1)) ≤ f 0 := by unfold bto; split <;> omega
      refine lv_aload_n hx hb dX7_blockOf_54 rfl (lv_at hl 2 rfl) ?_
      refine va_get (D := D) (ci := 7) (v := .ref (a 6)) (C := RX7) (T := TX7) (N := 12) hx hb hts in7 hown hK hP 0 rfl rfl 8 (by decide) f29 (fun _ h9 => h9) rfl dX7_blockOf_55 ?_
      refine lv_iload_n hx hb dX7_blockOf_58 rfl (lv_at hl 1 rfl) ?_
      refine z_iald hx hb hK hP 3 0 rfl rfl (by omega) (Nat.lt_of_succ_le (Nat.le_of_ble_eq_true rfl)) dX7_blockOf_59 ?_
      refine lv_aload_n hx hb dX7_blockOf_60 rfl (lv_at hl 2 rfl) ?_
      refine va_get (D := D) (ci := 7) (v := .ref (a 0)) (C := RX7) (T := TX7) (N := 12) hx hb hts in7 hown hK hP 0 rfl rfl 0 (by decide) f7 (fun _ h9 => h9) rfl dX7_blockOf_61 ?_
      refine z_bipush hx hb dX7_blockOf_64 (by decide +kernel) ?_
      refine z_iald hx hb hK hP 1 0 rfl rfl (by omega) (Nat.lt_of_succ_le (Nat.le_of_ble_eq_true rfl)) dX7_blockOf_66 ?_
      refine z_iadd hx hb dX7_blockOf_67 ?_
      refine lv_aload_n hx hb dX7_blockOf_68 rfl (lv_at hl 2 rfl) ?_
      refine va_get (D := D) (ci := 7) (v := .ref (a 0)) (C := RX7) (T := TX7) (N := 12) hx hb hts in7 hown hK hP 0 rfl rfl 0 (by decide) f7 (fun _ h9 => h9) rfl dX7_blockOf_69 ?_
      refine z_iconst hx hb dX7_blockOf_72 ?_
      refine z_iald hx hb hK hP 1 0 rfl rfl (by omega) (Nat.lt_of_succ_le (Nat.le_of_ble_eq_true rfl)) dX7_blockOf_73 ?_
      refine z_iadd hx hb dX7_blockOf_74 ?_
      refine lv_istore (lv' := [(5, .int (zI (((gr ((i + (f 4)) - 1)) + (f 8)) + (f 3)))), (4, .int (zI (sgt f (gr i)))), (3, .int (zI ((i + (f 4)) - 1))), (0, .ref m0), (1, .int (zI (i))), (2, .int (zI (n)))]) hx hb dX7_blockOf_75 hl (by decide) rfl (fun ls hl => ?_)
      have J103 :  ∀ (ls : Array Slot), lv_has ls 6 [(5, .int (zI (((gr ((i + (f 4)) - 1)) + (f 8)) + (f 3)))), (4, .int (zI (sgt f (gr i)))), (3, .int (zI ((i + (f 4)) - 1))), (0, .ref m0), (1, .int (zI (i))), (2, .int (zI (n)))] → W p l e rmX7_blockOf s m args below meth c s.heap [] 0 0 Q (F0 m 103 ls [.int (zI (bto f (gr (i + f 4 - 1)))), .ref (a 5)]) := by
        intro  ls hl
        refine z_iald hx hb hK hP 2 0 rfl rfl (by omega) (Nat.lt_of_succ_le (Nat.le_of_ble_eq_true rfl)) dX7_blockOf_103 ?_
        refine lv_aload_n hx hb dX7_blockOf_104 rfl (lv_at hl 3 rfl) ?_
        refine va_get (D := D) (ci := 7) (v := .ref (a 5)) (C := RX7) (T := TX7) (N := 12) hx hb hts in7 hown hK hP 0 rfl rfl 7 (by decide) f26 (fun _ h9 => h9) rfl dX7_blockOf_105 ?_
        refine lv_iload hx hb dX7_blockOf_108 (lv_at hl 1 rfl) ?_
        refine z_iald hx hb hK hP 2 0 rfl rfl (by omega) (Nat.lt_of_succ_le (Nat.le_of_ble_eq_true rfl)) dX7_blockOf_110 ?_
        refine z_isub hx hb dX7_blockOf_111 ?_
        exact z_top (blk f gr gt n i) (by unfold blk; rw [if_neg (by omega)]) (hret dX7_blockOf_112)
      refine lv_aload_n hx hb dX7_blockOf_77 rfl (lv_at hl 3 rfl) ?_
      refine va_get (D := D) (ci := 7) (v := .ref (a 5)) (C := RX7) (T := TX7) (N := 12) hx hb hts in7 hown hK hP 0 rfl rfl 7 (by decide) f26 (fun _ h9 => h9) rfl dX7_blockOf_78 ?_
      refine lv_iload hx hb dX7_blockOf_81 (lv_at hl 0 rfl) ?_
      refine lv_aload_n hx hb dX7_blockOf_83 rfl (lv_at hl 3 rfl) ?_
      refine va_get (D := D) (ci := 7) (v := .ref (a 0)) (C := RX7) (T := TX7) (N := 12) hx hb hts in7 hown hK hP 0 rfl rfl 0 (by decide) f7 (fun _ h9 => h9) rfl dX7_blockOf_84 ?_
      refine z_iconst hx hb dX7_blockOf_87 ?_
      refine z_iald hx hb hK hP 1 0 rfl rfl (by omega) (Nat.lt_of_succ_le (Nat.le_of_ble_eq_true rfl)) dX7_blockOf_88 ?_
      refine z_icmp_ge (tgt := 97) hx hb dX7_blockOf_89 (by decide) (by omega) (by omega) (fun c89 => ?_) (fun c89 => ?_)
      · refine lv_aload_n hx hb dX7_blockOf_97 rfl (lv_at hl 3 rfl) ?_
        refine va_get (D := D) (ci := 7) (v := .ref (a 0)) (C := RX7) (T := TX7) (N := 12) hx hb hts in7 hown hK hP 0 rfl rfl 0 (by decide) f7 (fun _ h9 => h9) rfl dX7_blockOf_98 ?_
        refine z_iconst hx hb dX7_blockOf_101 ?_
        refine z_iald hx hb hK hP 1 0 rfl rfl (by omega) (Nat.lt_of_succ_le (Nat.le_of_ble_eq_true rfl)) dX7_blockOf_102 ?_
        refine z_top (bto f (gr (i + f 4 - 1))) (by unfold bto; rw [if_neg (by omega)]) ?_
        exact J103  ls (lv_sub hl [0, 1, 2, 3, 4, 5] rfl)
      · refine lv_iload hx hb dX7_blockOf_92 (lv_at hl 0 rfl) ?_
        refine lv_goto (tgt := 103) hx hb dX7_blockOf_94 (by decide) ?_
        refine z_top (bto f (gr (i + f 4 - 1))) (by unfold bto; rw [if_pos (by omega)]) ?_
        exact J103  ls (lv_sub hl [0, 1, 2, 3, 4, 5] rfl)
    refine lv_aload_n hx hb dX7_blockOf_18 rfl (lv_at hl 1 rfl) ?_
    refine va_get (D := D) (ci := 7) (v := .ref (a 6)) (C := RX7) (T := TX7) (N := 12) hx hb hts in7 hown hK hP 0 rfl rfl 8 (by decide) f29 (fun _ h9 => h9) rfl dX7_blockOf_19 ?_
    refine lv_iload_n hx hb dX7_blockOf_22 rfl (lv_at hl 2 rfl) ?_
    refine z_iald hx hb hK hP 3 0 rfl rfl (by omega) (Nat.lt_of_succ_le (Nat.le_of_ble_eq_true rfl)) dX7_blockOf_23 ?_
    refine lv_aload_n hx hb dX7_blockOf_24 rfl (lv_at hl 1 rfl) ?_
    refine va_get (D := D) (ci := 7) (v := .ref (a 0)) (C := RX7) (T := TX7) (N := 12) hx hb hts in7 hown hK hP 0 rfl rfl 0 (by decide) f7 (fun _ h9 => h9) rfl dX7_blockOf_25 ?_
    refine z_bipush hx hb dX7_blockOf_28 (by decide +kernel) ?_
    refine z_iald hx hb hK hP 1 0 rfl rfl (by omega) (Nat.lt_of_succ_le (Nat.le_of_ble_eq_true rfl)) dX7_blockOf_30 ?_
    refine z_icmp_ge (tgt := 38) hx hb dX7_blockOf_31 (by decide) (by omega) (by omega) (fun c31 => ?_) (fun c31 => ?_)
    · refine lv_aload_n hx hb dX7_blockOf_38 rfl (lv_at hl 1 rfl) ?_
      refine va_get (D := D) (ci := 7) (v := .ref (a 6)) (C := RX7) (T := TX7) (N := 12) hx hb hts in7 hown hK hP 0 rfl rfl 8 (by decide) f29 (fun _ h9 => h9) rfl dX7_blockOf_39 ?_
      refine lv_iload_n hx hb dX7_blockOf_42 rfl (lv_at hl 2 rfl) ?_
      refine z_iald hx hb hK hP 3 0 rfl rfl (by omega) (Nat.lt_of_succ_le (Nat.le_of_ble_eq_true rfl)) dX7_blockOf_43 ?_
      refine lv_aload_n hx hb dX7_blockOf_44 rfl (lv_at hl 1 rfl) ?_
      refine va_get (D := D) (ci := 7) (v := .ref (a 0)) (C := RX7) (T := TX7) (N := 12) hx hb hts in7 hown hK hP 0 rfl rfl 0 (by decide) f7 (fun _ h9 => h9) rfl dX7_blockOf_45 ?_
      refine z_bipush hx hb dX7_blockOf_48 (by decide +kernel) ?_
      refine z_iald hx hb hK hP 1 0 rfl rfl (by omega) (Nat.lt_of_succ_le (Nat.le_of_ble_eq_true rfl)) dX7_blockOf_50 ?_
      refine z_isub hx hb dX7_blockOf_51 ?_
      refine z_top (sgt f (gr i)) (by unfold sgt; exact if h9 : f 7 < (gr i) then (by rw [if_pos h9]) else (by rw [if_neg h9]; omega)) ?_
      exact J52  ls (lv_sub hl [0, 1, 2, 3] rfl)
    · refine z_iconst hx hb dX7_blockOf_34 ?_
      refine lv_goto (tgt := 52) hx hb dX7_blockOf_35 (by decide) ?_
      refine z_top (sgt f (gr i)) (by unfold sgt; rw [if_neg (by omega)]) ?_
      exact J52  ls (lv_sub hl [0, 1, 2, 3] rfl)
  · refine z_iconst hx hb dX7_blockOf_16 ?_
    exact z_top (blk f gr gt n i) (by unfold blk; rw [if_pos (by omega)]) (hret dX7_blockOf_17)

abbrev rmX7_blockTime : Room := { frames := 3, cells := 0, slots := 0, locals := 71 }
theorem jX7_blockTime : yX7_blockTime.cls = RX7 ∧ yX7_blockTime.cls ≠ "java/lang/invoke/MethodHandle" ∧ yX7_blockTime.cls ≠ "java/lang/invoke/VarHandle" ∧ (parseMethodDescriptor yX7_blockTime.desc).map (fun d => d.parameters.length) = some 1 := by decide +kernel
set_option maxHeartbeats 4000000 in
set_option maxRecDepth 100000 in
theorem kX7_blockTime_no (l : Launch) (D : va_G) (cI cJ cS : ClassId) (m0 : Nat) (a : Nat → Nat) (ke th hs : Int) (f : Int → Int) (gr : Int → Int) (i : Int) (ok : OkF f) (hN : ¬ (0 ≤ i ∧ i < (rank f (f 0 + 1)))) (hr_i : -2147483648 ≤ i ∧ i < 2147483648) : Met l yX7_blockTime wsX7_blockTime rmX7_blockTime (zPc D (zT cI cJ cS) [.ref m0, .int (zI (i))] [(m0, .inr (7, [.ref (a 0), .ref (a 1), .int (zI (ke)), .int (zI (th)), .ref (a 2), .ref (a 3), .ref (a 4), .ref (a 5), .ref (a 6), .ref (a 7), .ref (a 8), .long (zL (hs))])), (a 0, .inl (cI, 612, .inl (zA f))), (a 6, .inl (cI, 121, .inl (zA gr)))]) (va_Qi (fun r _ => r = zI 0) (fun (u : Int → Int) t => va_P D vwCl [(m0, .inr (7, [.ref (a 0), .ref (a 1), .int (zI (ke)), .int (zI (1)), .ref (a 2), .ref (a 3), .ref (a 4), .ref (a 5), .ref (a 6), .ref (a 7), .ref (a 8), .long (zL (hs))])), (a 0, .inl (cI, 612, .inl (zA f))), (a 6, .inl (cI, 121, .inl (zA u)))] t.heap) (zAd [(m0, .inr (7, [.ref (a 0), .ref (a 1), .int (zI (ke)), .int (zI (th)), .ref (a 2), .ref (a 3), .ref (a 4), .ref (a 5), .ref (a 6), .ref (a 7), .ref (a 8), .long (zL (hs))])), (a 0, .inl (cI, 612, .inl (zA f))), (a 6, .inl (cI, 121, .inl (zA gr)))])) 0 0 (zAd [(m0, .inr (7, [.ref (a 0), .ref (a 1), .int (zI (ke)), .int (zI (th)), .ref (a 2), .ref (a 3), .ref (a 4), .ref (a 5), .ref (a 6), .ref (a 7), .ref (a 8), .long (zL (hs))])), (a 0, .inl (cI, 612, .inl (zA f))), (a 6, .inl (cI, 121, .inl (zA gr)))]) := by
  refine zWi_of (cc := cX7_blockTime) (maxL := 3) (ret := (some .int)) (by decide) rfl (Nat.le_of_ble_eq_true rfl) rfl ?_
  intro p e s m args below meth c Q A ls hx hb hml hts hown hK hP hD hS hl hret
  have hl : lv_has ls 3 [(0, .ref m0), (1, .int (zI (i)))] := hl
  have hP : va_P D vwCl [(m0, .inr (7, [.ref (a 0), .ref (a 1), .int (zI (ke)), .int (zI (th)), .ref (a 2), .ref (a 3), .ref (a 4), .ref (a 5), .ref (a 6), .ref (a 7), .ref (a 8), .long (zL (hs))])), (a 0, .inl (cI, 612, .inl (zA f))), (a 6, .inl (cI, 121, .inl (zA gr)))] s.heap := hP
  obtain ⟨o0, o1, o2, o3, o4, o5, o7, o8, olim, ogrd, obar, oneed, opost⟩ := id ok
  have hfr := okF_r ok
  have hr9 := rank_b ok (x := f 0 + 1) (by omega) (by omega)
  refine lv_aload_n hx hb dX7_blockTime_0 rfl (lv_at hl 0 rfl) ?_
  refine y_wVi (As := []) (rest := []) (fun (u1 : Int → Int) => [(m0, .inr (7, [.ref (a 0), .ref (a 1), .int (zI (ke)), .int (zI (th)), .ref (a 2), .ref (a 3), .ref (a 4), .ref (a 5), .ref (a 6), .ref (a 7), .ref (a 8), .long (zL (hs))])), (a 0, .inl (cI, 612, .inl (zA f))), (a 6, .inl (cI, 121, .inl (zA u1)))]) hx hb hml hown hts hl.1 ⟨Nat.zero_le _, Nat.zero_le _⟩ (kX7_layRow l D cI cJ cS m0 a ke th hs f gr ok) (cwV 0 hts gX7_blockTime_X7_layRow rfl rfl rfl jX7_layRow ⟨Nat.le_of_ble_eq_true rfl, Nat.le_of_ble_eq_true rfl⟩) hK [true, true, true] hP hD hS rfl (fun _ => rfl) (fun _ => rfl) 7 0 rfl rfl rfl rfl rfl (Nat.le_of_ble_eq_true rfl) dX7_blockTime_1 (fun r1 u1 H locs hu1 hP hS => ?_)
  obtain ⟨rfl, hu1⟩ := hu1
  refine lv_istore_n (lv' := [(2, .int (zI (rank f (f 0 + 1)))), (0, .ref m0), (1, .int (zI (i)))]) hx hb dX7_blockTime_4 rfl hl (by decide) rfl (fun ls hl => ?_)
  refine lv_aload_n hx hb dX7_blockTime_5 rfl (lv_at hl 1 rfl) ?_
  refine lv_iload_n hx hb dX7_blockTime_6 rfl (lv_at hl 2 rfl) ?_
  refine z_iconst hx hb dX7_blockTime_7 ?_
  refine lv_iload_n hx hb dX7_blockTime_8 rfl (lv_at hl 0 rfl) ?_
  refine z_iconst hx hb dX7_blockTime_9 ?_
  refine z_isub hx hb dX7_blockTime_10 ?_
  refine z_rS (v := zB (0 ≤ i ∧ i ≤ ((rank f (f 0 + 1)) - 1))) (As := [.int (zI (i)), .int (zI (0)), .int (zI ((rank f (f 0 + 1)) - 1))]) (rest := [.ref m0]) hx hb hml hown hts hl.1 ⟨Nat.zero_le _, Nat.zero_le _⟩ (kX7_in l D cI cJ cS i 0 ((rank f (f 0 + 1)) - 1) (by omega) (by omega) (by omega)) (cwS 3 hts gX7_blockTime_X7_in rfl rfl rfl jX7_in ⟨Nat.le_of_ble_eq_true rfl, Nat.le_of_ble_eq_true rfl⟩) hK rfl rfl (Nat.le_of_ble_eq_true rfl) dX7_blockTime_11 ?_
  refine z_top (0) (zB_f (by omega)) ?_
  refine y_wVi (As := [.int (zI (0))]) (rest := []) (fun (u14 : Unit) => [(m0, .inr (7, [.ref (a 0), .ref (a 1), .int (zI (ke)), .int (zI (1)), .ref (a 2), .ref (a 3), .ref (a 4), .ref (a 5), .ref (a 6), .ref (a 7), .ref (a 8), .long (zL (hs))])), (a 0, .inl (cI, 612, .inl (zA f))), (a 6, .inl (cI, 121, .inl (zA u1)))]) hx hb hml hown hts hl.1 ⟨Nat.zero_le _, Nat.zero_le _⟩ (kX7_refuses_0 l D cI cJ cS m0 a ke th hs f) (cwV 1 hts gX7_blockTime_X7_refuses rfl rfl rfl jX7_refuses ⟨Nat.le_of_ble_eq_true rfl, Nat.le_of_ble_eq_true rfl⟩) hK [true] hP (zD hD rfl) hS rfl (fun _ => rfl) (fun _ => rfl) 7 0 rfl rfl rfl rfl rfl (Nat.le_of_ble_eq_true rfl) dX7_blockTime_14 (fun r14 u14 H locs hu14 hP hS => ?_)
  subst hu14
  refine z_if_eq (tgt := 22) hx hb dX7_blockTime_17 (by decide) (by omega) (fun c17 => ?_) (fun c17 => ?_)
  · exfalso; omega
  · refine z_iconst hx hb dX7_blockTime_20 ?_
    exact hret u1 rfl hP hS dX7_blockTime_21

set_option maxHeartbeats 4000000 in
set_option maxRecDepth 100000 in
theorem kX7_blockTime_ok (l : Launch) (D : va_G) (cI cJ cS : ClassId) (m0 : Nat) (a : Nat → Nat) (ke th hs : Int) (f : Int → Int) (ge gv gd gt gr : Int → Int) (i : Int) (ok : OkF f) (hY : 0 ≤ i ∧ i < (rank f (f 0 + 1))) : Met l yX7_blockTime wsX7_blockTime rmX7_blockTime (zPc D (zT cI cJ cS) [.ref m0, .int (zI (i))] [(m0, .inr (7, [.ref (a 0), .ref (a 1), .int (zI (ke)), .int (zI (th)), .ref (a 2), .ref (a 3), .ref (a 4), .ref (a 5), .ref (a 6), .ref (a 7), .ref (a 8), .long (zL (hs))])), (a 0, .inl (cI, 612, .inl (zA f))), (a 2, .inl (cJ, 121, .inr (.inl (zAL ge)))), (a 3, .inl (cI, 121, .inl (zA gv))), (a 4, .inl (cI, 121, .inl (zA gd))), (a 5, .inl (cI, 121, .inl (zA gt))), (a 6, .inl (cI, 121, .inl (zA gr)))]) (va_Qi (fun r _ => r = zI (BLK f i)) (fun (u : Nat → Int → Int) t => va_P D vwCl [(m0, .inr (7, [.ref (a 0), .ref (a 1), .int (zI (ke)), .int (zI (0)), .ref (a 2), .ref (a 3), .ref (a 4), .ref (a 5), .ref (a 6), .ref (a 7), .ref (a 8), .long (zL (hs))])), (a 0, .inl (cI, 612, .inl (zA f))), (a 2, .inl (cJ, 121, .inr (.inl (zAL (u 0))))), (a 3, .inl (cI, 121, .inl (zA (u 1)))), (a 4, .inl (cI, 121, .inl (zA (u 2)))), (a 5, .inl (cI, 121, .inl (zA (u 3)))), (a 6, .inl (cI, 121, .inl (zA (u 4))))] t.heap) (zAd [(m0, .inr (7, [.ref (a 0), .ref (a 1), .int (zI (ke)), .int (zI (th)), .ref (a 2), .ref (a 3), .ref (a 4), .ref (a 5), .ref (a 6), .ref (a 7), .ref (a 8), .long (zL (hs))])), (a 0, .inl (cI, 612, .inl (zA f))), (a 2, .inl (cJ, 121, .inr (.inl (zAL ge)))), (a 3, .inl (cI, 121, .inl (zA gv))), (a 4, .inl (cI, 121, .inl (zA gd))), (a 5, .inl (cI, 121, .inl (zA gt))), (a 6, .inl (cI, 121, .inl (zA gr)))])) 0 0 (zAd [(m0, .inr (7, [.ref (a 0), .ref (a 1), .int (zI (ke)), .int (zI (th)), .ref (a 2), .ref (a 3), .ref (a 4), .ref (a 5), .ref (a 6), .ref (a 7), .ref (a 8), .long (zL (hs))])), (a 0, .inl (cI, 612, .inl (zA f))), (a 2, .inl (cJ, 121, .inr (.inl (zAL ge)))), (a 3, .inl (cI, 121, .inl (zA gv))), (a 4, .inl (cI, 121, .inl (zA gd))), (a 5, .inl (cI, 121, .inl (zA gt))), (a 6, .inl (cI, 121, .inl (zA gr)))]) := by
  refine zWi_of (cc := cX7_blockTime) (maxL := 3) (ret := (some .int)) (by decide) rfl (Nat.le_of_ble_eq_true rfl) rfl ?_
  intro p e s m args below meth c Q A ls hx hb hml hts hown hK hP hD hS hl hret
  have hl : lv_has ls 3 [(0, .ref m0), (1, .int (zI (i)))] := hl
  have hP : va_P D vwCl [(m0, .inr (7, [.ref (a 0), .ref (a 1), .int (zI (ke)), .int (zI (th)), .ref (a 2), .ref (a 3), .ref (a 4), .ref (a 5), .ref (a 6), .ref (a 7), .ref (a 8), .long (zL (hs))])), (a 0, .inl (cI, 612, .inl (zA f))), (a 2, .inl (cJ, 121, .inr (.inl (zAL ge)))), (a 3, .inl (cI, 121, .inl (zA gv))), (a 4, .inl (cI, 121, .inl (zA gd))), (a 5, .inl (cI, 121, .inl (zA gt))), (a 6, .inl (cI, 121, .inl (zA gr)))] s.heap := hP
  obtain ⟨o0, o1, o2, o3, o4, o5, o7, o8, olim, ogrd, obar, oneed, opost⟩ := id ok
  have hfr := okF_r ok
  have hr9 := rank_b ok (x := f 0 + 1) (by omega) (by omega)
  refine lv_aload_n hx hb dX7_blockTime_0 rfl (lv_at hl 0 rfl) ?_
  refine y_wVi (As := []) (rest := []) (fun (u1 : Int → Int) => [(m0, .inr (7, [.ref (a 0), .ref (a 1), .int (zI (ke)), .int (zI (th)), .ref (a 2), .ref (a 3), .ref (a 4), .ref (a 5), .ref (a 6), .ref (a 7), .ref (a 8), .long (zL (hs))])), (a 0, .inl (cI, 612, .inl (zA f))), (a 2, .inl (cJ, 121, .inr (.inl (zAL ge)))), (a 3, .inl (cI, 121, .inl (zA gv))), (a 4, .inl (cI, 121, .inl (zA gd))), (a 5, .inl (cI, 121, .inl (zA gt))), (a 6, .inl (cI, 121, .inl (zA u1)))]) hx hb hml hown hts hl.1 ⟨Nat.zero_le _, Nat.zero_le _⟩ (kX7_layRow l D cI cJ cS m0 a ke th hs f gr ok) (cwV 0 hts gX7_blockTime_X7_layRow rfl rfl rfl jX7_layRow ⟨Nat.le_of_ble_eq_true rfl, Nat.le_of_ble_eq_true rfl⟩) hK [true, true, false, false, false, false, true] hP hD hS rfl (fun _ => rfl) (fun _ => rfl) 7 0 rfl rfl rfl rfl rfl (Nat.le_of_ble_eq_true rfl) dX7_blockTime_1 (fun r1 u1 H locs hu1 hP hS => ?_)
  obtain ⟨rfl, hu1⟩ := hu1
  refine lv_istore_n (lv' := [(2, .int (zI (rank f (f 0 + 1)))), (0, .ref m0), (1, .int (zI (i)))]) hx hb dX7_blockTime_4 rfl hl (by decide) rfl (fun ls hl => ?_)
  refine lv_aload_n hx hb dX7_blockTime_5 rfl (lv_at hl 1 rfl) ?_
  refine lv_iload_n hx hb dX7_blockTime_6 rfl (lv_at hl 2 rfl) ?_
  refine z_iconst hx hb dX7_blockTime_7 ?_
  refine lv_iload_n hx hb dX7_blockTime_8 rfl (lv_at hl 0 rfl) ?_
  refine z_iconst hx hb dX7_blockTime_9 ?_
  refine z_isub hx hb dX7_blockTime_10 ?_
  refine z_rS (v := zB (0 ≤ i ∧ i ≤ ((rank f (f 0 + 1)) - 1))) (As := [.int (zI (i)), .int (zI (0)), .int (zI ((rank f (f 0 + 1)) - 1))]) (rest := [.ref m0]) hx hb hml hown hts hl.1 ⟨Nat.zero_le _, Nat.zero_le _⟩ (kX7_in l D cI cJ cS i 0 ((rank f (f 0 + 1)) - 1) (by omega) (by omega) (by omega)) (cwS 3 hts gX7_blockTime_X7_in rfl rfl rfl jX7_in ⟨Nat.le_of_ble_eq_true rfl, Nat.le_of_ble_eq_true rfl⟩) hK rfl rfl (Nat.le_of_ble_eq_true rfl) dX7_blockTime_11 ?_
  refine z_top (1) (zB_t (by omega)) ?_
  refine y_wVi (As := [.int (zI (1))]) (rest := []) (fun (u14 : Unit) => [(m0, .inr (7, [.ref (a 0), .ref (a 1), .int (zI (ke)), .int (zI (0)), .ref (a 2), .ref (a 3), .ref (a 4), .ref (a 5), .ref (a 6), .ref (a 7), .ref (a 8), .long (zL (hs))])), (a 0, .inl (cI, 612, .inl (zA f))), (a 2, .inl (cJ, 121, .inr (.inl (zAL ge)))), (a 3, .inl (cI, 121, .inl (zA gv))), (a 4, .inl (cI, 121, .inl (zA gd))), (a 5, .inl (cI, 121, .inl (zA gt))), (a 6, .inl (cI, 121, .inl (zA u1)))]) hx hb hml hown hts hl.1 ⟨Nat.zero_le _, Nat.zero_le _⟩ (kX7_refuses_1 l D cI cJ cS m0 a ke th hs f) (cwV 1 hts gX7_blockTime_X7_refuses rfl rfl rfl jX7_refuses ⟨Nat.le_of_ble_eq_true rfl, Nat.le_of_ble_eq_true rfl⟩) hK [true] hP (zD hD rfl) hS rfl (fun _ => rfl) (fun _ => rfl) 7 0 rfl rfl rfl rfl rfl (Nat.le_of_ble_eq_true rfl) dX7_blockTime_14 (fun r14 u14 H locs hu14 hP hS => ?_)
  subst hu14
  refine z_if_eq (tgt := 22) hx hb dX7_blockTime_17 (by decide) (by omega) (fun c17 => ?_) (fun c17 => ?_)
  · refine lv_aload_n hx hb dX7_blockTime_22 rfl (lv_at hl 1 rfl) ?_
    refine y_wVv (As := []) (rest := []) (fun (u23 : Nat → Int → Int) => [(m0, .inr (7, [.ref (a 0), .ref (a 1), .int (zI (ke)), .int (zI (0)), .ref (a 2), .ref (a 3), .ref (a 4), .ref (a 5), .ref (a 6), .ref (a 7), .ref (a 8), .long (zL (hs))])), (a 0, .inl (cI, 612, .inl (zA f))), (a 2, .inl (cJ, 121, .inr (.inl (zAL (u23 0))))), (a 3, .inl (cI, 121, .inl (zA (u23 1)))), (a 4, .inl (cI, 121, .inl (zA (u23 2)))), (a 5, .inl (cI, 121, .inl (zA (u23 3)))), (a 6, .inl (cI, 121, .inl (zA u1)))]) hx hb hml hown hts hl.1 ⟨Nat.zero_le _, Nat.zero_le _⟩ (kX7_lays l D cI cJ cS m0 a ke 0 hs f ge gv gd gt ok) (cwV 0 hts gX7_blockTime_X7_lays rfl rfl rfl jX7_lays ⟨Nat.le_of_ble_eq_true rfl, Nat.le_of_ble_eq_true rfl⟩) hK [true, true, true, true, true, true] hP (zD hD rfl) hS rfl (fun _ => rfl) (fun _ => rfl) 7 0 rfl rfl rfl rfl rfl (Nat.le_of_ble_eq_true rfl) dX7_blockTime_23 (fun u23 H locs hu23 hP hS => ?_)
    refine lv_aload_n hx hb dX7_blockTime_26 rfl (lv_at hl 1 rfl) ?_
    refine lv_iload_n hx hb dX7_blockTime_27 rfl (lv_at hl 2 rfl) ?_
    refine lv_iload_n hx hb dX7_blockTime_28 rfl (lv_at hl 0 rfl) ?_
    refine y_rV (v := blk f u1 (u23 3) (rank f (f 0 + 1)) i) (As := [.int (zI (i)), .int (zI (rank f (f 0 + 1)))]) (rest := []) hx hb hml hown hts hl.1 ⟨Nat.zero_le _, Nat.zero_le _⟩ (kX7_blockOf l D cI cJ cS m0 a ke 0 hs f (u23 3) u1 (rank f (f 0 + 1)) i ok hu1 (by omega)) (cwV 2 hts gX7_blockTime_X7_blockOf rfl rfl rfl jX7_blockOf ⟨Nat.le_of_ble_eq_true rfl, Nat.le_of_ble_eq_true rfl⟩) hK [true, true, false, false, false, true, true] hP (zD hD rfl) rfl 7 0 rfl rfl rfl rfl rfl (Nat.le_of_ble_eq_true rfl) dX7_blockTime_29 ?_
    exact hret (fun j => if j = 0 then (u23 0) else if j = 1 then (u23 1) else if j = 2 then (u23 2) else if j = 3 then (u23 3) else u1) (by unfold BLK; rw [blk_congr ok rfl (rep_c ok hu1) (fun x a b => (hu23 x a b).2.2.2) hY.1 hY.2]) hP hS dX7_blockTime_32
  · exfalso; omega

abbrev rmX7_headwayNow : Room := { frames := 3, cells := 0, slots := 0, locals := 71 }
theorem jX7_headwayNow : yX7_headwayNow.cls = RX7 ∧ yX7_headwayNow.cls ≠ "java/lang/invoke/MethodHandle" ∧ yX7_headwayNow.cls ≠ "java/lang/invoke/VarHandle" ∧ (parseMethodDescriptor yX7_headwayNow.desc).map (fun d => d.parameters.length) = some 0 := by decide +kernel
set_option maxHeartbeats 4000000 in
set_option maxRecDepth 100000 in
theorem kX7_headwayNow (l : Launch) (D : va_G) (cI cJ cS : ClassId) (m0 : Nat) (a : Nat → Nat) (ke th hs : Int) (f : Int → Int) (ge gv gd gt gr : Int → Int) (ok : OkF f) : Met l yX7_headwayNow wsX7_headwayNow rmX7_headwayNow (zPc D (zT cI cJ cS) [.ref m0] [(m0, .inr (7, [.ref (a 0), .ref (a 1), .int (zI (ke)), .int (zI (th)), .ref (a 2), .ref (a 3), .ref (a 4), .ref (a 5), .ref (a 6), .ref (a 7), .ref (a 8), .long (zL (hs))])), (a 0, .inl (cI, 612, .inl (zA f))), (a 2, .inl (cJ, 121, .inr (.inl (zAL ge)))), (a 3, .inl (cI, 121, .inl (zA gv))), (a 4, .inl (cI, 121, .inl (zA gd))), (a 5, .inl (cI, 121, .inl (zA gt))), (a 6, .inl (cI, 121, .inl (zA gr)))]) (va_Qi (fun r u => r = zI (HW f) ∧ PrOk f (u 0) (u 1) (u 2) (u 3) ∧ Rep f (u 4) (rank f (f 0 + 1))) (fun (u : Nat → Int → Int) t => va_P D vwCl [(m0, .inr (7, [.ref (a 0), .ref (a 1), .int (zI (ke)), .int (zI (th)), .ref (a 2), .ref (a 3), .ref (a 4), .ref (a 5), .ref (a 6), .ref (a 7), .ref (a 8), .long (zL (hs))])), (a 0, .inl (cI, 612, .inl (zA f))), (a 2, .inl (cJ, 121, .inr (.inl (zAL (u 0))))), (a 3, .inl (cI, 121, .inl (zA (u 1)))), (a 4, .inl (cI, 121, .inl (zA (u 2)))), (a 5, .inl (cI, 121, .inl (zA (u 3)))), (a 6, .inl (cI, 121, .inl (zA (u 4))))] t.heap) (zAd [(m0, .inr (7, [.ref (a 0), .ref (a 1), .int (zI (ke)), .int (zI (th)), .ref (a 2), .ref (a 3), .ref (a 4), .ref (a 5), .ref (a 6), .ref (a 7), .ref (a 8), .long (zL (hs))])), (a 0, .inl (cI, 612, .inl (zA f))), (a 2, .inl (cJ, 121, .inr (.inl (zAL ge)))), (a 3, .inl (cI, 121, .inl (zA gv))), (a 4, .inl (cI, 121, .inl (zA gd))), (a 5, .inl (cI, 121, .inl (zA gt))), (a 6, .inl (cI, 121, .inl (zA gr)))])) 0 0 (zAd [(m0, .inr (7, [.ref (a 0), .ref (a 1), .int (zI (ke)), .int (zI (th)), .ref (a 2), .ref (a 3), .ref (a 4), .ref (a 5), .ref (a 6), .ref (a 7), .ref (a 8), .long (zL (hs))])), (a 0, .inl (cI, 612, .inl (zA f))), (a 2, .inl (cJ, 121, .inr (.inl (zAL ge)))), (a 3, .inl (cI, 121, .inl (zA gv))), (a 4, .inl (cI, 121, .inl (zA gd))), (a 5, .inl (cI, 121, .inl (zA gt))), (a 6, .inl (cI, 121, .inl (zA gr)))]) := by
  refine zWi_of (cc := cX7_headwayNow) (maxL := 5) (ret := (some .int)) (by decide) rfl (Nat.le_of_ble_eq_true rfl) rfl ?_
  intro p e s m args below meth c Q A ls hx hb hml hts hown hK hP hD hS hl hret
  have hl : lv_has ls 5 [(0, .ref m0)] := hl
  have hP : va_P D vwCl [(m0, .inr (7, [.ref (a 0), .ref (a 1), .int (zI (ke)), .int (zI (th)), .ref (a 2), .ref (a 3), .ref (a 4), .ref (a 5), .ref (a 6), .ref (a 7), .ref (a 8), .long (zL (hs))])), (a 0, .inl (cI, 612, .inl (zA f))), (a 2, .inl (cJ, 121, .inr (.inl (zAL ge)))), (a 3, .inl (cI, 121, .inl (zA gv))), (a 4, .inl (cI, 121, .inl (zA gd))), (a 5, .inl (cI, 121, .inl (zA gt))), (a 6, .inl (cI, 121, .inl (zA gr)))] s.heap := hP
  obtain ⟨o0, o1, o2, o3, o4, o5, o7, o8, olim, ogrd, obar, oneed, opost⟩ := id ok
  refine lv_aload_n hx hb dX7_headwayNow_0 rfl (lv_at hl 0 rfl) ?_
  refine y_wVv (As := []) (rest := []) (fun (u1 : Nat → Int → Int) => [(m0, .inr (7, [.ref (a 0), .ref (a 1), .int (zI (ke)), .int (zI (th)), .ref (a 2), .ref (a 3), .ref (a 4), .ref (a 5), .ref (a 6), .ref (a 7), .ref (a 8), .long (zL (hs))])), (a 0, .inl (cI, 612, .inl (zA f))), (a 2, .inl (cJ, 121, .inr (.inl (zAL (u1 0))))), (a 3, .inl (cI, 121, .inl (zA (u1 1)))), (a 4, .inl (cI, 121, .inl (zA (u1 2)))), (a 5, .inl (cI, 121, .inl (zA (u1 3)))), (a 6, .inl (cI, 121, .inl (zA gr)))]) hx hb hml hown hts hl.1 ⟨Nat.zero_le _, Nat.zero_le _⟩ (kX7_lays l D cI cJ cS m0 a ke th hs f ge gv gd gt ok) (cwV 0 hts gX7_headwayNow_X7_lays rfl rfl rfl jX7_lays ⟨Nat.le_of_ble_eq_true rfl, Nat.le_of_ble_eq_true rfl⟩) hK [true, true, true, true, true, true] hP hD hS rfl (fun _ => rfl) (fun _ => rfl) 7 0 rfl rfl rfl rfl rfl (Nat.le_of_ble_eq_true rfl) dX7_headwayNow_1 (fun u1 H locs hu1 hP hS => ?_)
  refine lv_aload_n hx hb dX7_headwayNow_4 rfl (lv_at hl 0 rfl) ?_
  refine y_wVi (As := []) (rest := []) (fun (u5 : Int → Int) => [(m0, .inr (7, [.ref (a 0), .ref (a 1), .int (zI (ke)), .int (zI (th)), .ref (a 2), .ref (a 3), .ref (a 4), .ref (a 5), .ref (a 6), .ref (a 7), .ref (a 8), .long (zL (hs))])), (a 0, .inl (cI, 612, .inl (zA f))), (a 2, .inl (cJ, 121, .inr (.inl (zAL (u1 0))))), (a 3, .inl (cI, 121, .inl (zA (u1 1)))), (a 4, .inl (cI, 121, .inl (zA (u1 2)))), (a 5, .inl (cI, 121, .inl (zA (u1 3)))), (a 6, .inl (cI, 121, .inl (zA u5)))]) hx hb hml hown hts hl.1 ⟨Nat.zero_le _, Nat.zero_le _⟩ (kX7_layRow l D cI cJ cS m0 a ke th hs f gr ok) (cwV 0 hts gX7_headwayNow_X7_layRow rfl rfl rfl jX7_layRow ⟨Nat.le_of_ble_eq_true rfl, Nat.le_of_ble_eq_true rfl⟩) hK [true, true, false, false, false, false, true] hP (zD hD rfl) hS rfl (fun _ => rfl) (fun _ => rfl) 7 0 rfl rfl rfl rfl rfl (Nat.le_of_ble_eq_true rfl) dX7_headwayNow_5 (fun r5 u5 H locs hu5 hP hS => ?_)
  obtain ⟨rfl, hu5⟩ := hu5
  have hr9 := rep_n ok hu5
  have hcg : ∀ k : Int, 0 ≤ k → k < (rank f (f 0 + 1)) → blk f u5 (u1 3) (rank f (f 0 + 1)) k = BLK f k := fun k a b => blk_congr ok rfl (rep_c ok hu5) (fun x c d => (hu1 x c d).2.2.2) a b
  refine lv_istore_n (lv' := [(1, .int (zI (rank f (f 0 + 1)))), (0, .ref m0)]) hx hb dX7_headwayNow_8 rfl hl (by decide) rfl (fun ls hl => ?_)
  refine z_iconst hx hb dX7_headwayNow_9 ?_
  refine lv_istore_n (lv' := [(2, .int (zI (-1))), (1, .int (zI (rank f (f 0 + 1)))), (0, .ref m0)]) hx hb dX7_headwayNow_10 rfl hl (by decide) rfl (fun ls hl => ?_)
  refine z_iconst hx hb dX7_headwayNow_11 ?_
  refine lv_istore_n (lv' := [(3, .int (zI (0))), (2, .int (zI (-1))), (1, .int (zI (rank f (f 0 + 1)))), (0, .ref m0)]) hx hb dX7_headwayNow_12 rfl hl (by decide) rfl (fun ls hl => ?_)
  have L13 : ∀ (fuel : Nat), ∀ (t : Int) (i : Int), ∀ (h1 : 0 ≤ i ∧ i ≤ (rank f (f 0 + 1))), ∀ (ht : t = hwy f u5 (u1 3) (rank f (f 0 + 1)) i), ∀ (hb9 : -1 ≤ t ∧ t ≤ 1080000), ((rank f (f 0 + 1)) - i).toNat < fuel → ∀ (H : Heap) (locs : List Loc), va_P D vwCl [(m0, .inr (7, [.ref (a 0), .ref (a 1), .int (zI (ke)), .int (zI (th)), .ref (a 2), .ref (a 3), .ref (a 4), .ref (a 5), .ref (a 6), .ref (a 7), .ref (a 8), .long (zL (hs))])), (a 0, .inl (cI, 612, .inl (zA f))), (a 2, .inl (cJ, 121, .inr (.inl (zAL (u1 0))))), (a 3, .inl (cI, 121, .inl (zA (u1 1)))), (a 4, .inl (cI, 121, .inl (zA (u1 2)))), (a 5, .inl (cI, 121, .inl (zA (u1 3)))), (a 6, .inl (cI, 121, .inl (zA u5)))] H → va_S A s.heap H locs → ∀ (ls : Array Slot), lv_has ls 5 [(0, .ref m0), (1, .int (zI (rank f (f 0 + 1)))), (2, .int (zI (t))), (3, .int (zI (i)))] → W p l e rmX7_headwayNow s m args below meth c H locs 0 0 Q (F0 m 13 ls []) := by
    intro fuel
    induction fuel with
    | zero =>
      intro t i h1 ht hb9 hm
      exact absurd hm (Nat.not_lt_zero _)
    | succ fuel ih13 =>
      intro t i h1 ht hb9 hm H locs hP hS ls hl
      refine lv_iload_n hx hb dX7_headwayNow_13 rfl (lv_at hl 3 rfl) ?_
      refine lv_iload_n hx hb dX7_headwayNow_14 rfl (lv_at hl 1 rfl) ?_
      refine z_icmp_ge (tgt := 45) hx hb dX7_headwayNow_15 (by decide) (by omega) (by omega) (fun c15 => ?_) (fun c15 => ?_)
      · refine lv_iload_n hx hb dX7_headwayNow_45 rfl (lv_at hl 2 rfl) ?_
        have hi9 : i = (rank f (f 0 + 1)) := by omega
        exact hret (fun j => if j = 0 then (u1 0) else if j = 1 then (u1 1) else if j = 2 then (u1 2) else if j = 3 then (u1 3) else u5) ⟨by rw [ht, hi9]; unfold HW; rw [hwy_congr ok rfl (rep_c ok hu5) (fun x c d => (hu1 x c d).2.2.2) _ hr9.1 (Int.le_refl _)], hu1, hu5⟩ hP hS dX7_headwayNow_46
      · refine lv_aload_n hx hb dX7_headwayNow_18 rfl (lv_at hl 0 rfl) ?_
        refine lv_iload_n hx hb dX7_headwayNow_19 rfl (lv_at hl 3 rfl) ?_
        refine lv_iload_n hx hb dX7_headwayNow_20 rfl (lv_at hl 1 rfl) ?_
        refine y_rV (v := blk f u5 (u1 3) (rank f (f 0 + 1)) i) (As := [.int (zI (i)), .int (zI (rank f (f 0 + 1)))]) (rest := []) hx hb hml hown hts hl.1 ⟨Nat.zero_le _, Nat.zero_le _⟩ (kX7_blockOf l D cI cJ cS m0 a ke th hs f (u1 3) u5 (rank f (f 0 + 1)) i ok hu5 (by omega)) (cwV 2 hts gX7_headwayNow_X7_blockOf rfl rfl rfl jX7_blockOf ⟨Nat.le_of_ble_eq_true rfl, Nat.le_of_ble_eq_true rfl⟩) hK [true, true, false, false, false, true, true] hP (zD hD rfl) rfl 7 0 rfl rfl rfl rfl rfl (Nat.le_of_ble_eq_true rfl) dX7_headwayNow_21 ?_
        have hb2 := BLK_b ok h1.1 (by omega : i < (rank f (f 0 + 1)))
        rw [← hcg i h1.1 (by omega)] at hb2
        refine lv_istore (lv' := [(4, .int (zI (blk f u5 (u1 3) (rank f (f 0 + 1)) i))), (0, .ref m0), (1, .int (zI (rank f (f 0 + 1)))), (2, .int (zI (t))), (3, .int (zI (i)))]) hx hb dX7_headwayNow_24 hl (by decide) rfl (fun ls hl => ?_)
        have J38 :  ∀ (H : Heap) (locs : List Loc), va_P D vwCl [(m0, .inr (7, [.ref (a 0), .ref (a 1), .int (zI (ke)), .int (zI (th)), .ref (a 2), .ref (a 3), .ref (a 4), .ref (a 5), .ref (a 6), .ref (a 7), .ref (a 8), .long (zL (hs))])), (a 0, .inl (cI, 612, .inl (zA f))), (a 2, .inl (cJ, 121, .inr (.inl (zAL (u1 0))))), (a 3, .inl (cI, 121, .inl (zA (u1 1)))), (a 4, .inl (cI, 121, .inl (zA (u1 2)))), (a 5, .inl (cI, 121, .inl (zA (u1 3)))), (a 6, .inl (cI, 121, .inl (zA u5)))] H → va_S A s.heap H locs → ∀ (ls : Array Slot), lv_has ls 5 [(4, .int (zI (blk f u5 (u1 3) (rank f (f 0 + 1)) i))), (0, .ref m0), (1, .int (zI (rank f (f 0 + 1)))), (2, .int (zI (t))), (3, .int (zI (i)))] → W p l e rmX7_headwayNow s m args below meth c H locs 0 0 Q (F0 m 38 ls [.int (zI (hwy f u5 (u1 3) (rank f (f 0 + 1)) (i + 1)))]) := by
          intro  H locs hP hS ls hl
          refine lv_istore_n (lv' := [(2, .int (zI (hwy f u5 (u1 3) (rank f (f 0 + 1)) (i + 1)))), (4, .int (zI (blk f u5 (u1 3) (rank f (f 0 + 1)) i))), (0, .ref m0), (1, .int (zI (rank f (f 0 + 1)))), (3, .int (zI (i)))]) hx hb dX7_headwayNow_38 rfl hl (by decide) rfl (fun ls hl => ?_)
          refine z_iinc (lv' := [(3, .int (zI (i + 1))), (2, .int (zI (hwy f u5 (u1 3) (rank f (f 0 + 1)) (i + 1)))), (4, .int (zI (blk f u5 (u1 3) (rank f (f 0 + 1)) i))), (0, .ref m0), (1, .int (zI (rank f (f 0 + 1))))]) hx hb 4 (i + 1) dX7_headwayNow_39 hl rfl (by omega) (by decide) rfl (fun ls hl => ?_)
          refine lv_goto (tgt := 13) hx hb dX7_headwayNow_42 (by decide) ?_
          exact ih13 (hwy f u5 (u1 3) (rank f (f 0 + 1)) (i + 1)) (i + 1) (by omega) rfl (by rw [hwy_s h1.1, ← ht]; split <;> omega) (by omega) _ _ hP hS ls (lv_sub hl [3, 4, 1, 0] rfl)
        refine lv_iload hx hb dX7_headwayNow_26 (lv_at hl 0 rfl) ?_
        refine lv_iload_n hx hb dX7_headwayNow_28 rfl (lv_at hl 3 rfl) ?_
        refine z_icmp_le (tgt := 37) hx hb dX7_headwayNow_29 (by decide) (by omega) (by omega) (fun c29 => ?_) (fun c29 => ?_)
        · refine lv_iload_n hx hb dX7_headwayNow_37 rfl (lv_at hl 3 rfl) ?_
          refine z_top (hwy f u5 (u1 3) (rank f (f 0 + 1)) (i + 1)) (by rw [hwy_s h1.1, ← ht, if_neg (by omega)]) ?_
          exact J38  _ _ hP hS ls (lv_sub hl [0, 1, 2, 3, 4] rfl)
        · refine lv_iload hx hb dX7_headwayNow_32 (lv_at hl 0 rfl) ?_
          refine lv_goto (tgt := 38) hx hb dX7_headwayNow_34 (by decide) ?_
          refine z_top (hwy f u5 (u1 3) (rank f (f 0 + 1)) (i + 1)) (by rw [hwy_s h1.1, ← ht, if_pos (by omega)]) ?_
          exact J38  _ _ hP hS ls (lv_sub hl [0, 1, 2, 3, 4] rfl)
  exact L13 _ (-1) 0 (by omega) rfl (by omega) (Nat.lt_succ_self _) _ _ hP hS ls (lv_sub hl [3, 2, 1, 0] rfl)

abbrev rmX7_headway : Room := { frames := 4, cells := 0, slots := 0, locals := 95 }
theorem jX7_headway : yX7_headway.cls = RX7 ∧ yX7_headway.cls ≠ "java/lang/invoke/MethodHandle" ∧ yX7_headway.cls ≠ "java/lang/invoke/VarHandle" ∧ (parseMethodDescriptor yX7_headway.desc).map (fun d => d.parameters.length) = some 0 := by decide +kernel
set_option maxHeartbeats 4000000 in
set_option maxRecDepth 100000 in
theorem kX7_headway (l : Launch) (D : va_G) (cI cJ cS : ClassId) (m0 : Nat) (a : Nat → Nat) (ke th hs : Int) (f : Int → Int) (ge gv gd gt gr : Int → Int) (ok : OkF f) : Met l yX7_headway wsX7_headway rmX7_headway (zPc D (zT cI cJ cS) [.ref m0] [(m0, .inr (7, [.ref (a 0), .ref (a 1), .int (zI (ke)), .int (zI (th)), .ref (a 2), .ref (a 3), .ref (a 4), .ref (a 5), .ref (a 6), .ref (a 7), .ref (a 8), .long (zL (hs))])), (a 0, .inl (cI, 612, .inl (zA f))), (a 2, .inl (cJ, 121, .inr (.inl (zAL ge)))), (a 3, .inl (cI, 121, .inl (zA gv))), (a 4, .inl (cI, 121, .inl (zA gd))), (a 5, .inl (cI, 121, .inl (zA gt))), (a 6, .inl (cI, 121, .inl (zA gr)))]) (va_Qi (fun r _ => r = zI (HW f)) (fun (u : Nat → Int → Int) t => va_P D vwCl [(m0, .inr (7, [.ref (a 0), .ref (a 1), .int (zI (ke)), .int (zI (0)), .ref (a 2), .ref (a 3), .ref (a 4), .ref (a 5), .ref (a 6), .ref (a 7), .ref (a 8), .long (zL (hs))])), (a 0, .inl (cI, 612, .inl (zA f))), (a 2, .inl (cJ, 121, .inr (.inl (zAL (u 0))))), (a 3, .inl (cI, 121, .inl (zA (u 1)))), (a 4, .inl (cI, 121, .inl (zA (u 2)))), (a 5, .inl (cI, 121, .inl (zA (u 3)))), (a 6, .inl (cI, 121, .inl (zA (u 4))))] t.heap) (zAd [(m0, .inr (7, [.ref (a 0), .ref (a 1), .int (zI (ke)), .int (zI (th)), .ref (a 2), .ref (a 3), .ref (a 4), .ref (a 5), .ref (a 6), .ref (a 7), .ref (a 8), .long (zL (hs))])), (a 0, .inl (cI, 612, .inl (zA f))), (a 2, .inl (cJ, 121, .inr (.inl (zAL ge)))), (a 3, .inl (cI, 121, .inl (zA gv))), (a 4, .inl (cI, 121, .inl (zA gd))), (a 5, .inl (cI, 121, .inl (zA gt))), (a 6, .inl (cI, 121, .inl (zA gr)))])) 0 0 (zAd [(m0, .inr (7, [.ref (a 0), .ref (a 1), .int (zI (ke)), .int (zI (th)), .ref (a 2), .ref (a 3), .ref (a 4), .ref (a 5), .ref (a 6), .ref (a 7), .ref (a 8), .long (zL (hs))])), (a 0, .inl (cI, 612, .inl (zA f))), (a 2, .inl (cJ, 121, .inr (.inl (zAL ge)))), (a 3, .inl (cI, 121, .inl (zA gv))), (a 4, .inl (cI, 121, .inl (zA gd))), (a 5, .inl (cI, 121, .inl (zA gt))), (a 6, .inl (cI, 121, .inl (zA gr)))]) := by
  refine zWi_of (cc := cX7_headway) (maxL := 1) (ret := (some .int)) (by decide) rfl (Nat.le_of_ble_eq_true rfl) rfl ?_
  intro p e s m args below meth c Q A ls hx hb hml hts hown hK hP hD hS hl hret
  have in7 : ∀ w ∈ wsX70, w ∈ wsX7_headway := by decide +kernel
  have f41 := hts (.fieldLink RX7 41 "SignalSpacingModel" "thrown" "I") (by decide +kernel)
  have hl : lv_has ls 1 [(0, .ref m0)] := hl
  have hP : va_P D vwCl [(m0, .inr (7, [.ref (a 0), .ref (a 1), .int (zI (ke)), .int (zI (th)), .ref (a 2), .ref (a 3), .ref (a 4), .ref (a 5), .ref (a 6), .ref (a 7), .ref (a 8), .long (zL (hs))])), (a 0, .inl (cI, 612, .inl (zA f))), (a 2, .inl (cJ, 121, .inr (.inl (zAL ge)))), (a 3, .inl (cI, 121, .inl (zA gv))), (a 4, .inl (cI, 121, .inl (zA gd))), (a 5, .inl (cI, 121, .inl (zA gt))), (a 6, .inl (cI, 121, .inl (zA gr)))] s.heap := hP
  refine lv_aload_n hx hb dX7_headway_0 rfl (lv_at hl 0 rfl) ?_
  refine z_iconst hx hb dX7_headway_1 ?_
  refine z_put (ci := 7) (v := .int (zI (0))) (ty := .int) (C := RX7) (F := TX7) (N := 12) hx hb hts in7 tyX7 tyX7_ok nmX7 hown hK hP hD hS 0 [(m0, .inr (7, [.ref (a 0), .ref (a 1), .int (zI (ke)), .int (zI (0)), .ref (a 2), .ref (a 3), .ref (a 4), .ref (a 5), .ref (a 6), .ref (a 7), .ref (a 8), .long (zL (hs))])), (a 0, .inl (cI, 612, .inl (zA f))), (a 2, .inl (cJ, 121, .inr (.inl (zAL ge)))), (a 3, .inl (cI, 121, .inl (zA gv))), (a 4, .inl (cI, 121, .inl (zA gd))), (a 5, .inl (cI, 121, .inl (zA gt))), (a 6, .inl (cI, 121, .inl (zA gr)))] rfl rfl 3 (by decide) f41 (fun _ h9 => h9) rfl (by decide +kernel) rfl rfl (Nat.le_of_ble_eq_true rfl) dX7_headway_2 rfl (fun H locs hP hS => ?_)
  refine lv_aload_n hx hb dX7_headway_5 rfl (lv_at hl 0 rfl) ?_
  refine y_wVi (As := []) (rest := []) (fun (u6 : Nat → Int → Int) => [(m0, .inr (7, [.ref (a 0), .ref (a 1), .int (zI (ke)), .int (zI (0)), .ref (a 2), .ref (a 3), .ref (a 4), .ref (a 5), .ref (a 6), .ref (a 7), .ref (a 8), .long (zL (hs))])), (a 0, .inl (cI, 612, .inl (zA f))), (a 2, .inl (cJ, 121, .inr (.inl (zAL (u6 0))))), (a 3, .inl (cI, 121, .inl (zA (u6 1)))), (a 4, .inl (cI, 121, .inl (zA (u6 2)))), (a 5, .inl (cI, 121, .inl (zA (u6 3)))), (a 6, .inl (cI, 121, .inl (zA (u6 4))))]) hx hb hml hown hts hl.1 ⟨Nat.zero_le _, Nat.zero_le _⟩ (kX7_headwayNow l D cI cJ cS m0 a ke 0 hs f ge gv gd gt gr ok) (cwV 0 hts gX7_headway_X7_headwayNow rfl rfl rfl jX7_headwayNow ⟨Nat.le_of_ble_eq_true rfl, Nat.le_of_ble_eq_true rfl⟩) hK [true, true, true, true, true, true, true] hP (zD hD rfl) hS rfl (fun _ => rfl) (fun _ => rfl) 7 0 rfl rfl rfl rfl rfl (Nat.le_of_ble_eq_true rfl) dX7_headway_6 (fun r6 u6 H locs hu6 hP hS => ?_)
  obtain ⟨rfl, hu6⟩ := hu6
  exact hret u6 rfl hP hS dX7_headway_9

abbrev rmX7_capacity : Room := { frames := 4, cells := 0, slots := 0, locals := 95 }
theorem jX7_capacity : yX7_capacity.cls = RX7 ∧ yX7_capacity.cls ≠ "java/lang/invoke/MethodHandle" ∧ yX7_capacity.cls ≠ "java/lang/invoke/VarHandle" ∧ (parseMethodDescriptor yX7_capacity.desc).map (fun d => d.parameters.length) = some 0 := by decide +kernel
set_option maxHeartbeats 4000000 in
set_option maxRecDepth 100000 in
theorem kX7_capacity_no (l : Launch) (D : va_G) (cI cJ cS : ClassId) (m0 : Nat) (a : Nat → Nat) (ke th hs : Int) (f : Int → Int) (ge gv gd gt gr : Int → Int) (ok : OkF f) (hN : HW f = -1) : Met l yX7_capacity wsX7_capacity rmX7_capacity (zPc D (zT cI cJ cS) [.ref m0] [(m0, .inr (7, [.ref (a 0), .ref (a 1), .int (zI (ke)), .int (zI (th)), .ref (a 2), .ref (a 3), .ref (a 4), .ref (a 5), .ref (a 6), .ref (a 7), .ref (a 8), .long (zL (hs))])), (a 0, .inl (cI, 612, .inl (zA f))), (a 2, .inl (cJ, 121, .inr (.inl (zAL ge)))), (a 3, .inl (cI, 121, .inl (zA gv))), (a 4, .inl (cI, 121, .inl (zA gd))), (a 5, .inl (cI, 121, .inl (zA gt))), (a 6, .inl (cI, 121, .inl (zA gr)))]) (va_Qi (fun r _ => r = zI 0) (fun (u : Nat → Int → Int) t => va_P D vwCl [(m0, .inr (7, [.ref (a 0), .ref (a 1), .int (zI (ke)), .int (zI (1)), .ref (a 2), .ref (a 3), .ref (a 4), .ref (a 5), .ref (a 6), .ref (a 7), .ref (a 8), .long (zL (hs))])), (a 0, .inl (cI, 612, .inl (zA f))), (a 2, .inl (cJ, 121, .inr (.inl (zAL (u 0))))), (a 3, .inl (cI, 121, .inl (zA (u 1)))), (a 4, .inl (cI, 121, .inl (zA (u 2)))), (a 5, .inl (cI, 121, .inl (zA (u 3)))), (a 6, .inl (cI, 121, .inl (zA (u 4))))] t.heap) (zAd [(m0, .inr (7, [.ref (a 0), .ref (a 1), .int (zI (ke)), .int (zI (th)), .ref (a 2), .ref (a 3), .ref (a 4), .ref (a 5), .ref (a 6), .ref (a 7), .ref (a 8), .long (zL (hs))])), (a 0, .inl (cI, 612, .inl (zA f))), (a 2, .inl (cJ, 121, .inr (.inl (zAL ge)))), (a 3, .inl (cI, 121, .inl (zA gv))), (a 4, .inl (cI, 121, .inl (zA gd))), (a 5, .inl (cI, 121, .inl (zA gt))), (a 6, .inl (cI, 121, .inl (zA gr)))])) 0 0 (zAd [(m0, .inr (7, [.ref (a 0), .ref (a 1), .int (zI (ke)), .int (zI (th)), .ref (a 2), .ref (a 3), .ref (a 4), .ref (a 5), .ref (a 6), .ref (a 7), .ref (a 8), .long (zL (hs))])), (a 0, .inl (cI, 612, .inl (zA f))), (a 2, .inl (cJ, 121, .inr (.inl (zAL ge)))), (a 3, .inl (cI, 121, .inl (zA gv))), (a 4, .inl (cI, 121, .inl (zA gd))), (a 5, .inl (cI, 121, .inl (zA gt))), (a 6, .inl (cI, 121, .inl (zA gr)))]) := by
  refine zWi_of (cc := cX7_capacity) (maxL := 2) (ret := (some .int)) (by decide) rfl (Nat.le_of_ble_eq_true rfl) rfl ?_
  intro p e s m args below meth c Q A ls hx hb hml hts hown hK hP hD hS hl hret
  have hl : lv_has ls 2 [(0, .ref m0)] := hl
  have hP : va_P D vwCl [(m0, .inr (7, [.ref (a 0), .ref (a 1), .int (zI (ke)), .int (zI (th)), .ref (a 2), .ref (a 3), .ref (a 4), .ref (a 5), .ref (a 6), .ref (a 7), .ref (a 8), .long (zL (hs))])), (a 0, .inl (cI, 612, .inl (zA f))), (a 2, .inl (cJ, 121, .inr (.inl (zAL ge)))), (a 3, .inl (cI, 121, .inl (zA gv))), (a 4, .inl (cI, 121, .inl (zA gd))), (a 5, .inl (cI, 121, .inl (zA gt))), (a 6, .inl (cI, 121, .inl (zA gr)))] s.heap := hP
  have hb9 := HW_b ok
  refine lv_aload_n hx hb dX7_capacity_0 rfl (lv_at hl 0 rfl) ?_
  refine y_wVi (As := []) (rest := []) (fun (u1 : Nat → Int → Int) => [(m0, .inr (7, [.ref (a 0), .ref (a 1), .int (zI (ke)), .int (zI (th)), .ref (a 2), .ref (a 3), .ref (a 4), .ref (a 5), .ref (a 6), .ref (a 7), .ref (a 8), .long (zL (hs))])), (a 0, .inl (cI, 612, .inl (zA f))), (a 2, .inl (cJ, 121, .inr (.inl (zAL (u1 0))))), (a 3, .inl (cI, 121, .inl (zA (u1 1)))), (a 4, .inl (cI, 121, .inl (zA (u1 2)))), (a 5, .inl (cI, 121, .inl (zA (u1 3)))), (a 6, .inl (cI, 121, .inl (zA (u1 4))))]) hx hb hml hown hts hl.1 ⟨Nat.zero_le _, Nat.zero_le _⟩ (kX7_headwayNow l D cI cJ cS m0 a ke th hs f ge gv gd gt gr ok) (cwV 0 hts gX7_capacity_X7_headwayNow rfl rfl rfl jX7_headwayNow ⟨Nat.le_of_ble_eq_true rfl, Nat.le_of_ble_eq_true rfl⟩) hK [true, true, true, true, true, true, true] hP hD hS rfl (fun _ => rfl) (fun _ => rfl) 7 0 rfl rfl rfl rfl rfl (Nat.le_of_ble_eq_true rfl) dX7_capacity_1 (fun r1 u1 H locs hu1 hP hS => ?_)
  obtain ⟨rfl, hu1⟩ := hu1
  refine lv_istore_n (lv' := [(1, .int (zI (HW f))), (0, .ref m0)]) hx hb dX7_capacity_4 rfl hl (by decide) rfl (fun ls hl => ?_)
  refine lv_aload_n hx hb dX7_capacity_5 rfl (lv_at hl 1 rfl) ?_
  refine lv_iload_n hx hb dX7_capacity_6 rfl (lv_at hl 0 rfl) ?_
  refine z_iconst hx hb dX7_capacity_7 ?_
  refine z_icmp_eq (tgt := 15) hx hb dX7_capacity_8 (by decide) (by omega) (by omega) (fun c8 => ?_) (fun c8 => ?_)
  · refine z_iconst hx hb dX7_capacity_15 ?_
    refine y_wVi (As := [.int (zI (0))]) (rest := []) (fun (u16 : Unit) => [(m0, .inr (7, [.ref (a 0), .ref (a 1), .int (zI (ke)), .int (zI (1)), .ref (a 2), .ref (a 3), .ref (a 4), .ref (a 5), .ref (a 6), .ref (a 7), .ref (a 8), .long (zL (hs))])), (a 0, .inl (cI, 612, .inl (zA f))), (a 2, .inl (cJ, 121, .inr (.inl (zAL (u1 0))))), (a 3, .inl (cI, 121, .inl (zA (u1 1)))), (a 4, .inl (cI, 121, .inl (zA (u1 2)))), (a 5, .inl (cI, 121, .inl (zA (u1 3)))), (a 6, .inl (cI, 121, .inl (zA (u1 4))))]) hx hb hml hown hts hl.1 ⟨Nat.zero_le _, Nat.zero_le _⟩ (kX7_refuses_0 l D cI cJ cS m0 a ke th hs f) (cwV 1 hts gX7_capacity_X7_refuses rfl rfl rfl jX7_refuses ⟨Nat.le_of_ble_eq_true rfl, Nat.le_of_ble_eq_true rfl⟩) hK [true] hP (zD hD rfl) hS rfl (fun _ => rfl) (fun _ => rfl) 7 0 rfl rfl rfl rfl rfl (Nat.le_of_ble_eq_true rfl) dX7_capacity_16 (fun r16 u16 H locs hu16 hP hS => ?_)
    subst hu16
    refine z_if_eq (tgt := 26) hx hb dX7_capacity_19 (by decide) (by omega) (fun c19 => ?_) (fun c19 => ?_)
    · exfalso; omega
    · refine z_iconst hx hb dX7_capacity_22 ?_
      refine lv_goto (tgt := 30) hx hb dX7_capacity_23 (by decide) ?_
      exact hret u1 rfl hP hS dX7_capacity_30
  · exfalso; omega

set_option maxHeartbeats 4000000 in
set_option maxRecDepth 100000 in
theorem kX7_capacity_ok (l : Launch) (D : va_G) (cI cJ cS : ClassId) (m0 : Nat) (a : Nat → Nat) (ke th hs : Int) (f : Int → Int) (ge gv gd gt gr : Int → Int) (ok : OkF f) (hY : HW f ≠ -1) : Met l yX7_capacity wsX7_capacity rmX7_capacity (zPc D (zT cI cJ cS) [.ref m0] [(m0, .inr (7, [.ref (a 0), .ref (a 1), .int (zI (ke)), .int (zI (th)), .ref (a 2), .ref (a 3), .ref (a 4), .ref (a 5), .ref (a 6), .ref (a 7), .ref (a 8), .long (zL (hs))])), (a 0, .inl (cI, 612, .inl (zA f))), (a 2, .inl (cJ, 121, .inr (.inl (zAL ge)))), (a 3, .inl (cI, 121, .inl (zA gv))), (a 4, .inl (cI, 121, .inl (zA gd))), (a 5, .inl (cI, 121, .inl (zA gt))), (a 6, .inl (cI, 121, .inl (zA gr)))]) (va_Qi (fun r _ => r = zI (3600000 / HW f)) (fun (u : Nat → Int → Int) t => va_P D vwCl [(m0, .inr (7, [.ref (a 0), .ref (a 1), .int (zI (ke)), .int (zI (0)), .ref (a 2), .ref (a 3), .ref (a 4), .ref (a 5), .ref (a 6), .ref (a 7), .ref (a 8), .long (zL (hs))])), (a 0, .inl (cI, 612, .inl (zA f))), (a 2, .inl (cJ, 121, .inr (.inl (zAL (u 0))))), (a 3, .inl (cI, 121, .inl (zA (u 1)))), (a 4, .inl (cI, 121, .inl (zA (u 2)))), (a 5, .inl (cI, 121, .inl (zA (u 3)))), (a 6, .inl (cI, 121, .inl (zA (u 4))))] t.heap) (zAd [(m0, .inr (7, [.ref (a 0), .ref (a 1), .int (zI (ke)), .int (zI (th)), .ref (a 2), .ref (a 3), .ref (a 4), .ref (a 5), .ref (a 6), .ref (a 7), .ref (a 8), .long (zL (hs))])), (a 0, .inl (cI, 612, .inl (zA f))), (a 2, .inl (cJ, 121, .inr (.inl (zAL ge)))), (a 3, .inl (cI, 121, .inl (zA gv))), (a 4, .inl (cI, 121, .inl (zA gd))), (a 5, .inl (cI, 121, .inl (zA gt))), (a 6, .inl (cI, 121, .inl (zA gr)))])) 0 0 (zAd [(m0, .inr (7, [.ref (a 0), .ref (a 1), .int (zI (ke)), .int (zI (th)), .ref (a 2), .ref (a 3), .ref (a 4), .ref (a 5), .ref (a 6), .ref (a 7), .ref (a 8), .long (zL (hs))])), (a 0, .inl (cI, 612, .inl (zA f))), (a 2, .inl (cJ, 121, .inr (.inl (zAL ge)))), (a 3, .inl (cI, 121, .inl (zA gv))), (a 4, .inl (cI, 121, .inl (zA gd))), (a 5, .inl (cI, 121, .inl (zA gt))), (a 6, .inl (cI, 121, .inl (zA gr)))]) := by
  refine zWi_of (cc := cX7_capacity) (maxL := 2) (ret := (some .int)) (by decide) rfl (Nat.le_of_ble_eq_true rfl) rfl ?_
  intro p e s m args below meth c Q A ls hx hb hml hts hown hK hP hD hS hl hret
  have c136 := hts (.constant RX7 136 (3600000)) (by decide +kernel)
  have hl : lv_has ls 2 [(0, .ref m0)] := hl
  have hP : va_P D vwCl [(m0, .inr (7, [.ref (a 0), .ref (a 1), .int (zI (ke)), .int (zI (th)), .ref (a 2), .ref (a 3), .ref (a 4), .ref (a 5), .ref (a 6), .ref (a 7), .ref (a 8), .long (zL (hs))])), (a 0, .inl (cI, 612, .inl (zA f))), (a 2, .inl (cJ, 121, .inr (.inl (zAL ge)))), (a 3, .inl (cI, 121, .inl (zA gv))), (a 4, .inl (cI, 121, .inl (zA gd))), (a 5, .inl (cI, 121, .inl (zA gt))), (a 6, .inl (cI, 121, .inl (zA gr)))] s.heap := hP
  have hb9 := HW_b ok
  refine lv_aload_n hx hb dX7_capacity_0 rfl (lv_at hl 0 rfl) ?_
  refine y_wVi (As := []) (rest := []) (fun (u1 : Nat → Int → Int) => [(m0, .inr (7, [.ref (a 0), .ref (a 1), .int (zI (ke)), .int (zI (th)), .ref (a 2), .ref (a 3), .ref (a 4), .ref (a 5), .ref (a 6), .ref (a 7), .ref (a 8), .long (zL (hs))])), (a 0, .inl (cI, 612, .inl (zA f))), (a 2, .inl (cJ, 121, .inr (.inl (zAL (u1 0))))), (a 3, .inl (cI, 121, .inl (zA (u1 1)))), (a 4, .inl (cI, 121, .inl (zA (u1 2)))), (a 5, .inl (cI, 121, .inl (zA (u1 3)))), (a 6, .inl (cI, 121, .inl (zA (u1 4))))]) hx hb hml hown hts hl.1 ⟨Nat.zero_le _, Nat.zero_le _⟩ (kX7_headwayNow l D cI cJ cS m0 a ke th hs f ge gv gd gt gr ok) (cwV 0 hts gX7_capacity_X7_headwayNow rfl rfl rfl jX7_headwayNow ⟨Nat.le_of_ble_eq_true rfl, Nat.le_of_ble_eq_true rfl⟩) hK [true, true, true, true, true, true, true] hP hD hS rfl (fun _ => rfl) (fun _ => rfl) 7 0 rfl rfl rfl rfl rfl (Nat.le_of_ble_eq_true rfl) dX7_capacity_1 (fun r1 u1 H locs hu1 hP hS => ?_)
  obtain ⟨rfl, hu1⟩ := hu1
  refine lv_istore_n (lv' := [(1, .int (zI (HW f))), (0, .ref m0)]) hx hb dX7_capacity_4 rfl hl (by decide) rfl (fun ls hl => ?_)
  refine lv_aload_n hx hb dX7_capacity_5 rfl (lv_at hl 1 rfl) ?_
  refine lv_iload_n hx hb dX7_capacity_6 rfl (lv_at hl 0 rfl) ?_
  refine z_iconst hx hb dX7_capacity_7 ?_
  refine z_icmp_eq (tgt := 15) hx hb dX7_capacity_8 (by decide) (by omega) (by omega) (fun c8 => ?_) (fun c8 => ?_)
  · exfalso; omega
  · refine z_iconst hx hb dX7_capacity_11 ?_
    refine lv_goto (tgt := 16) hx hb dX7_capacity_12 (by decide) ?_
    refine y_wVi (As := [.int (zI (1))]) (rest := []) (fun (u16 : Unit) => [(m0, .inr (7, [.ref (a 0), .ref (a 1), .int (zI (ke)), .int (zI (0)), .ref (a 2), .ref (a 3), .ref (a 4), .ref (a 5), .ref (a 6), .ref (a 7), .ref (a 8), .long (zL (hs))])), (a 0, .inl (cI, 612, .inl (zA f))), (a 2, .inl (cJ, 121, .inr (.inl (zAL (u1 0))))), (a 3, .inl (cI, 121, .inl (zA (u1 1)))), (a 4, .inl (cI, 121, .inl (zA (u1 2)))), (a 5, .inl (cI, 121, .inl (zA (u1 3)))), (a 6, .inl (cI, 121, .inl (zA (u1 4))))]) hx hb hml hown hts hl.1 ⟨Nat.zero_le _, Nat.zero_le _⟩ (kX7_refuses_1 l D cI cJ cS m0 a ke th hs f) (cwV 1 hts gX7_capacity_X7_refuses rfl rfl rfl jX7_refuses ⟨Nat.le_of_ble_eq_true rfl, Nat.le_of_ble_eq_true rfl⟩) hK [true] hP (zD hD rfl) hS rfl (fun _ => rfl) (fun _ => rfl) 7 0 rfl rfl rfl rfl rfl (Nat.le_of_ble_eq_true rfl) dX7_capacity_16 (fun r16 u16 H locs hu16 hP hS => ?_)
    subst hu16
    refine z_if_eq (tgt := 26) hx hb dX7_capacity_19 (by decide) (by omega) (fun c19 => ?_) (fun c19 => ?_)
    · refine z_ldc hx hb (3600000) hown c136 (by decide +kernel) dX7_capacity_26 ?_
      refine lv_iload_n hx hb dX7_capacity_28 rfl (lv_at hl 0 rfl) ?_
      refine z_idiv hx hb dX7_capacity_29 (by omega) (by omega) ?_
      exact hret u1 rfl hP hS dX7_capacity_30
    · exfalso; omega

abbrev rmX7_undo : Room := { frames := 1, cells := 0, slots := 0, locals := 21 }
theorem jX7_undo : yX7_undo.cls = RX7 ∧ yX7_undo.cls ≠ "java/lang/invoke/MethodHandle" ∧ yX7_undo.cls ≠ "java/lang/invoke/VarHandle" ∧ (parseMethodDescriptor yX7_undo.desc).map (fun d => d.parameters.length) = some 0 := by decide +kernel
set_option maxHeartbeats 4000000 in
set_option maxRecDepth 100000 in
theorem kX7_undo_no (l : Launch) (D : va_G) (cI cJ cS : ClassId) (m0 : Nat) (a : Nat → Nat) (ke th hs : Int) (f : Int → Int) (gp : Int → Int) (hke : 0 ≤ ke ∧ ke ≤ 4) (hN : ke = 0) : Met l yX7_undo wsX7_undo rmX7_undo (zPc D (zT cI cJ cS) [.ref m0] [(m0, .inr (7, [.ref (a 0), .ref (a 1), .int (zI (ke)), .int (zI (th)), .ref (a 2), .ref (a 3), .ref (a 4), .ref (a 5), .ref (a 6), .ref (a 7), .ref (a 8), .long (zL (hs))])), (a 0, .inl (cI, 612, .inl (zA f))), (a 1, .inl (cI, 2448, .inl (zA gp)))]) (va_Qi (fun r _ => r = zI 0) (fun (u : Unit) t => va_P D vwCl [(m0, .inr (7, [.ref (a 0), .ref (a 1), .int (zI (ke)), .int (zI (1)), .ref (a 2), .ref (a 3), .ref (a 4), .ref (a 5), .ref (a 6), .ref (a 7), .ref (a 8), .long (zL (hs))])), (a 0, .inl (cI, 612, .inl (zA f))), (a 1, .inl (cI, 2448, .inl (zA gp)))] t.heap) (zAd [(m0, .inr (7, [.ref (a 0), .ref (a 1), .int (zI (ke)), .int (zI (th)), .ref (a 2), .ref (a 3), .ref (a 4), .ref (a 5), .ref (a 6), .ref (a 7), .ref (a 8), .long (zL (hs))])), (a 0, .inl (cI, 612, .inl (zA f))), (a 1, .inl (cI, 2448, .inl (zA gp)))])) 0 0 (zAd [(m0, .inr (7, [.ref (a 0), .ref (a 1), .int (zI (ke)), .int (zI (th)), .ref (a 2), .ref (a 3), .ref (a 4), .ref (a 5), .ref (a 6), .ref (a 7), .ref (a 8), .long (zL (hs))])), (a 0, .inl (cI, 612, .inl (zA f))), (a 1, .inl (cI, 2448, .inl (zA gp)))]) := by
  refine zWi_of (cc := cX7_undo) (maxL := 2) (ret := (some .int)) (by decide) rfl (Nat.le_of_ble_eq_true rfl) rfl ?_
  intro p e s m args below meth c Q A ls hx hb hml hts hown hK hP hD hS hl hret
  have in7 : ∀ w ∈ wsX70, w ∈ wsX7_undo := by decide +kernel
  have f45 := hts (.fieldLink RX7 45 "SignalSpacingModel" "kept" "I") (by decide +kernel)
  have hl : lv_has ls 2 [(0, .ref m0)] := hl
  have hP : va_P D vwCl [(m0, .inr (7, [.ref (a 0), .ref (a 1), .int (zI (ke)), .int (zI (th)), .ref (a 2), .ref (a 3), .ref (a 4), .ref (a 5), .ref (a 6), .ref (a 7), .ref (a 8), .long (zL (hs))])), (a 0, .inl (cI, 612, .inl (zA f))), (a 1, .inl (cI, 2448, .inl (zA gp)))] s.heap := hP
  refine lv_aload_n hx hb dX7_undo_0 rfl (lv_at hl 0 rfl) ?_
  refine lv_aload_n hx hb dX7_undo_1 rfl (lv_at hl 0 rfl) ?_
  refine va_get (D := D) (ci := 7) (v := .int (zI (ke))) (C := RX7) (T := TX7) (N := 12) hx hb hts in7 hown hK hP 0 rfl rfl 2 (by decide) f45 (fun _ h9 => h9) rfl dX7_undo_2 ?_
  refine z_if_le (tgt := 12) hx hb dX7_undo_5 (by decide) (by omega) (fun c5 => ?_) (fun c5 => ?_)
  · refine z_iconst hx hb dX7_undo_12 ?_
    refine y_wVi (As := [.int (zI (0))]) (rest := []) (fun (u13 : Unit) => [(m0, .inr (7, [.ref (a 0), .ref (a 1), .int (zI (ke)), .int (zI (1)), .ref (a 2), .ref (a 3), .ref (a 4), .ref (a 5), .ref (a 6), .ref (a 7), .ref (a 8), .long (zL (hs))])), (a 0, .inl (cI, 612, .inl (zA f))), (a 1, .inl (cI, 2448, .inl (zA gp)))]) hx hb hml hown hts hl.1 ⟨Nat.zero_le _, Nat.zero_le _⟩ (kX7_refuses_0 l D cI cJ cS m0 a ke th hs f) (cwV 1 hts gX7_undo_X7_refuses rfl rfl rfl jX7_refuses ⟨Nat.le_of_ble_eq_true rfl, Nat.le_of_ble_eq_true rfl⟩) hK [true] hP hD hS rfl (fun _ => rfl) (fun _ => rfl) 7 0 rfl rfl rfl rfl rfl (Nat.le_of_ble_eq_true rfl) dX7_undo_13 (fun r13 u13 H locs hu13 hP hS => ?_)
    subst hu13
    refine z_if_eq (tgt := 21) hx hb dX7_undo_16 (by decide) (by omega) (fun c16 => ?_) (fun c16 => ?_)
    · exfalso; omega
    · refine z_iconst hx hb dX7_undo_19 ?_
      exact hret () rfl hP hS dX7_undo_20
  · exfalso; omega

set_option maxHeartbeats 4000000 in
set_option maxRecDepth 100000 in
theorem kX7_undo_ok (l : Launch) (D : va_G) (cI cJ cS : ClassId) (m0 : Nat) (a : Nat → Nat) (ke th hs : Int) (f : Int → Int) (gp : Int → Int) (hke : 0 ≤ ke ∧ ke ≤ 4) (hY : 0 < ke) : Met l yX7_undo wsX7_undo rmX7_undo (zPc D (zT cI cJ cS) [.ref m0] [(m0, .inr (7, [.ref (a 0), .ref (a 1), .int (zI (ke)), .int (zI (th)), .ref (a 2), .ref (a 3), .ref (a 4), .ref (a 5), .ref (a 6), .ref (a 7), .ref (a 8), .long (zL (hs))])), (a 0, .inl (cI, 612, .inl (zA f))), (a 1, .inl (cI, 2448, .inl (zA gp)))]) (va_Qi (fun r _ => r = zI (ke - 1)) (fun (u : Unit) t => va_P D vwCl [(m0, .inr (7, [.ref (a 0), .ref (a 1), .int (zI (ke - 1)), .int (zI (0)), .ref (a 2), .ref (a 3), .ref (a 4), .ref (a 5), .ref (a 6), .ref (a 7), .ref (a 8), .long (zL (hs))])), (a 0, .inl (cI, 612, .inl (zA (fun j => gp (612 * (ke - 1) + j))))), (a 1, .inl (cI, 2448, .inl (zA gp)))] t.heap) (zAd [(m0, .inr (7, [.ref (a 0), .ref (a 1), .int (zI (ke)), .int (zI (th)), .ref (a 2), .ref (a 3), .ref (a 4), .ref (a 5), .ref (a 6), .ref (a 7), .ref (a 8), .long (zL (hs))])), (a 0, .inl (cI, 612, .inl (zA f))), (a 1, .inl (cI, 2448, .inl (zA gp)))])) 0 0 (zAd [(m0, .inr (7, [.ref (a 0), .ref (a 1), .int (zI (ke)), .int (zI (th)), .ref (a 2), .ref (a 3), .ref (a 4), .ref (a 5), .ref (a 6), .ref (a 7), .ref (a 8), .long (zL (hs))])), (a 0, .inl (cI, 612, .inl (zA f))), (a 1, .inl (cI, 2448, .inl (zA gp)))]) := by
  refine zWi_of (cc := cX7_undo) (maxL := 2) (ret := (some .int)) (by decide) rfl (Nat.le_of_ble_eq_true rfl) rfl ?_
  intro p e s m args below meth c Q A ls hx hb hml hts hown hK hP hD hS hl hret
  have in7 : ∀ w ∈ wsX70, w ∈ wsX7_undo := by decide +kernel
  have f7 := hts (.fieldLink RX7 7 "SignalSpacingModel" "now" "[I") (by decide +kernel)
  have f13 := hts (.fieldLink RX7 13 "SignalSpacingModel" "past" "[I") (by decide +kernel)
  have f45 := hts (.fieldLink RX7 45 "SignalSpacingModel" "kept" "I") (by decide +kernel)
  have hl : lv_has ls 2 [(0, .ref m0)] := hl
  have hP : va_P D vwCl [(m0, .inr (7, [.ref (a 0), .ref (a 1), .int (zI (ke)), .int (zI (th)), .ref (a 2), .ref (a 3), .ref (a 4), .ref (a 5), .ref (a 6), .ref (a 7), .ref (a 8), .long (zL (hs))])), (a 0, .inl (cI, 612, .inl (zA f))), (a 1, .inl (cI, 2448, .inl (zA gp)))] s.heap := hP
  refine lv_aload_n hx hb dX7_undo_0 rfl (lv_at hl 0 rfl) ?_
  refine lv_aload_n hx hb dX7_undo_1 rfl (lv_at hl 0 rfl) ?_
  refine va_get (D := D) (ci := 7) (v := .int (zI (ke))) (C := RX7) (T := TX7) (N := 12) hx hb hts in7 hown hK hP 0 rfl rfl 2 (by decide) f45 (fun _ h9 => h9) rfl dX7_undo_2 ?_
  refine z_if_le (tgt := 12) hx hb dX7_undo_5 (by decide) (by omega) (fun c5 => ?_) (fun c5 => ?_)
  · exfalso; omega
  · refine z_iconst hx hb dX7_undo_8 ?_
    refine lv_goto (tgt := 13) hx hb dX7_undo_9 (by decide) ?_
    refine y_wVi (As := [.int (zI (1))]) (rest := []) (fun (u13 : Unit) => [(m0, .inr (7, [.ref (a 0), .ref (a 1), .int (zI (ke)), .int (zI (0)), .ref (a 2), .ref (a 3), .ref (a 4), .ref (a 5), .ref (a 6), .ref (a 7), .ref (a 8), .long (zL (hs))])), (a 0, .inl (cI, 612, .inl (zA f))), (a 1, .inl (cI, 2448, .inl (zA gp)))]) hx hb hml hown hts hl.1 ⟨Nat.zero_le _, Nat.zero_le _⟩ (kX7_refuses_1 l D cI cJ cS m0 a ke th hs f) (cwV 1 hts gX7_undo_X7_refuses rfl rfl rfl jX7_refuses ⟨Nat.le_of_ble_eq_true rfl, Nat.le_of_ble_eq_true rfl⟩) hK [true] hP hD hS rfl (fun _ => rfl) (fun _ => rfl) 7 0 rfl rfl rfl rfl rfl (Nat.le_of_ble_eq_true rfl) dX7_undo_13 (fun r13 u13 H locs hu13 hP hS => ?_)
    subst hu13
    refine z_if_eq (tgt := 21) hx hb dX7_undo_16 (by decide) (by omega) (fun c16 => ?_) (fun c16 => ?_)
    · refine lv_aload_n hx hb dX7_undo_21 rfl (lv_at hl 0 rfl) ?_
      refine lv_dup hx hb dX7_undo_22 rfl ?_
      refine va_get (D := D) (ci := 7) (v := .int (zI (ke))) (C := RX7) (T := TX7) (N := 12) hx hb hts in7 hown hK hP 0 rfl rfl 2 (by decide) f45 (fun _ h9 => h9) rfl dX7_undo_23 ?_
      refine z_iconst hx hb dX7_undo_26 ?_
      refine z_isub hx hb dX7_undo_27 ?_
      refine z_put (ci := 7) (v := .int (zI (ke - 1))) (ty := .int) (C := RX7) (F := TX7) (N := 12) hx hb hts in7 tyX7 tyX7_ok nmX7 hown hK hP (zD hD rfl) hS 0 [(m0, .inr (7, [.ref (a 0), .ref (a 1), .int (zI (ke - 1)), .int (zI (0)), .ref (a 2), .ref (a 3), .ref (a 4), .ref (a 5), .ref (a 6), .ref (a 7), .ref (a 8), .long (zL (hs))])), (a 0, .inl (cI, 612, .inl (zA f))), (a 1, .inl (cI, 2448, .inl (zA gp)))] rfl rfl 2 (by decide) f45 (fun _ h9 => h9) rfl (by decide +kernel) rfl rfl (Nat.le_of_ble_eq_true rfl) dX7_undo_28 rfl (fun H locs hP hS => ?_)
      refine z_iconst hx hb dX7_undo_31 ?_
      refine lv_istore_n (lv' := [(1, .int (zI (0))), (0, .ref m0)]) hx hb dX7_undo_32 rfl hl (by decide) rfl (fun ls hl => ?_)
      have L33 : ∀ (fuel : Nat), ∀ (i : Int) (g : Int → Int), ∀ (h1 : 0 ≤ i ∧ i ≤ 612), ∀ (hg : ∀ j : Int, 0 ≤ j → j < i → g j = gp (612 * (ke - 1) + j)), (612 - i).toNat < fuel → ∀ (H : Heap) (locs : List Loc), va_P D vwCl [(m0, .inr (7, [.ref (a 0), .ref (a 1), .int (zI (ke - 1)), .int (zI (0)), .ref (a 2), .ref (a 3), .ref (a 4), .ref (a 5), .ref (a 6), .ref (a 7), .ref (a 8), .long (zL (hs))])), (a 0, .inl (cI, 612, .inl (zA g))), (a 1, .inl (cI, 2448, .inl (zA gp)))] H → va_S A s.heap H locs → ∀ (ls : Array Slot), lv_has ls 2 [(0, .ref m0), (1, .int (zI (i)))] → W p l e rmX7_undo s m args below meth c H locs 0 0 Q (F0 m 33 ls []) := by
        intro fuel
        induction fuel with
        | zero =>
          intro i g h1 hg hm
          exact absurd hm (Nat.not_lt_zero _)
        | succ fuel ih33 =>
          intro i g h1 hg hm H locs hP hS ls hl
          refine lv_iload_n hx hb dX7_undo_33 rfl (lv_at hl 1 rfl) ?_
          refine z_sipush hx hb dX7_undo_34 (by decide +kernel) ?_
          refine z_icmp_ge (tgt := 67) hx hb dX7_undo_37 (by decide) (by omega) (by omega) (fun c37 => ?_) (fun c37 => ?_)
          · refine lv_aload_n hx hb dX7_undo_67 rfl (lv_at hl 0 rfl) ?_
            refine va_get (D := D) (ci := 7) (v := .int (zI (ke - 1))) (C := RX7) (T := TX7) (N := 12) hx hb hts in7 hown hK hP 0 rfl rfl 2 (by decide) f45 (fun _ h9 => h9) rfl dX7_undo_68 ?_
            have hP := zre (g' := fun j => gp (612 * (ke - 1) + j)) 1 hP rfl (fun j a b => hg j a (by omega))
            exact hret () rfl hP hS dX7_undo_71
          · refine lv_aload_n hx hb dX7_undo_40 rfl (lv_at hl 0 rfl) ?_
            refine va_get (D := D) (ci := 7) (v := .ref (a 0)) (C := RX7) (T := TX7) (N := 12) hx hb hts in7 hown hK hP 0 rfl rfl 0 (by decide) f7 (fun _ h9 => h9) rfl dX7_undo_41 ?_
            refine lv_iload_n hx hb dX7_undo_44 rfl (lv_at hl 1 rfl) ?_
            refine lv_aload_n hx hb dX7_undo_45 rfl (lv_at hl 0 rfl) ?_
            refine va_get (D := D) (ci := 7) (v := .ref (a 1)) (C := RX7) (T := TX7) (N := 12) hx hb hts in7 hown hK hP 0 rfl rfl 1 (by decide) f13 (fun _ h9 => h9) rfl dX7_undo_46 ?_
            refine z_sipush hx hb dX7_undo_49 (by decide +kernel) ?_
            refine lv_aload_n hx hb dX7_undo_52 rfl (lv_at hl 0 rfl) ?_
            refine va_get (D := D) (ci := 7) (v := .int (zI (ke - 1))) (C := RX7) (T := TX7) (N := 12) hx hb hts in7 hown hK hP 0 rfl rfl 2 (by decide) f45 (fun _ h9 => h9) rfl dX7_undo_53 ?_
            refine z_imul hx hb dX7_undo_56 ?_
            refine lv_iload_n hx hb dX7_undo_57 rfl (lv_at hl 1 rfl) ?_
            refine z_iadd hx hb dX7_undo_58 ?_
            refine z_iald hx hb hK hP 2 0 rfl rfl (by omega) (Nat.lt_of_succ_le (Nat.le_of_ble_eq_true rfl)) dX7_undo_59 ?_
            refine z_iast hx hb hK hP (zD hD rfl) hS 1 0 [(m0, .inr (7, [.ref (a 0), .ref (a 1), .int (zI (ke - 1)), .int (zI (0)), .ref (a 2), .ref (a 3), .ref (a 4), .ref (a 5), .ref (a 6), .ref (a 7), .ref (a 8), .long (zL (hs))])), (a 0, .inl (cI, 612, .inl (zA (zup g i (gp ((612 * (ke - 1)) + i)))))), (a 1, .inl (cI, 2448, .inl (zA gp)))] rfl rfl (by omega) (Nat.lt_of_succ_le (Nat.le_of_ble_eq_true rfl)) rfl dX7_undo_60 (fun H locs hP hS => ?_)
            refine z_iinc (lv' := [(1, .int (zI (i + 1))), (0, .ref m0)]) hx hb 1 (i + 1) dX7_undo_61 hl rfl (by omega) (by decide) rfl (fun ls hl => ?_)
            refine lv_goto (tgt := 33) hx hb dX7_undo_64 (by decide) ?_
            exact ih33 (i + 1) (zup g i (gp ((612 * (ke - 1)) + i))) (by omega) (zx_up (h := fun j => gp (612 * (ke - 1) + j)) hg rfl) (by omega) _ _ hP hS ls (lv_sub hl [1, 0] rfl)
      exact L33 _ 0 f (by omega) (fun j a b => by omega) (Nat.lt_succ_self _) _ _ hP hS ls (lv_sub hl [1, 0] rfl)
    · exfalso; omega

abbrev rmX7_mix : Room := { frames := 0, cells := 0, slots := 0, locals := 0 }
theorem jX7_mix : yX7_mix.cls = RX7 ∧ yX7_mix.cls ≠ "java/lang/invoke/MethodHandle" ∧ yX7_mix.cls ≠ "java/lang/invoke/VarHandle" ∧ (parseMethodDescriptor yX7_mix.desc).map (fun d => d.parameters.length) = some 1 := by decide +kernel
set_option maxHeartbeats 4000000 in
set_option maxRecDepth 100000 in
theorem kX7_mix (l : Launch) (D : va_G) (cI cJ cS : ClassId) (m0 : Nat) (a : Nat → Nat) (ke th hs : Int) (v : Int)  : Met l yX7_mix wsX7_mix rmX7_mix (zPc D (zT cI cJ cS) [.ref m0, .long (zL (v))] [(m0, .inr (7, [.ref (a 0), .ref (a 1), .int (zI (ke)), .int (zI (th)), .ref (a 2), .ref (a 3), .ref (a 4), .ref (a 5), .ref (a 6), .ref (a 7), .ref (a 8), .long (zL (hs))]))]) (va_Qv (fun _ => True) (fun (u : Unit) t => va_P D vwCl [(m0, .inr (7, [.ref (a 0), .ref (a 1), .int (zI (ke)), .int (zI (th)), .ref (a 2), .ref (a 3), .ref (a 4), .ref (a 5), .ref (a 6), .ref (a 7), .ref (a 8), .long (zL (31 * hs + v))]))] t.heap) (zAd [(m0, .inr (7, [.ref (a 0), .ref (a 1), .int (zI (ke)), .int (zI (th)), .ref (a 2), .ref (a 3), .ref (a 4), .ref (a 5), .ref (a 6), .ref (a 7), .ref (a 8), .long (zL (hs))]))])) 0 0 (zAd [(m0, .inr (7, [.ref (a 0), .ref (a 1), .int (zI (ke)), .int (zI (th)), .ref (a 2), .ref (a 3), .ref (a 4), .ref (a 5), .ref (a 6), .ref (a 7), .ref (a 8), .long (zL (hs))]))]) := by
  refine zWv_of (cc := cX7_mix) (maxL := 3) (ret := none) (by decide) rfl (Nat.le_of_ble_eq_true rfl) rfl ?_
  intro p e s m args below meth c Q A ls hx hb hml hts hown hK hP hD hS hl hret
  have in7 : ∀ w ∈ wsX70, w ∈ wsX7_mix := by decide +kernel
  have f139 := hts (.fieldLink RX7 139 "SignalSpacingModel" "hash" "J") (by decide +kernel)
  have c137 := hts (.constantLong RX7 137 (31)) (by decide +kernel)
  have hl : lv_has ls 3 [(0, .ref m0), (1, .long (zL (v)))] := hl
  have hP : va_P D vwCl [(m0, .inr (7, [.ref (a 0), .ref (a 1), .int (zI (ke)), .int (zI (th)), .ref (a 2), .ref (a 3), .ref (a 4), .ref (a 5), .ref (a 6), .ref (a 7), .ref (a 8), .long (zL (hs))]))] s.heap := hP
  refine lv_aload_n hx hb dX7_mix_0 rfl (lv_at hl 0 rfl) ?_
  refine z_ldc2 hx hb (31) hown c137 (by decide +kernel) dX7_mix_1 ?_
  refine lv_aload_n hx hb dX7_mix_4 rfl (lv_at hl 0 rfl) ?_
  refine va_get (D := D) (ci := 7) (v := .long (zL (hs))) (C := RX7) (T := TX7) (N := 12) hx hb hts in7 hown hK hP 0 rfl rfl 11 (by decide) f139 (fun _ h9 => h9) rfl dX7_mix_5 ?_
  refine z_lmul hx hb dX7_mix_8 ?_
  refine lv_lload_n hx hb dX7_mix_9 rfl (lv_at hl 1 rfl) ?_
  refine z_ladd hx hb dX7_mix_10 ?_
  refine z_put (ci := 7) (v := .long (zL ((31 * hs) + v))) (ty := .long) (C := RX7) (F := TX7) (N := 12) hx hb hts in7 tyX7 tyX7_ok nmX7 hown hK hP hD hS 0 [(m0, .inr (7, [.ref (a 0), .ref (a 1), .int (zI (ke)), .int (zI (th)), .ref (a 2), .ref (a 3), .ref (a 4), .ref (a 5), .ref (a 6), .ref (a 7), .ref (a 8), .long (zL ((31 * hs) + v))]))] rfl rfl 11 (by decide) f139 (fun _ h9 => h9) rfl (by decide +kernel) rfl rfl (Nat.le_of_ble_eq_true rfl) dX7_mix_11 rfl (fun H locs hP hS => ?_)
  exact hret () trivial hP hS dX7_mix_14

abbrev rmX7_digest : Room := { frames := 4, cells := 0, slots := 0, locals := 96 }
theorem jX7_digest : yX7_digest.cls = RX7 ∧ yX7_digest.cls ≠ "java/lang/invoke/MethodHandle" ∧ yX7_digest.cls ≠ "java/lang/invoke/VarHandle" ∧ (parseMethodDescriptor yX7_digest.desc).map (fun d => d.parameters.length) = some 0 := by decide +kernel
set_option maxHeartbeats 4000000 in
set_option maxRecDepth 100000 in
theorem kX7_digest (l : Launch) (D : va_G) (cI cJ cS : ClassId) (m0 : Nat) (a : Nat → Nat) (ke th hs : Int) (f : Int → Int) (ge gv gd gt gr gf : Int → Int) (ok : OkF f) (hke : 0 ≤ ke ∧ ke ≤ 4) : Met l yX7_digest wsX7_digest rmX7_digest (zPc D (zT cI cJ cS) [.ref m0] [(m0, .inr (7, [.ref (a 0), .ref (a 1), .int (zI (ke)), .int (zI (th)), .ref (a 2), .ref (a 3), .ref (a 4), .ref (a 5), .ref (a 6), .ref (a 7), .ref (a 8), .long (zL (hs))])), (a 0, .inl (cI, 612, .inl (zA f))), (a 2, .inl (cJ, 121, .inr (.inl (zAL ge)))), (a 3, .inl (cI, 121, .inl (zA gv))), (a 4, .inl (cI, 121, .inl (zA gd))), (a 5, .inl (cI, 121, .inl (zA gt))), (a 6, .inl (cI, 121, .inl (zA gr))), (a 7, .inl (cI, 605, .inl (zA gf)))]) (va_Ql (fun r _ => r = zL (DG f ke)) (fun (u : Nat → Int → Int) t => va_P D vwCl [(m0, .inr (7, [.ref (a 0), .ref (a 1), .int (zI (ke)), .int (zI (0)), .ref (a 2), .ref (a 3), .ref (a 4), .ref (a 5), .ref (a 6), .ref (a 7), .ref (a 8), .long (zL (DG f ke))])), (a 0, .inl (cI, 612, .inl (zA f))), (a 2, .inl (cJ, 121, .inr (.inl (zAL (u 0))))), (a 3, .inl (cI, 121, .inl (zA (u 1)))), (a 4, .inl (cI, 121, .inl (zA (u 2)))), (a 5, .inl (cI, 121, .inl (zA (u 3)))), (a 6, .inl (cI, 121, .inl (zA (u 4)))), (a 7, .inl (cI, 605, .inl (zA (u 5))))] t.heap) (zAd [(m0, .inr (7, [.ref (a 0), .ref (a 1), .int (zI (ke)), .int (zI (th)), .ref (a 2), .ref (a 3), .ref (a 4), .ref (a 5), .ref (a 6), .ref (a 7), .ref (a 8), .long (zL (hs))])), (a 0, .inl (cI, 612, .inl (zA f))), (a 2, .inl (cJ, 121, .inr (.inl (zAL ge)))), (a 3, .inl (cI, 121, .inl (zA gv))), (a 4, .inl (cI, 121, .inl (zA gd))), (a 5, .inl (cI, 121, .inl (zA gt))), (a 6, .inl (cI, 121, .inl (zA gr))), (a 7, .inl (cI, 605, .inl (zA gf)))])) 0 0 (zAd [(m0, .inr (7, [.ref (a 0), .ref (a 1), .int (zI (ke)), .int (zI (th)), .ref (a 2), .ref (a 3), .ref (a 4), .ref (a 5), .ref (a 6), .ref (a 7), .ref (a 8), .long (zL (hs))])), (a 0, .inl (cI, 612, .inl (zA f))), (a 2, .inl (cJ, 121, .inr (.inl (zAL ge)))), (a 3, .inl (cI, 121, .inl (zA gv))), (a 4, .inl (cI, 121, .inl (zA gd))), (a 5, .inl (cI, 121, .inl (zA gt))), (a 6, .inl (cI, 121, .inl (zA gr))), (a 7, .inl (cI, 605, .inl (zA gf)))]) := by
  refine zWl_of (cc := cX7_digest) (maxL := 4) (ret := (some .long)) (by decide) rfl (Nat.le_of_ble_eq_true rfl) rfl ?_
  intro p e s m args below meth c Q A ls hx hb hml hts hown hK hP hD hS hl hret
  have in7 : ∀ w ∈ wsX70, w ∈ wsX7_digest := by decide +kernel
  have f7 := hts (.fieldLink RX7 7 "SignalSpacingModel" "now" "[I") (by decide +kernel)
  have f16 := hts (.fieldLink RX7 16 "SignalSpacingModel" "energies" "[J") (by decide +kernel)
  have f23 := hts (.fieldLink RX7 23 "SignalSpacingModel" "distances" "[I") (by decide +kernel)
  have f26 := hts (.fieldLink RX7 26 "SignalSpacingModel" "times" "[I") (by decide +kernel)
  have f29 := hts (.fieldLink RX7 29 "SignalSpacingModel" "row" "[I") (by decide +kernel)
  have f32 := hts (.fieldLink RX7 32 "SignalSpacingModel" "found" "[I") (by decide +kernel)
  have f41 := hts (.fieldLink RX7 41 "SignalSpacingModel" "thrown" "I") (by decide +kernel)
  have f45 := hts (.fieldLink RX7 45 "SignalSpacingModel" "kept" "I") (by decide +kernel)
  have f139 := hts (.fieldLink RX7 139 "SignalSpacingModel" "hash" "J") (by decide +kernel)
  have c143 := hts (.constantLong RX7 143 (12211)) (by decide +kernel)
  have hl : lv_has ls 4 [(0, .ref m0)] := hl
  have hP : va_P D vwCl [(m0, .inr (7, [.ref (a 0), .ref (a 1), .int (zI (ke)), .int (zI (th)), .ref (a 2), .ref (a 3), .ref (a 4), .ref (a 5), .ref (a 6), .ref (a 7), .ref (a 8), .long (zL (hs))])), (a 0, .inl (cI, 612, .inl (zA f))), (a 2, .inl (cJ, 121, .inr (.inl (zAL ge)))), (a 3, .inl (cI, 121, .inl (zA gv))), (a 4, .inl (cI, 121, .inl (zA gd))), (a 5, .inl (cI, 121, .inl (zA gt))), (a 6, .inl (cI, 121, .inl (zA gr))), (a 7, .inl (cI, 605, .inl (zA gf)))] s.heap := hP
  obtain ⟨o0, o1, o2, o3, o4, o5, o7, o8, olim, ogrd, obar, oneed, opost⟩ := id ok
  have hfr := okF_r ok
  have hr9 := rank_b ok (x := f 0 + 1) (by omega) (by omega)
  have hvl := VIO_len ok
  have hwb := HW_b ok
  refine lv_aload_n hx hb dX7_digest_0 rfl (lv_at hl 0 rfl) ?_
  refine z_iconst hx hb dX7_digest_1 ?_
  refine z_put (ci := 7) (v := .int (zI (0))) (ty := .int) (C := RX7) (F := TX7) (N := 12) hx hb hts in7 tyX7 tyX7_ok nmX7 hown hK hP hD hS 0 [(m0, .inr (7, [.ref (a 0), .ref (a 1), .int (zI (ke)), .int (zI (0)), .ref (a 2), .ref (a 3), .ref (a 4), .ref (a 5), .ref (a 6), .ref (a 7), .ref (a 8), .long (zL (hs))])), (a 0, .inl (cI, 612, .inl (zA f))), (a 2, .inl (cJ, 121, .inr (.inl (zAL ge)))), (a 3, .inl (cI, 121, .inl (zA gv))), (a 4, .inl (cI, 121, .inl (zA gd))), (a 5, .inl (cI, 121, .inl (zA gt))), (a 6, .inl (cI, 121, .inl (zA gr))), (a 7, .inl (cI, 605, .inl (zA gf)))] rfl rfl 3 (by decide) f41 (fun _ h9 => h9) rfl (by decide +kernel) rfl rfl (Nat.le_of_ble_eq_true rfl) dX7_digest_2 rfl (fun H locs hP hS => ?_)
  refine lv_aload_n hx hb dX7_digest_5 rfl (lv_at hl 0 rfl) ?_
  refine z_ldc2 hx hb (12211) hown c143 (by decide +kernel) dX7_digest_6 ?_
  refine z_put (ci := 7) (v := .long (zL (12211))) (ty := .long) (C := RX7) (F := TX7) (N := 12) hx hb hts in7 tyX7 tyX7_ok nmX7 hown hK hP (zD hD rfl) hS 0 [(m0, .inr (7, [.ref (a 0), .ref (a 1), .int (zI (ke)), .int (zI (0)), .ref (a 2), .ref (a 3), .ref (a 4), .ref (a 5), .ref (a 6), .ref (a 7), .ref (a 8), .long (zL (12211))])), (a 0, .inl (cI, 612, .inl (zA f))), (a 2, .inl (cJ, 121, .inr (.inl (zAL ge)))), (a 3, .inl (cI, 121, .inl (zA gv))), (a 4, .inl (cI, 121, .inl (zA gd))), (a 5, .inl (cI, 121, .inl (zA gt))), (a 6, .inl (cI, 121, .inl (zA gr))), (a 7, .inl (cI, 605, .inl (zA gf)))] rfl rfl 11 (by decide) f139 (fun _ h9 => h9) rfl (by decide +kernel) rfl rfl (Nat.le_of_ble_eq_true rfl) dX7_digest_9 rfl (fun H locs hP hS => ?_)
  refine lv_aload_n hx hb dX7_digest_12 rfl (lv_at hl 0 rfl) ?_
  refine lv_aload_n hx hb dX7_digest_13 rfl (lv_at hl 0 rfl) ?_
  refine va_get (D := D) (ci := 7) (v := .int (zI (ke))) (C := RX7) (T := TX7) (N := 12) hx hb hts in7 hown hK hP 0 rfl rfl 2 (by decide) f45 (fun _ h9 => h9) rfl dX7_digest_14 ?_
  refine z_i2l hx hb dX7_digest_17 (by omega) ?_
  refine y_wVv (As := [.long (zL (ke))]) (rest := []) (fun (u18 : Unit) => [(m0, .inr (7, [.ref (a 0), .ref (a 1), .int (zI (ke)), .int (zI (0)), .ref (a 2), .ref (a 3), .ref (a 4), .ref (a 5), .ref (a 6), .ref (a 7), .ref (a 8), .long (zL (31 * 12211 + ke))])), (a 0, .inl (cI, 612, .inl (zA f))), (a 2, .inl (cJ, 121, .inr (.inl (zAL ge)))), (a 3, .inl (cI, 121, .inl (zA gv))), (a 4, .inl (cI, 121, .inl (zA gd))), (a 5, .inl (cI, 121, .inl (zA gt))), (a 6, .inl (cI, 121, .inl (zA gr))), (a 7, .inl (cI, 605, .inl (zA gf)))]) hx hb hml hown hts hl.1 ⟨Nat.zero_le _, Nat.zero_le _⟩ (kX7_mix l D cI cJ cS m0 a ke 0 12211 ke) (cwV 1 hts gX7_digest_X7_mix rfl rfl rfl jX7_mix ⟨Nat.le_of_ble_eq_true rfl, Nat.le_of_ble_eq_true rfl⟩) hK [true] hP (zD hD rfl) hS rfl (fun _ => rfl) (fun _ => rfl) 7 0 rfl rfl rfl rfl rfl (Nat.le_of_ble_eq_true rfl) dX7_digest_18 (fun u18 H locs hu18 hP hS => ?_)
  refine z_iconst hx hb dX7_digest_21 ?_
  refine lv_istore_n (lv' := [(1, .int (zI (0))), (0, .ref m0)]) hx hb dX7_digest_22 rfl hl (by decide) rfl (fun ls hl => ?_)
  have L23 : ∀ (fuel : Nat), ∀ (k : Int) (h : Int), ∀ (hk : 0 ≤ k ∧ k ≤ 9), ∀ (hh : h = mxr f (31 * 12211 + ke) k), (9 - k).toNat < fuel → ∀ (H : Heap) (locs : List Loc), va_P D vwCl [(m0, .inr (7, [.ref (a 0), .ref (a 1), .int (zI (ke)), .int (zI (0)), .ref (a 2), .ref (a 3), .ref (a 4), .ref (a 5), .ref (a 6), .ref (a 7), .ref (a 8), .long (zL (h))])), (a 0, .inl (cI, 612, .inl (zA f))), (a 2, .inl (cJ, 121, .inr (.inl (zAL ge)))), (a 3, .inl (cI, 121, .inl (zA gv))), (a 4, .inl (cI, 121, .inl (zA gd))), (a 5, .inl (cI, 121, .inl (zA gt))), (a 6, .inl (cI, 121, .inl (zA gr))), (a 7, .inl (cI, 605, .inl (zA gf)))] H → va_S A s.heap H locs → ∀ (ls : Array Slot), lv_has ls 4 [(0, .ref m0), (1, .int (zI (k)))] → W p l e rmX7_digest s m args below meth c H locs 0 0 Q (F0 m 23 ls []) := by
    intro fuel
    induction fuel with
    | zero =>
      intro k h hk hh hm
      exact absurd hm (Nat.not_lt_zero _)
    | succ fuel ih23 =>
      intro k h hk hh hm H locs hP hS ls hl
      have hfk := hfr k hk.1 (by omega)
      refine lv_iload_n hx hb dX7_digest_23 rfl (lv_at hl 1 rfl) ?_
      refine z_bipush hx hb dX7_digest_24 (by decide +kernel) ?_
      refine z_icmp_gt (tgt := 46) hx hb dX7_digest_26 (by decide) (by omega) (by omega) (fun c26 => ?_) (fun c26 => ?_)
      · refine z_iconst hx hb dX7_digest_46 ?_
        refine lv_istore_n (lv' := [(1, .int (zI (0))), (0, .ref m0)]) hx hb dX7_digest_47 rfl hl (by decide) rfl (fun ls hl => ?_)
        have L48 : ∀ (fuel : Nat), ∀ (k2 : Int) (h2 : Int), ∀ (hk2 : 0 ≤ k2 ∧ k2 ≤ f 0), ∀ (hh2 : h2 = mx2 (fun x => f (9 + x)) (fun x => f (129 + x)) (dg1 f ke) k2), (f 0 - k2).toNat < fuel → ∀ (H : Heap) (locs : List Loc), va_P D vwCl [(m0, .inr (7, [.ref (a 0), .ref (a 1), .int (zI (ke)), .int (zI (0)), .ref (a 2), .ref (a 3), .ref (a 4), .ref (a 5), .ref (a 6), .ref (a 7), .ref (a 8), .long (zL (h2))])), (a 0, .inl (cI, 612, .inl (zA f))), (a 2, .inl (cJ, 121, .inr (.inl (zAL ge)))), (a 3, .inl (cI, 121, .inl (zA gv))), (a 4, .inl (cI, 121, .inl (zA gd))), (a 5, .inl (cI, 121, .inl (zA gt))), (a 6, .inl (cI, 121, .inl (zA gr))), (a 7, .inl (cI, 605, .inl (zA gf)))] H → va_S A s.heap H locs → ∀ (ls : Array Slot), lv_has ls 4 [(0, .ref m0), (1, .int (zI (k2)))] → W p l e rmX7_digest s m args below meth c H locs 0 0 Q (F0 m 48 ls []) := by
          intro fuel
          induction fuel with
          | zero =>
            intro k2 h2 hk2 hh2 hm
            exact absurd hm (Nat.not_lt_zero _)
          | succ fuel ih48 =>
            intro k2 h2 hk2 hh2 hm H locs hP hS ls hl
            refine lv_iload_n hx hb dX7_digest_48 rfl (lv_at hl 1 rfl) ?_
            refine lv_aload_n hx hb dX7_digest_49 rfl (lv_at hl 0 rfl) ?_
            refine va_get (D := D) (ci := 7) (v := .ref (a 0)) (C := RX7) (T := TX7) (N := 12) hx hb hts in7 hown hK hP 0 rfl rfl 0 (by decide) f7 (fun _ h9 => h9) rfl dX7_digest_50 ?_
            refine z_iconst hx hb dX7_digest_53 ?_
            refine z_iald hx hb hK hP 1 0 rfl rfl (by omega) (Nat.lt_of_succ_le (Nat.le_of_ble_eq_true rfl)) dX7_digest_54 ?_
            refine z_icmp_ge (tgt := 93) hx hb dX7_digest_55 (by decide) (by omega) (by omega) (fun c55 => ?_) (fun c55 => ?_)
            · refine lv_aload_n hx hb dX7_digest_93 rfl (lv_at hl 0 rfl) ?_
              refine y_wVv (As := []) (rest := []) (fun (u94 : Nat → Int → Int) => [(m0, .inr (7, [.ref (a 0), .ref (a 1), .int (zI (ke)), .int (zI (0)), .ref (a 2), .ref (a 3), .ref (a 4), .ref (a 5), .ref (a 6), .ref (a 7), .ref (a 8), .long (zL (h2))])), (a 0, .inl (cI, 612, .inl (zA f))), (a 2, .inl (cJ, 121, .inr (.inl (zAL (u94 0))))), (a 3, .inl (cI, 121, .inl (zA (u94 1)))), (a 4, .inl (cI, 121, .inl (zA (u94 2)))), (a 5, .inl (cI, 121, .inl (zA (u94 3)))), (a 6, .inl (cI, 121, .inl (zA gr))), (a 7, .inl (cI, 605, .inl (zA gf)))]) hx hb hml hown hts hl.1 ⟨Nat.zero_le _, Nat.zero_le _⟩ (kX7_lays l D cI cJ cS m0 a ke 0 h2 f ge gv gd gt ok) (cwV 0 hts gX7_digest_X7_lays rfl rfl rfl jX7_lays ⟨Nat.le_of_ble_eq_true rfl, Nat.le_of_ble_eq_true rfl⟩) hK [true, true, true, true, true, true] hP (zD hD rfl) hS rfl (fun _ => rfl) (fun _ => rfl) 7 0 rfl rfl rfl rfl rfl (Nat.le_of_ble_eq_true rfl) dX7_digest_94 (fun u94 H locs hu94 hP hS => ?_)
              refine z_iconst hx hb dX7_digest_97 ?_
              refine lv_istore_n (lv' := [(1, .int (zI (0))), (0, .ref m0)]) hx hb dX7_digest_98 rfl hl (by decide) rfl (fun ls hl => ?_)
              have L99 : ∀ (fuel : Nat), ∀ (k3 : Int) (h3 : Int), ∀ (hk3 : 0 ≤ k3 ∧ k3 ≤ f 0 + 1), ∀ (hh3 : h3 = mx4 (fun x => f (249 + x)) (fun x => f (370 + x)) (enE f) (brD f) (dg2 f (dg1 f ke)) k3), (f 0 + 1 - k3).toNat < fuel → ∀ (H : Heap) (locs : List Loc), va_P D vwCl [(m0, .inr (7, [.ref (a 0), .ref (a 1), .int (zI (ke)), .int (zI (0)), .ref (a 2), .ref (a 3), .ref (a 4), .ref (a 5), .ref (a 6), .ref (a 7), .ref (a 8), .long (zL (h3))])), (a 0, .inl (cI, 612, .inl (zA f))), (a 2, .inl (cJ, 121, .inr (.inl (zAL (u94 0))))), (a 3, .inl (cI, 121, .inl (zA (u94 1)))), (a 4, .inl (cI, 121, .inl (zA (u94 2)))), (a 5, .inl (cI, 121, .inl (zA (u94 3)))), (a 6, .inl (cI, 121, .inl (zA gr))), (a 7, .inl (cI, 605, .inl (zA gf)))] H → va_S A s.heap H locs → ∀ (ls : Array Slot), lv_has ls 4 [(0, .ref m0), (1, .int (zI (k3)))] → W p l e rmX7_digest s m args below meth c H locs 0 0 Q (F0 m 99 ls []) := by
                intro fuel
                induction fuel with
                | zero =>
                  intro k3 h3 hk3 hh3 hm
                  exact absurd hm (Nat.not_lt_zero _)
                | succ fuel ih99 =>
                  intro k3 h3 hk3 hh3 hm H locs hP hS ls hl
                  refine lv_iload_n hx hb dX7_digest_99 rfl (lv_at hl 1 rfl) ?_
                  refine lv_aload_n hx hb dX7_digest_100 rfl (lv_at hl 0 rfl) ?_
                  refine va_get (D := D) (ci := 7) (v := .ref (a 0)) (C := RX7) (T := TX7) (N := 12) hx hb hts in7 hown hK hP 0 rfl rfl 0 (by decide) f7 (fun _ h9 => h9) rfl dX7_digest_101 ?_
                  refine z_iconst hx hb dX7_digest_104 ?_
                  refine z_iald hx hb hK hP 1 0 rfl rfl (by omega) (Nat.lt_of_succ_le (Nat.le_of_ble_eq_true rfl)) dX7_digest_105 ?_
                  refine z_icmp_gt (tgt := 166) hx hb dX7_digest_106 (by decide) (by omega) (by omega) (fun c106 => ?_) (fun c106 => ?_)
                  · refine lv_aload_n hx hb dX7_digest_166 rfl (lv_at hl 0 rfl) ?_
                    refine y_wVi (As := []) (rest := []) (fun (u167 : Int → Int) => [(m0, .inr (7, [.ref (a 0), .ref (a 1), .int (zI (ke)), .int (zI (0)), .ref (a 2), .ref (a 3), .ref (a 4), .ref (a 5), .ref (a 6), .ref (a 7), .ref (a 8), .long (zL (h3))])), (a 0, .inl (cI, 612, .inl (zA f))), (a 2, .inl (cJ, 121, .inr (.inl (zAL (u94 0))))), (a 3, .inl (cI, 121, .inl (zA (u94 1)))), (a 4, .inl (cI, 121, .inl (zA (u94 2)))), (a 5, .inl (cI, 121, .inl (zA (u94 3)))), (a 6, .inl (cI, 121, .inl (zA u167))), (a 7, .inl (cI, 605, .inl (zA gf)))]) hx hb hml hown hts hl.1 ⟨Nat.zero_le _, Nat.zero_le _⟩ (kX7_layRow l D cI cJ cS m0 a ke 0 h3 f gr ok) (cwV 0 hts gX7_digest_X7_layRow rfl rfl rfl jX7_layRow ⟨Nat.le_of_ble_eq_true rfl, Nat.le_of_ble_eq_true rfl⟩) hK [true, true, false, false, false, false, true] hP (zD hD rfl) hS rfl (fun _ => rfl) (fun _ => rfl) 7 0 rfl rfl rfl rfl rfl (Nat.le_of_ble_eq_true rfl) dX7_digest_167 (fun r167 u167 H locs hu167 hP hS => ?_)
                    obtain ⟨rfl, hu167⟩ := hu167
                    refine lv_istore_n (lv' := [(1, .int (zI (rank f (f 0 + 1)))), (0, .ref m0)]) hx hb dX7_digest_170 rfl hl (by decide) rfl (fun ls hl => ?_)
                    refine lv_aload_n hx hb dX7_digest_171 rfl (lv_at hl 1 rfl) ?_
                    refine lv_iload_n hx hb dX7_digest_172 rfl (lv_at hl 0 rfl) ?_
                    refine z_i2l hx hb dX7_digest_173 (by omega) ?_
                    refine y_wVv (As := [.long (zL (rank f (f 0 + 1)))]) (rest := []) (fun (u174 : Unit) => [(m0, .inr (7, [.ref (a 0), .ref (a 1), .int (zI (ke)), .int (zI (0)), .ref (a 2), .ref (a 3), .ref (a 4), .ref (a 5), .ref (a 6), .ref (a 7), .ref (a 8), .long (zL (31 * h3 + (rank f (f 0 + 1))))])), (a 0, .inl (cI, 612, .inl (zA f))), (a 2, .inl (cJ, 121, .inr (.inl (zAL (u94 0))))), (a 3, .inl (cI, 121, .inl (zA (u94 1)))), (a 4, .inl (cI, 121, .inl (zA (u94 2)))), (a 5, .inl (cI, 121, .inl (zA (u94 3)))), (a 6, .inl (cI, 121, .inl (zA u167))), (a 7, .inl (cI, 605, .inl (zA gf)))]) hx hb hml hown hts hl.1 ⟨Nat.zero_le _, Nat.zero_le _⟩ (kX7_mix l D cI cJ cS m0 a ke 0 h3 (rank f (f 0 + 1))) (cwV 1 hts gX7_digest_X7_mix rfl rfl rfl jX7_mix ⟨Nat.le_of_ble_eq_true rfl, Nat.le_of_ble_eq_true rfl⟩) hK [true] hP (zD hD rfl) hS rfl (fun _ => rfl) (fun _ => rfl) 7 0 rfl rfl rfl rfl rfl (Nat.le_of_ble_eq_true rfl) dX7_digest_174 (fun u174 H locs hu174 hP hS => ?_)
                    refine z_iconst hx hb dX7_digest_177 ?_
                    refine lv_istore_n (lv' := [(2, .int (zI (0))), (1, .int (zI (rank f (f 0 + 1)))), (0, .ref m0)]) hx hb dX7_digest_178 rfl hl (by decide) rfl (fun ls hl => ?_)
                    have L179 : ∀ (fuel : Nat), ∀ (k4 : Int) (h4 : Int), ∀ (hk4 : 0 ≤ k4 ∧ k4 ≤ rank f (f 0 + 1)), ∀ (hh4 : h4 = mxr (pst f) (31 * dg3 f (dg2 f (dg1 f ke)) + rank f (f 0 + 1)) k4), (rank f (f 0 + 1) - k4).toNat < fuel → ∀ (H : Heap) (locs : List Loc), va_P D vwCl [(m0, .inr (7, [.ref (a 0), .ref (a 1), .int (zI (ke)), .int (zI (0)), .ref (a 2), .ref (a 3), .ref (a 4), .ref (a 5), .ref (a 6), .ref (a 7), .ref (a 8), .long (zL (h4))])), (a 0, .inl (cI, 612, .inl (zA f))), (a 2, .inl (cJ, 121, .inr (.inl (zAL (u94 0))))), (a 3, .inl (cI, 121, .inl (zA (u94 1)))), (a 4, .inl (cI, 121, .inl (zA (u94 2)))), (a 5, .inl (cI, 121, .inl (zA (u94 3)))), (a 6, .inl (cI, 121, .inl (zA u167))), (a 7, .inl (cI, 605, .inl (zA gf)))] H → va_S A s.heap H locs → ∀ (ls : Array Slot), lv_has ls 4 [(0, .ref m0), (1, .int (zI (rank f (f 0 + 1)))), (2, .int (zI (k4)))] → W p l e rmX7_digest s m args below meth c H locs 0 0 Q (F0 m 179 ls []) := by
                      intro fuel
                      induction fuel with
                      | zero =>
                        intro k4 h4 hk4 hh4 hm
                        exact absurd hm (Nat.not_lt_zero _)
                      | succ fuel ih179 =>
                        intro k4 h4 hk4 hh4 hm H locs hP hS ls hl
                        refine lv_iload_n hx hb dX7_digest_179 rfl (lv_at hl 2 rfl) ?_
                        refine lv_iload_n hx hb dX7_digest_180 rfl (lv_at hl 1 rfl) ?_
                        refine z_icmp_ge (tgt := 201) hx hb dX7_digest_181 (by decide) (by omega) (by omega) (fun c181 => ?_) (fun c181 => ?_)
                        · refine lv_aload_n hx hb dX7_digest_201 rfl (lv_at hl 0 rfl) ?_
                          refine y_wVi (As := []) (rest := []) (fun (u202 : Nat → Int → Int) => [(m0, .inr (7, [.ref (a 0), .ref (a 1), .int (zI (ke)), .int (zI (0)), .ref (a 2), .ref (a 3), .ref (a 4), .ref (a 5), .ref (a 6), .ref (a 7), .ref (a 8), .long (zL (h4))])), (a 0, .inl (cI, 612, .inl (zA f))), (a 2, .inl (cJ, 121, .inr (.inl (zAL (u202 0))))), (a 3, .inl (cI, 121, .inl (zA (u202 1)))), (a 4, .inl (cI, 121, .inl (zA (u202 2)))), (a 5, .inl (cI, 121, .inl (zA (u202 3)))), (a 6, .inl (cI, 121, .inl (zA (u202 4)))), (a 7, .inl (cI, 605, .inl (zA (u202 5))))]) hx hb hml hown hts hl.1 ⟨Nat.zero_le _, Nat.zero_le _⟩ (kX7_findViolations l D cI cJ cS m0 a ke 0 h4 f (u94 0) (u94 1) (u94 2) (u94 3) u167 gf ok) (cwV 0 hts gX7_digest_X7_findViolations rfl rfl rfl jX7_findViolations ⟨Nat.le_of_ble_eq_true rfl, Nat.le_of_ble_eq_true rfl⟩) hK [true, true, true, true, true, true, true, true] hP (zD hD rfl) hS rfl (fun _ => rfl) (fun _ => rfl) 7 0 rfl rfl rfl rfl rfl (Nat.le_of_ble_eq_true rfl) dX7_digest_202 (fun r202 u202 H locs hu202 hP hS => ?_)
                          obtain ⟨rfl, hu202⟩ := hu202
                          refine lv_istore_n (lv' := [(2, .int (zI (((VIO f).length : Int)))), (0, .ref m0), (1, .int (zI (rank f (f 0 + 1))))]) hx hb dX7_digest_205 rfl hl (by decide) rfl (fun ls hl => ?_)
                          refine lv_aload_n hx hb dX7_digest_206 rfl (lv_at hl 1 rfl) ?_
                          refine lv_iload_n hx hb dX7_digest_207 rfl (lv_at hl 0 rfl) ?_
                          refine z_i2l hx hb dX7_digest_208 (by omega) ?_
                          refine y_wVv (As := [.long (zL (((VIO f).length : Int)))]) (rest := []) (fun (u209 : Unit) => [(m0, .inr (7, [.ref (a 0), .ref (a 1), .int (zI (ke)), .int (zI (0)), .ref (a 2), .ref (a 3), .ref (a 4), .ref (a 5), .ref (a 6), .ref (a 7), .ref (a 8), .long (zL (31 * h4 + ((VIO f).length : Int)))])), (a 0, .inl (cI, 612, .inl (zA f))), (a 2, .inl (cJ, 121, .inr (.inl (zAL (u202 0))))), (a 3, .inl (cI, 121, .inl (zA (u202 1)))), (a 4, .inl (cI, 121, .inl (zA (u202 2)))), (a 5, .inl (cI, 121, .inl (zA (u202 3)))), (a 6, .inl (cI, 121, .inl (zA (u202 4)))), (a 7, .inl (cI, 605, .inl (zA (u202 5))))]) hx hb hml hown hts hl.1 ⟨Nat.zero_le _, Nat.zero_le _⟩ (kX7_mix l D cI cJ cS m0 a ke 0 h4 ((VIO f).length : Int)) (cwV 1 hts gX7_digest_X7_mix rfl rfl rfl jX7_mix ⟨Nat.le_of_ble_eq_true rfl, Nat.le_of_ble_eq_true rfl⟩) hK [true] hP (zD hD rfl) hS rfl (fun _ => rfl) (fun _ => rfl) 7 0 rfl rfl rfl rfl rfl (Nat.le_of_ble_eq_true rfl) dX7_digest_209 (fun u209 H locs hu209 hP hS => ?_)
                          refine z_iconst hx hb dX7_digest_212 ?_
                          refine lv_istore_n (lv' := [(3, .int (zI (0))), (2, .int (zI (((VIO f).length : Int)))), (0, .ref m0), (1, .int (zI (rank f (f 0 + 1))))]) hx hb dX7_digest_213 rfl hl (by decide) rfl (fun ls hl => ?_)
                          have L214 : ∀ (fuel : Nat), ∀ (k5 : Int) (h5 : Int), ∀ (hk5 : 0 ≤ k5 ∧ k5 ≤ ((VIO f).length : Int)), ∀ (hh5 : h5 = mxr (VV f) (31 * dg4 f (dg3 f (dg2 f (dg1 f ke))) + ((VIO f).length : Int)) k5), (((VIO f).length : Int) - k5).toNat < fuel → ∀ (H : Heap) (locs : List Loc), va_P D vwCl [(m0, .inr (7, [.ref (a 0), .ref (a 1), .int (zI (ke)), .int (zI (0)), .ref (a 2), .ref (a 3), .ref (a 4), .ref (a 5), .ref (a 6), .ref (a 7), .ref (a 8), .long (zL (h5))])), (a 0, .inl (cI, 612, .inl (zA f))), (a 2, .inl (cJ, 121, .inr (.inl (zAL (u202 0))))), (a 3, .inl (cI, 121, .inl (zA (u202 1)))), (a 4, .inl (cI, 121, .inl (zA (u202 2)))), (a 5, .inl (cI, 121, .inl (zA (u202 3)))), (a 6, .inl (cI, 121, .inl (zA (u202 4)))), (a 7, .inl (cI, 605, .inl (zA (u202 5))))] H → va_S A s.heap H locs → ∀ (ls : Array Slot), lv_has ls 4 [(0, .ref m0), (1, .int (zI (rank f (f 0 + 1)))), (2, .int (zI (((VIO f).length : Int)))), (3, .int (zI (k5)))] → W p l e rmX7_digest s m args below meth c H locs 0 0 Q (F0 m 214 ls []) := by
                            intro fuel
                            induction fuel with
                            | zero =>
                              intro k5 h5 hk5 hh5 hm
                              exact absurd hm (Nat.not_lt_zero _)
                            | succ fuel ih214 =>
                              intro k5 h5 hk5 hh5 hm H locs hP hS ls hl
                              refine lv_iload_n hx hb dX7_digest_214 rfl (lv_at hl 3 rfl) ?_
                              refine lv_iload_n hx hb dX7_digest_215 rfl (lv_at hl 2 rfl) ?_
                              refine z_icmp_ge (tgt := 236) hx hb dX7_digest_216 (by decide) (by omega) (by omega) (fun c216 => ?_) (fun c216 => ?_)
                              · refine lv_aload_n hx hb dX7_digest_236 rfl (lv_at hl 0 rfl) ?_
                                refine lv_aload_n hx hb dX7_digest_237 rfl (lv_at hl 0 rfl) ?_
                                refine y_wVi (As := []) (rest := [.ref m0]) (fun (u238 : Nat → Int → Int) => [(m0, .inr (7, [.ref (a 0), .ref (a 1), .int (zI (ke)), .int (zI (0)), .ref (a 2), .ref (a 3), .ref (a 4), .ref (a 5), .ref (a 6), .ref (a 7), .ref (a 8), .long (zL (h5))])), (a 0, .inl (cI, 612, .inl (zA f))), (a 2, .inl (cJ, 121, .inr (.inl (zAL (u238 0))))), (a 3, .inl (cI, 121, .inl (zA (u238 1)))), (a 4, .inl (cI, 121, .inl (zA (u238 2)))), (a 5, .inl (cI, 121, .inl (zA (u238 3)))), (a 6, .inl (cI, 121, .inl (zA (u238 4)))), (a 7, .inl (cI, 605, .inl (zA (u202 5))))]) hx hb hml hown hts hl.1 ⟨Nat.zero_le _, Nat.zero_le _⟩ (kX7_headwayNow l D cI cJ cS m0 a ke 0 h5 f (u202 0) (u202 1) (u202 2) (u202 3) (u202 4) ok) (cwV 0 hts gX7_digest_X7_headwayNow rfl rfl rfl jX7_headwayNow ⟨Nat.le_of_ble_eq_true rfl, Nat.le_of_ble_eq_true rfl⟩) hK [true, true, true, true, true, true, true] hP (zD hD rfl) hS rfl (fun _ => rfl) (fun _ => rfl) 7 0 rfl rfl rfl rfl rfl (Nat.le_of_ble_eq_true rfl) dX7_digest_238 (fun r238 u238 H locs hu238 hP hS => ?_)
                                obtain ⟨rfl, hu238⟩ := hu238
                                refine z_i2l hx hb dX7_digest_241 (by omega) ?_
                                refine y_wVv (As := [.long (zL (HW f))]) (rest := []) (fun (u242 : Unit) => [(m0, .inr (7, [.ref (a 0), .ref (a 1), .int (zI (ke)), .int (zI (0)), .ref (a 2), .ref (a 3), .ref (a 4), .ref (a 5), .ref (a 6), .ref (a 7), .ref (a 8), .long (zL (31 * h5 + (HW f)))])), (a 0, .inl (cI, 612, .inl (zA f))), (a 2, .inl (cJ, 121, .inr (.inl (zAL (u238 0))))), (a 3, .inl (cI, 121, .inl (zA (u238 1)))), (a 4, .inl (cI, 121, .inl (zA (u238 2)))), (a 5, .inl (cI, 121, .inl (zA (u238 3)))), (a 6, .inl (cI, 121, .inl (zA (u238 4)))), (a 7, .inl (cI, 605, .inl (zA (u202 5))))]) hx hb hml hown hts hl.1 ⟨Nat.zero_le _, Nat.zero_le _⟩ (kX7_mix l D cI cJ cS m0 a ke 0 h5 (HW f)) (cwV 1 hts gX7_digest_X7_mix rfl rfl rfl jX7_mix ⟨Nat.le_of_ble_eq_true rfl, Nat.le_of_ble_eq_true rfl⟩) hK [true] hP (zD hD rfl) hS rfl (fun _ => rfl) (fun _ => rfl) 7 0 rfl rfl rfl rfl rfl (Nat.le_of_ble_eq_true rfl) dX7_digest_242 (fun u242 H locs hu242 hP hS => ?_)
                                refine lv_aload_n hx hb dX7_digest_245 rfl (lv_at hl 0 rfl) ?_
                                refine lv_aload_n hx hb dX7_digest_246 rfl (lv_at hl 0 rfl) ?_
                                refine va_get (D := D) (ci := 7) (v := .ref (a 5)) (C := RX7) (T := TX7) (N := 12) hx hb hts in7 hown hK hP 0 rfl rfl 7 (by decide) f26 (fun _ h9 => h9) rfl dX7_digest_247 ?_
                                refine lv_aload_n hx hb dX7_digest_250 rfl (lv_at hl 0 rfl) ?_
                                refine va_get (D := D) (ci := 7) (v := .ref (a 0)) (C := RX7) (T := TX7) (N := 12) hx hb hts in7 hown hK hP 0 rfl rfl 0 (by decide) f7 (fun _ h9 => h9) rfl dX7_digest_251 ?_
                                refine z_iconst hx hb dX7_digest_254 ?_
                                refine z_iald hx hb hK hP 1 0 rfl rfl (by omega) (Nat.lt_of_succ_le (Nat.le_of_ble_eq_true rfl)) dX7_digest_255 ?_
                                refine z_iald hx hb hK hP 5 0 rfl rfl (by omega) (Nat.lt_of_succ_le (Nat.le_of_ble_eq_true rfl)) dX7_digest_256 ?_
                                refine z_top (tiT f (f 0)) ((hu238.1 (f 0) (by omega) (Int.le_refl _)).2.2.2) ?_
                                have hqa := tiT_b ok (f 0) (by omega) (Int.le_refl _)
                                refine z_i2l hx hb dX7_digest_257 (by omega) ?_
                                refine y_wVv (As := [.long (zL (tiT f (f 0)))]) (rest := []) (fun (u258 : Unit) => [(m0, .inr (7, [.ref (a 0), .ref (a 1), .int (zI (ke)), .int (zI (0)), .ref (a 2), .ref (a 3), .ref (a 4), .ref (a 5), .ref (a 6), .ref (a 7), .ref (a 8), .long (zL (31 * (31 * h5 + (HW f)) + (tiT f (f 0))))])), (a 0, .inl (cI, 612, .inl (zA f))), (a 2, .inl (cJ, 121, .inr (.inl (zAL (u238 0))))), (a 3, .inl (cI, 121, .inl (zA (u238 1)))), (a 4, .inl (cI, 121, .inl (zA (u238 2)))), (a 5, .inl (cI, 121, .inl (zA (u238 3)))), (a 6, .inl (cI, 121, .inl (zA (u238 4)))), (a 7, .inl (cI, 605, .inl (zA (u202 5))))]) hx hb hml hown hts hl.1 ⟨Nat.zero_le _, Nat.zero_le _⟩ (kX7_mix l D cI cJ cS m0 a ke 0 (31 * h5 + (HW f)) (tiT f (f 0))) (cwV 1 hts gX7_digest_X7_mix rfl rfl rfl jX7_mix ⟨Nat.le_of_ble_eq_true rfl, Nat.le_of_ble_eq_true rfl⟩) hK [true] hP (zD hD rfl) hS rfl (fun _ => rfl) (fun _ => rfl) 7 0 rfl rfl rfl rfl rfl (Nat.le_of_ble_eq_true rfl) dX7_digest_258 (fun u258 H locs hu258 hP hS => ?_)
                                refine lv_aload_n hx hb dX7_digest_261 rfl (lv_at hl 0 rfl) ?_
                                refine va_get (D := D) (ci := 7) (v := .long (zL (31 * (31 * h5 + (HW f)) + (tiT f (f 0))))) (C := RX7) (T := TX7) (N := 12) hx hb hts in7 hown hK hP 0 rfl rfl 11 (by decide) f139 (fun _ h9 => h9) rfl dX7_digest_262 ?_
                                have e9 : 31 * (31 * h5 + HW f) + tiT f (f 0) = DG f ke := by rw [hh5, show k5 = ((VIO f).length : Int) by omega]; rfl
                                rw [e9] at hP
                                exact hret (fun j => if j = 0 then (u238 0) else if j = 1 then (u238 1) else if j = 2 then (u238 2) else if j = 3 then (u238 3) else if j = 4 then (u238 4) else (u202 5)) (by rw [e9]) hP hS dX7_digest_265
                              · refine lv_aload_n hx hb dX7_digest_219 rfl (lv_at hl 0 rfl) ?_
                                refine lv_aload_n hx hb dX7_digest_220 rfl (lv_at hl 0 rfl) ?_
                                refine va_get (D := D) (ci := 7) (v := .ref (a 7)) (C := RX7) (T := TX7) (N := 12) hx hb hts in7 hown hK hP 0 rfl rfl 9 (by decide) f32 (fun _ h9 => h9) rfl dX7_digest_221 ?_
                                refine lv_iload_n hx hb dX7_digest_224 rfl (lv_at hl 3 rfl) ?_
                                refine z_iald hx hb hK hP 7 0 rfl rfl (by omega) (Nat.lt_of_succ_le (Nat.le_of_ble_eq_true rfl)) dX7_digest_225 ?_
                                refine z_top (VV f k5) (fnd_VV hu202.1 hk5.1 (by omega)) ?_
                                have hq9 := VV_r ok hk5.1 (by omega)
                                refine z_i2l hx hb dX7_digest_226 (by omega) ?_
                                refine y_wVv (As := [.long (zL (VV f k5))]) (rest := []) (fun (u227 : Unit) => [(m0, .inr (7, [.ref (a 0), .ref (a 1), .int (zI (ke)), .int (zI (0)), .ref (a 2), .ref (a 3), .ref (a 4), .ref (a 5), .ref (a 6), .ref (a 7), .ref (a 8), .long (zL (31 * h5 + (VV f k5)))])), (a 0, .inl (cI, 612, .inl (zA f))), (a 2, .inl (cJ, 121, .inr (.inl (zAL (u202 0))))), (a 3, .inl (cI, 121, .inl (zA (u202 1)))), (a 4, .inl (cI, 121, .inl (zA (u202 2)))), (a 5, .inl (cI, 121, .inl (zA (u202 3)))), (a 6, .inl (cI, 121, .inl (zA (u202 4)))), (a 7, .inl (cI, 605, .inl (zA (u202 5))))]) hx hb hml hown hts hl.1 ⟨Nat.zero_le _, Nat.zero_le _⟩ (kX7_mix l D cI cJ cS m0 a ke 0 h5 (VV f k5)) (cwV 1 hts gX7_digest_X7_mix rfl rfl rfl jX7_mix ⟨Nat.le_of_ble_eq_true rfl, Nat.le_of_ble_eq_true rfl⟩) hK [true] hP (zD hD rfl) hS rfl (fun _ => rfl) (fun _ => rfl) 7 0 rfl rfl rfl rfl rfl (Nat.le_of_ble_eq_true rfl) dX7_digest_227 (fun u227 H locs hu227 hP hS => ?_)
                                refine z_iinc (lv' := [(3, .int (zI (k5 + 1))), (0, .ref m0), (1, .int (zI (rank f (f 0 + 1)))), (2, .int (zI (((VIO f).length : Int))))]) hx hb 3 (k5 + 1) dX7_digest_230 hl rfl (by omega) (by decide) rfl (fun ls hl => ?_)
                                refine lv_goto (tgt := 214) hx hb dX7_digest_233 (by decide) ?_
                                exact ih214 (k5 + 1) (31 * h5 + (VV f k5)) (by omega) (by rw [mxr_s hk5.1, hh5]) (by omega) _ _ hP hS ls (lv_sub hl [1, 2, 3, 0] rfl)
                          exact L214 _ 0 (31 * h4 + ((VIO f).length : Int)) (by omega) (by rw [hh4, show k4 = rank f (f 0 + 1) by omega]; rfl) (Nat.lt_succ_self _) _ _ hP hS ls (lv_sub hl [2, 3, 1, 0] rfl)
                        · refine lv_aload_n hx hb dX7_digest_184 rfl (lv_at hl 0 rfl) ?_
                          refine lv_aload_n hx hb dX7_digest_185 rfl (lv_at hl 0 rfl) ?_
                          refine va_get (D := D) (ci := 7) (v := .ref (a 6)) (C := RX7) (T := TX7) (N := 12) hx hb hts in7 hown hK hP 0 rfl rfl 8 (by decide) f29 (fun _ h9 => h9) rfl dX7_digest_186 ?_
                          refine lv_iload_n hx hb dX7_digest_189 rfl (lv_at hl 2 rfl) ?_
                          refine z_iald hx hb hK hP 6 0 rfl rfl (by omega) (Nat.lt_of_succ_le (Nat.le_of_ble_eq_true rfl)) dX7_digest_190 ?_
                          refine z_top (pst f k4) (rep_pst ok hu167 hk4.1 (by omega)) ?_
                          have hq6 := pst_is ok hk4.1 (by omega : k4 < rank f (f 0 + 1))
                          have hq7 := hq6.1
                          have hq8 := hq6.2.1
                          refine z_i2l hx hb dX7_digest_191 (by omega) ?_
                          refine y_wVv (As := [.long (zL (pst f k4))]) (rest := []) (fun (u192 : Unit) => [(m0, .inr (7, [.ref (a 0), .ref (a 1), .int (zI (ke)), .int (zI (0)), .ref (a 2), .ref (a 3), .ref (a 4), .ref (a 5), .ref (a 6), .ref (a 7), .ref (a 8), .long (zL (31 * h4 + (pst f k4)))])), (a 0, .inl (cI, 612, .inl (zA f))), (a 2, .inl (cJ, 121, .inr (.inl (zAL (u94 0))))), (a 3, .inl (cI, 121, .inl (zA (u94 1)))), (a 4, .inl (cI, 121, .inl (zA (u94 2)))), (a 5, .inl (cI, 121, .inl (zA (u94 3)))), (a 6, .inl (cI, 121, .inl (zA u167))), (a 7, .inl (cI, 605, .inl (zA gf)))]) hx hb hml hown hts hl.1 ⟨Nat.zero_le _, Nat.zero_le _⟩ (kX7_mix l D cI cJ cS m0 a ke 0 h4 (pst f k4)) (cwV 1 hts gX7_digest_X7_mix rfl rfl rfl jX7_mix ⟨Nat.le_of_ble_eq_true rfl, Nat.le_of_ble_eq_true rfl⟩) hK [true] hP (zD hD rfl) hS rfl (fun _ => rfl) (fun _ => rfl) 7 0 rfl rfl rfl rfl rfl (Nat.le_of_ble_eq_true rfl) dX7_digest_192 (fun u192 H locs hu192 hP hS => ?_)
                          refine z_iinc (lv' := [(2, .int (zI (k4 + 1))), (0, .ref m0), (1, .int (zI (rank f (f 0 + 1))))]) hx hb 2 (k4 + 1) dX7_digest_195 hl rfl (by omega) (by decide) rfl (fun ls hl => ?_)
                          refine lv_goto (tgt := 179) hx hb dX7_digest_198 (by decide) ?_
                          exact ih179 (k4 + 1) (31 * h4 + (pst f k4)) (by omega) (by rw [mxr_s hk4.1, hh4]) (by omega) _ _ hP hS ls (lv_sub hl [1, 2, 0] rfl)
                    exact L179 _ 0 (31 * h3 + (rank f (f 0 + 1))) (by omega) (by rw [hh3, show k3 = f 0 + 1 by omega]; rfl) (Nat.lt_succ_self _) _ _ hP hS ls (lv_sub hl [2, 1, 0] rfl)
                  · refine lv_aload_n hx hb dX7_digest_109 rfl (lv_at hl 0 rfl) ?_
                    refine lv_aload_n hx hb dX7_digest_110 rfl (lv_at hl 0 rfl) ?_
                    refine va_get (D := D) (ci := 7) (v := .ref (a 0)) (C := RX7) (T := TX7) (N := 12) hx hb hts in7 hown hK hP 0 rfl rfl 0 (by decide) f7 (fun _ h9 => h9) rfl dX7_digest_111 ?_
                    refine z_sipush hx hb dX7_digest_114 (by decide +kernel) ?_
                    refine lv_iload_n hx hb dX7_digest_117 rfl (lv_at hl 1 rfl) ?_
                    refine z_iadd hx hb dX7_digest_118 ?_
                    refine z_iald hx hb hK hP 1 0 rfl rfl (by omega) (Nat.lt_of_succ_le (Nat.le_of_ble_eq_true rfl)) dX7_digest_119 ?_
                    have hq3 := obar k3 hk3.1 (by omega)
                    refine z_i2l hx hb dX7_digest_120 (by omega) ?_
                    refine y_wVv (As := [.long (zL (f (249 + k3)))]) (rest := []) (fun (u121 : Unit) => [(m0, .inr (7, [.ref (a 0), .ref (a 1), .int (zI (ke)), .int (zI (0)), .ref (a 2), .ref (a 3), .ref (a 4), .ref (a 5), .ref (a 6), .ref (a 7), .ref (a 8), .long (zL (31 * h3 + (f (249 + k3))))])), (a 0, .inl (cI, 612, .inl (zA f))), (a 2, .inl (cJ, 121, .inr (.inl (zAL (u94 0))))), (a 3, .inl (cI, 121, .inl (zA (u94 1)))), (a 4, .inl (cI, 121, .inl (zA (u94 2)))), (a 5, .inl (cI, 121, .inl (zA (u94 3)))), (a 6, .inl (cI, 121, .inl (zA gr))), (a 7, .inl (cI, 605, .inl (zA gf)))]) hx hb hml hown hts hl.1 ⟨Nat.zero_le _, Nat.zero_le _⟩ (kX7_mix l D cI cJ cS m0 a ke 0 h3 (f (249 + k3))) (cwV 1 hts gX7_digest_X7_mix rfl rfl rfl jX7_mix ⟨Nat.le_of_ble_eq_true rfl, Nat.le_of_ble_eq_true rfl⟩) hK [true] hP (zD hD rfl) hS rfl (fun _ => rfl) (fun _ => rfl) 7 0 rfl rfl rfl rfl rfl (Nat.le_of_ble_eq_true rfl) dX7_digest_121 (fun u121 H locs hu121 hP hS => ?_)
                    refine lv_aload_n hx hb dX7_digest_124 rfl (lv_at hl 0 rfl) ?_
                    refine lv_aload_n hx hb dX7_digest_125 rfl (lv_at hl 0 rfl) ?_
                    refine va_get (D := D) (ci := 7) (v := .ref (a 0)) (C := RX7) (T := TX7) (N := 12) hx hb hts in7 hown hK hP 0 rfl rfl 0 (by decide) f7 (fun _ h9 => h9) rfl dX7_digest_126 ?_
                    refine z_sipush hx hb dX7_digest_129 (by decide +kernel) ?_
                    refine lv_iload_n hx hb dX7_digest_132 rfl (lv_at hl 1 rfl) ?_
                    refine z_iadd hx hb dX7_digest_133 ?_
                    refine z_iald hx hb hK hP 1 0 rfl rfl (by omega) (Nat.lt_of_succ_le (Nat.le_of_ble_eq_true rfl)) dX7_digest_134 ?_
                    have hq4 := oneed k3 hk3.1 (by omega)
                    refine z_i2l hx hb dX7_digest_135 (by omega) ?_
                    refine y_wVv (As := [.long (zL (f (370 + k3)))]) (rest := []) (fun (u136 : Unit) => [(m0, .inr (7, [.ref (a 0), .ref (a 1), .int (zI (ke)), .int (zI (0)), .ref (a 2), .ref (a 3), .ref (a 4), .ref (a 5), .ref (a 6), .ref (a 7), .ref (a 8), .long (zL (31 * (31 * h3 + (f (249 + k3))) + (f (370 + k3))))])), (a 0, .inl (cI, 612, .inl (zA f))), (a 2, .inl (cJ, 121, .inr (.inl (zAL (u94 0))))), (a 3, .inl (cI, 121, .inl (zA (u94 1)))), (a 4, .inl (cI, 121, .inl (zA (u94 2)))), (a 5, .inl (cI, 121, .inl (zA (u94 3)))), (a 6, .inl (cI, 121, .inl (zA gr))), (a 7, .inl (cI, 605, .inl (zA gf)))]) hx hb hml hown hts hl.1 ⟨Nat.zero_le _, Nat.zero_le _⟩ (kX7_mix l D cI cJ cS m0 a ke 0 (31 * h3 + (f (249 + k3))) (f (370 + k3))) (cwV 1 hts gX7_digest_X7_mix rfl rfl rfl jX7_mix ⟨Nat.le_of_ble_eq_true rfl, Nat.le_of_ble_eq_true rfl⟩) hK [true] hP (zD hD rfl) hS rfl (fun _ => rfl) (fun _ => rfl) 7 0 rfl rfl rfl rfl rfl (Nat.le_of_ble_eq_true rfl) dX7_digest_136 (fun u136 H locs hu136 hP hS => ?_)
                    refine lv_aload_n hx hb dX7_digest_139 rfl (lv_at hl 0 rfl) ?_
                    refine lv_aload_n hx hb dX7_digest_140 rfl (lv_at hl 0 rfl) ?_
                    refine va_get (D := D) (ci := 7) (v := .ref (a 2)) (C := RX7) (T := TX7) (N := 12) hx hb hts in7 hown hK hP 0 rfl rfl 4 (by decide) f16 (fun _ h9 => h9) rfl dX7_digest_141 ?_
                    refine lv_iload_n hx hb dX7_digest_144 rfl (lv_at hl 1 rfl) ?_
                    refine z_lald hx hb hK hP 2 1 rfl rfl (by omega) (Nat.lt_of_succ_le (Nat.le_of_ble_eq_true rfl)) dX7_digest_145 ?_
                    refine z_topL (enE f k3) (hu94 k3 hk3.1 (by omega)).1 ?_
                    refine y_wVv (As := [.long (zL (enE f k3))]) (rest := []) (fun (u146 : Unit) => [(m0, .inr (7, [.ref (a 0), .ref (a 1), .int (zI (ke)), .int (zI (0)), .ref (a 2), .ref (a 3), .ref (a 4), .ref (a 5), .ref (a 6), .ref (a 7), .ref (a 8), .long (zL (31 * (31 * (31 * h3 + (f (249 + k3))) + (f (370 + k3))) + (enE f k3)))])), (a 0, .inl (cI, 612, .inl (zA f))), (a 2, .inl (cJ, 121, .inr (.inl (zAL (u94 0))))), (a 3, .inl (cI, 121, .inl (zA (u94 1)))), (a 4, .inl (cI, 121, .inl (zA (u94 2)))), (a 5, .inl (cI, 121, .inl (zA (u94 3)))), (a 6, .inl (cI, 121, .inl (zA gr))), (a 7, .inl (cI, 605, .inl (zA gf)))]) hx hb hml hown hts hl.1 ⟨Nat.zero_le _, Nat.zero_le _⟩ (kX7_mix l D cI cJ cS m0 a ke 0 (31 * (31 * h3 + (f (249 + k3))) + (f (370 + k3))) (enE f k3)) (cwV 1 hts gX7_digest_X7_mix rfl rfl rfl jX7_mix ⟨Nat.le_of_ble_eq_true rfl, Nat.le_of_ble_eq_true rfl⟩) hK [true] hP (zD hD rfl) hS rfl (fun _ => rfl) (fun _ => rfl) 7 0 rfl rfl rfl rfl rfl (Nat.le_of_ble_eq_true rfl) dX7_digest_146 (fun u146 H locs hu146 hP hS => ?_)
                    refine lv_aload_n hx hb dX7_digest_149 rfl (lv_at hl 0 rfl) ?_
                    refine lv_aload_n hx hb dX7_digest_150 rfl (lv_at hl 0 rfl) ?_
                    refine va_get (D := D) (ci := 7) (v := .ref (a 4)) (C := RX7) (T := TX7) (N := 12) hx hb hts in7 hown hK hP 0 rfl rfl 6 (by decide) f23 (fun _ h9 => h9) rfl dX7_digest_151 ?_
                    refine lv_iload_n hx hb dX7_digest_154 rfl (lv_at hl 1 rfl) ?_
                    refine z_iald hx hb hK hP 4 0 rfl rfl (by omega) (Nat.lt_of_succ_le (Nat.le_of_ble_eq_true rfl)) dX7_digest_155 ?_
                    refine z_top (brD f k3) (hu94 k3 hk3.1 (by omega)).2.2.1 ?_
                    have hq5 := brD_b ok hk3.1 (by omega : k3 ≤ f 0)
                    refine z_i2l hx hb dX7_digest_156 (by omega) ?_
                    refine y_wVv (As := [.long (zL (brD f k3))]) (rest := []) (fun (u157 : Unit) => [(m0, .inr (7, [.ref (a 0), .ref (a 1), .int (zI (ke)), .int (zI (0)), .ref (a 2), .ref (a 3), .ref (a 4), .ref (a 5), .ref (a 6), .ref (a 7), .ref (a 8), .long (zL (31 * (31 * (31 * (31 * h3 + (f (249 + k3))) + (f (370 + k3))) + (enE f k3)) + (brD f k3)))])), (a 0, .inl (cI, 612, .inl (zA f))), (a 2, .inl (cJ, 121, .inr (.inl (zAL (u94 0))))), (a 3, .inl (cI, 121, .inl (zA (u94 1)))), (a 4, .inl (cI, 121, .inl (zA (u94 2)))), (a 5, .inl (cI, 121, .inl (zA (u94 3)))), (a 6, .inl (cI, 121, .inl (zA gr))), (a 7, .inl (cI, 605, .inl (zA gf)))]) hx hb hml hown hts hl.1 ⟨Nat.zero_le _, Nat.zero_le _⟩ (kX7_mix l D cI cJ cS m0 a ke 0 (31 * (31 * (31 * h3 + (f (249 + k3))) + (f (370 + k3))) + (enE f k3)) (brD f k3)) (cwV 1 hts gX7_digest_X7_mix rfl rfl rfl jX7_mix ⟨Nat.le_of_ble_eq_true rfl, Nat.le_of_ble_eq_true rfl⟩) hK [true] hP (zD hD rfl) hS rfl (fun _ => rfl) (fun _ => rfl) 7 0 rfl rfl rfl rfl rfl (Nat.le_of_ble_eq_true rfl) dX7_digest_157 (fun u157 H locs hu157 hP hS => ?_)
                    refine z_iinc (lv' := [(1, .int (zI (k3 + 1))), (0, .ref m0)]) hx hb 1 (k3 + 1) dX7_digest_160 hl rfl (by omega) (by decide) rfl (fun ls hl => ?_)
                    refine lv_goto (tgt := 99) hx hb dX7_digest_163 (by decide) ?_
                    exact ih99 (k3 + 1) (31 * (31 * (31 * (31 * h3 + (f (249 + k3))) + (f (370 + k3))) + (enE f k3)) + (brD f k3)) (by omega) (by rw [mx4_s hk3.1, hh3]) (by omega) _ _ hP hS ls (lv_sub hl [1, 0] rfl)
              exact L99 _ 0 h2 (by omega) (by rw [hh2, show k2 = f 0 by omega]; rfl) (Nat.lt_succ_self _) _ _ hP hS ls (lv_sub hl [1, 0] rfl)
            · refine lv_aload_n hx hb dX7_digest_58 rfl (lv_at hl 0 rfl) ?_
              refine lv_aload_n hx hb dX7_digest_59 rfl (lv_at hl 0 rfl) ?_
              refine va_get (D := D) (ci := 7) (v := .ref (a 0)) (C := RX7) (T := TX7) (N := 12) hx hb hts in7 hown hK hP 0 rfl rfl 0 (by decide) f7 (fun _ h9 => h9) rfl dX7_digest_60 ?_
              refine z_bipush hx hb dX7_digest_63 (by decide +kernel) ?_
              refine lv_iload_n hx hb dX7_digest_65 rfl (lv_at hl 1 rfl) ?_
              refine z_iadd hx hb dX7_digest_66 ?_
              refine z_iald hx hb hK hP 1 0 rfl rfl (by omega) (Nat.lt_of_succ_le (Nat.le_of_ble_eq_true rfl)) dX7_digest_67 ?_
              have hq1 := olim k2 hk2.1 (by omega)
              refine z_i2l hx hb dX7_digest_68 (by omega) ?_
              refine y_wVv (As := [.long (zL (f (9 + k2)))]) (rest := []) (fun (u69 : Unit) => [(m0, .inr (7, [.ref (a 0), .ref (a 1), .int (zI (ke)), .int (zI (0)), .ref (a 2), .ref (a 3), .ref (a 4), .ref (a 5), .ref (a 6), .ref (a 7), .ref (a 8), .long (zL (31 * h2 + (f (9 + k2))))])), (a 0, .inl (cI, 612, .inl (zA f))), (a 2, .inl (cJ, 121, .inr (.inl (zAL ge)))), (a 3, .inl (cI, 121, .inl (zA gv))), (a 4, .inl (cI, 121, .inl (zA gd))), (a 5, .inl (cI, 121, .inl (zA gt))), (a 6, .inl (cI, 121, .inl (zA gr))), (a 7, .inl (cI, 605, .inl (zA gf)))]) hx hb hml hown hts hl.1 ⟨Nat.zero_le _, Nat.zero_le _⟩ (kX7_mix l D cI cJ cS m0 a ke 0 h2 (f (9 + k2))) (cwV 1 hts gX7_digest_X7_mix rfl rfl rfl jX7_mix ⟨Nat.le_of_ble_eq_true rfl, Nat.le_of_ble_eq_true rfl⟩) hK [true] hP (zD hD rfl) hS rfl (fun _ => rfl) (fun _ => rfl) 7 0 rfl rfl rfl rfl rfl (Nat.le_of_ble_eq_true rfl) dX7_digest_69 (fun u69 H locs hu69 hP hS => ?_)
              refine lv_aload_n hx hb dX7_digest_72 rfl (lv_at hl 0 rfl) ?_
              refine lv_aload_n hx hb dX7_digest_73 rfl (lv_at hl 0 rfl) ?_
              refine va_get (D := D) (ci := 7) (v := .ref (a 0)) (C := RX7) (T := TX7) (N := 12) hx hb hts in7 hown hK hP 0 rfl rfl 0 (by decide) f7 (fun _ h9 => h9) rfl dX7_digest_74 ?_
              refine z_sipush hx hb dX7_digest_77 (by decide +kernel) ?_
              refine lv_iload_n hx hb dX7_digest_80 rfl (lv_at hl 1 rfl) ?_
              refine z_iadd hx hb dX7_digest_81 ?_
              refine z_iald hx hb hK hP 1 0 rfl rfl (by omega) (Nat.lt_of_succ_le (Nat.le_of_ble_eq_true rfl)) dX7_digest_82 ?_
              have hq2 := ogrd k2 hk2.1 (by omega)
              refine z_i2l hx hb dX7_digest_83 (by omega) ?_
              refine y_wVv (As := [.long (zL (f (129 + k2)))]) (rest := []) (fun (u84 : Unit) => [(m0, .inr (7, [.ref (a 0), .ref (a 1), .int (zI (ke)), .int (zI (0)), .ref (a 2), .ref (a 3), .ref (a 4), .ref (a 5), .ref (a 6), .ref (a 7), .ref (a 8), .long (zL (31 * (31 * h2 + (f (9 + k2))) + (f (129 + k2))))])), (a 0, .inl (cI, 612, .inl (zA f))), (a 2, .inl (cJ, 121, .inr (.inl (zAL ge)))), (a 3, .inl (cI, 121, .inl (zA gv))), (a 4, .inl (cI, 121, .inl (zA gd))), (a 5, .inl (cI, 121, .inl (zA gt))), (a 6, .inl (cI, 121, .inl (zA gr))), (a 7, .inl (cI, 605, .inl (zA gf)))]) hx hb hml hown hts hl.1 ⟨Nat.zero_le _, Nat.zero_le _⟩ (kX7_mix l D cI cJ cS m0 a ke 0 (31 * h2 + (f (9 + k2))) (f (129 + k2))) (cwV 1 hts gX7_digest_X7_mix rfl rfl rfl jX7_mix ⟨Nat.le_of_ble_eq_true rfl, Nat.le_of_ble_eq_true rfl⟩) hK [true] hP (zD hD rfl) hS rfl (fun _ => rfl) (fun _ => rfl) 7 0 rfl rfl rfl rfl rfl (Nat.le_of_ble_eq_true rfl) dX7_digest_84 (fun u84 H locs hu84 hP hS => ?_)
              refine z_iinc (lv' := [(1, .int (zI (k2 + 1))), (0, .ref m0)]) hx hb 1 (k2 + 1) dX7_digest_87 hl rfl (by omega) (by decide) rfl (fun ls hl => ?_)
              refine lv_goto (tgt := 48) hx hb dX7_digest_90 (by decide) ?_
              exact ih48 (k2 + 1) (31 * (31 * h2 + (f (9 + k2))) + (f (129 + k2))) (by omega) (by rw [mx2_s hk2.1, hh2]) (by omega) _ _ hP hS ls (lv_sub hl [1, 0] rfl)
        exact L48 _ 0 h (by omega) (by rw [hh, show k = 9 by omega]; rfl) (Nat.lt_succ_self _) _ _ hP hS ls (lv_sub hl [1, 0] rfl)
      · refine lv_aload_n hx hb dX7_digest_29 rfl (lv_at hl 0 rfl) ?_
        refine lv_aload_n hx hb dX7_digest_30 rfl (lv_at hl 0 rfl) ?_
        refine va_get (D := D) (ci := 7) (v := .ref (a 0)) (C := RX7) (T := TX7) (N := 12) hx hb hts in7 hown hK hP 0 rfl rfl 0 (by decide) f7 (fun _ h9 => h9) rfl dX7_digest_31 ?_
        refine lv_iload_n hx hb dX7_digest_34 rfl (lv_at hl 1 rfl) ?_
        refine z_iald hx hb hK hP 1 0 rfl rfl (by omega) (Nat.lt_of_succ_le (Nat.le_of_ble_eq_true rfl)) dX7_digest_35 ?_
        refine z_i2l hx hb dX7_digest_36 (by omega) ?_
        refine y_wVv (As := [.long (zL (f k))]) (rest := []) (fun (u37 : Unit) => [(m0, .inr (7, [.ref (a 0), .ref (a 1), .int (zI (ke)), .int (zI (0)), .ref (a 2), .ref (a 3), .ref (a 4), .ref (a 5), .ref (a 6), .ref (a 7), .ref (a 8), .long (zL (31 * h + (f k)))])), (a 0, .inl (cI, 612, .inl (zA f))), (a 2, .inl (cJ, 121, .inr (.inl (zAL ge)))), (a 3, .inl (cI, 121, .inl (zA gv))), (a 4, .inl (cI, 121, .inl (zA gd))), (a 5, .inl (cI, 121, .inl (zA gt))), (a 6, .inl (cI, 121, .inl (zA gr))), (a 7, .inl (cI, 605, .inl (zA gf)))]) hx hb hml hown hts hl.1 ⟨Nat.zero_le _, Nat.zero_le _⟩ (kX7_mix l D cI cJ cS m0 a ke 0 h (f k)) (cwV 1 hts gX7_digest_X7_mix rfl rfl rfl jX7_mix ⟨Nat.le_of_ble_eq_true rfl, Nat.le_of_ble_eq_true rfl⟩) hK [true] hP (zD hD rfl) hS rfl (fun _ => rfl) (fun _ => rfl) 7 0 rfl rfl rfl rfl rfl (Nat.le_of_ble_eq_true rfl) dX7_digest_37 (fun u37 H locs hu37 hP hS => ?_)
        refine z_iinc (lv' := [(1, .int (zI (k + 1))), (0, .ref m0)]) hx hb 1 (k + 1) dX7_digest_40 hl rfl (by omega) (by decide) rfl (fun ls hl => ?_)
        refine lv_goto (tgt := 23) hx hb dX7_digest_43 (by decide) ?_
        exact ih23 (k + 1) (31 * h + (f k)) (by omega) (by rw [mxr_s hk.1, hh]) (by omega) _ _ hP hS ls (lv_sub hl [1, 0] rfl)
  exact L23 _ 0 (31 * 12211 + ke) (by omega) rfl (Nat.lt_succ_self _) _ _ hP hS ls (lv_sub hl [1, 0] rfl)
