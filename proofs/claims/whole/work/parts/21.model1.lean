/-! ===== SignalSpacingModel: settings ===== -/
/-- the past with the present put behind it -/
def kpF (gp f : Int → Int) (ke : Int) : Int → Int := fun j => if ke = 4 then (if j < 1836 then gp (j + 612) else f (j - 1836)) else (if 612 * ke ≤ j ∧ j < 612 * ke + 612 then f (j - 612 * ke) else gp j)

abbrev rmX7_in : Room := { frames := 0, cells := 0, slots := 0, locals := 0 }
theorem jX7_in : yX7_in.cls = RX7 ∧ yX7_in.cls ≠ "java/lang/invoke/MethodHandle" ∧ yX7_in.cls ≠ "java/lang/invoke/VarHandle" ∧ (parseMethodDescriptor yX7_in.desc).map (fun d => d.parameters.length) = some 3 := by decide +kernel
set_option maxHeartbeats 4000000 in
set_option maxRecDepth 100000 in
theorem kX7_in (l : Launch) (D : va_G) (cI cJ cS : ClassId) (v lo hi : Int) (h1 : -2147483648 ≤ v ∧ v < 2147483648) (h2 : -2147483648 ≤ lo ∧ lo < 2147483648) (h3 : -2147483648 ≤ hi ∧ hi < 2147483648) : Met l yX7_in wsX7_in rmX7_in (zPc D (zT cI cJ cS) [.int (zI (v)), .int (zI (lo)), .int (zI (hi))] []) (vp_Si (fun r => r = zI (zB (lo ≤ v ∧ v ≤ hi)))) 0 0 (fun _ => False) := by
  refine zRz_of (cc := cX7_in) (maxL := 3) (ret := (some .boolean)) (zB (lo ≤ v ∧ v ≤ hi)) (by decide) rfl (Nat.le_of_ble_eq_true rfl) rfl (zB_01 _) ?_
  intro p e s m args below meth c Q ls hx hb hml hts hown hK hP hD hl hret
  have hl : lv_has ls 3 [(0, .int (zI (v))), (1, .int (zI (lo))), (2, .int (zI (hi)))] := hl
  have hP : va_P D vwCl [] s.heap := hP
  refine lv_iload_n hx hb dX7_in_0 rfl (lv_at hl 0 rfl) ?_
  refine lv_iload_n hx hb dX7_in_1 rfl (lv_at hl 1 rfl) ?_
  refine z_icmp_lt (tgt := 14) hx hb dX7_in_2 (by decide) (by omega) (by omega) (fun c2 => ?_) (fun c2 => ?_)
  · refine z_iconst hx hb dX7_in_14 ?_
    exact z_top (zB (lo ≤ v ∧ v ≤ hi)) (zB_f (by omega)).symm (hret dX7_in_15)
  · refine lv_iload_n hx hb dX7_in_5 rfl (lv_at hl 0 rfl) ?_
    refine lv_iload_n hx hb dX7_in_6 rfl (lv_at hl 2 rfl) ?_
    refine z_icmp_gt (tgt := 14) hx hb dX7_in_7 (by decide) (by omega) (by omega) (fun c7 => ?_) (fun c7 => ?_)
    · refine z_iconst hx hb dX7_in_14 ?_
      exact z_top (zB (lo ≤ v ∧ v ≤ hi)) (zB_f (by omega)).symm (hret dX7_in_15)
    · refine z_iconst hx hb dX7_in_10 ?_
      refine lv_goto (tgt := 15) hx hb dX7_in_11 (by decide) ?_
      exact z_top (zB (lo ≤ v ∧ v ≤ hi)) (zB_t (by omega)).symm (hret dX7_in_15)

abbrev rmX7_isCell : Room := { frames := 1, cells := 0, slots := 0, locals := 22 }
theorem jX7_isCell : yX7_isCell.cls = RX7 ∧ yX7_isCell.cls ≠ "java/lang/invoke/MethodHandle" ∧ yX7_isCell.cls ≠ "java/lang/invoke/VarHandle" ∧ (parseMethodDescriptor yX7_isCell.desc).map (fun d => d.parameters.length) = some 1 := by decide +kernel
set_option maxHeartbeats 4000000 in
set_option maxRecDepth 100000 in
theorem kX7_isCell (l : Launch) (D : va_G) (cI cJ cS : ClassId) (m0 : Nat) (a : Nat → Nat) (ke th hs : Int) (f : Int → Int) (x : Int) (h0 : 10 ≤ f 0 ∧ f 0 ≤ 120) (h1 : -2147483648 ≤ x ∧ x < 2147483648) : Met l yX7_isCell wsX7_isCell rmX7_isCell (zPc D (zT cI cJ cS) [.ref m0, .int (zI (x))] [(m0, .inr (7, [.ref (a 0), .ref (a 1), .int (zI (ke)), .int (zI (th)), .ref (a 2), .ref (a 3), .ref (a 4), .ref (a 5), .ref (a 6), .ref (a 7), .ref (a 8), .long (zL (hs))])), (a 0, .inl (cI, 612, .inl (zA f)))]) (vp_Si (fun r => r = zI (zB (0 ≤ x ∧ x ≤ f 0 - 1)))) 0 0 (fun _ => False) := by
  refine zRz_of (cc := cX7_isCell) (maxL := 2) (ret := (some .boolean)) (zB (0 ≤ x ∧ x ≤ f 0 - 1)) (by decide) rfl (Nat.le_of_ble_eq_true rfl) rfl (zB_01 _) ?_
  intro p e s m args below meth c Q ls hx hb hml hts hown hK hP hD hl hret
  have in7 : ∀ w ∈ wsX70, w ∈ wsX7_isCell := by decide +kernel
  have f7 := hts (.fieldLink RX7 7 "SignalSpacingModel" "now" "[I") (by decide +kernel)
  have hl : lv_has ls 2 [(0, .ref m0), (1, .int (zI (x)))] := hl
  have hP : va_P D vwCl [(m0, .inr (7, [.ref (a 0), .ref (a 1), .int (zI (ke)), .int (zI (th)), .ref (a 2), .ref (a 3), .ref (a 4), .ref (a 5), .ref (a 6), .ref (a 7), .ref (a 8), .long (zL (hs))])), (a 0, .inl (cI, 612, .inl (zA f)))] s.heap := hP
  refine lv_iload_n hx hb dX7_isCell_0 rfl (lv_at hl 1 rfl) ?_
  refine z_iconst hx hb dX7_isCell_1 ?_
  refine lv_aload_n hx hb dX7_isCell_2 rfl (lv_at hl 0 rfl) ?_
  refine va_get (D := D) (ci := 7) (v := .ref (a 0)) (C := RX7) (T := TX7) (N := 12) hx hb hts in7 hown hK hP 0 rfl rfl 0 (by decide) f7 (fun _ h9 => h9) rfl dX7_isCell_3 ?_
  refine z_iconst hx hb dX7_isCell_6 ?_
  refine z_iald hx hb hK hP 1 0 rfl rfl (by omega) (Nat.lt_of_succ_le (Nat.le_of_ble_eq_true rfl)) dX7_isCell_7 ?_
  refine z_iconst hx hb dX7_isCell_8 ?_
  refine z_isub hx hb dX7_isCell_9 ?_
  refine z_rS (v := zB (0 ≤ x ∧ x ≤ ((f 0) - 1))) (As := [.int (zI (x)), .int (zI (0)), .int (zI ((f 0) - 1))]) (rest := []) hx hb hml hown hts hl.1 ⟨Nat.zero_le _, Nat.zero_le _⟩ (kX7_in l D cI cJ cS x 0 ((f 0) - 1) (by omega) (by omega) (by omega)) (cwS 3 hts gX7_isCell_X7_in rfl rfl rfl jX7_in ⟨Nat.le_of_ble_eq_true rfl, Nat.le_of_ble_eq_true rfl⟩) hK rfl rfl (Nat.le_of_ble_eq_true rfl) dX7_isCell_10 ?_
  exact z_top (zB (0 ≤ x ∧ x ≤ f 0 - 1)) rfl (hret dX7_isCell_13)

abbrev rmX7_isPosition : Room := { frames := 1, cells := 0, slots := 0, locals := 22 }
theorem jX7_isPosition : yX7_isPosition.cls = RX7 ∧ yX7_isPosition.cls ≠ "java/lang/invoke/MethodHandle" ∧ yX7_isPosition.cls ≠ "java/lang/invoke/VarHandle" ∧ (parseMethodDescriptor yX7_isPosition.desc).map (fun d => d.parameters.length) = some 1 := by decide +kernel
set_option maxHeartbeats 4000000 in
set_option maxRecDepth 100000 in
theorem kX7_isPosition (l : Launch) (D : va_G) (cI cJ cS : ClassId) (m0 : Nat) (a : Nat → Nat) (ke th hs : Int) (f : Int → Int) (x : Int) (h0 : 10 ≤ f 0 ∧ f 0 ≤ 120) (h1 : -2147483648 ≤ x ∧ x < 2147483648) : Met l yX7_isPosition wsX7_isPosition rmX7_isPosition (zPc D (zT cI cJ cS) [.ref m0, .int (zI (x))] [(m0, .inr (7, [.ref (a 0), .ref (a 1), .int (zI (ke)), .int (zI (th)), .ref (a 2), .ref (a 3), .ref (a 4), .ref (a 5), .ref (a 6), .ref (a 7), .ref (a 8), .long (zL (hs))])), (a 0, .inl (cI, 612, .inl (zA f)))]) (vp_Si (fun r => r = zI (zB (0 ≤ x ∧ x ≤ f 0)))) 0 0 (fun _ => False) := by
  refine zRz_of (cc := cX7_isPosition) (maxL := 2) (ret := (some .boolean)) (zB (0 ≤ x ∧ x ≤ f 0)) (by decide) rfl (Nat.le_of_ble_eq_true rfl) rfl (zB_01 _) ?_
  intro p e s m args below meth c Q ls hx hb hml hts hown hK hP hD hl hret
  have in7 : ∀ w ∈ wsX70, w ∈ wsX7_isPosition := by decide +kernel
  have f7 := hts (.fieldLink RX7 7 "SignalSpacingModel" "now" "[I") (by decide +kernel)
  have hl : lv_has ls 2 [(0, .ref m0), (1, .int (zI (x)))] := hl
  have hP : va_P D vwCl [(m0, .inr (7, [.ref (a 0), .ref (a 1), .int (zI (ke)), .int (zI (th)), .ref (a 2), .ref (a 3), .ref (a 4), .ref (a 5), .ref (a 6), .ref (a 7), .ref (a 8), .long (zL (hs))])), (a 0, .inl (cI, 612, .inl (zA f)))] s.heap := hP
  refine lv_iload_n hx hb dX7_isPosition_0 rfl (lv_at hl 1 rfl) ?_
  refine z_iconst hx hb dX7_isPosition_1 ?_
  refine lv_aload_n hx hb dX7_isPosition_2 rfl (lv_at hl 0 rfl) ?_
  refine va_get (D := D) (ci := 7) (v := .ref (a 0)) (C := RX7) (T := TX7) (N := 12) hx hb hts in7 hown hK hP 0 rfl rfl 0 (by decide) f7 (fun _ h9 => h9) rfl dX7_isPosition_3 ?_
  refine z_iconst hx hb dX7_isPosition_6 ?_
  refine z_iald hx hb hK hP 1 0 rfl rfl (by omega) (Nat.lt_of_succ_le (Nat.le_of_ble_eq_true rfl)) dX7_isPosition_7 ?_
  refine z_rS (v := zB (0 ≤ x ∧ x ≤ (f 0))) (As := [.int (zI (x)), .int (zI (0)), .int (zI (f 0))]) (rest := []) hx hb hml hown hts hl.1 ⟨Nat.zero_le _, Nat.zero_le _⟩ (kX7_in l D cI cJ cS x 0 (f 0) (by omega) (by omega) (by omega)) (cwS 3 hts gX7_isPosition_X7_in rfl rfl rfl jX7_in ⟨Nat.le_of_ble_eq_true rfl, Nat.le_of_ble_eq_true rfl⟩) hK rfl rfl (Nat.le_of_ble_eq_true rfl) dX7_isPosition_8 ?_
  exact z_top (zB (0 ≤ x ∧ x ≤ f 0)) rfl (hret dX7_isPosition_11)

abbrev rmX7_refuses : Room := { frames := 0, cells := 0, slots := 0, locals := 0 }
theorem jX7_refuses : yX7_refuses.cls = RX7 ∧ yX7_refuses.cls ≠ "java/lang/invoke/MethodHandle" ∧ yX7_refuses.cls ≠ "java/lang/invoke/VarHandle" ∧ (parseMethodDescriptor yX7_refuses.desc).map (fun d => d.parameters.length) = some 1 := by decide +kernel
set_option maxHeartbeats 4000000 in
set_option maxRecDepth 100000 in
theorem kX7_refuses_0 (l : Launch) (D : va_G) (cI cJ cS : ClassId) (m0 : Nat) (a : Nat → Nat) (ke th hs : Int) (f : Int → Int)  : Met l yX7_refuses wsX7_refuses rmX7_refuses (zPc D (zT cI cJ cS) [.ref m0, .int (zI (0))] [(m0, .inr (7, [.ref (a 0), .ref (a 1), .int (zI (ke)), .int (zI (th)), .ref (a 2), .ref (a 3), .ref (a 4), .ref (a 5), .ref (a 6), .ref (a 7), .ref (a 8), .long (zL (hs))]))]) (va_Qi (fun r _ => r = zI 1) (fun (u : Unit) t => va_P D vwCl [(m0, .inr (7, [.ref (a 0), .ref (a 1), .int (zI (ke)), .int (zI (1)), .ref (a 2), .ref (a 3), .ref (a 4), .ref (a 5), .ref (a 6), .ref (a 7), .ref (a 8), .long (zL (hs))]))] t.heap) (zAd [(m0, .inr (7, [.ref (a 0), .ref (a 1), .int (zI (ke)), .int (zI (th)), .ref (a 2), .ref (a 3), .ref (a 4), .ref (a 5), .ref (a 6), .ref (a 7), .ref (a 8), .long (zL (hs))]))])) 0 0 (zAd [(m0, .inr (7, [.ref (a 0), .ref (a 1), .int (zI (ke)), .int (zI (th)), .ref (a 2), .ref (a 3), .ref (a 4), .ref (a 5), .ref (a 6), .ref (a 7), .ref (a 8), .long (zL (hs))]))]) := by
  refine zWz_of (cc := cX7_refuses) (maxL := 2) (ret := (some .boolean)) (by decide) rfl (Nat.le_of_ble_eq_true rfl) rfl (fun r _ h => Or.inr h) ?_
  intro p e s m args below meth c Q A ls hx hb hml hts hown hK hP hD hS hl hret
  have in7 : ∀ w ∈ wsX70, w ∈ wsX7_refuses := by decide +kernel
  have f41 := hts (.fieldLink RX7 41 "SignalSpacingModel" "thrown" "I") (by decide +kernel)
  have hl : lv_has ls 2 [(0, .ref m0), (1, .int (zI (0)))] := hl
  have hP : va_P D vwCl [(m0, .inr (7, [.ref (a 0), .ref (a 1), .int (zI (ke)), .int (zI (th)), .ref (a 2), .ref (a 3), .ref (a 4), .ref (a 5), .ref (a 6), .ref (a 7), .ref (a 8), .long (zL (hs))]))] s.heap := hP
  refine lv_aload_n hx hb dX7_refuses_0 rfl (lv_at hl 0 rfl) ?_
  refine lv_iload_n hx hb dX7_refuses_1 rfl (lv_at hl 1 rfl) ?_
  refine z_if_eq (tgt := 9) hx hb dX7_refuses_2 (by decide) (by omega) (fun c2 => ?_) (fun c2 => ?_)
  · refine z_iconst hx hb dX7_refuses_9 ?_
    refine z_put (ci := 7) (v := .int (zI (1))) (ty := .int) (C := RX7) (F := TX7) (N := 12) hx hb hts in7 tyX7 tyX7_ok nmX7 hown hK hP hD hS 0 [(m0, .inr (7, [.ref (a 0), .ref (a 1), .int (zI (ke)), .int (zI (1)), .ref (a 2), .ref (a 3), .ref (a 4), .ref (a 5), .ref (a 6), .ref (a 7), .ref (a 8), .long (zL (hs))]))] rfl rfl 3 (by decide) f41 (fun _ h9 => h9) rfl (by decide +kernel) rfl rfl (Nat.le_of_ble_eq_true rfl) dX7_refuses_10 rfl (fun H locs hP hS => ?_)
    refine lv_iload_n hx hb dX7_refuses_13 rfl (lv_at hl 1 rfl) ?_
    refine z_if_ne (tgt := 21) hx hb dX7_refuses_14 (by decide) (by omega) (fun c14 => ?_) (fun c14 => ?_)
    · exfalso; omega
    · refine z_iconst hx hb dX7_refuses_17 ?_
      refine lv_goto (tgt := 22) hx hb dX7_refuses_18 (by decide) ?_
      exact hret () rfl hP hS dX7_refuses_22
  · exfalso; omega

set_option maxHeartbeats 4000000 in
set_option maxRecDepth 100000 in
theorem kX7_refuses_1 (l : Launch) (D : va_G) (cI cJ cS : ClassId) (m0 : Nat) (a : Nat → Nat) (ke th hs : Int) (f : Int → Int)  : Met l yX7_refuses wsX7_refuses rmX7_refuses (zPc D (zT cI cJ cS) [.ref m0, .int (zI (1))] [(m0, .inr (7, [.ref (a 0), .ref (a 1), .int (zI (ke)), .int (zI (th)), .ref (a 2), .ref (a 3), .ref (a 4), .ref (a 5), .ref (a 6), .ref (a 7), .ref (a 8), .long (zL (hs))]))]) (va_Qi (fun r _ => r = zI 0) (fun (u : Unit) t => va_P D vwCl [(m0, .inr (7, [.ref (a 0), .ref (a 1), .int (zI (ke)), .int (zI (0)), .ref (a 2), .ref (a 3), .ref (a 4), .ref (a 5), .ref (a 6), .ref (a 7), .ref (a 8), .long (zL (hs))]))] t.heap) (zAd [(m0, .inr (7, [.ref (a 0), .ref (a 1), .int (zI (ke)), .int (zI (th)), .ref (a 2), .ref (a 3), .ref (a 4), .ref (a 5), .ref (a 6), .ref (a 7), .ref (a 8), .long (zL (hs))]))])) 0 0 (zAd [(m0, .inr (7, [.ref (a 0), .ref (a 1), .int (zI (ke)), .int (zI (th)), .ref (a 2), .ref (a 3), .ref (a 4), .ref (a 5), .ref (a 6), .ref (a 7), .ref (a 8), .long (zL (hs))]))]) := by
  refine zWz_of (cc := cX7_refuses) (maxL := 2) (ret := (some .boolean)) (by decide) rfl (Nat.le_of_ble_eq_true rfl) rfl (fun r _ h => Or.inl h) ?_
  intro p e s m args below meth c Q A ls hx hb hml hts hown hK hP hD hS hl hret
  have in7 : ∀ w ∈ wsX70, w ∈ wsX7_refuses := by decide +kernel
  have f41 := hts (.fieldLink RX7 41 "SignalSpacingModel" "thrown" "I") (by decide +kernel)
  have hl : lv_has ls 2 [(0, .ref m0), (1, .int (zI (1)))] := hl
  have hP : va_P D vwCl [(m0, .inr (7, [.ref (a 0), .ref (a 1), .int (zI (ke)), .int (zI (th)), .ref (a 2), .ref (a 3), .ref (a 4), .ref (a 5), .ref (a 6), .ref (a 7), .ref (a 8), .long (zL (hs))]))] s.heap := hP
  refine lv_aload_n hx hb dX7_refuses_0 rfl (lv_at hl 0 rfl) ?_
  refine lv_iload_n hx hb dX7_refuses_1 rfl (lv_at hl 1 rfl) ?_
  refine z_if_eq (tgt := 9) hx hb dX7_refuses_2 (by decide) (by omega) (fun c2 => ?_) (fun c2 => ?_)
  · exfalso; omega
  · refine z_iconst hx hb dX7_refuses_5 ?_
    refine lv_goto (tgt := 10) hx hb dX7_refuses_6 (by decide) ?_
    refine z_put (ci := 7) (v := .int (zI (0))) (ty := .int) (C := RX7) (F := TX7) (N := 12) hx hb hts in7 tyX7 tyX7_ok nmX7 hown hK hP hD hS 0 [(m0, .inr (7, [.ref (a 0), .ref (a 1), .int (zI (ke)), .int (zI (0)), .ref (a 2), .ref (a 3), .ref (a 4), .ref (a 5), .ref (a 6), .ref (a 7), .ref (a 8), .long (zL (hs))]))] rfl rfl 3 (by decide) f41 (fun _ h9 => h9) rfl (by decide +kernel) rfl rfl (Nat.le_of_ble_eq_true rfl) dX7_refuses_10 rfl (fun H locs hP hS => ?_)
    refine lv_iload_n hx hb dX7_refuses_13 rfl (lv_at hl 1 rfl) ?_
    refine z_if_ne (tgt := 21) hx hb dX7_refuses_14 (by decide) (by omega) (fun c14 => ?_) (fun c14 => ?_)
    · refine z_iconst hx hb dX7_refuses_21 ?_
      exact hret () rfl hP hS dX7_refuses_22
    · exfalso; omega

abbrev rmX7_thrown : Room := { frames := 0, cells := 0, slots := 0, locals := 0 }
theorem jX7_thrown : yX7_thrown.cls = RX7 ∧ yX7_thrown.cls ≠ "java/lang/invoke/MethodHandle" ∧ yX7_thrown.cls ≠ "java/lang/invoke/VarHandle" ∧ (parseMethodDescriptor yX7_thrown.desc).map (fun d => d.parameters.length) = some 0 := by decide +kernel
set_option maxHeartbeats 4000000 in
set_option maxRecDepth 100000 in
theorem kX7_thrown (l : Launch) (D : va_G) (cI cJ cS : ClassId) (m0 : Nat) (a : Nat → Nat) (ke th hs : Int) (f : Int → Int)  : Met l yX7_thrown wsX7_thrown rmX7_thrown (zPc D (zT cI cJ cS) [.ref m0] [(m0, .inr (7, [.ref (a 0), .ref (a 1), .int (zI (ke)), .int (zI (th)), .ref (a 2), .ref (a 3), .ref (a 4), .ref (a 5), .ref (a 6), .ref (a 7), .ref (a 8), .long (zL (hs))]))]) (vp_Si (fun r => r = zI (th))) 0 0 (fun _ => False) := by
  refine zRi_of (cc := cX7_thrown) (maxL := 1) (ret := (some .int)) (th) (by decide) rfl (Nat.le_of_ble_eq_true rfl) rfl ?_
  intro p e s m args below meth c Q ls hx hb hml hts hown hK hP hD hl hret
  have in7 : ∀ w ∈ wsX70, w ∈ wsX7_thrown := by decide +kernel
  have f41 := hts (.fieldLink RX7 41 "SignalSpacingModel" "thrown" "I") (by decide +kernel)
  have hl : lv_has ls 1 [(0, .ref m0)] := hl
  have hP : va_P D vwCl [(m0, .inr (7, [.ref (a 0), .ref (a 1), .int (zI (ke)), .int (zI (th)), .ref (a 2), .ref (a 3), .ref (a 4), .ref (a 5), .ref (a 6), .ref (a 7), .ref (a 8), .long (zL (hs))]))] s.heap := hP
  refine lv_aload_n hx hb dX7_thrown_0 rfl (lv_at hl 0 rfl) ?_
  refine va_get (D := D) (ci := 7) (v := .int (zI (th))) (C := RX7) (T := TX7) (N := 12) hx hb hts in7 hown hK hP 0 rfl rfl 3 (by decide) f41 (fun _ h9 => h9) rfl dX7_thrown_1 ?_
  exact z_top (th) rfl (hret dX7_thrown_4)

theorem nl_step {g f : Int → Int} {x : Int} (h1 : 0 ≤ x ∧ x < 120) (hg : ∀ j : Int, g j = if 9 ≤ j ∧ j < 9 + x then 80 else if 129 ≤ j ∧ j < 129 + x then 0 else f j) : ∀ j : Int, zup (zup g (9 + x) 80) (129 + x) 0 j = if 9 ≤ j ∧ j < 9 + (x + 1) then 80 else if 129 ≤ j ∧ j < 129 + (x + 1) then 0 else f j := by
  intro j
  by_cases h7 : j = 129 + x
  · rw [h7, zup_at, if_neg (by omega), if_pos (by omega)]
  · rw [zup_ne h7]
    by_cases h8 : j = 9 + x
    · rw [h8, zup_at, if_pos (by omega)]
    · rw [zup_ne h8, hg j]
      by_cases q1 : 9 ≤ j ∧ j < 9 + x
      · rw [if_pos q1, if_pos (by omega)]
      · rw [if_neg q1, if_neg (show ¬ (9 ≤ j ∧ j < 9 + (x + 1)) by omega)]
        exact z_ifc (by omega)
theorem nl_end {g h f : Int → Int} (hg : ∀ j : Int, g j = if 9 ≤ j ∧ j < 9 + 120 then 80 else if 129 ≤ j ∧ j < 129 + 120 then 0 else f j) (hh : ∀ j : Int, h j = if 249 ≤ j ∧ j < 612 then 0 else g j) : ∀ j : Int, 0 ≤ j → j < 612 → h j = newl f (f 0) j := by
  intro j a b
  rw [hh j, hg j]
  unfold newl
  by_cases c1 : j = 0
  · rw [if_neg (by omega), if_neg (by omega), if_neg (by omega), if_pos c1, c1]
  · by_cases c2 : j < 9
    · rw [if_neg (by omega), if_neg (by omega), if_neg (by omega), if_neg c1, if_pos c2]
    · by_cases c3 : j < 129
      · rw [if_neg (by omega), if_pos (by omega), if_neg c1, if_neg c2, if_pos c3]
      · rw [if_neg c1, if_neg c2, if_neg c3]
        by_cases c4 : 249 ≤ j ∧ j < 612
        · rw [if_pos c4]
        · rw [if_neg c4, if_neg (by omega), if_pos (by omega)]

abbrev rmX7_newLine : Room := { frames := 0, cells := 0, slots := 0, locals := 0 }
theorem jX7_newLine : yX7_newLine.cls = RX7 ∧ yX7_newLine.cls ≠ "java/lang/invoke/MethodHandle" ∧ yX7_newLine.cls ≠ "java/lang/invoke/VarHandle" ∧ (parseMethodDescriptor yX7_newLine.desc).map (fun d => d.parameters.length) = some 0 := by decide +kernel
set_option maxHeartbeats 4000000 in
set_option maxRecDepth 100000 in
theorem kX7_newLine (l : Launch) (D : va_G) (cI cJ cS : ClassId) (m0 : Nat) (a : Nat → Nat) (ke th hs : Int) (f : Int → Int)  : Met l yX7_newLine wsX7_newLine rmX7_newLine (zPc D (zT cI cJ cS) [.ref m0] [(m0, .inr (7, [.ref (a 0), .ref (a 1), .int (zI (ke)), .int (zI (th)), .ref (a 2), .ref (a 3), .ref (a 4), .ref (a 5), .ref (a 6), .ref (a 7), .ref (a 8), .long (zL (hs))])), (a 0, .inl (cI, 612, .inl (zA f)))]) (va_Qv (fun _ => True) (fun (u : Unit) t => va_P D vwCl [(m0, .inr (7, [.ref (a 0), .ref (a 1), .int (zI (ke)), .int (zI (th)), .ref (a 2), .ref (a 3), .ref (a 4), .ref (a 5), .ref (a 6), .ref (a 7), .ref (a 8), .long (zL (hs))])), (a 0, .inl (cI, 612, .inl (zA (newl f (f 0)))))] t.heap) (zAd [(m0, .inr (7, [.ref (a 0), .ref (a 1), .int (zI (ke)), .int (zI (th)), .ref (a 2), .ref (a 3), .ref (a 4), .ref (a 5), .ref (a 6), .ref (a 7), .ref (a 8), .long (zL (hs))])), (a 0, .inl (cI, 612, .inl (zA f)))])) 0 0 (zAd [(m0, .inr (7, [.ref (a 0), .ref (a 1), .int (zI (ke)), .int (zI (th)), .ref (a 2), .ref (a 3), .ref (a 4), .ref (a 5), .ref (a 6), .ref (a 7), .ref (a 8), .long (zL (hs))])), (a 0, .inl (cI, 612, .inl (zA f)))]) := by
  refine zWv_of (cc := cX7_newLine) (maxL := 2) (ret := none) (by decide) rfl (Nat.le_of_ble_eq_true rfl) rfl ?_
  intro p e s m args below meth c Q A ls hx hb hml hts hown hK hP hD hS hl hret
  have in7 : ∀ w ∈ wsX70, w ∈ wsX7_newLine := by decide +kernel
  have f7 := hts (.fieldLink RX7 7 "SignalSpacingModel" "now" "[I") (by decide +kernel)
  have hl : lv_has ls 2 [(0, .ref m0)] := hl
  have hP : va_P D vwCl [(m0, .inr (7, [.ref (a 0), .ref (a 1), .int (zI (ke)), .int (zI (th)), .ref (a 2), .ref (a 3), .ref (a 4), .ref (a 5), .ref (a 6), .ref (a 7), .ref (a 8), .long (zL (hs))])), (a 0, .inl (cI, 612, .inl (zA f)))] s.heap := hP
  refine z_iconst hx hb dX7_newLine_0 ?_
  refine lv_istore_n (lv' := [(1, .int (zI (0))), (0, .ref m0)]) hx hb dX7_newLine_1 rfl hl (by decide) rfl (fun ls hl => ?_)
  have L2 : ∀ (fuel : Nat), ∀ (x : Int) (g : Int → Int), ∀ (h1 : 0 ≤ x ∧ x ≤ 120), ∀ (hg : ∀ j : Int, g j = if 9 ≤ j ∧ j < 9 + x then 80 else if 129 ≤ j ∧ j < 129 + x then 0 else f j), (120 - x).toNat < fuel → ∀ (H : Heap) (locs : List Loc), va_P D vwCl [(m0, .inr (7, [.ref (a 0), .ref (a 1), .int (zI (ke)), .int (zI (th)), .ref (a 2), .ref (a 3), .ref (a 4), .ref (a 5), .ref (a 6), .ref (a 7), .ref (a 8), .long (zL (hs))])), (a 0, .inl (cI, 612, .inl (zA g)))] H → va_S A s.heap H locs → ∀ (ls : Array Slot), lv_has ls 2 [(0, .ref m0), (1, .int (zI (x)))] → W p l e rmX7_newLine s m args below meth c H locs 0 0 Q (F0 m 2 ls []) := by
    intro fuel
    induction fuel with
    | zero =>
      intro x g h1 hg hm
      exact absurd hm (Nat.not_lt_zero _)
    | succ fuel ih2 =>
      intro x g h1 hg hm H locs hP hS ls hl
      refine lv_iload_n hx hb dX7_newLine_2 rfl (lv_at hl 1 rfl) ?_
      refine z_bipush hx hb dX7_newLine_3 (by decide +kernel) ?_
      refine z_icmp_ge (tgt := 36) hx hb dX7_newLine_5 (by decide) (by omega) (by omega) (fun c5 => ?_) (fun c5 => ?_)
      · refine z_sipush hx hb dX7_newLine_36 (by decide +kernel) ?_
        refine lv_istore_n (lv' := [(1, .int (zI (249))), (0, .ref m0)]) hx hb dX7_newLine_39 rfl hl (by decide) rfl (fun ls hl => ?_)
        have L40 : ∀ (fuel : Nat), ∀ (k : Int) (g2 : Int → Int), ∀ (h2 : 249 ≤ k ∧ k ≤ 612), ∀ (hg2 : ∀ j : Int, g2 j = if 249 ≤ j ∧ j < k then 0 else g j), (612 - k).toNat < fuel → ∀ (H : Heap) (locs : List Loc), va_P D vwCl [(m0, .inr (7, [.ref (a 0), .ref (a 1), .int (zI (ke)), .int (zI (th)), .ref (a 2), .ref (a 3), .ref (a 4), .ref (a 5), .ref (a 6), .ref (a 7), .ref (a 8), .long (zL (hs))])), (a 0, .inl (cI, 612, .inl (zA g2)))] H → va_S A s.heap H locs → ∀ (ls : Array Slot), lv_has ls 2 [(0, .ref m0), (1, .int (zI (k)))] → W p l e rmX7_newLine s m args below meth c H locs 0 0 Q (F0 m 40 ls []) := by
          intro fuel
          induction fuel with
          | zero =>
            intro k g2 h2 hg2 hm
            exact absurd hm (Nat.not_lt_zero _)
          | succ fuel ih40 =>
            intro k g2 h2 hg2 hm H locs hP hS ls hl
            refine lv_iload_n hx hb dX7_newLine_40 rfl (lv_at hl 1 rfl) ?_
            refine z_sipush hx hb dX7_newLine_41 (by decide +kernel) ?_
            refine z_icmp_ge (tgt := 60) hx hb dX7_newLine_44 (by decide) (by omega) (by omega) (fun c44 => ?_) (fun c44 => ?_)
            · have hx9 : x = 120 := by omega
              have hk9 : k = 612 := by omega
              rw [hx9] at hg
              rw [hk9] at hg2
              have hP := zre (g' := newl f (f 0)) 1 hP rfl (nl_end hg hg2)
              exact hret () trivial hP hS dX7_newLine_60
            · refine lv_aload_n hx hb dX7_newLine_47 rfl (lv_at hl 0 rfl) ?_
              refine va_get (D := D) (ci := 7) (v := .ref (a 0)) (C := RX7) (T := TX7) (N := 12) hx hb hts in7 hown hK hP 0 rfl rfl 0 (by decide) f7 (fun _ h9 => h9) rfl dX7_newLine_48 ?_
              refine lv_iload_n hx hb dX7_newLine_51 rfl (lv_at hl 1 rfl) ?_
              refine z_iconst hx hb dX7_newLine_52 ?_
              refine z_iast hx hb hK hP (zD hD rfl) hS 1 0 [(m0, .inr (7, [.ref (a 0), .ref (a 1), .int (zI (ke)), .int (zI (th)), .ref (a 2), .ref (a 3), .ref (a 4), .ref (a 5), .ref (a 6), .ref (a 7), .ref (a 8), .long (zL (hs))])), (a 0, .inl (cI, 612, .inl (zA (zup g2 k 0))))] rfl rfl (by omega) (Nat.lt_of_succ_le (Nat.le_of_ble_eq_true rfl)) rfl dX7_newLine_53 (fun H locs hP hS => ?_)
              refine z_iinc (lv' := [(1, .int (zI (k + 1))), (0, .ref m0)]) hx hb 1 (k + 1) dX7_newLine_54 hl rfl (by omega) (by decide) rfl (fun ls hl => ?_)
              refine lv_goto (tgt := 40) hx hb dX7_newLine_57 (by decide) ?_
              exact ih40 (k + 1) (zup g2 k 0) (by omega) (fun j => if h7 : j = k then (by rw [h7, zup_at, if_pos (by omega)]) else (by rw [zup_ne h7, hg2 j]; exact z_ifc (by omega))) (by omega) _ _ hP hS ls (lv_sub hl [1, 0] rfl)
        exact L40 _ 249 g (by omega) (fun j => by rw [if_neg (by omega)]) (Nat.lt_succ_self _) _ _ hP hS ls (lv_sub hl [1, 0] rfl)
      · refine lv_aload_n hx hb dX7_newLine_8 rfl (lv_at hl 0 rfl) ?_
        refine va_get (D := D) (ci := 7) (v := .ref (a 0)) (C := RX7) (T := TX7) (N := 12) hx hb hts in7 hown hK hP 0 rfl rfl 0 (by decide) f7 (fun _ h9 => h9) rfl dX7_newLine_9 ?_
        refine z_bipush hx hb dX7_newLine_12 (by decide +kernel) ?_
        refine lv_iload_n hx hb dX7_newLine_14 rfl (lv_at hl 1 rfl) ?_
        refine z_iadd hx hb dX7_newLine_15 ?_
        refine z_bipush hx hb dX7_newLine_16 (by decide +kernel) ?_
        refine z_iast hx hb hK hP (zD hD rfl) hS 1 0 [(m0, .inr (7, [.ref (a 0), .ref (a 1), .int (zI (ke)), .int (zI (th)), .ref (a 2), .ref (a 3), .ref (a 4), .ref (a 5), .ref (a 6), .ref (a 7), .ref (a 8), .long (zL (hs))])), (a 0, .inl (cI, 612, .inl (zA (zup g (9 + x) 80))))] rfl rfl (by omega) (Nat.lt_of_succ_le (Nat.le_of_ble_eq_true rfl)) rfl dX7_newLine_18 (fun H locs hP hS => ?_)
        refine lv_aload_n hx hb dX7_newLine_19 rfl (lv_at hl 0 rfl) ?_
        refine va_get (D := D) (ci := 7) (v := .ref (a 0)) (C := RX7) (T := TX7) (N := 12) hx hb hts in7 hown hK hP 0 rfl rfl 0 (by decide) f7 (fun _ h9 => h9) rfl dX7_newLine_20 ?_
        refine z_sipush hx hb dX7_newLine_23 (by decide +kernel) ?_
        refine lv_iload_n hx hb dX7_newLine_26 rfl (lv_at hl 1 rfl) ?_
        refine z_iadd hx hb dX7_newLine_27 ?_
        refine z_iconst hx hb dX7_newLine_28 ?_
        refine z_iast hx hb hK hP (zD hD rfl) hS 1 0 [(m0, .inr (7, [.ref (a 0), .ref (a 1), .int (zI (ke)), .int (zI (th)), .ref (a 2), .ref (a 3), .ref (a 4), .ref (a 5), .ref (a 6), .ref (a 7), .ref (a 8), .long (zL (hs))])), (a 0, .inl (cI, 612, .inl (zA (zup (zup g (9 + x) 80) (129 + x) 0))))] rfl rfl (by omega) (Nat.lt_of_succ_le (Nat.le_of_ble_eq_true rfl)) rfl dX7_newLine_29 (fun H locs hP hS => ?_)
        refine z_iinc (lv' := [(1, .int (zI (x + 1))), (0, .ref m0)]) hx hb 1 (x + 1) dX7_newLine_30 hl rfl (by omega) (by decide) rfl (fun ls hl => ?_)
        refine lv_goto (tgt := 2) hx hb dX7_newLine_33 (by decide) ?_
        exact ih2 (x + 1) (zup (zup g (9 + x) 80) (129 + x) 0) (by omega) (nl_step (by omega) hg) (by omega) _ _ hP hS ls (lv_sub hl [1, 0] rfl)
  exact L2 _ 0 f (by omega) (fun j => by rw [if_neg (by omega), if_neg (by omega)]) (Nat.lt_succ_self _) _ _ hP hS ls (lv_sub hl [1, 0] rfl)

abbrev rmX7_keep : Room := { frames := 0, cells := 0, slots := 0, locals := 0 }
theorem jX7_keep : yX7_keep.cls = RX7 ∧ yX7_keep.cls ≠ "java/lang/invoke/MethodHandle" ∧ yX7_keep.cls ≠ "java/lang/invoke/VarHandle" ∧ (parseMethodDescriptor yX7_keep.desc).map (fun d => d.parameters.length) = some 0 := by decide +kernel
set_option maxHeartbeats 4000000 in
set_option maxRecDepth 100000 in
theorem kX7_keep (l : Launch) (D : va_G) (cI cJ cS : ClassId) (m0 : Nat) (a : Nat → Nat) (ke th hs : Int) (f : Int → Int) (gp : Int → Int) (hke : 0 ≤ ke ∧ ke ≤ 4) : Met l yX7_keep wsX7_keep rmX7_keep (zPc D (zT cI cJ cS) [.ref m0] [(m0, .inr (7, [.ref (a 0), .ref (a 1), .int (zI (ke)), .int (zI (th)), .ref (a 2), .ref (a 3), .ref (a 4), .ref (a 5), .ref (a 6), .ref (a 7), .ref (a 8), .long (zL (hs))])), (a 0, .inl (cI, 612, .inl (zA f))), (a 1, .inl (cI, 2448, .inl (zA gp)))]) (va_Qv (fun _ => True) (fun (u : Unit) t => va_P D vwCl [(m0, .inr (7, [.ref (a 0), .ref (a 1), .int (zI (cnS ke)), .int (zI (th)), .ref (a 2), .ref (a 3), .ref (a 4), .ref (a 5), .ref (a 6), .ref (a 7), .ref (a 8), .long (zL (hs))])), (a 0, .inl (cI, 612, .inl (zA f))), (a 1, .inl (cI, 2448, .inl (zA (kpF gp f ke))))] t.heap) (zAd [(m0, .inr (7, [.ref (a 0), .ref (a 1), .int (zI (ke)), .int (zI (th)), .ref (a 2), .ref (a 3), .ref (a 4), .ref (a 5), .ref (a 6), .ref (a 7), .ref (a 8), .long (zL (hs))])), (a 0, .inl (cI, 612, .inl (zA f))), (a 1, .inl (cI, 2448, .inl (zA gp)))])) 0 0 (zAd [(m0, .inr (7, [.ref (a 0), .ref (a 1), .int (zI (ke)), .int (zI (th)), .ref (a 2), .ref (a 3), .ref (a 4), .ref (a 5), .ref (a 6), .ref (a 7), .ref (a 8), .long (zL (hs))])), (a 0, .inl (cI, 612, .inl (zA f))), (a 1, .inl (cI, 2448, .inl (zA gp)))]) := by
  refine zWv_of (cc := cX7_keep) (maxL := 2) (ret := none) (by decide) rfl (Nat.le_of_ble_eq_true rfl) rfl ?_
  intro p e s m args below meth c Q A ls hx hb hml hts hown hK hP hD hS hl hret
  have in7 : ∀ w ∈ wsX70, w ∈ wsX7_keep := by decide +kernel
  have f7 := hts (.fieldLink RX7 7 "SignalSpacingModel" "now" "[I") (by decide +kernel)
  have f13 := hts (.fieldLink RX7 13 "SignalSpacingModel" "past" "[I") (by decide +kernel)
  have f45 := hts (.fieldLink RX7 45 "SignalSpacingModel" "kept" "I") (by decide +kernel)
  have hl : lv_has ls 2 [(0, .ref m0)] := hl
  have hP : va_P D vwCl [(m0, .inr (7, [.ref (a 0), .ref (a 1), .int (zI (ke)), .int (zI (th)), .ref (a 2), .ref (a 3), .ref (a 4), .ref (a 5), .ref (a 6), .ref (a 7), .ref (a 8), .long (zL (hs))])), (a 0, .inl (cI, 612, .inl (zA f))), (a 1, .inl (cI, 2448, .inl (zA gp)))] s.heap := hP
  refine lv_aload_n hx hb dX7_keep_0 rfl (lv_at hl 0 rfl) ?_
  refine va_get (D := D) (ci := 7) (v := .int (zI (ke))) (C := RX7) (T := TX7) (N := 12) hx hb hts in7 hown hK hP 0 rfl rfl 2 (by decide) f45 (fun _ h9 => h9) rfl dX7_keep_1 ?_
  refine z_iconst hx hb dX7_keep_4 ?_
  have J49 : ∀ (k2 : Int) (g : Int → Int), ∀ (hk2 : 0 ≤ k2 ∧ k2 ≤ 3), ∀ (hrel : (ke = 4 ∧ k2 = 3 ∧ ∀ j : Int, 0 ≤ j → j < 1836 → g j = gp (j + 612)) ∨ (ke ≠ 4 ∧ k2 = ke ∧ ∀ j : Int, g j = gp j)), ∀ (H : Heap) (locs : List Loc), va_P D vwCl [(m0, .inr (7, [.ref (a 0), .ref (a 1), .int (zI (k2)), .int (zI (th)), .ref (a 2), .ref (a 3), .ref (a 4), .ref (a 5), .ref (a 6), .ref (a 7), .ref (a 8), .long (zL (hs))])), (a 0, .inl (cI, 612, .inl (zA f))), (a 1, .inl (cI, 2448, .inl (zA g)))] H → va_S A s.heap H locs → ∀ (ls : Array Slot), lv_has ls 2 [(0, .ref m0)] → W p l e rmX7_keep s m args below meth c H locs 0 0 Q (F0 m 49 ls []) := by
    intro k2 g hk2 hrel H locs hP hS ls hl
    refine z_iconst hx hb dX7_keep_49 ?_
    refine lv_istore_n (lv' := [(1, .int (zI (0))), (0, .ref m0)]) hx hb dX7_keep_50 rfl hl (by decide) rfl (fun ls hl => ?_)
    have L51 : ∀ (fuel : Nat), ∀ (i : Int) (g3 : Int → Int), ∀ (h3 : 0 ≤ i ∧ i ≤ 612), ∀ (hg3 : ∀ j : Int, g3 j = if 612 * k2 ≤ j ∧ j < 612 * k2 + i then f (j - 612 * k2) else g j), (612 - i).toNat < fuel → ∀ (H : Heap) (locs : List Loc), va_P D vwCl [(m0, .inr (7, [.ref (a 0), .ref (a 1), .int (zI (k2)), .int (zI (th)), .ref (a 2), .ref (a 3), .ref (a 4), .ref (a 5), .ref (a 6), .ref (a 7), .ref (a 8), .long (zL (hs))])), (a 0, .inl (cI, 612, .inl (zA f))), (a 1, .inl (cI, 2448, .inl (zA g3)))] H → va_S A s.heap H locs → ∀ (ls : Array Slot), lv_has ls 2 [(0, .ref m0), (1, .int (zI (i)))] → W p l e rmX7_keep s m args below meth c H locs 0 0 Q (F0 m 51 ls []) := by
      intro fuel
      induction fuel with
      | zero =>
        intro i g3 h3 hg3 hm
        exact absurd hm (Nat.not_lt_zero _)
      | succ fuel ih51 =>
        intro i g3 h3 hg3 hm H locs hP hS ls hl
        refine lv_iload_n hx hb dX7_keep_51 rfl (lv_at hl 1 rfl) ?_
        refine z_sipush hx hb dX7_keep_52 (by decide +kernel) ?_
        refine z_icmp_ge (tgt := 85) hx hb dX7_keep_55 (by decide) (by omega) (by omega) (fun c55 => ?_) (fun c55 => ?_)
        · refine lv_aload_n hx hb dX7_keep_85 rfl (lv_at hl 0 rfl) ?_
          refine lv_dup hx hb dX7_keep_86 rfl ?_
          refine va_get (D := D) (ci := 7) (v := .int (zI (k2))) (C := RX7) (T := TX7) (N := 12) hx hb hts in7 hown hK hP 0 rfl rfl 2 (by decide) f45 (fun _ h9 => h9) rfl dX7_keep_87 ?_
          refine z_iconst hx hb dX7_keep_90 ?_
          refine z_iadd hx hb dX7_keep_91 ?_
          refine z_put (ci := 7) (v := .int (zI (k2 + 1))) (ty := .int) (C := RX7) (F := TX7) (N := 12) hx hb hts in7 tyX7 tyX7_ok nmX7 hown hK hP (zD hD rfl) hS 0 [(m0, .inr (7, [.ref (a 0), .ref (a 1), .int (zI (k2 + 1)), .int (zI (th)), .ref (a 2), .ref (a 3), .ref (a 4), .ref (a 5), .ref (a 6), .ref (a 7), .ref (a 8), .long (zL (hs))])), (a 0, .inl (cI, 612, .inl (zA f))), (a 1, .inl (cI, 2448, .inl (zA g3)))] rfl rfl 2 (by decide) f45 (fun _ h9 => h9) rfl (by decide +kernel) rfl rfl (Nat.le_of_ble_eq_true rfl) dX7_keep_92 rfl (fun H locs hP hS => ?_)
          have hi9 : i = 612 := by omega
          rw [hi9] at hg3
          have hP := zre (g' := kpF gp f ke) 2 hP rfl (fun j q1 q2 => by
            rw [hg3 j]
            unfold kpF
            rcases hrel with ⟨r1, r2, r3⟩ | ⟨r1, r2, r3⟩
            · rw [if_pos r1, r2]
              by_cases hj : j < 1836
              · rw [if_neg (by omega), if_pos hj]; exact r3 j q1 hj
              · rw [if_pos (by omega), if_neg hj]; rfl
            · rw [if_neg r1, r2, r3 j])
          have hkk : k2 + 1 = cnS ke := by unfold cnS; split <;> omega
          rw [hkk] at hP
          exact hret () trivial hP hS dX7_keep_95
        · refine lv_aload_n hx hb dX7_keep_58 rfl (lv_at hl 0 rfl) ?_
          refine va_get (D := D) (ci := 7) (v := .ref (a 1)) (C := RX7) (T := TX7) (N := 12) hx hb hts in7 hown hK hP 0 rfl rfl 1 (by decide) f13 (fun _ h9 => h9) rfl dX7_keep_59 ?_
          refine z_sipush hx hb dX7_keep_62 (by decide +kernel) ?_
          refine lv_aload_n hx hb dX7_keep_65 rfl (lv_at hl 0 rfl) ?_
          refine va_get (D := D) (ci := 7) (v := .int (zI (k2))) (C := RX7) (T := TX7) (N := 12) hx hb hts in7 hown hK hP 0 rfl rfl 2 (by decide) f45 (fun _ h9 => h9) rfl dX7_keep_66 ?_
          refine z_imul hx hb dX7_keep_69 ?_
          refine lv_iload_n hx hb dX7_keep_70 rfl (lv_at hl 1 rfl) ?_
          refine z_iadd hx hb dX7_keep_71 ?_
          refine lv_aload_n hx hb dX7_keep_72 rfl (lv_at hl 0 rfl) ?_
          refine va_get (D := D) (ci := 7) (v := .ref (a 0)) (C := RX7) (T := TX7) (N := 12) hx hb hts in7 hown hK hP 0 rfl rfl 0 (by decide) f7 (fun _ h9 => h9) rfl dX7_keep_73 ?_
          refine lv_iload_n hx hb dX7_keep_76 rfl (lv_at hl 1 rfl) ?_
          refine z_iald hx hb hK hP 1 0 rfl rfl (by omega) (Nat.lt_of_succ_le (Nat.le_of_ble_eq_true rfl)) dX7_keep_77 ?_
          refine z_iast hx hb hK hP (zD hD rfl) hS 2 0 [(m0, .inr (7, [.ref (a 0), .ref (a 1), .int (zI (k2)), .int (zI (th)), .ref (a 2), .ref (a 3), .ref (a 4), .ref (a 5), .ref (a 6), .ref (a 7), .ref (a 8), .long (zL (hs))])), (a 0, .inl (cI, 612, .inl (zA f))), (a 1, .inl (cI, 2448, .inl (zA (zup g3 ((612 * k2) + i) (f i)))))] rfl rfl (by omega) (Nat.lt_of_succ_le (Nat.le_of_ble_eq_true rfl)) rfl dX7_keep_78 (fun H locs hP hS => ?_)
          refine z_iinc (lv' := [(1, .int (zI (i + 1))), (0, .ref m0)]) hx hb 1 (i + 1) dX7_keep_79 hl rfl (by omega) (by decide) rfl (fun ls hl => ?_)
          refine lv_goto (tgt := 51) hx hb dX7_keep_82 (by decide) ?_
          exact ih51 (i + 1) (zup g3 ((612 * k2) + i) (f i)) (by omega) (fun j => if h7 : j = 612 * k2 + i then (by rw [h7, zup_at, if_pos (by omega), show 612 * k2 + i - 612 * k2 = i by omega]) else (by rw [zup_ne h7, hg3 j]; exact z_ifc (by omega))) (by omega) _ _ hP hS ls (lv_sub hl [1, 0] rfl)
    exact L51 _ 0 g (by omega) (fun j => by rw [if_neg (by omega)]) (Nat.lt_succ_self _) _ _ hP hS ls (lv_sub hl [1, 0] rfl)
  refine z_icmp_ne (tgt := 49) hx hb dX7_keep_5 (by decide) (by omega) (by omega) (fun c5 => ?_) (fun c5 => ?_)
  · exact J49 ke gp (by omega) (Or.inr ⟨c5, rfl, fun j => rfl⟩) _ _ hP hS ls (lv_sub hl [0] rfl)
  · refine z_iconst hx hb dX7_keep_8 ?_
    refine lv_istore_n (lv' := [(1, .int (zI (0))), (0, .ref m0)]) hx hb dX7_keep_9 rfl hl (by decide) rfl (fun ls hl => ?_)
    have L10 : ∀ (fuel : Nat), ∀ (i : Int) (g1 : Int → Int), ∀ (h1 : 0 ≤ i ∧ i ≤ 1836), ∀ (hs1 : ∀ j : Int, 0 ≤ j → j < i → g1 j = gp (j + 612) ∧ True), ∀ (hs2 : ∀ j : Int, i ≤ j → g1 j = gp j), (1836 - i).toNat < fuel → ∀ (H : Heap) (locs : List Loc), va_P D vwCl [(m0, .inr (7, [.ref (a 0), .ref (a 1), .int (zI (ke)), .int (zI (th)), .ref (a 2), .ref (a 3), .ref (a 4), .ref (a 5), .ref (a 6), .ref (a 7), .ref (a 8), .long (zL (hs))])), (a 0, .inl (cI, 612, .inl (zA f))), (a 1, .inl (cI, 2448, .inl (zA g1)))] H → va_S A s.heap H locs → ∀ (ls : Array Slot), lv_has ls 2 [(0, .ref m0), (1, .int (zI (i)))] → W p l e rmX7_keep s m args below meth c H locs 0 0 Q (F0 m 10 ls []) := by
      intro fuel
      induction fuel with
      | zero =>
        intro i g1 h1 hs1 hs2 hm
        exact absurd hm (Nat.not_lt_zero _)
      | succ fuel ih10 =>
        intro i g1 h1 hs1 hs2 hm H locs hP hS ls hl
        refine lv_iload_n hx hb dX7_keep_10 rfl (lv_at hl 1 rfl) ?_
        refine z_sipush hx hb dX7_keep_11 (by decide +kernel) ?_
        refine z_icmp_ge (tgt := 39) hx hb dX7_keep_14 (by decide) (by omega) (by omega) (fun c14 => ?_) (fun c14 => ?_)
        · refine lv_aload_n hx hb dX7_keep_39 rfl (lv_at hl 0 rfl) ?_
          refine lv_dup hx hb dX7_keep_40 rfl ?_
          refine va_get (D := D) (ci := 7) (v := .int (zI (ke))) (C := RX7) (T := TX7) (N := 12) hx hb hts in7 hown hK hP 0 rfl rfl 2 (by decide) f45 (fun _ h9 => h9) rfl dX7_keep_41 ?_
          refine z_iconst hx hb dX7_keep_44 ?_
          refine z_isub hx hb dX7_keep_45 ?_
          refine z_put (ci := 7) (v := .int (zI (ke - 1))) (ty := .int) (C := RX7) (F := TX7) (N := 12) hx hb hts in7 tyX7 tyX7_ok nmX7 hown hK hP (zD hD rfl) hS 0 [(m0, .inr (7, [.ref (a 0), .ref (a 1), .int (zI (ke - 1)), .int (zI (th)), .ref (a 2), .ref (a 3), .ref (a 4), .ref (a 5), .ref (a 6), .ref (a 7), .ref (a 8), .long (zL (hs))])), (a 0, .inl (cI, 612, .inl (zA f))), (a 1, .inl (cI, 2448, .inl (zA g1)))] rfl rfl 2 (by decide) f45 (fun _ h9 => h9) rfl (by decide +kernel) rfl rfl (Nat.le_of_ble_eq_true rfl) dX7_keep_46 rfl (fun H locs hP hS => ?_)
          exact J49 (ke - 1) g1 (by omega) (Or.inl ⟨c5, by omega, fun j q1 q2 => (hs1 j q1 (by omega)).1⟩) _ _ hP hS ls (lv_sub hl [0] rfl)
        · refine lv_aload_n hx hb dX7_keep_17 rfl (lv_at hl 0 rfl) ?_
          refine va_get (D := D) (ci := 7) (v := .ref (a 1)) (C := RX7) (T := TX7) (N := 12) hx hb hts in7 hown hK hP 0 rfl rfl 1 (by decide) f13 (fun _ h9 => h9) rfl dX7_keep_18 ?_
          refine lv_iload_n hx hb dX7_keep_21 rfl (lv_at hl 1 rfl) ?_
          refine lv_aload_n hx hb dX7_keep_22 rfl (lv_at hl 0 rfl) ?_
          refine va_get (D := D) (ci := 7) (v := .ref (a 1)) (C := RX7) (T := TX7) (N := 12) hx hb hts in7 hown hK hP 0 rfl rfl 1 (by decide) f13 (fun _ h9 => h9) rfl dX7_keep_23 ?_
          refine lv_iload_n hx hb dX7_keep_26 rfl (lv_at hl 1 rfl) ?_
          refine z_sipush hx hb dX7_keep_27 (by decide +kernel) ?_
          refine z_iadd hx hb dX7_keep_30 ?_
          refine z_iald hx hb hK hP 2 0 rfl rfl (by omega) (Nat.lt_of_succ_le (Nat.le_of_ble_eq_true rfl)) dX7_keep_31 ?_
          refine z_iast hx hb hK hP (zD hD rfl) hS 2 0 [(m0, .inr (7, [.ref (a 0), .ref (a 1), .int (zI (ke)), .int (zI (th)), .ref (a 2), .ref (a 3), .ref (a 4), .ref (a 5), .ref (a 6), .ref (a 7), .ref (a 8), .long (zL (hs))])), (a 0, .inl (cI, 612, .inl (zA f))), (a 1, .inl (cI, 2448, .inl (zA (zup g1 i (g1 (i + 612))))))] rfl rfl (by omega) (Nat.lt_of_succ_le (Nat.le_of_ble_eq_true rfl)) rfl dX7_keep_32 (fun H locs hP hS => ?_)
          refine z_iinc (lv' := [(1, .int (zI (i + 1))), (0, .ref m0)]) hx hb 1 (i + 1) dX7_keep_33 hl rfl (by omega) (by decide) rfl (fun ls hl => ?_)
          refine lv_goto (tgt := 10) hx hb dX7_keep_36 (by decide) ?_
          exact ih10 (i + 1) (zup g1 i (g1 (i + 612))) (by omega) (fun j q1 q2 => if hj : j = i then ⟨by rw [hj, zup_at]; exact hs2 _ (by omega), trivial⟩ else ⟨by rw [zup_ne hj]; exact (hs1 j q1 (by omega)).1, trivial⟩) (fun j q1 => by rw [zup_ne (by omega)]; exact hs2 j (by omega)) (by omega) _ _ hP hS ls (lv_sub hl [1, 0] rfl)
    exact L10 _ 0 gp (by omega) (fun j q1 q2 => by omega) (fun j _ => rfl) (Nat.lt_succ_self _) _ _ hP hS ls (lv_sub hl [1, 0] rfl)

abbrev rmX7_spread : Room := { frames := 1, cells := 0, slots := 0, locals := 21 }
theorem jX7_spread : yX7_spread.cls = RX7 ∧ yX7_spread.cls ≠ "java/lang/invoke/MethodHandle" ∧ yX7_spread.cls ≠ "java/lang/invoke/VarHandle" ∧ (parseMethodDescriptor yX7_spread.desc).map (fun d => d.parameters.length) = some 4 := by decide +kernel
set_option maxHeartbeats 4000000 in
set_option maxRecDepth 100000 in
theorem kX7_spread (l : Launch) (D : va_G) (cI cJ cS : ClassId) (m0 : Nat) (a : Nat → Nat) (ke th hs : Int) (f : Int → Int) (gp : Int → Int) (o x z v : Int) (hke : 0 ≤ ke ∧ ke ≤ 4) (h1 : 0 ≤ o ∧ 0 ≤ x ∧ x ≤ z + 1 ∧ o + z < 612) (hv : -2147483648 ≤ v ∧ v < 2147483648) (hfr : ∀ j : Int, 0 ≤ j → j < 612 → -2147483648 ≤ f j ∧ f j < 2147483648) : Met l yX7_spread wsX7_spread rmX7_spread (zPc D (zT cI cJ cS) [.ref m0, .int (zI (o)), .int (zI (x)), .int (zI (z)), .int (zI (v))] [(m0, .inr (7, [.ref (a 0), .ref (a 1), .int (zI (ke)), .int (zI (th)), .ref (a 2), .ref (a 3), .ref (a 4), .ref (a 5), .ref (a 6), .ref (a 7), .ref (a 8), .long (zL (hs))])), (a 0, .inl (cI, 612, .inl (zA f))), (a 1, .inl (cI, 2448, .inl (zA gp)))]) (va_Qi (fun r _ => r = zI (zcnt f v (o + x) (z + 1 - x).toNat)) (fun (u : Unit) t => va_P D vwCl [(m0, .inr (7, [.ref (a 0), .ref (a 1), .int (zI (cnS ke)), .int (zI (th)), .ref (a 2), .ref (a 3), .ref (a 4), .ref (a 5), .ref (a 6), .ref (a 7), .ref (a 8), .long (zL (hs))])), (a 0, .inl (cI, 612, .inl (zA (zfill f (o + x) (o + z) v)))), (a 1, .inl (cI, 2448, .inl (zA (kpF gp f ke))))] t.heap) (zAd [(m0, .inr (7, [.ref (a 0), .ref (a 1), .int (zI (ke)), .int (zI (th)), .ref (a 2), .ref (a 3), .ref (a 4), .ref (a 5), .ref (a 6), .ref (a 7), .ref (a 8), .long (zL (hs))])), (a 0, .inl (cI, 612, .inl (zA f))), (a 1, .inl (cI, 2448, .inl (zA gp)))])) 0 0 (zAd [(m0, .inr (7, [.ref (a 0), .ref (a 1), .int (zI (ke)), .int (zI (th)), .ref (a 2), .ref (a 3), .ref (a 4), .ref (a 5), .ref (a 6), .ref (a 7), .ref (a 8), .long (zL (hs))])), (a 0, .inl (cI, 612, .inl (zA f))), (a 1, .inl (cI, 2448, .inl (zA gp)))]) := by
  refine zWi_of (cc := cX7_spread) (maxL := 7) (ret := (some .int)) (by decide) rfl (Nat.le_of_ble_eq_true rfl) rfl ?_
  intro p e s m args below meth c Q A ls hx hb hml hts hown hK hP hD hS hl hret
  have in7 : ∀ w ∈ wsX70, w ∈ wsX7_spread := by decide +kernel
  have f7 := hts (.fieldLink RX7 7 "SignalSpacingModel" "now" "[I") (by decide +kernel)
  have hl : lv_has ls 7 [(0, .ref m0), (1, .int (zI (o))), (2, .int (zI (x))), (3, .int (zI (z))), (4, .int (zI (v)))] := hl
  have hP : va_P D vwCl [(m0, .inr (7, [.ref (a 0), .ref (a 1), .int (zI (ke)), .int (zI (th)), .ref (a 2), .ref (a 3), .ref (a 4), .ref (a 5), .ref (a 6), .ref (a 7), .ref (a 8), .long (zL (hs))])), (a 0, .inl (cI, 612, .inl (zA f))), (a 1, .inl (cI, 2448, .inl (zA gp)))] s.heap := hP
  refine lv_aload_n hx hb dX7_spread_0 rfl (lv_at hl 0 rfl) ?_
  refine y_wVv (As := []) (rest := []) (fun (u1 : Unit) => [(m0, .inr (7, [.ref (a 0), .ref (a 1), .int (zI (cnS ke)), .int (zI (th)), .ref (a 2), .ref (a 3), .ref (a 4), .ref (a 5), .ref (a 6), .ref (a 7), .ref (a 8), .long (zL (hs))])), (a 0, .inl (cI, 612, .inl (zA f))), (a 1, .inl (cI, 2448, .inl (zA (kpF gp f ke))))]) hx hb hml hown hts hl.1 ⟨Nat.zero_le _, Nat.zero_le _⟩ (kX7_keep l D cI cJ cS m0 a ke th hs f gp hke) (cwV 0 hts gX7_spread_X7_keep rfl rfl rfl jX7_keep ⟨Nat.le_of_ble_eq_true rfl, Nat.le_of_ble_eq_true rfl⟩) hK [true, true, true] hP hD hS rfl (fun _ => rfl) (fun _ => rfl) 7 0 rfl rfl rfl rfl rfl (Nat.le_of_ble_eq_true rfl) dX7_spread_1 (fun u1 H locs hu1 hP hS => ?_)
  refine z_iconst hx hb dX7_spread_4 ?_
  refine lv_istore (lv' := [(5, .int (zI (0))), (0, .ref m0), (1, .int (zI (o))), (2, .int (zI (x))), (3, .int (zI (z))), (4, .int (zI (v)))]) hx hb dX7_spread_5 hl (by decide) rfl (fun ls hl => ?_)
  refine lv_iload_n hx hb dX7_spread_7 rfl (lv_at hl 2 rfl) ?_
  refine lv_iload_n hx hb dX7_spread_8 rfl (lv_at hl 3 rfl) ?_
  refine z_iadd hx hb dX7_spread_9 ?_
  refine lv_istore (lv' := [(6, .int (zI (o + x))), (5, .int (zI (0))), (0, .ref m0), (1, .int (zI (o))), (2, .int (zI (x))), (3, .int (zI (z))), (4, .int (zI (v)))]) hx hb dX7_spread_10 hl (by decide) rfl (fun ls hl => ?_)
  have L12 : ∀ (fuel : Nat), ∀ (t : Int) (i : Int) (g : Int → Int), ∀ (h3 : o + x ≤ i ∧ i ≤ o + z + 1), ∀ (ht : t = zcnt f v (o + x) (i - (o + x)).toNat), ∀ (hg : ∀ j : Int, g j = if o + x ≤ j ∧ j < i then v else f j), (o + z + 1 - i).toNat < fuel → ∀ (H : Heap) (locs : List Loc), va_P D vwCl [(m0, .inr (7, [.ref (a 0), .ref (a 1), .int (zI (cnS ke)), .int (zI (th)), .ref (a 2), .ref (a 3), .ref (a 4), .ref (a 5), .ref (a 6), .ref (a 7), .ref (a 8), .long (zL (hs))])), (a 0, .inl (cI, 612, .inl (zA g))), (a 1, .inl (cI, 2448, .inl (zA (kpF gp f ke))))] H → va_S A s.heap H locs → ∀ (ls : Array Slot), lv_has ls 7 [(0, .ref m0), (1, .int (zI (o))), (2, .int (zI (x))), (3, .int (zI (z))), (4, .int (zI (v))), (5, .int (zI (t))), (6, .int (zI (i)))] → W p l e rmX7_spread s m args below meth c H locs 0 0 Q (F0 m 12 ls []) := by
    intro fuel
    induction fuel with
    | zero =>
      intro t i g h3 ht hg hm
      exact absurd hm (Nat.not_lt_zero _)
    | succ fuel ih12 =>
      intro t i g h3 ht hg hm H locs hP hS ls hl
      refine lv_iload hx hb dX7_spread_12 (lv_at hl 6 rfl) ?_
      refine lv_iload_n hx hb dX7_spread_14 rfl (lv_at hl 1 rfl) ?_
      refine lv_iload_n hx hb dX7_spread_15 rfl (lv_at hl 3 rfl) ?_
      refine z_iadd hx hb dX7_spread_16 ?_
      refine z_icmp_gt (tgt := 57) hx hb dX7_spread_17 (by decide) (by omega) (by omega) (fun c17 => ?_) (fun c17 => ?_)
      · refine lv_iload hx hb dX7_spread_57 (lv_at hl 5 rfl) ?_
        have hi9 : i = o + z + 1 := by omega
        have hP := zre (g' := zfill f (o + x) (o + z) v) 1 hP rfl (fun j q1 q2 => by rw [hg j]; unfold zfill; exact z_ifc (by omega))
        exact hret () (by rw [ht, hi9, show o + z + 1 - (o + x) = z + 1 - x by omega]) hP hS dX7_spread_59
      · refine lv_iload hx hb dX7_spread_20 (lv_at hl 5 rfl) ?_
        refine lv_aload_n hx hb dX7_spread_22 rfl (lv_at hl 0 rfl) ?_
        refine va_get (D := D) (ci := 7) (v := .ref (a 0)) (C := RX7) (T := TX7) (N := 12) hx hb hts in7 hown hK hP 0 rfl rfl 0 (by decide) f7 (fun _ h9 => h9) rfl dX7_spread_23 ?_
        refine lv_iload hx hb dX7_spread_26 (lv_at hl 6 rfl) ?_
        refine z_iald hx hb hK hP 1 0 rfl rfl (by omega) (Nat.lt_of_succ_le (Nat.le_of_ble_eq_true rfl)) dX7_spread_28 ?_
        refine lv_iload hx hb dX7_spread_29 (lv_at hl 4 rfl) ?_
        have hr9 : -2147483648 ≤ g i ∧ g i < 2147483648 := by rw [hg i, if_neg (by omega)]; exact hfr i (by omega) (by omega)
        refine z_icmp_ne (tgt := 38) hx hb dX7_spread_31 (by decide) (by omega) (by omega) (fun c31 => ?_) (fun c31 => ?_)
        · refine z_iconst hx hb dX7_spread_38 ?_
          refine z_iadd hx hb dX7_spread_39 ?_
          refine lv_istore (lv' := [(5, .int (zI (t + 1))), (0, .ref m0), (1, .int (zI (o))), (2, .int (zI (x))), (3, .int (zI (z))), (4, .int (zI (v))), (6, .int (zI (i)))]) hx hb dX7_spread_40 hl (by decide) rfl (fun ls hl => ?_)
          refine lv_aload_n hx hb dX7_spread_42 rfl (lv_at hl 1 rfl) ?_
          refine va_get (D := D) (ci := 7) (v := .ref (a 0)) (C := RX7) (T := TX7) (N := 12) hx hb hts in7 hown hK hP 0 rfl rfl 0 (by decide) f7 (fun _ h9 => h9) rfl dX7_spread_43 ?_
          refine lv_iload hx hb dX7_spread_46 (lv_at hl 6 rfl) ?_
          refine lv_iload hx hb dX7_spread_48 (lv_at hl 5 rfl) ?_
          refine z_iast hx hb hK hP (zD hD rfl) hS 1 0 [(m0, .inr (7, [.ref (a 0), .ref (a 1), .int (zI (cnS ke)), .int (zI (th)), .ref (a 2), .ref (a 3), .ref (a 4), .ref (a 5), .ref (a 6), .ref (a 7), .ref (a 8), .long (zL (hs))])), (a 0, .inl (cI, 612, .inl (zA (zup g i v)))), (a 1, .inl (cI, 2448, .inl (zA (kpF gp f ke))))] rfl rfl (by omega) (Nat.lt_of_succ_le (Nat.le_of_ble_eq_true rfl)) rfl dX7_spread_50 (fun H locs hP hS => ?_)
          have hgs : ∀ j : Int, zup g i v j = if o + x ≤ j ∧ j < i + 1 then v else f j := fun j => if h7 : j = i then (by rw [h7, zup_at, if_pos (by omega)]) else (by rw [zup_ne h7, hg j]; exact z_ifc (by omega))
          refine z_iinc (lv' := [(6, .int (zI (i + 1))), (5, .int (zI (t + 1))), (0, .ref m0), (1, .int (zI (o))), (2, .int (zI (x))), (3, .int (zI (z))), (4, .int (zI (v)))]) hx hb 6 (i + 1) dX7_spread_51 hl rfl (by omega) (by decide) rfl (fun ls hl => ?_)
          refine lv_goto (tgt := 12) hx hb dX7_spread_54 (by decide) ?_
          exact ih12 (t + 1) (i + 1) (zup g i v) (by omega) (by rw [show (i + 1 - (o + x)) = (i + 1) - (o + x) by omega, zcnt_s h3.1, if_neg (fun q => c31 (by rw [hg i, if_neg (by omega)]; exact q)), ht]) hgs (by omega) _ _ hP hS ls (lv_sub hl [2, 3, 4, 5, 6, 1, 0] rfl)
        · refine z_iconst hx hb dX7_spread_34 ?_
          refine lv_goto (tgt := 39) hx hb dX7_spread_35 (by decide) ?_
          refine z_iadd hx hb dX7_spread_39 ?_
          refine lv_istore (lv' := [(5, .int (zI (t + 0))), (0, .ref m0), (1, .int (zI (o))), (2, .int (zI (x))), (3, .int (zI (z))), (4, .int (zI (v))), (6, .int (zI (i)))]) hx hb dX7_spread_40 hl (by decide) rfl (fun ls hl => ?_)
          refine lv_aload_n hx hb dX7_spread_42 rfl (lv_at hl 1 rfl) ?_
          refine va_get (D := D) (ci := 7) (v := .ref (a 0)) (C := RX7) (T := TX7) (N := 12) hx hb hts in7 hown hK hP 0 rfl rfl 0 (by decide) f7 (fun _ h9 => h9) rfl dX7_spread_43 ?_
          refine lv_iload hx hb dX7_spread_46 (lv_at hl 6 rfl) ?_
          refine lv_iload hx hb dX7_spread_48 (lv_at hl 5 rfl) ?_
          refine z_iast hx hb hK hP (zD hD rfl) hS 1 0 [(m0, .inr (7, [.ref (a 0), .ref (a 1), .int (zI (cnS ke)), .int (zI (th)), .ref (a 2), .ref (a 3), .ref (a 4), .ref (a 5), .ref (a 6), .ref (a 7), .ref (a 8), .long (zL (hs))])), (a 0, .inl (cI, 612, .inl (zA (zup g i v)))), (a 1, .inl (cI, 2448, .inl (zA (kpF gp f ke))))] rfl rfl (by omega) (Nat.lt_of_succ_le (Nat.le_of_ble_eq_true rfl)) rfl dX7_spread_50 (fun H locs hP hS => ?_)
          have hgs : ∀ j : Int, zup g i v j = if o + x ≤ j ∧ j < i + 1 then v else f j := fun j => if h7 : j = i then (by rw [h7, zup_at, if_pos (by omega)]) else (by rw [zup_ne h7, hg j]; exact z_ifc (by omega))
          refine z_iinc (lv' := [(6, .int (zI (i + 1))), (5, .int (zI (t + 0))), (0, .ref m0), (1, .int (zI (o))), (2, .int (zI (x))), (3, .int (zI (z))), (4, .int (zI (v)))]) hx hb 6 (i + 1) dX7_spread_51 hl rfl (by omega) (by decide) rfl (fun ls hl => ?_)
          refine lv_goto (tgt := 12) hx hb dX7_spread_54 (by decide) ?_
          exact ih12 (t + 0) (i + 1) (zup g i v) (by omega) (by rw [zcnt_s h3.1, if_pos (by rw [hg i, if_neg (by omega)] at c31; exact c31), ht]) hgs (by omega) _ _ hP hS ls (lv_sub hl [2, 3, 4, 5, 6, 1, 0] rfl)
  exact L12 _ 0 (o + x) f (by omega) (by rw [Int.sub_self]; rfl) (fun j => by rw [if_neg (by omega)]) (Nat.lt_succ_self _) _ _ hP hS ls (lv_sub hl [2, 3, 4, 5, 6, 1, 0] rfl)

theorem okF_r {f : Int → Int} (ok : OkF f) : ∀ j : Int, 0 ≤ j → j < 612 → -2147483648 ≤ f j ∧ f j < 2147483648 := by
  obtain ⟨o0, o1, o2, o3, o4, o5, o7, o8, olim, ogrd, obar, oneed, opost⟩ := ok
  intro j h1 h2
  by_cases c1 : j < 9
  · rcases (by omega : j = 0 ∨ j = 1 ∨ j = 2 ∨ j = 3 ∨ j = 4 ∨ j = 5 ∨ j = 6 ∨ j = 7 ∨ j = 8) with rfl | rfl | rfl | rfl | rfl | rfl | rfl | rfl | rfl <;> omega
  · by_cases c2 : j < 129
    · have := olim (j - 9) (by omega) (by omega)
      rw [show 9 + (j - 9) = j by omega] at this
      omega
    · by_cases c3 : j < 249
      · have := ogrd (j - 129) (by omega) (by omega)
        rw [show 129 + (j - 129) = j by omega] at this
        omega
      · by_cases c4 : j < 370
        · have := obar (j - 249) (by omega) (by omega)
          rw [show 249 + (j - 249) = j by omega] at this
          omega
        · by_cases c5 : j < 491
          · have := oneed (j - 370) (by omega) (by omega)
            rw [show 370 + (j - 370) = j by omega] at this
            omega
          · have := opost (j - 491) (by omega) (by omega)
            rw [show 491 + (j - 491) = j by omega] at this
            omega

abbrev rmX7_setLength : Room := { frames := 1, cells := 0, slots := 0, locals := 22 }
theorem jX7_setLength : yX7_setLength.cls = RX7 ∧ yX7_setLength.cls ≠ "java/lang/invoke/MethodHandle" ∧ yX7_setLength.cls ≠ "java/lang/invoke/VarHandle" ∧ (parseMethodDescriptor yX7_setLength.desc).map (fun d => d.parameters.length) = some 1 := by decide +kernel
set_option maxHeartbeats 4000000 in
set_option maxRecDepth 100000 in
theorem kX7_setLength_no (l : Launch) (D : va_G) (cI cJ cS : ClassId) (m0 : Nat) (a : Nat → Nat) (ke th hs : Int) (f : Int → Int) (cl : Int) (ok : OkF f) (hN : ¬ (10 ≤ cl ∧ cl ≤ 120)) (hr_cl : -2147483648 ≤ cl ∧ cl < 2147483648) : Met l yX7_setLength wsX7_setLength rmX7_setLength (zPc D (zT cI cJ cS) [.ref m0, .int (zI (cl))] [(m0, .inr (7, [.ref (a 0), .ref (a 1), .int (zI (ke)), .int (zI (th)), .ref (a 2), .ref (a 3), .ref (a 4), .ref (a 5), .ref (a 6), .ref (a 7), .ref (a 8), .long (zL (hs))])), (a 0, .inl (cI, 612, .inl (zA f)))]) (va_Qi (fun r _ => r = zI 0) (fun (u : Unit) t => va_P D vwCl [(m0, .inr (7, [.ref (a 0), .ref (a 1), .int (zI (ke)), .int (zI (1)), .ref (a 2), .ref (a 3), .ref (a 4), .ref (a 5), .ref (a 6), .ref (a 7), .ref (a 8), .long (zL (hs))])), (a 0, .inl (cI, 612, .inl (zA f)))] t.heap) (zAd [(m0, .inr (7, [.ref (a 0), .ref (a 1), .int (zI (ke)), .int (zI (th)), .ref (a 2), .ref (a 3), .ref (a 4), .ref (a 5), .ref (a 6), .ref (a 7), .ref (a 8), .long (zL (hs))])), (a 0, .inl (cI, 612, .inl (zA f)))])) 0 0 (zAd [(m0, .inr (7, [.ref (a 0), .ref (a 1), .int (zI (ke)), .int (zI (th)), .ref (a 2), .ref (a 3), .ref (a 4), .ref (a 5), .ref (a 6), .ref (a 7), .ref (a 8), .long (zL (hs))])), (a 0, .inl (cI, 612, .inl (zA f)))]) := by
  refine zWi_of (cc := cX7_setLength) (maxL := 3) (ret := (some .int)) (by decide) rfl (Nat.le_of_ble_eq_true rfl) rfl ?_
  intro p e s m args below meth c Q A ls hx hb hml hts hown hK hP hD hS hl hret
  have hl : lv_has ls 3 [(0, .ref m0), (1, .int (zI (cl)))] := hl
  have hP : va_P D vwCl [(m0, .inr (7, [.ref (a 0), .ref (a 1), .int (zI (ke)), .int (zI (th)), .ref (a 2), .ref (a 3), .ref (a 4), .ref (a 5), .ref (a 6), .ref (a 7), .ref (a 8), .long (zL (hs))])), (a 0, .inl (cI, 612, .inl (zA f)))] s.heap := hP
  obtain ⟨o0, o1, o2, o3, o4, o5, o7, o8, olim, ogrd, obar, oneed, opost⟩ := id ok
  have hfr := okF_r ok
  refine lv_aload_n hx hb dX7_setLength_0 rfl (lv_at hl 0 rfl) ?_
  refine lv_iload_n hx hb dX7_setLength_1 rfl (lv_at hl 1 rfl) ?_
  refine z_bipush hx hb dX7_setLength_2 (by decide +kernel) ?_
  refine z_bipush hx hb dX7_setLength_4 (by decide +kernel) ?_
  refine z_rS (v := zB (10 ≤ cl ∧ cl ≤ 120)) (As := [.int (zI (cl)), .int (zI (10)), .int (zI (120))]) (rest := [.ref m0]) hx hb hml hown hts hl.1 ⟨Nat.zero_le _, Nat.zero_le _⟩ (kX7_in l D cI cJ cS cl 10 120 (by omega) (by omega) (by omega)) (cwS 3 hts gX7_setLength_X7_in rfl rfl rfl jX7_in ⟨Nat.le_of_ble_eq_true rfl, Nat.le_of_ble_eq_true rfl⟩) hK rfl rfl (Nat.le_of_ble_eq_true rfl) dX7_setLength_6 ?_
  refine z_top (0) (zB_f (by omega)) ?_
  refine y_wVi (As := [.int (zI (0))]) (rest := []) (fun (u9 : Unit) => [(m0, .inr (7, [.ref (a 0), .ref (a 1), .int (zI (ke)), .int (zI (1)), .ref (a 2), .ref (a 3), .ref (a 4), .ref (a 5), .ref (a 6), .ref (a 7), .ref (a 8), .long (zL (hs))])), (a 0, .inl (cI, 612, .inl (zA f)))]) hx hb hml hown hts hl.1 ⟨Nat.zero_le _, Nat.zero_le _⟩ (kX7_refuses_0 l D cI cJ cS m0 a ke th hs f) (cwV 1 hts gX7_setLength_X7_refuses rfl rfl rfl jX7_refuses ⟨Nat.le_of_ble_eq_true rfl, Nat.le_of_ble_eq_true rfl⟩) hK [true] hP hD hS rfl (fun _ => rfl) (fun _ => rfl) 7 0 rfl rfl rfl rfl rfl (Nat.le_of_ble_eq_true rfl) dX7_setLength_9 (fun r9 u9 H locs hu9 hP hS => ?_)
  subst hu9
  refine z_if_eq (tgt := 17) hx hb dX7_setLength_12 (by decide) (by omega) (fun c12 => ?_) (fun c12 => ?_)
  · exfalso; omega
  · refine z_iconst hx hb dX7_setLength_15 ?_
    exact hret () rfl hP hS dX7_setLength_16

set_option maxHeartbeats 4000000 in
set_option maxRecDepth 100000 in
theorem kX7_setLength_ok (l : Launch) (D : va_G) (cI cJ cS : ClassId) (m0 : Nat) (a : Nat → Nat) (ke th hs : Int) (f : Int → Int) (gp : Int → Int) (cl : Int) (ok : OkF f) (hke : 0 ≤ ke ∧ ke ≤ 4) (hY : 10 ≤ cl ∧ cl ≤ 120) : Met l yX7_setLength wsX7_setLength rmX7_setLength (zPc D (zT cI cJ cS) [.ref m0, .int (zI (cl))] [(m0, .inr (7, [.ref (a 0), .ref (a 1), .int (zI (ke)), .int (zI (th)), .ref (a 2), .ref (a 3), .ref (a 4), .ref (a 5), .ref (a 6), .ref (a 7), .ref (a 8), .long (zL (hs))])), (a 0, .inl (cI, 612, .inl (zA f))), (a 1, .inl (cI, 2448, .inl (zA gp)))]) (va_Qi (fun r _ => r = zI (f 0)) (fun (u : Unit) t => va_P D vwCl [(m0, .inr (7, [.ref (a 0), .ref (a 1), .int (zI (cnS ke)), .int (zI (0)), .ref (a 2), .ref (a 3), .ref (a 4), .ref (a 5), .ref (a 6), .ref (a 7), .ref (a 8), .long (zL (hs))])), (a 0, .inl (cI, 612, .inl (zA (newl f cl)))), (a 1, .inl (cI, 2448, .inl (zA (kpF gp f ke))))] t.heap) (zAd [(m0, .inr (7, [.ref (a 0), .ref (a 1), .int (zI (ke)), .int (zI (th)), .ref (a 2), .ref (a 3), .ref (a 4), .ref (a 5), .ref (a 6), .ref (a 7), .ref (a 8), .long (zL (hs))])), (a 0, .inl (cI, 612, .inl (zA f))), (a 1, .inl (cI, 2448, .inl (zA gp)))])) 0 0 (zAd [(m0, .inr (7, [.ref (a 0), .ref (a 1), .int (zI (ke)), .int (zI (th)), .ref (a 2), .ref (a 3), .ref (a 4), .ref (a 5), .ref (a 6), .ref (a 7), .ref (a 8), .long (zL (hs))])), (a 0, .inl (cI, 612, .inl (zA f))), (a 1, .inl (cI, 2448, .inl (zA gp)))]) := by
  refine zWi_of (cc := cX7_setLength) (maxL := 3) (ret := (some .int)) (by decide) rfl (Nat.le_of_ble_eq_true rfl) rfl ?_
  intro p e s m args below meth c Q A ls hx hb hml hts hown hK hP hD hS hl hret
  have in7 : ∀ w ∈ wsX70, w ∈ wsX7_setLength := by decide +kernel
  have f7 := hts (.fieldLink RX7 7 "SignalSpacingModel" "now" "[I") (by decide +kernel)
  have hl : lv_has ls 3 [(0, .ref m0), (1, .int (zI (cl)))] := hl
  have hP : va_P D vwCl [(m0, .inr (7, [.ref (a 0), .ref (a 1), .int (zI (ke)), .int (zI (th)), .ref (a 2), .ref (a 3), .ref (a 4), .ref (a 5), .ref (a 6), .ref (a 7), .ref (a 8), .long (zL (hs))])), (a 0, .inl (cI, 612, .inl (zA f))), (a 1, .inl (cI, 2448, .inl (zA gp)))] s.heap := hP
  obtain ⟨o0, o1, o2, o3, o4, o5, o7, o8, olim, ogrd, obar, oneed, opost⟩ := id ok
  have hfr := okF_r ok
  refine lv_aload_n hx hb dX7_setLength_0 rfl (lv_at hl 0 rfl) ?_
  refine lv_iload_n hx hb dX7_setLength_1 rfl (lv_at hl 1 rfl) ?_
  refine z_bipush hx hb dX7_setLength_2 (by decide +kernel) ?_
  refine z_bipush hx hb dX7_setLength_4 (by decide +kernel) ?_
  refine z_rS (v := zB (10 ≤ cl ∧ cl ≤ 120)) (As := [.int (zI (cl)), .int (zI (10)), .int (zI (120))]) (rest := [.ref m0]) hx hb hml hown hts hl.1 ⟨Nat.zero_le _, Nat.zero_le _⟩ (kX7_in l D cI cJ cS cl 10 120 (by omega) (by omega) (by omega)) (cwS 3 hts gX7_setLength_X7_in rfl rfl rfl jX7_in ⟨Nat.le_of_ble_eq_true rfl, Nat.le_of_ble_eq_true rfl⟩) hK rfl rfl (Nat.le_of_ble_eq_true rfl) dX7_setLength_6 ?_
  refine z_top (1) (zB_t (by omega)) ?_
  refine y_wVi (As := [.int (zI (1))]) (rest := []) (fun (u9 : Unit) => [(m0, .inr (7, [.ref (a 0), .ref (a 1), .int (zI (ke)), .int (zI (0)), .ref (a 2), .ref (a 3), .ref (a 4), .ref (a 5), .ref (a 6), .ref (a 7), .ref (a 8), .long (zL (hs))])), (a 0, .inl (cI, 612, .inl (zA f))), (a 1, .inl (cI, 2448, .inl (zA gp)))]) hx hb hml hown hts hl.1 ⟨Nat.zero_le _, Nat.zero_le _⟩ (kX7_refuses_1 l D cI cJ cS m0 a ke th hs f) (cwV 1 hts gX7_setLength_X7_refuses rfl rfl rfl jX7_refuses ⟨Nat.le_of_ble_eq_true rfl, Nat.le_of_ble_eq_true rfl⟩) hK [true] hP hD hS rfl (fun _ => rfl) (fun _ => rfl) 7 0 rfl rfl rfl rfl rfl (Nat.le_of_ble_eq_true rfl) dX7_setLength_9 (fun r9 u9 H locs hu9 hP hS => ?_)
  subst hu9
  refine z_if_eq (tgt := 17) hx hb dX7_setLength_12 (by decide) (by omega) (fun c12 => ?_) (fun c12 => ?_)
  · refine lv_aload_n hx hb dX7_setLength_17 rfl (lv_at hl 0 rfl) ?_
    refine y_wVv (As := []) (rest := []) (fun (u18 : Unit) => [(m0, .inr (7, [.ref (a 0), .ref (a 1), .int (zI (cnS ke)), .int (zI (0)), .ref (a 2), .ref (a 3), .ref (a 4), .ref (a 5), .ref (a 6), .ref (a 7), .ref (a 8), .long (zL (hs))])), (a 0, .inl (cI, 612, .inl (zA f))), (a 1, .inl (cI, 2448, .inl (zA (kpF gp f ke))))]) hx hb hml hown hts hl.1 ⟨Nat.zero_le _, Nat.zero_le _⟩ (kX7_keep l D cI cJ cS m0 a ke 0 hs f gp hke) (cwV 0 hts gX7_setLength_X7_keep rfl rfl rfl jX7_keep ⟨Nat.le_of_ble_eq_true rfl, Nat.le_of_ble_eq_true rfl⟩) hK [true, true, true] hP (zD hD rfl) hS rfl (fun _ => rfl) (fun _ => rfl) 7 0 rfl rfl rfl rfl rfl (Nat.le_of_ble_eq_true rfl) dX7_setLength_18 (fun u18 H locs hu18 hP hS => ?_)
    refine lv_aload_n hx hb dX7_setLength_21 rfl (lv_at hl 0 rfl) ?_
    refine va_get (D := D) (ci := 7) (v := .ref (a 0)) (C := RX7) (T := TX7) (N := 12) hx hb hts in7 hown hK hP 0 rfl rfl 0 (by decide) f7 (fun _ h9 => h9) rfl dX7_setLength_22 ?_
    refine z_iconst hx hb dX7_setLength_25 ?_
    refine z_iald hx hb hK hP 1 0 rfl rfl (by omega) (Nat.lt_of_succ_le (Nat.le_of_ble_eq_true rfl)) dX7_setLength_26 ?_
    refine lv_istore_n (lv' := [(2, .int (zI (f 0))), (0, .ref m0), (1, .int (zI (cl)))]) hx hb dX7_setLength_27 rfl hl (by decide) rfl (fun ls hl => ?_)
    refine lv_aload_n hx hb dX7_setLength_28 rfl (lv_at hl 1 rfl) ?_
    refine va_get (D := D) (ci := 7) (v := .ref (a 0)) (C := RX7) (T := TX7) (N := 12) hx hb hts in7 hown hK hP 0 rfl rfl 0 (by decide) f7 (fun _ h9 => h9) rfl dX7_setLength_29 ?_
    refine z_iconst hx hb dX7_setLength_32 ?_
    refine lv_iload_n hx hb dX7_setLength_33 rfl (lv_at hl 2 rfl) ?_
    refine z_iast hx hb hK hP (zD hD rfl) hS 1 0 [(m0, .inr (7, [.ref (a 0), .ref (a 1), .int (zI (cnS ke)), .int (zI (0)), .ref (a 2), .ref (a 3), .ref (a 4), .ref (a 5), .ref (a 6), .ref (a 7), .ref (a 8), .long (zL (hs))])), (a 0, .inl (cI, 612, .inl (zA (zup f 0 cl)))), (a 1, .inl (cI, 2448, .inl (zA (kpF gp f ke))))] rfl rfl (by omega) (Nat.lt_of_succ_le (Nat.le_of_ble_eq_true rfl)) rfl dX7_setLength_34 (fun H locs hP hS => ?_)
    refine lv_aload_n hx hb dX7_setLength_35 rfl (lv_at hl 1 rfl) ?_
    refine y_wVv (As := []) (rest := []) (fun (u36 : Unit) => [(m0, .inr (7, [.ref (a 0), .ref (a 1), .int (zI (cnS ke)), .int (zI (0)), .ref (a 2), .ref (a 3), .ref (a 4), .ref (a 5), .ref (a 6), .ref (a 7), .ref (a 8), .long (zL (hs))])), (a 0, .inl (cI, 612, .inl (zA (newl (zup f 0 cl) ((zup f 0 cl) 0))))), (a 1, .inl (cI, 2448, .inl (zA (kpF gp f ke))))]) hx hb hml hown hts hl.1 ⟨Nat.zero_le _, Nat.zero_le _⟩ (kX7_newLine l D cI cJ cS m0 a (cnS ke) 0 hs (zup f 0 cl)) (cwV 0 hts gX7_setLength_X7_newLine rfl rfl rfl jX7_newLine ⟨Nat.le_of_ble_eq_true rfl, Nat.le_of_ble_eq_true rfl⟩) hK [true, true] hP (zD hD rfl) hS rfl (fun _ => rfl) (fun _ => rfl) 7 0 rfl rfl rfl rfl rfl (Nat.le_of_ble_eq_true rfl) dX7_setLength_36 (fun u36 H locs hu36 hP hS => ?_)
    refine lv_iload_n hx hb dX7_setLength_39 rfl (lv_at hl 0 rfl) ?_
    have hP := zre (g' := newl f cl) 1 hP rfl (fun j q1 q2 => by unfold newl; exact if c1 : j = 0 then (by rw [if_pos c1, if_pos c1]; exact zup_at _ _ _) else (by rw [if_neg c1, if_neg c1, zup_ne c1]))
    exact hret () rfl hP hS dX7_setLength_40
  · exfalso; omega

abbrev rmX7_setLimit : Room := { frames := 2, cells := 0, slots := 0, locals := 47 }
theorem jX7_setLimit : yX7_setLimit.cls = RX7 ∧ yX7_setLimit.cls ≠ "java/lang/invoke/MethodHandle" ∧ yX7_setLimit.cls ≠ "java/lang/invoke/VarHandle" ∧ (parseMethodDescriptor yX7_setLimit.desc).map (fun d => d.parameters.length) = some 3 := by decide +kernel
set_option maxHeartbeats 4000000 in
set_option maxRecDepth 100000 in
theorem kX7_setLimit_no (l : Launch) (D : va_G) (cI cJ cS : ClassId) (m0 : Nat) (a : Nat → Nat) (ke th hs : Int) (f : Int → Int) (x z v : Int) (ok : OkF f) (hN : ¬ (0 ≤ x ∧ x ≤ z ∧ z ≤ f 0 - 1 ∧ 20 ≤ v ∧ v ≤ 160)) (hr_x : -2147483648 ≤ x ∧ x < 2147483648) (hr_z : -2147483648 ≤ z ∧ z < 2147483648) (hr_v : -2147483648 ≤ v ∧ v < 2147483648) : Met l yX7_setLimit wsX7_setLimit rmX7_setLimit (zPc D (zT cI cJ cS) [.ref m0, .int (zI (x)), .int (zI (z)), .int (zI (v))] [(m0, .inr (7, [.ref (a 0), .ref (a 1), .int (zI (ke)), .int (zI (th)), .ref (a 2), .ref (a 3), .ref (a 4), .ref (a 5), .ref (a 6), .ref (a 7), .ref (a 8), .long (zL (hs))])), (a 0, .inl (cI, 612, .inl (zA f)))]) (va_Qi (fun r _ => r = zI 0) (fun (u : Unit) t => va_P D vwCl [(m0, .inr (7, [.ref (a 0), .ref (a 1), .int (zI (ke)), .int (zI (1)), .ref (a 2), .ref (a 3), .ref (a 4), .ref (a 5), .ref (a 6), .ref (a 7), .ref (a 8), .long (zL (hs))])), (a 0, .inl (cI, 612, .inl (zA f)))] t.heap) (zAd [(m0, .inr (7, [.ref (a 0), .ref (a 1), .int (zI (ke)), .int (zI (th)), .ref (a 2), .ref (a 3), .ref (a 4), .ref (a 5), .ref (a 6), .ref (a 7), .ref (a 8), .long (zL (hs))])), (a 0, .inl (cI, 612, .inl (zA f)))])) 0 0 (zAd [(m0, .inr (7, [.ref (a 0), .ref (a 1), .int (zI (ke)), .int (zI (th)), .ref (a 2), .ref (a 3), .ref (a 4), .ref (a 5), .ref (a 6), .ref (a 7), .ref (a 8), .long (zL (hs))])), (a 0, .inl (cI, 612, .inl (zA f)))]) := by
  refine zWi_of (cc := cX7_setLimit) (maxL := 4) (ret := (some .int)) (by decide) rfl (Nat.le_of_ble_eq_true rfl) rfl ?_
  intro p e s m args below meth c Q A ls hx hb hml hts hown hK hP hD hS hl hret
  have hl : lv_has ls 4 [(0, .ref m0), (1, .int (zI (x))), (2, .int (zI (z))), (3, .int (zI (v)))] := hl
  have hP : va_P D vwCl [(m0, .inr (7, [.ref (a 0), .ref (a 1), .int (zI (ke)), .int (zI (th)), .ref (a 2), .ref (a 3), .ref (a 4), .ref (a 5), .ref (a 6), .ref (a 7), .ref (a 8), .long (zL (hs))])), (a 0, .inl (cI, 612, .inl (zA f)))] s.heap := hP
  obtain ⟨o0, o1, o2, o3, o4, o5, o7, o8, olim, ogrd, obar, oneed, opost⟩ := id ok
  have hfr := okF_r ok
  refine lv_aload_n hx hb dX7_setLimit_0 rfl (lv_at hl 0 rfl) ?_
  refine lv_aload_n hx hb dX7_setLimit_1 rfl (lv_at hl 0 rfl) ?_
  refine lv_iload_n hx hb dX7_setLimit_2 rfl (lv_at hl 1 rfl) ?_
  refine y_rV (v := zB (0 ≤ x ∧ x ≤ f 0 - 1)) (As := [.int (zI (x))]) (rest := [.ref m0]) hx hb hml hown hts hl.1 ⟨Nat.zero_le _, Nat.zero_le _⟩ (kX7_isCell l D cI cJ cS m0 a ke th hs f x o0 (by omega)) (cwV 1 hts gX7_setLimit_X7_isCell rfl rfl rfl jX7_isCell ⟨Nat.le_of_ble_eq_true rfl, Nat.le_of_ble_eq_true rfl⟩) hK [true, true] hP hD rfl 7 0 rfl rfl rfl rfl rfl (Nat.le_of_ble_eq_true rfl) dX7_setLimit_3 ?_
  refine z_if_eq (tgt := 38) hx hb dX7_setLimit_6 (by decide) (by have hz := zB_01 (0 ≤ x ∧ x ≤ f 0 - 1); omega) (fun c6 => ?_) (fun c6 => ?_)
  · have c6 := zB_0.mp c6
    refine z_iconst hx hb dX7_setLimit_38 ?_
    refine y_wVi (As := [.int (zI (0))]) (rest := []) (fun (u39 : Unit) => [(m0, .inr (7, [.ref (a 0), .ref (a 1), .int (zI (ke)), .int (zI (1)), .ref (a 2), .ref (a 3), .ref (a 4), .ref (a 5), .ref (a 6), .ref (a 7), .ref (a 8), .long (zL (hs))])), (a 0, .inl (cI, 612, .inl (zA f)))]) hx hb hml hown hts hl.1 ⟨Nat.zero_le _, Nat.zero_le _⟩ (kX7_refuses_0 l D cI cJ cS m0 a ke th hs f) (cwV 1 hts gX7_setLimit_X7_refuses rfl rfl rfl jX7_refuses ⟨Nat.le_of_ble_eq_true rfl, Nat.le_of_ble_eq_true rfl⟩) hK [true] hP hD hS rfl (fun _ => rfl) (fun _ => rfl) 7 0 rfl rfl rfl rfl rfl (Nat.le_of_ble_eq_true rfl) dX7_setLimit_39 (fun r39 u39 H locs hu39 hP hS => ?_)
    subst hu39
    refine z_if_eq (tgt := 49) hx hb dX7_setLimit_42 (by decide) (by omega) (fun c42 => ?_) (fun c42 => ?_)
    · exfalso; omega
    · refine z_iconst hx hb dX7_setLimit_45 ?_
      refine lv_goto (tgt := 58) hx hb dX7_setLimit_46 (by decide) ?_
      exact hret () rfl hP hS dX7_setLimit_58
  · have c6 := zB_n0.mp c6
    refine lv_aload_n hx hb dX7_setLimit_9 rfl (lv_at hl 0 rfl) ?_
    refine lv_iload_n hx hb dX7_setLimit_10 rfl (lv_at hl 2 rfl) ?_
    refine y_rV (v := zB (0 ≤ z ∧ z ≤ f 0 - 1)) (As := [.int (zI (z))]) (rest := [.ref m0]) hx hb hml hown hts hl.1 ⟨Nat.zero_le _, Nat.zero_le _⟩ (kX7_isCell l D cI cJ cS m0 a ke th hs f z o0 (by omega)) (cwV 1 hts gX7_setLimit_X7_isCell rfl rfl rfl jX7_isCell ⟨Nat.le_of_ble_eq_true rfl, Nat.le_of_ble_eq_true rfl⟩) hK [true, true] hP hD rfl 7 0 rfl rfl rfl rfl rfl (Nat.le_of_ble_eq_true rfl) dX7_setLimit_11 ?_
    refine z_if_eq (tgt := 38) hx hb dX7_setLimit_14 (by decide) (by have hz := zB_01 (0 ≤ z ∧ z ≤ f 0 - 1); omega) (fun c14 => ?_) (fun c14 => ?_)
    · have c14 := zB_0.mp c14
      refine z_iconst hx hb dX7_setLimit_38 ?_
      refine y_wVi (As := [.int (zI (0))]) (rest := []) (fun (u39 : Unit) => [(m0, .inr (7, [.ref (a 0), .ref (a 1), .int (zI (ke)), .int (zI (1)), .ref (a 2), .ref (a 3), .ref (a 4), .ref (a 5), .ref (a 6), .ref (a 7), .ref (a 8), .long (zL (hs))])), (a 0, .inl (cI, 612, .inl (zA f)))]) hx hb hml hown hts hl.1 ⟨Nat.zero_le _, Nat.zero_le _⟩ (kX7_refuses_0 l D cI cJ cS m0 a ke th hs f) (cwV 1 hts gX7_setLimit_X7_refuses rfl rfl rfl jX7_refuses ⟨Nat.le_of_ble_eq_true rfl, Nat.le_of_ble_eq_true rfl⟩) hK [true] hP hD hS rfl (fun _ => rfl) (fun _ => rfl) 7 0 rfl rfl rfl rfl rfl (Nat.le_of_ble_eq_true rfl) dX7_setLimit_39 (fun r39 u39 H locs hu39 hP hS => ?_)
      subst hu39
      refine z_if_eq (tgt := 49) hx hb dX7_setLimit_42 (by decide) (by omega) (fun c42 => ?_) (fun c42 => ?_)
      · exfalso; omega
      · refine z_iconst hx hb dX7_setLimit_45 ?_
        refine lv_goto (tgt := 58) hx hb dX7_setLimit_46 (by decide) ?_
        exact hret () rfl hP hS dX7_setLimit_58
    · have c14 := zB_n0.mp c14
      refine lv_iload_n hx hb dX7_setLimit_17 rfl (lv_at hl 1 rfl) ?_
      refine lv_iload_n hx hb dX7_setLimit_18 rfl (lv_at hl 2 rfl) ?_
      refine z_icmp_gt (tgt := 38) hx hb dX7_setLimit_19 (by decide) (by omega) (by omega) (fun c19 => ?_) (fun c19 => ?_)
      · refine z_iconst hx hb dX7_setLimit_38 ?_
        refine y_wVi (As := [.int (zI (0))]) (rest := []) (fun (u39 : Unit) => [(m0, .inr (7, [.ref (a 0), .ref (a 1), .int (zI (ke)), .int (zI (1)), .ref (a 2), .ref (a 3), .ref (a 4), .ref (a 5), .ref (a 6), .ref (a 7), .ref (a 8), .long (zL (hs))])), (a 0, .inl (cI, 612, .inl (zA f)))]) hx hb hml hown hts hl.1 ⟨Nat.zero_le _, Nat.zero_le _⟩ (kX7_refuses_0 l D cI cJ cS m0 a ke th hs f) (cwV 1 hts gX7_setLimit_X7_refuses rfl rfl rfl jX7_refuses ⟨Nat.le_of_ble_eq_true rfl, Nat.le_of_ble_eq_true rfl⟩) hK [true] hP hD hS rfl (fun _ => rfl) (fun _ => rfl) 7 0 rfl rfl rfl rfl rfl (Nat.le_of_ble_eq_true rfl) dX7_setLimit_39 (fun r39 u39 H locs hu39 hP hS => ?_)
        subst hu39
        refine z_if_eq (tgt := 49) hx hb dX7_setLimit_42 (by decide) (by omega) (fun c42 => ?_) (fun c42 => ?_)
        · exfalso; omega
        · refine z_iconst hx hb dX7_setLimit_45 ?_
          refine lv_goto (tgt := 58) hx hb dX7_setLimit_46 (by decide) ?_
          exact hret () rfl hP hS dX7_setLimit_58
      · refine lv_iload_n hx hb dX7_setLimit_22 rfl (lv_at hl 3 rfl) ?_
        refine z_bipush hx hb dX7_setLimit_23 (by decide +kernel) ?_
        refine z_sipush hx hb dX7_setLimit_25 (by decide +kernel) ?_
        refine z_rS (v := zB (20 ≤ v ∧ v ≤ 160)) (As := [.int (zI (v)), .int (zI (20)), .int (zI (160))]) (rest := [.ref m0]) hx hb hml hown hts hl.1 ⟨Nat.zero_le _, Nat.zero_le _⟩ (kX7_in l D cI cJ cS v 20 160 (by omega) (by omega) (by omega)) (cwS 3 hts gX7_setLimit_X7_in rfl rfl rfl jX7_in ⟨Nat.le_of_ble_eq_true rfl, Nat.le_of_ble_eq_true rfl⟩) hK rfl rfl (Nat.le_of_ble_eq_true rfl) dX7_setLimit_28 ?_
        refine z_if_eq (tgt := 38) hx hb dX7_setLimit_31 (by decide) (by have hz := zB_01 (20 ≤ v ∧ v ≤ 160); omega) (fun c31 => ?_) (fun c31 => ?_)
        · have c31 := zB_0.mp c31
          refine z_iconst hx hb dX7_setLimit_38 ?_
          refine y_wVi (As := [.int (zI (0))]) (rest := []) (fun (u39 : Unit) => [(m0, .inr (7, [.ref (a 0), .ref (a 1), .int (zI (ke)), .int (zI (1)), .ref (a 2), .ref (a 3), .ref (a 4), .ref (a 5), .ref (a 6), .ref (a 7), .ref (a 8), .long (zL (hs))])), (a 0, .inl (cI, 612, .inl (zA f)))]) hx hb hml hown hts hl.1 ⟨Nat.zero_le _, Nat.zero_le _⟩ (kX7_refuses_0 l D cI cJ cS m0 a ke th hs f) (cwV 1 hts gX7_setLimit_X7_refuses rfl rfl rfl jX7_refuses ⟨Nat.le_of_ble_eq_true rfl, Nat.le_of_ble_eq_true rfl⟩) hK [true] hP hD hS rfl (fun _ => rfl) (fun _ => rfl) 7 0 rfl rfl rfl rfl rfl (Nat.le_of_ble_eq_true rfl) dX7_setLimit_39 (fun r39 u39 H locs hu39 hP hS => ?_)
          subst hu39
          refine z_if_eq (tgt := 49) hx hb dX7_setLimit_42 (by decide) (by omega) (fun c42 => ?_) (fun c42 => ?_)
          · exfalso; omega
          · refine z_iconst hx hb dX7_setLimit_45 ?_
            refine lv_goto (tgt := 58) hx hb dX7_setLimit_46 (by decide) ?_
            exact hret () rfl hP hS dX7_setLimit_58
        · have c31 := zB_n0.mp c31
          exfalso; omega

set_option maxHeartbeats 4000000 in
set_option maxRecDepth 100000 in
theorem kX7_setLimit_ok (l : Launch) (D : va_G) (cI cJ cS : ClassId) (m0 : Nat) (a : Nat → Nat) (ke th hs : Int) (f : Int → Int) (gp : Int → Int) (x z v : Int) (ok : OkF f) (hke : 0 ≤ ke ∧ ke ≤ 4) (hY : 0 ≤ x ∧ x ≤ z ∧ z ≤ f 0 - 1 ∧ 20 ≤ v ∧ v ≤ 160) : Met l yX7_setLimit wsX7_setLimit rmX7_setLimit (zPc D (zT cI cJ cS) [.ref m0, .int (zI (x)), .int (zI (z)), .int (zI (v))] [(m0, .inr (7, [.ref (a 0), .ref (a 1), .int (zI (ke)), .int (zI (th)), .ref (a 2), .ref (a 3), .ref (a 4), .ref (a 5), .ref (a 6), .ref (a 7), .ref (a 8), .long (zL (hs))])), (a 0, .inl (cI, 612, .inl (zA f))), (a 1, .inl (cI, 2448, .inl (zA gp)))]) (va_Qi (fun r _ => r = zI (zcnt f v (9 + x) (z + 1 - x).toNat)) (fun (u : Unit) t => va_P D vwCl [(m0, .inr (7, [.ref (a 0), .ref (a 1), .int (zI (cnS ke)), .int (zI (0)), .ref (a 2), .ref (a 3), .ref (a 4), .ref (a 5), .ref (a 6), .ref (a 7), .ref (a 8), .long (zL (hs))])), (a 0, .inl (cI, 612, .inl (zA (zfill f (9 + x) (9 + z) v)))), (a 1, .inl (cI, 2448, .inl (zA (kpF gp f ke))))] t.heap) (zAd [(m0, .inr (7, [.ref (a 0), .ref (a 1), .int (zI (ke)), .int (zI (th)), .ref (a 2), .ref (a 3), .ref (a 4), .ref (a 5), .ref (a 6), .ref (a 7), .ref (a 8), .long (zL (hs))])), (a 0, .inl (cI, 612, .inl (zA f))), (a 1, .inl (cI, 2448, .inl (zA gp)))])) 0 0 (zAd [(m0, .inr (7, [.ref (a 0), .ref (a 1), .int (zI (ke)), .int (zI (th)), .ref (a 2), .ref (a 3), .ref (a 4), .ref (a 5), .ref (a 6), .ref (a 7), .ref (a 8), .long (zL (hs))])), (a 0, .inl (cI, 612, .inl (zA f))), (a 1, .inl (cI, 2448, .inl (zA gp)))]) := by
  refine zWi_of (cc := cX7_setLimit) (maxL := 4) (ret := (some .int)) (by decide) rfl (Nat.le_of_ble_eq_true rfl) rfl ?_
  intro p e s m args below meth c Q A ls hx hb hml hts hown hK hP hD hS hl hret
  have hl : lv_has ls 4 [(0, .ref m0), (1, .int (zI (x))), (2, .int (zI (z))), (3, .int (zI (v)))] := hl
  have hP : va_P D vwCl [(m0, .inr (7, [.ref (a 0), .ref (a 1), .int (zI (ke)), .int (zI (th)), .ref (a 2), .ref (a 3), .ref (a 4), .ref (a 5), .ref (a 6), .ref (a 7), .ref (a 8), .long (zL (hs))])), (a 0, .inl (cI, 612, .inl (zA f))), (a 1, .inl (cI, 2448, .inl (zA gp)))] s.heap := hP
  obtain ⟨o0, o1, o2, o3, o4, o5, o7, o8, olim, ogrd, obar, oneed, opost⟩ := id ok
  have hfr := okF_r ok
  refine lv_aload_n hx hb dX7_setLimit_0 rfl (lv_at hl 0 rfl) ?_
  refine lv_aload_n hx hb dX7_setLimit_1 rfl (lv_at hl 0 rfl) ?_
  refine lv_iload_n hx hb dX7_setLimit_2 rfl (lv_at hl 1 rfl) ?_
  refine y_rV (v := zB (0 ≤ x ∧ x ≤ f 0 - 1)) (As := [.int (zI (x))]) (rest := [.ref m0]) hx hb hml hown hts hl.1 ⟨Nat.zero_le _, Nat.zero_le _⟩ (kX7_isCell l D cI cJ cS m0 a ke th hs f x o0 (by omega)) (cwV 1 hts gX7_setLimit_X7_isCell rfl rfl rfl jX7_isCell ⟨Nat.le_of_ble_eq_true rfl, Nat.le_of_ble_eq_true rfl⟩) hK [true, true] hP hD rfl 7 0 rfl rfl rfl rfl rfl (Nat.le_of_ble_eq_true rfl) dX7_setLimit_3 ?_
  refine z_top (1) (zB_t (by omega)) ?_
  refine z_if_eq (tgt := 38) hx hb dX7_setLimit_6 (by decide) (by omega) (fun c6 => ?_) (fun c6 => ?_)
  · exfalso; omega
  · refine lv_aload_n hx hb dX7_setLimit_9 rfl (lv_at hl 0 rfl) ?_
    refine lv_iload_n hx hb dX7_setLimit_10 rfl (lv_at hl 2 rfl) ?_
    refine y_rV (v := zB (0 ≤ z ∧ z ≤ f 0 - 1)) (As := [.int (zI (z))]) (rest := [.ref m0]) hx hb hml hown hts hl.1 ⟨Nat.zero_le _, Nat.zero_le _⟩ (kX7_isCell l D cI cJ cS m0 a ke th hs f z o0 (by omega)) (cwV 1 hts gX7_setLimit_X7_isCell rfl rfl rfl jX7_isCell ⟨Nat.le_of_ble_eq_true rfl, Nat.le_of_ble_eq_true rfl⟩) hK [true, true] hP hD rfl 7 0 rfl rfl rfl rfl rfl (Nat.le_of_ble_eq_true rfl) dX7_setLimit_11 ?_
    refine z_top (1) (zB_t (by omega)) ?_
    refine z_if_eq (tgt := 38) hx hb dX7_setLimit_14 (by decide) (by omega) (fun c14 => ?_) (fun c14 => ?_)
    · exfalso; omega
    · refine lv_iload_n hx hb dX7_setLimit_17 rfl (lv_at hl 1 rfl) ?_
      refine lv_iload_n hx hb dX7_setLimit_18 rfl (lv_at hl 2 rfl) ?_
      refine z_icmp_gt (tgt := 38) hx hb dX7_setLimit_19 (by decide) (by omega) (by omega) (fun c19 => ?_) (fun c19 => ?_)
      · exfalso; omega
      · refine lv_iload_n hx hb dX7_setLimit_22 rfl (lv_at hl 3 rfl) ?_
        refine z_bipush hx hb dX7_setLimit_23 (by decide +kernel) ?_
        refine z_sipush hx hb dX7_setLimit_25 (by decide +kernel) ?_
        refine z_rS (v := zB (20 ≤ v ∧ v ≤ 160)) (As := [.int (zI (v)), .int (zI (20)), .int (zI (160))]) (rest := [.ref m0]) hx hb hml hown hts hl.1 ⟨Nat.zero_le _, Nat.zero_le _⟩ (kX7_in l D cI cJ cS v 20 160 (by omega) (by omega) (by omega)) (cwS 3 hts gX7_setLimit_X7_in rfl rfl rfl jX7_in ⟨Nat.le_of_ble_eq_true rfl, Nat.le_of_ble_eq_true rfl⟩) hK rfl rfl (Nat.le_of_ble_eq_true rfl) dX7_setLimit_28 ?_
        refine z_top (1) (zB_t (by omega)) ?_
        refine z_if_eq (tgt := 38) hx hb dX7_setLimit_31 (by decide) (by omega) (fun c31 => ?_) (fun c31 => ?_)
        · exfalso; omega
        · refine z_iconst hx hb dX7_setLimit_34 ?_
          refine lv_goto (tgt := 39) hx hb dX7_setLimit_35 (by decide) ?_
          refine y_wVi (As := [.int (zI (1))]) (rest := []) (fun (u39 : Unit) => [(m0, .inr (7, [.ref (a 0), .ref (a 1), .int (zI (ke)), .int (zI (0)), .ref (a 2), .ref (a 3), .ref (a 4), .ref (a 5), .ref (a 6), .ref (a 7), .ref (a 8), .long (zL (hs))])), (a 0, .inl (cI, 612, .inl (zA f))), (a 1, .inl (cI, 2448, .inl (zA gp)))]) hx hb hml hown hts hl.1 ⟨Nat.zero_le _, Nat.zero_le _⟩ (kX7_refuses_1 l D cI cJ cS m0 a ke th hs f) (cwV 1 hts gX7_setLimit_X7_refuses rfl rfl rfl jX7_refuses ⟨Nat.le_of_ble_eq_true rfl, Nat.le_of_ble_eq_true rfl⟩) hK [true] hP hD hS rfl (fun _ => rfl) (fun _ => rfl) 7 0 rfl rfl rfl rfl rfl (Nat.le_of_ble_eq_true rfl) dX7_setLimit_39 (fun r39 u39 H locs hu39 hP hS => ?_)
          subst hu39
          refine z_if_eq (tgt := 49) hx hb dX7_setLimit_42 (by decide) (by omega) (fun c42 => ?_) (fun c42 => ?_)
          · refine lv_aload_n hx hb dX7_setLimit_49 rfl (lv_at hl 0 rfl) ?_
            refine z_bipush hx hb dX7_setLimit_50 (by decide +kernel) ?_
            refine lv_iload_n hx hb dX7_setLimit_52 rfl (lv_at hl 1 rfl) ?_
            refine lv_iload_n hx hb dX7_setLimit_53 rfl (lv_at hl 2 rfl) ?_
            refine lv_iload_n hx hb dX7_setLimit_54 rfl (lv_at hl 3 rfl) ?_
            refine y_wVi (As := [.int (zI (9)), .int (zI (x)), .int (zI (z)), .int (zI (v))]) (rest := []) (fun (u55 : Unit) => [(m0, .inr (7, [.ref (a 0), .ref (a 1), .int (zI (cnS ke)), .int (zI (0)), .ref (a 2), .ref (a 3), .ref (a 4), .ref (a 5), .ref (a 6), .ref (a 7), .ref (a 8), .long (zL (hs))])), (a 0, .inl (cI, 612, .inl (zA (zfill f (9 + x) (9 + z) v)))), (a 1, .inl (cI, 2448, .inl (zA (kpF gp f ke))))]) hx hb hml hown hts hl.1 ⟨Nat.zero_le _, Nat.zero_le _⟩ (kX7_spread l D cI cJ cS m0 a ke 0 hs f gp 9 x z v hke (by omega) (by omega) hfr) (cwV 4 hts gX7_setLimit_X7_spread rfl rfl rfl jX7_spread ⟨Nat.le_of_ble_eq_true rfl, Nat.le_of_ble_eq_true rfl⟩) hK [true, true, true] hP (zD hD rfl) hS rfl (fun _ => rfl) (fun _ => rfl) 7 0 rfl rfl rfl rfl rfl (Nat.le_of_ble_eq_true rfl) dX7_setLimit_55 (fun r55 u55 H locs hu55 hP hS => ?_)
            subst hu55
            exact hret () rfl hP hS dX7_setLimit_58
          · exfalso; omega

abbrev rmX7_setGradient : Room := { frames := 2, cells := 0, slots := 0, locals := 47 }
theorem jX7_setGradient : yX7_setGradient.cls = RX7 ∧ yX7_setGradient.cls ≠ "java/lang/invoke/MethodHandle" ∧ yX7_setGradient.cls ≠ "java/lang/invoke/VarHandle" ∧ (parseMethodDescriptor yX7_setGradient.desc).map (fun d => d.parameters.length) = some 3 := by decide +kernel
set_option maxHeartbeats 4000000 in
set_option maxRecDepth 100000 in
theorem kX7_setGradient_no (l : Launch) (D : va_G) (cI cJ cS : ClassId) (m0 : Nat) (a : Nat → Nat) (ke th hs : Int) (f : Int → Int) (x z v : Int) (ok : OkF f) (hN : ¬ (0 ≤ x ∧ x ≤ z ∧ z ≤ f 0 - 1 ∧ -40 ≤ v ∧ v ≤ 40)) (hr_x : -2147483648 ≤ x ∧ x < 2147483648) (hr_z : -2147483648 ≤ z ∧ z < 2147483648) (hr_v : -2147483648 ≤ v ∧ v < 2147483648) : Met l yX7_setGradient wsX7_setGradient rmX7_setGradient (zPc D (zT cI cJ cS) [.ref m0, .int (zI (x)), .int (zI (z)), .int (zI (v))] [(m0, .inr (7, [.ref (a 0), .ref (a 1), .int (zI (ke)), .int (zI (th)), .ref (a 2), .ref (a 3), .ref (a 4), .ref (a 5), .ref (a 6), .ref (a 7), .ref (a 8), .long (zL (hs))])), (a 0, .inl (cI, 612, .inl (zA f)))]) (va_Qi (fun r _ => r = zI 0) (fun (u : Unit) t => va_P D vwCl [(m0, .inr (7, [.ref (a 0), .ref (a 1), .int (zI (ke)), .int (zI (1)), .ref (a 2), .ref (a 3), .ref (a 4), .ref (a 5), .ref (a 6), .ref (a 7), .ref (a 8), .long (zL (hs))])), (a 0, .inl (cI, 612, .inl (zA f)))] t.heap) (zAd [(m0, .inr (7, [.ref (a 0), .ref (a 1), .int (zI (ke)), .int (zI (th)), .ref (a 2), .ref (a 3), .ref (a 4), .ref (a 5), .ref (a 6), .ref (a 7), .ref (a 8), .long (zL (hs))])), (a 0, .inl (cI, 612, .inl (zA f)))])) 0 0 (zAd [(m0, .inr (7, [.ref (a 0), .ref (a 1), .int (zI (ke)), .int (zI (th)), .ref (a 2), .ref (a 3), .ref (a 4), .ref (a 5), .ref (a 6), .ref (a 7), .ref (a 8), .long (zL (hs))])), (a 0, .inl (cI, 612, .inl (zA f)))]) := by
  refine zWi_of (cc := cX7_setGradient) (maxL := 4) (ret := (some .int)) (by decide) rfl (Nat.le_of_ble_eq_true rfl) rfl ?_
  intro p e s m args below meth c Q A ls hx hb hml hts hown hK hP hD hS hl hret
  have hl : lv_has ls 4 [(0, .ref m0), (1, .int (zI (x))), (2, .int (zI (z))), (3, .int (zI (v)))] := hl
  have hP : va_P D vwCl [(m0, .inr (7, [.ref (a 0), .ref (a 1), .int (zI (ke)), .int (zI (th)), .ref (a 2), .ref (a 3), .ref (a 4), .ref (a 5), .ref (a 6), .ref (a 7), .ref (a 8), .long (zL (hs))])), (a 0, .inl (cI, 612, .inl (zA f)))] s.heap := hP
  obtain ⟨o0, o1, o2, o3, o4, o5, o7, o8, olim, ogrd, obar, oneed, opost⟩ := id ok
  have hfr := okF_r ok
  refine lv_aload_n hx hb dX7_setGradient_0 rfl (lv_at hl 0 rfl) ?_
  refine lv_aload_n hx hb dX7_setGradient_1 rfl (lv_at hl 0 rfl) ?_
  refine lv_iload_n hx hb dX7_setGradient_2 rfl (lv_at hl 1 rfl) ?_
  refine y_rV (v := zB (0 ≤ x ∧ x ≤ f 0 - 1)) (As := [.int (zI (x))]) (rest := [.ref m0]) hx hb hml hown hts hl.1 ⟨Nat.zero_le _, Nat.zero_le _⟩ (kX7_isCell l D cI cJ cS m0 a ke th hs f x o0 (by omega)) (cwV 1 hts gX7_setGradient_X7_isCell rfl rfl rfl jX7_isCell ⟨Nat.le_of_ble_eq_true rfl, Nat.le_of_ble_eq_true rfl⟩) hK [true, true] hP hD rfl 7 0 rfl rfl rfl rfl rfl (Nat.le_of_ble_eq_true rfl) dX7_setGradient_3 ?_
  refine z_if_eq (tgt := 37) hx hb dX7_setGradient_6 (by decide) (by have hz := zB_01 (0 ≤ x ∧ x ≤ f 0 - 1); omega) (fun c6 => ?_) (fun c6 => ?_)
  · have c6 := zB_0.mp c6
    refine z_iconst hx hb dX7_setGradient_37 ?_
    refine y_wVi (As := [.int (zI (0))]) (rest := []) (fun (u38 : Unit) => [(m0, .inr (7, [.ref (a 0), .ref (a 1), .int (zI (ke)), .int (zI (1)), .ref (a 2), .ref (a 3), .ref (a 4), .ref (a 5), .ref (a 6), .ref (a 7), .ref (a 8), .long (zL (hs))])), (a 0, .inl (cI, 612, .inl (zA f)))]) hx hb hml hown hts hl.1 ⟨Nat.zero_le _, Nat.zero_le _⟩ (kX7_refuses_0 l D cI cJ cS m0 a ke th hs f) (cwV 1 hts gX7_setGradient_X7_refuses rfl rfl rfl jX7_refuses ⟨Nat.le_of_ble_eq_true rfl, Nat.le_of_ble_eq_true rfl⟩) hK [true] hP hD hS rfl (fun _ => rfl) (fun _ => rfl) 7 0 rfl rfl rfl rfl rfl (Nat.le_of_ble_eq_true rfl) dX7_setGradient_38 (fun r38 u38 H locs hu38 hP hS => ?_)
    subst hu38
    refine z_if_eq (tgt := 48) hx hb dX7_setGradient_41 (by decide) (by omega) (fun c41 => ?_) (fun c41 => ?_)
    · exfalso; omega
    · refine z_iconst hx hb dX7_setGradient_44 ?_
      refine lv_goto (tgt := 58) hx hb dX7_setGradient_45 (by decide) ?_
      exact hret () rfl hP hS dX7_setGradient_58
  · have c6 := zB_n0.mp c6
    refine lv_aload_n hx hb dX7_setGradient_9 rfl (lv_at hl 0 rfl) ?_
    refine lv_iload_n hx hb dX7_setGradient_10 rfl (lv_at hl 2 rfl) ?_
    refine y_rV (v := zB (0 ≤ z ∧ z ≤ f 0 - 1)) (As := [.int (zI (z))]) (rest := [.ref m0]) hx hb hml hown hts hl.1 ⟨Nat.zero_le _, Nat.zero_le _⟩ (kX7_isCell l D cI cJ cS m0 a ke th hs f z o0 (by omega)) (cwV 1 hts gX7_setGradient_X7_isCell rfl rfl rfl jX7_isCell ⟨Nat.le_of_ble_eq_true rfl, Nat.le_of_ble_eq_true rfl⟩) hK [true, true] hP hD rfl 7 0 rfl rfl rfl rfl rfl (Nat.le_of_ble_eq_true rfl) dX7_setGradient_11 ?_
    refine z_if_eq (tgt := 37) hx hb dX7_setGradient_14 (by decide) (by have hz := zB_01 (0 ≤ z ∧ z ≤ f 0 - 1); omega) (fun c14 => ?_) (fun c14 => ?_)
    · have c14 := zB_0.mp c14
      refine z_iconst hx hb dX7_setGradient_37 ?_
      refine y_wVi (As := [.int (zI (0))]) (rest := []) (fun (u38 : Unit) => [(m0, .inr (7, [.ref (a 0), .ref (a 1), .int (zI (ke)), .int (zI (1)), .ref (a 2), .ref (a 3), .ref (a 4), .ref (a 5), .ref (a 6), .ref (a 7), .ref (a 8), .long (zL (hs))])), (a 0, .inl (cI, 612, .inl (zA f)))]) hx hb hml hown hts hl.1 ⟨Nat.zero_le _, Nat.zero_le _⟩ (kX7_refuses_0 l D cI cJ cS m0 a ke th hs f) (cwV 1 hts gX7_setGradient_X7_refuses rfl rfl rfl jX7_refuses ⟨Nat.le_of_ble_eq_true rfl, Nat.le_of_ble_eq_true rfl⟩) hK [true] hP hD hS rfl (fun _ => rfl) (fun _ => rfl) 7 0 rfl rfl rfl rfl rfl (Nat.le_of_ble_eq_true rfl) dX7_setGradient_38 (fun r38 u38 H locs hu38 hP hS => ?_)
      subst hu38
      refine z_if_eq (tgt := 48) hx hb dX7_setGradient_41 (by decide) (by omega) (fun c41 => ?_) (fun c41 => ?_)
      · exfalso; omega
      · refine z_iconst hx hb dX7_setGradient_44 ?_
        refine lv_goto (tgt := 58) hx hb dX7_setGradient_45 (by decide) ?_
        exact hret () rfl hP hS dX7_setGradient_58
    · have c14 := zB_n0.mp c14
      refine lv_iload_n hx hb dX7_setGradient_17 rfl (lv_at hl 1 rfl) ?_
      refine lv_iload_n hx hb dX7_setGradient_18 rfl (lv_at hl 2 rfl) ?_
      refine z_icmp_gt (tgt := 37) hx hb dX7_setGradient_19 (by decide) (by omega) (by omega) (fun c19 => ?_) (fun c19 => ?_)
      · refine z_iconst hx hb dX7_setGradient_37 ?_
        refine y_wVi (As := [.int (zI (0))]) (rest := []) (fun (u38 : Unit) => [(m0, .inr (7, [.ref (a 0), .ref (a 1), .int (zI (ke)), .int (zI (1)), .ref (a 2), .ref (a 3), .ref (a 4), .ref (a 5), .ref (a 6), .ref (a 7), .ref (a 8), .long (zL (hs))])), (a 0, .inl (cI, 612, .inl (zA f)))]) hx hb hml hown hts hl.1 ⟨Nat.zero_le _, Nat.zero_le _⟩ (kX7_refuses_0 l D cI cJ cS m0 a ke th hs f) (cwV 1 hts gX7_setGradient_X7_refuses rfl rfl rfl jX7_refuses ⟨Nat.le_of_ble_eq_true rfl, Nat.le_of_ble_eq_true rfl⟩) hK [true] hP hD hS rfl (fun _ => rfl) (fun _ => rfl) 7 0 rfl rfl rfl rfl rfl (Nat.le_of_ble_eq_true rfl) dX7_setGradient_38 (fun r38 u38 H locs hu38 hP hS => ?_)
        subst hu38
        refine z_if_eq (tgt := 48) hx hb dX7_setGradient_41 (by decide) (by omega) (fun c41 => ?_) (fun c41 => ?_)
        · exfalso; omega
        · refine z_iconst hx hb dX7_setGradient_44 ?_
          refine lv_goto (tgt := 58) hx hb dX7_setGradient_45 (by decide) ?_
          exact hret () rfl hP hS dX7_setGradient_58
      · refine lv_iload_n hx hb dX7_setGradient_22 rfl (lv_at hl 3 rfl) ?_
        refine z_bipush hx hb dX7_setGradient_23 (by decide +kernel) ?_
        refine z_bipush hx hb dX7_setGradient_25 (by decide +kernel) ?_
        refine z_rS (v := zB ((-40) ≤ v ∧ v ≤ 40)) (As := [.int (zI (v)), .int (zI (-40)), .int (zI (40))]) (rest := [.ref m0]) hx hb hml hown hts hl.1 ⟨Nat.zero_le _, Nat.zero_le _⟩ (kX7_in l D cI cJ cS v (-40) 40 (by omega) (by omega) (by omega)) (cwS 3 hts gX7_setGradient_X7_in rfl rfl rfl jX7_in ⟨Nat.le_of_ble_eq_true rfl, Nat.le_of_ble_eq_true rfl⟩) hK rfl rfl (Nat.le_of_ble_eq_true rfl) dX7_setGradient_27 ?_
        refine z_if_eq (tgt := 37) hx hb dX7_setGradient_30 (by decide) (by have hz := zB_01 ((-40) ≤ v ∧ v ≤ 40); omega) (fun c30 => ?_) (fun c30 => ?_)
        · have c30 := zB_0.mp c30
          refine z_iconst hx hb dX7_setGradient_37 ?_
          refine y_wVi (As := [.int (zI (0))]) (rest := []) (fun (u38 : Unit) => [(m0, .inr (7, [.ref (a 0), .ref (a 1), .int (zI (ke)), .int (zI (1)), .ref (a 2), .ref (a 3), .ref (a 4), .ref (a 5), .ref (a 6), .ref (a 7), .ref (a 8), .long (zL (hs))])), (a 0, .inl (cI, 612, .inl (zA f)))]) hx hb hml hown hts hl.1 ⟨Nat.zero_le _, Nat.zero_le _⟩ (kX7_refuses_0 l D cI cJ cS m0 a ke th hs f) (cwV 1 hts gX7_setGradient_X7_refuses rfl rfl rfl jX7_refuses ⟨Nat.le_of_ble_eq_true rfl, Nat.le_of_ble_eq_true rfl⟩) hK [true] hP hD hS rfl (fun _ => rfl) (fun _ => rfl) 7 0 rfl rfl rfl rfl rfl (Nat.le_of_ble_eq_true rfl) dX7_setGradient_38 (fun r38 u38 H locs hu38 hP hS => ?_)
          subst hu38
          refine z_if_eq (tgt := 48) hx hb dX7_setGradient_41 (by decide) (by omega) (fun c41 => ?_) (fun c41 => ?_)
          · exfalso; omega
          · refine z_iconst hx hb dX7_setGradient_44 ?_
            refine lv_goto (tgt := 58) hx hb dX7_setGradient_45 (by decide) ?_
            exact hret () rfl hP hS dX7_setGradient_58
        · have c30 := zB_n0.mp c30
          exfalso; omega

set_option maxHeartbeats 4000000 in
set_option maxRecDepth 100000 in
theorem kX7_setGradient_ok (l : Launch) (D : va_G) (cI cJ cS : ClassId) (m0 : Nat) (a : Nat → Nat) (ke th hs : Int) (f : Int → Int) (gp : Int → Int) (x z v : Int) (ok : OkF f) (hke : 0 ≤ ke ∧ ke ≤ 4) (hY : 0 ≤ x ∧ x ≤ z ∧ z ≤ f 0 - 1 ∧ -40 ≤ v ∧ v ≤ 40) : Met l yX7_setGradient wsX7_setGradient rmX7_setGradient (zPc D (zT cI cJ cS) [.ref m0, .int (zI (x)), .int (zI (z)), .int (zI (v))] [(m0, .inr (7, [.ref (a 0), .ref (a 1), .int (zI (ke)), .int (zI (th)), .ref (a 2), .ref (a 3), .ref (a 4), .ref (a 5), .ref (a 6), .ref (a 7), .ref (a 8), .long (zL (hs))])), (a 0, .inl (cI, 612, .inl (zA f))), (a 1, .inl (cI, 2448, .inl (zA gp)))]) (va_Qi (fun r _ => r = zI (zcnt f v (129 + x) (z + 1 - x).toNat)) (fun (u : Unit) t => va_P D vwCl [(m0, .inr (7, [.ref (a 0), .ref (a 1), .int (zI (cnS ke)), .int (zI (0)), .ref (a 2), .ref (a 3), .ref (a 4), .ref (a 5), .ref (a 6), .ref (a 7), .ref (a 8), .long (zL (hs))])), (a 0, .inl (cI, 612, .inl (zA (zfill f (129 + x) (129 + z) v)))), (a 1, .inl (cI, 2448, .inl (zA (kpF gp f ke))))] t.heap) (zAd [(m0, .inr (7, [.ref (a 0), .ref (a 1), .int (zI (ke)), .int (zI (th)), .ref (a 2), .ref (a 3), .ref (a 4), .ref (a 5), .ref (a 6), .ref (a 7), .ref (a 8), .long (zL (hs))])), (a 0, .inl (cI, 612, .inl (zA f))), (a 1, .inl (cI, 2448, .inl (zA gp)))])) 0 0 (zAd [(m0, .inr (7, [.ref (a 0), .ref (a 1), .int (zI (ke)), .int (zI (th)), .ref (a 2), .ref (a 3), .ref (a 4), .ref (a 5), .ref (a 6), .ref (a 7), .ref (a 8), .long (zL (hs))])), (a 0, .inl (cI, 612, .inl (zA f))), (a 1, .inl (cI, 2448, .inl (zA gp)))]) := by
  refine zWi_of (cc := cX7_setGradient) (maxL := 4) (ret := (some .int)) (by decide) rfl (Nat.le_of_ble_eq_true rfl) rfl ?_
  intro p e s m args below meth c Q A ls hx hb hml hts hown hK hP hD hS hl hret
  have hl : lv_has ls 4 [(0, .ref m0), (1, .int (zI (x))), (2, .int (zI (z))), (3, .int (zI (v)))] := hl
  have hP : va_P D vwCl [(m0, .inr (7, [.ref (a 0), .ref (a 1), .int (zI (ke)), .int (zI (th)), .ref (a 2), .ref (a 3), .ref (a 4), .ref (a 5), .ref (a 6), .ref (a 7), .ref (a 8), .long (zL (hs))])), (a 0, .inl (cI, 612, .inl (zA f))), (a 1, .inl (cI, 2448, .inl (zA gp)))] s.heap := hP
  obtain ⟨o0, o1, o2, o3, o4, o5, o7, o8, olim, ogrd, obar, oneed, opost⟩ := id ok
  have hfr := okF_r ok
  refine lv_aload_n hx hb dX7_setGradient_0 rfl (lv_at hl 0 rfl) ?_
  refine lv_aload_n hx hb dX7_setGradient_1 rfl (lv_at hl 0 rfl) ?_
  refine lv_iload_n hx hb dX7_setGradient_2 rfl (lv_at hl 1 rfl) ?_
  refine y_rV (v := zB (0 ≤ x ∧ x ≤ f 0 - 1)) (As := [.int (zI (x))]) (rest := [.ref m0]) hx hb hml hown hts hl.1 ⟨Nat.zero_le _, Nat.zero_le _⟩ (kX7_isCell l D cI cJ cS m0 a ke th hs f x o0 (by omega)) (cwV 1 hts gX7_setGradient_X7_isCell rfl rfl rfl jX7_isCell ⟨Nat.le_of_ble_eq_true rfl, Nat.le_of_ble_eq_true rfl⟩) hK [true, true] hP hD rfl 7 0 rfl rfl rfl rfl rfl (Nat.le_of_ble_eq_true rfl) dX7_setGradient_3 ?_
  refine z_top (1) (zB_t (by omega)) ?_
  refine z_if_eq (tgt := 37) hx hb dX7_setGradient_6 (by decide) (by omega) (fun c6 => ?_) (fun c6 => ?_)
  · exfalso; omega
  · refine lv_aload_n hx hb dX7_setGradient_9 rfl (lv_at hl 0 rfl) ?_
    refine lv_iload_n hx hb dX7_setGradient_10 rfl (lv_at hl 2 rfl) ?_
    refine y_rV (v := zB (0 ≤ z ∧ z ≤ f 0 - 1)) (As := [.int (zI (z))]) (rest := [.ref m0]) hx hb hml hown hts hl.1 ⟨Nat.zero_le _, Nat.zero_le _⟩ (kX7_isCell l D cI cJ cS m0 a ke th hs f z o0 (by omega)) (cwV 1 hts gX7_setGradient_X7_isCell rfl rfl rfl jX7_isCell ⟨Nat.le_of_ble_eq_true rfl, Nat.le_of_ble_eq_true rfl⟩) hK [true, true] hP hD rfl 7 0 rfl rfl rfl rfl rfl (Nat.le_of_ble_eq_true rfl) dX7_setGradient_11 ?_
    refine z_top (1) (zB_t (by omega)) ?_
    refine z_if_eq (tgt := 37) hx hb dX7_setGradient_14 (by decide) (by omega) (fun c14 => ?_) (fun c14 => ?_)
    · exfalso; omega
    · refine lv_iload_n hx hb dX7_setGradient_17 rfl (lv_at hl 1 rfl) ?_
      refine lv_iload_n hx hb dX7_setGradient_18 rfl (lv_at hl 2 rfl) ?_
      refine z_icmp_gt (tgt := 37) hx hb dX7_setGradient_19 (by decide) (by omega) (by omega) (fun c19 => ?_) (fun c19 => ?_)
      · exfalso; omega
      · refine lv_iload_n hx hb dX7_setGradient_22 rfl (lv_at hl 3 rfl) ?_
        refine z_bipush hx hb dX7_setGradient_23 (by decide +kernel) ?_
        refine z_bipush hx hb dX7_setGradient_25 (by decide +kernel) ?_
        refine z_rS (v := zB ((-40) ≤ v ∧ v ≤ 40)) (As := [.int (zI (v)), .int (zI (-40)), .int (zI (40))]) (rest := [.ref m0]) hx hb hml hown hts hl.1 ⟨Nat.zero_le _, Nat.zero_le _⟩ (kX7_in l D cI cJ cS v (-40) 40 (by omega) (by omega) (by omega)) (cwS 3 hts gX7_setGradient_X7_in rfl rfl rfl jX7_in ⟨Nat.le_of_ble_eq_true rfl, Nat.le_of_ble_eq_true rfl⟩) hK rfl rfl (Nat.le_of_ble_eq_true rfl) dX7_setGradient_27 ?_
        refine z_top (1) (zB_t (by omega)) ?_
        refine z_if_eq (tgt := 37) hx hb dX7_setGradient_30 (by decide) (by omega) (fun c30 => ?_) (fun c30 => ?_)
        · exfalso; omega
        · refine z_iconst hx hb dX7_setGradient_33 ?_
          refine lv_goto (tgt := 38) hx hb dX7_setGradient_34 (by decide) ?_
          refine y_wVi (As := [.int (zI (1))]) (rest := []) (fun (u38 : Unit) => [(m0, .inr (7, [.ref (a 0), .ref (a 1), .int (zI (ke)), .int (zI (0)), .ref (a 2), .ref (a 3), .ref (a 4), .ref (a 5), .ref (a 6), .ref (a 7), .ref (a 8), .long (zL (hs))])), (a 0, .inl (cI, 612, .inl (zA f))), (a 1, .inl (cI, 2448, .inl (zA gp)))]) hx hb hml hown hts hl.1 ⟨Nat.zero_le _, Nat.zero_le _⟩ (kX7_refuses_1 l D cI cJ cS m0 a ke th hs f) (cwV 1 hts gX7_setGradient_X7_refuses rfl rfl rfl jX7_refuses ⟨Nat.le_of_ble_eq_true rfl, Nat.le_of_ble_eq_true rfl⟩) hK [true] hP hD hS rfl (fun _ => rfl) (fun _ => rfl) 7 0 rfl rfl rfl rfl rfl (Nat.le_of_ble_eq_true rfl) dX7_setGradient_38 (fun r38 u38 H locs hu38 hP hS => ?_)
          subst hu38
          refine z_if_eq (tgt := 48) hx hb dX7_setGradient_41 (by decide) (by omega) (fun c41 => ?_) (fun c41 => ?_)
          · refine lv_aload_n hx hb dX7_setGradient_48 rfl (lv_at hl 0 rfl) ?_
            refine z_sipush hx hb dX7_setGradient_49 (by decide +kernel) ?_
            refine lv_iload_n hx hb dX7_setGradient_52 rfl (lv_at hl 1 rfl) ?_
            refine lv_iload_n hx hb dX7_setGradient_53 rfl (lv_at hl 2 rfl) ?_
            refine lv_iload_n hx hb dX7_setGradient_54 rfl (lv_at hl 3 rfl) ?_
            refine y_wVi (As := [.int (zI (129)), .int (zI (x)), .int (zI (z)), .int (zI (v))]) (rest := []) (fun (u55 : Unit) => [(m0, .inr (7, [.ref (a 0), .ref (a 1), .int (zI (cnS ke)), .int (zI (0)), .ref (a 2), .ref (a 3), .ref (a 4), .ref (a 5), .ref (a 6), .ref (a 7), .ref (a 8), .long (zL (hs))])), (a 0, .inl (cI, 612, .inl (zA (zfill f (129 + x) (129 + z) v)))), (a 1, .inl (cI, 2448, .inl (zA (kpF gp f ke))))]) hx hb hml hown hts hl.1 ⟨Nat.zero_le _, Nat.zero_le _⟩ (kX7_spread l D cI cJ cS m0 a ke 0 hs f gp 129 x z v hke (by omega) (by omega) hfr) (cwV 4 hts gX7_setGradient_X7_spread rfl rfl rfl jX7_spread ⟨Nat.le_of_ble_eq_true rfl, Nat.le_of_ble_eq_true rfl⟩) hK [true, true, true] hP (zD hD rfl) hS rfl (fun _ => rfl) (fun _ => rfl) 7 0 rfl rfl rfl rfl rfl (Nat.le_of_ble_eq_true rfl) dX7_setGradient_55 (fun r55 u55 H locs hu55 hP hS => ?_)
            subst hu55
            exact hret () rfl hP hS dX7_setGradient_58
          · exfalso; omega

abbrev rmX7_setBarred : Room := { frames := 2, cells := 0, slots := 0, locals := 47 }
theorem jX7_setBarred : yX7_setBarred.cls = RX7 ∧ yX7_setBarred.cls ≠ "java/lang/invoke/MethodHandle" ∧ yX7_setBarred.cls ≠ "java/lang/invoke/VarHandle" ∧ (parseMethodDescriptor yX7_setBarred.desc).map (fun d => d.parameters.length) = some 3 := by decide +kernel
set_option maxHeartbeats 4000000 in
set_option maxRecDepth 100000 in
theorem kX7_setBarred_no (l : Launch) (D : va_G) (cI cJ cS : ClassId) (m0 : Nat) (a : Nat → Nat) (ke th hs : Int) (f : Int → Int) (x z w : Int) (ok : OkF f) (hN : ¬ (0 ≤ x ∧ x ≤ z ∧ z ≤ f 0)) (hr_x : -2147483648 ≤ x ∧ x < 2147483648) (hr_z : -2147483648 ≤ z ∧ z < 2147483648) (hw : w = 0 ∨ w = 1) : Met l yX7_setBarred wsX7_setBarred rmX7_setBarred (zPc D (zT cI cJ cS) [.ref m0, .int (zI (x)), .int (zI (z)), .int (zI (w))] [(m0, .inr (7, [.ref (a 0), .ref (a 1), .int (zI (ke)), .int (zI (th)), .ref (a 2), .ref (a 3), .ref (a 4), .ref (a 5), .ref (a 6), .ref (a 7), .ref (a 8), .long (zL (hs))])), (a 0, .inl (cI, 612, .inl (zA f)))]) (va_Qi (fun r _ => r = zI 0) (fun (u : Unit) t => va_P D vwCl [(m0, .inr (7, [.ref (a 0), .ref (a 1), .int (zI (ke)), .int (zI (1)), .ref (a 2), .ref (a 3), .ref (a 4), .ref (a 5), .ref (a 6), .ref (a 7), .ref (a 8), .long (zL (hs))])), (a 0, .inl (cI, 612, .inl (zA f)))] t.heap) (zAd [(m0, .inr (7, [.ref (a 0), .ref (a 1), .int (zI (ke)), .int (zI (th)), .ref (a 2), .ref (a 3), .ref (a 4), .ref (a 5), .ref (a 6), .ref (a 7), .ref (a 8), .long (zL (hs))])), (a 0, .inl (cI, 612, .inl (zA f)))])) 0 0 (zAd [(m0, .inr (7, [.ref (a 0), .ref (a 1), .int (zI (ke)), .int (zI (th)), .ref (a 2), .ref (a 3), .ref (a 4), .ref (a 5), .ref (a 6), .ref (a 7), .ref (a 8), .long (zL (hs))])), (a 0, .inl (cI, 612, .inl (zA f)))]) := by
  refine zWi_of (cc := cX7_setBarred) (maxL := 7) (ret := (some .int)) (by decide) rfl (Nat.le_of_ble_eq_true rfl) rfl ?_
  intro p e s m args below meth c Q A ls hx hb hml hts hown hK hP hD hS hl hret
  have hl : lv_has ls 7 [(0, .ref m0), (1, .int (zI (x))), (2, .int (zI (z))), (3, .int (zI (w)))] := hl
  have hP : va_P D vwCl [(m0, .inr (7, [.ref (a 0), .ref (a 1), .int (zI (ke)), .int (zI (th)), .ref (a 2), .ref (a 3), .ref (a 4), .ref (a 5), .ref (a 6), .ref (a 7), .ref (a 8), .long (zL (hs))])), (a 0, .inl (cI, 612, .inl (zA f)))] s.heap := hP
  obtain ⟨o0, o1, o2, o3, o4, o5, o7, o8, olim, ogrd, obar, oneed, opost⟩ := id ok
  have hfr := okF_r ok
  refine lv_aload_n hx hb dX7_setBarred_0 rfl (lv_at hl 0 rfl) ?_
  refine lv_aload_n hx hb dX7_setBarred_1 rfl (lv_at hl 0 rfl) ?_
  refine lv_iload_n hx hb dX7_setBarred_2 rfl (lv_at hl 1 rfl) ?_
  refine y_rV (v := zB (0 ≤ x ∧ x ≤ f 0)) (As := [.int (zI (x))]) (rest := [.ref m0]) hx hb hml hown hts hl.1 ⟨Nat.zero_le _, Nat.zero_le _⟩ (kX7_isPosition l D cI cJ cS m0 a ke th hs f x o0 (by omega)) (cwV 1 hts gX7_setBarred_X7_isPosition rfl rfl rfl jX7_isPosition ⟨Nat.le_of_ble_eq_true rfl, Nat.le_of_ble_eq_true rfl⟩) hK [true, true] hP hD rfl 7 0 rfl rfl rfl rfl rfl (Nat.le_of_ble_eq_true rfl) dX7_setBarred_3 ?_
  refine z_if_eq (tgt := 26) hx hb dX7_setBarred_6 (by decide) (by have hz := zB_01 (0 ≤ x ∧ x ≤ f 0); omega) (fun c6 => ?_) (fun c6 => ?_)
  · have c6 := zB_0.mp c6
    refine z_iconst hx hb dX7_setBarred_26 ?_
    refine y_wVi (As := [.int (zI (0))]) (rest := []) (fun (u27 : Unit) => [(m0, .inr (7, [.ref (a 0), .ref (a 1), .int (zI (ke)), .int (zI (1)), .ref (a 2), .ref (a 3), .ref (a 4), .ref (a 5), .ref (a 6), .ref (a 7), .ref (a 8), .long (zL (hs))])), (a 0, .inl (cI, 612, .inl (zA f)))]) hx hb hml hown hts hl.1 ⟨Nat.zero_le _, Nat.zero_le _⟩ (kX7_refuses_0 l D cI cJ cS m0 a ke th hs f) (cwV 1 hts gX7_setBarred_X7_refuses rfl rfl rfl jX7_refuses ⟨Nat.le_of_ble_eq_true rfl, Nat.le_of_ble_eq_true rfl⟩) hK [true] hP hD hS rfl (fun _ => rfl) (fun _ => rfl) 7 0 rfl rfl rfl rfl rfl (Nat.le_of_ble_eq_true rfl) dX7_setBarred_27 (fun r27 u27 H locs hu27 hP hS => ?_)
    subst hu27
    refine z_if_eq (tgt := 35) hx hb dX7_setBarred_30 (by decide) (by omega) (fun c30 => ?_) (fun c30 => ?_)
    · exfalso; omega
    · refine z_iconst hx hb dX7_setBarred_33 ?_
      exact hret () rfl hP hS dX7_setBarred_34
  · have c6 := zB_n0.mp c6
    refine lv_aload_n hx hb dX7_setBarred_9 rfl (lv_at hl 0 rfl) ?_
    refine lv_iload_n hx hb dX7_setBarred_10 rfl (lv_at hl 2 rfl) ?_
    refine y_rV (v := zB (0 ≤ z ∧ z ≤ f 0)) (As := [.int (zI (z))]) (rest := [.ref m0]) hx hb hml hown hts hl.1 ⟨Nat.zero_le _, Nat.zero_le _⟩ (kX7_isPosition l D cI cJ cS m0 a ke th hs f z o0 (by omega)) (cwV 1 hts gX7_setBarred_X7_isPosition rfl rfl rfl jX7_isPosition ⟨Nat.le_of_ble_eq_true rfl, Nat.le_of_ble_eq_true rfl⟩) hK [true, true] hP hD rfl 7 0 rfl rfl rfl rfl rfl (Nat.le_of_ble_eq_true rfl) dX7_setBarred_11 ?_
    refine z_if_eq (tgt := 26) hx hb dX7_setBarred_14 (by decide) (by have hz := zB_01 (0 ≤ z ∧ z ≤ f 0); omega) (fun c14 => ?_) (fun c14 => ?_)
    · have c14 := zB_0.mp c14
      refine z_iconst hx hb dX7_setBarred_26 ?_
      refine y_wVi (As := [.int (zI (0))]) (rest := []) (fun (u27 : Unit) => [(m0, .inr (7, [.ref (a 0), .ref (a 1), .int (zI (ke)), .int (zI (1)), .ref (a 2), .ref (a 3), .ref (a 4), .ref (a 5), .ref (a 6), .ref (a 7), .ref (a 8), .long (zL (hs))])), (a 0, .inl (cI, 612, .inl (zA f)))]) hx hb hml hown hts hl.1 ⟨Nat.zero_le _, Nat.zero_le _⟩ (kX7_refuses_0 l D cI cJ cS m0 a ke th hs f) (cwV 1 hts gX7_setBarred_X7_refuses rfl rfl rfl jX7_refuses ⟨Nat.le_of_ble_eq_true rfl, Nat.le_of_ble_eq_true rfl⟩) hK [true] hP hD hS rfl (fun _ => rfl) (fun _ => rfl) 7 0 rfl rfl rfl rfl rfl (Nat.le_of_ble_eq_true rfl) dX7_setBarred_27 (fun r27 u27 H locs hu27 hP hS => ?_)
      subst hu27
      refine z_if_eq (tgt := 35) hx hb dX7_setBarred_30 (by decide) (by omega) (fun c30 => ?_) (fun c30 => ?_)
      · exfalso; omega
      · refine z_iconst hx hb dX7_setBarred_33 ?_
        exact hret () rfl hP hS dX7_setBarred_34
    · have c14 := zB_n0.mp c14
      refine lv_iload_n hx hb dX7_setBarred_17 rfl (lv_at hl 1 rfl) ?_
      refine lv_iload_n hx hb dX7_setBarred_18 rfl (lv_at hl 2 rfl) ?_
      refine z_icmp_gt (tgt := 26) hx hb dX7_setBarred_19 (by decide) (by omega) (by omega) (fun c19 => ?_) (fun c19 => ?_)
      · refine z_iconst hx hb dX7_setBarred_26 ?_
        refine y_wVi (As := [.int (zI (0))]) (rest := []) (fun (u27 : Unit) => [(m0, .inr (7, [.ref (a 0), .ref (a 1), .int (zI (ke)), .int (zI (1)), .ref (a 2), .ref (a 3), .ref (a 4), .ref (a 5), .ref (a 6), .ref (a 7), .ref (a 8), .long (zL (hs))])), (a 0, .inl (cI, 612, .inl (zA f)))]) hx hb hml hown hts hl.1 ⟨Nat.zero_le _, Nat.zero_le _⟩ (kX7_refuses_0 l D cI cJ cS m0 a ke th hs f) (cwV 1 hts gX7_setBarred_X7_refuses rfl rfl rfl jX7_refuses ⟨Nat.le_of_ble_eq_true rfl, Nat.le_of_ble_eq_true rfl⟩) hK [true] hP hD hS rfl (fun _ => rfl) (fun _ => rfl) 7 0 rfl rfl rfl rfl rfl (Nat.le_of_ble_eq_true rfl) dX7_setBarred_27 (fun r27 u27 H locs hu27 hP hS => ?_)
        subst hu27
        refine z_if_eq (tgt := 35) hx hb dX7_setBarred_30 (by decide) (by omega) (fun c30 => ?_) (fun c30 => ?_)
        · exfalso; omega
        · refine z_iconst hx hb dX7_setBarred_33 ?_
          exact hret () rfl hP hS dX7_setBarred_34
      · exfalso; omega

set_option maxHeartbeats 4000000 in
set_option maxRecDepth 100000 in
theorem kX7_setBarred_ok (l : Launch) (D : va_G) (cI cJ cS : ClassId) (m0 : Nat) (a : Nat → Nat) (ke th hs : Int) (f : Int → Int) (gp : Int → Int) (x z w : Int) (ok : OkF f) (hke : 0 ≤ ke ∧ ke ≤ 4) (hY : 0 ≤ x ∧ x ≤ z ∧ z ≤ f 0) (hw : w = 0 ∨ w = 1) : Met l yX7_setBarred wsX7_setBarred rmX7_setBarred (zPc D (zT cI cJ cS) [.ref m0, .int (zI (x)), .int (zI (z)), .int (zI (w))] [(m0, .inr (7, [.ref (a 0), .ref (a 1), .int (zI (ke)), .int (zI (th)), .ref (a 2), .ref (a 3), .ref (a 4), .ref (a 5), .ref (a 6), .ref (a 7), .ref (a 8), .long (zL (hs))])), (a 0, .inl (cI, 612, .inl (zA f))), (a 1, .inl (cI, 2448, .inl (zA gp)))]) (va_Qi (fun r _ => r = zI (zsm (zfill f (249 + x) (249 + z) w) 249 (f 0 + 1))) (fun (u : Unit) t => va_P D vwCl [(m0, .inr (7, [.ref (a 0), .ref (a 1), .int (zI (cnS ke)), .int (zI (0)), .ref (a 2), .ref (a 3), .ref (a 4), .ref (a 5), .ref (a 6), .ref (a 7), .ref (a 8), .long (zL (hs))])), (a 0, .inl (cI, 612, .inl (zA (zfill f (249 + x) (249 + z) w)))), (a 1, .inl (cI, 2448, .inl (zA (kpF gp f ke))))] t.heap) (zAd [(m0, .inr (7, [.ref (a 0), .ref (a 1), .int (zI (ke)), .int (zI (th)), .ref (a 2), .ref (a 3), .ref (a 4), .ref (a 5), .ref (a 6), .ref (a 7), .ref (a 8), .long (zL (hs))])), (a 0, .inl (cI, 612, .inl (zA f))), (a 1, .inl (cI, 2448, .inl (zA gp)))])) 0 0 (zAd [(m0, .inr (7, [.ref (a 0), .ref (a 1), .int (zI (ke)), .int (zI (th)), .ref (a 2), .ref (a 3), .ref (a 4), .ref (a 5), .ref (a 6), .ref (a 7), .ref (a 8), .long (zL (hs))])), (a 0, .inl (cI, 612, .inl (zA f))), (a 1, .inl (cI, 2448, .inl (zA gp)))]) := by
  refine zWi_of (cc := cX7_setBarred) (maxL := 7) (ret := (some .int)) (by decide) rfl (Nat.le_of_ble_eq_true rfl) rfl ?_
  intro p e s m args below meth c Q A ls hx hb hml hts hown hK hP hD hS hl hret
  have in7 : ∀ w ∈ wsX70, w ∈ wsX7_setBarred := by decide +kernel
  have f7 := hts (.fieldLink RX7 7 "SignalSpacingModel" "now" "[I") (by decide +kernel)
  have hl : lv_has ls 7 [(0, .ref m0), (1, .int (zI (x))), (2, .int (zI (z))), (3, .int (zI (w)))] := hl
  have hP : va_P D vwCl [(m0, .inr (7, [.ref (a 0), .ref (a 1), .int (zI (ke)), .int (zI (th)), .ref (a 2), .ref (a 3), .ref (a 4), .ref (a 5), .ref (a 6), .ref (a 7), .ref (a 8), .long (zL (hs))])), (a 0, .inl (cI, 612, .inl (zA f))), (a 1, .inl (cI, 2448, .inl (zA gp)))] s.heap := hP
  obtain ⟨o0, o1, o2, o3, o4, o5, o7, o8, olim, ogrd, obar, oneed, opost⟩ := id ok
  have hfr := okF_r ok
  refine lv_aload_n hx hb dX7_setBarred_0 rfl (lv_at hl 0 rfl) ?_
  refine lv_aload_n hx hb dX7_setBarred_1 rfl (lv_at hl 0 rfl) ?_
  refine lv_iload_n hx hb dX7_setBarred_2 rfl (lv_at hl 1 rfl) ?_
  refine y_rV (v := zB (0 ≤ x ∧ x ≤ f 0)) (As := [.int (zI (x))]) (rest := [.ref m0]) hx hb hml hown hts hl.1 ⟨Nat.zero_le _, Nat.zero_le _⟩ (kX7_isPosition l D cI cJ cS m0 a ke th hs f x o0 (by omega)) (cwV 1 hts gX7_setBarred_X7_isPosition rfl rfl rfl jX7_isPosition ⟨Nat.le_of_ble_eq_true rfl, Nat.le_of_ble_eq_true rfl⟩) hK [true, true] hP hD rfl 7 0 rfl rfl rfl rfl rfl (Nat.le_of_ble_eq_true rfl) dX7_setBarred_3 ?_
  refine z_top (1) (zB_t (by omega)) ?_
  refine z_if_eq (tgt := 26) hx hb dX7_setBarred_6 (by decide) (by omega) (fun c6 => ?_) (fun c6 => ?_)
  · exfalso; omega
  · refine lv_aload_n hx hb dX7_setBarred_9 rfl (lv_at hl 0 rfl) ?_
    refine lv_iload_n hx hb dX7_setBarred_10 rfl (lv_at hl 2 rfl) ?_
    refine y_rV (v := zB (0 ≤ z ∧ z ≤ f 0)) (As := [.int (zI (z))]) (rest := [.ref m0]) hx hb hml hown hts hl.1 ⟨Nat.zero_le _, Nat.zero_le _⟩ (kX7_isPosition l D cI cJ cS m0 a ke th hs f z o0 (by omega)) (cwV 1 hts gX7_setBarred_X7_isPosition rfl rfl rfl jX7_isPosition ⟨Nat.le_of_ble_eq_true rfl, Nat.le_of_ble_eq_true rfl⟩) hK [true, true] hP hD rfl 7 0 rfl rfl rfl rfl rfl (Nat.le_of_ble_eq_true rfl) dX7_setBarred_11 ?_
    refine z_top (1) (zB_t (by omega)) ?_
    refine z_if_eq (tgt := 26) hx hb dX7_setBarred_14 (by decide) (by omega) (fun c14 => ?_) (fun c14 => ?_)
    · exfalso; omega
    · refine lv_iload_n hx hb dX7_setBarred_17 rfl (lv_at hl 1 rfl) ?_
      refine lv_iload_n hx hb dX7_setBarred_18 rfl (lv_at hl 2 rfl) ?_
      refine z_icmp_gt (tgt := 26) hx hb dX7_setBarred_19 (by decide) (by omega) (by omega) (fun c19 => ?_) (fun c19 => ?_)
      · exfalso; omega
      · refine z_iconst hx hb dX7_setBarred_22 ?_
        refine lv_goto (tgt := 27) hx hb dX7_setBarred_23 (by decide) ?_
        refine y_wVi (As := [.int (zI (1))]) (rest := []) (fun (u27 : Unit) => [(m0, .inr (7, [.ref (a 0), .ref (a 1), .int (zI (ke)), .int (zI (0)), .ref (a 2), .ref (a 3), .ref (a 4), .ref (a 5), .ref (a 6), .ref (a 7), .ref (a 8), .long (zL (hs))])), (a 0, .inl (cI, 612, .inl (zA f))), (a 1, .inl (cI, 2448, .inl (zA gp)))]) hx hb hml hown hts hl.1 ⟨Nat.zero_le _, Nat.zero_le _⟩ (kX7_refuses_1 l D cI cJ cS m0 a ke th hs f) (cwV 1 hts gX7_setBarred_X7_refuses rfl rfl rfl jX7_refuses ⟨Nat.le_of_ble_eq_true rfl, Nat.le_of_ble_eq_true rfl⟩) hK [true] hP hD hS rfl (fun _ => rfl) (fun _ => rfl) 7 0 rfl rfl rfl rfl rfl (Nat.le_of_ble_eq_true rfl) dX7_setBarred_27 (fun r27 u27 H locs hu27 hP hS => ?_)
        subst hu27
        refine z_if_eq (tgt := 35) hx hb dX7_setBarred_30 (by decide) (by omega) (fun c30 => ?_) (fun c30 => ?_)
        · refine lv_aload_n hx hb dX7_setBarred_35 rfl (lv_at hl 0 rfl) ?_
          refine z_sipush hx hb dX7_setBarred_36 (by decide +kernel) ?_
          refine lv_iload_n hx hb dX7_setBarred_39 rfl (lv_at hl 1 rfl) ?_
          refine lv_iload_n hx hb dX7_setBarred_40 rfl (lv_at hl 2 rfl) ?_
          refine lv_iload_n hx hb dX7_setBarred_41 rfl (lv_at hl 3 rfl) ?_
          have J50 :  ∀ (H : Heap) (locs : List Loc), va_P D vwCl [(m0, .inr (7, [.ref (a 0), .ref (a 1), .int (zI (ke)), .int (zI (0)), .ref (a 2), .ref (a 3), .ref (a 4), .ref (a 5), .ref (a 6), .ref (a 7), .ref (a 8), .long (zL (hs))])), (a 0, .inl (cI, 612, .inl (zA f))), (a 1, .inl (cI, 2448, .inl (zA gp)))] H → va_S A s.heap H locs → ∀ (ls : Array Slot), lv_has ls 7 [(0, .ref m0), (1, .int (zI (x))), (2, .int (zI (z))), (3, .int (zI (w)))] → W p l e rmX7_setBarred s m args below meth c H locs 0 0 Q (F0 m 50 ls [.int (zI (w)), .int (zI (z)), .int (zI (x)), .int (zI (249)), .ref m0]) := by
            intro  H locs hP hS ls hl
            refine y_wVi (As := [.int (zI (249)), .int (zI (x)), .int (zI (z)), .int (zI (w))]) (rest := []) (fun (u50 : Unit) => [(m0, .inr (7, [.ref (a 0), .ref (a 1), .int (zI (cnS ke)), .int (zI (0)), .ref (a 2), .ref (a 3), .ref (a 4), .ref (a 5), .ref (a 6), .ref (a 7), .ref (a 8), .long (zL (hs))])), (a 0, .inl (cI, 612, .inl (zA (zfill f (249 + x) (249 + z) w)))), (a 1, .inl (cI, 2448, .inl (zA (kpF gp f ke))))]) hx hb hml hown hts hl.1 ⟨Nat.zero_le _, Nat.zero_le _⟩ (kX7_spread l D cI cJ cS m0 a ke 0 hs f gp 249 x z w hke (by omega) (by omega) hfr) (cwV 4 hts gX7_setBarred_X7_spread rfl rfl rfl jX7_spread ⟨Nat.le_of_ble_eq_true rfl, Nat.le_of_ble_eq_true rfl⟩) hK [true, true, true] hP (zD hD rfl) hS rfl (fun _ => rfl) (fun _ => rfl) 7 0 rfl rfl rfl rfl rfl (Nat.le_of_ble_eq_true rfl) dX7_setBarred_50 (fun r50 u50 H locs hu50 hP hS => ?_)
            subst hu50
            refine lv_istore (lv' := [(4, .int (zI (zcnt f w (249 + x) (z + 1 - x).toNat))), (0, .ref m0), (1, .int (zI (x))), (2, .int (zI (z))), (3, .int (zI (w)))]) hx hb dX7_setBarred_53 hl (by decide) rfl (fun ls hl => ?_)
            refine z_iconst hx hb dX7_setBarred_55 ?_
            refine lv_istore (lv' := [(5, .int (zI (0))), (4, .int (zI (zcnt f w (249 + x) (z + 1 - x).toNat))), (0, .ref m0), (1, .int (zI (x))), (2, .int (zI (z))), (3, .int (zI (w)))]) hx hb dX7_setBarred_56 hl (by decide) rfl (fun ls hl => ?_)
            refine z_iconst hx hb dX7_setBarred_58 ?_
            refine lv_istore (lv' := [(6, .int (zI (0))), (5, .int (zI (0))), (4, .int (zI (zcnt f w (249 + x) (z + 1 - x).toNat))), (0, .ref m0), (1, .int (zI (x))), (2, .int (zI (z))), (3, .int (zI (w)))]) hx hb dX7_setBarred_59 hl (by decide) rfl (fun ls hl => ?_)
            have L61 : ∀ (fuel : Nat), ∀ (t : Int) (i : Int), ∀ (h3 : 0 ≤ i ∧ i ≤ f 0 + 1), ∀ (ht : t = zsm (zfill f (249 + x) (249 + z) w) 249 i), (f 0 + 1 - i).toNat < fuel → ∀ (H : Heap) (locs : List Loc), va_P D vwCl [(m0, .inr (7, [.ref (a 0), .ref (a 1), .int (zI (cnS ke)), .int (zI (0)), .ref (a 2), .ref (a 3), .ref (a 4), .ref (a 5), .ref (a 6), .ref (a 7), .ref (a 8), .long (zL (hs))])), (a 0, .inl (cI, 612, .inl (zA (zfill f (249 + x) (249 + z) w)))), (a 1, .inl (cI, 2448, .inl (zA (kpF gp f ke))))] H → va_S A s.heap H locs → ∀ (ls : Array Slot), lv_has ls 7 [(0, .ref m0), (5, .int (zI (t))), (6, .int (zI (i)))] → W p l e rmX7_setBarred s m args below meth c H locs 0 0 Q (F0 m 61 ls []) := by
              intro fuel
              induction fuel with
              | zero =>
                intro t i h3 ht hm
                exact absurd hm (Nat.not_lt_zero _)
              | succ fuel ih61 =>
                intro t i h3 ht hm H locs hP hS ls hl
                refine lv_iload hx hb dX7_setBarred_61 (lv_at hl 2 rfl) ?_
                refine lv_aload_n hx hb dX7_setBarred_63 rfl (lv_at hl 0 rfl) ?_
                refine va_get (D := D) (ci := 7) (v := .ref (a 0)) (C := RX7) (T := TX7) (N := 12) hx hb hts in7 hown hK hP 0 rfl rfl 0 (by decide) f7 (fun _ h9 => h9) rfl dX7_setBarred_64 ?_
                refine z_iconst hx hb dX7_setBarred_67 ?_
                refine z_iald hx hb hK hP 1 0 rfl rfl (by omega) (Nat.lt_of_succ_le (Nat.le_of_ble_eq_true rfl)) dX7_setBarred_68 ?_
                refine z_top (f 0) (if_neg (by omega)) ?_
                refine z_icmp_gt (tgt := 94) hx hb dX7_setBarred_69 (by decide) (by omega) (by omega) (fun c69 => ?_) (fun c69 => ?_)
                · refine lv_iload hx hb dX7_setBarred_94 (lv_at hl 1 rfl) ?_
                  exact hret () (by rw [ht, show i = f 0 + 1 by omega]) hP hS dX7_setBarred_96
                · refine lv_iload hx hb dX7_setBarred_72 (lv_at hl 1 rfl) ?_
                  refine lv_aload_n hx hb dX7_setBarred_74 rfl (lv_at hl 0 rfl) ?_
                  refine va_get (D := D) (ci := 7) (v := .ref (a 0)) (C := RX7) (T := TX7) (N := 12) hx hb hts in7 hown hK hP 0 rfl rfl 0 (by decide) f7 (fun _ h9 => h9) rfl dX7_setBarred_75 ?_
                  refine z_sipush hx hb dX7_setBarred_78 (by decide +kernel) ?_
                  refine lv_iload hx hb dX7_setBarred_81 (lv_at hl 2 rfl) ?_
                  refine z_iadd hx hb dX7_setBarred_83 ?_
                  refine z_iald hx hb hK hP 1 0 rfl rfl (by omega) (Nat.lt_of_succ_le (Nat.le_of_ble_eq_true rfl)) dX7_setBarred_84 ?_
                  refine z_iadd hx hb dX7_setBarred_85 ?_
                  refine lv_istore (lv' := [(5, .int (zI (t + ((zfill f (249 + x) (249 + z) w) (249 + i))))), (0, .ref m0), (6, .int (zI (i)))]) hx hb dX7_setBarred_86 hl (by decide) rfl (fun ls hl => ?_)
                  refine z_iinc (lv' := [(6, .int (zI (i + 1))), (5, .int (zI (t + ((zfill f (249 + x) (249 + z) w) (249 + i))))), (0, .ref m0)]) hx hb 2 (i + 1) dX7_setBarred_88 hl rfl (by omega) (by decide) rfl (fun ls hl => ?_)
                  refine lv_goto (tgt := 61) hx hb dX7_setBarred_91 (by decide) ?_
                  exact ih61 (t + ((zfill f (249 + x) (249 + z) w) (249 + i))) (i + 1) (by omega) (by rw [zsm_s h3.1, ht]) (by omega) _ _ hP hS ls (lv_sub hl [2, 1, 0] rfl)
            exact L61 _ 0 0 (by omega) rfl (Nat.lt_succ_self _) _ _ hP hS ls (lv_sub hl [3, 1, 0] rfl)
          refine z_if_eq (tgt := 49) hx hb dX7_setBarred_42 (by decide) (by omega) (fun c42 => ?_) (fun c42 => ?_)
          · refine z_iconst hx hb dX7_setBarred_49 ?_
            refine z_top (w) (by omega) ?_
            exact J50  _ _ hP hS ls (lv_sub hl [0, 1, 2, 3] rfl)
          · refine z_iconst hx hb dX7_setBarred_45 ?_
            refine lv_goto (tgt := 50) hx hb dX7_setBarred_46 (by decide) ?_
            refine z_top (w) (by omega) ?_
            exact J50  _ _ hP hS ls (lv_sub hl [0, 1, 2, 3] rfl)
        · exfalso; omega

abbrev rmX7_setRequired : Room := { frames := 2, cells := 0, slots := 0, locals := 47 }
theorem jX7_setRequired : yX7_setRequired.cls = RX7 ∧ yX7_setRequired.cls ≠ "java/lang/invoke/MethodHandle" ∧ yX7_setRequired.cls ≠ "java/lang/invoke/VarHandle" ∧ (parseMethodDescriptor yX7_setRequired.desc).map (fun d => d.parameters.length) = some 2 := by decide +kernel
set_option maxHeartbeats 4000000 in
set_option maxRecDepth 100000 in
theorem kX7_setRequired_no (l : Launch) (D : va_G) (cI cJ cS : ClassId) (m0 : Nat) (a : Nat → Nat) (ke th hs : Int) (f : Int → Int) (x w : Int) (ok : OkF f) (hN : ¬ (0 ≤ x ∧ x ≤ f 0)) (hr_x : -2147483648 ≤ x ∧ x < 2147483648) : Met l yX7_setRequired wsX7_setRequired rmX7_setRequired (zPc D (zT cI cJ cS) [.ref m0, .int (zI (x)), .int (zI (w))] [(m0, .inr (7, [.ref (a 0), .ref (a 1), .int (zI (ke)), .int (zI (th)), .ref (a 2), .ref (a 3), .ref (a 4), .ref (a 5), .ref (a 6), .ref (a 7), .ref (a 8), .long (zL (hs))])), (a 0, .inl (cI, 612, .inl (zA f)))]) (va_Qi (fun r _ => r = zI 0) (fun (u : Unit) t => va_P D vwCl [(m0, .inr (7, [.ref (a 0), .ref (a 1), .int (zI (ke)), .int (zI (1)), .ref (a 2), .ref (a 3), .ref (a 4), .ref (a 5), .ref (a 6), .ref (a 7), .ref (a 8), .long (zL (hs))])), (a 0, .inl (cI, 612, .inl (zA f)))] t.heap) (zAd [(m0, .inr (7, [.ref (a 0), .ref (a 1), .int (zI (ke)), .int (zI (th)), .ref (a 2), .ref (a 3), .ref (a 4), .ref (a 5), .ref (a 6), .ref (a 7), .ref (a 8), .long (zL (hs))])), (a 0, .inl (cI, 612, .inl (zA f)))])) 0 0 (zAd [(m0, .inr (7, [.ref (a 0), .ref (a 1), .int (zI (ke)), .int (zI (th)), .ref (a 2), .ref (a 3), .ref (a 4), .ref (a 5), .ref (a 6), .ref (a 7), .ref (a 8), .long (zL (hs))])), (a 0, .inl (cI, 612, .inl (zA f)))]) := by
  refine zWz_of (cc := cX7_setRequired) (maxL := 5) (ret := (some .boolean)) (by decide) rfl (Nat.le_of_ble_eq_true rfl) rfl (fun r _ h => Or.inl h) ?_
  intro p e s m args below meth c Q A ls hx hb hml hts hown hK hP hD hS hl hret
  have hl : lv_has ls 5 [(0, .ref m0), (1, .int (zI (x))), (2, .int (zI (w)))] := hl
  have hP : va_P D vwCl [(m0, .inr (7, [.ref (a 0), .ref (a 1), .int (zI (ke)), .int (zI (th)), .ref (a 2), .ref (a 3), .ref (a 4), .ref (a 5), .ref (a 6), .ref (a 7), .ref (a 8), .long (zL (hs))])), (a 0, .inl (cI, 612, .inl (zA f)))] s.heap := hP
  obtain ⟨o0, o1, o2, o3, o4, o5, o7, o8, olim, ogrd, obar, oneed, opost⟩ := id ok
  have hfr := okF_r ok
  refine lv_aload_n hx hb dX7_setRequired_0 rfl (lv_at hl 0 rfl) ?_
  refine lv_aload_n hx hb dX7_setRequired_1 rfl (lv_at hl 0 rfl) ?_
  refine lv_iload_n hx hb dX7_setRequired_2 rfl (lv_at hl 1 rfl) ?_
  refine y_rV (v := zB (0 ≤ x ∧ x ≤ f 0)) (As := [.int (zI (x))]) (rest := [.ref m0]) hx hb hml hown hts hl.1 ⟨Nat.zero_le _, Nat.zero_le _⟩ (kX7_isPosition l D cI cJ cS m0 a ke th hs f x o0 (by omega)) (cwV 1 hts gX7_setRequired_X7_isPosition rfl rfl rfl jX7_isPosition ⟨Nat.le_of_ble_eq_true rfl, Nat.le_of_ble_eq_true rfl⟩) hK [true, true] hP hD rfl 7 0 rfl rfl rfl rfl rfl (Nat.le_of_ble_eq_true rfl) dX7_setRequired_3 ?_
  refine z_top (0) (zB_f (by omega)) ?_
  refine y_wVi (As := [.int (zI (0))]) (rest := []) (fun (u6 : Unit) => [(m0, .inr (7, [.ref (a 0), .ref (a 1), .int (zI (ke)), .int (zI (1)), .ref (a 2), .ref (a 3), .ref (a 4), .ref (a 5), .ref (a 6), .ref (a 7), .ref (a 8), .long (zL (hs))])), (a 0, .inl (cI, 612, .inl (zA f)))]) hx hb hml hown hts hl.1 ⟨Nat.zero_le _, Nat.zero_le _⟩ (kX7_refuses_0 l D cI cJ cS m0 a ke th hs f) (cwV 1 hts gX7_setRequired_X7_refuses rfl rfl rfl jX7_refuses ⟨Nat.le_of_ble_eq_true rfl, Nat.le_of_ble_eq_true rfl⟩) hK [true] hP hD hS rfl (fun _ => rfl) (fun _ => rfl) 7 0 rfl rfl rfl rfl rfl (Nat.le_of_ble_eq_true rfl) dX7_setRequired_6 (fun r6 u6 H locs hu6 hP hS => ?_)
  subst hu6
  refine z_if_eq (tgt := 14) hx hb dX7_setRequired_9 (by decide) (by omega) (fun c9 => ?_) (fun c9 => ?_)
  · exfalso; omega
  · refine z_iconst hx hb dX7_setRequired_12 ?_
    exact hret () rfl hP hS dX7_setRequired_13

set_option maxHeartbeats 4000000 in
set_option maxRecDepth 100000 in
theorem kX7_setRequired_ok (l : Launch) (D : va_G) (cI cJ cS : ClassId) (m0 : Nat) (a : Nat → Nat) (ke th hs : Int) (f : Int → Int) (gp : Int → Int) (x w : Int) (ok : OkF f) (hke : 0 ≤ ke ∧ ke ≤ 4) (hY : 0 ≤ x ∧ x ≤ f 0) (hw : w = 0 ∨ w = 1) : Met l yX7_setRequired wsX7_setRequired rmX7_setRequired (zPc D (zT cI cJ cS) [.ref m0, .int (zI (x)), .int (zI (w))] [(m0, .inr (7, [.ref (a 0), .ref (a 1), .int (zI (ke)), .int (zI (th)), .ref (a 2), .ref (a 3), .ref (a 4), .ref (a 5), .ref (a 6), .ref (a 7), .ref (a 8), .long (zL (hs))])), (a 0, .inl (cI, 612, .inl (zA f))), (a 1, .inl (cI, 2448, .inl (zA gp)))]) (va_Qi (fun r _ => r = zI (zB (f (370 + x) = 1))) (fun (u : Unit) t => va_P D vwCl [(m0, .inr (7, [.ref (a 0), .ref (a 1), .int (zI (cnS ke)), .int (zI (0)), .ref (a 2), .ref (a 3), .ref (a 4), .ref (a 5), .ref (a 6), .ref (a 7), .ref (a 8), .long (zL (hs))])), (a 0, .inl (cI, 612, .inl (zA (zfill f (370 + x) (370 + x) w)))), (a 1, .inl (cI, 2448, .inl (zA (kpF gp f ke))))] t.heap) (zAd [(m0, .inr (7, [.ref (a 0), .ref (a 1), .int (zI (ke)), .int (zI (th)), .ref (a 2), .ref (a 3), .ref (a 4), .ref (a 5), .ref (a 6), .ref (a 7), .ref (a 8), .long (zL (hs))])), (a 0, .inl (cI, 612, .inl (zA f))), (a 1, .inl (cI, 2448, .inl (zA gp)))])) 0 0 (zAd [(m0, .inr (7, [.ref (a 0), .ref (a 1), .int (zI (ke)), .int (zI (th)), .ref (a 2), .ref (a 3), .ref (a 4), .ref (a 5), .ref (a 6), .ref (a 7), .ref (a 8), .long (zL (hs))])), (a 0, .inl (cI, 612, .inl (zA f))), (a 1, .inl (cI, 2448, .inl (zA gp)))]) := by
  refine zWz_of (cc := cX7_setRequired) (maxL := 5) (ret := (some .boolean)) (by decide) rfl (Nat.le_of_ble_eq_true rfl) rfl (fun r _ h => (zB_01 (f (370 + x) = 1)).elim (fun q => Or.inl (by rw [h, q])) (fun q => Or.inr (by rw [h, q]))) ?_
  intro p e s m args below meth c Q A ls hx hb hml hts hown hK hP hD hS hl hret
  have in7 : ∀ w ∈ wsX70, w ∈ wsX7_setRequired := by decide +kernel
  have f7 := hts (.fieldLink RX7 7 "SignalSpacingModel" "now" "[I") (by decide +kernel)
  have hl : lv_has ls 5 [(0, .ref m0), (1, .int (zI (x))), (2, .int (zI (w)))] := hl
  have hP : va_P D vwCl [(m0, .inr (7, [.ref (a 0), .ref (a 1), .int (zI (ke)), .int (zI (th)), .ref (a 2), .ref (a 3), .ref (a 4), .ref (a 5), .ref (a 6), .ref (a 7), .ref (a 8), .long (zL (hs))])), (a 0, .inl (cI, 612, .inl (zA f))), (a 1, .inl (cI, 2448, .inl (zA gp)))] s.heap := hP
  obtain ⟨o0, o1, o2, o3, o4, o5, o7, o8, olim, ogrd, obar, oneed, opost⟩ := id ok
  have hfr := okF_r ok
  refine lv_aload_n hx hb dX7_setRequired_0 rfl (lv_at hl 0 rfl) ?_
  refine lv_aload_n hx hb dX7_setRequired_1 rfl (lv_at hl 0 rfl) ?_
  refine lv_iload_n hx hb dX7_setRequired_2 rfl (lv_at hl 1 rfl) ?_
  refine y_rV (v := zB (0 ≤ x ∧ x ≤ f 0)) (As := [.int (zI (x))]) (rest := [.ref m0]) hx hb hml hown hts hl.1 ⟨Nat.zero_le _, Nat.zero_le _⟩ (kX7_isPosition l D cI cJ cS m0 a ke th hs f x o0 (by omega)) (cwV 1 hts gX7_setRequired_X7_isPosition rfl rfl rfl jX7_isPosition ⟨Nat.le_of_ble_eq_true rfl, Nat.le_of_ble_eq_true rfl⟩) hK [true, true] hP hD rfl 7 0 rfl rfl rfl rfl rfl (Nat.le_of_ble_eq_true rfl) dX7_setRequired_3 ?_
  refine z_top (1) (zB_t (by omega)) ?_
  refine y_wVi (As := [.int (zI (1))]) (rest := []) (fun (u6 : Unit) => [(m0, .inr (7, [.ref (a 0), .ref (a 1), .int (zI (ke)), .int (zI (0)), .ref (a 2), .ref (a 3), .ref (a 4), .ref (a 5), .ref (a 6), .ref (a 7), .ref (a 8), .long (zL (hs))])), (a 0, .inl (cI, 612, .inl (zA f))), (a 1, .inl (cI, 2448, .inl (zA gp)))]) hx hb hml hown hts hl.1 ⟨Nat.zero_le _, Nat.zero_le _⟩ (kX7_refuses_1 l D cI cJ cS m0 a ke th hs f) (cwV 1 hts gX7_setRequired_X7_refuses rfl rfl rfl jX7_refuses ⟨Nat.le_of_ble_eq_true rfl, Nat.le_of_ble_eq_true rfl⟩) hK [true] hP hD hS rfl (fun _ => rfl) (fun _ => rfl) 7 0 rfl rfl rfl rfl rfl (Nat.le_of_ble_eq_true rfl) dX7_setRequired_6 (fun r6 u6 H locs hu6 hP hS => ?_)
  subst hu6
  refine z_if_eq (tgt := 14) hx hb dX7_setRequired_9 (by decide) (by omega) (fun c9 => ?_) (fun c9 => ?_)
  · refine lv_aload_n hx hb dX7_setRequired_14 rfl (lv_at hl 0 rfl) ?_
    refine va_get (D := D) (ci := 7) (v := .ref (a 0)) (C := RX7) (T := TX7) (N := 12) hx hb hts in7 hown hK hP 0 rfl rfl 0 (by decide) f7 (fun _ h9 => h9) rfl dX7_setRequired_15 ?_
    refine z_sipush hx hb dX7_setRequired_18 (by decide +kernel) ?_
    refine lv_iload_n hx hb dX7_setRequired_21 rfl (lv_at hl 1 rfl) ?_
    refine z_iadd hx hb dX7_setRequired_22 ?_
    refine z_iald hx hb hK hP 1 0 rfl rfl (by omega) (Nat.lt_of_succ_le (Nat.le_of_ble_eq_true rfl)) dX7_setRequired_23 ?_
    have J33 :  ∀ (H : Heap) (locs : List Loc), va_P D vwCl [(m0, .inr (7, [.ref (a 0), .ref (a 1), .int (zI (ke)), .int (zI (0)), .ref (a 2), .ref (a 3), .ref (a 4), .ref (a 5), .ref (a 6), .ref (a 7), .ref (a 8), .long (zL (hs))])), (a 0, .inl (cI, 612, .inl (zA f))), (a 1, .inl (cI, 2448, .inl (zA gp)))] H → va_S A s.heap H locs → ∀ (ls : Array Slot), lv_has ls 5 [(0, .ref m0), (1, .int (zI (x))), (2, .int (zI (w)))] → W p l e rmX7_setRequired s m args below meth c H locs 0 0 Q (F0 m 33 ls [.int (zI (zB (f (370 + x) = 1)))]) := by
      intro  H locs hP hS ls hl
      refine lv_istore_n (lv' := [(3, .int (zI (zB (f (370 + x) = 1)))), (0, .ref m0), (1, .int (zI (x))), (2, .int (zI (w)))]) hx hb dX7_setRequired_33 rfl hl (by decide) rfl (fun ls hl => ?_)
      refine lv_aload_n hx hb dX7_setRequired_34 rfl (lv_at hl 1 rfl) ?_
      refine z_sipush hx hb dX7_setRequired_35 (by decide +kernel) ?_
      refine lv_iload_n hx hb dX7_setRequired_38 rfl (lv_at hl 2 rfl) ?_
      refine lv_iload_n hx hb dX7_setRequired_39 rfl (lv_at hl 2 rfl) ?_
      refine lv_iload_n hx hb dX7_setRequired_40 rfl (lv_at hl 3 rfl) ?_
      have J49 :  ∀ (H : Heap) (locs : List Loc), va_P D vwCl [(m0, .inr (7, [.ref (a 0), .ref (a 1), .int (zI (ke)), .int (zI (0)), .ref (a 2), .ref (a 3), .ref (a 4), .ref (a 5), .ref (a 6), .ref (a 7), .ref (a 8), .long (zL (hs))])), (a 0, .inl (cI, 612, .inl (zA f))), (a 1, .inl (cI, 2448, .inl (zA gp)))] H → va_S A s.heap H locs → ∀ (ls : Array Slot), lv_has ls 5 [(3, .int (zI (zB (f (370 + x) = 1)))), (0, .ref m0), (1, .int (zI (x))), (2, .int (zI (w)))] → W p l e rmX7_setRequired s m args below meth c H locs 0 0 Q (F0 m 49 ls [.int (zI (w)), .int (zI (x)), .int (zI (x)), .int (zI (370)), .ref m0]) := by
        intro  H locs hP hS ls hl
        refine y_wVi (As := [.int (zI (370)), .int (zI (x)), .int (zI (x)), .int (zI (w))]) (rest := []) (fun (u49 : Unit) => [(m0, .inr (7, [.ref (a 0), .ref (a 1), .int (zI (cnS ke)), .int (zI (0)), .ref (a 2), .ref (a 3), .ref (a 4), .ref (a 5), .ref (a 6), .ref (a 7), .ref (a 8), .long (zL (hs))])), (a 0, .inl (cI, 612, .inl (zA (zfill f (370 + x) (370 + x) w)))), (a 1, .inl (cI, 2448, .inl (zA (kpF gp f ke))))]) hx hb hml hown hts hl.1 ⟨Nat.zero_le _, Nat.zero_le _⟩ (kX7_spread l D cI cJ cS m0 a ke 0 hs f gp 370 x x w hke (by omega) (by omega) hfr) (cwV 4 hts gX7_setRequired_X7_spread rfl rfl rfl jX7_spread ⟨Nat.le_of_ble_eq_true rfl, Nat.le_of_ble_eq_true rfl⟩) hK [true, true, true] hP (zD hD rfl) hS rfl (fun _ => rfl) (fun _ => rfl) 7 0 rfl rfl rfl rfl rfl (Nat.le_of_ble_eq_true rfl) dX7_setRequired_49 (fun r49 u49 H locs hu49 hP hS => ?_)
        subst hu49
        refine lv_istore (lv' := [(4, .int (zI (zcnt f w (370 + x) (x + 1 - x).toNat))), (3, .int (zI (zB (f (370 + x) = 1)))), (0, .ref m0), (1, .int (zI (x))), (2, .int (zI (w)))]) hx hb dX7_setRequired_52 hl (by decide) rfl (fun ls hl => ?_)
        refine lv_iload_n hx hb dX7_setRequired_54 rfl (lv_at hl 1 rfl) ?_
        exact hret () rfl hP hS dX7_setRequired_55
      refine z_if_eq (tgt := 48) hx hb dX7_setRequired_41 (by decide) (by omega) (fun c41 => ?_) (fun c41 => ?_)
      · refine z_iconst hx hb dX7_setRequired_48 ?_
        refine z_top (w) (by omega) ?_
        exact J49  _ _ hP hS ls (lv_sub hl [0, 1, 2, 3] rfl)
      · refine z_iconst hx hb dX7_setRequired_44 ?_
        refine lv_goto (tgt := 49) hx hb dX7_setRequired_45 (by decide) ?_
        refine z_top (w) (by omega) ?_
        exact J49  _ _ hP hS ls (lv_sub hl [0, 1, 2, 3] rfl)
    refine z_iconst hx hb dX7_setRequired_24 ?_
    have hb9 := oneed x (by omega) (by omega)
    refine z_icmp_ne (tgt := 32) hx hb dX7_setRequired_25 (by decide) (by omega) (by omega) (fun c25 => ?_) (fun c25 => ?_)
    · refine z_iconst hx hb dX7_setRequired_32 ?_
      refine z_top (zB (f (370 + x) = 1)) (zB_f (P := f (370 + x) = 1) (by omega)).symm ?_
      exact J33  _ _ hP hS ls (lv_sub hl [0, 1, 2] rfl)
    · refine z_iconst hx hb dX7_setRequired_28 ?_
      refine lv_goto (tgt := 33) hx hb dX7_setRequired_29 (by decide) ?_
      refine z_top (zB (f (370 + x) = 1)) (zB_t (P := f (370 + x) = 1) (by omega)).symm ?_
      exact J33  _ _ hP hS ls (lv_sub hl [0, 1, 2] rfl)
  · exfalso; omega

abbrev rmX7_setTrain : Room := { frames := 1, cells := 0, slots := 0, locals := 22 }
theorem jX7_setTrain : yX7_setTrain.cls = RX7 ∧ yX7_setTrain.cls ≠ "java/lang/invoke/MethodHandle" ∧ yX7_setTrain.cls ≠ "java/lang/invoke/VarHandle" ∧ (parseMethodDescriptor yX7_setTrain.desc).map (fun d => d.parameters.length) = some 3 := by decide +kernel
set_option maxHeartbeats 4000000 in
set_option maxRecDepth 100000 in
theorem kX7_setTrain_no (l : Launch) (D : va_G) (cI cJ cS : ClassId) (m0 : Nat) (a : Nat → Nat) (ke th hs : Int) (f : Int → Int) (x y z : Int) (ok : OkF f) (hN : ¬ (50 ≤ x ∧ x ≤ 200 ∧ 0 ≤ y ∧ y ≤ 100 ∧ 1 ≤ z ∧ z ≤ 20)) (hr_x : -2147483648 ≤ x ∧ x < 2147483648) (hr_y : -2147483648 ≤ y ∧ y < 2147483648) (hr_z : -2147483648 ≤ z ∧ z < 2147483648) : Met l yX7_setTrain wsX7_setTrain rmX7_setTrain (zPc D (zT cI cJ cS) [.ref m0, .int (zI (x)), .int (zI (y)), .int (zI (z))] [(m0, .inr (7, [.ref (a 0), .ref (a 1), .int (zI (ke)), .int (zI (th)), .ref (a 2), .ref (a 3), .ref (a 4), .ref (a 5), .ref (a 6), .ref (a 7), .ref (a 8), .long (zL (hs))])), (a 0, .inl (cI, 612, .inl (zA f)))]) (va_Qi (fun r _ => r = zI 0) (fun (u : Unit) t => va_P D vwCl [(m0, .inr (7, [.ref (a 0), .ref (a 1), .int (zI (ke)), .int (zI (1)), .ref (a 2), .ref (a 3), .ref (a 4), .ref (a 5), .ref (a 6), .ref (a 7), .ref (a 8), .long (zL (hs))])), (a 0, .inl (cI, 612, .inl (zA f)))] t.heap) (zAd [(m0, .inr (7, [.ref (a 0), .ref (a 1), .int (zI (ke)), .int (zI (th)), .ref (a 2), .ref (a 3), .ref (a 4), .ref (a 5), .ref (a 6), .ref (a 7), .ref (a 8), .long (zL (hs))])), (a 0, .inl (cI, 612, .inl (zA f)))])) 0 0 (zAd [(m0, .inr (7, [.ref (a 0), .ref (a 1), .int (zI (ke)), .int (zI (th)), .ref (a 2), .ref (a 3), .ref (a 4), .ref (a 5), .ref (a 6), .ref (a 7), .ref (a 8), .long (zL (hs))])), (a 0, .inl (cI, 612, .inl (zA f)))]) := by
  refine zWi_of (cc := cX7_setTrain) (maxL := 5) (ret := (some .int)) (by decide) rfl (Nat.le_of_ble_eq_true rfl) rfl ?_
  intro p e s m args below meth c Q A ls hx hb hml hts hown hK hP hD hS hl hret
  have hl : lv_has ls 5 [(0, .ref m0), (1, .int (zI (x))), (2, .int (zI (y))), (3, .int (zI (z)))] := hl
  have hP : va_P D vwCl [(m0, .inr (7, [.ref (a 0), .ref (a 1), .int (zI (ke)), .int (zI (th)), .ref (a 2), .ref (a 3), .ref (a 4), .ref (a 5), .ref (a 6), .ref (a 7), .ref (a 8), .long (zL (hs))])), (a 0, .inl (cI, 612, .inl (zA f)))] s.heap := hP
  obtain ⟨o0, o1, o2, o3, o4, o5, o7, o8, olim, ogrd, obar, oneed, opost⟩ := id ok
  have hfr := okF_r ok
  refine lv_aload_n hx hb dX7_setTrain_0 rfl (lv_at hl 0 rfl) ?_
  refine lv_iload_n hx hb dX7_setTrain_1 rfl (lv_at hl 1 rfl) ?_
  refine z_bipush hx hb dX7_setTrain_2 (by decide +kernel) ?_
  refine z_sipush hx hb dX7_setTrain_4 (by decide +kernel) ?_
  refine z_rS (v := zB (50 ≤ x ∧ x ≤ 200)) (As := [.int (zI (x)), .int (zI (50)), .int (zI (200))]) (rest := [.ref m0]) hx hb hml hown hts hl.1 ⟨Nat.zero_le _, Nat.zero_le _⟩ (kX7_in l D cI cJ cS x 50 200 (by omega) (by omega) (by omega)) (cwS 3 hts gX7_setTrain_X7_in rfl rfl rfl jX7_in ⟨Nat.le_of_ble_eq_true rfl, Nat.le_of_ble_eq_true rfl⟩) hK rfl rfl (Nat.le_of_ble_eq_true rfl) dX7_setTrain_7 ?_
  refine z_if_eq (tgt := 37) hx hb dX7_setTrain_10 (by decide) (by have hz := zB_01 (50 ≤ x ∧ x ≤ 200); omega) (fun c10 => ?_) (fun c10 => ?_)
  · have c10 := zB_0.mp c10
    refine z_iconst hx hb dX7_setTrain_37 ?_
    refine y_wVi (As := [.int (zI (0))]) (rest := []) (fun (u38 : Unit) => [(m0, .inr (7, [.ref (a 0), .ref (a 1), .int (zI (ke)), .int (zI (1)), .ref (a 2), .ref (a 3), .ref (a 4), .ref (a 5), .ref (a 6), .ref (a 7), .ref (a 8), .long (zL (hs))])), (a 0, .inl (cI, 612, .inl (zA f)))]) hx hb hml hown hts hl.1 ⟨Nat.zero_le _, Nat.zero_le _⟩ (kX7_refuses_0 l D cI cJ cS m0 a ke th hs f) (cwV 1 hts gX7_setTrain_X7_refuses rfl rfl rfl jX7_refuses ⟨Nat.le_of_ble_eq_true rfl, Nat.le_of_ble_eq_true rfl⟩) hK [true] hP hD hS rfl (fun _ => rfl) (fun _ => rfl) 7 0 rfl rfl rfl rfl rfl (Nat.le_of_ble_eq_true rfl) dX7_setTrain_38 (fun r38 u38 H locs hu38 hP hS => ?_)
    subst hu38
    refine z_if_eq (tgt := 46) hx hb dX7_setTrain_41 (by decide) (by omega) (fun c41 => ?_) (fun c41 => ?_)
    · exfalso; omega
    · refine z_iconst hx hb dX7_setTrain_44 ?_
      exact hret () rfl hP hS dX7_setTrain_45
  · have c10 := zB_n0.mp c10
    refine lv_iload_n hx hb dX7_setTrain_13 rfl (lv_at hl 2 rfl) ?_
    refine z_iconst hx hb dX7_setTrain_14 ?_
    refine z_bipush hx hb dX7_setTrain_15 (by decide +kernel) ?_
    refine z_rS (v := zB (0 ≤ y ∧ y ≤ 100)) (As := [.int (zI (y)), .int (zI (0)), .int (zI (100))]) (rest := [.ref m0]) hx hb hml hown hts hl.1 ⟨Nat.zero_le _, Nat.zero_le _⟩ (kX7_in l D cI cJ cS y 0 100 (by omega) (by omega) (by omega)) (cwS 3 hts gX7_setTrain_X7_in rfl rfl rfl jX7_in ⟨Nat.le_of_ble_eq_true rfl, Nat.le_of_ble_eq_true rfl⟩) hK rfl rfl (Nat.le_of_ble_eq_true rfl) dX7_setTrain_17 ?_
    refine z_if_eq (tgt := 37) hx hb dX7_setTrain_20 (by decide) (by have hz := zB_01 (0 ≤ y ∧ y ≤ 100); omega) (fun c20 => ?_) (fun c20 => ?_)
    · have c20 := zB_0.mp c20
      refine z_iconst hx hb dX7_setTrain_37 ?_
      refine y_wVi (As := [.int (zI (0))]) (rest := []) (fun (u38 : Unit) => [(m0, .inr (7, [.ref (a 0), .ref (a 1), .int (zI (ke)), .int (zI (1)), .ref (a 2), .ref (a 3), .ref (a 4), .ref (a 5), .ref (a 6), .ref (a 7), .ref (a 8), .long (zL (hs))])), (a 0, .inl (cI, 612, .inl (zA f)))]) hx hb hml hown hts hl.1 ⟨Nat.zero_le _, Nat.zero_le _⟩ (kX7_refuses_0 l D cI cJ cS m0 a ke th hs f) (cwV 1 hts gX7_setTrain_X7_refuses rfl rfl rfl jX7_refuses ⟨Nat.le_of_ble_eq_true rfl, Nat.le_of_ble_eq_true rfl⟩) hK [true] hP hD hS rfl (fun _ => rfl) (fun _ => rfl) 7 0 rfl rfl rfl rfl rfl (Nat.le_of_ble_eq_true rfl) dX7_setTrain_38 (fun r38 u38 H locs hu38 hP hS => ?_)
      subst hu38
      refine z_if_eq (tgt := 46) hx hb dX7_setTrain_41 (by decide) (by omega) (fun c41 => ?_) (fun c41 => ?_)
      · exfalso; omega
      · refine z_iconst hx hb dX7_setTrain_44 ?_
        exact hret () rfl hP hS dX7_setTrain_45
    · have c20 := zB_n0.mp c20
      refine lv_iload_n hx hb dX7_setTrain_23 rfl (lv_at hl 3 rfl) ?_
      refine z_iconst hx hb dX7_setTrain_24 ?_
      refine z_bipush hx hb dX7_setTrain_25 (by decide +kernel) ?_
      refine z_rS (v := zB (1 ≤ z ∧ z ≤ 20)) (As := [.int (zI (z)), .int (zI (1)), .int (zI (20))]) (rest := [.ref m0]) hx hb hml hown hts hl.1 ⟨Nat.zero_le _, Nat.zero_le _⟩ (kX7_in l D cI cJ cS z 1 20 (by omega) (by omega) (by omega)) (cwS 3 hts gX7_setTrain_X7_in rfl rfl rfl jX7_in ⟨Nat.le_of_ble_eq_true rfl, Nat.le_of_ble_eq_true rfl⟩) hK rfl rfl (Nat.le_of_ble_eq_true rfl) dX7_setTrain_27 ?_
      refine z_if_eq (tgt := 37) hx hb dX7_setTrain_30 (by decide) (by have hz := zB_01 (1 ≤ z ∧ z ≤ 20); omega) (fun c30 => ?_) (fun c30 => ?_)
      · have c30 := zB_0.mp c30
        refine z_iconst hx hb dX7_setTrain_37 ?_
        refine y_wVi (As := [.int (zI (0))]) (rest := []) (fun (u38 : Unit) => [(m0, .inr (7, [.ref (a 0), .ref (a 1), .int (zI (ke)), .int (zI (1)), .ref (a 2), .ref (a 3), .ref (a 4), .ref (a 5), .ref (a 6), .ref (a 7), .ref (a 8), .long (zL (hs))])), (a 0, .inl (cI, 612, .inl (zA f)))]) hx hb hml hown hts hl.1 ⟨Nat.zero_le _, Nat.zero_le _⟩ (kX7_refuses_0 l D cI cJ cS m0 a ke th hs f) (cwV 1 hts gX7_setTrain_X7_refuses rfl rfl rfl jX7_refuses ⟨Nat.le_of_ble_eq_true rfl, Nat.le_of_ble_eq_true rfl⟩) hK [true] hP hD hS rfl (fun _ => rfl) (fun _ => rfl) 7 0 rfl rfl rfl rfl rfl (Nat.le_of_ble_eq_true rfl) dX7_setTrain_38 (fun r38 u38 H locs hu38 hP hS => ?_)
        subst hu38
        refine z_if_eq (tgt := 46) hx hb dX7_setTrain_41 (by decide) (by omega) (fun c41 => ?_) (fun c41 => ?_)
        · exfalso; omega
        · refine z_iconst hx hb dX7_setTrain_44 ?_
          exact hret () rfl hP hS dX7_setTrain_45
      · have c30 := zB_n0.mp c30
        exfalso; omega

set_option maxHeartbeats 4000000 in
set_option maxRecDepth 100000 in
theorem kX7_setTrain_ok (l : Launch) (D : va_G) (cI cJ cS : ClassId) (m0 : Nat) (a : Nat → Nat) (ke th hs : Int) (f : Int → Int) (gp : Int → Int) (x y z : Int) (ok : OkF f) (hke : 0 ≤ ke ∧ ke ≤ 4) (hY : 50 ≤ x ∧ x ≤ 200 ∧ 0 ≤ y ∧ y ≤ 100 ∧ 1 ≤ z ∧ z ≤ 20) : Met l yX7_setTrain wsX7_setTrain rmX7_setTrain (zPc D (zT cI cJ cS) [.ref m0, .int (zI (x)), .int (zI (y)), .int (zI (z))] [(m0, .inr (7, [.ref (a 0), .ref (a 1), .int (zI (ke)), .int (zI (th)), .ref (a 2), .ref (a 3), .ref (a 4), .ref (a 5), .ref (a 6), .ref (a 7), .ref (a 8), .long (zL (hs))])), (a 0, .inl (cI, 612, .inl (zA f))), (a 1, .inl (cI, 2448, .inl (zA gp)))]) (va_Qi (fun r _ => r = zI (f 1)) (fun (u : Unit) t => va_P D vwCl [(m0, .inr (7, [.ref (a 0), .ref (a 1), .int (zI (cnS ke)), .int (zI (0)), .ref (a 2), .ref (a 3), .ref (a 4), .ref (a 5), .ref (a 6), .ref (a 7), .ref (a 8), .long (zL (hs))])), (a 0, .inl (cI, 612, .inl (zA (zup (zup (zup f 1 x) 2 y) 3 z)))), (a 1, .inl (cI, 2448, .inl (zA (kpF gp f ke))))] t.heap) (zAd [(m0, .inr (7, [.ref (a 0), .ref (a 1), .int (zI (ke)), .int (zI (th)), .ref (a 2), .ref (a 3), .ref (a 4), .ref (a 5), .ref (a 6), .ref (a 7), .ref (a 8), .long (zL (hs))])), (a 0, .inl (cI, 612, .inl (zA f))), (a 1, .inl (cI, 2448, .inl (zA gp)))])) 0 0 (zAd [(m0, .inr (7, [.ref (a 0), .ref (a 1), .int (zI (ke)), .int (zI (th)), .ref (a 2), .ref (a 3), .ref (a 4), .ref (a 5), .ref (a 6), .ref (a 7), .ref (a 8), .long (zL (hs))])), (a 0, .inl (cI, 612, .inl (zA f))), (a 1, .inl (cI, 2448, .inl (zA gp)))]) := by
  refine zWi_of (cc := cX7_setTrain) (maxL := 5) (ret := (some .int)) (by decide) rfl (Nat.le_of_ble_eq_true rfl) rfl ?_
  intro p e s m args below meth c Q A ls hx hb hml hts hown hK hP hD hS hl hret
  have in7 : ∀ w ∈ wsX70, w ∈ wsX7_setTrain := by decide +kernel
  have f7 := hts (.fieldLink RX7 7 "SignalSpacingModel" "now" "[I") (by decide +kernel)
  have hl : lv_has ls 5 [(0, .ref m0), (1, .int (zI (x))), (2, .int (zI (y))), (3, .int (zI (z)))] := hl
  have hP : va_P D vwCl [(m0, .inr (7, [.ref (a 0), .ref (a 1), .int (zI (ke)), .int (zI (th)), .ref (a 2), .ref (a 3), .ref (a 4), .ref (a 5), .ref (a 6), .ref (a 7), .ref (a 8), .long (zL (hs))])), (a 0, .inl (cI, 612, .inl (zA f))), (a 1, .inl (cI, 2448, .inl (zA gp)))] s.heap := hP
  obtain ⟨o0, o1, o2, o3, o4, o5, o7, o8, olim, ogrd, obar, oneed, opost⟩ := id ok
  have hfr := okF_r ok
  refine lv_aload_n hx hb dX7_setTrain_0 rfl (lv_at hl 0 rfl) ?_
  refine lv_iload_n hx hb dX7_setTrain_1 rfl (lv_at hl 1 rfl) ?_
  refine z_bipush hx hb dX7_setTrain_2 (by decide +kernel) ?_
  refine z_sipush hx hb dX7_setTrain_4 (by decide +kernel) ?_
  refine z_rS (v := zB (50 ≤ x ∧ x ≤ 200)) (As := [.int (zI (x)), .int (zI (50)), .int (zI (200))]) (rest := [.ref m0]) hx hb hml hown hts hl.1 ⟨Nat.zero_le _, Nat.zero_le _⟩ (kX7_in l D cI cJ cS x 50 200 (by omega) (by omega) (by omega)) (cwS 3 hts gX7_setTrain_X7_in rfl rfl rfl jX7_in ⟨Nat.le_of_ble_eq_true rfl, Nat.le_of_ble_eq_true rfl⟩) hK rfl rfl (Nat.le_of_ble_eq_true rfl) dX7_setTrain_7 ?_
  refine z_top (1) (zB_t (by omega)) ?_
  refine z_if_eq (tgt := 37) hx hb dX7_setTrain_10 (by decide) (by omega) (fun c10 => ?_) (fun c10 => ?_)
  · exfalso; omega
  · refine lv_iload_n hx hb dX7_setTrain_13 rfl (lv_at hl 2 rfl) ?_
    refine z_iconst hx hb dX7_setTrain_14 ?_
    refine z_bipush hx hb dX7_setTrain_15 (by decide +kernel) ?_
    refine z_rS (v := zB (0 ≤ y ∧ y ≤ 100)) (As := [.int (zI (y)), .int (zI (0)), .int (zI (100))]) (rest := [.ref m0]) hx hb hml hown hts hl.1 ⟨Nat.zero_le _, Nat.zero_le _⟩ (kX7_in l D cI cJ cS y 0 100 (by omega) (by omega) (by omega)) (cwS 3 hts gX7_setTrain_X7_in rfl rfl rfl jX7_in ⟨Nat.le_of_ble_eq_true rfl, Nat.le_of_ble_eq_true rfl⟩) hK rfl rfl (Nat.le_of_ble_eq_true rfl) dX7_setTrain_17 ?_
    refine z_top (1) (zB_t (by omega)) ?_
    refine z_if_eq (tgt := 37) hx hb dX7_setTrain_20 (by decide) (by omega) (fun c20 => ?_) (fun c20 => ?_)
    · exfalso; omega
    · refine lv_iload_n hx hb dX7_setTrain_23 rfl (lv_at hl 3 rfl) ?_
      refine z_iconst hx hb dX7_setTrain_24 ?_
      refine z_bipush hx hb dX7_setTrain_25 (by decide +kernel) ?_
      refine z_rS (v := zB (1 ≤ z ∧ z ≤ 20)) (As := [.int (zI (z)), .int (zI (1)), .int (zI (20))]) (rest := [.ref m0]) hx hb hml hown hts hl.1 ⟨Nat.zero_le _, Nat.zero_le _⟩ (kX7_in l D cI cJ cS z 1 20 (by omega) (by omega) (by omega)) (cwS 3 hts gX7_setTrain_X7_in rfl rfl rfl jX7_in ⟨Nat.le_of_ble_eq_true rfl, Nat.le_of_ble_eq_true rfl⟩) hK rfl rfl (Nat.le_of_ble_eq_true rfl) dX7_setTrain_27 ?_
      refine z_top (1) (zB_t (by omega)) ?_
      refine z_if_eq (tgt := 37) hx hb dX7_setTrain_30 (by decide) (by omega) (fun c30 => ?_) (fun c30 => ?_)
      · exfalso; omega
      · refine z_iconst hx hb dX7_setTrain_33 ?_
        refine lv_goto (tgt := 38) hx hb dX7_setTrain_34 (by decide) ?_
        refine y_wVi (As := [.int (zI (1))]) (rest := []) (fun (u38 : Unit) => [(m0, .inr (7, [.ref (a 0), .ref (a 1), .int (zI (ke)), .int (zI (0)), .ref (a 2), .ref (a 3), .ref (a 4), .ref (a 5), .ref (a 6), .ref (a 7), .ref (a 8), .long (zL (hs))])), (a 0, .inl (cI, 612, .inl (zA f))), (a 1, .inl (cI, 2448, .inl (zA gp)))]) hx hb hml hown hts hl.1 ⟨Nat.zero_le _, Nat.zero_le _⟩ (kX7_refuses_1 l D cI cJ cS m0 a ke th hs f) (cwV 1 hts gX7_setTrain_X7_refuses rfl rfl rfl jX7_refuses ⟨Nat.le_of_ble_eq_true rfl, Nat.le_of_ble_eq_true rfl⟩) hK [true] hP hD hS rfl (fun _ => rfl) (fun _ => rfl) 7 0 rfl rfl rfl rfl rfl (Nat.le_of_ble_eq_true rfl) dX7_setTrain_38 (fun r38 u38 H locs hu38 hP hS => ?_)
        subst hu38
        refine z_if_eq (tgt := 46) hx hb dX7_setTrain_41 (by decide) (by omega) (fun c41 => ?_) (fun c41 => ?_)
        · refine lv_aload_n hx hb dX7_setTrain_46 rfl (lv_at hl 0 rfl) ?_
          refine y_wVv (As := []) (rest := []) (fun (u47 : Unit) => [(m0, .inr (7, [.ref (a 0), .ref (a 1), .int (zI (cnS ke)), .int (zI (0)), .ref (a 2), .ref (a 3), .ref (a 4), .ref (a 5), .ref (a 6), .ref (a 7), .ref (a 8), .long (zL (hs))])), (a 0, .inl (cI, 612, .inl (zA f))), (a 1, .inl (cI, 2448, .inl (zA (kpF gp f ke))))]) hx hb hml hown hts hl.1 ⟨Nat.zero_le _, Nat.zero_le _⟩ (kX7_keep l D cI cJ cS m0 a ke 0 hs f gp hke) (cwV 0 hts gX7_setTrain_X7_keep rfl rfl rfl jX7_keep ⟨Nat.le_of_ble_eq_true rfl, Nat.le_of_ble_eq_true rfl⟩) hK [true, true, true] hP (zD hD rfl) hS rfl (fun _ => rfl) (fun _ => rfl) 7 0 rfl rfl rfl rfl rfl (Nat.le_of_ble_eq_true rfl) dX7_setTrain_47 (fun u47 H locs hu47 hP hS => ?_)
          refine lv_aload_n hx hb dX7_setTrain_50 rfl (lv_at hl 0 rfl) ?_
          refine va_get (D := D) (ci := 7) (v := .ref (a 0)) (C := RX7) (T := TX7) (N := 12) hx hb hts in7 hown hK hP 0 rfl rfl 0 (by decide) f7 (fun _ h9 => h9) rfl dX7_setTrain_51 ?_
          refine z_iconst hx hb dX7_setTrain_54 ?_
          refine z_iald hx hb hK hP 1 0 rfl rfl (by omega) (Nat.lt_of_succ_le (Nat.le_of_ble_eq_true rfl)) dX7_setTrain_55 ?_
          refine lv_istore (lv' := [(4, .int (zI (f 1))), (0, .ref m0), (1, .int (zI (x))), (2, .int (zI (y))), (3, .int (zI (z)))]) hx hb dX7_setTrain_56 hl (by decide) rfl (fun ls hl => ?_)
          refine lv_aload_n hx hb dX7_setTrain_58 rfl (lv_at hl 1 rfl) ?_
          refine va_get (D := D) (ci := 7) (v := .ref (a 0)) (C := RX7) (T := TX7) (N := 12) hx hb hts in7 hown hK hP 0 rfl rfl 0 (by decide) f7 (fun _ h9 => h9) rfl dX7_setTrain_59 ?_
          refine z_iconst hx hb dX7_setTrain_62 ?_
          refine lv_iload_n hx hb dX7_setTrain_63 rfl (lv_at hl 2 rfl) ?_
          refine z_iast hx hb hK hP (zD hD rfl) hS 1 0 [(m0, .inr (7, [.ref (a 0), .ref (a 1), .int (zI (cnS ke)), .int (zI (0)), .ref (a 2), .ref (a 3), .ref (a 4), .ref (a 5), .ref (a 6), .ref (a 7), .ref (a 8), .long (zL (hs))])), (a 0, .inl (cI, 612, .inl (zA (zup f 1 x)))), (a 1, .inl (cI, 2448, .inl (zA (kpF gp f ke))))] rfl rfl (by omega) (Nat.lt_of_succ_le (Nat.le_of_ble_eq_true rfl)) rfl dX7_setTrain_64 (fun H locs hP hS => ?_)
          refine lv_aload_n hx hb dX7_setTrain_65 rfl (lv_at hl 1 rfl) ?_
          refine va_get (D := D) (ci := 7) (v := .ref (a 0)) (C := RX7) (T := TX7) (N := 12) hx hb hts in7 hown hK hP 0 rfl rfl 0 (by decide) f7 (fun _ h9 => h9) rfl dX7_setTrain_66 ?_
          refine z_iconst hx hb dX7_setTrain_69 ?_
          refine lv_iload_n hx hb dX7_setTrain_70 rfl (lv_at hl 3 rfl) ?_
          refine z_iast hx hb hK hP (zD hD rfl) hS 1 0 [(m0, .inr (7, [.ref (a 0), .ref (a 1), .int (zI (cnS ke)), .int (zI (0)), .ref (a 2), .ref (a 3), .ref (a 4), .ref (a 5), .ref (a 6), .ref (a 7), .ref (a 8), .long (zL (hs))])), (a 0, .inl (cI, 612, .inl (zA (zup (zup f 1 x) 2 y)))), (a 1, .inl (cI, 2448, .inl (zA (kpF gp f ke))))] rfl rfl (by omega) (Nat.lt_of_succ_le (Nat.le_of_ble_eq_true rfl)) rfl dX7_setTrain_71 (fun H locs hP hS => ?_)
          refine lv_aload_n hx hb dX7_setTrain_72 rfl (lv_at hl 1 rfl) ?_
          refine va_get (D := D) (ci := 7) (v := .ref (a 0)) (C := RX7) (T := TX7) (N := 12) hx hb hts in7 hown hK hP 0 rfl rfl 0 (by decide) f7 (fun _ h9 => h9) rfl dX7_setTrain_73 ?_
          refine z_iconst hx hb dX7_setTrain_76 ?_
          refine lv_iload_n hx hb dX7_setTrain_77 rfl (lv_at hl 4 rfl) ?_
          refine z_iast hx hb hK hP (zD hD rfl) hS 1 0 [(m0, .inr (7, [.ref (a 0), .ref (a 1), .int (zI (cnS ke)), .int (zI (0)), .ref (a 2), .ref (a 3), .ref (a 4), .ref (a 5), .ref (a 6), .ref (a 7), .ref (a 8), .long (zL (hs))])), (a 0, .inl (cI, 612, .inl (zA (zup (zup (zup f 1 x) 2 y) 3 z)))), (a 1, .inl (cI, 2448, .inl (zA (kpF gp f ke))))] rfl rfl (by omega) (Nat.lt_of_succ_le (Nat.le_of_ble_eq_true rfl)) rfl dX7_setTrain_78 (fun H locs hP hS => ?_)
          refine lv_iload hx hb dX7_setTrain_79 (lv_at hl 0 rfl) ?_
          exact hret () rfl hP hS dX7_setTrain_81
        · exfalso; omega

abbrev rmX7_setRules : Room := { frames := 1, cells := 0, slots := 0, locals := 22 }
theorem jX7_setRules : yX7_setRules.cls = RX7 ∧ yX7_setRules.cls ≠ "java/lang/invoke/MethodHandle" ∧ yX7_setRules.cls ≠ "java/lang/invoke/VarHandle" ∧ (parseMethodDescriptor yX7_setRules.desc).map (fun d => d.parameters.length) = some 3 := by decide +kernel
set_option maxHeartbeats 4000000 in
set_option maxRecDepth 100000 in
theorem kX7_setRules_no (l : Launch) (D : va_G) (cI cJ cS : ClassId) (m0 : Nat) (a : Nat → Nat) (ke th hs : Int) (f : Int → Int) (x y z : Int) (ok : OkF f) (hN : ¬ (2 ≤ x ∧ x ≤ 4 ∧ 1 ≤ y ∧ y ≤ z ∧ z ≤ 120)) (hr_x : -2147483648 ≤ x ∧ x < 2147483648) (hr_y : -2147483648 ≤ y ∧ y < 2147483648) (hr_z : -2147483648 ≤ z ∧ z < 2147483648) : Met l yX7_setRules wsX7_setRules rmX7_setRules (zPc D (zT cI cJ cS) [.ref m0, .int (zI (x)), .int (zI (y)), .int (zI (z))] [(m0, .inr (7, [.ref (a 0), .ref (a 1), .int (zI (ke)), .int (zI (th)), .ref (a 2), .ref (a 3), .ref (a 4), .ref (a 5), .ref (a 6), .ref (a 7), .ref (a 8), .long (zL (hs))])), (a 0, .inl (cI, 612, .inl (zA f)))]) (va_Qi (fun r _ => r = zI 0) (fun (u : Unit) t => va_P D vwCl [(m0, .inr (7, [.ref (a 0), .ref (a 1), .int (zI (ke)), .int (zI (1)), .ref (a 2), .ref (a 3), .ref (a 4), .ref (a 5), .ref (a 6), .ref (a 7), .ref (a 8), .long (zL (hs))])), (a 0, .inl (cI, 612, .inl (zA f)))] t.heap) (zAd [(m0, .inr (7, [.ref (a 0), .ref (a 1), .int (zI (ke)), .int (zI (th)), .ref (a 2), .ref (a 3), .ref (a 4), .ref (a 5), .ref (a 6), .ref (a 7), .ref (a 8), .long (zL (hs))])), (a 0, .inl (cI, 612, .inl (zA f)))])) 0 0 (zAd [(m0, .inr (7, [.ref (a 0), .ref (a 1), .int (zI (ke)), .int (zI (th)), .ref (a 2), .ref (a 3), .ref (a 4), .ref (a 5), .ref (a 6), .ref (a 7), .ref (a 8), .long (zL (hs))])), (a 0, .inl (cI, 612, .inl (zA f)))]) := by
  refine zWi_of (cc := cX7_setRules) (maxL := 5) (ret := (some .int)) (by decide) rfl (Nat.le_of_ble_eq_true rfl) rfl ?_
  intro p e s m args below meth c Q A ls hx hb hml hts hown hK hP hD hS hl hret
  have hl : lv_has ls 5 [(0, .ref m0), (1, .int (zI (x))), (2, .int (zI (y))), (3, .int (zI (z)))] := hl
  have hP : va_P D vwCl [(m0, .inr (7, [.ref (a 0), .ref (a 1), .int (zI (ke)), .int (zI (th)), .ref (a 2), .ref (a 3), .ref (a 4), .ref (a 5), .ref (a 6), .ref (a 7), .ref (a 8), .long (zL (hs))])), (a 0, .inl (cI, 612, .inl (zA f)))] s.heap := hP
  obtain ⟨o0, o1, o2, o3, o4, o5, o7, o8, olim, ogrd, obar, oneed, opost⟩ := id ok
  have hfr := okF_r ok
  refine lv_aload_n hx hb dX7_setRules_0 rfl (lv_at hl 0 rfl) ?_
  refine lv_iload_n hx hb dX7_setRules_1 rfl (lv_at hl 1 rfl) ?_
  refine z_iconst hx hb dX7_setRules_2 ?_
  refine z_iconst hx hb dX7_setRules_3 ?_
  refine z_rS (v := zB (2 ≤ x ∧ x ≤ 4)) (As := [.int (zI (x)), .int (zI (2)), .int (zI (4))]) (rest := [.ref m0]) hx hb hml hown hts hl.1 ⟨Nat.zero_le _, Nat.zero_le _⟩ (kX7_in l D cI cJ cS x 2 4 (by omega) (by omega) (by omega)) (cwS 3 hts gX7_setRules_X7_in rfl rfl rfl jX7_in ⟨Nat.le_of_ble_eq_true rfl, Nat.le_of_ble_eq_true rfl⟩) hK rfl rfl (Nat.le_of_ble_eq_true rfl) dX7_setRules_4 ?_
  refine z_if_eq (tgt := 33) hx hb dX7_setRules_7 (by decide) (by have hz := zB_01 (2 ≤ x ∧ x ≤ 4); omega) (fun c7 => ?_) (fun c7 => ?_)
  · have c7 := zB_0.mp c7
    refine z_iconst hx hb dX7_setRules_33 ?_
    refine y_wVi (As := [.int (zI (0))]) (rest := []) (fun (u34 : Unit) => [(m0, .inr (7, [.ref (a 0), .ref (a 1), .int (zI (ke)), .int (zI (1)), .ref (a 2), .ref (a 3), .ref (a 4), .ref (a 5), .ref (a 6), .ref (a 7), .ref (a 8), .long (zL (hs))])), (a 0, .inl (cI, 612, .inl (zA f)))]) hx hb hml hown hts hl.1 ⟨Nat.zero_le _, Nat.zero_le _⟩ (kX7_refuses_0 l D cI cJ cS m0 a ke th hs f) (cwV 1 hts gX7_setRules_X7_refuses rfl rfl rfl jX7_refuses ⟨Nat.le_of_ble_eq_true rfl, Nat.le_of_ble_eq_true rfl⟩) hK [true] hP hD hS rfl (fun _ => rfl) (fun _ => rfl) 7 0 rfl rfl rfl rfl rfl (Nat.le_of_ble_eq_true rfl) dX7_setRules_34 (fun r34 u34 H locs hu34 hP hS => ?_)
    subst hu34
    refine z_if_eq (tgt := 42) hx hb dX7_setRules_37 (by decide) (by omega) (fun c37 => ?_) (fun c37 => ?_)
    · exfalso; omega
    · refine z_iconst hx hb dX7_setRules_40 ?_
      exact hret () rfl hP hS dX7_setRules_41
  · have c7 := zB_n0.mp c7
    refine lv_iload_n hx hb dX7_setRules_10 rfl (lv_at hl 3 rfl) ?_
    refine z_iconst hx hb dX7_setRules_11 ?_
    refine z_bipush hx hb dX7_setRules_12 (by decide +kernel) ?_
    refine z_rS (v := zB (1 ≤ z ∧ z ≤ 120)) (As := [.int (zI (z)), .int (zI (1)), .int (zI (120))]) (rest := [.ref m0]) hx hb hml hown hts hl.1 ⟨Nat.zero_le _, Nat.zero_le _⟩ (kX7_in l D cI cJ cS z 1 120 (by omega) (by omega) (by omega)) (cwS 3 hts gX7_setRules_X7_in rfl rfl rfl jX7_in ⟨Nat.le_of_ble_eq_true rfl, Nat.le_of_ble_eq_true rfl⟩) hK rfl rfl (Nat.le_of_ble_eq_true rfl) dX7_setRules_14 ?_
    refine z_if_eq (tgt := 33) hx hb dX7_setRules_17 (by decide) (by have hz := zB_01 (1 ≤ z ∧ z ≤ 120); omega) (fun c17 => ?_) (fun c17 => ?_)
    · have c17 := zB_0.mp c17
      refine z_iconst hx hb dX7_setRules_33 ?_
      refine y_wVi (As := [.int (zI (0))]) (rest := []) (fun (u34 : Unit) => [(m0, .inr (7, [.ref (a 0), .ref (a 1), .int (zI (ke)), .int (zI (1)), .ref (a 2), .ref (a 3), .ref (a 4), .ref (a 5), .ref (a 6), .ref (a 7), .ref (a 8), .long (zL (hs))])), (a 0, .inl (cI, 612, .inl (zA f)))]) hx hb hml hown hts hl.1 ⟨Nat.zero_le _, Nat.zero_le _⟩ (kX7_refuses_0 l D cI cJ cS m0 a ke th hs f) (cwV 1 hts gX7_setRules_X7_refuses rfl rfl rfl jX7_refuses ⟨Nat.le_of_ble_eq_true rfl, Nat.le_of_ble_eq_true rfl⟩) hK [true] hP hD hS rfl (fun _ => rfl) (fun _ => rfl) 7 0 rfl rfl rfl rfl rfl (Nat.le_of_ble_eq_true rfl) dX7_setRules_34 (fun r34 u34 H locs hu34 hP hS => ?_)
      subst hu34
      refine z_if_eq (tgt := 42) hx hb dX7_setRules_37 (by decide) (by omega) (fun c37 => ?_) (fun c37 => ?_)
      · exfalso; omega
      · refine z_iconst hx hb dX7_setRules_40 ?_
        exact hret () rfl hP hS dX7_setRules_41
    · have c17 := zB_n0.mp c17
      refine lv_iload_n hx hb dX7_setRules_20 rfl (lv_at hl 2 rfl) ?_
      refine z_iconst hx hb dX7_setRules_21 ?_
      refine lv_iload_n hx hb dX7_setRules_22 rfl (lv_at hl 3 rfl) ?_
      refine z_rS (v := zB (1 ≤ y ∧ y ≤ z)) (As := [.int (zI (y)), .int (zI (1)), .int (zI (z))]) (rest := [.ref m0]) hx hb hml hown hts hl.1 ⟨Nat.zero_le _, Nat.zero_le _⟩ (kX7_in l D cI cJ cS y 1 z (by omega) (by omega) (by omega)) (cwS 3 hts gX7_setRules_X7_in rfl rfl rfl jX7_in ⟨Nat.le_of_ble_eq_true rfl, Nat.le_of_ble_eq_true rfl⟩) hK rfl rfl (Nat.le_of_ble_eq_true rfl) dX7_setRules_23 ?_
      refine z_if_eq (tgt := 33) hx hb dX7_setRules_26 (by decide) (by have hz := zB_01 (1 ≤ y ∧ y ≤ z); omega) (fun c26 => ?_) (fun c26 => ?_)
      · have c26 := zB_0.mp c26
        refine z_iconst hx hb dX7_setRules_33 ?_
        refine y_wVi (As := [.int (zI (0))]) (rest := []) (fun (u34 : Unit) => [(m0, .inr (7, [.ref (a 0), .ref (a 1), .int (zI (ke)), .int (zI (1)), .ref (a 2), .ref (a 3), .ref (a 4), .ref (a 5), .ref (a 6), .ref (a 7), .ref (a 8), .long (zL (hs))])), (a 0, .inl (cI, 612, .inl (zA f)))]) hx hb hml hown hts hl.1 ⟨Nat.zero_le _, Nat.zero_le _⟩ (kX7_refuses_0 l D cI cJ cS m0 a ke th hs f) (cwV 1 hts gX7_setRules_X7_refuses rfl rfl rfl jX7_refuses ⟨Nat.le_of_ble_eq_true rfl, Nat.le_of_ble_eq_true rfl⟩) hK [true] hP hD hS rfl (fun _ => rfl) (fun _ => rfl) 7 0 rfl rfl rfl rfl rfl (Nat.le_of_ble_eq_true rfl) dX7_setRules_34 (fun r34 u34 H locs hu34 hP hS => ?_)
        subst hu34
        refine z_if_eq (tgt := 42) hx hb dX7_setRules_37 (by decide) (by omega) (fun c37 => ?_) (fun c37 => ?_)
        · exfalso; omega
        · refine z_iconst hx hb dX7_setRules_40 ?_
          exact hret () rfl hP hS dX7_setRules_41
      · have c26 := zB_n0.mp c26
        exfalso; omega

set_option maxHeartbeats 4000000 in
set_option maxRecDepth 100000 in
theorem kX7_setRules_ok (l : Launch) (D : va_G) (cI cJ cS : ClassId) (m0 : Nat) (a : Nat → Nat) (ke th hs : Int) (f : Int → Int) (gp : Int → Int) (x y z : Int) (ok : OkF f) (hke : 0 ≤ ke ∧ ke ≤ 4) (hY : 2 ≤ x ∧ x ≤ 4 ∧ 1 ≤ y ∧ y ≤ z ∧ z ≤ 120) : Met l yX7_setRules wsX7_setRules rmX7_setRules (zPc D (zT cI cJ cS) [.ref m0, .int (zI (x)), .int (zI (y)), .int (zI (z))] [(m0, .inr (7, [.ref (a 0), .ref (a 1), .int (zI (ke)), .int (zI (th)), .ref (a 2), .ref (a 3), .ref (a 4), .ref (a 5), .ref (a 6), .ref (a 7), .ref (a 8), .long (zL (hs))])), (a 0, .inl (cI, 612, .inl (zA f))), (a 1, .inl (cI, 2448, .inl (zA gp)))]) (va_Qi (fun r _ => r = zI (f 4)) (fun (u : Unit) t => va_P D vwCl [(m0, .inr (7, [.ref (a 0), .ref (a 1), .int (zI (cnS ke)), .int (zI (0)), .ref (a 2), .ref (a 3), .ref (a 4), .ref (a 5), .ref (a 6), .ref (a 7), .ref (a 8), .long (zL (hs))])), (a 0, .inl (cI, 612, .inl (zA (zup (zup (zup f 4 x) 5 y) 6 z)))), (a 1, .inl (cI, 2448, .inl (zA (kpF gp f ke))))] t.heap) (zAd [(m0, .inr (7, [.ref (a 0), .ref (a 1), .int (zI (ke)), .int (zI (th)), .ref (a 2), .ref (a 3), .ref (a 4), .ref (a 5), .ref (a 6), .ref (a 7), .ref (a 8), .long (zL (hs))])), (a 0, .inl (cI, 612, .inl (zA f))), (a 1, .inl (cI, 2448, .inl (zA gp)))])) 0 0 (zAd [(m0, .inr (7, [.ref (a 0), .ref (a 1), .int (zI (ke)), .int (zI (th)), .ref (a 2), .ref (a 3), .ref (a 4), .ref (a 5), .ref (a 6), .ref (a 7), .ref (a 8), .long (zL (hs))])), (a 0, .inl (cI, 612, .inl (zA f))), (a 1, .inl (cI, 2448, .inl (zA gp)))]) := by
  refine zWi_of (cc := cX7_setRules) (maxL := 5) (ret := (some .int)) (by decide) rfl (Nat.le_of_ble_eq_true rfl) rfl ?_
  intro p e s m args below meth c Q A ls hx hb hml hts hown hK hP hD hS hl hret
  have in7 : ∀ w ∈ wsX70, w ∈ wsX7_setRules := by decide +kernel
  have f7 := hts (.fieldLink RX7 7 "SignalSpacingModel" "now" "[I") (by decide +kernel)
  have hl : lv_has ls 5 [(0, .ref m0), (1, .int (zI (x))), (2, .int (zI (y))), (3, .int (zI (z)))] := hl
  have hP : va_P D vwCl [(m0, .inr (7, [.ref (a 0), .ref (a 1), .int (zI (ke)), .int (zI (th)), .ref (a 2), .ref (a 3), .ref (a 4), .ref (a 5), .ref (a 6), .ref (a 7), .ref (a 8), .long (zL (hs))])), (a 0, .inl (cI, 612, .inl (zA f))), (a 1, .inl (cI, 2448, .inl (zA gp)))] s.heap := hP
  obtain ⟨o0, o1, o2, o3, o4, o5, o7, o8, olim, ogrd, obar, oneed, opost⟩ := id ok
  have hfr := okF_r ok
  refine lv_aload_n hx hb dX7_setRules_0 rfl (lv_at hl 0 rfl) ?_
  refine lv_iload_n hx hb dX7_setRules_1 rfl (lv_at hl 1 rfl) ?_
  refine z_iconst hx hb dX7_setRules_2 ?_
  refine z_iconst hx hb dX7_setRules_3 ?_
  refine z_rS (v := zB (2 ≤ x ∧ x ≤ 4)) (As := [.int (zI (x)), .int (zI (2)), .int (zI (4))]) (rest := [.ref m0]) hx hb hml hown hts hl.1 ⟨Nat.zero_le _, Nat.zero_le _⟩ (kX7_in l D cI cJ cS x 2 4 (by omega) (by omega) (by omega)) (cwS 3 hts gX7_setRules_X7_in rfl rfl rfl jX7_in ⟨Nat.le_of_ble_eq_true rfl, Nat.le_of_ble_eq_true rfl⟩) hK rfl rfl (Nat.le_of_ble_eq_true rfl) dX7_setRules_4 ?_
  refine z_top (1) (zB_t (by omega)) ?_
  refine z_if_eq (tgt := 33) hx hb dX7_setRules_7 (by decide) (by omega) (fun c7 => ?_) (fun c7 => ?_)
  · exfalso; omega
  · refine lv_iload_n hx hb dX7_setRules_10 rfl (lv_at hl 3 rfl) ?_
    refine z_iconst hx hb dX7_setRules_11 ?_
    refine z_bipush hx hb dX7_setRules_12 (by decide +kernel) ?_
    refine z_rS (v := zB (1 ≤ z ∧ z ≤ 120)) (As := [.int (zI (z)), .int (zI (1)), .int (zI (120))]) (rest := [.ref m0]) hx hb hml hown hts hl.1 ⟨Nat.zero_le _, Nat.zero_le _⟩ (kX7_in l D cI cJ cS z 1 120 (by omega) (by omega) (by omega)) (cwS 3 hts gX7_setRules_X7_in rfl rfl rfl jX7_in ⟨Nat.le_of_ble_eq_true rfl, Nat.le_of_ble_eq_true rfl⟩) hK rfl rfl (Nat.le_of_ble_eq_true rfl) dX7_setRules_14 ?_
    refine z_top (1) (zB_t (by omega)) ?_
    refine z_if_eq (tgt := 33) hx hb dX7_setRules_17 (by decide) (by omega) (fun c17 => ?_) (fun c17 => ?_)
    · exfalso; omega
    · refine lv_iload_n hx hb dX7_setRules_20 rfl (lv_at hl 2 rfl) ?_
      refine z_iconst hx hb dX7_setRules_21 ?_
      refine lv_iload_n hx hb dX7_setRules_22 rfl (lv_at hl 3 rfl) ?_
      refine z_rS (v := zB (1 ≤ y ∧ y ≤ z)) (As := [.int (zI (y)), .int (zI (1)), .int (zI (z))]) (rest := [.ref m0]) hx hb hml hown hts hl.1 ⟨Nat.zero_le _, Nat.zero_le _⟩ (kX7_in l D cI cJ cS y 1 z (by omega) (by omega) (by omega)) (cwS 3 hts gX7_setRules_X7_in rfl rfl rfl jX7_in ⟨Nat.le_of_ble_eq_true rfl, Nat.le_of_ble_eq_true rfl⟩) hK rfl rfl (Nat.le_of_ble_eq_true rfl) dX7_setRules_23 ?_
      refine z_top (1) (zB_t (by omega)) ?_
      refine z_if_eq (tgt := 33) hx hb dX7_setRules_26 (by decide) (by omega) (fun c26 => ?_) (fun c26 => ?_)
      · exfalso; omega
      · refine z_iconst hx hb dX7_setRules_29 ?_
        refine lv_goto (tgt := 34) hx hb dX7_setRules_30 (by decide) ?_
        refine y_wVi (As := [.int (zI (1))]) (rest := []) (fun (u34 : Unit) => [(m0, .inr (7, [.ref (a 0), .ref (a 1), .int (zI (ke)), .int (zI (0)), .ref (a 2), .ref (a 3), .ref (a 4), .ref (a 5), .ref (a 6), .ref (a 7), .ref (a 8), .long (zL (hs))])), (a 0, .inl (cI, 612, .inl (zA f))), (a 1, .inl (cI, 2448, .inl (zA gp)))]) hx hb hml hown hts hl.1 ⟨Nat.zero_le _, Nat.zero_le _⟩ (kX7_refuses_1 l D cI cJ cS m0 a ke th hs f) (cwV 1 hts gX7_setRules_X7_refuses rfl rfl rfl jX7_refuses ⟨Nat.le_of_ble_eq_true rfl, Nat.le_of_ble_eq_true rfl⟩) hK [true] hP hD hS rfl (fun _ => rfl) (fun _ => rfl) 7 0 rfl rfl rfl rfl rfl (Nat.le_of_ble_eq_true rfl) dX7_setRules_34 (fun r34 u34 H locs hu34 hP hS => ?_)
        subst hu34
        refine z_if_eq (tgt := 42) hx hb dX7_setRules_37 (by decide) (by omega) (fun c37 => ?_) (fun c37 => ?_)
        · refine lv_aload_n hx hb dX7_setRules_42 rfl (lv_at hl 0 rfl) ?_
          refine y_wVv (As := []) (rest := []) (fun (u43 : Unit) => [(m0, .inr (7, [.ref (a 0), .ref (a 1), .int (zI (cnS ke)), .int (zI (0)), .ref (a 2), .ref (a 3), .ref (a 4), .ref (a 5), .ref (a 6), .ref (a 7), .ref (a 8), .long (zL (hs))])), (a 0, .inl (cI, 612, .inl (zA f))), (a 1, .inl (cI, 2448, .inl (zA (kpF gp f ke))))]) hx hb hml hown hts hl.1 ⟨Nat.zero_le _, Nat.zero_le _⟩ (kX7_keep l D cI cJ cS m0 a ke 0 hs f gp hke) (cwV 0 hts gX7_setRules_X7_keep rfl rfl rfl jX7_keep ⟨Nat.le_of_ble_eq_true rfl, Nat.le_of_ble_eq_true rfl⟩) hK [true, true, true] hP (zD hD rfl) hS rfl (fun _ => rfl) (fun _ => rfl) 7 0 rfl rfl rfl rfl rfl (Nat.le_of_ble_eq_true rfl) dX7_setRules_43 (fun u43 H locs hu43 hP hS => ?_)
          refine lv_aload_n hx hb dX7_setRules_46 rfl (lv_at hl 0 rfl) ?_
          refine va_get (D := D) (ci := 7) (v := .ref (a 0)) (C := RX7) (T := TX7) (N := 12) hx hb hts in7 hown hK hP 0 rfl rfl 0 (by decide) f7 (fun _ h9 => h9) rfl dX7_setRules_47 ?_
          refine z_iconst hx hb dX7_setRules_50 ?_
          refine z_iald hx hb hK hP 1 0 rfl rfl (by omega) (Nat.lt_of_succ_le (Nat.le_of_ble_eq_true rfl)) dX7_setRules_51 ?_
          refine lv_istore (lv' := [(4, .int (zI (f 4))), (0, .ref m0), (1, .int (zI (x))), (2, .int (zI (y))), (3, .int (zI (z)))]) hx hb dX7_setRules_52 hl (by decide) rfl (fun ls hl => ?_)
          refine lv_aload_n hx hb dX7_setRules_54 rfl (lv_at hl 1 rfl) ?_
          refine va_get (D := D) (ci := 7) (v := .ref (a 0)) (C := RX7) (T := TX7) (N := 12) hx hb hts in7 hown hK hP 0 rfl rfl 0 (by decide) f7 (fun _ h9 => h9) rfl dX7_setRules_55 ?_
          refine z_iconst hx hb dX7_setRules_58 ?_
          refine lv_iload_n hx hb dX7_setRules_59 rfl (lv_at hl 2 rfl) ?_
          refine z_iast hx hb hK hP (zD hD rfl) hS 1 0 [(m0, .inr (7, [.ref (a 0), .ref (a 1), .int (zI (cnS ke)), .int (zI (0)), .ref (a 2), .ref (a 3), .ref (a 4), .ref (a 5), .ref (a 6), .ref (a 7), .ref (a 8), .long (zL (hs))])), (a 0, .inl (cI, 612, .inl (zA (zup f 4 x)))), (a 1, .inl (cI, 2448, .inl (zA (kpF gp f ke))))] rfl rfl (by omega) (Nat.lt_of_succ_le (Nat.le_of_ble_eq_true rfl)) rfl dX7_setRules_60 (fun H locs hP hS => ?_)
          refine lv_aload_n hx hb dX7_setRules_61 rfl (lv_at hl 1 rfl) ?_
          refine va_get (D := D) (ci := 7) (v := .ref (a 0)) (C := RX7) (T := TX7) (N := 12) hx hb hts in7 hown hK hP 0 rfl rfl 0 (by decide) f7 (fun _ h9 => h9) rfl dX7_setRules_62 ?_
          refine z_iconst hx hb dX7_setRules_65 ?_
          refine lv_iload_n hx hb dX7_setRules_66 rfl (lv_at hl 3 rfl) ?_
          refine z_iast hx hb hK hP (zD hD rfl) hS 1 0 [(m0, .inr (7, [.ref (a 0), .ref (a 1), .int (zI (cnS ke)), .int (zI (0)), .ref (a 2), .ref (a 3), .ref (a 4), .ref (a 5), .ref (a 6), .ref (a 7), .ref (a 8), .long (zL (hs))])), (a 0, .inl (cI, 612, .inl (zA (zup (zup f 4 x) 5 y)))), (a 1, .inl (cI, 2448, .inl (zA (kpF gp f ke))))] rfl rfl (by omega) (Nat.lt_of_succ_le (Nat.le_of_ble_eq_true rfl)) rfl dX7_setRules_67 (fun H locs hP hS => ?_)
          refine lv_aload_n hx hb dX7_setRules_68 rfl (lv_at hl 1 rfl) ?_
          refine va_get (D := D) (ci := 7) (v := .ref (a 0)) (C := RX7) (T := TX7) (N := 12) hx hb hts in7 hown hK hP 0 rfl rfl 0 (by decide) f7 (fun _ h9 => h9) rfl dX7_setRules_69 ?_
          refine z_bipush hx hb dX7_setRules_72 (by decide +kernel) ?_
          refine lv_iload_n hx hb dX7_setRules_74 rfl (lv_at hl 4 rfl) ?_
          refine z_iast hx hb hK hP (zD hD rfl) hS 1 0 [(m0, .inr (7, [.ref (a 0), .ref (a 1), .int (zI (cnS ke)), .int (zI (0)), .ref (a 2), .ref (a 3), .ref (a 4), .ref (a 5), .ref (a 6), .ref (a 7), .ref (a 8), .long (zL (hs))])), (a 0, .inl (cI, 612, .inl (zA (zup (zup (zup f 4 x) 5 y) 6 z)))), (a 1, .inl (cI, 2448, .inl (zA (kpF gp f ke))))] rfl rfl (by omega) (Nat.lt_of_succ_le (Nat.le_of_ble_eq_true rfl)) rfl dX7_setRules_75 (fun H locs hP hS => ?_)
          refine lv_iload hx hb dX7_setRules_76 (lv_at hl 0 rfl) ?_
          exact hret () rfl hP hS dX7_setRules_78
        · exfalso; omega

abbrev rmX7_setSight : Room := { frames := 1, cells := 0, slots := 0, locals := 22 }
theorem jX7_setSight : yX7_setSight.cls = RX7 ∧ yX7_setSight.cls ≠ "java/lang/invoke/MethodHandle" ∧ yX7_setSight.cls ≠ "java/lang/invoke/VarHandle" ∧ (parseMethodDescriptor yX7_setSight.desc).map (fun d => d.parameters.length) = some 2 := by decide +kernel
set_option maxHeartbeats 4000000 in
set_option maxRecDepth 100000 in
theorem kX7_setSight_no (l : Launch) (D : va_G) (cI cJ cS : ClassId) (m0 : Nat) (a : Nat → Nat) (ke th hs : Int) (f : Int → Int) (x y : Int) (ok : OkF f) (hN : ¬ (0 ≤ x ∧ x ≤ 40 ∧ 0 ≤ y ∧ y ≤ 20)) (hr_x : -2147483648 ≤ x ∧ x < 2147483648) (hr_y : -2147483648 ≤ y ∧ y < 2147483648) : Met l yX7_setSight wsX7_setSight rmX7_setSight (zPc D (zT cI cJ cS) [.ref m0, .int (zI (x)), .int (zI (y))] [(m0, .inr (7, [.ref (a 0), .ref (a 1), .int (zI (ke)), .int (zI (th)), .ref (a 2), .ref (a 3), .ref (a 4), .ref (a 5), .ref (a 6), .ref (a 7), .ref (a 8), .long (zL (hs))])), (a 0, .inl (cI, 612, .inl (zA f)))]) (va_Qi (fun r _ => r = zI 0) (fun (u : Unit) t => va_P D vwCl [(m0, .inr (7, [.ref (a 0), .ref (a 1), .int (zI (ke)), .int (zI (1)), .ref (a 2), .ref (a 3), .ref (a 4), .ref (a 5), .ref (a 6), .ref (a 7), .ref (a 8), .long (zL (hs))])), (a 0, .inl (cI, 612, .inl (zA f)))] t.heap) (zAd [(m0, .inr (7, [.ref (a 0), .ref (a 1), .int (zI (ke)), .int (zI (th)), .ref (a 2), .ref (a 3), .ref (a 4), .ref (a 5), .ref (a 6), .ref (a 7), .ref (a 8), .long (zL (hs))])), (a 0, .inl (cI, 612, .inl (zA f)))])) 0 0 (zAd [(m0, .inr (7, [.ref (a 0), .ref (a 1), .int (zI (ke)), .int (zI (th)), .ref (a 2), .ref (a 3), .ref (a 4), .ref (a 5), .ref (a 6), .ref (a 7), .ref (a 8), .long (zL (hs))])), (a 0, .inl (cI, 612, .inl (zA f)))]) := by
  refine zWi_of (cc := cX7_setSight) (maxL := 4) (ret := (some .int)) (by decide) rfl (Nat.le_of_ble_eq_true rfl) rfl ?_
  intro p e s m args below meth c Q A ls hx hb hml hts hown hK hP hD hS hl hret
  have hl : lv_has ls 4 [(0, .ref m0), (1, .int (zI (x))), (2, .int (zI (y)))] := hl
  have hP : va_P D vwCl [(m0, .inr (7, [.ref (a 0), .ref (a 1), .int (zI (ke)), .int (zI (th)), .ref (a 2), .ref (a 3), .ref (a 4), .ref (a 5), .ref (a 6), .ref (a 7), .ref (a 8), .long (zL (hs))])), (a 0, .inl (cI, 612, .inl (zA f)))] s.heap := hP
  obtain ⟨o0, o1, o2, o3, o4, o5, o7, o8, olim, ogrd, obar, oneed, opost⟩ := id ok
  have hfr := okF_r ok
  refine lv_aload_n hx hb dX7_setSight_0 rfl (lv_at hl 0 rfl) ?_
  refine lv_iload_n hx hb dX7_setSight_1 rfl (lv_at hl 1 rfl) ?_
  refine z_iconst hx hb dX7_setSight_2 ?_
  refine z_bipush hx hb dX7_setSight_3 (by decide +kernel) ?_
  refine z_rS (v := zB (0 ≤ x ∧ x ≤ 40)) (As := [.int (zI (x)), .int (zI (0)), .int (zI (40))]) (rest := [.ref m0]) hx hb hml hown hts hl.1 ⟨Nat.zero_le _, Nat.zero_le _⟩ (kX7_in l D cI cJ cS x 0 40 (by omega) (by omega) (by omega)) (cwS 3 hts gX7_setSight_X7_in rfl rfl rfl jX7_in ⟨Nat.le_of_ble_eq_true rfl, Nat.le_of_ble_eq_true rfl⟩) hK rfl rfl (Nat.le_of_ble_eq_true rfl) dX7_setSight_5 ?_
  refine z_if_eq (tgt := 25) hx hb dX7_setSight_8 (by decide) (by have hz := zB_01 (0 ≤ x ∧ x ≤ 40); omega) (fun c8 => ?_) (fun c8 => ?_)
  · have c8 := zB_0.mp c8
    refine z_iconst hx hb dX7_setSight_25 ?_
    refine y_wVi (As := [.int (zI (0))]) (rest := []) (fun (u26 : Unit) => [(m0, .inr (7, [.ref (a 0), .ref (a 1), .int (zI (ke)), .int (zI (1)), .ref (a 2), .ref (a 3), .ref (a 4), .ref (a 5), .ref (a 6), .ref (a 7), .ref (a 8), .long (zL (hs))])), (a 0, .inl (cI, 612, .inl (zA f)))]) hx hb hml hown hts hl.1 ⟨Nat.zero_le _, Nat.zero_le _⟩ (kX7_refuses_0 l D cI cJ cS m0 a ke th hs f) (cwV 1 hts gX7_setSight_X7_refuses rfl rfl rfl jX7_refuses ⟨Nat.le_of_ble_eq_true rfl, Nat.le_of_ble_eq_true rfl⟩) hK [true] hP hD hS rfl (fun _ => rfl) (fun _ => rfl) 7 0 rfl rfl rfl rfl rfl (Nat.le_of_ble_eq_true rfl) dX7_setSight_26 (fun r26 u26 H locs hu26 hP hS => ?_)
    subst hu26
    refine z_if_eq (tgt := 34) hx hb dX7_setSight_29 (by decide) (by omega) (fun c29 => ?_) (fun c29 => ?_)
    · exfalso; omega
    · refine z_iconst hx hb dX7_setSight_32 ?_
      exact hret () rfl hP hS dX7_setSight_33
  · have c8 := zB_n0.mp c8
    refine lv_iload_n hx hb dX7_setSight_11 rfl (lv_at hl 2 rfl) ?_
    refine z_iconst hx hb dX7_setSight_12 ?_
    refine z_bipush hx hb dX7_setSight_13 (by decide +kernel) ?_
    refine z_rS (v := zB (0 ≤ y ∧ y ≤ 20)) (As := [.int (zI (y)), .int (zI (0)), .int (zI (20))]) (rest := [.ref m0]) hx hb hml hown hts hl.1 ⟨Nat.zero_le _, Nat.zero_le _⟩ (kX7_in l D cI cJ cS y 0 20 (by omega) (by omega) (by omega)) (cwS 3 hts gX7_setSight_X7_in rfl rfl rfl jX7_in ⟨Nat.le_of_ble_eq_true rfl, Nat.le_of_ble_eq_true rfl⟩) hK rfl rfl (Nat.le_of_ble_eq_true rfl) dX7_setSight_15 ?_
    refine z_if_eq (tgt := 25) hx hb dX7_setSight_18 (by decide) (by have hz := zB_01 (0 ≤ y ∧ y ≤ 20); omega) (fun c18 => ?_) (fun c18 => ?_)
    · have c18 := zB_0.mp c18
      refine z_iconst hx hb dX7_setSight_25 ?_
      refine y_wVi (As := [.int (zI (0))]) (rest := []) (fun (u26 : Unit) => [(m0, .inr (7, [.ref (a 0), .ref (a 1), .int (zI (ke)), .int (zI (1)), .ref (a 2), .ref (a 3), .ref (a 4), .ref (a 5), .ref (a 6), .ref (a 7), .ref (a 8), .long (zL (hs))])), (a 0, .inl (cI, 612, .inl (zA f)))]) hx hb hml hown hts hl.1 ⟨Nat.zero_le _, Nat.zero_le _⟩ (kX7_refuses_0 l D cI cJ cS m0 a ke th hs f) (cwV 1 hts gX7_setSight_X7_refuses rfl rfl rfl jX7_refuses ⟨Nat.le_of_ble_eq_true rfl, Nat.le_of_ble_eq_true rfl⟩) hK [true] hP hD hS rfl (fun _ => rfl) (fun _ => rfl) 7 0 rfl rfl rfl rfl rfl (Nat.le_of_ble_eq_true rfl) dX7_setSight_26 (fun r26 u26 H locs hu26 hP hS => ?_)
      subst hu26
      refine z_if_eq (tgt := 34) hx hb dX7_setSight_29 (by decide) (by omega) (fun c29 => ?_) (fun c29 => ?_)
      · exfalso; omega
      · refine z_iconst hx hb dX7_setSight_32 ?_
        exact hret () rfl hP hS dX7_setSight_33
    · have c18 := zB_n0.mp c18
      exfalso; omega

set_option maxHeartbeats 4000000 in
set_option maxRecDepth 100000 in
theorem kX7_setSight_ok (l : Launch) (D : va_G) (cI cJ cS : ClassId) (m0 : Nat) (a : Nat → Nat) (ke th hs : Int) (f : Int → Int) (gp : Int → Int) (x y : Int) (ok : OkF f) (hke : 0 ≤ ke ∧ ke ≤ 4) (hY : 0 ≤ x ∧ x ≤ 40 ∧ 0 ≤ y ∧ y ≤ 20) : Met l yX7_setSight wsX7_setSight rmX7_setSight (zPc D (zT cI cJ cS) [.ref m0, .int (zI (x)), .int (zI (y))] [(m0, .inr (7, [.ref (a 0), .ref (a 1), .int (zI (ke)), .int (zI (th)), .ref (a 2), .ref (a 3), .ref (a 4), .ref (a 5), .ref (a 6), .ref (a 7), .ref (a 8), .long (zL (hs))])), (a 0, .inl (cI, 612, .inl (zA f))), (a 1, .inl (cI, 2448, .inl (zA gp)))]) (va_Qi (fun r _ => r = zI (f 7)) (fun (u : Unit) t => va_P D vwCl [(m0, .inr (7, [.ref (a 0), .ref (a 1), .int (zI (cnS ke)), .int (zI (0)), .ref (a 2), .ref (a 3), .ref (a 4), .ref (a 5), .ref (a 6), .ref (a 7), .ref (a 8), .long (zL (hs))])), (a 0, .inl (cI, 612, .inl (zA (zup (zup f 7 x) 8 y)))), (a 1, .inl (cI, 2448, .inl (zA (kpF gp f ke))))] t.heap) (zAd [(m0, .inr (7, [.ref (a 0), .ref (a 1), .int (zI (ke)), .int (zI (th)), .ref (a 2), .ref (a 3), .ref (a 4), .ref (a 5), .ref (a 6), .ref (a 7), .ref (a 8), .long (zL (hs))])), (a 0, .inl (cI, 612, .inl (zA f))), (a 1, .inl (cI, 2448, .inl (zA gp)))])) 0 0 (zAd [(m0, .inr (7, [.ref (a 0), .ref (a 1), .int (zI (ke)), .int (zI (th)), .ref (a 2), .ref (a 3), .ref (a 4), .ref (a 5), .ref (a 6), .ref (a 7), .ref (a 8), .long (zL (hs))])), (a 0, .inl (cI, 612, .inl (zA f))), (a 1, .inl (cI, 2448, .inl (zA gp)))]) := by
  refine zWi_of (cc := cX7_setSight) (maxL := 4) (ret := (some .int)) (by decide) rfl (Nat.le_of_ble_eq_true rfl) rfl ?_
  intro p e s m args below meth c Q A ls hx hb hml hts hown hK hP hD hS hl hret
  have in7 : ∀ w ∈ wsX70, w ∈ wsX7_setSight := by decide +kernel
  have f7 := hts (.fieldLink RX7 7 "SignalSpacingModel" "now" "[I") (by decide +kernel)
  have hl : lv_has ls 4 [(0, .ref m0), (1, .int (zI (x))), (2, .int (zI (y)))] := hl
  have hP : va_P D vwCl [(m0, .inr (7, [.ref (a 0), .ref (a 1), .int (zI (ke)), .int (zI (th)), .ref (a 2), .ref (a 3), .ref (a 4), .ref (a 5), .ref (a 6), .ref (a 7), .ref (a 8), .long (zL (hs))])), (a 0, .inl (cI, 612, .inl (zA f))), (a 1, .inl (cI, 2448, .inl (zA gp)))] s.heap := hP
  obtain ⟨o0, o1, o2, o3, o4, o5, o7, o8, olim, ogrd, obar, oneed, opost⟩ := id ok
  have hfr := okF_r ok
  refine lv_aload_n hx hb dX7_setSight_0 rfl (lv_at hl 0 rfl) ?_
  refine lv_iload_n hx hb dX7_setSight_1 rfl (lv_at hl 1 rfl) ?_
  refine z_iconst hx hb dX7_setSight_2 ?_
  refine z_bipush hx hb dX7_setSight_3 (by decide +kernel) ?_
  refine z_rS (v := zB (0 ≤ x ∧ x ≤ 40)) (As := [.int (zI (x)), .int (zI (0)), .int (zI (40))]) (rest := [.ref m0]) hx hb hml hown hts hl.1 ⟨Nat.zero_le _, Nat.zero_le _⟩ (kX7_in l D cI cJ cS x 0 40 (by omega) (by omega) (by omega)) (cwS 3 hts gX7_setSight_X7_in rfl rfl rfl jX7_in ⟨Nat.le_of_ble_eq_true rfl, Nat.le_of_ble_eq_true rfl⟩) hK rfl rfl (Nat.le_of_ble_eq_true rfl) dX7_setSight_5 ?_
  refine z_top (1) (zB_t (by omega)) ?_
  refine z_if_eq (tgt := 25) hx hb dX7_setSight_8 (by decide) (by omega) (fun c8 => ?_) (fun c8 => ?_)
  · exfalso; omega
  · refine lv_iload_n hx hb dX7_setSight_11 rfl (lv_at hl 2 rfl) ?_
    refine z_iconst hx hb dX7_setSight_12 ?_
    refine z_bipush hx hb dX7_setSight_13 (by decide +kernel) ?_
    refine z_rS (v := zB (0 ≤ y ∧ y ≤ 20)) (As := [.int (zI (y)), .int (zI (0)), .int (zI (20))]) (rest := [.ref m0]) hx hb hml hown hts hl.1 ⟨Nat.zero_le _, Nat.zero_le _⟩ (kX7_in l D cI cJ cS y 0 20 (by omega) (by omega) (by omega)) (cwS 3 hts gX7_setSight_X7_in rfl rfl rfl jX7_in ⟨Nat.le_of_ble_eq_true rfl, Nat.le_of_ble_eq_true rfl⟩) hK rfl rfl (Nat.le_of_ble_eq_true rfl) dX7_setSight_15 ?_
    refine z_top (1) (zB_t (by omega)) ?_
    refine z_if_eq (tgt := 25) hx hb dX7_setSight_18 (by decide) (by omega) (fun c18 => ?_) (fun c18 => ?_)
    · exfalso; omega
    · refine z_iconst hx hb dX7_setSight_21 ?_
      refine lv_goto (tgt := 26) hx hb dX7_setSight_22 (by decide) ?_
      refine y_wVi (As := [.int (zI (1))]) (rest := []) (fun (u26 : Unit) => [(m0, .inr (7, [.ref (a 0), .ref (a 1), .int (zI (ke)), .int (zI (0)), .ref (a 2), .ref (a 3), .ref (a 4), .ref (a 5), .ref (a 6), .ref (a 7), .ref (a 8), .long (zL (hs))])), (a 0, .inl (cI, 612, .inl (zA f))), (a 1, .inl (cI, 2448, .inl (zA gp)))]) hx hb hml hown hts hl.1 ⟨Nat.zero_le _, Nat.zero_le _⟩ (kX7_refuses_1 l D cI cJ cS m0 a ke th hs f) (cwV 1 hts gX7_setSight_X7_refuses rfl rfl rfl jX7_refuses ⟨Nat.le_of_ble_eq_true rfl, Nat.le_of_ble_eq_true rfl⟩) hK [true] hP hD hS rfl (fun _ => rfl) (fun _ => rfl) 7 0 rfl rfl rfl rfl rfl (Nat.le_of_ble_eq_true rfl) dX7_setSight_26 (fun r26 u26 H locs hu26 hP hS => ?_)
      subst hu26
      refine z_if_eq (tgt := 34) hx hb dX7_setSight_29 (by decide) (by omega) (fun c29 => ?_) (fun c29 => ?_)
      · refine lv_aload_n hx hb dX7_setSight_34 rfl (lv_at hl 0 rfl) ?_
        refine y_wVv (As := []) (rest := []) (fun (u35 : Unit) => [(m0, .inr (7, [.ref (a 0), .ref (a 1), .int (zI (cnS ke)), .int (zI (0)), .ref (a 2), .ref (a 3), .ref (a 4), .ref (a 5), .ref (a 6), .ref (a 7), .ref (a 8), .long (zL (hs))])), (a 0, .inl (cI, 612, .inl (zA f))), (a 1, .inl (cI, 2448, .inl (zA (kpF gp f ke))))]) hx hb hml hown hts hl.1 ⟨Nat.zero_le _, Nat.zero_le _⟩ (kX7_keep l D cI cJ cS m0 a ke 0 hs f gp hke) (cwV 0 hts gX7_setSight_X7_keep rfl rfl rfl jX7_keep ⟨Nat.le_of_ble_eq_true rfl, Nat.le_of_ble_eq_true rfl⟩) hK [true, true, true] hP (zD hD rfl) hS rfl (fun _ => rfl) (fun _ => rfl) 7 0 rfl rfl rfl rfl rfl (Nat.le_of_ble_eq_true rfl) dX7_setSight_35 (fun u35 H locs hu35 hP hS => ?_)
        refine lv_aload_n hx hb dX7_setSight_38 rfl (lv_at hl 0 rfl) ?_
        refine va_get (D := D) (ci := 7) (v := .ref (a 0)) (C := RX7) (T := TX7) (N := 12) hx hb hts in7 hown hK hP 0 rfl rfl 0 (by decide) f7 (fun _ h9 => h9) rfl dX7_setSight_39 ?_
        refine z_bipush hx hb dX7_setSight_42 (by decide +kernel) ?_
        refine z_iald hx hb hK hP 1 0 rfl rfl (by omega) (Nat.lt_of_succ_le (Nat.le_of_ble_eq_true rfl)) dX7_setSight_44 ?_
        refine lv_istore_n (lv' := [(3, .int (zI (f 7))), (0, .ref m0), (1, .int (zI (x))), (2, .int (zI (y)))]) hx hb dX7_setSight_45 rfl hl (by decide) rfl (fun ls hl => ?_)
        refine lv_aload_n hx hb dX7_setSight_46 rfl (lv_at hl 1 rfl) ?_
        refine va_get (D := D) (ci := 7) (v := .ref (a 0)) (C := RX7) (T := TX7) (N := 12) hx hb hts in7 hown hK hP 0 rfl rfl 0 (by decide) f7 (fun _ h9 => h9) rfl dX7_setSight_47 ?_
        refine z_bipush hx hb dX7_setSight_50 (by decide +kernel) ?_
        refine lv_iload_n hx hb dX7_setSight_52 rfl (lv_at hl 2 rfl) ?_
        refine z_iast hx hb hK hP (zD hD rfl) hS 1 0 [(m0, .inr (7, [.ref (a 0), .ref (a 1), .int (zI (cnS ke)), .int (zI (0)), .ref (a 2), .ref (a 3), .ref (a 4), .ref (a 5), .ref (a 6), .ref (a 7), .ref (a 8), .long (zL (hs))])), (a 0, .inl (cI, 612, .inl (zA (zup f 7 x)))), (a 1, .inl (cI, 2448, .inl (zA (kpF gp f ke))))] rfl rfl (by omega) (Nat.lt_of_succ_le (Nat.le_of_ble_eq_true rfl)) rfl dX7_setSight_53 (fun H locs hP hS => ?_)
        refine lv_aload_n hx hb dX7_setSight_54 rfl (lv_at hl 1 rfl) ?_
        refine va_get (D := D) (ci := 7) (v := .ref (a 0)) (C := RX7) (T := TX7) (N := 12) hx hb hts in7 hown hK hP 0 rfl rfl 0 (by decide) f7 (fun _ h9 => h9) rfl dX7_setSight_55 ?_
        refine z_bipush hx hb dX7_setSight_58 (by decide +kernel) ?_
        refine lv_iload_n hx hb dX7_setSight_60 rfl (lv_at hl 3 rfl) ?_
        refine z_iast hx hb hK hP (zD hD rfl) hS 1 0 [(m0, .inr (7, [.ref (a 0), .ref (a 1), .int (zI (cnS ke)), .int (zI (0)), .ref (a 2), .ref (a 3), .ref (a 4), .ref (a 5), .ref (a 6), .ref (a 7), .ref (a 8), .long (zL (hs))])), (a 0, .inl (cI, 612, .inl (zA (zup (zup f 7 x) 8 y)))), (a 1, .inl (cI, 2448, .inl (zA (kpF gp f ke))))] rfl rfl (by omega) (Nat.lt_of_succ_le (Nat.le_of_ble_eq_true rfl)) rfl dX7_setSight_61 (fun H locs hP hS => ?_)
        refine lv_iload_n hx hb dX7_setSight_62 rfl (lv_at hl 0 rfl) ?_
        exact hret () rfl hP hS dX7_setSight_63
      · exfalso; omega

abbrev rmX7_limit : Room := { frames := 2, cells := 0, slots := 0, locals := 43 }
theorem jX7_limit : yX7_limit.cls = RX7 ∧ yX7_limit.cls ≠ "java/lang/invoke/MethodHandle" ∧ yX7_limit.cls ≠ "java/lang/invoke/VarHandle" ∧ (parseMethodDescriptor yX7_limit.desc).map (fun d => d.parameters.length) = some 1 := by decide +kernel
set_option maxHeartbeats 4000000 in
set_option maxRecDepth 100000 in
theorem kX7_limit_no (l : Launch) (D : va_G) (cI cJ cS : ClassId) (m0 : Nat) (a : Nat → Nat) (ke th hs : Int) (f : Int → Int) (x : Int) (ok : OkF f) (hN : ¬ (0 ≤ x ∧ x ≤ f 0 - 1)) (hr_x : -2147483648 ≤ x ∧ x < 2147483648) : Met l yX7_limit wsX7_limit rmX7_limit (zPc D (zT cI cJ cS) [.ref m0, .int (zI (x))] [(m0, .inr (7, [.ref (a 0), .ref (a 1), .int (zI (ke)), .int (zI (th)), .ref (a 2), .ref (a 3), .ref (a 4), .ref (a 5), .ref (a 6), .ref (a 7), .ref (a 8), .long (zL (hs))])), (a 0, .inl (cI, 612, .inl (zA f)))]) (va_Qi (fun r _ => r = zI 0) (fun (u : Unit) t => va_P D vwCl [(m0, .inr (7, [.ref (a 0), .ref (a 1), .int (zI (ke)), .int (zI (1)), .ref (a 2), .ref (a 3), .ref (a 4), .ref (a 5), .ref (a 6), .ref (a 7), .ref (a 8), .long (zL (hs))])), (a 0, .inl (cI, 612, .inl (zA f)))] t.heap) (zAd [(m0, .inr (7, [.ref (a 0), .ref (a 1), .int (zI (ke)), .int (zI (th)), .ref (a 2), .ref (a 3), .ref (a 4), .ref (a 5), .ref (a 6), .ref (a 7), .ref (a 8), .long (zL (hs))])), (a 0, .inl (cI, 612, .inl (zA f)))])) 0 0 (zAd [(m0, .inr (7, [.ref (a 0), .ref (a 1), .int (zI (ke)), .int (zI (th)), .ref (a 2), .ref (a 3), .ref (a 4), .ref (a 5), .ref (a 6), .ref (a 7), .ref (a 8), .long (zL (hs))])), (a 0, .inl (cI, 612, .inl (zA f)))]) := by
  refine zWi_of (cc := cX7_limit) (maxL := 2) (ret := (some .int)) (by decide) rfl (Nat.le_of_ble_eq_true rfl) rfl ?_
  intro p e s m args below meth c Q A ls hx hb hml hts hown hK hP hD hS hl hret
  have hl : lv_has ls 2 [(0, .ref m0), (1, .int (zI (x)))] := hl
  have hP : va_P D vwCl [(m0, .inr (7, [.ref (a 0), .ref (a 1), .int (zI (ke)), .int (zI (th)), .ref (a 2), .ref (a 3), .ref (a 4), .ref (a 5), .ref (a 6), .ref (a 7), .ref (a 8), .long (zL (hs))])), (a 0, .inl (cI, 612, .inl (zA f)))] s.heap := hP
  obtain ⟨o0, o1, o2, o3, o4, o5, o7, o8, olim, ogrd, obar, oneed, opost⟩ := id ok
  have hfr := okF_r ok
  refine lv_aload_n hx hb dX7_limit_0 rfl (lv_at hl 0 rfl) ?_
  refine lv_aload_n hx hb dX7_limit_1 rfl (lv_at hl 0 rfl) ?_
  refine lv_iload_n hx hb dX7_limit_2 rfl (lv_at hl 1 rfl) ?_
  refine y_rV (v := zB (0 ≤ x ∧ x ≤ f 0 - 1)) (As := [.int (zI (x))]) (rest := [.ref m0]) hx hb hml hown hts hl.1 ⟨Nat.zero_le _, Nat.zero_le _⟩ (kX7_isCell l D cI cJ cS m0 a ke th hs f x o0 (by omega)) (cwV 1 hts gX7_limit_X7_isCell rfl rfl rfl jX7_isCell ⟨Nat.le_of_ble_eq_true rfl, Nat.le_of_ble_eq_true rfl⟩) hK [true, true] hP hD rfl 7 0 rfl rfl rfl rfl rfl (Nat.le_of_ble_eq_true rfl) dX7_limit_3 ?_
  refine z_top (0) (zB_f (by omega)) ?_
  refine y_wVi (As := [.int (zI (0))]) (rest := []) (fun (u6 : Unit) => [(m0, .inr (7, [.ref (a 0), .ref (a 1), .int (zI (ke)), .int (zI (1)), .ref (a 2), .ref (a 3), .ref (a 4), .ref (a 5), .ref (a 6), .ref (a 7), .ref (a 8), .long (zL (hs))])), (a 0, .inl (cI, 612, .inl (zA f)))]) hx hb hml hown hts hl.1 ⟨Nat.zero_le _, Nat.zero_le _⟩ (kX7_refuses_0 l D cI cJ cS m0 a ke th hs f) (cwV 1 hts gX7_limit_X7_refuses rfl rfl rfl jX7_refuses ⟨Nat.le_of_ble_eq_true rfl, Nat.le_of_ble_eq_true rfl⟩) hK [true] hP hD hS rfl (fun _ => rfl) (fun _ => rfl) 7 0 rfl rfl rfl rfl rfl (Nat.le_of_ble_eq_true rfl) dX7_limit_6 (fun r6 u6 H locs hu6 hP hS => ?_)
  subst hu6
  refine z_if_eq (tgt := 16) hx hb dX7_limit_9 (by decide) (by omega) (fun c9 => ?_) (fun c9 => ?_)
  · exfalso; omega
  · refine z_iconst hx hb dX7_limit_12 ?_
    refine lv_goto (tgt := 25) hx hb dX7_limit_13 (by decide) ?_
    exact hret () rfl hP hS dX7_limit_25

set_option maxHeartbeats 4000000 in
set_option maxRecDepth 100000 in
theorem kX7_limit_ok (l : Launch) (D : va_G) (cI cJ cS : ClassId) (m0 : Nat) (a : Nat → Nat) (ke th hs : Int) (f : Int → Int) (x : Int) (ok : OkF f) (hY : 0 ≤ x ∧ x ≤ f 0 - 1) : Met l yX7_limit wsX7_limit rmX7_limit (zPc D (zT cI cJ cS) [.ref m0, .int (zI (x))] [(m0, .inr (7, [.ref (a 0), .ref (a 1), .int (zI (ke)), .int (zI (th)), .ref (a 2), .ref (a 3), .ref (a 4), .ref (a 5), .ref (a 6), .ref (a 7), .ref (a 8), .long (zL (hs))])), (a 0, .inl (cI, 612, .inl (zA f)))]) (va_Qi (fun r _ => r = zI (f (9 + x))) (fun (u : Unit) t => va_P D vwCl [(m0, .inr (7, [.ref (a 0), .ref (a 1), .int (zI (ke)), .int (zI (0)), .ref (a 2), .ref (a 3), .ref (a 4), .ref (a 5), .ref (a 6), .ref (a 7), .ref (a 8), .long (zL (hs))])), (a 0, .inl (cI, 612, .inl (zA f)))] t.heap) (zAd [(m0, .inr (7, [.ref (a 0), .ref (a 1), .int (zI (ke)), .int (zI (th)), .ref (a 2), .ref (a 3), .ref (a 4), .ref (a 5), .ref (a 6), .ref (a 7), .ref (a 8), .long (zL (hs))])), (a 0, .inl (cI, 612, .inl (zA f)))])) 0 0 (zAd [(m0, .inr (7, [.ref (a 0), .ref (a 1), .int (zI (ke)), .int (zI (th)), .ref (a 2), .ref (a 3), .ref (a 4), .ref (a 5), .ref (a 6), .ref (a 7), .ref (a 8), .long (zL (hs))])), (a 0, .inl (cI, 612, .inl (zA f)))]) := by
  refine zWi_of (cc := cX7_limit) (maxL := 2) (ret := (some .int)) (by decide) rfl (Nat.le_of_ble_eq_true rfl) rfl ?_
  intro p e s m args below meth c Q A ls hx hb hml hts hown hK hP hD hS hl hret
  have in7 : ∀ w ∈ wsX70, w ∈ wsX7_limit := by decide +kernel
  have f7 := hts (.fieldLink RX7 7 "SignalSpacingModel" "now" "[I") (by decide +kernel)
  have hl : lv_has ls 2 [(0, .ref m0), (1, .int (zI (x)))] := hl
  have hP : va_P D vwCl [(m0, .inr (7, [.ref (a 0), .ref (a 1), .int (zI (ke)), .int (zI (th)), .ref (a 2), .ref (a 3), .ref (a 4), .ref (a 5), .ref (a 6), .ref (a 7), .ref (a 8), .long (zL (hs))])), (a 0, .inl (cI, 612, .inl (zA f)))] s.heap := hP
  obtain ⟨o0, o1, o2, o3, o4, o5, o7, o8, olim, ogrd, obar, oneed, opost⟩ := id ok
  have hfr := okF_r ok
  refine lv_aload_n hx hb dX7_limit_0 rfl (lv_at hl 0 rfl) ?_
  refine lv_aload_n hx hb dX7_limit_1 rfl (lv_at hl 0 rfl) ?_
  refine lv_iload_n hx hb dX7_limit_2 rfl (lv_at hl 1 rfl) ?_
  refine y_rV (v := zB (0 ≤ x ∧ x ≤ f 0 - 1)) (As := [.int (zI (x))]) (rest := [.ref m0]) hx hb hml hown hts hl.1 ⟨Nat.zero_le _, Nat.zero_le _⟩ (kX7_isCell l D cI cJ cS m0 a ke th hs f x o0 (by omega)) (cwV 1 hts gX7_limit_X7_isCell rfl rfl rfl jX7_isCell ⟨Nat.le_of_ble_eq_true rfl, Nat.le_of_ble_eq_true rfl⟩) hK [true, true] hP hD rfl 7 0 rfl rfl rfl rfl rfl (Nat.le_of_ble_eq_true rfl) dX7_limit_3 ?_
  refine z_top (1) (zB_t (by omega)) ?_
  refine y_wVi (As := [.int (zI (1))]) (rest := []) (fun (u6 : Unit) => [(m0, .inr (7, [.ref (a 0), .ref (a 1), .int (zI (ke)), .int (zI (0)), .ref (a 2), .ref (a 3), .ref (a 4), .ref (a 5), .ref (a 6), .ref (a 7), .ref (a 8), .long (zL (hs))])), (a 0, .inl (cI, 612, .inl (zA f)))]) hx hb hml hown hts hl.1 ⟨Nat.zero_le _, Nat.zero_le _⟩ (kX7_refuses_1 l D cI cJ cS m0 a ke th hs f) (cwV 1 hts gX7_limit_X7_refuses rfl rfl rfl jX7_refuses ⟨Nat.le_of_ble_eq_true rfl, Nat.le_of_ble_eq_true rfl⟩) hK [true] hP hD hS rfl (fun _ => rfl) (fun _ => rfl) 7 0 rfl rfl rfl rfl rfl (Nat.le_of_ble_eq_true rfl) dX7_limit_6 (fun r6 u6 H locs hu6 hP hS => ?_)
  subst hu6
  refine z_if_eq (tgt := 16) hx hb dX7_limit_9 (by decide) (by omega) (fun c9 => ?_) (fun c9 => ?_)
  · refine lv_aload_n hx hb dX7_limit_16 rfl (lv_at hl 0 rfl) ?_
    refine va_get (D := D) (ci := 7) (v := .ref (a 0)) (C := RX7) (T := TX7) (N := 12) hx hb hts in7 hown hK hP 0 rfl rfl 0 (by decide) f7 (fun _ h9 => h9) rfl dX7_limit_17 ?_
    refine z_bipush hx hb dX7_limit_20 (by decide +kernel) ?_
    refine lv_iload_n hx hb dX7_limit_22 rfl (lv_at hl 1 rfl) ?_
    refine z_iadd hx hb dX7_limit_23 ?_
    refine z_iald hx hb hK hP 1 0 rfl rfl (by omega) (Nat.lt_of_succ_le (Nat.le_of_ble_eq_true rfl)) dX7_limit_24 ?_
    exact hret () rfl hP hS dX7_limit_25
  · exfalso; omega

abbrev rmX7_gradient : Room := { frames := 2, cells := 0, slots := 0, locals := 43 }
theorem jX7_gradient : yX7_gradient.cls = RX7 ∧ yX7_gradient.cls ≠ "java/lang/invoke/MethodHandle" ∧ yX7_gradient.cls ≠ "java/lang/invoke/VarHandle" ∧ (parseMethodDescriptor yX7_gradient.desc).map (fun d => d.parameters.length) = some 1 := by decide +kernel
set_option maxHeartbeats 4000000 in
set_option maxRecDepth 100000 in
theorem kX7_gradient_no (l : Launch) (D : va_G) (cI cJ cS : ClassId) (m0 : Nat) (a : Nat → Nat) (ke th hs : Int) (f : Int → Int) (x : Int) (ok : OkF f) (hN : ¬ (0 ≤ x ∧ x ≤ f 0 - 1)) (hr_x : -2147483648 ≤ x ∧ x < 2147483648) : Met l yX7_gradient wsX7_gradient rmX7_gradient (zPc D (zT cI cJ cS) [.ref m0, .int (zI (x))] [(m0, .inr (7, [.ref (a 0), .ref (a 1), .int (zI (ke)), .int (zI (th)), .ref (a 2), .ref (a 3), .ref (a 4), .ref (a 5), .ref (a 6), .ref (a 7), .ref (a 8), .long (zL (hs))])), (a 0, .inl (cI, 612, .inl (zA f)))]) (va_Qi (fun r _ => r = zI 0) (fun (u : Unit) t => va_P D vwCl [(m0, .inr (7, [.ref (a 0), .ref (a 1), .int (zI (ke)), .int (zI (1)), .ref (a 2), .ref (a 3), .ref (a 4), .ref (a 5), .ref (a 6), .ref (a 7), .ref (a 8), .long (zL (hs))])), (a 0, .inl (cI, 612, .inl (zA f)))] t.heap) (zAd [(m0, .inr (7, [.ref (a 0), .ref (a 1), .int (zI (ke)), .int (zI (th)), .ref (a 2), .ref (a 3), .ref (a 4), .ref (a 5), .ref (a 6), .ref (a 7), .ref (a 8), .long (zL (hs))])), (a 0, .inl (cI, 612, .inl (zA f)))])) 0 0 (zAd [(m0, .inr (7, [.ref (a 0), .ref (a 1), .int (zI (ke)), .int (zI (th)), .ref (a 2), .ref (a 3), .ref (a 4), .ref (a 5), .ref (a 6), .ref (a 7), .ref (a 8), .long (zL (hs))])), (a 0, .inl (cI, 612, .inl (zA f)))]) := by
  refine zWi_of (cc := cX7_gradient) (maxL := 2) (ret := (some .int)) (by decide) rfl (Nat.le_of_ble_eq_true rfl) rfl ?_
  intro p e s m args below meth c Q A ls hx hb hml hts hown hK hP hD hS hl hret
  have hl : lv_has ls 2 [(0, .ref m0), (1, .int (zI (x)))] := hl
  have hP : va_P D vwCl [(m0, .inr (7, [.ref (a 0), .ref (a 1), .int (zI (ke)), .int (zI (th)), .ref (a 2), .ref (a 3), .ref (a 4), .ref (a 5), .ref (a 6), .ref (a 7), .ref (a 8), .long (zL (hs))])), (a 0, .inl (cI, 612, .inl (zA f)))] s.heap := hP
  obtain ⟨o0, o1, o2, o3, o4, o5, o7, o8, olim, ogrd, obar, oneed, opost⟩ := id ok
  have hfr := okF_r ok
  refine lv_aload_n hx hb dX7_gradient_0 rfl (lv_at hl 0 rfl) ?_
  refine lv_aload_n hx hb dX7_gradient_1 rfl (lv_at hl 0 rfl) ?_
  refine lv_iload_n hx hb dX7_gradient_2 rfl (lv_at hl 1 rfl) ?_
  refine y_rV (v := zB (0 ≤ x ∧ x ≤ f 0 - 1)) (As := [.int (zI (x))]) (rest := [.ref m0]) hx hb hml hown hts hl.1 ⟨Nat.zero_le _, Nat.zero_le _⟩ (kX7_isCell l D cI cJ cS m0 a ke th hs f x o0 (by omega)) (cwV 1 hts gX7_gradient_X7_isCell rfl rfl rfl jX7_isCell ⟨Nat.le_of_ble_eq_true rfl, Nat.le_of_ble_eq_true rfl⟩) hK [true, true] hP hD rfl 7 0 rfl rfl rfl rfl rfl (Nat.le_of_ble_eq_true rfl) dX7_gradient_3 ?_
  refine z_top (0) (zB_f (by omega)) ?_
  refine y_wVi (As := [.int (zI (0))]) (rest := []) (fun (u6 : Unit) => [(m0, .inr (7, [.ref (a 0), .ref (a 1), .int (zI (ke)), .int (zI (1)), .ref (a 2), .ref (a 3), .ref (a 4), .ref (a 5), .ref (a 6), .ref (a 7), .ref (a 8), .long (zL (hs))])), (a 0, .inl (cI, 612, .inl (zA f)))]) hx hb hml hown hts hl.1 ⟨Nat.zero_le _, Nat.zero_le _⟩ (kX7_refuses_0 l D cI cJ cS m0 a ke th hs f) (cwV 1 hts gX7_gradient_X7_refuses rfl rfl rfl jX7_refuses ⟨Nat.le_of_ble_eq_true rfl, Nat.le_of_ble_eq_true rfl⟩) hK [true] hP hD hS rfl (fun _ => rfl) (fun _ => rfl) 7 0 rfl rfl rfl rfl rfl (Nat.le_of_ble_eq_true rfl) dX7_gradient_6 (fun r6 u6 H locs hu6 hP hS => ?_)
  subst hu6
  refine z_if_eq (tgt := 16) hx hb dX7_gradient_9 (by decide) (by omega) (fun c9 => ?_) (fun c9 => ?_)
  · exfalso; omega
  · refine z_iconst hx hb dX7_gradient_12 ?_
    refine lv_goto (tgt := 26) hx hb dX7_gradient_13 (by decide) ?_
    exact hret () rfl hP hS dX7_gradient_26

set_option maxHeartbeats 4000000 in
set_option maxRecDepth 100000 in
theorem kX7_gradient_ok (l : Launch) (D : va_G) (cI cJ cS : ClassId) (m0 : Nat) (a : Nat → Nat) (ke th hs : Int) (f : Int → Int) (x : Int) (ok : OkF f) (hY : 0 ≤ x ∧ x ≤ f 0 - 1) : Met l yX7_gradient wsX7_gradient rmX7_gradient (zPc D (zT cI cJ cS) [.ref m0, .int (zI (x))] [(m0, .inr (7, [.ref (a 0), .ref (a 1), .int (zI (ke)), .int (zI (th)), .ref (a 2), .ref (a 3), .ref (a 4), .ref (a 5), .ref (a 6), .ref (a 7), .ref (a 8), .long (zL (hs))])), (a 0, .inl (cI, 612, .inl (zA f)))]) (va_Qi (fun r _ => r = zI (f (129 + x))) (fun (u : Unit) t => va_P D vwCl [(m0, .inr (7, [.ref (a 0), .ref (a 1), .int (zI (ke)), .int (zI (0)), .ref (a 2), .ref (a 3), .ref (a 4), .ref (a 5), .ref (a 6), .ref (a 7), .ref (a 8), .long (zL (hs))])), (a 0, .inl (cI, 612, .inl (zA f)))] t.heap) (zAd [(m0, .inr (7, [.ref (a 0), .ref (a 1), .int (zI (ke)), .int (zI (th)), .ref (a 2), .ref (a 3), .ref (a 4), .ref (a 5), .ref (a 6), .ref (a 7), .ref (a 8), .long (zL (hs))])), (a 0, .inl (cI, 612, .inl (zA f)))])) 0 0 (zAd [(m0, .inr (7, [.ref (a 0), .ref (a 1), .int (zI (ke)), .int (zI (th)), .ref (a 2), .ref (a 3), .ref (a 4), .ref (a 5), .ref (a 6), .ref (a 7), .ref (a 8), .long (zL (hs))])), (a 0, .inl (cI, 612, .inl (zA f)))]) := by
  refine zWi_of (cc := cX7_gradient) (maxL := 2) (ret := (some .int)) (by decide) rfl (Nat.le_of_ble_eq_true rfl) rfl ?_
  intro p e s m args below meth c Q A ls hx hb hml hts hown hK hP hD hS hl hret
  have in7 : ∀ w ∈ wsX70, w ∈ wsX7_gradient := by decide +kernel
  have f7 := hts (.fieldLink RX7 7 "SignalSpacingModel" "now" "[I") (by decide +kernel)
  have hl : lv_has ls 2 [(0, .ref m0), (1, .int (zI (x)))] := hl
  have hP : va_P D vwCl [(m0, .inr (7, [.ref (a 0), .ref (a 1), .int (zI (ke)), .int (zI (th)), .ref (a 2), .ref (a 3), .ref (a 4), .ref (a 5), .ref (a 6), .ref (a 7), .ref (a 8), .long (zL (hs))])), (a 0, .inl (cI, 612, .inl (zA f)))] s.heap := hP
  obtain ⟨o0, o1, o2, o3, o4, o5, o7, o8, olim, ogrd, obar, oneed, opost⟩ := id ok
  have hfr := okF_r ok
  refine lv_aload_n hx hb dX7_gradient_0 rfl (lv_at hl 0 rfl) ?_
  refine lv_aload_n hx hb dX7_gradient_1 rfl (lv_at hl 0 rfl) ?_
  refine lv_iload_n hx hb dX7_gradient_2 rfl (lv_at hl 1 rfl) ?_
  refine y_rV (v := zB (0 ≤ x ∧ x ≤ f 0 - 1)) (As := [.int (zI (x))]) (rest := [.ref m0]) hx hb hml hown hts hl.1 ⟨Nat.zero_le _, Nat.zero_le _⟩ (kX7_isCell l D cI cJ cS m0 a ke th hs f x o0 (by omega)) (cwV 1 hts gX7_gradient_X7_isCell rfl rfl rfl jX7_isCell ⟨Nat.le_of_ble_eq_true rfl, Nat.le_of_ble_eq_true rfl⟩) hK [true, true] hP hD rfl 7 0 rfl rfl rfl rfl rfl (Nat.le_of_ble_eq_true rfl) dX7_gradient_3 ?_
  refine z_top (1) (zB_t (by omega)) ?_
  refine y_wVi (As := [.int (zI (1))]) (rest := []) (fun (u6 : Unit) => [(m0, .inr (7, [.ref (a 0), .ref (a 1), .int (zI (ke)), .int (zI (0)), .ref (a 2), .ref (a 3), .ref (a 4), .ref (a 5), .ref (a 6), .ref (a 7), .ref (a 8), .long (zL (hs))])), (a 0, .inl (cI, 612, .inl (zA f)))]) hx hb hml hown hts hl.1 ⟨Nat.zero_le _, Nat.zero_le _⟩ (kX7_refuses_1 l D cI cJ cS m0 a ke th hs f) (cwV 1 hts gX7_gradient_X7_refuses rfl rfl rfl jX7_refuses ⟨Nat.le_of_ble_eq_true rfl, Nat.le_of_ble_eq_true rfl⟩) hK [true] hP hD hS rfl (fun _ => rfl) (fun _ => rfl) 7 0 rfl rfl rfl rfl rfl (Nat.le_of_ble_eq_true rfl) dX7_gradient_6 (fun r6 u6 H locs hu6 hP hS => ?_)
  subst hu6
  refine z_if_eq (tgt := 16) hx hb dX7_gradient_9 (by decide) (by omega) (fun c9 => ?_) (fun c9 => ?_)
  · refine lv_aload_n hx hb dX7_gradient_16 rfl (lv_at hl 0 rfl) ?_
    refine va_get (D := D) (ci := 7) (v := .ref (a 0)) (C := RX7) (T := TX7) (N := 12) hx hb hts in7 hown hK hP 0 rfl rfl 0 (by decide) f7 (fun _ h9 => h9) rfl dX7_gradient_17 ?_
    refine z_sipush hx hb dX7_gradient_20 (by decide +kernel) ?_
    refine lv_iload_n hx hb dX7_gradient_23 rfl (lv_at hl 1 rfl) ?_
    refine z_iadd hx hb dX7_gradient_24 ?_
    refine z_iald hx hb hK hP 1 0 rfl rfl (by omega) (Nat.lt_of_succ_le (Nat.le_of_ble_eq_true rfl)) dX7_gradient_25 ?_
    exact hret () rfl hP hS dX7_gradient_26
  · exfalso; omega

abbrev rmX7_isBarred : Room := { frames := 2, cells := 0, slots := 0, locals := 43 }
theorem jX7_isBarred : yX7_isBarred.cls = RX7 ∧ yX7_isBarred.cls ≠ "java/lang/invoke/MethodHandle" ∧ yX7_isBarred.cls ≠ "java/lang/invoke/VarHandle" ∧ (parseMethodDescriptor yX7_isBarred.desc).map (fun d => d.parameters.length) = some 1 := by decide +kernel
set_option maxHeartbeats 4000000 in
set_option maxRecDepth 100000 in
theorem kX7_isBarred_no (l : Launch) (D : va_G) (cI cJ cS : ClassId) (m0 : Nat) (a : Nat → Nat) (ke th hs : Int) (f : Int → Int) (x : Int) (ok : OkF f) (hN : ¬ (0 ≤ x ∧ x ≤ f 0)) (hr_x : -2147483648 ≤ x ∧ x < 2147483648) : Met l yX7_isBarred wsX7_isBarred rmX7_isBarred (zPc D (zT cI cJ cS) [.ref m0, .int (zI (x))] [(m0, .inr (7, [.ref (a 0), .ref (a 1), .int (zI (ke)), .int (zI (th)), .ref (a 2), .ref (a 3), .ref (a 4), .ref (a 5), .ref (a 6), .ref (a 7), .ref (a 8), .long (zL (hs))])), (a 0, .inl (cI, 612, .inl (zA f)))]) (va_Qi (fun r _ => r = zI 0) (fun (u : Unit) t => va_P D vwCl [(m0, .inr (7, [.ref (a 0), .ref (a 1), .int (zI (ke)), .int (zI (1)), .ref (a 2), .ref (a 3), .ref (a 4), .ref (a 5), .ref (a 6), .ref (a 7), .ref (a 8), .long (zL (hs))])), (a 0, .inl (cI, 612, .inl (zA f)))] t.heap) (zAd [(m0, .inr (7, [.ref (a 0), .ref (a 1), .int (zI (ke)), .int (zI (th)), .ref (a 2), .ref (a 3), .ref (a 4), .ref (a 5), .ref (a 6), .ref (a 7), .ref (a 8), .long (zL (hs))])), (a 0, .inl (cI, 612, .inl (zA f)))])) 0 0 (zAd [(m0, .inr (7, [.ref (a 0), .ref (a 1), .int (zI (ke)), .int (zI (th)), .ref (a 2), .ref (a 3), .ref (a 4), .ref (a 5), .ref (a 6), .ref (a 7), .ref (a 8), .long (zL (hs))])), (a 0, .inl (cI, 612, .inl (zA f)))]) := by
  refine zWz_of (cc := cX7_isBarred) (maxL := 2) (ret := (some .boolean)) (by decide) rfl (Nat.le_of_ble_eq_true rfl) rfl (fun r _ h => Or.inl h) ?_
  intro p e s m args below meth c Q A ls hx hb hml hts hown hK hP hD hS hl hret
  have hl : lv_has ls 2 [(0, .ref m0), (1, .int (zI (x)))] := hl
  have hP : va_P D vwCl [(m0, .inr (7, [.ref (a 0), .ref (a 1), .int (zI (ke)), .int (zI (th)), .ref (a 2), .ref (a 3), .ref (a 4), .ref (a 5), .ref (a 6), .ref (a 7), .ref (a 8), .long (zL (hs))])), (a 0, .inl (cI, 612, .inl (zA f)))] s.heap := hP
  obtain ⟨o0, o1, o2, o3, o4, o5, o7, o8, olim, ogrd, obar, oneed, opost⟩ := id ok
  have hfr := okF_r ok
  refine lv_aload_n hx hb dX7_isBarred_0 rfl (lv_at hl 0 rfl) ?_
  refine lv_aload_n hx hb dX7_isBarred_1 rfl (lv_at hl 0 rfl) ?_
  refine lv_iload_n hx hb dX7_isBarred_2 rfl (lv_at hl 1 rfl) ?_
  refine y_rV (v := zB (0 ≤ x ∧ x ≤ f 0)) (As := [.int (zI (x))]) (rest := [.ref m0]) hx hb hml hown hts hl.1 ⟨Nat.zero_le _, Nat.zero_le _⟩ (kX7_isPosition l D cI cJ cS m0 a ke th hs f x o0 (by omega)) (cwV 1 hts gX7_isBarred_X7_isPosition rfl rfl rfl jX7_isPosition ⟨Nat.le_of_ble_eq_true rfl, Nat.le_of_ble_eq_true rfl⟩) hK [true, true] hP hD rfl 7 0 rfl rfl rfl rfl rfl (Nat.le_of_ble_eq_true rfl) dX7_isBarred_3 ?_
  refine z_top (0) (zB_f (by omega)) ?_
  refine y_wVi (As := [.int (zI (0))]) (rest := []) (fun (u6 : Unit) => [(m0, .inr (7, [.ref (a 0), .ref (a 1), .int (zI (ke)), .int (zI (1)), .ref (a 2), .ref (a 3), .ref (a 4), .ref (a 5), .ref (a 6), .ref (a 7), .ref (a 8), .long (zL (hs))])), (a 0, .inl (cI, 612, .inl (zA f)))]) hx hb hml hown hts hl.1 ⟨Nat.zero_le _, Nat.zero_le _⟩ (kX7_refuses_0 l D cI cJ cS m0 a ke th hs f) (cwV 1 hts gX7_isBarred_X7_refuses rfl rfl rfl jX7_refuses ⟨Nat.le_of_ble_eq_true rfl, Nat.le_of_ble_eq_true rfl⟩) hK [true] hP hD hS rfl (fun _ => rfl) (fun _ => rfl) 7 0 rfl rfl rfl rfl rfl (Nat.le_of_ble_eq_true rfl) dX7_isBarred_6 (fun r6 u6 H locs hu6 hP hS => ?_)
  subst hu6
  refine z_if_ne (tgt := 30) hx hb dX7_isBarred_9 (by decide) (by omega) (fun c9 => ?_) (fun c9 => ?_)
  · refine z_iconst hx hb dX7_isBarred_30 ?_
    exact hret () rfl hP hS dX7_isBarred_31
  · exfalso; omega

set_option maxHeartbeats 4000000 in
set_option maxRecDepth 100000 in
theorem kX7_isBarred_ok (l : Launch) (D : va_G) (cI cJ cS : ClassId) (m0 : Nat) (a : Nat → Nat) (ke th hs : Int) (f : Int → Int) (x : Int) (ok : OkF f) (hY : 0 ≤ x ∧ x ≤ f 0) : Met l yX7_isBarred wsX7_isBarred rmX7_isBarred (zPc D (zT cI cJ cS) [.ref m0, .int (zI (x))] [(m0, .inr (7, [.ref (a 0), .ref (a 1), .int (zI (ke)), .int (zI (th)), .ref (a 2), .ref (a 3), .ref (a 4), .ref (a 5), .ref (a 6), .ref (a 7), .ref (a 8), .long (zL (hs))])), (a 0, .inl (cI, 612, .inl (zA f)))]) (va_Qi (fun r _ => r = zI (zB (f (249 + x) = 1))) (fun (u : Unit) t => va_P D vwCl [(m0, .inr (7, [.ref (a 0), .ref (a 1), .int (zI (ke)), .int (zI (0)), .ref (a 2), .ref (a 3), .ref (a 4), .ref (a 5), .ref (a 6), .ref (a 7), .ref (a 8), .long (zL (hs))])), (a 0, .inl (cI, 612, .inl (zA f)))] t.heap) (zAd [(m0, .inr (7, [.ref (a 0), .ref (a 1), .int (zI (ke)), .int (zI (th)), .ref (a 2), .ref (a 3), .ref (a 4), .ref (a 5), .ref (a 6), .ref (a 7), .ref (a 8), .long (zL (hs))])), (a 0, .inl (cI, 612, .inl (zA f)))])) 0 0 (zAd [(m0, .inr (7, [.ref (a 0), .ref (a 1), .int (zI (ke)), .int (zI (th)), .ref (a 2), .ref (a 3), .ref (a 4), .ref (a 5), .ref (a 6), .ref (a 7), .ref (a 8), .long (zL (hs))])), (a 0, .inl (cI, 612, .inl (zA f)))]) := by
  refine zWz_of (cc := cX7_isBarred) (maxL := 2) (ret := (some .boolean)) (by decide) rfl (Nat.le_of_ble_eq_true rfl) rfl (fun r _ h => (zB_01 (f (249 + x) = 1)).elim (fun q => Or.inl (by rw [h, q])) (fun q => Or.inr (by rw [h, q]))) ?_
  intro p e s m args below meth c Q A ls hx hb hml hts hown hK hP hD hS hl hret
  have in7 : ∀ w ∈ wsX70, w ∈ wsX7_isBarred := by decide +kernel
  have f7 := hts (.fieldLink RX7 7 "SignalSpacingModel" "now" "[I") (by decide +kernel)
  have hl : lv_has ls 2 [(0, .ref m0), (1, .int (zI (x)))] := hl
  have hP : va_P D vwCl [(m0, .inr (7, [.ref (a 0), .ref (a 1), .int (zI (ke)), .int (zI (th)), .ref (a 2), .ref (a 3), .ref (a 4), .ref (a 5), .ref (a 6), .ref (a 7), .ref (a 8), .long (zL (hs))])), (a 0, .inl (cI, 612, .inl (zA f)))] s.heap := hP
  obtain ⟨o0, o1, o2, o3, o4, o5, o7, o8, olim, ogrd, obar, oneed, opost⟩ := id ok
  have hfr := okF_r ok
  refine lv_aload_n hx hb dX7_isBarred_0 rfl (lv_at hl 0 rfl) ?_
  refine lv_aload_n hx hb dX7_isBarred_1 rfl (lv_at hl 0 rfl) ?_
  refine lv_iload_n hx hb dX7_isBarred_2 rfl (lv_at hl 1 rfl) ?_
  refine y_rV (v := zB (0 ≤ x ∧ x ≤ f 0)) (As := [.int (zI (x))]) (rest := [.ref m0]) hx hb hml hown hts hl.1 ⟨Nat.zero_le _, Nat.zero_le _⟩ (kX7_isPosition l D cI cJ cS m0 a ke th hs f x o0 (by omega)) (cwV 1 hts gX7_isBarred_X7_isPosition rfl rfl rfl jX7_isPosition ⟨Nat.le_of_ble_eq_true rfl, Nat.le_of_ble_eq_true rfl⟩) hK [true, true] hP hD rfl 7 0 rfl rfl rfl rfl rfl (Nat.le_of_ble_eq_true rfl) dX7_isBarred_3 ?_
  refine z_top (1) (zB_t (by omega)) ?_
  refine y_wVi (As := [.int (zI (1))]) (rest := []) (fun (u6 : Unit) => [(m0, .inr (7, [.ref (a 0), .ref (a 1), .int (zI (ke)), .int (zI (0)), .ref (a 2), .ref (a 3), .ref (a 4), .ref (a 5), .ref (a 6), .ref (a 7), .ref (a 8), .long (zL (hs))])), (a 0, .inl (cI, 612, .inl (zA f)))]) hx hb hml hown hts hl.1 ⟨Nat.zero_le _, Nat.zero_le _⟩ (kX7_refuses_1 l D cI cJ cS m0 a ke th hs f) (cwV 1 hts gX7_isBarred_X7_refuses rfl rfl rfl jX7_refuses ⟨Nat.le_of_ble_eq_true rfl, Nat.le_of_ble_eq_true rfl⟩) hK [true] hP hD hS rfl (fun _ => rfl) (fun _ => rfl) 7 0 rfl rfl rfl rfl rfl (Nat.le_of_ble_eq_true rfl) dX7_isBarred_6 (fun r6 u6 H locs hu6 hP hS => ?_)
  subst hu6
  refine z_if_ne (tgt := 30) hx hb dX7_isBarred_9 (by decide) (by omega) (fun c9 => ?_) (fun c9 => ?_)
  · exfalso; omega
  · refine lv_aload_n hx hb dX7_isBarred_12 rfl (lv_at hl 0 rfl) ?_
    refine va_get (D := D) (ci := 7) (v := .ref (a 0)) (C := RX7) (T := TX7) (N := 12) hx hb hts in7 hown hK hP 0 rfl rfl 0 (by decide) f7 (fun _ h9 => h9) rfl dX7_isBarred_13 ?_
    refine z_sipush hx hb dX7_isBarred_16 (by decide +kernel) ?_
    refine lv_iload_n hx hb dX7_isBarred_19 rfl (lv_at hl 1 rfl) ?_
    refine z_iadd hx hb dX7_isBarred_20 ?_
    refine z_iald hx hb hK hP 1 0 rfl rfl (by omega) (Nat.lt_of_succ_le (Nat.le_of_ble_eq_true rfl)) dX7_isBarred_21 ?_
    refine z_iconst hx hb dX7_isBarred_22 ?_
    have hb9 := obar x (by omega) (by omega)
    refine z_icmp_ne (tgt := 30) hx hb dX7_isBarred_23 (by decide) (by omega) (by omega) (fun c23 => ?_) (fun c23 => ?_)
    · refine z_iconst hx hb dX7_isBarred_30 ?_
      exact hret () (by rw [zB_f (P := f (249 + x) = 1) (by omega)]) hP hS dX7_isBarred_31
    · refine z_iconst hx hb dX7_isBarred_26 ?_
      refine lv_goto (tgt := 31) hx hb dX7_isBarred_27 (by decide) ?_
      exact hret () (by rw [zB_t (P := f (249 + x) = 1) (by omega)]) hP hS dX7_isBarred_31
