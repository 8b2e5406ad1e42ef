/-! ===== SignalSpacingModel: profile and posts ===== -/
def IsP (f : Int → Int) (k x : Int) : Prop := 0 ≤ x ∧ x ≤ f 0 ∧ f (491 + x) = 1 ∧ rank f x = k
/-- where post k stands -/
noncomputable def pst (f : Int → Int) (k : Int) : Int := @Classical.epsilon Int ⟨0⟩ (IsP f k)
theorem isP_lt {f : Int → Int} (ok : OkF f) {k x y : Int} (h : IsP f k x) (h2 : IsP f k y) : ¬ x < y := fun q => by
  have o0 := ok.1
  have h3 := rank_lt ok h.1 q (by have := h2.2.1; omega) h.2.2.1
  have h4 := h.2.2.2
  have h5 := h2.2.2.2
  omega
theorem pst_of {f : Int → Int} (ok : OkF f) {k x : Int} (h : IsP f k x) : x = pst f k := by
  have h2 : IsP f k (pst f k) := Classical.epsilon_spec (p := IsP f k) ⟨x, h⟩
  have h3 := isP_lt ok h h2
  have h4 := isP_lt ok h2 h
  omega
theorem rep_pst {f ps : Int → Int} {n k : Int} (ok : OkF f) (r : Rep f ps n) (h1 : 0 ≤ k) (h2 : k < n) : ps k = pst f k := by
  obtain ⟨a, b, c, d⟩ := rep_k ok r h1 h2
  exact pst_of ok ⟨a, b, c, d⟩
def clP (f : Int → Int) : Int → Int := fun j => if 491 ≤ j ∧ j < 612 then 0 else f j

abbrev rmX7_lost : Room := { frames := 0, cells := 0, slots := 0, locals := 0 }
theorem jX7_lost : yX7_lost.cls = RX7 ∧ yX7_lost.cls ≠ "java/lang/invoke/MethodHandle" ∧ yX7_lost.cls ≠ "java/lang/invoke/VarHandle" ∧ (parseMethodDescriptor yX7_lost.desc).map (fun d => d.parameters.length) = some 1 := by decide +kernel
set_option maxHeartbeats 4000000 in
set_option maxRecDepth 100000 in
theorem kX7_lost (l : Launch) (D : va_G) (cI cJ cS : ClassId) (m0 : Nat) (a : Nat → Nat) (ke th hs : Int) (f : Int → Int) (x : Int) (ok : OkF f) (h1 : 0 ≤ x ∧ x < 2147483648) : Met l yX7_lost wsX7_lost rmX7_lost (zPc D (zT cI cJ cS) [.ref m0, .int (zI (x))] [(m0, .inr (7, [.ref (a 0), .ref (a 1), .int (zI (ke)), .int (zI (th)), .ref (a 2), .ref (a 3), .ref (a 4), .ref (a 5), .ref (a 6), .ref (a 7), .ref (a 8), .long (zL (hs))])), (a 0, .inl (cI, 612, .inl (zA f)))]) (vp_Sl (fun r => r = zL (zlost f x))) 0 0 (fun _ => False) := by
  refine zRl_of (cc := cX7_lost) (maxL := 3) (ret := (some .long)) (zlost f x) (by decide) rfl (Nat.le_of_ble_eq_true rfl) rfl ?_
  intro p e s m args below meth c Q ls hx hb hml hts hown hK hP hD hl hret
  have in7 : ∀ w ∈ wsX70, w ∈ wsX7_lost := by decide +kernel
  have f7 := hts (.fieldLink RX7 7 "SignalSpacingModel" "now" "[I") (by decide +kernel)
  have c70 := hts (.constantLong RX7 70 (162)) (by decide +kernel)
  have hl : lv_has ls 3 [(0, .ref m0), (1, .int (zI (x)))] := hl
  have hP : va_P D vwCl [(m0, .inr (7, [.ref (a 0), .ref (a 1), .int (zI (ke)), .int (zI (th)), .ref (a 2), .ref (a 3), .ref (a 4), .ref (a 5), .ref (a 6), .ref (a 7), .ref (a 8), .long (zL (hs))])), (a 0, .inl (cI, 612, .inl (zA f)))] s.heap := hP
  obtain ⟨o0, o1, o2, o3, o4, o5, o7, o8, olim, ogrd, obar, oneed, opost⟩ := id ok
  refine lv_iload_n hx hb dX7_lost_0 rfl (lv_at hl 1 rfl) ?_
  refine lv_aload_n hx hb dX7_lost_1 rfl (lv_at hl 0 rfl) ?_
  refine va_get (D := D) (ci := 7) (v := .ref (a 0)) (C := RX7) (T := TX7) (N := 12) hx hb hts in7 hown hK hP 0 rfl rfl 0 (by decide) f7 (fun _ h9 => h9) rfl dX7_lost_2 ?_
  refine z_iconst hx hb dX7_lost_5 ?_
  refine z_iald hx hb hK hP 1 0 rfl rfl (by omega) (Nat.lt_of_succ_le (Nat.le_of_ble_eq_true rfl)) dX7_lost_6 ?_
  refine z_icmp_ge (tgt := 14) hx hb dX7_lost_7 (by decide) (by omega) (by omega) (fun c7 => ?_) (fun c7 => ?_)
  · refine lv_aload_n hx hb dX7_lost_14 rfl (lv_at hl 0 rfl) ?_
    refine va_get (D := D) (ci := 7) (v := .ref (a 0)) (C := RX7) (T := TX7) (N := 12) hx hb hts in7 hown hK hP 0 rfl rfl 0 (by decide) f7 (fun _ h9 => h9) rfl dX7_lost_15 ?_
    refine z_iconst hx hb dX7_lost_18 ?_
    refine z_iald hx hb hK hP 1 0 rfl rfl (by omega) (Nat.lt_of_succ_le (Nat.le_of_ble_eq_true rfl)) dX7_lost_19 ?_
    refine z_iconst hx hb dX7_lost_20 ?_
    refine z_isub hx hb dX7_lost_21 ?_
    refine lv_istore_n (lv' := [(2, .int (zI ((f 0) - 1))), (0, .ref m0), (1, .int (zI (x)))]) hx hb dX7_lost_22 rfl hl (by decide) rfl (fun ls hl => ?_)
    refine z_ldc2 hx hb (162) hown c70 (by decide +kernel) dX7_lost_23 ?_
    refine z_bipush hx hb dX7_lost_26 (by decide +kernel) ?_
    refine lv_aload_n hx hb dX7_lost_28 rfl (lv_at hl 1 rfl) ?_
    refine va_get (D := D) (ci := 7) (v := .ref (a 0)) (C := RX7) (T := TX7) (N := 12) hx hb hts in7 hown hK hP 0 rfl rfl 0 (by decide) f7 (fun _ h9 => h9) rfl dX7_lost_29 ?_
    refine z_iconst hx hb dX7_lost_32 ?_
    refine z_iald hx hb hK hP 1 0 rfl rfl (by omega) (Nat.lt_of_succ_le (Nat.le_of_ble_eq_true rfl)) dX7_lost_33 ?_
    refine z_imul hx hb dX7_lost_34 ?_
    refine z_bipush hx hb dX7_lost_35 (by decide +kernel) ?_
    refine lv_aload_n hx hb dX7_lost_37 rfl (lv_at hl 1 rfl) ?_
    refine va_get (D := D) (ci := 7) (v := .ref (a 0)) (C := RX7) (T := TX7) (N := 12) hx hb hts in7 hown hK hP 0 rfl rfl 0 (by decide) f7 (fun _ h9 => h9) rfl dX7_lost_38 ?_
    refine z_sipush hx hb dX7_lost_41 (by decide +kernel) ?_
    refine lv_iload_n hx hb dX7_lost_44 rfl (lv_at hl 0 rfl) ?_
    refine z_iadd hx hb dX7_lost_45 ?_
    refine z_iald hx hb hK hP 1 0 rfl rfl (by omega) (Nat.lt_of_succ_le (Nat.le_of_ble_eq_true rfl)) dX7_lost_46 ?_
    refine z_imul hx hb dX7_lost_47 ?_
    refine z_iadd hx hb dX7_lost_48 ?_
    have hg9 := ogrd ((f 0) - 1) (by omega) (by omega)
    refine z_i2l hx hb dX7_lost_49 (by omega) ?_
    refine z_lmul hx hb dX7_lost_50 ?_
    exact z_topL (zlost f x) (by unfold zlost; rw [if_neg (by omega)]) (hret dX7_lost_51)
  · refine lv_iload_n hx hb dX7_lost_10 rfl (lv_at hl 1 rfl) ?_
    refine lv_goto (tgt := 22) hx hb dX7_lost_11 (by decide) ?_
    refine lv_istore_n (lv' := [(2, .int (zI (x))), (0, .ref m0), (1, .int (zI (x)))]) hx hb dX7_lost_22 rfl hl (by decide) rfl (fun ls hl => ?_)
    refine z_ldc2 hx hb (162) hown c70 (by decide +kernel) dX7_lost_23 ?_
    refine z_bipush hx hb dX7_lost_26 (by decide +kernel) ?_
    refine lv_aload_n hx hb dX7_lost_28 rfl (lv_at hl 1 rfl) ?_
    refine va_get (D := D) (ci := 7) (v := .ref (a 0)) (C := RX7) (T := TX7) (N := 12) hx hb hts in7 hown hK hP 0 rfl rfl 0 (by decide) f7 (fun _ h9 => h9) rfl dX7_lost_29 ?_
    refine z_iconst hx hb dX7_lost_32 ?_
    refine z_iald hx hb hK hP 1 0 rfl rfl (by omega) (Nat.lt_of_succ_le (Nat.le_of_ble_eq_true rfl)) dX7_lost_33 ?_
    refine z_imul hx hb dX7_lost_34 ?_
    refine z_bipush hx hb dX7_lost_35 (by decide +kernel) ?_
    refine lv_aload_n hx hb dX7_lost_37 rfl (lv_at hl 1 rfl) ?_
    refine va_get (D := D) (ci := 7) (v := .ref (a 0)) (C := RX7) (T := TX7) (N := 12) hx hb hts in7 hown hK hP 0 rfl rfl 0 (by decide) f7 (fun _ h9 => h9) rfl dX7_lost_38 ?_
    refine z_sipush hx hb dX7_lost_41 (by decide +kernel) ?_
    refine lv_iload_n hx hb dX7_lost_44 rfl (lv_at hl 0 rfl) ?_
    refine z_iadd hx hb dX7_lost_45 ?_
    refine z_iald hx hb hK hP 1 0 rfl rfl (by omega) (Nat.lt_of_succ_le (Nat.le_of_ble_eq_true rfl)) dX7_lost_46 ?_
    refine z_imul hx hb dX7_lost_47 ?_
    refine z_iadd hx hb dX7_lost_48 ?_
    have hg9 := ogrd (x) (by omega) (by omega)
    refine z_i2l hx hb dX7_lost_49 (by omega) ?_
    refine z_lmul hx hb dX7_lost_50 ?_
    exact z_topL (zlost f x) (by unfold zlost; rw [if_pos (by omega)]) (hret dX7_lost_51)

abbrev rmX7_most : Room := { frames := 0, cells := 0, slots := 0, locals := 0 }
theorem jX7_most : yX7_most.cls = RX7 ∧ yX7_most.cls ≠ "java/lang/invoke/MethodHandle" ∧ yX7_most.cls ≠ "java/lang/invoke/VarHandle" ∧ (parseMethodDescriptor yX7_most.desc).map (fun d => d.parameters.length) = some 1 := by decide +kernel
set_option maxHeartbeats 4000000 in
set_option maxRecDepth 100000 in
theorem kX7_most (l : Launch) (D : va_G) (cI cJ cS : ClassId) (m0 : Nat) (a : Nat → Nat) (ke th hs : Int) (f : Int → Int) (x : Int) (ok : OkF f) (h1 : 0 ≤ x ∧ x < 120) : Met l yX7_most wsX7_most rmX7_most (zPc D (zT cI cJ cS) [.ref m0, .int (zI (x))] [(m0, .inr (7, [.ref (a 0), .ref (a 1), .int (zI (ke)), .int (zI (th)), .ref (a 2), .ref (a 3), .ref (a 4), .ref (a 5), .ref (a 6), .ref (a 7), .ref (a 8), .long (zL (hs))])), (a 0, .inl (cI, 612, .inl (zA f)))]) (vp_Sl (fun r => r = zL (zmost f x))) 0 0 (fun _ => False) := by
  refine zRl_of (cc := cX7_most) (maxL := 2) (ret := (some .long)) (zmost f x) (by decide) rfl (Nat.le_of_ble_eq_true rfl) rfl ?_
  intro p e s m args below meth c Q ls hx hb hml hts hown hK hP hD hl hret
  have in7 : ∀ w ∈ wsX70, w ∈ wsX7_most := by decide +kernel
  have f7 := hts (.fieldLink RX7 7 "SignalSpacingModel" "now" "[I") (by decide +kernel)
  have c72 := hts (.constantLong RX7 72 (125)) (by decide +kernel)
  have hl : lv_has ls 2 [(0, .ref m0), (1, .int (zI (x)))] := hl
  have hP : va_P D vwCl [(m0, .inr (7, [.ref (a 0), .ref (a 1), .int (zI (ke)), .int (zI (th)), .ref (a 2), .ref (a 3), .ref (a 4), .ref (a 5), .ref (a 6), .ref (a 7), .ref (a 8), .long (zL (hs))])), (a 0, .inl (cI, 612, .inl (zA f)))] s.heap := hP
  obtain ⟨o0, o1, o2, o3, o4, o5, o7, o8, olim, ogrd, obar, oneed, opost⟩ := id ok
  have hl9 := olim x h1.1 h1.2
  refine z_ldc2 hx hb (125) hown c72 (by decide +kernel) dX7_most_0 ?_
  refine lv_aload_n hx hb dX7_most_3 rfl (lv_at hl 0 rfl) ?_
  refine va_get (D := D) (ci := 7) (v := .ref (a 0)) (C := RX7) (T := TX7) (N := 12) hx hb hts in7 hown hK hP 0 rfl rfl 0 (by decide) f7 (fun _ h9 => h9) rfl dX7_most_4 ?_
  refine z_bipush hx hb dX7_most_7 (by decide +kernel) ?_
  refine lv_iload_n hx hb dX7_most_9 rfl (lv_at hl 1 rfl) ?_
  refine z_iadd hx hb dX7_most_10 ?_
  refine z_iald hx hb hK hP 1 0 rfl rfl (by omega) (Nat.lt_of_succ_le (Nat.le_of_ble_eq_true rfl)) dX7_most_11 ?_
  refine z_i2l hx hb dX7_most_12 (by omega) ?_
  refine z_lmul hx hb dX7_most_13 ?_
  refine lv_aload_n hx hb dX7_most_14 rfl (lv_at hl 0 rfl) ?_
  refine va_get (D := D) (ci := 7) (v := .ref (a 0)) (C := RX7) (T := TX7) (N := 12) hx hb hts in7 hown hK hP 0 rfl rfl 0 (by decide) f7 (fun _ h9 => h9) rfl dX7_most_15 ?_
  refine z_bipush hx hb dX7_most_18 (by decide +kernel) ?_
  refine lv_iload_n hx hb dX7_most_20 rfl (lv_at hl 1 rfl) ?_
  refine z_iadd hx hb dX7_most_21 ?_
  refine z_iald hx hb hK hP 1 0 rfl rfl (by omega) (Nat.lt_of_succ_le (Nat.le_of_ble_eq_true rfl)) dX7_most_22 ?_
  refine z_i2l hx hb dX7_most_23 (by omega) ?_
  refine z_lmul hx hb dX7_most_24 ?_
  exact z_topL (zmost f x) rfl (hret dX7_most_25)

abbrev rmX7_speedFor : Room := { frames := 0, cells := 0, slots := 0, locals := 0 }
theorem jX7_speedFor : yX7_speedFor.cls = RX7 ∧ yX7_speedFor.cls ≠ "java/lang/invoke/MethodHandle" ∧ yX7_speedFor.cls ≠ "java/lang/invoke/VarHandle" ∧ (parseMethodDescriptor yX7_speedFor.desc).map (fun d => d.parameters.length) = some 1 := by decide +kernel
set_option maxHeartbeats 4000000 in
set_option maxRecDepth 100000 in
theorem kX7_speedFor (l : Launch) (D : va_G) (cI cJ cS : ClassId) (en : Int) (h1 : 0 ≤ en ∧ en ≤ 3200000) : Met l yX7_speedFor wsX7_speedFor rmX7_speedFor (zPc D (zT cI cJ cS) [.long (zL (en))] []) (vp_Si (fun r => r = zI (spd en))) 0 0 (fun _ => False) := by
  refine zRi_of (cc := cX7_speedFor) (maxL := 5) (ret := (some .int)) (spd en) (by decide) rfl (Nat.le_of_ble_eq_true rfl) rfl ?_
  intro p e s m args below meth c Q ls hx hb hml hts hown hK hP hD hl hret
  have c72 := hts (.constantLong RX7 72 (125)) (by decide +kernel)
  have hl : lv_has ls 5 [(0, .long (zL (en)))] := hl
  have hP : va_P D vwCl [] s.heap := hP
  refine z_iconst hx hb dX7_speedFor_0 ?_
  refine lv_istore_n (lv' := [(2, .int (zI (0))), (0, .long (zL (en)))]) hx hb dX7_speedFor_1 rfl hl (by decide) rfl (fun ls hl => ?_)
  refine z_sipush hx hb dX7_speedFor_2 (by decide +kernel) ?_
  refine lv_istore_n (lv' := [(3, .int (zI (200))), (2, .int (zI (0))), (0, .long (zL (en)))]) hx hb dX7_speedFor_5 rfl hl (by decide) rfl (fun ls hl => ?_)
  have L6 : ∀ (fuel : Nat), ∀ (lo : Int) (hi : Int), ∀ (h2 : 0 ≤ lo ∧ lo ≤ hi ∧ hi ≤ 200), ∀ (h3 : 125 * lo * lo ≤ en), ∀ (h4 : en < 125 * (hi + 1) * (hi + 1)), (hi - lo).toNat < fuel → ∀ (ls : Array Slot), lv_has ls 5 [(0, .long (zL (en))), (2, .int (zI (lo))), (3, .int (zI (hi)))] → W p l e rmX7_speedFor s m args below meth c s.heap [] 0 0 Q (F0 m 6 ls []) := by
    intro fuel
    induction fuel with
    | zero =>
      intro lo hi h2 h3 h4 hm
      exact absurd hm (Nat.not_lt_zero _)
    | succ fuel ih6 =>
      intro lo hi h2 h3 h4 hm ls hl
      refine lv_iload_n hx hb dX7_speedFor_6 rfl (lv_at hl 1 rfl) ?_
      refine lv_iload_n hx hb dX7_speedFor_7 rfl (lv_at hl 2 rfl) ?_
      refine z_icmp_ge (tgt := 50) hx hb dX7_speedFor_8 (by decide) (by omega) (by omega) (fun c8 => ?_) (fun c8 => ?_)
      · refine lv_iload_n hx hb dX7_speedFor_50 rfl (lv_at hl 1 rfl) ?_
        exact z_top (spd en) (spd_of ⟨h2.1, h3, by rw [show lo = hi by omega]; exact h4⟩) (hret dX7_speedFor_51)
      · refine lv_iload_n hx hb dX7_speedFor_11 rfl (lv_at hl 1 rfl) ?_
        refine lv_iload_n hx hb dX7_speedFor_12 rfl (lv_at hl 2 rfl) ?_
        refine z_iadd hx hb dX7_speedFor_13 ?_
        refine z_iconst hx hb dX7_speedFor_14 ?_
        refine z_iadd hx hb dX7_speedFor_15 ?_
        refine z_iconst hx hb dX7_speedFor_16 ?_
        refine z_idiv hx hb dX7_speedFor_17 (by omega) (by omega) ?_
        refine lv_istore (lv' := [(4, .int (zI (((lo + hi) + 1) / 2))), (0, .long (zL (en))), (2, .int (zI (lo))), (3, .int (zI (hi)))]) hx hb dX7_speedFor_18 hl (by decide) rfl (fun ls hl => ?_)
        have hm9 : lo < ((lo + hi + 1) / 2) ∧ ((lo + hi + 1) / 2) ≤ hi := by omega
        have hs1 := z_sqm (a := ((lo + hi + 1) / 2)) (b := 200) (by omega) (by omega)
        have hs2 := z_sq0 (a := ((lo + hi + 1) / 2)) (by omega)
        refine z_ldc2 hx hb (125) hown c72 (by decide +kernel) dX7_speedFor_20 ?_
        refine lv_iload hx hb dX7_speedFor_23 (lv_at hl 0 rfl) ?_
        refine z_i2l hx hb dX7_speedFor_25 (by omega) ?_
        refine z_lmul hx hb dX7_speedFor_26 ?_
        refine lv_iload hx hb dX7_speedFor_27 (lv_at hl 0 rfl) ?_
        refine z_i2l hx hb dX7_speedFor_29 (by omega) ?_
        refine z_lmul hx hb dX7_speedFor_30 ?_
        refine lv_lload_n hx hb dX7_speedFor_31 rfl (lv_at hl 1 rfl) ?_
        refine z_lcmp hx hb dX7_speedFor_32 (by omega) (by omega) ?_
        refine z_if_gt (tgt := 42) hx hb dX7_speedFor_33 (by decide) (by have hz := zcmp_cases ((125 * (((lo + hi) + 1) / 2)) * (((lo + hi) + 1) / 2)) (en); omega) (fun c33 => ?_) (fun c33 => ?_)
        · have hz33 := zcmp_cases ((125 * (((lo + hi) + 1) / 2)) * (((lo + hi) + 1) / 2)) (en)
          refine lv_iload hx hb dX7_speedFor_42 (lv_at hl 0 rfl) ?_
          refine z_iconst hx hb dX7_speedFor_44 ?_
          refine z_isub hx hb dX7_speedFor_45 ?_
          refine lv_istore_n (lv' := [(3, .int (zI ((((lo + hi) + 1) / 2) - 1))), (4, .int (zI (((lo + hi) + 1) / 2))), (0, .long (zL (en))), (2, .int (zI (lo)))]) hx hb dX7_speedFor_46 rfl hl (by decide) rfl (fun ls hl => ?_)
          refine lv_goto (tgt := 6) hx hb dX7_speedFor_47 (by decide) ?_
          exact ih6 lo ((((lo + hi) + 1) / 2) - 1) (by omega) h3 (by rw [show ((lo + hi + 1) / 2) - 1 + 1 = ((lo + hi + 1) / 2) by omega]; omega) (by omega) ls (lv_sub hl [2, 3, 0] rfl)
        · have hz33 := zcmp_cases ((125 * (((lo + hi) + 1) / 2)) * (((lo + hi) + 1) / 2)) (en)
          refine lv_iload hx hb dX7_speedFor_36 (lv_at hl 0 rfl) ?_
          refine lv_istore_n (lv' := [(2, .int (zI (((lo + hi) + 1) / 2))), (4, .int (zI (((lo + hi) + 1) / 2))), (0, .long (zL (en))), (3, .int (zI (hi)))]) hx hb dX7_speedFor_38 rfl hl (by decide) rfl (fun ls hl => ?_)
          refine lv_goto (tgt := 47) hx hb dX7_speedFor_39 (by decide) ?_
          refine lv_goto (tgt := 6) hx hb dX7_speedFor_47 (by decide) ?_
          exact ih6 (((lo + hi) + 1) / 2) hi (by omega) (by omega) h4 (by omega) ls (lv_sub hl [2, 0, 3] rfl)
  exact L6 _ 0 200 (by omega) (by omega) (by omega) (Nat.lt_succ_self _) ls (lv_sub hl [2, 1, 0] rfl)

abbrev rmX7_distanceAt : Room := { frames := 1, cells := 0, slots := 0, locals := 22 }
theorem jX7_distanceAt : yX7_distanceAt.cls = RX7 ∧ yX7_distanceAt.cls ≠ "java/lang/invoke/MethodHandle" ∧ yX7_distanceAt.cls ≠ "java/lang/invoke/VarHandle" ∧ (parseMethodDescriptor yX7_distanceAt.desc).map (fun d => d.parameters.length) = some 1 := by decide +kernel
set_option maxHeartbeats 4000000 in
set_option maxRecDepth 100000 in
theorem kX7_distanceAt (l : Launch) (D : va_G) (cI cJ cS : ClassId) (m0 : Nat) (a : Nat → Nat) (ke th hs : Int) (f : Int → Int) (ge gv : Int → Int) (x : Int) (ok : OkF f) (h1 : 0 ≤ x ∧ x ≤ f 0) (hE : ge x = enE f x) (hV : gv x = spV f x) : Met l yX7_distanceAt wsX7_distanceAt rmX7_distanceAt (zPc D (zT cI cJ cS) [.ref m0, .int (zI (x))] [(m0, .inr (7, [.ref (a 0), .ref (a 1), .int (zI (ke)), .int (zI (th)), .ref (a 2), .ref (a 3), .ref (a 4), .ref (a 5), .ref (a 6), .ref (a 7), .ref (a 8), .long (zL (hs))])), (a 0, .inl (cI, 612, .inl (zA f))), (a 2, .inl (cJ, 121, .inr (.inl (zAL ge)))), (a 3, .inl (cI, 121, .inl (zA gv)))]) (vp_Si (fun r => r = zI (brD f x))) 0 0 (fun _ => False) := by
  refine zRi_of (cc := cX7_distanceAt) (maxL := 6) (ret := (some .int)) (brD f x) (by decide) rfl (Nat.le_of_ble_eq_true rfl) rfl ?_
  intro p e s m args below meth c Q ls hx hb hml hts hown hK hP hD hl hret
  have in7 : ∀ w ∈ wsX70, w ∈ wsX7_distanceAt := by decide +kernel
  have f7 := hts (.fieldLink RX7 7 "SignalSpacingModel" "now" "[I") (by decide +kernel)
  have f16 := hts (.fieldLink RX7 16 "SignalSpacingModel" "energies" "[J") (by decide +kernel)
  have f20 := hts (.fieldLink RX7 20 "SignalSpacingModel" "speeds" "[I") (by decide +kernel)
  have hl : lv_has ls 6 [(0, .ref m0), (1, .int (zI (x)))] := hl
  have hP : va_P D vwCl [(m0, .inr (7, [.ref (a 0), .ref (a 1), .int (zI (ke)), .int (zI (th)), .ref (a 2), .ref (a 3), .ref (a 4), .ref (a 5), .ref (a 6), .ref (a 7), .ref (a 8), .long (zL (hs))])), (a 0, .inl (cI, 612, .inl (zA f))), (a 2, .inl (cJ, 121, .inr (.inl (zAL ge)))), (a 3, .inl (cI, 121, .inl (zA gv)))] s.heap := hP
  obtain ⟨o0, o1, o2, o3, o4, o5, o7, o8, olim, ogrd, obar, oneed, opost⟩ := id ok
  have hb1 := reaC_b ok h1.1 h1.2
  have hb2 := reaM_b ok h1.1 h1.2
  have hb3 := enE_b ok x h1.1 h1.2
  refine lv_aload_n hx hb dX7_distanceAt_0 rfl (lv_at hl 0 rfl) ?_
  refine va_get (D := D) (ci := 7) (v := .ref (a 3)) (C := RX7) (T := TX7) (N := 12) hx hb hts in7 hown hK hP 0 rfl rfl 5 (by decide) f20 (fun _ h9 => h9) rfl dX7_distanceAt_1 ?_
  refine lv_iload_n hx hb dX7_distanceAt_4 rfl (lv_at hl 1 rfl) ?_
  refine z_iald hx hb hK hP 3 0 rfl rfl (by omega) (Nat.lt_of_succ_le (Nat.le_of_ble_eq_true rfl)) dX7_distanceAt_5 ?_
  refine z_top (spV f x) hV ?_
  refine lv_aload_n hx hb dX7_distanceAt_6 rfl (lv_at hl 0 rfl) ?_
  refine va_get (D := D) (ci := 7) (v := .ref (a 0)) (C := RX7) (T := TX7) (N := 12) hx hb hts in7 hown hK hP 0 rfl rfl 0 (by decide) f7 (fun _ h9 => h9) rfl dX7_distanceAt_7 ?_
  refine z_iconst hx hb dX7_distanceAt_10 ?_
  refine z_iald hx hb hK hP 1 0 rfl rfl (by omega) (Nat.lt_of_succ_le (Nat.le_of_ble_eq_true rfl)) dX7_distanceAt_11 ?_
  refine z_imul hx hb dX7_distanceAt_12 ?_
  refine z_sipush hx hb dX7_distanceAt_13 (by decide +kernel) ?_
  refine z_iadd hx hb dX7_distanceAt_16 ?_
  refine z_sipush hx hb dX7_distanceAt_17 (by decide +kernel) ?_
  refine z_idiv hx hb dX7_distanceAt_20 (by omega) (by omega) ?_
  refine z_top (reaC f x) (by unfold reaC rup; rw [show spV f x * f 2 + 1800 - 1 = spV f x * f 2 + 1799 by omega]) ?_
  refine lv_istore_n (lv' := [(2, .int (zI (reaC f x))), (0, .ref m0), (1, .int (zI (x)))]) hx hb dX7_distanceAt_21 rfl hl (by decide) rfl (fun ls hl => ?_)
  refine z_iconst hx hb dX7_distanceAt_22 ?_
  refine lv_istore_n (lv' := [(3, .int (zI (0))), (2, .int (zI (reaC f x))), (0, .ref m0), (1, .int (zI (x)))]) hx hb dX7_distanceAt_23 rfl hl (by decide) rfl (fun ls hl => ?_)
  refine lv_aload_n hx hb dX7_distanceAt_24 rfl (lv_at hl 2 rfl) ?_
  refine va_get (D := D) (ci := 7) (v := .ref (a 2)) (C := RX7) (T := TX7) (N := 12) hx hb hts in7 hown hK hP 0 rfl rfl 4 (by decide) f16 (fun _ h9 => h9) rfl dX7_distanceAt_25 ?_
  refine lv_iload_n hx hb dX7_distanceAt_28 rfl (lv_at hl 3 rfl) ?_
  refine z_lald hx hb hK hP 2 1 rfl rfl (by omega) (Nat.lt_of_succ_le (Nat.le_of_ble_eq_true rfl)) dX7_distanceAt_29 ?_
  refine z_topL (enE f x) hE ?_
  refine lv_lstore (lv' := [(4, .long (zL (enE f x))), (3, .int (zI (0))), (2, .int (zI (reaC f x))), (0, .ref m0), (1, .int (zI (x)))]) hx hb dX7_distanceAt_30 hl (by decide) rfl (fun ls hl => ?_)
  have L32 : ∀ (fuel : Nat), ∀ (nn : Int) (lf : Int), ∀ (h2 : 0 ≤ nn ∧ nn ≤ 199), ∀ (hlf : lf = enE f x - zcum f (x + reaC f x) nn), ∀ (hj : ∀ j : Int, 0 ≤ j → j < nn → zcum f (x + reaC f x) j < enE f x), (199 - nn).toNat < fuel → ∀ (ls : Array Slot), lv_has ls 6 [(0, .ref m0), (1, .int (zI (x))), (2, .int (zI (reaC f x))), (3, .int (zI (nn))), (4, .long (zL (lf)))] → W p l e rmX7_distanceAt s m args below meth c s.heap [] 0 0 Q (F0 m 32 ls []) := by
    intro fuel
    induction fuel with
    | zero =>
      intro nn lf h2 hlf hj hm
      exact absurd hm (Nat.not_lt_zero _)
    | succ fuel ih32 =>
      intro nn lf h2 hlf hj hm ls hl
      have hc9 := zcum_b ok (a := x + reaC f x) (by omega) nn h2.1 (by omega)
      refine lv_lload hx hb dX7_distanceAt_32 (lv_at hl 4 rfl) ?_
      refine z_lconst hx hb 0 dX7_distanceAt_34 (by decide +kernel) ?_
      refine z_lcmp hx hb dX7_distanceAt_35 (by omega) (by omega) ?_
      refine z_if_le (tgt := 59) hx hb dX7_distanceAt_36 (by decide) (by have hz := zcmp_cases (lf) (0); omega) (fun c36 => ?_) (fun c36 => ?_)
      · have hz36 := zcmp_cases (lf) (0)
        refine lv_iload_n hx hb dX7_distanceAt_59 rfl (lv_at hl 2 rfl) ?_
        refine lv_iload_n hx hb dX7_distanceAt_60 rfl (lv_at hl 3 rfl) ?_
        refine z_iadd hx hb dX7_distanceAt_61 ?_
        exact z_top (brD f x) (by unfold brD; rw [brk_of (f := f) (a := x + reaC f x) (e := enE f x) (v := nn) ⟨h2.1, by omega, hj⟩]) (hret dX7_distanceAt_62)
      · have hz36 := zcmp_cases (lf) (0)
        refine lv_lload hx hb dX7_distanceAt_39 (lv_at hl 4 rfl) ?_
        refine lv_aload_n hx hb dX7_distanceAt_41 rfl (lv_at hl 0 rfl) ?_
        refine lv_iload_n hx hb dX7_distanceAt_42 rfl (lv_at hl 1 rfl) ?_
        refine lv_iload_n hx hb dX7_distanceAt_43 rfl (lv_at hl 2 rfl) ?_
        refine z_iadd hx hb dX7_distanceAt_44 ?_
        refine lv_iload_n hx hb dX7_distanceAt_45 rfl (lv_at hl 3 rfl) ?_
        refine z_iadd hx hb dX7_distanceAt_46 ?_
        refine y_rVL (v := zlost f ((x + (reaC f x)) + nn)) (As := [.int (zI ((x + (reaC f x)) + nn))]) (rest := [.long (zL (lf))]) hx hb hml hown hts hl.1 ⟨Nat.zero_le _, Nat.zero_le _⟩ (kX7_lost l D cI cJ cS m0 a ke th hs f ((x + (reaC f x)) + nn) ok (by omega)) (cwV 1 hts gX7_distanceAt_X7_lost rfl rfl rfl jX7_lost ⟨Nat.le_of_ble_eq_true rfl, Nat.le_of_ble_eq_true rfl⟩) hK [true, true] hP hD rfl 7 0 rfl rfl rfl rfl rfl (Nat.le_of_ble_eq_true rfl) dX7_distanceAt_47 ?_
        refine z_lsub hx hb dX7_distanceAt_50 ?_
        refine lv_lstore (lv' := [(4, .long (zL (lf - (zlost f ((x + (reaC f x)) + nn))))), (0, .ref m0), (1, .int (zI (x))), (2, .int (zI (reaC f x))), (3, .int (zI (nn)))]) hx hb dX7_distanceAt_51 hl (by decide) rfl (fun ls hl => ?_)
        refine z_iinc (lv' := [(3, .int (zI (nn + 1))), (4, .long (zL (lf - (zlost f ((x + (reaC f x)) + nn))))), (0, .ref m0), (1, .int (zI (x))), (2, .int (zI (reaC f x)))]) hx hb 4 (nn + 1) dX7_distanceAt_53 hl rfl (by omega) (by decide) rfl (fun ls hl => ?_)
        refine lv_goto (tgt := 32) hx hb dX7_distanceAt_56 (by decide) ?_
        exact ih32 (nn + 1) (lf - (zlost f ((x + (reaC f x)) + nn))) (by omega) (by rw [zcum_s h2.1, hlf]; omega) (fun j a b => if hj9 : j = nn then (by rw [hj9]; omega) else hj j a (by omega)) (by omega) ls (lv_sub hl [2, 3, 4, 0, 1] rfl)
  exact L32 _ 0 (enE f x) (by omega) (by rw [show zcum f (x + reaC f x) 0 = 0 from rfl]; omega) (fun j a b => by omega) (Nat.lt_succ_self _) ls (lv_sub hl [3, 4, 2, 1, 0] rfl)

abbrev rmX7_lays : Room := { frames := 2, cells := 0, slots := 0, locals := 47 }
theorem jX7_lays : yX7_lays.cls = RX7 ∧ yX7_lays.cls ≠ "java/lang/invoke/MethodHandle" ∧ yX7_lays.cls ≠ "java/lang/invoke/VarHandle" ∧ (parseMethodDescriptor yX7_lays.desc).map (fun d => d.parameters.length) = some 0 := by decide +kernel
set_option maxHeartbeats 4000000 in
set_option maxRecDepth 100000 in
theorem kX7_lays (l : Launch) (D : va_G) (cI cJ cS : ClassId) (m0 : Nat) (a : Nat → Nat) (ke th hs : Int) (f : Int → Int) (ge gv gd gt : Int → Int) (ok : OkF f) : Met l yX7_lays wsX7_lays rmX7_lays (zPc D (zT cI cJ cS) [.ref m0] [(m0, .inr (7, [.ref (a 0), .ref (a 1), .int (zI (ke)), .int (zI (th)), .ref (a 2), .ref (a 3), .ref (a 4), .ref (a 5), .ref (a 6), .ref (a 7), .ref (a 8), .long (zL (hs))])), (a 0, .inl (cI, 612, .inl (zA f))), (a 2, .inl (cJ, 121, .inr (.inl (zAL ge)))), (a 3, .inl (cI, 121, .inl (zA gv))), (a 4, .inl (cI, 121, .inl (zA gd))), (a 5, .inl (cI, 121, .inl (zA gt)))]) (va_Qv (fun u => PrOk f (u 0) (u 1) (u 2) (u 3)) (fun (u : Nat → Int → Int) t => va_P D vwCl [(m0, .inr (7, [.ref (a 0), .ref (a 1), .int (zI (ke)), .int (zI (th)), .ref (a 2), .ref (a 3), .ref (a 4), .ref (a 5), .ref (a 6), .ref (a 7), .ref (a 8), .long (zL (hs))])), (a 0, .inl (cI, 612, .inl (zA f))), (a 2, .inl (cJ, 121, .inr (.inl (zAL (u 0))))), (a 3, .inl (cI, 121, .inl (zA (u 1)))), (a 4, .inl (cI, 121, .inl (zA (u 2)))), (a 5, .inl (cI, 121, .inl (zA (u 3))))] t.heap) (zAd [(m0, .inr (7, [.ref (a 0), .ref (a 1), .int (zI (ke)), .int (zI (th)), .ref (a 2), .ref (a 3), .ref (a 4), .ref (a 5), .ref (a 6), .ref (a 7), .ref (a 8), .long (zL (hs))])), (a 0, .inl (cI, 612, .inl (zA f))), (a 2, .inl (cJ, 121, .inr (.inl (zAL ge)))), (a 3, .inl (cI, 121, .inl (zA gv))), (a 4, .inl (cI, 121, .inl (zA gd))), (a 5, .inl (cI, 121, .inl (zA gt)))])) 0 0 (zAd [(m0, .inr (7, [.ref (a 0), .ref (a 1), .int (zI (ke)), .int (zI (th)), .ref (a 2), .ref (a 3), .ref (a 4), .ref (a 5), .ref (a 6), .ref (a 7), .ref (a 8), .long (zL (hs))])), (a 0, .inl (cI, 612, .inl (zA f))), (a 2, .inl (cJ, 121, .inr (.inl (zAL ge)))), (a 3, .inl (cI, 121, .inl (zA gv))), (a 4, .inl (cI, 121, .inl (zA gd))), (a 5, .inl (cI, 121, .inl (zA gt)))]) := by
  refine zWv_of (cc := cX7_lays) (maxL := 5) (ret := none) (by decide) rfl (Nat.le_of_ble_eq_true rfl) rfl ?_
  intro p e s m args below meth c Q A ls hx hb hml hts hown hK hP hD hS hl hret
  have in7 : ∀ w ∈ wsX70, w ∈ wsX7_lays := by decide +kernel
  have f7 := hts (.fieldLink RX7 7 "SignalSpacingModel" "now" "[I") (by decide +kernel)
  have f16 := hts (.fieldLink RX7 16 "SignalSpacingModel" "energies" "[J") (by decide +kernel)
  have f20 := hts (.fieldLink RX7 20 "SignalSpacingModel" "speeds" "[I") (by decide +kernel)
  have f23 := hts (.fieldLink RX7 23 "SignalSpacingModel" "distances" "[I") (by decide +kernel)
  have f26 := hts (.fieldLink RX7 26 "SignalSpacingModel" "times" "[I") (by decide +kernel)
  have c89 := hts (.constant RX7 89 (180000)) (by decide +kernel)
  have hl : lv_has ls 5 [(0, .ref m0)] := hl
  have hP : va_P D vwCl [(m0, .inr (7, [.ref (a 0), .ref (a 1), .int (zI (ke)), .int (zI (th)), .ref (a 2), .ref (a 3), .ref (a 4), .ref (a 5), .ref (a 6), .ref (a 7), .ref (a 8), .long (zL (hs))])), (a 0, .inl (cI, 612, .inl (zA f))), (a 2, .inl (cJ, 121, .inr (.inl (zAL ge)))), (a 3, .inl (cI, 121, .inl (zA gv))), (a 4, .inl (cI, 121, .inl (zA gd))), (a 5, .inl (cI, 121, .inl (zA gt)))] s.heap := hP
  obtain ⟨o0, o1, o2, o3, o4, o5, o7, o8, olim, ogrd, obar, oneed, opost⟩ := id ok
  refine lv_aload_n hx hb dX7_lays_0 rfl (lv_at hl 0 rfl) ?_
  refine va_get (D := D) (ci := 7) (v := .ref (a 0)) (C := RX7) (T := TX7) (N := 12) hx hb hts in7 hown hK hP 0 rfl rfl 0 (by decide) f7 (fun _ h9 => h9) rfl dX7_lays_1 ?_
  refine z_iconst hx hb dX7_lays_4 ?_
  refine z_iald hx hb hK hP 1 0 rfl rfl (by omega) (Nat.lt_of_succ_le (Nat.le_of_ble_eq_true rfl)) dX7_lays_5 ?_
  refine lv_istore_n (lv' := [(1, .int (zI (f 0))), (0, .ref m0)]) hx hb dX7_lays_6 rfl hl (by decide) rfl (fun ls hl => ?_)
  refine lv_aload_n hx hb dX7_lays_7 rfl (lv_at hl 1 rfl) ?_
  refine va_get (D := D) (ci := 7) (v := .ref (a 2)) (C := RX7) (T := TX7) (N := 12) hx hb hts in7 hown hK hP 0 rfl rfl 4 (by decide) f16 (fun _ h9 => h9) rfl dX7_lays_8 ?_
  refine lv_iload_n hx hb dX7_lays_11 rfl (lv_at hl 0 rfl) ?_
  refine lv_aload_n hx hb dX7_lays_12 rfl (lv_at hl 1 rfl) ?_
  refine lv_iload_n hx hb dX7_lays_13 rfl (lv_at hl 0 rfl) ?_
  refine z_iconst hx hb dX7_lays_14 ?_
  refine z_isub hx hb dX7_lays_15 ?_
  refine y_rVL (v := zmost f ((f 0) - 1)) (As := [.int (zI ((f 0) - 1))]) (rest := [.int (zI (f 0)), .ref (a 2)]) hx hb hml hown hts hl.1 ⟨Nat.zero_le _, Nat.zero_le _⟩ (kX7_most l D cI cJ cS m0 a ke th hs f ((f 0) - 1) ok (by omega)) (cwV 1 hts gX7_lays_X7_most rfl rfl rfl jX7_most ⟨Nat.le_of_ble_eq_true rfl, Nat.le_of_ble_eq_true rfl⟩) hK [true, true] hP hD rfl 7 0 rfl rfl rfl rfl rfl (Nat.le_of_ble_eq_true rfl) dX7_lays_16 ?_
  refine z_topL (enE f (f 0)) (enE_top f).symm ?_
  refine z_last hx hb hK hP hD hS 2 1 [(m0, .inr (7, [.ref (a 0), .ref (a 1), .int (zI (ke)), .int (zI (th)), .ref (a 2), .ref (a 3), .ref (a 4), .ref (a 5), .ref (a 6), .ref (a 7), .ref (a 8), .long (zL (hs))])), (a 0, .inl (cI, 612, .inl (zA f))), (a 2, .inl (cJ, 121, .inr (.inl (zAL (zup ge (f 0) (enE f (f 0))))))), (a 3, .inl (cI, 121, .inl (zA gv))), (a 4, .inl (cI, 121, .inl (zA gd))), (a 5, .inl (cI, 121, .inl (zA gt)))] rfl rfl (by omega) (Nat.lt_of_succ_le (Nat.le_of_ble_eq_true rfl)) rfl dX7_lays_19 (fun H locs hP hS => ?_)
  refine lv_iload_n hx hb dX7_lays_20 rfl (lv_at hl 0 rfl) ?_
  refine z_iconst hx hb dX7_lays_21 ?_
  refine z_isub hx hb dX7_lays_22 ?_
  refine lv_istore_n (lv' := [(2, .int (zI ((f 0) - 1))), (1, .int (zI (f 0))), (0, .ref m0)]) hx hb dX7_lays_23 rfl hl (by decide) rfl (fun ls hl => ?_)
  have L24 : ∀ (fuel : Nat), ∀ (x : Int) (g : Int → Int), ∀ (h1 : -1 ≤ x ∧ x ≤ f 0 - 1), ∀ (hg : ∀ y : Int, x < y → 0 ≤ y → y ≤ f 0 → g y = enE f y), (x + 1).toNat < fuel → ∀ (H : Heap) (locs : List Loc), va_P D vwCl [(m0, .inr (7, [.ref (a 0), .ref (a 1), .int (zI (ke)), .int (zI (th)), .ref (a 2), .ref (a 3), .ref (a 4), .ref (a 5), .ref (a 6), .ref (a 7), .ref (a 8), .long (zL (hs))])), (a 0, .inl (cI, 612, .inl (zA f))), (a 2, .inl (cJ, 121, .inr (.inl (zAL g)))), (a 3, .inl (cI, 121, .inl (zA gv))), (a 4, .inl (cI, 121, .inl (zA gd))), (a 5, .inl (cI, 121, .inl (zA gt)))] H → va_S A s.heap H locs → ∀ (ls : Array Slot), lv_has ls 5 [(0, .ref m0), (1, .int (zI (f 0))), (2, .int (zI (x)))] → W p l e rmX7_lays s m args below meth c H locs 0 0 Q (F0 m 24 ls []) := by
    intro fuel
    induction fuel with
    | zero =>
      intro x g h1 hg hm
      exact absurd hm (Nat.not_lt_zero _)
    | succ fuel ih24 =>
      intro x g h1 hg hm H locs hP hS ls hl
      refine lv_iload_n hx hb dX7_lays_24 rfl (lv_at hl 2 rfl) ?_
      refine z_if_lt (tgt := 74) hx hb dX7_lays_25 (by decide) (by omega) (fun c25 => ?_) (fun c25 => ?_)
      · have hE : ∀ y : Int, 0 ≤ y → y ≤ f 0 → g y = enE f y := fun y a b => hg y (by omega) a b
        refine z_iconst hx hb dX7_lays_74 ?_
        refine lv_istore_n (lv' := [(2, .int (zI (0))), (0, .ref m0), (1, .int (zI (f 0)))]) hx hb dX7_lays_75 rfl hl (by decide) rfl (fun ls hl => ?_)
        have L76 : ∀ (fuel : Nat), ∀ (y : Int) (g1 : Int → Int) (g2 : Int → Int) (g3 : Int → Int), ∀ (h2 : 0 ≤ y ∧ y ≤ f 0 + 1), ∀ (hv : ∀ z : Int, 0 ≤ z → z < y → g1 z = spV f z), ∀ (hd : ∀ z : Int, 0 ≤ z → z < y → g2 z = brD f z), ∀ (ht : ∀ z : Int, 0 ≤ z → z < y → g3 z = tiT f z), (f 0 + 1 - y).toNat < fuel → ∀ (H : Heap) (locs : List Loc), va_P D vwCl [(m0, .inr (7, [.ref (a 0), .ref (a 1), .int (zI (ke)), .int (zI (th)), .ref (a 2), .ref (a 3), .ref (a 4), .ref (a 5), .ref (a 6), .ref (a 7), .ref (a 8), .long (zL (hs))])), (a 0, .inl (cI, 612, .inl (zA f))), (a 2, .inl (cJ, 121, .inr (.inl (zAL g)))), (a 3, .inl (cI, 121, .inl (zA g1))), (a 4, .inl (cI, 121, .inl (zA g2))), (a 5, .inl (cI, 121, .inl (zA g3)))] H → va_S A s.heap H locs → ∀ (ls : Array Slot), lv_has ls 5 [(0, .ref m0), (1, .int (zI (f 0))), (2, .int (zI (y)))] → W p l e rmX7_lays s m args below meth c H locs 0 0 Q (F0 m 76 ls []) := by
          intro fuel
          induction fuel with
          | zero =>
            intro y g1 g2 g3 h2 hv hd ht hm
            exact absurd hm (Nat.not_lt_zero _)
          | succ fuel ih76 =>
            intro y g1 g2 g3 h2 hv hd ht hm H locs hP hS ls hl
            refine lv_iload_n hx hb dX7_lays_76 rfl (lv_at hl 2 rfl) ?_
            refine lv_iload_n hx hb dX7_lays_77 rfl (lv_at hl 1 rfl) ?_
            refine z_icmp_gt (tgt := 158) hx hb dX7_lays_78 (by decide) (by omega) (by omega) (fun c78 => ?_) (fun c78 => ?_)
            · exact hret (fun j => if j = 0 then g else if j = 1 then g1 else if j = 2 then g2 else g3) (fun z a b => ⟨hE z a b, hv z a (by omega), hd z a (by omega), ht z a (by omega)⟩) hP hS dX7_lays_158
            · refine lv_aload_n hx hb dX7_lays_81 rfl (lv_at hl 0 rfl) ?_
              refine va_get (D := D) (ci := 7) (v := .ref (a 3)) (C := RX7) (T := TX7) (N := 12) hx hb hts in7 hown hK hP 0 rfl rfl 5 (by decide) f20 (fun _ h9 => h9) rfl dX7_lays_82 ?_
              refine lv_iload_n hx hb dX7_lays_85 rfl (lv_at hl 2 rfl) ?_
              refine lv_aload_n hx hb dX7_lays_86 rfl (lv_at hl 0 rfl) ?_
              refine va_get (D := D) (ci := 7) (v := .ref (a 2)) (C := RX7) (T := TX7) (N := 12) hx hb hts in7 hown hK hP 0 rfl rfl 4 (by decide) f16 (fun _ h9 => h9) rfl dX7_lays_87 ?_
              refine lv_iload_n hx hb dX7_lays_90 rfl (lv_at hl 2 rfl) ?_
              refine z_lald hx hb hK hP 2 1 rfl rfl (by omega) (Nat.lt_of_succ_le (Nat.le_of_ble_eq_true rfl)) dX7_lays_91 ?_
              refine z_topL (enE f y) (hE y h2.1 (by omega)) ?_
              have hb4 := enE_b ok y h2.1 (by omega)
              refine z_rS (v := spd (enE f y)) (As := [.long (zL (enE f y))]) (rest := [.int (zI (y)), .ref (a 3)]) hx hb hml hown hts hl.1 ⟨Nat.zero_le _, Nat.zero_le _⟩ (kX7_speedFor l D cI cJ cS (enE f y) (by omega)) (cwS 1 hts gX7_lays_X7_speedFor rfl rfl rfl jX7_speedFor ⟨Nat.le_of_ble_eq_true rfl, Nat.le_of_ble_eq_true rfl⟩) hK rfl rfl (Nat.le_of_ble_eq_true rfl) dX7_lays_92 ?_
              refine z_top (spV f y) rfl ?_
              refine z_iast hx hb hK hP (zD hD rfl) hS 3 0 [(m0, .inr (7, [.ref (a 0), .ref (a 1), .int (zI (ke)), .int (zI (th)), .ref (a 2), .ref (a 3), .ref (a 4), .ref (a 5), .ref (a 6), .ref (a 7), .ref (a 8), .long (zL (hs))])), (a 0, .inl (cI, 612, .inl (zA f))), (a 2, .inl (cJ, 121, .inr (.inl (zAL g)))), (a 3, .inl (cI, 121, .inl (zA (zup g1 y (spV f y))))), (a 4, .inl (cI, 121, .inl (zA g2))), (a 5, .inl (cI, 121, .inl (zA g3)))] rfl rfl (by omega) (Nat.lt_of_succ_le (Nat.le_of_ble_eq_true rfl)) rfl dX7_lays_95 (fun H locs hP hS => ?_)
              refine lv_aload_n hx hb dX7_lays_96 rfl (lv_at hl 0 rfl) ?_
              refine va_get (D := D) (ci := 7) (v := .ref (a 4)) (C := RX7) (T := TX7) (N := 12) hx hb hts in7 hown hK hP 0 rfl rfl 6 (by decide) f23 (fun _ h9 => h9) rfl dX7_lays_97 ?_
              refine lv_iload_n hx hb dX7_lays_100 rfl (lv_at hl 2 rfl) ?_
              refine lv_aload_n hx hb dX7_lays_101 rfl (lv_at hl 0 rfl) ?_
              refine lv_iload_n hx hb dX7_lays_102 rfl (lv_at hl 2 rfl) ?_
              refine y_rV (v := brD f y) (As := [.int (zI (y))]) (rest := [.int (zI (y)), .ref (a 4)]) hx hb hml hown hts hl.1 ⟨Nat.zero_le _, Nat.zero_le _⟩ (kX7_distanceAt l D cI cJ cS m0 a ke th hs f g (zup g1 y (spV f y)) y ok (by omega) (hE y h2.1 (by omega)) (zup_at _ _ _)) (cwV 1 hts gX7_lays_X7_distanceAt rfl rfl rfl jX7_distanceAt ⟨Nat.le_of_ble_eq_true rfl, Nat.le_of_ble_eq_true rfl⟩) hK [true, true, true, true] hP (zD hD rfl) rfl 7 0 rfl rfl rfl rfl rfl (Nat.le_of_ble_eq_true rfl) dX7_lays_103 ?_
              refine z_iast hx hb hK hP (zD hD rfl) hS 4 0 [(m0, .inr (7, [.ref (a 0), .ref (a 1), .int (zI (ke)), .int (zI (th)), .ref (a 2), .ref (a 3), .ref (a 4), .ref (a 5), .ref (a 6), .ref (a 7), .ref (a 8), .long (zL (hs))])), (a 0, .inl (cI, 612, .inl (zA f))), (a 2, .inl (cJ, 121, .inr (.inl (zAL g)))), (a 3, .inl (cI, 121, .inl (zA (zup g1 y (spV f y))))), (a 4, .inl (cI, 121, .inl (zA (zup g2 y (brD f y))))), (a 5, .inl (cI, 121, .inl (zA g3)))] rfl rfl (by omega) (Nat.lt_of_succ_le (Nat.le_of_ble_eq_true rfl)) rfl dX7_lays_106 (fun H locs hP hS => ?_)
              have J151 :  ∀ (H : Heap) (locs : List Loc), va_P D vwCl [(m0, .inr (7, [.ref (a 0), .ref (a 1), .int (zI (ke)), .int (zI (th)), .ref (a 2), .ref (a 3), .ref (a 4), .ref (a 5), .ref (a 6), .ref (a 7), .ref (a 8), .long (zL (hs))])), (a 0, .inl (cI, 612, .inl (zA f))), (a 2, .inl (cJ, 121, .inr (.inl (zAL g)))), (a 3, .inl (cI, 121, .inl (zA (zup g1 y (spV f y))))), (a 4, .inl (cI, 121, .inl (zA (zup g2 y (brD f y))))), (a 5, .inl (cI, 121, .inl (zA g3)))] H → va_S A s.heap H locs → ∀ (ls : Array Slot), lv_has ls 5 [(0, .ref m0), (1, .int (zI (f 0))), (2, .int (zI (y)))] → W p l e rmX7_lays s m args below meth c H locs 0 0 Q (F0 m 151 ls [.int (zI (tiT f y)), .int (zI (y)), .ref (a 5)]) := by
                intro  H locs hP hS ls hl
                refine z_iast hx hb hK hP (zD hD rfl) hS 5 0 [(m0, .inr (7, [.ref (a 0), .ref (a 1), .int (zI (ke)), .int (zI (th)), .ref (a 2), .ref (a 3), .ref (a 4), .ref (a 5), .ref (a 6), .ref (a 7), .ref (a 8), .long (zL (hs))])), (a 0, .inl (cI, 612, .inl (zA f))), (a 2, .inl (cJ, 121, .inr (.inl (zAL g)))), (a 3, .inl (cI, 121, .inl (zA (zup g1 y (spV f y))))), (a 4, .inl (cI, 121, .inl (zA (zup g2 y (brD f y))))), (a 5, .inl (cI, 121, .inl (zA (zup g3 y (tiT f y)))))] rfl rfl (by omega) (Nat.lt_of_succ_le (Nat.le_of_ble_eq_true rfl)) rfl dX7_lays_151 (fun H locs hP hS => ?_)
                refine z_iinc (lv' := [(2, .int (zI (y + 1))), (0, .ref m0), (1, .int (zI (f 0)))]) hx hb 2 (y + 1) dX7_lays_152 hl rfl (by omega) (by decide) rfl (fun ls hl => ?_)
                refine lv_goto (tgt := 76) hx hb dX7_lays_155 (by decide) ?_
                exact ih76 (y + 1) (zup g1 y (spV f y)) (zup g2 y (brD f y)) (zup g3 y (tiT f y)) (by omega) (zx_up hv rfl) (zx_up hd rfl) (zx_up ht rfl) (by omega) _ _ hP hS ls (lv_sub hl [1, 2, 0] rfl)
              refine lv_aload_n hx hb dX7_lays_107 rfl (lv_at hl 0 rfl) ?_
              refine va_get (D := D) (ci := 7) (v := .ref (a 5)) (C := RX7) (T := TX7) (N := 12) hx hb hts in7 hown hK hP 0 rfl rfl 7 (by decide) f26 (fun _ h9 => h9) rfl dX7_lays_108 ?_
              refine lv_iload_n hx hb dX7_lays_111 rfl (lv_at hl 2 rfl) ?_
              refine lv_iload_n hx hb dX7_lays_112 rfl (lv_at hl 2 rfl) ?_
              refine z_if_ne (tgt := 120) hx hb dX7_lays_113 (by decide) (by omega) (fun c113 => ?_) (fun c113 => ?_)
              · refine lv_aload_n hx hb dX7_lays_120 rfl (lv_at hl 0 rfl) ?_
                refine va_get (D := D) (ci := 7) (v := .ref (a 5)) (C := RX7) (T := TX7) (N := 12) hx hb hts in7 hown hK hP 0 rfl rfl 7 (by decide) f26 (fun _ h9 => h9) rfl dX7_lays_121 ?_
                refine lv_iload_n hx hb dX7_lays_124 rfl (lv_at hl 2 rfl) ?_
                refine z_iconst hx hb dX7_lays_125 ?_
                refine z_isub hx hb dX7_lays_126 ?_
                refine z_iald hx hb hK hP 5 0 rfl rfl (by omega) (Nat.lt_of_succ_le (Nat.le_of_ble_eq_true rfl)) dX7_lays_127 ?_
                refine z_top (tiT f (y - 1)) (ht (y - 1) (by omega) (by omega)) ?_
                refine z_ldc hx hb (180000) hown c89 (by decide +kernel) dX7_lays_128 ?_
                refine lv_aload_n hx hb dX7_lays_130 rfl (lv_at hl 0 rfl) ?_
                refine va_get (D := D) (ci := 7) (v := .ref (a 3)) (C := RX7) (T := TX7) (N := 12) hx hb hts in7 hown hK hP 0 rfl rfl 5 (by decide) f20 (fun _ h9 => h9) rfl dX7_lays_131 ?_
                refine lv_iload_n hx hb dX7_lays_134 rfl (lv_at hl 2 rfl) ?_
                refine z_iconst hx hb dX7_lays_135 ?_
                refine z_isub hx hb dX7_lays_136 ?_
                refine z_iald hx hb hK hP 3 0 rfl rfl (by omega) (Nat.lt_of_succ_le (Nat.le_of_ble_eq_true rfl)) dX7_lays_137 ?_
                refine z_top (spV f (y - 1)) ((zup_ne (by omega)).trans (hv (y - 1) (by omega) (by omega))) ?_
                refine z_iadd hx hb dX7_lays_138 ?_
                refine z_iconst hx hb dX7_lays_139 ?_
                refine z_isub hx hb dX7_lays_140 ?_
                refine lv_aload_n hx hb dX7_lays_141 rfl (lv_at hl 0 rfl) ?_
                refine va_get (D := D) (ci := 7) (v := .ref (a 3)) (C := RX7) (T := TX7) (N := 12) hx hb hts in7 hown hK hP 0 rfl rfl 5 (by decide) f20 (fun _ h9 => h9) rfl dX7_lays_142 ?_
                refine lv_iload_n hx hb dX7_lays_145 rfl (lv_at hl 2 rfl) ?_
                refine z_iconst hx hb dX7_lays_146 ?_
                refine z_isub hx hb dX7_lays_147 ?_
                refine z_iald hx hb hK hP 3 0 rfl rfl (by omega) (Nat.lt_of_succ_le (Nat.le_of_ble_eq_true rfl)) dX7_lays_148 ?_
                refine z_top (spV f (y - 1)) ((zup_ne (by omega)).trans (hv (y - 1) (by omega) (by omega))) ?_
                have hb5 := spV_b ok (x := y - 1) (by omega) (by omega)
                refine z_idiv hx hb dX7_lays_149 (by omega) (by omega) ?_
                refine z_iadd hx hb dX7_lays_150 ?_
                refine z_top (tiT f y) (by rw [show tiT f y = tiT f (y - 1 + 1) by rw [show y - 1 + 1 = y by omega], tiT_s (by omega)]; rfl) ?_
                exact J151  _ _ hP hS ls (lv_sub hl [0, 1, 2] rfl)
              · refine z_iconst hx hb dX7_lays_116 ?_
                refine lv_goto (tgt := 151) hx hb dX7_lays_117 (by decide) ?_
                refine z_top (tiT f y) (by rw [show y = 0 by omega]; rfl) ?_
                exact J151  _ _ hP hS ls (lv_sub hl [0, 1, 2] rfl)
        exact L76 _ 0 gv gd gt (by omega) (fun z a b => by omega) (fun z a b => by omega) (fun z a b => by omega) (Nat.lt_succ_self _) _ _ hP hS ls (lv_sub hl [1, 2, 0] rfl)
      · refine lv_aload_n hx hb dX7_lays_28 rfl (lv_at hl 0 rfl) ?_
        refine va_get (D := D) (ci := 7) (v := .ref (a 2)) (C := RX7) (T := TX7) (N := 12) hx hb hts in7 hown hK hP 0 rfl rfl 4 (by decide) f16 (fun _ h9 => h9) rfl dX7_lays_29 ?_
        refine lv_iload_n hx hb dX7_lays_32 rfl (lv_at hl 2 rfl) ?_
        refine z_iconst hx hb dX7_lays_33 ?_
        refine z_iadd hx hb dX7_lays_34 ?_
        refine z_lald hx hb hK hP 2 1 rfl rfl (by omega) (Nat.lt_of_succ_le (Nat.le_of_ble_eq_true rfl)) dX7_lays_35 ?_
        refine z_topL (enE f (x + 1)) (hg (x + 1) (by omega) (by omega) (by omega)) ?_
        have hx0 : 0 ≤ x := by omega
        have hb1 := zmost_b ok hx0 (by omega : x < 120)
        have hb2 := zlost_b ok hx0
        have hb3 := enE_b ok (x + 1) (by omega) (by omega)
        refine lv_aload_n hx hb dX7_lays_36 rfl (lv_at hl 0 rfl) ?_
        refine lv_iload_n hx hb dX7_lays_37 rfl (lv_at hl 2 rfl) ?_
        refine y_rVL (v := zlost f x) (As := [.int (zI (x))]) (rest := [.long (zL (enE f (x + 1)))]) hx hb hml hown hts hl.1 ⟨Nat.zero_le _, Nat.zero_le _⟩ (kX7_lost l D cI cJ cS m0 a ke th hs f x ok (by omega)) (cwV 1 hts gX7_lays_X7_lost rfl rfl rfl jX7_lost ⟨Nat.le_of_ble_eq_true rfl, Nat.le_of_ble_eq_true rfl⟩) hK [true, true] hP (zD hD rfl) rfl 7 0 rfl rfl rfl rfl rfl (Nat.le_of_ble_eq_true rfl) dX7_lays_38 ?_
        refine z_ladd hx hb dX7_lays_41 ?_
        refine lv_lstore_n (lv' := [(3, .long (zL ((enE f (x + 1)) + (zlost f x)))), (0, .ref m0), (1, .int (zI (f 0))), (2, .int (zI (x)))]) hx hb dX7_lays_42 rfl hl (by decide) rfl (fun ls hl => ?_)
        have J67 :  ∀ (H : Heap) (locs : List Loc), va_P D vwCl [(m0, .inr (7, [.ref (a 0), .ref (a 1), .int (zI (ke)), .int (zI (th)), .ref (a 2), .ref (a 3), .ref (a 4), .ref (a 5), .ref (a 6), .ref (a 7), .ref (a 8), .long (zL (hs))])), (a 0, .inl (cI, 612, .inl (zA f))), (a 2, .inl (cJ, 121, .inr (.inl (zAL g)))), (a 3, .inl (cI, 121, .inl (zA gv))), (a 4, .inl (cI, 121, .inl (zA gd))), (a 5, .inl (cI, 121, .inl (zA gt)))] H → va_S A s.heap H locs → ∀ (ls : Array Slot), lv_has ls 5 [(0, .ref m0), (1, .int (zI (f 0))), (2, .int (zI (x)))] → W p l e rmX7_lays s m args below meth c H locs 0 0 Q (F0 m 67 ls [.long (zL (enE f x)), .int (zI (x)), .ref (a 2)]) := by
          intro  H locs hP hS ls hl
          refine z_last hx hb hK hP (zD hD rfl) hS 2 1 [(m0, .inr (7, [.ref (a 0), .ref (a 1), .int (zI (ke)), .int (zI (th)), .ref (a 2), .ref (a 3), .ref (a 4), .ref (a 5), .ref (a 6), .ref (a 7), .ref (a 8), .long (zL (hs))])), (a 0, .inl (cI, 612, .inl (zA f))), (a 2, .inl (cJ, 121, .inr (.inl (zAL (zup g x (enE f x)))))), (a 3, .inl (cI, 121, .inl (zA gv))), (a 4, .inl (cI, 121, .inl (zA gd))), (a 5, .inl (cI, 121, .inl (zA gt)))] rfl rfl (by omega) (Nat.lt_of_succ_le (Nat.le_of_ble_eq_true rfl)) rfl dX7_lays_67 (fun H locs hP hS => ?_)
          refine z_iinc (lv' := [(2, .int (zI (x - 1))), (0, .ref m0), (1, .int (zI (f 0)))]) hx hb 2 (x - 1) dX7_lays_68 hl rfl (by omega) (by decide) rfl (fun ls hl => ?_)
          refine lv_goto (tgt := 24) hx hb dX7_lays_71 (by decide) ?_
          exact ih24 (x - 1) (zup g x (enE f x)) (by omega) (fun y a b c => if hy : y = x then (by rw [hy]; exact zup_at _ _ _) else (by rw [zup_ne hy]; exact hg y (by omega) b c)) (by omega) _ _ hP hS ls (lv_sub hl [1, 2, 0] rfl)
        refine lv_aload_n hx hb dX7_lays_43 rfl (lv_at hl 1 rfl) ?_
        refine va_get (D := D) (ci := 7) (v := .ref (a 2)) (C := RX7) (T := TX7) (N := 12) hx hb hts in7 hown hK hP 0 rfl rfl 4 (by decide) f16 (fun _ h9 => h9) rfl dX7_lays_44 ?_
        refine lv_iload_n hx hb dX7_lays_47 rfl (lv_at hl 3 rfl) ?_
        refine lv_aload_n hx hb dX7_lays_48 rfl (lv_at hl 1 rfl) ?_
        refine lv_iload_n hx hb dX7_lays_49 rfl (lv_at hl 3 rfl) ?_
        refine y_rVL (v := zmost f x) (As := [.int (zI (x))]) (rest := [.int (zI (x)), .ref (a 2)]) hx hb hml hown hts hl.1 ⟨Nat.zero_le _, Nat.zero_le _⟩ (kX7_most l D cI cJ cS m0 a ke th hs f x ok (by omega)) (cwV 1 hts gX7_lays_X7_most rfl rfl rfl jX7_most ⟨Nat.le_of_ble_eq_true rfl, Nat.le_of_ble_eq_true rfl⟩) hK [true, true] hP (zD hD rfl) rfl 7 0 rfl rfl rfl rfl rfl (Nat.le_of_ble_eq_true rfl) dX7_lays_50 ?_
        refine lv_lload_n hx hb dX7_lays_53 rfl (lv_at hl 0 rfl) ?_
        refine z_lcmp hx hb dX7_lays_54 (by omega) (by omega) ?_
        refine z_if_ge (tgt := 66) hx hb dX7_lays_55 (by decide) (by have hz := zcmp_cases (zmost f x) ((enE f (x + 1)) + (zlost f x)); omega) (fun c55 => ?_) (fun c55 => ?_)
        · have hz55 := zcmp_cases (zmost f x) ((enE f (x + 1)) + (zlost f x))
          refine lv_lload_n hx hb dX7_lays_66 rfl (lv_at hl 0 rfl) ?_
          refine z_topL (enE f x) (by rw [enE_s (by omega : x < f 0), if_neg (by omega)]) ?_
          exact J67  _ _ hP hS ls (lv_sub hl [1, 2, 3] rfl)
        · have hz55 := zcmp_cases (zmost f x) ((enE f (x + 1)) + (zlost f x))
          refine lv_aload_n hx hb dX7_lays_58 rfl (lv_at hl 1 rfl) ?_
          refine lv_iload_n hx hb dX7_lays_59 rfl (lv_at hl 3 rfl) ?_
          refine y_rVL (v := zmost f x) (As := [.int (zI (x))]) (rest := [.int (zI (x)), .ref (a 2)]) hx hb hml hown hts hl.1 ⟨Nat.zero_le _, Nat.zero_le _⟩ (kX7_most l D cI cJ cS m0 a ke th hs f x ok (by omega)) (cwV 1 hts gX7_lays_X7_most rfl rfl rfl jX7_most ⟨Nat.le_of_ble_eq_true rfl, Nat.le_of_ble_eq_true rfl⟩) hK [true, true] hP (zD hD rfl) rfl 7 0 rfl rfl rfl rfl rfl (Nat.le_of_ble_eq_true rfl) dX7_lays_60 ?_
          refine lv_goto (tgt := 67) hx hb dX7_lays_63 (by decide) ?_
          refine z_topL (enE f x) (by rw [enE_s (by omega : x < f 0), if_pos (by omega)]) ?_
          exact J67  _ _ hP hS ls (lv_sub hl [1, 2, 3] rfl)
  exact L24 _ ((f 0) - 1) (zup ge (f 0) (enE f (f 0))) (by omega) (fun y a b c => by rw [show y = f 0 by omega]; exact zup_at _ _ _) (Nat.lt_succ_self _) _ _ hP hS ls (lv_sub hl [2, 1, 0] rfl)

abbrev rmX7_energy : Room := { frames := 3, cells := 0, slots := 0, locals := 71 }
theorem jX7_energy : yX7_energy.cls = RX7 ∧ yX7_energy.cls ≠ "java/lang/invoke/MethodHandle" ∧ yX7_energy.cls ≠ "java/lang/invoke/VarHandle" ∧ (parseMethodDescriptor yX7_energy.desc).map (fun d => d.parameters.length) = some 1 := by decide +kernel
set_option maxHeartbeats 4000000 in
set_option maxRecDepth 100000 in
theorem kX7_energy_no (l : Launch) (D : va_G) (cI cJ cS : ClassId) (m0 : Nat) (a : Nat → Nat) (ke th hs : Int) (f : Int → Int) (x : Int) (ok : OkF f) (hN : ¬ (0 ≤ x ∧ x ≤ f 0)) (hr_x : -2147483648 ≤ x ∧ x < 2147483648) : Met l yX7_energy wsX7_energy rmX7_energy (zPc D (zT cI cJ cS) [.ref m0, .int (zI (x))] [(m0, .inr (7, [.ref (a 0), .ref (a 1), .int (zI (ke)), .int (zI (th)), .ref (a 2), .ref (a 3), .ref (a 4), .ref (a 5), .ref (a 6), .ref (a 7), .ref (a 8), .long (zL (hs))])), (a 0, .inl (cI, 612, .inl (zA f)))]) (va_Ql (fun r _ => r = zL 0) (fun (u : Unit) t => va_P D vwCl [(m0, .inr (7, [.ref (a 0), .ref (a 1), .int (zI (ke)), .int (zI (1)), .ref (a 2), .ref (a 3), .ref (a 4), .ref (a 5), .ref (a 6), .ref (a 7), .ref (a 8), .long (zL (hs))])), (a 0, .inl (cI, 612, .inl (zA f)))] t.heap) (zAd [(m0, .inr (7, [.ref (a 0), .ref (a 1), .int (zI (ke)), .int (zI (th)), .ref (a 2), .ref (a 3), .ref (a 4), .ref (a 5), .ref (a 6), .ref (a 7), .ref (a 8), .long (zL (hs))])), (a 0, .inl (cI, 612, .inl (zA f)))])) 0 0 (zAd [(m0, .inr (7, [.ref (a 0), .ref (a 1), .int (zI (ke)), .int (zI (th)), .ref (a 2), .ref (a 3), .ref (a 4), .ref (a 5), .ref (a 6), .ref (a 7), .ref (a 8), .long (zL (hs))])), (a 0, .inl (cI, 612, .inl (zA f)))]) := by
  refine zWl_of (cc := cX7_energy) (maxL := 2) (ret := (some .long)) (by decide) rfl (Nat.le_of_ble_eq_true rfl) rfl ?_
  intro p e s m args below meth c Q A ls hx hb hml hts hown hK hP hD hS hl hret
  have hl : lv_has ls 2 [(0, .ref m0), (1, .int (zI (x)))] := hl
  have hP : va_P D vwCl [(m0, .inr (7, [.ref (a 0), .ref (a 1), .int (zI (ke)), .int (zI (th)), .ref (a 2), .ref (a 3), .ref (a 4), .ref (a 5), .ref (a 6), .ref (a 7), .ref (a 8), .long (zL (hs))])), (a 0, .inl (cI, 612, .inl (zA f)))] s.heap := hP
  obtain ⟨o0, o1, o2, o3, o4, o5, o7, o8, olim, ogrd, obar, oneed, opost⟩ := id ok
  have hfr := okF_r ok
  refine lv_aload_n hx hb dX7_energy_0 rfl (lv_at hl 0 rfl) ?_
  refine lv_aload_n hx hb dX7_energy_1 rfl (lv_at hl 0 rfl) ?_
  refine lv_iload_n hx hb dX7_energy_2 rfl (lv_at hl 1 rfl) ?_
  refine y_rV (v := zB (0 ≤ x ∧ x ≤ f 0)) (As := [.int (zI (x))]) (rest := [.ref m0]) hx hb hml hown hts hl.1 ⟨Nat.zero_le _, Nat.zero_le _⟩ (kX7_isPosition l D cI cJ cS m0 a ke th hs f x o0 (by omega)) (cwV 1 hts gX7_energy_X7_isPosition rfl rfl rfl jX7_isPosition ⟨Nat.le_of_ble_eq_true rfl, Nat.le_of_ble_eq_true rfl⟩) hK [true, true] hP hD rfl 7 0 rfl rfl rfl rfl rfl (Nat.le_of_ble_eq_true rfl) dX7_energy_3 ?_
  refine z_top (0) (zB_f (by omega)) ?_
  refine y_wVi (As := [.int (zI (0))]) (rest := []) (fun (u6 : Unit) => [(m0, .inr (7, [.ref (a 0), .ref (a 1), .int (zI (ke)), .int (zI (1)), .ref (a 2), .ref (a 3), .ref (a 4), .ref (a 5), .ref (a 6), .ref (a 7), .ref (a 8), .long (zL (hs))])), (a 0, .inl (cI, 612, .inl (zA f)))]) hx hb hml hown hts hl.1 ⟨Nat.zero_le _, Nat.zero_le _⟩ (kX7_refuses_0 l D cI cJ cS m0 a ke th hs f) (cwV 1 hts gX7_energy_X7_refuses rfl rfl rfl jX7_refuses ⟨Nat.le_of_ble_eq_true rfl, Nat.le_of_ble_eq_true rfl⟩) hK [true] hP hD hS rfl (fun _ => rfl) (fun _ => rfl) 7 0 rfl rfl rfl rfl rfl (Nat.le_of_ble_eq_true rfl) dX7_energy_6 (fun r6 u6 H locs hu6 hP hS => ?_)
  subst hu6
  refine z_if_eq (tgt := 14) hx hb dX7_energy_9 (by decide) (by omega) (fun c9 => ?_) (fun c9 => ?_)
  · exfalso; omega
  · refine z_lconst hx hb 0 dX7_energy_12 (by decide +kernel) ?_
    exact hret () rfl hP hS dX7_energy_13

set_option maxHeartbeats 4000000 in
set_option maxRecDepth 100000 in
theorem kX7_energy_ok (l : Launch) (D : va_G) (cI cJ cS : ClassId) (m0 : Nat) (a : Nat → Nat) (ke th hs : Int) (f : Int → Int) (ge gv gd gt : Int → Int) (x : Int) (ok : OkF f) (hY : 0 ≤ x ∧ x ≤ f 0) : Met l yX7_energy wsX7_energy rmX7_energy (zPc D (zT cI cJ cS) [.ref m0, .int (zI (x))] [(m0, .inr (7, [.ref (a 0), .ref (a 1), .int (zI (ke)), .int (zI (th)), .ref (a 2), .ref (a 3), .ref (a 4), .ref (a 5), .ref (a 6), .ref (a 7), .ref (a 8), .long (zL (hs))])), (a 0, .inl (cI, 612, .inl (zA f))), (a 2, .inl (cJ, 121, .inr (.inl (zAL ge)))), (a 3, .inl (cI, 121, .inl (zA gv))), (a 4, .inl (cI, 121, .inl (zA gd))), (a 5, .inl (cI, 121, .inl (zA gt)))]) (va_Ql (fun r _ => r = zL (enE f x)) (fun (u : Nat → Int → Int) t => va_P D vwCl [(m0, .inr (7, [.ref (a 0), .ref (a 1), .int (zI (ke)), .int (zI (0)), .ref (a 2), .ref (a 3), .ref (a 4), .ref (a 5), .ref (a 6), .ref (a 7), .ref (a 8), .long (zL (hs))])), (a 0, .inl (cI, 612, .inl (zA f))), (a 2, .inl (cJ, 121, .inr (.inl (zAL (u 0))))), (a 3, .inl (cI, 121, .inl (zA (u 1)))), (a 4, .inl (cI, 121, .inl (zA (u 2)))), (a 5, .inl (cI, 121, .inl (zA (u 3))))] t.heap) (zAd [(m0, .inr (7, [.ref (a 0), .ref (a 1), .int (zI (ke)), .int (zI (th)), .ref (a 2), .ref (a 3), .ref (a 4), .ref (a 5), .ref (a 6), .ref (a 7), .ref (a 8), .long (zL (hs))])), (a 0, .inl (cI, 612, .inl (zA f))), (a 2, .inl (cJ, 121, .inr (.inl (zAL ge)))), (a 3, .inl (cI, 121, .inl (zA gv))), (a 4, .inl (cI, 121, .inl (zA gd))), (a 5, .inl (cI, 121, .inl (zA gt)))])) 0 0 (zAd [(m0, .inr (7, [.ref (a 0), .ref (a 1), .int (zI (ke)), .int (zI (th)), .ref (a 2), .ref (a 3), .ref (a 4), .ref (a 5), .ref (a 6), .ref (a 7), .ref (a 8), .long (zL (hs))])), (a 0, .inl (cI, 612, .inl (zA f))), (a 2, .inl (cJ, 121, .inr (.inl (zAL ge)))), (a 3, .inl (cI, 121, .inl (zA gv))), (a 4, .inl (cI, 121, .inl (zA gd))), (a 5, .inl (cI, 121, .inl (zA gt)))]) := by
  refine zWl_of (cc := cX7_energy) (maxL := 2) (ret := (some .long)) (by decide) rfl (Nat.le_of_ble_eq_true rfl) rfl ?_
  intro p e s m args below meth c Q A ls hx hb hml hts hown hK hP hD hS hl hret
  have in7 : ∀ w ∈ wsX70, w ∈ wsX7_energy := by decide +kernel
  have f16 := hts (.fieldLink RX7 16 "SignalSpacingModel" "energies" "[J") (by decide +kernel)
  have hl : lv_has ls 2 [(0, .ref m0), (1, .int (zI (x)))] := hl
  have hP : va_P D vwCl [(m0, .inr (7, [.ref (a 0), .ref (a 1), .int (zI (ke)), .int (zI (th)), .ref (a 2), .ref (a 3), .ref (a 4), .ref (a 5), .ref (a 6), .ref (a 7), .ref (a 8), .long (zL (hs))])), (a 0, .inl (cI, 612, .inl (zA f))), (a 2, .inl (cJ, 121, .inr (.inl (zAL ge)))), (a 3, .inl (cI, 121, .inl (zA gv))), (a 4, .inl (cI, 121, .inl (zA gd))), (a 5, .inl (cI, 121, .inl (zA gt)))] s.heap := hP
  obtain ⟨o0, o1, o2, o3, o4, o5, o7, o8, olim, ogrd, obar, oneed, opost⟩ := id ok
  have hfr := okF_r ok
  refine lv_aload_n hx hb dX7_energy_0 rfl (lv_at hl 0 rfl) ?_
  refine lv_aload_n hx hb dX7_energy_1 rfl (lv_at hl 0 rfl) ?_
  refine lv_iload_n hx hb dX7_energy_2 rfl (lv_at hl 1 rfl) ?_
  refine y_rV (v := zB (0 ≤ x ∧ x ≤ f 0)) (As := [.int (zI (x))]) (rest := [.ref m0]) hx hb hml hown hts hl.1 ⟨Nat.zero_le _, Nat.zero_le _⟩ (kX7_isPosition l D cI cJ cS m0 a ke th hs f x o0 (by omega)) (cwV 1 hts gX7_energy_X7_isPosition rfl rfl rfl jX7_isPosition ⟨Nat.le_of_ble_eq_true rfl, Nat.le_of_ble_eq_true rfl⟩) hK [true, true] hP hD rfl 7 0 rfl rfl rfl rfl rfl (Nat.le_of_ble_eq_true rfl) dX7_energy_3 ?_
  refine z_top (1) (zB_t (by omega)) ?_
  refine y_wVi (As := [.int (zI (1))]) (rest := []) (fun (u6 : Unit) => [(m0, .inr (7, [.ref (a 0), .ref (a 1), .int (zI (ke)), .int (zI (0)), .ref (a 2), .ref (a 3), .ref (a 4), .ref (a 5), .ref (a 6), .ref (a 7), .ref (a 8), .long (zL (hs))])), (a 0, .inl (cI, 612, .inl (zA f))), (a 2, .inl (cJ, 121, .inr (.inl (zAL ge)))), (a 3, .inl (cI, 121, .inl (zA gv))), (a 4, .inl (cI, 121, .inl (zA gd))), (a 5, .inl (cI, 121, .inl (zA gt)))]) hx hb hml hown hts hl.1 ⟨Nat.zero_le _, Nat.zero_le _⟩ (kX7_refuses_1 l D cI cJ cS m0 a ke th hs f) (cwV 1 hts gX7_energy_X7_refuses rfl rfl rfl jX7_refuses ⟨Nat.le_of_ble_eq_true rfl, Nat.le_of_ble_eq_true rfl⟩) hK [true] hP hD hS rfl (fun _ => rfl) (fun _ => rfl) 7 0 rfl rfl rfl rfl rfl (Nat.le_of_ble_eq_true rfl) dX7_energy_6 (fun r6 u6 H locs hu6 hP hS => ?_)
  subst hu6
  refine z_if_eq (tgt := 14) hx hb dX7_energy_9 (by decide) (by omega) (fun c9 => ?_) (fun c9 => ?_)
  · refine lv_aload_n hx hb dX7_energy_14 rfl (lv_at hl 0 rfl) ?_
    refine y_wVv (As := []) (rest := []) (fun (u15 : Nat → Int → Int) => [(m0, .inr (7, [.ref (a 0), .ref (a 1), .int (zI (ke)), .int (zI (0)), .ref (a 2), .ref (a 3), .ref (a 4), .ref (a 5), .ref (a 6), .ref (a 7), .ref (a 8), .long (zL (hs))])), (a 0, .inl (cI, 612, .inl (zA f))), (a 2, .inl (cJ, 121, .inr (.inl (zAL (u15 0))))), (a 3, .inl (cI, 121, .inl (zA (u15 1)))), (a 4, .inl (cI, 121, .inl (zA (u15 2)))), (a 5, .inl (cI, 121, .inl (zA (u15 3))))]) hx hb hml hown hts hl.1 ⟨Nat.zero_le _, Nat.zero_le _⟩ (kX7_lays l D cI cJ cS m0 a ke 0 hs f ge gv gd gt ok) (cwV 0 hts gX7_energy_X7_lays rfl rfl rfl jX7_lays ⟨Nat.le_of_ble_eq_true rfl, Nat.le_of_ble_eq_true rfl⟩) hK [true, true, true, true, true, true] hP (zD hD rfl) hS rfl (fun _ => rfl) (fun _ => rfl) 7 0 rfl rfl rfl rfl rfl (Nat.le_of_ble_eq_true rfl) dX7_energy_15 (fun u15 H locs hu15 hP hS => ?_)
    refine lv_aload_n hx hb dX7_energy_18 rfl (lv_at hl 0 rfl) ?_
    refine va_get (D := D) (ci := 7) (v := .ref (a 2)) (C := RX7) (T := TX7) (N := 12) hx hb hts in7 hown hK hP 0 rfl rfl 4 (by decide) f16 (fun _ h9 => h9) rfl dX7_energy_19 ?_
    refine lv_iload_n hx hb dX7_energy_22 rfl (lv_at hl 1 rfl) ?_
    refine z_lald hx hb hK hP 2 1 rfl rfl (by omega) (Nat.lt_of_succ_le (Nat.le_of_ble_eq_true rfl)) dX7_energy_23 ?_
    exact hret u15 (by rw [(hu15 x hY.1 hY.2).1]) hP hS dX7_energy_24
  · exfalso; omega

abbrev rmX7_profileSpeed : Room := { frames := 3, cells := 0, slots := 0, locals := 71 }
theorem jX7_profileSpeed : yX7_profileSpeed.cls = RX7 ∧ yX7_profileSpeed.cls ≠ "java/lang/invoke/MethodHandle" ∧ yX7_profileSpeed.cls ≠ "java/lang/invoke/VarHandle" ∧ (parseMethodDescriptor yX7_profileSpeed.desc).map (fun d => d.parameters.length) = some 1 := by decide +kernel
set_option maxHeartbeats 4000000 in
set_option maxRecDepth 100000 in
theorem kX7_profileSpeed_no (l : Launch) (D : va_G) (cI cJ cS : ClassId) (m0 : Nat) (a : Nat → Nat) (ke th hs : Int) (f : Int → Int) (x : Int) (ok : OkF f) (hN : ¬ (0 ≤ x ∧ x ≤ f 0)) (hr_x : -2147483648 ≤ x ∧ x < 2147483648) : Met l yX7_profileSpeed wsX7_profileSpeed rmX7_profileSpeed (zPc D (zT cI cJ cS) [.ref m0, .int (zI (x))] [(m0, .inr (7, [.ref (a 0), .ref (a 1), .int (zI (ke)), .int (zI (th)), .ref (a 2), .ref (a 3), .ref (a 4), .ref (a 5), .ref (a 6), .ref (a 7), .ref (a 8), .long (zL (hs))])), (a 0, .inl (cI, 612, .inl (zA f)))]) (va_Qi (fun r _ => r = zI 0) (fun (u : Unit) t => va_P D vwCl [(m0, .inr (7, [.ref (a 0), .ref (a 1), .int (zI (ke)), .int (zI (1)), .ref (a 2), .ref (a 3), .ref (a 4), .ref (a 5), .ref (a 6), .ref (a 7), .ref (a 8), .long (zL (hs))])), (a 0, .inl (cI, 612, .inl (zA f)))] t.heap) (zAd [(m0, .inr (7, [.ref (a 0), .ref (a 1), .int (zI (ke)), .int (zI (th)), .ref (a 2), .ref (a 3), .ref (a 4), .ref (a 5), .ref (a 6), .ref (a 7), .ref (a 8), .long (zL (hs))])), (a 0, .inl (cI, 612, .inl (zA f)))])) 0 0 (zAd [(m0, .inr (7, [.ref (a 0), .ref (a 1), .int (zI (ke)), .int (zI (th)), .ref (a 2), .ref (a 3), .ref (a 4), .ref (a 5), .ref (a 6), .ref (a 7), .ref (a 8), .long (zL (hs))])), (a 0, .inl (cI, 612, .inl (zA f)))]) := by
  refine zWi_of (cc := cX7_profileSpeed) (maxL := 2) (ret := (some .int)) (by decide) rfl (Nat.le_of_ble_eq_true rfl) rfl ?_
  intro p e s m args below meth c Q A ls hx hb hml hts hown hK hP hD hS hl hret
  have hl : lv_has ls 2 [(0, .ref m0), (1, .int (zI (x)))] := hl
  have hP : va_P D vwCl [(m0, .inr (7, [.ref (a 0), .ref (a 1), .int (zI (ke)), .int (zI (th)), .ref (a 2), .ref (a 3), .ref (a 4), .ref (a 5), .ref (a 6), .ref (a 7), .ref (a 8), .long (zL (hs))])), (a 0, .inl (cI, 612, .inl (zA f)))] s.heap := hP
  obtain ⟨o0, o1, o2, o3, o4, o5, o7, o8, olim, ogrd, obar, oneed, opost⟩ := id ok
  have hfr := okF_r ok
  refine lv_aload_n hx hb dX7_profileSpeed_0 rfl (lv_at hl 0 rfl) ?_
  refine lv_aload_n hx hb dX7_profileSpeed_1 rfl (lv_at hl 0 rfl) ?_
  refine lv_iload_n hx hb dX7_profileSpeed_2 rfl (lv_at hl 1 rfl) ?_
  refine y_rV (v := zB (0 ≤ x ∧ x ≤ f 0)) (As := [.int (zI (x))]) (rest := [.ref m0]) hx hb hml hown hts hl.1 ⟨Nat.zero_le _, Nat.zero_le _⟩ (kX7_isPosition l D cI cJ cS m0 a ke th hs f x o0 (by omega)) (cwV 1 hts gX7_profileSpeed_X7_isPosition rfl rfl rfl jX7_isPosition ⟨Nat.le_of_ble_eq_true rfl, Nat.le_of_ble_eq_true rfl⟩) hK [true, true] hP hD rfl 7 0 rfl rfl rfl rfl rfl (Nat.le_of_ble_eq_true rfl) dX7_profileSpeed_3 ?_
  refine z_top (0) (zB_f (by omega)) ?_
  refine y_wVi (As := [.int (zI (0))]) (rest := []) (fun (u6 : Unit) => [(m0, .inr (7, [.ref (a 0), .ref (a 1), .int (zI (ke)), .int (zI (1)), .ref (a 2), .ref (a 3), .ref (a 4), .ref (a 5), .ref (a 6), .ref (a 7), .ref (a 8), .long (zL (hs))])), (a 0, .inl (cI, 612, .inl (zA f)))]) hx hb hml hown hts hl.1 ⟨Nat.zero_le _, Nat.zero_le _⟩ (kX7_refuses_0 l D cI cJ cS m0 a ke th hs f) (cwV 1 hts gX7_profileSpeed_X7_refuses rfl rfl rfl jX7_refuses ⟨Nat.le_of_ble_eq_true rfl, Nat.le_of_ble_eq_true rfl⟩) hK [true] hP hD hS rfl (fun _ => rfl) (fun _ => rfl) 7 0 rfl rfl rfl rfl rfl (Nat.le_of_ble_eq_true rfl) dX7_profileSpeed_6 (fun r6 u6 H locs hu6 hP hS => ?_)
  subst hu6
  refine z_if_eq (tgt := 14) hx hb dX7_profileSpeed_9 (by decide) (by omega) (fun c9 => ?_) (fun c9 => ?_)
  · exfalso; omega
  · refine z_iconst hx hb dX7_profileSpeed_12 ?_
    exact hret () rfl hP hS dX7_profileSpeed_13

set_option maxHeartbeats 4000000 in
set_option maxRecDepth 100000 in
theorem kX7_profileSpeed_ok (l : Launch) (D : va_G) (cI cJ cS : ClassId) (m0 : Nat) (a : Nat → Nat) (ke th hs : Int) (f : Int → Int) (ge gv gd gt : Int → Int) (x : Int) (ok : OkF f) (hY : 0 ≤ x ∧ x ≤ f 0) : Met l yX7_profileSpeed wsX7_profileSpeed rmX7_profileSpeed (zPc D (zT cI cJ cS) [.ref m0, .int (zI (x))] [(m0, .inr (7, [.ref (a 0), .ref (a 1), .int (zI (ke)), .int (zI (th)), .ref (a 2), .ref (a 3), .ref (a 4), .ref (a 5), .ref (a 6), .ref (a 7), .ref (a 8), .long (zL (hs))])), (a 0, .inl (cI, 612, .inl (zA f))), (a 2, .inl (cJ, 121, .inr (.inl (zAL ge)))), (a 3, .inl (cI, 121, .inl (zA gv))), (a 4, .inl (cI, 121, .inl (zA gd))), (a 5, .inl (cI, 121, .inl (zA gt)))]) (va_Qi (fun r _ => r = zI (spV f x)) (fun (u : Nat → Int → Int) t => va_P D vwCl [(m0, .inr (7, [.ref (a 0), .ref (a 1), .int (zI (ke)), .int (zI (0)), .ref (a 2), .ref (a 3), .ref (a 4), .ref (a 5), .ref (a 6), .ref (a 7), .ref (a 8), .long (zL (hs))])), (a 0, .inl (cI, 612, .inl (zA f))), (a 2, .inl (cJ, 121, .inr (.inl (zAL (u 0))))), (a 3, .inl (cI, 121, .inl (zA (u 1)))), (a 4, .inl (cI, 121, .inl (zA (u 2)))), (a 5, .inl (cI, 121, .inl (zA (u 3))))] t.heap) (zAd [(m0, .inr (7, [.ref (a 0), .ref (a 1), .int (zI (ke)), .int (zI (th)), .ref (a 2), .ref (a 3), .ref (a 4), .ref (a 5), .ref (a 6), .ref (a 7), .ref (a 8), .long (zL (hs))])), (a 0, .inl (cI, 612, .inl (zA f))), (a 2, .inl (cJ, 121, .inr (.inl (zAL ge)))), (a 3, .inl (cI, 121, .inl (zA gv))), (a 4, .inl (cI, 121, .inl (zA gd))), (a 5, .inl (cI, 121, .inl (zA gt)))])) 0 0 (zAd [(m0, .inr (7, [.ref (a 0), .ref (a 1), .int (zI (ke)), .int (zI (th)), .ref (a 2), .ref (a 3), .ref (a 4), .ref (a 5), .ref (a 6), .ref (a 7), .ref (a 8), .long (zL (hs))])), (a 0, .inl (cI, 612, .inl (zA f))), (a 2, .inl (cJ, 121, .inr (.inl (zAL ge)))), (a 3, .inl (cI, 121, .inl (zA gv))), (a 4, .inl (cI, 121, .inl (zA gd))), (a 5, .inl (cI, 121, .inl (zA gt)))]) := by
  refine zWi_of (cc := cX7_profileSpeed) (maxL := 2) (ret := (some .int)) (by decide) rfl (Nat.le_of_ble_eq_true rfl) rfl ?_
  intro p e s m args below meth c Q A ls hx hb hml hts hown hK hP hD hS hl hret
  have in7 : ∀ w ∈ wsX70, w ∈ wsX7_profileSpeed := by decide +kernel
  have f20 := hts (.fieldLink RX7 20 "SignalSpacingModel" "speeds" "[I") (by decide +kernel)
  have hl : lv_has ls 2 [(0, .ref m0), (1, .int (zI (x)))] := hl
  have hP : va_P D vwCl [(m0, .inr (7, [.ref (a 0), .ref (a 1), .int (zI (ke)), .int (zI (th)), .ref (a 2), .ref (a 3), .ref (a 4), .ref (a 5), .ref (a 6), .ref (a 7), .ref (a 8), .long (zL (hs))])), (a 0, .inl (cI, 612, .inl (zA f))), (a 2, .inl (cJ, 121, .inr (.inl (zAL ge)))), (a 3, .inl (cI, 121, .inl (zA gv))), (a 4, .inl (cI, 121, .inl (zA gd))), (a 5, .inl (cI, 121, .inl (zA gt)))] s.heap := hP
  obtain ⟨o0, o1, o2, o3, o4, o5, o7, o8, olim, ogrd, obar, oneed, opost⟩ := id ok
  have hfr := okF_r ok
  refine lv_aload_n hx hb dX7_profileSpeed_0 rfl (lv_at hl 0 rfl) ?_
  refine lv_aload_n hx hb dX7_profileSpeed_1 rfl (lv_at hl 0 rfl) ?_
  refine lv_iload_n hx hb dX7_profileSpeed_2 rfl (lv_at hl 1 rfl) ?_
  refine y_rV (v := zB (0 ≤ x ∧ x ≤ f 0)) (As := [.int (zI (x))]) (rest := [.ref m0]) hx hb hml hown hts hl.1 ⟨Nat.zero_le _, Nat.zero_le _⟩ (kX7_isPosition l D cI cJ cS m0 a ke th hs f x o0 (by omega)) (cwV 1 hts gX7_profileSpeed_X7_isPosition rfl rfl rfl jX7_isPosition ⟨Nat.le_of_ble_eq_true rfl, Nat.le_of_ble_eq_true rfl⟩) hK [true, true] hP hD rfl 7 0 rfl rfl rfl rfl rfl (Nat.le_of_ble_eq_true rfl) dX7_profileSpeed_3 ?_
  refine z_top (1) (zB_t (by omega)) ?_
  refine y_wVi (As := [.int (zI (1))]) (rest := []) (fun (u6 : Unit) => [(m0, .inr (7, [.ref (a 0), .ref (a 1), .int (zI (ke)), .int (zI (0)), .ref (a 2), .ref (a 3), .ref (a 4), .ref (a 5), .ref (a 6), .ref (a 7), .ref (a 8), .long (zL (hs))])), (a 0, .inl (cI, 612, .inl (zA f))), (a 2, .inl (cJ, 121, .inr (.inl (zAL ge)))), (a 3, .inl (cI, 121, .inl (zA gv))), (a 4, .inl (cI, 121, .inl (zA gd))), (a 5, .inl (cI, 121, .inl (zA gt)))]) hx hb hml hown hts hl.1 ⟨Nat.zero_le _, Nat.zero_le _⟩ (kX7_refuses_1 l D cI cJ cS m0 a ke th hs f) (cwV 1 hts gX7_profileSpeed_X7_refuses rfl rfl rfl jX7_refuses ⟨Nat.le_of_ble_eq_true rfl, Nat.le_of_ble_eq_true rfl⟩) hK [true] hP hD hS rfl (fun _ => rfl) (fun _ => rfl) 7 0 rfl rfl rfl rfl rfl (Nat.le_of_ble_eq_true rfl) dX7_profileSpeed_6 (fun r6 u6 H locs hu6 hP hS => ?_)
  subst hu6
  refine z_if_eq (tgt := 14) hx hb dX7_profileSpeed_9 (by decide) (by omega) (fun c9 => ?_) (fun c9 => ?_)
  · refine lv_aload_n hx hb dX7_profileSpeed_14 rfl (lv_at hl 0 rfl) ?_
    refine y_wVv (As := []) (rest := []) (fun (u15 : Nat → Int → Int) => [(m0, .inr (7, [.ref (a 0), .ref (a 1), .int (zI (ke)), .int (zI (0)), .ref (a 2), .ref (a 3), .ref (a 4), .ref (a 5), .ref (a 6), .ref (a 7), .ref (a 8), .long (zL (hs))])), (a 0, .inl (cI, 612, .inl (zA f))), (a 2, .inl (cJ, 121, .inr (.inl (zAL (u15 0))))), (a 3, .inl (cI, 121, .inl (zA (u15 1)))), (a 4, .inl (cI, 121, .inl (zA (u15 2)))), (a 5, .inl (cI, 121, .inl (zA (u15 3))))]) hx hb hml hown hts hl.1 ⟨Nat.zero_le _, Nat.zero_le _⟩ (kX7_lays l D cI cJ cS m0 a ke 0 hs f ge gv gd gt ok) (cwV 0 hts gX7_profileSpeed_X7_lays rfl rfl rfl jX7_lays ⟨Nat.le_of_ble_eq_true rfl, Nat.le_of_ble_eq_true rfl⟩) hK [true, true, true, true, true, true] hP (zD hD rfl) hS rfl (fun _ => rfl) (fun _ => rfl) 7 0 rfl rfl rfl rfl rfl (Nat.le_of_ble_eq_true rfl) dX7_profileSpeed_15 (fun u15 H locs hu15 hP hS => ?_)
    refine lv_aload_n hx hb dX7_profileSpeed_18 rfl (lv_at hl 0 rfl) ?_
    refine va_get (D := D) (ci := 7) (v := .ref (a 3)) (C := RX7) (T := TX7) (N := 12) hx hb hts in7 hown hK hP 0 rfl rfl 5 (by decide) f20 (fun _ h9 => h9) rfl dX7_profileSpeed_19 ?_
    refine lv_iload_n hx hb dX7_profileSpeed_22 rfl (lv_at hl 1 rfl) ?_
    refine z_iald hx hb hK hP 3 0 rfl rfl (by omega) (Nat.lt_of_succ_le (Nat.le_of_ble_eq_true rfl)) dX7_profileSpeed_23 ?_
    exact hret u15 (by rw [(hu15 x hY.1 hY.2).2.1]) hP hS dX7_profileSpeed_24
  · exfalso; omega

abbrev rmX7_brakingDistance : Room := { frames := 3, cells := 0, slots := 0, locals := 71 }
theorem jX7_brakingDistance : yX7_brakingDistance.cls = RX7 ∧ yX7_brakingDistance.cls ≠ "java/lang/invoke/MethodHandle" ∧ yX7_brakingDistance.cls ≠ "java/lang/invoke/VarHandle" ∧ (parseMethodDescriptor yX7_brakingDistance.desc).map (fun d => d.parameters.length) = some 1 := by decide +kernel
set_option maxHeartbeats 4000000 in
set_option maxRecDepth 100000 in
theorem kX7_brakingDistance_no (l : Launch) (D : va_G) (cI cJ cS : ClassId) (m0 : Nat) (a : Nat → Nat) (ke th hs : Int) (f : Int → Int) (x : Int) (ok : OkF f) (hN : ¬ (0 ≤ x ∧ x ≤ f 0)) (hr_x : -2147483648 ≤ x ∧ x < 2147483648) : Met l yX7_brakingDistance wsX7_brakingDistance rmX7_brakingDistance (zPc D (zT cI cJ cS) [.ref m0, .int (zI (x))] [(m0, .inr (7, [.ref (a 0), .ref (a 1), .int (zI (ke)), .int (zI (th)), .ref (a 2), .ref (a 3), .ref (a 4), .ref (a 5), .ref (a 6), .ref (a 7), .ref (a 8), .long (zL (hs))])), (a 0, .inl (cI, 612, .inl (zA f)))]) (va_Qi (fun r _ => r = zI 0) (fun (u : Unit) t => va_P D vwCl [(m0, .inr (7, [.ref (a 0), .ref (a 1), .int (zI (ke)), .int (zI (1)), .ref (a 2), .ref (a 3), .ref (a 4), .ref (a 5), .ref (a 6), .ref (a 7), .ref (a 8), .long (zL (hs))])), (a 0, .inl (cI, 612, .inl (zA f)))] t.heap) (zAd [(m0, .inr (7, [.ref (a 0), .ref (a 1), .int (zI (ke)), .int (zI (th)), .ref (a 2), .ref (a 3), .ref (a 4), .ref (a 5), .ref (a 6), .ref (a 7), .ref (a 8), .long (zL (hs))])), (a 0, .inl (cI, 612, .inl (zA f)))])) 0 0 (zAd [(m0, .inr (7, [.ref (a 0), .ref (a 1), .int (zI (ke)), .int (zI (th)), .ref (a 2), .ref (a 3), .ref (a 4), .ref (a 5), .ref (a 6), .ref (a 7), .ref (a 8), .long (zL (hs))])), (a 0, .inl (cI, 612, .inl (zA f)))]) := by
  refine zWi_of (cc := cX7_brakingDistance) (maxL := 2) (ret := (some .int)) (by decide) rfl (Nat.le_of_ble_eq_true rfl) rfl ?_
  intro p e s m args below meth c Q A ls hx hb hml hts hown hK hP hD hS hl hret
  have hl : lv_has ls 2 [(0, .ref m0), (1, .int (zI (x)))] := hl
  have hP : va_P D vwCl [(m0, .inr (7, [.ref (a 0), .ref (a 1), .int (zI (ke)), .int (zI (th)), .ref (a 2), .ref (a 3), .ref (a 4), .ref (a 5), .ref (a 6), .ref (a 7), .ref (a 8), .long (zL (hs))])), (a 0, .inl (cI, 612, .inl (zA f)))] s.heap := hP
  obtain ⟨o0, o1, o2, o3, o4, o5, o7, o8, olim, ogrd, obar, oneed, opost⟩ := id ok
  have hfr := okF_r ok
  refine lv_aload_n hx hb dX7_brakingDistance_0 rfl (lv_at hl 0 rfl) ?_
  refine lv_aload_n hx hb dX7_brakingDistance_1 rfl (lv_at hl 0 rfl) ?_
  refine lv_iload_n hx hb dX7_brakingDistance_2 rfl (lv_at hl 1 rfl) ?_
  refine y_rV (v := zB (0 ≤ x ∧ x ≤ f 0)) (As := [.int (zI (x))]) (rest := [.ref m0]) hx hb hml hown hts hl.1 ⟨Nat.zero_le _, Nat.zero_le _⟩ (kX7_isPosition l D cI cJ cS m0 a ke th hs f x o0 (by omega)) (cwV 1 hts gX7_brakingDistance_X7_isPosition rfl rfl rfl jX7_isPosition ⟨Nat.le_of_ble_eq_true rfl, Nat.le_of_ble_eq_true rfl⟩) hK [true, true] hP hD rfl 7 0 rfl rfl rfl rfl rfl (Nat.le_of_ble_eq_true rfl) dX7_brakingDistance_3 ?_
  refine z_top (0) (zB_f (by omega)) ?_
  refine y_wVi (As := [.int (zI (0))]) (rest := []) (fun (u6 : Unit) => [(m0, .inr (7, [.ref (a 0), .ref (a 1), .int (zI (ke)), .int (zI (1)), .ref (a 2), .ref (a 3), .ref (a 4), .ref (a 5), .ref (a 6), .ref (a 7), .ref (a 8), .long (zL (hs))])), (a 0, .inl (cI, 612, .inl (zA f)))]) hx hb hml hown hts hl.1 ⟨Nat.zero_le _, Nat.zero_le _⟩ (kX7_refuses_0 l D cI cJ cS m0 a ke th hs f) (cwV 1 hts gX7_brakingDistance_X7_refuses rfl rfl rfl jX7_refuses ⟨Nat.le_of_ble_eq_true rfl, Nat.le_of_ble_eq_true rfl⟩) hK [true] hP hD hS rfl (fun _ => rfl) (fun _ => rfl) 7 0 rfl rfl rfl rfl rfl (Nat.le_of_ble_eq_true rfl) dX7_brakingDistance_6 (fun r6 u6 H locs hu6 hP hS => ?_)
  subst hu6
  refine z_if_eq (tgt := 14) hx hb dX7_brakingDistance_9 (by decide) (by omega) (fun c9 => ?_) (fun c9 => ?_)
  · exfalso; omega
  · refine z_iconst hx hb dX7_brakingDistance_12 ?_
    exact hret () rfl hP hS dX7_brakingDistance_13

set_option maxHeartbeats 4000000 in
set_option maxRecDepth 100000 in
theorem kX7_brakingDistance_ok (l : Launch) (D : va_G) (cI cJ cS : ClassId) (m0 : Nat) (a : Nat → Nat) (ke th hs : Int) (f : Int → Int) (ge gv gd gt : Int → Int) (x : Int) (ok : OkF f) (hY : 0 ≤ x ∧ x ≤ f 0) : Met l yX7_brakingDistance wsX7_brakingDistance rmX7_brakingDistance (zPc D (zT cI cJ cS) [.ref m0, .int (zI (x))] [(m0, .inr (7, [.ref (a 0), .ref (a 1), .int (zI (ke)), .int (zI (th)), .ref (a 2), .ref (a 3), .ref (a 4), .ref (a 5), .ref (a 6), .ref (a 7), .ref (a 8), .long (zL (hs))])), (a 0, .inl (cI, 612, .inl (zA f))), (a 2, .inl (cJ, 121, .inr (.inl (zAL ge)))), (a 3, .inl (cI, 121, .inl (zA gv))), (a 4, .inl (cI, 121, .inl (zA gd))), (a 5, .inl (cI, 121, .inl (zA gt)))]) (va_Qi (fun r _ => r = zI (brD f x)) (fun (u : Nat → Int → Int) t => va_P D vwCl [(m0, .inr (7, [.ref (a 0), .ref (a 1), .int (zI (ke)), .int (zI (0)), .ref (a 2), .ref (a 3), .ref (a 4), .ref (a 5), .ref (a 6), .ref (a 7), .ref (a 8), .long (zL (hs))])), (a 0, .inl (cI, 612, .inl (zA f))), (a 2, .inl (cJ, 121, .inr (.inl (zAL (u 0))))), (a 3, .inl (cI, 121, .inl (zA (u 1)))), (a 4, .inl (cI, 121, .inl (zA (u 2)))), (a 5, .inl (cI, 121, .inl (zA (u 3))))] t.heap) (zAd [(m0, .inr (7, [.ref (a 0), .ref (a 1), .int (zI (ke)), .int (zI (th)), .ref (a 2), .ref (a 3), .ref (a 4), .ref (a 5), .ref (a 6), .ref (a 7), .ref (a 8), .long (zL (hs))])), (a 0, .inl (cI, 612, .inl (zA f))), (a 2, .inl (cJ, 121, .inr (.inl (zAL ge)))), (a 3, .inl (cI, 121, .inl (zA gv))), (a 4, .inl (cI, 121, .inl (zA gd))), (a 5, .inl (cI, 121, .inl (zA gt)))])) 0 0 (zAd [(m0, .inr (7, [.ref (a 0), .ref (a 1), .int (zI (ke)), .int (zI (th)), .ref (a 2), .ref (a 3), .ref (a 4), .ref (a 5), .ref (a 6), .ref (a 7), .ref (a 8), .long (zL (hs))])), (a 0, .inl (cI, 612, .inl (zA f))), (a 2, .inl (cJ, 121, .inr (.inl (zAL ge)))), (a 3, .inl (cI, 121, .inl (zA gv))), (a 4, .inl (cI, 121, .inl (zA gd))), (a 5, .inl (cI, 121, .inl (zA gt)))]) := by
  refine zWi_of (cc := cX7_brakingDistance) (maxL := 2) (ret := (some .int)) (by decide) rfl (Nat.le_of_ble_eq_true rfl) rfl ?_
  intro p e s m args below meth c Q A ls hx hb hml hts hown hK hP hD hS hl hret
  have in7 : ∀ w ∈ wsX70, w ∈ wsX7_brakingDistance := by decide +kernel
  have f23 := hts (.fieldLink RX7 23 "SignalSpacingModel" "distances" "[I") (by decide +kernel)
  have hl : lv_has ls 2 [(0, .ref m0), (1, .int (zI (x)))] := hl
  have hP : va_P D vwCl [(m0, .inr (7, [.ref (a 0), .ref (a 1), .int (zI (ke)), .int (zI (th)), .ref (a 2), .ref (a 3), .ref (a 4), .ref (a 5), .ref (a 6), .ref (a 7), .ref (a 8), .long (zL (hs))])), (a 0, .inl (cI, 612, .inl (zA f))), (a 2, .inl (cJ, 121, .inr (.inl (zAL ge)))), (a 3, .inl (cI, 121, .inl (zA gv))), (a 4, .inl (cI, 121, .inl (zA gd))), (a 5, .inl (cI, 121, .inl (zA gt)))] s.heap := hP
  obtain ⟨o0, o1, o2, o3, o4, o5, o7, o8, olim, ogrd, obar, oneed, opost⟩ := id ok
  have hfr := okF_r ok
  refine lv_aload_n hx hb dX7_brakingDistance_0 rfl (lv_at hl 0 rfl) ?_
  refine lv_aload_n hx hb dX7_brakingDistance_1 rfl (lv_at hl 0 rfl) ?_
  refine lv_iload_n hx hb dX7_brakingDistance_2 rfl (lv_at hl 1 rfl) ?_
  refine y_rV (v := zB (0 ≤ x ∧ x ≤ f 0)) (As := [.int (zI (x))]) (rest := [.ref m0]) hx hb hml hown hts hl.1 ⟨Nat.zero_le _, Nat.zero_le _⟩ (kX7_isPosition l D cI cJ cS m0 a ke th hs f x o0 (by omega)) (cwV 1 hts gX7_brakingDistance_X7_isPosition rfl rfl rfl jX7_isPosition ⟨Nat.le_of_ble_eq_true rfl, Nat.le_of_ble_eq_true rfl⟩) hK [true, true] hP hD rfl 7 0 rfl rfl rfl rfl rfl (Nat.le_of_ble_eq_true rfl) dX7_brakingDistance_3 ?_
  refine z_top (1) (zB_t (by omega)) ?_
  refine y_wVi (As := [.int (zI (1))]) (rest := []) (fun (u6 : Unit) => [(m0, .inr (7, [.ref (a 0), .ref (a 1), .int (zI (ke)), .int (zI (0)), .ref (a 2), .ref (a 3), .ref (a 4), .ref (a 5), .ref (a 6), .ref (a 7), .ref (a 8), .long (zL (hs))])), (a 0, .inl (cI, 612, .inl (zA f))), (a 2, .inl (cJ, 121, .inr (.inl (zAL ge)))), (a 3, .inl (cI, 121, .inl (zA gv))), (a 4, .inl (cI, 121, .inl (zA gd))), (a 5, .inl (cI, 121, .inl (zA gt)))]) hx hb hml hown hts hl.1 ⟨Nat.zero_le _, Nat.zero_le _⟩ (kX7_refuses_1 l D cI cJ cS m0 a ke th hs f) (cwV 1 hts gX7_brakingDistance_X7_refuses rfl rfl rfl jX7_refuses ⟨Nat.le_of_ble_eq_true rfl, Nat.le_of_ble_eq_true rfl⟩) hK [true] hP hD hS rfl (fun _ => rfl) (fun _ => rfl) 7 0 rfl rfl rfl rfl rfl (Nat.le_of_ble_eq_true rfl) dX7_brakingDistance_6 (fun r6 u6 H locs hu6 hP hS => ?_)
  subst hu6
  refine z_if_eq (tgt := 14) hx hb dX7_brakingDistance_9 (by decide) (by omega) (fun c9 => ?_) (fun c9 => ?_)
  · refine lv_aload_n hx hb dX7_brakingDistance_14 rfl (lv_at hl 0 rfl) ?_
    refine y_wVv (As := []) (rest := []) (fun (u15 : Nat → Int → Int) => [(m0, .inr (7, [.ref (a 0), .ref (a 1), .int (zI (ke)), .int (zI (0)), .ref (a 2), .ref (a 3), .ref (a 4), .ref (a 5), .ref (a 6), .ref (a 7), .ref (a 8), .long (zL (hs))])), (a 0, .inl (cI, 612, .inl (zA f))), (a 2, .inl (cJ, 121, .inr (.inl (zAL (u15 0))))), (a 3, .inl (cI, 121, .inl (zA (u15 1)))), (a 4, .inl (cI, 121, .inl (zA (u15 2)))), (a 5, .inl (cI, 121, .inl (zA (u15 3))))]) hx hb hml hown hts hl.1 ⟨Nat.zero_le _, Nat.zero_le _⟩ (kX7_lays l D cI cJ cS m0 a ke 0 hs f ge gv gd gt ok) (cwV 0 hts gX7_brakingDistance_X7_lays rfl rfl rfl jX7_lays ⟨Nat.le_of_ble_eq_true rfl, Nat.le_of_ble_eq_true rfl⟩) hK [true, true, true, true, true, true] hP (zD hD rfl) hS rfl (fun _ => rfl) (fun _ => rfl) 7 0 rfl rfl rfl rfl rfl (Nat.le_of_ble_eq_true rfl) dX7_brakingDistance_15 (fun u15 H locs hu15 hP hS => ?_)
    refine lv_aload_n hx hb dX7_brakingDistance_18 rfl (lv_at hl 0 rfl) ?_
    refine va_get (D := D) (ci := 7) (v := .ref (a 4)) (C := RX7) (T := TX7) (N := 12) hx hb hts in7 hown hK hP 0 rfl rfl 6 (by decide) f23 (fun _ h9 => h9) rfl dX7_brakingDistance_19 ?_
    refine lv_iload_n hx hb dX7_brakingDistance_22 rfl (lv_at hl 1 rfl) ?_
    refine z_iald hx hb hK hP 4 0 rfl rfl (by omega) (Nat.lt_of_succ_le (Nat.le_of_ble_eq_true rfl)) dX7_brakingDistance_23 ?_
    exact hret u15 (by rw [(hu15 x hY.1 hY.2).2.2.1]) hP hS dX7_brakingDistance_24
  · exfalso; omega

abbrev rmX7_travelTime : Room := { frames := 3, cells := 0, slots := 0, locals := 71 }
theorem jX7_travelTime : yX7_travelTime.cls = RX7 ∧ yX7_travelTime.cls ≠ "java/lang/invoke/MethodHandle" ∧ yX7_travelTime.cls ≠ "java/lang/invoke/VarHandle" ∧ (parseMethodDescriptor yX7_travelTime.desc).map (fun d => d.parameters.length) = some 2 := by decide +kernel
set_option maxHeartbeats 4000000 in
set_option maxRecDepth 100000 in
theorem kX7_travelTime_no (l : Launch) (D : va_G) (cI cJ cS : ClassId) (m0 : Nat) (a : Nat → Nat) (ke th hs : Int) (f : Int → Int) (x z : Int) (ok : OkF f) (hN : ¬ (0 ≤ x ∧ x ≤ z ∧ z ≤ f 0)) (hr_x : -2147483648 ≤ x ∧ x < 2147483648) (hr_z : -2147483648 ≤ z ∧ z < 2147483648) : Met l yX7_travelTime wsX7_travelTime rmX7_travelTime (zPc D (zT cI cJ cS) [.ref m0, .int (zI (x)), .int (zI (z))] [(m0, .inr (7, [.ref (a 0), .ref (a 1), .int (zI (ke)), .int (zI (th)), .ref (a 2), .ref (a 3), .ref (a 4), .ref (a 5), .ref (a 6), .ref (a 7), .ref (a 8), .long (zL (hs))])), (a 0, .inl (cI, 612, .inl (zA f)))]) (va_Qi (fun r _ => r = zI 0) (fun (u : Unit) t => va_P D vwCl [(m0, .inr (7, [.ref (a 0), .ref (a 1), .int (zI (ke)), .int (zI (1)), .ref (a 2), .ref (a 3), .ref (a 4), .ref (a 5), .ref (a 6), .ref (a 7), .ref (a 8), .long (zL (hs))])), (a 0, .inl (cI, 612, .inl (zA f)))] t.heap) (zAd [(m0, .inr (7, [.ref (a 0), .ref (a 1), .int (zI (ke)), .int (zI (th)), .ref (a 2), .ref (a 3), .ref (a 4), .ref (a 5), .ref (a 6), .ref (a 7), .ref (a 8), .long (zL (hs))])), (a 0, .inl (cI, 612, .inl (zA f)))])) 0 0 (zAd [(m0, .inr (7, [.ref (a 0), .ref (a 1), .int (zI (ke)), .int (zI (th)), .ref (a 2), .ref (a 3), .ref (a 4), .ref (a 5), .ref (a 6), .ref (a 7), .ref (a 8), .long (zL (hs))])), (a 0, .inl (cI, 612, .inl (zA f)))]) := by
  refine zWi_of (cc := cX7_travelTime) (maxL := 3) (ret := (some .int)) (by decide) rfl (Nat.le_of_ble_eq_true rfl) rfl ?_
  intro p e s m args below meth c Q A ls hx hb hml hts hown hK hP hD hS hl hret
  have hl : lv_has ls 3 [(0, .ref m0), (1, .int (zI (x))), (2, .int (zI (z)))] := hl
  have hP : va_P D vwCl [(m0, .inr (7, [.ref (a 0), .ref (a 1), .int (zI (ke)), .int (zI (th)), .ref (a 2), .ref (a 3), .ref (a 4), .ref (a 5), .ref (a 6), .ref (a 7), .ref (a 8), .long (zL (hs))])), (a 0, .inl (cI, 612, .inl (zA f)))] s.heap := hP
  obtain ⟨o0, o1, o2, o3, o4, o5, o7, o8, olim, ogrd, obar, oneed, opost⟩ := id ok
  have hfr := okF_r ok
  refine lv_aload_n hx hb dX7_travelTime_0 rfl (lv_at hl 0 rfl) ?_
  refine lv_aload_n hx hb dX7_travelTime_1 rfl (lv_at hl 0 rfl) ?_
  refine lv_iload_n hx hb dX7_travelTime_2 rfl (lv_at hl 1 rfl) ?_
  refine y_rV (v := zB (0 ≤ x ∧ x ≤ f 0)) (As := [.int (zI (x))]) (rest := [.ref m0]) hx hb hml hown hts hl.1 ⟨Nat.zero_le _, Nat.zero_le _⟩ (kX7_isPosition l D cI cJ cS m0 a ke th hs f x o0 (by omega)) (cwV 1 hts gX7_travelTime_X7_isPosition rfl rfl rfl jX7_isPosition ⟨Nat.le_of_ble_eq_true rfl, Nat.le_of_ble_eq_true rfl⟩) hK [true, true] hP hD rfl 7 0 rfl rfl rfl rfl rfl (Nat.le_of_ble_eq_true rfl) dX7_travelTime_3 ?_
  refine z_if_eq (tgt := 26) hx hb dX7_travelTime_6 (by decide) (by have hz := zB_01 (0 ≤ x ∧ x ≤ f 0); omega) (fun c6 => ?_) (fun c6 => ?_)
  · have c6 := zB_0.mp c6
    refine z_iconst hx hb dX7_travelTime_26 ?_
    refine y_wVi (As := [.int (zI (0))]) (rest := []) (fun (u27 : Unit) => [(m0, .inr (7, [.ref (a 0), .ref (a 1), .int (zI (ke)), .int (zI (1)), .ref (a 2), .ref (a 3), .ref (a 4), .ref (a 5), .ref (a 6), .ref (a 7), .ref (a 8), .long (zL (hs))])), (a 0, .inl (cI, 612, .inl (zA f)))]) hx hb hml hown hts hl.1 ⟨Nat.zero_le _, Nat.zero_le _⟩ (kX7_refuses_0 l D cI cJ cS m0 a ke th hs f) (cwV 1 hts gX7_travelTime_X7_refuses rfl rfl rfl jX7_refuses ⟨Nat.le_of_ble_eq_true rfl, Nat.le_of_ble_eq_true rfl⟩) hK [true] hP hD hS rfl (fun _ => rfl) (fun _ => rfl) 7 0 rfl rfl rfl rfl rfl (Nat.le_of_ble_eq_true rfl) dX7_travelTime_27 (fun r27 u27 H locs hu27 hP hS => ?_)
    subst hu27
    refine z_if_eq (tgt := 35) hx hb dX7_travelTime_30 (by decide) (by omega) (fun c30 => ?_) (fun c30 => ?_)
    · exfalso; omega
    · refine z_iconst hx hb dX7_travelTime_33 ?_
      exact hret () rfl hP hS dX7_travelTime_34
  · have c6 := zB_n0.mp c6
    refine lv_aload_n hx hb dX7_travelTime_9 rfl (lv_at hl 0 rfl) ?_
    refine lv_iload_n hx hb dX7_travelTime_10 rfl (lv_at hl 2 rfl) ?_
    refine y_rV (v := zB (0 ≤ z ∧ z ≤ f 0)) (As := [.int (zI (z))]) (rest := [.ref m0]) hx hb hml hown hts hl.1 ⟨Nat.zero_le _, Nat.zero_le _⟩ (kX7_isPosition l D cI cJ cS m0 a ke th hs f z o0 (by omega)) (cwV 1 hts gX7_travelTime_X7_isPosition rfl rfl rfl jX7_isPosition ⟨Nat.le_of_ble_eq_true rfl, Nat.le_of_ble_eq_true rfl⟩) hK [true, true] hP hD rfl 7 0 rfl rfl rfl rfl rfl (Nat.le_of_ble_eq_true rfl) dX7_travelTime_11 ?_
    refine z_if_eq (tgt := 26) hx hb dX7_travelTime_14 (by decide) (by have hz := zB_01 (0 ≤ z ∧ z ≤ f 0); omega) (fun c14 => ?_) (fun c14 => ?_)
    · have c14 := zB_0.mp c14
      refine z_iconst hx hb dX7_travelTime_26 ?_
      refine y_wVi (As := [.int (zI (0))]) (rest := []) (fun (u27 : Unit) => [(m0, .inr (7, [.ref (a 0), .ref (a 1), .int (zI (ke)), .int (zI (1)), .ref (a 2), .ref (a 3), .ref (a 4), .ref (a 5), .ref (a 6), .ref (a 7), .ref (a 8), .long (zL (hs))])), (a 0, .inl (cI, 612, .inl (zA f)))]) hx hb hml hown hts hl.1 ⟨Nat.zero_le _, Nat.zero_le _⟩ (kX7_refuses_0 l D cI cJ cS m0 a ke th hs f) (cwV 1 hts gX7_travelTime_X7_refuses rfl rfl rfl jX7_refuses ⟨Nat.le_of_ble_eq_true rfl, Nat.le_of_ble_eq_true rfl⟩) hK [true] hP hD hS rfl (fun _ => rfl) (fun _ => rfl) 7 0 rfl rfl rfl rfl rfl (Nat.le_of_ble_eq_true rfl) dX7_travelTime_27 (fun r27 u27 H locs hu27 hP hS => ?_)
      subst hu27
      refine z_if_eq (tgt := 35) hx hb dX7_travelTime_30 (by decide) (by omega) (fun c30 => ?_) (fun c30 => ?_)
      · exfalso; omega
      · refine z_iconst hx hb dX7_travelTime_33 ?_
        exact hret () rfl hP hS dX7_travelTime_34
    · have c14 := zB_n0.mp c14
      refine lv_iload_n hx hb dX7_travelTime_17 rfl (lv_at hl 1 rfl) ?_
      refine lv_iload_n hx hb dX7_travelTime_18 rfl (lv_at hl 2 rfl) ?_
      refine z_icmp_gt (tgt := 26) hx hb dX7_travelTime_19 (by decide) (by omega) (by omega) (fun c19 => ?_) (fun c19 => ?_)
      · refine z_iconst hx hb dX7_travelTime_26 ?_
        refine y_wVi (As := [.int (zI (0))]) (rest := []) (fun (u27 : Unit) => [(m0, .inr (7, [.ref (a 0), .ref (a 1), .int (zI (ke)), .int (zI (1)), .ref (a 2), .ref (a 3), .ref (a 4), .ref (a 5), .ref (a 6), .ref (a 7), .ref (a 8), .long (zL (hs))])), (a 0, .inl (cI, 612, .inl (zA f)))]) hx hb hml hown hts hl.1 ⟨Nat.zero_le _, Nat.zero_le _⟩ (kX7_refuses_0 l D cI cJ cS m0 a ke th hs f) (cwV 1 hts gX7_travelTime_X7_refuses rfl rfl rfl jX7_refuses ⟨Nat.le_of_ble_eq_true rfl, Nat.le_of_ble_eq_true rfl⟩) hK [true] hP hD hS rfl (fun _ => rfl) (fun _ => rfl) 7 0 rfl rfl rfl rfl rfl (Nat.le_of_ble_eq_true rfl) dX7_travelTime_27 (fun r27 u27 H locs hu27 hP hS => ?_)
        subst hu27
        refine z_if_eq (tgt := 35) hx hb dX7_travelTime_30 (by decide) (by omega) (fun c30 => ?_) (fun c30 => ?_)
        · exfalso; omega
        · refine z_iconst hx hb dX7_travelTime_33 ?_
          exact hret () rfl hP hS dX7_travelTime_34
      · exfalso; omega

set_option maxHeartbeats 4000000 in
set_option maxRecDepth 100000 in
theorem kX7_travelTime_ok (l : Launch) (D : va_G) (cI cJ cS : ClassId) (m0 : Nat) (a : Nat → Nat) (ke th hs : Int) (f : Int → Int) (ge gv gd gt : Int → Int) (x z : Int) (ok : OkF f) (hY : 0 ≤ x ∧ x ≤ z ∧ z ≤ f 0) : Met l yX7_travelTime wsX7_travelTime rmX7_travelTime (zPc D (zT cI cJ cS) [.ref m0, .int (zI (x)), .int (zI (z))] [(m0, .inr (7, [.ref (a 0), .ref (a 1), .int (zI (ke)), .int (zI (th)), .ref (a 2), .ref (a 3), .ref (a 4), .ref (a 5), .ref (a 6), .ref (a 7), .ref (a 8), .long (zL (hs))])), (a 0, .inl (cI, 612, .inl (zA f))), (a 2, .inl (cJ, 121, .inr (.inl (zAL ge)))), (a 3, .inl (cI, 121, .inl (zA gv))), (a 4, .inl (cI, 121, .inl (zA gd))), (a 5, .inl (cI, 121, .inl (zA gt)))]) (va_Qi (fun r _ => r = zI (tiT f z - tiT f x)) (fun (u : Nat → Int → Int) t => va_P D vwCl [(m0, .inr (7, [.ref (a 0), .ref (a 1), .int (zI (ke)), .int (zI (0)), .ref (a 2), .ref (a 3), .ref (a 4), .ref (a 5), .ref (a 6), .ref (a 7), .ref (a 8), .long (zL (hs))])), (a 0, .inl (cI, 612, .inl (zA f))), (a 2, .inl (cJ, 121, .inr (.inl (zAL (u 0))))), (a 3, .inl (cI, 121, .inl (zA (u 1)))), (a 4, .inl (cI, 121, .inl (zA (u 2)))), (a 5, .inl (cI, 121, .inl (zA (u 3))))] t.heap) (zAd [(m0, .inr (7, [.ref (a 0), .ref (a 1), .int (zI (ke)), .int (zI (th)), .ref (a 2), .ref (a 3), .ref (a 4), .ref (a 5), .ref (a 6), .ref (a 7), .ref (a 8), .long (zL (hs))])), (a 0, .inl (cI, 612, .inl (zA f))), (a 2, .inl (cJ, 121, .inr (.inl (zAL ge)))), (a 3, .inl (cI, 121, .inl (zA gv))), (a 4, .inl (cI, 121, .inl (zA gd))), (a 5, .inl (cI, 121, .inl (zA gt)))])) 0 0 (zAd [(m0, .inr (7, [.ref (a 0), .ref (a 1), .int (zI (ke)), .int (zI (th)), .ref (a 2), .ref (a 3), .ref (a 4), .ref (a 5), .ref (a 6), .ref (a 7), .ref (a 8), .long (zL (hs))])), (a 0, .inl (cI, 612, .inl (zA f))), (a 2, .inl (cJ, 121, .inr (.inl (zAL ge)))), (a 3, .inl (cI, 121, .inl (zA gv))), (a 4, .inl (cI, 121, .inl (zA gd))), (a 5, .inl (cI, 121, .inl (zA gt)))]) := by
  refine zWi_of (cc := cX7_travelTime) (maxL := 3) (ret := (some .int)) (by decide) rfl (Nat.le_of_ble_eq_true rfl) rfl ?_
  intro p e s m args below meth c Q A ls hx hb hml hts hown hK hP hD hS hl hret
  have in7 : ∀ w ∈ wsX70, w ∈ wsX7_travelTime := by decide +kernel
  have f26 := hts (.fieldLink RX7 26 "SignalSpacingModel" "times" "[I") (by decide +kernel)
  have hl : lv_has ls 3 [(0, .ref m0), (1, .int (zI (x))), (2, .int (zI (z)))] := hl
  have hP : va_P D vwCl [(m0, .inr (7, [.ref (a 0), .ref (a 1), .int (zI (ke)), .int (zI (th)), .ref (a 2), .ref (a 3), .ref (a 4), .ref (a 5), .ref (a 6), .ref (a 7), .ref (a 8), .long (zL (hs))])), (a 0, .inl (cI, 612, .inl (zA f))), (a 2, .inl (cJ, 121, .inr (.inl (zAL ge)))), (a 3, .inl (cI, 121, .inl (zA gv))), (a 4, .inl (cI, 121, .inl (zA gd))), (a 5, .inl (cI, 121, .inl (zA gt)))] s.heap := hP
  obtain ⟨o0, o1, o2, o3, o4, o5, o7, o8, olim, ogrd, obar, oneed, opost⟩ := id ok
  have hfr := okF_r ok
  refine lv_aload_n hx hb dX7_travelTime_0 rfl (lv_at hl 0 rfl) ?_
  refine lv_aload_n hx hb dX7_travelTime_1 rfl (lv_at hl 0 rfl) ?_
  refine lv_iload_n hx hb dX7_travelTime_2 rfl (lv_at hl 1 rfl) ?_
  refine y_rV (v := zB (0 ≤ x ∧ x ≤ f 0)) (As := [.int (zI (x))]) (rest := [.ref m0]) hx hb hml hown hts hl.1 ⟨Nat.zero_le _, Nat.zero_le _⟩ (kX7_isPosition l D cI cJ cS m0 a ke th hs f x o0 (by omega)) (cwV 1 hts gX7_travelTime_X7_isPosition rfl rfl rfl jX7_isPosition ⟨Nat.le_of_ble_eq_true rfl, Nat.le_of_ble_eq_true rfl⟩) hK [true, true] hP hD rfl 7 0 rfl rfl rfl rfl rfl (Nat.le_of_ble_eq_true rfl) dX7_travelTime_3 ?_
  refine z_top (1) (zB_t (by omega)) ?_
  refine z_if_eq (tgt := 26) hx hb dX7_travelTime_6 (by decide) (by omega) (fun c6 => ?_) (fun c6 => ?_)
  · exfalso; omega
  · refine lv_aload_n hx hb dX7_travelTime_9 rfl (lv_at hl 0 rfl) ?_
    refine lv_iload_n hx hb dX7_travelTime_10 rfl (lv_at hl 2 rfl) ?_
    refine y_rV (v := zB (0 ≤ z ∧ z ≤ f 0)) (As := [.int (zI (z))]) (rest := [.ref m0]) hx hb hml hown hts hl.1 ⟨Nat.zero_le _, Nat.zero_le _⟩ (kX7_isPosition l D cI cJ cS m0 a ke th hs f z o0 (by omega)) (cwV 1 hts gX7_travelTime_X7_isPosition rfl rfl rfl jX7_isPosition ⟨Nat.le_of_ble_eq_true rfl, Nat.le_of_ble_eq_true rfl⟩) hK [true, true] hP hD rfl 7 0 rfl rfl rfl rfl rfl (Nat.le_of_ble_eq_true rfl) dX7_travelTime_11 ?_
    refine z_top (1) (zB_t (by omega)) ?_
    refine z_if_eq (tgt := 26) hx hb dX7_travelTime_14 (by decide) (by omega) (fun c14 => ?_) (fun c14 => ?_)
    · exfalso; omega
    · refine lv_iload_n hx hb dX7_travelTime_17 rfl (lv_at hl 1 rfl) ?_
      refine lv_iload_n hx hb dX7_travelTime_18 rfl (lv_at hl 2 rfl) ?_
      refine z_icmp_gt (tgt := 26) hx hb dX7_travelTime_19 (by decide) (by omega) (by omega) (fun c19 => ?_) (fun c19 => ?_)
      · exfalso; omega
      · refine z_iconst hx hb dX7_travelTime_22 ?_
        refine lv_goto (tgt := 27) hx hb dX7_travelTime_23 (by decide) ?_
        refine y_wVi (As := [.int (zI (1))]) (rest := []) (fun (u27 : Unit) => [(m0, .inr (7, [.ref (a 0), .ref (a 1), .int (zI (ke)), .int (zI (0)), .ref (a 2), .ref (a 3), .ref (a 4), .ref (a 5), .ref (a 6), .ref (a 7), .ref (a 8), .long (zL (hs))])), (a 0, .inl (cI, 612, .inl (zA f))), (a 2, .inl (cJ, 121, .inr (.inl (zAL ge)))), (a 3, .inl (cI, 121, .inl (zA gv))), (a 4, .inl (cI, 121, .inl (zA gd))), (a 5, .inl (cI, 121, .inl (zA gt)))]) hx hb hml hown hts hl.1 ⟨Nat.zero_le _, Nat.zero_le _⟩ (kX7_refuses_1 l D cI cJ cS m0 a ke th hs f) (cwV 1 hts gX7_travelTime_X7_refuses rfl rfl rfl jX7_refuses ⟨Nat.le_of_ble_eq_true rfl, Nat.le_of_ble_eq_true rfl⟩) hK [true] hP hD hS rfl (fun _ => rfl) (fun _ => rfl) 7 0 rfl rfl rfl rfl rfl (Nat.le_of_ble_eq_true rfl) dX7_travelTime_27 (fun r27 u27 H locs hu27 hP hS => ?_)
        subst hu27
        refine z_if_eq (tgt := 35) hx hb dX7_travelTime_30 (by decide) (by omega) (fun c30 => ?_) (fun c30 => ?_)
        · refine lv_aload_n hx hb dX7_travelTime_35 rfl (lv_at hl 0 rfl) ?_
          refine y_wVv (As := []) (rest := []) (fun (u36 : Nat → Int → Int) => [(m0, .inr (7, [.ref (a 0), .ref (a 1), .int (zI (ke)), .int (zI (0)), .ref (a 2), .ref (a 3), .ref (a 4), .ref (a 5), .ref (a 6), .ref (a 7), .ref (a 8), .long (zL (hs))])), (a 0, .inl (cI, 612, .inl (zA f))), (a 2, .inl (cJ, 121, .inr (.inl (zAL (u36 0))))), (a 3, .inl (cI, 121, .inl (zA (u36 1)))), (a 4, .inl (cI, 121, .inl (zA (u36 2)))), (a 5, .inl (cI, 121, .inl (zA (u36 3))))]) hx hb hml hown hts hl.1 ⟨Nat.zero_le _, Nat.zero_le _⟩ (kX7_lays l D cI cJ cS m0 a ke 0 hs f ge gv gd gt ok) (cwV 0 hts gX7_travelTime_X7_lays rfl rfl rfl jX7_lays ⟨Nat.le_of_ble_eq_true rfl, Nat.le_of_ble_eq_true rfl⟩) hK [true, true, true, true, true, true] hP (zD hD rfl) hS rfl (fun _ => rfl) (fun _ => rfl) 7 0 rfl rfl rfl rfl rfl (Nat.le_of_ble_eq_true rfl) dX7_travelTime_36 (fun u36 H locs hu36 hP hS => ?_)
          refine lv_aload_n hx hb dX7_travelTime_39 rfl (lv_at hl 0 rfl) ?_
          refine va_get (D := D) (ci := 7) (v := .ref (a 5)) (C := RX7) (T := TX7) (N := 12) hx hb hts in7 hown hK hP 0 rfl rfl 7 (by decide) f26 (fun _ h9 => h9) rfl dX7_travelTime_40 ?_
          refine lv_iload_n hx hb dX7_travelTime_43 rfl (lv_at hl 2 rfl) ?_
          refine z_iald hx hb hK hP 5 0 rfl rfl (by omega) (Nat.lt_of_succ_le (Nat.le_of_ble_eq_true rfl)) dX7_travelTime_44 ?_
          refine lv_aload_n hx hb dX7_travelTime_45 rfl (lv_at hl 0 rfl) ?_
          refine va_get (D := D) (ci := 7) (v := .ref (a 5)) (C := RX7) (T := TX7) (N := 12) hx hb hts in7 hown hK hP 0 rfl rfl 7 (by decide) f26 (fun _ h9 => h9) rfl dX7_travelTime_46 ?_
          refine lv_iload_n hx hb dX7_travelTime_49 rfl (lv_at hl 1 rfl) ?_
          refine z_iald hx hb hK hP 5 0 rfl rfl (by omega) (Nat.lt_of_succ_le (Nat.le_of_ble_eq_true rfl)) dX7_travelTime_50 ?_
          refine z_isub hx hb dX7_travelTime_51 ?_
          exact hret u36 (by rw [(hu36 x hY.1 (by omega)).2.2.2, (hu36 z (by omega) hY.2.2).2.2.2]) hP hS dX7_travelTime_52
        · exfalso; omega

abbrev rmX7_layRow : Room := { frames := 0, cells := 0, slots := 0, locals := 0 }
theorem jX7_layRow : yX7_layRow.cls = RX7 ∧ yX7_layRow.cls ≠ "java/lang/invoke/MethodHandle" ∧ yX7_layRow.cls ≠ "java/lang/invoke/VarHandle" ∧ (parseMethodDescriptor yX7_layRow.desc).map (fun d => d.parameters.length) = some 0 := by decide +kernel
set_option maxHeartbeats 4000000 in
set_option maxRecDepth 100000 in
theorem kX7_layRow (l : Launch) (D : va_G) (cI cJ cS : ClassId) (m0 : Nat) (a : Nat → Nat) (ke th hs : Int) (f : Int → Int) (gr : Int → Int) (ok : OkF f) : Met l yX7_layRow wsX7_layRow rmX7_layRow (zPc D (zT cI cJ cS) [.ref m0] [(m0, .inr (7, [.ref (a 0), .ref (a 1), .int (zI (ke)), .int (zI (th)), .ref (a 2), .ref (a 3), .ref (a 4), .ref (a 5), .ref (a 6), .ref (a 7), .ref (a 8), .long (zL (hs))])), (a 0, .inl (cI, 612, .inl (zA f))), (a 6, .inl (cI, 121, .inl (zA gr)))]) (va_Qi (fun r u => r = zI (rank f (f 0 + 1)) ∧ Rep f u (rank f (f 0 + 1))) (fun (u : Int → Int) t => va_P D vwCl [(m0, .inr (7, [.ref (a 0), .ref (a 1), .int (zI (ke)), .int (zI (th)), .ref (a 2), .ref (a 3), .ref (a 4), .ref (a 5), .ref (a 6), .ref (a 7), .ref (a 8), .long (zL (hs))])), (a 0, .inl (cI, 612, .inl (zA f))), (a 6, .inl (cI, 121, .inl (zA u)))] t.heap) (zAd [(m0, .inr (7, [.ref (a 0), .ref (a 1), .int (zI (ke)), .int (zI (th)), .ref (a 2), .ref (a 3), .ref (a 4), .ref (a 5), .ref (a 6), .ref (a 7), .ref (a 8), .long (zL (hs))])), (a 0, .inl (cI, 612, .inl (zA f))), (a 6, .inl (cI, 121, .inl (zA gr)))])) 0 0 (zAd [(m0, .inr (7, [.ref (a 0), .ref (a 1), .int (zI (ke)), .int (zI (th)), .ref (a 2), .ref (a 3), .ref (a 4), .ref (a 5), .ref (a 6), .ref (a 7), .ref (a 8), .long (zL (hs))])), (a 0, .inl (cI, 612, .inl (zA f))), (a 6, .inl (cI, 121, .inl (zA gr)))]) := by
  refine zWi_of (cc := cX7_layRow) (maxL := 3) (ret := (some .int)) (by decide) rfl (Nat.le_of_ble_eq_true rfl) rfl ?_
  intro p e s m args below meth c Q A ls hx hb hml hts hown hK hP hD hS hl hret
  have in7 : ∀ w ∈ wsX70, w ∈ wsX7_layRow := by decide +kernel
  have f7 := hts (.fieldLink RX7 7 "SignalSpacingModel" "now" "[I") (by decide +kernel)
  have f29 := hts (.fieldLink RX7 29 "SignalSpacingModel" "row" "[I") (by decide +kernel)
  have hl : lv_has ls 3 [(0, .ref m0)] := hl
  have hP : va_P D vwCl [(m0, .inr (7, [.ref (a 0), .ref (a 1), .int (zI (ke)), .int (zI (th)), .ref (a 2), .ref (a 3), .ref (a 4), .ref (a 5), .ref (a 6), .ref (a 7), .ref (a 8), .long (zL (hs))])), (a 0, .inl (cI, 612, .inl (zA f))), (a 6, .inl (cI, 121, .inl (zA gr)))] s.heap := hP
  obtain ⟨o0, o1, o2, o3, o4, o5, o7, o8, olim, ogrd, obar, oneed, opost⟩ := id ok
  refine z_iconst hx hb dX7_layRow_0 ?_
  refine lv_istore_n (lv' := [(1, .int (zI (0))), (0, .ref m0)]) hx hb dX7_layRow_1 rfl hl (by decide) rfl (fun ls hl => ?_)
  refine z_iconst hx hb dX7_layRow_2 ?_
  refine lv_istore_n (lv' := [(2, .int (zI (0))), (1, .int (zI (0))), (0, .ref m0)]) hx hb dX7_layRow_3 rfl hl (by decide) rfl (fun ls hl => ?_)
  have L4 : ∀ (fuel : Nat), ∀ (n : Int) (x : Int) (g : Int → Int), ∀ (h1 : 0 ≤ x ∧ x ≤ f 0 + 1), ∀ (hn : n = rank f x), ∀ (hg : ∀ y : Int, 0 ≤ y → y < x → f (491 + y) = 1 → g (rank f y) = y), (f 0 + 1 - x).toNat < fuel → ∀ (H : Heap) (locs : List Loc), va_P D vwCl [(m0, .inr (7, [.ref (a 0), .ref (a 1), .int (zI (ke)), .int (zI (th)), .ref (a 2), .ref (a 3), .ref (a 4), .ref (a 5), .ref (a 6), .ref (a 7), .ref (a 8), .long (zL (hs))])), (a 0, .inl (cI, 612, .inl (zA f))), (a 6, .inl (cI, 121, .inl (zA g)))] H → va_S A s.heap H locs → ∀ (ls : Array Slot), lv_has ls 3 [(0, .ref m0), (1, .int (zI (n))), (2, .int (zI (x)))] → W p l e rmX7_layRow s m args below meth c H locs 0 0 Q (F0 m 4 ls []) := by
    intro fuel
    induction fuel with
    | zero =>
      intro n x g h1 hn hg hm
      exact absurd hm (Nat.not_lt_zero _)
    | succ fuel ih4 =>
      intro n x g h1 hn hg hm H locs hP hS ls hl
      have hr9 := rank_b ok h1.1 (by omega : x ≤ 121)
      have hs9 : rank f (x + 1) = rank f x + f (491 + x) := zsm_s h1.1
      refine lv_iload_n hx hb dX7_layRow_4 rfl (lv_at hl 2 rfl) ?_
      refine lv_aload_n hx hb dX7_layRow_5 rfl (lv_at hl 0 rfl) ?_
      refine va_get (D := D) (ci := 7) (v := .ref (a 0)) (C := RX7) (T := TX7) (N := 12) hx hb hts in7 hown hK hP 0 rfl rfl 0 (by decide) f7 (fun _ h9 => h9) rfl dX7_layRow_6 ?_
      refine z_iconst hx hb dX7_layRow_9 ?_
      refine z_iald hx hb hK hP 1 0 rfl rfl (by omega) (Nat.lt_of_succ_le (Nat.le_of_ble_eq_true rfl)) dX7_layRow_10 ?_
      refine z_icmp_gt (tgt := 44) hx hb dX7_layRow_11 (by decide) (by omega) (by omega) (fun c11 => ?_) (fun c11 => ?_)
      · refine lv_iload_n hx hb dX7_layRow_44 rfl (lv_at hl 1 rfl) ?_
        have hx9 : x = f 0 + 1 := by omega
        rw [hx9] at hn hg
        exact hret g ⟨by rw [hn], rfl, fun y a b c => hg y a (by omega) c⟩ hP hS dX7_layRow_45
      · refine lv_aload_n hx hb dX7_layRow_14 rfl (lv_at hl 0 rfl) ?_
        refine va_get (D := D) (ci := 7) (v := .ref (a 0)) (C := RX7) (T := TX7) (N := 12) hx hb hts in7 hown hK hP 0 rfl rfl 0 (by decide) f7 (fun _ h9 => h9) rfl dX7_layRow_15 ?_
        refine z_sipush hx hb dX7_layRow_18 (by decide +kernel) ?_
        refine lv_iload_n hx hb dX7_layRow_21 rfl (lv_at hl 2 rfl) ?_
        refine z_iadd hx hb dX7_layRow_22 ?_
        refine z_iald hx hb hK hP 1 0 rfl rfl (by omega) (Nat.lt_of_succ_le (Nat.le_of_ble_eq_true rfl)) dX7_layRow_23 ?_
        refine z_iconst hx hb dX7_layRow_24 ?_
        have hb9 := opost x h1.1 (by omega)
        refine z_icmp_ne (tgt := 38) hx hb dX7_layRow_25 (by decide) (by omega) (by omega) (fun c25 => ?_) (fun c25 => ?_)
        · refine z_iinc (lv' := [(2, .int (zI (x + 1))), (0, .ref m0), (1, .int (zI (n)))]) hx hb 2 (x + 1) dX7_layRow_38 hl rfl (by omega) (by decide) rfl (fun ls hl => ?_)
          refine lv_goto (tgt := 4) hx hb dX7_layRow_41 (by decide) ?_
          exact ih4 n (x + 1) g (by omega) (by omega) (fun y a b c => if hy : y = x then absurd (hy ▸ c) c25 else hg y a (by omega) c) (by omega) _ _ hP hS ls (lv_sub hl [1, 2, 0] rfl)
        · refine lv_aload_n hx hb dX7_layRow_28 rfl (lv_at hl 0 rfl) ?_
          refine va_get (D := D) (ci := 7) (v := .ref (a 6)) (C := RX7) (T := TX7) (N := 12) hx hb hts in7 hown hK hP 0 rfl rfl 8 (by decide) f29 (fun _ h9 => h9) rfl dX7_layRow_29 ?_
          refine lv_iload_n hx hb dX7_layRow_32 rfl (lv_at hl 1 rfl) ?_
          refine lv_iload_n hx hb dX7_layRow_33 rfl (lv_at hl 2 rfl) ?_
          refine z_iast hx hb hK hP (zD hD rfl) hS 2 0 [(m0, .inr (7, [.ref (a 0), .ref (a 1), .int (zI (ke)), .int (zI (th)), .ref (a 2), .ref (a 3), .ref (a 4), .ref (a 5), .ref (a 6), .ref (a 7), .ref (a 8), .long (zL (hs))])), (a 0, .inl (cI, 612, .inl (zA f))), (a 6, .inl (cI, 121, .inl (zA (zup g n x))))] rfl rfl (by omega) (Nat.lt_of_succ_le (Nat.le_of_ble_eq_true rfl)) rfl dX7_layRow_34 (fun H locs hP hS => ?_)
          refine z_iinc (lv' := [(1, .int (zI (n + 1))), (0, .ref m0), (2, .int (zI (x)))]) hx hb 1 (n + 1) dX7_layRow_35 hl rfl (by omega) (by decide) rfl (fun ls hl => ?_)
          refine z_iinc (lv' := [(2, .int (zI (x + 1))), (1, .int (zI (n + 1))), (0, .ref m0)]) hx hb 2 (x + 1) dX7_layRow_38 hl rfl (by omega) (by decide) rfl (fun ls hl => ?_)
          refine lv_goto (tgt := 4) hx hb dX7_layRow_41 (by decide) ?_
          exact ih4 (n + 1) (x + 1) (zup g n x) (by omega) (by omega) (fun y a b c => if hy : y = x then (by rw [hy, ← hn]; exact zup_at _ _ _) else (by have q := rank_lt ok a (by omega : y < x) (by omega) c; rw [zup_ne (by omega)]; exact hg y a (by omega) c)) (by omega) _ _ hP hS ls (lv_sub hl [2, 1, 0] rfl)
  exact L4 _ 0 0 gr (by omega) (by rw [show rank f 0 = 0 from zsm_0 f 491]) (fun y a b => by omega) (Nat.lt_succ_self _) _ _ hP hS ls (lv_sub hl [2, 1, 0] rfl)

abbrev rmX7_addPost : Room := { frames := 2, cells := 0, slots := 0, locals := 43 }
theorem jX7_addPost : yX7_addPost.cls = RX7 ∧ yX7_addPost.cls ≠ "java/lang/invoke/MethodHandle" ∧ yX7_addPost.cls ≠ "java/lang/invoke/VarHandle" ∧ (parseMethodDescriptor yX7_addPost.desc).map (fun d => d.parameters.length) = some 1 := by decide +kernel
set_option maxHeartbeats 4000000 in
set_option maxRecDepth 100000 in
theorem kX7_addPost_no1 (l : Launch) (D : va_G) (cI cJ cS : ClassId) (m0 : Nat) (a : Nat → Nat) (ke th hs : Int) (f : Int → Int) (x : Int) (ok : OkF f) (hN : ¬ (0 ≤ x ∧ x ≤ f 0)) (hr_x : -2147483648 ≤ x ∧ x < 2147483648) : Met l yX7_addPost wsX7_addPost rmX7_addPost (zPc D (zT cI cJ cS) [.ref m0, .int (zI (x))] [(m0, .inr (7, [.ref (a 0), .ref (a 1), .int (zI (ke)), .int (zI (th)), .ref (a 2), .ref (a 3), .ref (a 4), .ref (a 5), .ref (a 6), .ref (a 7), .ref (a 8), .long (zL (hs))])), (a 0, .inl (cI, 612, .inl (zA f)))]) (va_Qi (fun r _ => r = zI 0) (fun (u : Unit) t => va_P D vwCl [(m0, .inr (7, [.ref (a 0), .ref (a 1), .int (zI (ke)), .int (zI (1)), .ref (a 2), .ref (a 3), .ref (a 4), .ref (a 5), .ref (a 6), .ref (a 7), .ref (a 8), .long (zL (hs))])), (a 0, .inl (cI, 612, .inl (zA f)))] t.heap) (zAd [(m0, .inr (7, [.ref (a 0), .ref (a 1), .int (zI (ke)), .int (zI (th)), .ref (a 2), .ref (a 3), .ref (a 4), .ref (a 5), .ref (a 6), .ref (a 7), .ref (a 8), .long (zL (hs))])), (a 0, .inl (cI, 612, .inl (zA f)))])) 0 0 (zAd [(m0, .inr (7, [.ref (a 0), .ref (a 1), .int (zI (ke)), .int (zI (th)), .ref (a 2), .ref (a 3), .ref (a 4), .ref (a 5), .ref (a 6), .ref (a 7), .ref (a 8), .long (zL (hs))])), (a 0, .inl (cI, 612, .inl (zA f)))]) := by
  refine zWi_of (cc := cX7_addPost) (maxL := 4) (ret := (some .int)) (by decide) rfl (Nat.le_of_ble_eq_true rfl) rfl ?_
  intro p e s m args below meth c Q A ls hx hb hml hts hown hK hP hD hS hl hret
  have in7 : ∀ w ∈ wsX70, w ∈ wsX7_addPost := by decide +kernel
  have f41 := hts (.fieldLink RX7 41 "SignalSpacingModel" "thrown" "I") (by decide +kernel)
  have hl : lv_has ls 4 [(0, .ref m0), (1, .int (zI (x)))] := hl
  have hP : va_P D vwCl [(m0, .inr (7, [.ref (a 0), .ref (a 1), .int (zI (ke)), .int (zI (th)), .ref (a 2), .ref (a 3), .ref (a 4), .ref (a 5), .ref (a 6), .ref (a 7), .ref (a 8), .long (zL (hs))])), (a 0, .inl (cI, 612, .inl (zA f)))] s.heap := hP
  obtain ⟨o0, o1, o2, o3, o4, o5, o7, o8, olim, ogrd, obar, oneed, opost⟩ := id ok
  have hfr := okF_r ok
  refine lv_aload_n hx hb dX7_addPost_0 rfl (lv_at hl 0 rfl) ?_
  refine lv_aload_n hx hb dX7_addPost_1 rfl (lv_at hl 0 rfl) ?_
  refine lv_iload_n hx hb dX7_addPost_2 rfl (lv_at hl 1 rfl) ?_
  refine y_rV (v := zB (0 ≤ x ∧ x ≤ f 0)) (As := [.int (zI (x))]) (rest := [.ref m0]) hx hb hml hown hts hl.1 ⟨Nat.zero_le _, Nat.zero_le _⟩ (kX7_isPosition l D cI cJ cS m0 a ke th hs f x o0 (by omega)) (cwV 1 hts gX7_addPost_X7_isPosition rfl rfl rfl jX7_isPosition ⟨Nat.le_of_ble_eq_true rfl, Nat.le_of_ble_eq_true rfl⟩) hK [true, true] hP hD rfl 7 0 rfl rfl rfl rfl rfl (Nat.le_of_ble_eq_true rfl) dX7_addPost_3 ?_
  refine z_top (0) (zB_f (by omega)) ?_
  refine z_if_ne (tgt := 13) hx hb dX7_addPost_6 (by decide) (by omega) (fun c6 => ?_) (fun c6 => ?_)
  · exfalso; omega
  · refine z_iconst hx hb dX7_addPost_9 ?_
    refine lv_goto (tgt := 32) hx hb dX7_addPost_10 (by decide) ?_
    refine z_put (ci := 7) (v := .int (zI (1))) (ty := .int) (C := RX7) (F := TX7) (N := 12) hx hb hts in7 tyX7 tyX7_ok nmX7 hown hK hP hD hS 0 [(m0, .inr (7, [.ref (a 0), .ref (a 1), .int (zI (ke)), .int (zI (1)), .ref (a 2), .ref (a 3), .ref (a 4), .ref (a 5), .ref (a 6), .ref (a 7), .ref (a 8), .long (zL (hs))])), (a 0, .inl (cI, 612, .inl (zA f)))] rfl rfl 3 (by decide) f41 (fun _ h9 => h9) rfl (by decide +kernel) rfl rfl (Nat.le_of_ble_eq_true rfl) dX7_addPost_32 rfl (fun H locs hP hS => ?_)
    refine lv_aload_n hx hb dX7_addPost_35 rfl (lv_at hl 0 rfl) ?_
    refine va_get (D := D) (ci := 7) (v := .int (zI (1))) (C := RX7) (T := TX7) (N := 12) hx hb hts in7 hown hK hP 0 rfl rfl 3 (by decide) f41 (fun _ h9 => h9) rfl dX7_addPost_36 ?_
    refine z_if_eq (tgt := 44) hx hb dX7_addPost_39 (by decide) (by omega) (fun c39 => ?_) (fun c39 => ?_)
    · exfalso; omega
    · refine z_iconst hx hb dX7_addPost_42 ?_
      exact hret () rfl hP hS dX7_addPost_43

set_option maxHeartbeats 4000000 in
set_option maxRecDepth 100000 in
theorem kX7_addPost_no2 (l : Launch) (D : va_G) (cI cJ cS : ClassId) (m0 : Nat) (a : Nat → Nat) (ke th hs : Int) (f : Int → Int) (x : Int) (ok : OkF f) (hY : 0 ≤ x ∧ x ≤ f 0) (h3 : f (491 + x) = 1) : Met l yX7_addPost wsX7_addPost rmX7_addPost (zPc D (zT cI cJ cS) [.ref m0, .int (zI (x))] [(m0, .inr (7, [.ref (a 0), .ref (a 1), .int (zI (ke)), .int (zI (th)), .ref (a 2), .ref (a 3), .ref (a 4), .ref (a 5), .ref (a 6), .ref (a 7), .ref (a 8), .long (zL (hs))])), (a 0, .inl (cI, 612, .inl (zA f)))]) (va_Qi (fun r _ => r = zI 0) (fun (u : Unit) t => va_P D vwCl [(m0, .inr (7, [.ref (a 0), .ref (a 1), .int (zI (ke)), .int (zI (2)), .ref (a 2), .ref (a 3), .ref (a 4), .ref (a 5), .ref (a 6), .ref (a 7), .ref (a 8), .long (zL (hs))])), (a 0, .inl (cI, 612, .inl (zA f)))] t.heap) (zAd [(m0, .inr (7, [.ref (a 0), .ref (a 1), .int (zI (ke)), .int (zI (th)), .ref (a 2), .ref (a 3), .ref (a 4), .ref (a 5), .ref (a 6), .ref (a 7), .ref (a 8), .long (zL (hs))])), (a 0, .inl (cI, 612, .inl (zA f)))])) 0 0 (zAd [(m0, .inr (7, [.ref (a 0), .ref (a 1), .int (zI (ke)), .int (zI (th)), .ref (a 2), .ref (a 3), .ref (a 4), .ref (a 5), .ref (a 6), .ref (a 7), .ref (a 8), .long (zL (hs))])), (a 0, .inl (cI, 612, .inl (zA f)))]) := by
  refine zWi_of (cc := cX7_addPost) (maxL := 4) (ret := (some .int)) (by decide) rfl (Nat.le_of_ble_eq_true rfl) rfl ?_
  intro p e s m args below meth c Q A ls hx hb hml hts hown hK hP hD hS hl hret
  have in7 : ∀ w ∈ wsX70, w ∈ wsX7_addPost := by decide +kernel
  have f7 := hts (.fieldLink RX7 7 "SignalSpacingModel" "now" "[I") (by decide +kernel)
  have f41 := hts (.fieldLink RX7 41 "SignalSpacingModel" "thrown" "I") (by decide +kernel)
  have hl : lv_has ls 4 [(0, .ref m0), (1, .int (zI (x)))] := hl
  have hP : va_P D vwCl [(m0, .inr (7, [.ref (a 0), .ref (a 1), .int (zI (ke)), .int (zI (th)), .ref (a 2), .ref (a 3), .ref (a 4), .ref (a 5), .ref (a 6), .ref (a 7), .ref (a 8), .long (zL (hs))])), (a 0, .inl (cI, 612, .inl (zA f)))] s.heap := hP
  obtain ⟨o0, o1, o2, o3, o4, o5, o7, o8, olim, ogrd, obar, oneed, opost⟩ := id ok
  have hfr := okF_r ok
  refine lv_aload_n hx hb dX7_addPost_0 rfl (lv_at hl 0 rfl) ?_
  refine lv_aload_n hx hb dX7_addPost_1 rfl (lv_at hl 0 rfl) ?_
  refine lv_iload_n hx hb dX7_addPost_2 rfl (lv_at hl 1 rfl) ?_
  refine y_rV (v := zB (0 ≤ x ∧ x ≤ f 0)) (As := [.int (zI (x))]) (rest := [.ref m0]) hx hb hml hown hts hl.1 ⟨Nat.zero_le _, Nat.zero_le _⟩ (kX7_isPosition l D cI cJ cS m0 a ke th hs f x o0 (by omega)) (cwV 1 hts gX7_addPost_X7_isPosition rfl rfl rfl jX7_isPosition ⟨Nat.le_of_ble_eq_true rfl, Nat.le_of_ble_eq_true rfl⟩) hK [true, true] hP hD rfl 7 0 rfl rfl rfl rfl rfl (Nat.le_of_ble_eq_true rfl) dX7_addPost_3 ?_
  refine z_top (1) (zB_t (by omega)) ?_
  refine z_if_ne (tgt := 13) hx hb dX7_addPost_6 (by decide) (by omega) (fun c6 => ?_) (fun c6 => ?_)
  · refine lv_aload_n hx hb dX7_addPost_13 rfl (lv_at hl 0 rfl) ?_
    refine va_get (D := D) (ci := 7) (v := .ref (a 0)) (C := RX7) (T := TX7) (N := 12) hx hb hts in7 hown hK hP 0 rfl rfl 0 (by decide) f7 (fun _ h9 => h9) rfl dX7_addPost_14 ?_
    refine z_sipush hx hb dX7_addPost_17 (by decide +kernel) ?_
    refine lv_iload_n hx hb dX7_addPost_20 rfl (lv_at hl 1 rfl) ?_
    refine z_iadd hx hb dX7_addPost_21 ?_
    refine z_iald hx hb hK hP 1 0 rfl rfl (by omega) (Nat.lt_of_succ_le (Nat.le_of_ble_eq_true rfl)) dX7_addPost_22 ?_
    refine z_top (1) h3 ?_
    refine z_iconst hx hb dX7_addPost_23 ?_
    refine z_icmp_ne (tgt := 31) hx hb dX7_addPost_24 (by decide) (by omega) (by omega) (fun c24 => ?_) (fun c24 => ?_)
    · exfalso; omega
    · refine z_iconst hx hb dX7_addPost_27 ?_
      refine lv_goto (tgt := 32) hx hb dX7_addPost_28 (by decide) ?_
      refine z_put (ci := 7) (v := .int (zI (2))) (ty := .int) (C := RX7) (F := TX7) (N := 12) hx hb hts in7 tyX7 tyX7_ok nmX7 hown hK hP hD hS 0 [(m0, .inr (7, [.ref (a 0), .ref (a 1), .int (zI (ke)), .int (zI (2)), .ref (a 2), .ref (a 3), .ref (a 4), .ref (a 5), .ref (a 6), .ref (a 7), .ref (a 8), .long (zL (hs))])), (a 0, .inl (cI, 612, .inl (zA f)))] rfl rfl 3 (by decide) f41 (fun _ h9 => h9) rfl (by decide +kernel) rfl rfl (Nat.le_of_ble_eq_true rfl) dX7_addPost_32 rfl (fun H locs hP hS => ?_)
      refine lv_aload_n hx hb dX7_addPost_35 rfl (lv_at hl 0 rfl) ?_
      refine va_get (D := D) (ci := 7) (v := .int (zI (2))) (C := RX7) (T := TX7) (N := 12) hx hb hts in7 hown hK hP 0 rfl rfl 3 (by decide) f41 (fun _ h9 => h9) rfl dX7_addPost_36 ?_
      refine z_if_eq (tgt := 44) hx hb dX7_addPost_39 (by decide) (by omega) (fun c39 => ?_) (fun c39 => ?_)
      · exfalso; omega
      · refine z_iconst hx hb dX7_addPost_42 ?_
        exact hret () rfl hP hS dX7_addPost_43
  · exfalso; omega

abbrev rmX7_removePost : Room := { frames := 2, cells := 0, slots := 0, locals := 43 }
theorem jX7_removePost : yX7_removePost.cls = RX7 ∧ yX7_removePost.cls ≠ "java/lang/invoke/MethodHandle" ∧ yX7_removePost.cls ≠ "java/lang/invoke/VarHandle" ∧ (parseMethodDescriptor yX7_removePost.desc).map (fun d => d.parameters.length) = some 1 := by decide +kernel
set_option maxHeartbeats 4000000 in
set_option maxRecDepth 100000 in
theorem kX7_removePost_no1 (l : Launch) (D : va_G) (cI cJ cS : ClassId) (m0 : Nat) (a : Nat → Nat) (ke th hs : Int) (f : Int → Int) (x : Int) (ok : OkF f) (hN : ¬ (0 ≤ x ∧ x ≤ f 0)) (hr_x : -2147483648 ≤ x ∧ x < 2147483648) : Met l yX7_removePost wsX7_removePost rmX7_removePost (zPc D (zT cI cJ cS) [.ref m0, .int (zI (x))] [(m0, .inr (7, [.ref (a 0), .ref (a 1), .int (zI (ke)), .int (zI (th)), .ref (a 2), .ref (a 3), .ref (a 4), .ref (a 5), .ref (a 6), .ref (a 7), .ref (a 8), .long (zL (hs))])), (a 0, .inl (cI, 612, .inl (zA f)))]) (va_Qi (fun r _ => r = zI 0) (fun (u : Unit) t => va_P D vwCl [(m0, .inr (7, [.ref (a 0), .ref (a 1), .int (zI (ke)), .int (zI (1)), .ref (a 2), .ref (a 3), .ref (a 4), .ref (a 5), .ref (a 6), .ref (a 7), .ref (a 8), .long (zL (hs))])), (a 0, .inl (cI, 612, .inl (zA f)))] t.heap) (zAd [(m0, .inr (7, [.ref (a 0), .ref (a 1), .int (zI (ke)), .int (zI (th)), .ref (a 2), .ref (a 3), .ref (a 4), .ref (a 5), .ref (a 6), .ref (a 7), .ref (a 8), .long (zL (hs))])), (a 0, .inl (cI, 612, .inl (zA f)))])) 0 0 (zAd [(m0, .inr (7, [.ref (a 0), .ref (a 1), .int (zI (ke)), .int (zI (th)), .ref (a 2), .ref (a 3), .ref (a 4), .ref (a 5), .ref (a 6), .ref (a 7), .ref (a 8), .long (zL (hs))])), (a 0, .inl (cI, 612, .inl (zA f)))]) := by
  refine zWi_of (cc := cX7_removePost) (maxL := 2) (ret := (some .int)) (by decide) rfl (Nat.le_of_ble_eq_true rfl) rfl ?_
  intro p e s m args below meth c Q A ls hx hb hml hts hown hK hP hD hS hl hret
  have in7 : ∀ w ∈ wsX70, w ∈ wsX7_removePost := by decide +kernel
  have f41 := hts (.fieldLink RX7 41 "SignalSpacingModel" "thrown" "I") (by decide +kernel)
  have hl : lv_has ls 2 [(0, .ref m0), (1, .int (zI (x)))] := hl
  have hP : va_P D vwCl [(m0, .inr (7, [.ref (a 0), .ref (a 1), .int (zI (ke)), .int (zI (th)), .ref (a 2), .ref (a 3), .ref (a 4), .ref (a 5), .ref (a 6), .ref (a 7), .ref (a 8), .long (zL (hs))])), (a 0, .inl (cI, 612, .inl (zA f)))] s.heap := hP
  obtain ⟨o0, o1, o2, o3, o4, o5, o7, o8, olim, ogrd, obar, oneed, opost⟩ := id ok
  have hfr := okF_r ok
  refine lv_aload_n hx hb dX7_removePost_0 rfl (lv_at hl 0 rfl) ?_
  refine lv_aload_n hx hb dX7_removePost_1 rfl (lv_at hl 0 rfl) ?_
  refine lv_iload_n hx hb dX7_removePost_2 rfl (lv_at hl 1 rfl) ?_
  refine y_rV (v := zB (0 ≤ x ∧ x ≤ f 0)) (As := [.int (zI (x))]) (rest := [.ref m0]) hx hb hml hown hts hl.1 ⟨Nat.zero_le _, Nat.zero_le _⟩ (kX7_isPosition l D cI cJ cS m0 a ke th hs f x o0 (by omega)) (cwV 1 hts gX7_removePost_X7_isPosition rfl rfl rfl jX7_isPosition ⟨Nat.le_of_ble_eq_true rfl, Nat.le_of_ble_eq_true rfl⟩) hK [true, true] hP hD rfl 7 0 rfl rfl rfl rfl rfl (Nat.le_of_ble_eq_true rfl) dX7_removePost_3 ?_
  refine z_top (0) (zB_f (by omega)) ?_
  refine z_if_ne (tgt := 13) hx hb dX7_removePost_6 (by decide) (by omega) (fun c6 => ?_) (fun c6 => ?_)
  · exfalso; omega
  · refine z_iconst hx hb dX7_removePost_9 ?_
    refine lv_goto (tgt := 31) hx hb dX7_removePost_10 (by decide) ?_
    refine z_put (ci := 7) (v := .int (zI (1))) (ty := .int) (C := RX7) (F := TX7) (N := 12) hx hb hts in7 tyX7 tyX7_ok nmX7 hown hK hP hD hS 0 [(m0, .inr (7, [.ref (a 0), .ref (a 1), .int (zI (ke)), .int (zI (1)), .ref (a 2), .ref (a 3), .ref (a 4), .ref (a 5), .ref (a 6), .ref (a 7), .ref (a 8), .long (zL (hs))])), (a 0, .inl (cI, 612, .inl (zA f)))] rfl rfl 3 (by decide) f41 (fun _ h9 => h9) rfl (by decide +kernel) rfl rfl (Nat.le_of_ble_eq_true rfl) dX7_removePost_31 rfl (fun H locs hP hS => ?_)
    refine lv_aload_n hx hb dX7_removePost_34 rfl (lv_at hl 0 rfl) ?_
    refine va_get (D := D) (ci := 7) (v := .int (zI (1))) (C := RX7) (T := TX7) (N := 12) hx hb hts in7 hown hK hP 0 rfl rfl 3 (by decide) f41 (fun _ h9 => h9) rfl dX7_removePost_35 ?_
    refine z_if_eq (tgt := 43) hx hb dX7_removePost_38 (by decide) (by omega) (fun c38 => ?_) (fun c38 => ?_)
    · exfalso; omega
    · refine z_iconst hx hb dX7_removePost_41 ?_
      exact hret () rfl hP hS dX7_removePost_42

set_option maxHeartbeats 4000000 in
set_option maxRecDepth 100000 in
theorem kX7_removePost_no2 (l : Launch) (D : va_G) (cI cJ cS : ClassId) (m0 : Nat) (a : Nat → Nat) (ke th hs : Int) (f : Int → Int) (x : Int) (ok : OkF f) (hY : 0 ≤ x ∧ x ≤ f 0) (h3 : f (491 + x) = 0) : Met l yX7_removePost wsX7_removePost rmX7_removePost (zPc D (zT cI cJ cS) [.ref m0, .int (zI (x))] [(m0, .inr (7, [.ref (a 0), .ref (a 1), .int (zI (ke)), .int (zI (th)), .ref (a 2), .ref (a 3), .ref (a 4), .ref (a 5), .ref (a 6), .ref (a 7), .ref (a 8), .long (zL (hs))])), (a 0, .inl (cI, 612, .inl (zA f)))]) (va_Qi (fun r _ => r = zI 0) (fun (u : Unit) t => va_P D vwCl [(m0, .inr (7, [.ref (a 0), .ref (a 1), .int (zI (ke)), .int (zI (2)), .ref (a 2), .ref (a 3), .ref (a 4), .ref (a 5), .ref (a 6), .ref (a 7), .ref (a 8), .long (zL (hs))])), (a 0, .inl (cI, 612, .inl (zA f)))] t.heap) (zAd [(m0, .inr (7, [.ref (a 0), .ref (a 1), .int (zI (ke)), .int (zI (th)), .ref (a 2), .ref (a 3), .ref (a 4), .ref (a 5), .ref (a 6), .ref (a 7), .ref (a 8), .long (zL (hs))])), (a 0, .inl (cI, 612, .inl (zA f)))])) 0 0 (zAd [(m0, .inr (7, [.ref (a 0), .ref (a 1), .int (zI (ke)), .int (zI (th)), .ref (a 2), .ref (a 3), .ref (a 4), .ref (a 5), .ref (a 6), .ref (a 7), .ref (a 8), .long (zL (hs))])), (a 0, .inl (cI, 612, .inl (zA f)))]) := by
  refine zWi_of (cc := cX7_removePost) (maxL := 2) (ret := (some .int)) (by decide) rfl (Nat.le_of_ble_eq_true rfl) rfl ?_
  intro p e s m args below meth c Q A ls hx hb hml hts hown hK hP hD hS hl hret
  have in7 : ∀ w ∈ wsX70, w ∈ wsX7_removePost := by decide +kernel
  have f7 := hts (.fieldLink RX7 7 "SignalSpacingModel" "now" "[I") (by decide +kernel)
  have f41 := hts (.fieldLink RX7 41 "SignalSpacingModel" "thrown" "I") (by decide +kernel)
  have hl : lv_has ls 2 [(0, .ref m0), (1, .int (zI (x)))] := hl
  have hP : va_P D vwCl [(m0, .inr (7, [.ref (a 0), .ref (a 1), .int (zI (ke)), .int (zI (th)), .ref (a 2), .ref (a 3), .ref (a 4), .ref (a 5), .ref (a 6), .ref (a 7), .ref (a 8), .long (zL (hs))])), (a 0, .inl (cI, 612, .inl (zA f)))] s.heap := hP
  obtain ⟨o0, o1, o2, o3, o4, o5, o7, o8, olim, ogrd, obar, oneed, opost⟩ := id ok
  have hfr := okF_r ok
  refine lv_aload_n hx hb dX7_removePost_0 rfl (lv_at hl 0 rfl) ?_
  refine lv_aload_n hx hb dX7_removePost_1 rfl (lv_at hl 0 rfl) ?_
  refine lv_iload_n hx hb dX7_removePost_2 rfl (lv_at hl 1 rfl) ?_
  refine y_rV (v := zB (0 ≤ x ∧ x ≤ f 0)) (As := [.int (zI (x))]) (rest := [.ref m0]) hx hb hml hown hts hl.1 ⟨Nat.zero_le _, Nat.zero_le _⟩ (kX7_isPosition l D cI cJ cS m0 a ke th hs f x o0 (by omega)) (cwV 1 hts gX7_removePost_X7_isPosition rfl rfl rfl jX7_isPosition ⟨Nat.le_of_ble_eq_true rfl, Nat.le_of_ble_eq_true rfl⟩) hK [true, true] hP hD rfl 7 0 rfl rfl rfl rfl rfl (Nat.le_of_ble_eq_true rfl) dX7_removePost_3 ?_
  refine z_top (1) (zB_t (by omega)) ?_
  refine z_if_ne (tgt := 13) hx hb dX7_removePost_6 (by decide) (by omega) (fun c6 => ?_) (fun c6 => ?_)
  · refine lv_aload_n hx hb dX7_removePost_13 rfl (lv_at hl 0 rfl) ?_
    refine va_get (D := D) (ci := 7) (v := .ref (a 0)) (C := RX7) (T := TX7) (N := 12) hx hb hts in7 hown hK hP 0 rfl rfl 0 (by decide) f7 (fun _ h9 => h9) rfl dX7_removePost_14 ?_
    refine z_sipush hx hb dX7_removePost_17 (by decide +kernel) ?_
    refine lv_iload_n hx hb dX7_removePost_20 rfl (lv_at hl 1 rfl) ?_
    refine z_iadd hx hb dX7_removePost_21 ?_
    refine z_iald hx hb hK hP 1 0 rfl rfl (by omega) (Nat.lt_of_succ_le (Nat.le_of_ble_eq_true rfl)) dX7_removePost_22 ?_
    refine z_top (0) h3 ?_
    refine z_if_ne (tgt := 30) hx hb dX7_removePost_23 (by decide) (by omega) (fun c23 => ?_) (fun c23 => ?_)
    · exfalso; omega
    · refine z_iconst hx hb dX7_removePost_26 ?_
      refine lv_goto (tgt := 31) hx hb dX7_removePost_27 (by decide) ?_
      refine z_put (ci := 7) (v := .int (zI (2))) (ty := .int) (C := RX7) (F := TX7) (N := 12) hx hb hts in7 tyX7 tyX7_ok nmX7 hown hK hP hD hS 0 [(m0, .inr (7, [.ref (a 0), .ref (a 1), .int (zI (ke)), .int (zI (2)), .ref (a 2), .ref (a 3), .ref (a 4), .ref (a 5), .ref (a 6), .ref (a 7), .ref (a 8), .long (zL (hs))])), (a 0, .inl (cI, 612, .inl (zA f)))] rfl rfl 3 (by decide) f41 (fun _ h9 => h9) rfl (by decide +kernel) rfl rfl (Nat.le_of_ble_eq_true rfl) dX7_removePost_31 rfl (fun H locs hP hS => ?_)
      refine lv_aload_n hx hb dX7_removePost_34 rfl (lv_at hl 0 rfl) ?_
      refine va_get (D := D) (ci := 7) (v := .int (zI (2))) (C := RX7) (T := TX7) (N := 12) hx hb hts in7 hown hK hP 0 rfl rfl 3 (by decide) f41 (fun _ h9 => h9) rfl dX7_removePost_35 ?_
      refine z_if_eq (tgt := 43) hx hb dX7_removePost_38 (by decide) (by omega) (fun c38 => ?_) (fun c38 => ?_)
      · exfalso; omega
      · refine z_iconst hx hb dX7_removePost_41 ?_
        exact hret () rfl hP hS dX7_removePost_42
  · exfalso; omega

set_option maxHeartbeats 4000000 in
set_option maxRecDepth 100000 in
theorem kX7_addPost_ok (l : Launch) (D : va_G) (cI cJ cS : ClassId) (m0 : Nat) (a : Nat → Nat) (ke th hs : Int) (f : Int → Int) (gp : Int → Int) (x : Int) (ok : OkF f) (hke : 0 ≤ ke ∧ ke ≤ 4) (hY : 0 ≤ x ∧ x ≤ f 0) (h3 : f (491 + x) = 0) : Met l yX7_addPost wsX7_addPost rmX7_addPost (zPc D (zT cI cJ cS) [.ref m0, .int (zI (x))] [(m0, .inr (7, [.ref (a 0), .ref (a 1), .int (zI (ke)), .int (zI (th)), .ref (a 2), .ref (a 3), .ref (a 4), .ref (a 5), .ref (a 6), .ref (a 7), .ref (a 8), .long (zL (hs))])), (a 0, .inl (cI, 612, .inl (zA f))), (a 1, .inl (cI, 2448, .inl (zA gp)))]) (va_Qi (fun r _ => r = zI (rank f x)) (fun (u : Unit) t => va_P D vwCl [(m0, .inr (7, [.ref (a 0), .ref (a 1), .int (zI (cnS ke)), .int (zI (0)), .ref (a 2), .ref (a 3), .ref (a 4), .ref (a 5), .ref (a 6), .ref (a 7), .ref (a 8), .long (zL (hs))])), (a 0, .inl (cI, 612, .inl (zA (zup f (491 + x) 1)))), (a 1, .inl (cI, 2448, .inl (zA (kpF gp f ke))))] t.heap) (zAd [(m0, .inr (7, [.ref (a 0), .ref (a 1), .int (zI (ke)), .int (zI (th)), .ref (a 2), .ref (a 3), .ref (a 4), .ref (a 5), .ref (a 6), .ref (a 7), .ref (a 8), .long (zL (hs))])), (a 0, .inl (cI, 612, .inl (zA f))), (a 1, .inl (cI, 2448, .inl (zA gp)))])) 0 0 (zAd [(m0, .inr (7, [.ref (a 0), .ref (a 1), .int (zI (ke)), .int (zI (th)), .ref (a 2), .ref (a 3), .ref (a 4), .ref (a 5), .ref (a 6), .ref (a 7), .ref (a 8), .long (zL (hs))])), (a 0, .inl (cI, 612, .inl (zA f))), (a 1, .inl (cI, 2448, .inl (zA gp)))]) := by
  refine zWi_of (cc := cX7_addPost) (maxL := 4) (ret := (some .int)) (by decide) rfl (Nat.le_of_ble_eq_true rfl) rfl ?_
  intro p e s m args below meth c Q A ls hx hb hml hts hown hK hP hD hS hl hret
  have in7 : ∀ w ∈ wsX70, w ∈ wsX7_addPost := by decide +kernel
  have f7 := hts (.fieldLink RX7 7 "SignalSpacingModel" "now" "[I") (by decide +kernel)
  have f41 := hts (.fieldLink RX7 41 "SignalSpacingModel" "thrown" "I") (by decide +kernel)
  have hl : lv_has ls 4 [(0, .ref m0), (1, .int (zI (x)))] := hl
  have hP : va_P D vwCl [(m0, .inr (7, [.ref (a 0), .ref (a 1), .int (zI (ke)), .int (zI (th)), .ref (a 2), .ref (a 3), .ref (a 4), .ref (a 5), .ref (a 6), .ref (a 7), .ref (a 8), .long (zL (hs))])), (a 0, .inl (cI, 612, .inl (zA f))), (a 1, .inl (cI, 2448, .inl (zA gp)))] s.heap := hP
  obtain ⟨o0, o1, o2, o3, o4, o5, o7, o8, olim, ogrd, obar, oneed, opost⟩ := id ok
  have hfr := okF_r ok
  refine lv_aload_n hx hb dX7_addPost_0 rfl (lv_at hl 0 rfl) ?_
  refine lv_aload_n hx hb dX7_addPost_1 rfl (lv_at hl 0 rfl) ?_
  refine lv_iload_n hx hb dX7_addPost_2 rfl (lv_at hl 1 rfl) ?_
  refine y_rV (v := zB (0 ≤ x ∧ x ≤ f 0)) (As := [.int (zI (x))]) (rest := [.ref m0]) hx hb hml hown hts hl.1 ⟨Nat.zero_le _, Nat.zero_le _⟩ (kX7_isPosition l D cI cJ cS m0 a ke th hs f x o0 (by omega)) (cwV 1 hts gX7_addPost_X7_isPosition rfl rfl rfl jX7_isPosition ⟨Nat.le_of_ble_eq_true rfl, Nat.le_of_ble_eq_true rfl⟩) hK [true, true] hP hD rfl 7 0 rfl rfl rfl rfl rfl (Nat.le_of_ble_eq_true rfl) dX7_addPost_3 ?_
  refine z_top (1) (zB_t (by omega)) ?_
  refine z_if_ne (tgt := 13) hx hb dX7_addPost_6 (by decide) (by omega) (fun c6 => ?_) (fun c6 => ?_)
  · refine lv_aload_n hx hb dX7_addPost_13 rfl (lv_at hl 0 rfl) ?_
    refine va_get (D := D) (ci := 7) (v := .ref (a 0)) (C := RX7) (T := TX7) (N := 12) hx hb hts in7 hown hK hP 0 rfl rfl 0 (by decide) f7 (fun _ h9 => h9) rfl dX7_addPost_14 ?_
    refine z_sipush hx hb dX7_addPost_17 (by decide +kernel) ?_
    refine lv_iload_n hx hb dX7_addPost_20 rfl (lv_at hl 1 rfl) ?_
    refine z_iadd hx hb dX7_addPost_21 ?_
    refine z_iald hx hb hK hP 1 0 rfl rfl (by omega) (Nat.lt_of_succ_le (Nat.le_of_ble_eq_true rfl)) dX7_addPost_22 ?_
    refine z_top (0) h3 ?_
    refine z_iconst hx hb dX7_addPost_23 ?_
    refine z_icmp_ne (tgt := 31) hx hb dX7_addPost_24 (by decide) (by omega) (by omega) (fun c24 => ?_) (fun c24 => ?_)
    · refine z_iconst hx hb dX7_addPost_31 ?_
      refine z_put (ci := 7) (v := .int (zI (0))) (ty := .int) (C := RX7) (F := TX7) (N := 12) hx hb hts in7 tyX7 tyX7_ok nmX7 hown hK hP hD hS 0 [(m0, .inr (7, [.ref (a 0), .ref (a 1), .int (zI (ke)), .int (zI (0)), .ref (a 2), .ref (a 3), .ref (a 4), .ref (a 5), .ref (a 6), .ref (a 7), .ref (a 8), .long (zL (hs))])), (a 0, .inl (cI, 612, .inl (zA f))), (a 1, .inl (cI, 2448, .inl (zA gp)))] rfl rfl 3 (by decide) f41 (fun _ h9 => h9) rfl (by decide +kernel) rfl rfl (Nat.le_of_ble_eq_true rfl) dX7_addPost_32 rfl (fun H locs hP hS => ?_)
      refine lv_aload_n hx hb dX7_addPost_35 rfl (lv_at hl 0 rfl) ?_
      refine va_get (D := D) (ci := 7) (v := .int (zI (0))) (C := RX7) (T := TX7) (N := 12) hx hb hts in7 hown hK hP 0 rfl rfl 3 (by decide) f41 (fun _ h9 => h9) rfl dX7_addPost_36 ?_
      refine z_if_eq (tgt := 44) hx hb dX7_addPost_39 (by decide) (by omega) (fun c39 => ?_) (fun c39 => ?_)
      · refine lv_aload_n hx hb dX7_addPost_44 rfl (lv_at hl 0 rfl) ?_
        refine y_wVv (As := []) (rest := []) (fun (u45 : Unit) => [(m0, .inr (7, [.ref (a 0), .ref (a 1), .int (zI (cnS ke)), .int (zI (0)), .ref (a 2), .ref (a 3), .ref (a 4), .ref (a 5), .ref (a 6), .ref (a 7), .ref (a 8), .long (zL (hs))])), (a 0, .inl (cI, 612, .inl (zA f))), (a 1, .inl (cI, 2448, .inl (zA (kpF gp f ke))))]) hx hb hml hown hts hl.1 ⟨Nat.zero_le _, Nat.zero_le _⟩ (kX7_keep l D cI cJ cS m0 a ke 0 hs f gp hke) (cwV 0 hts gX7_addPost_X7_keep rfl rfl rfl jX7_keep ⟨Nat.le_of_ble_eq_true rfl, Nat.le_of_ble_eq_true rfl⟩) hK [true, true, true] hP (zD hD rfl) hS rfl (fun _ => rfl) (fun _ => rfl) 7 0 rfl rfl rfl rfl rfl (Nat.le_of_ble_eq_true rfl) dX7_addPost_45 (fun u45 H locs hu45 hP hS => ?_)
        refine z_iconst hx hb dX7_addPost_48 ?_
        refine lv_istore_n (lv' := [(2, .int (zI (0))), (0, .ref m0), (1, .int (zI (x)))]) hx hb dX7_addPost_49 rfl hl (by decide) rfl (fun ls hl => ?_)
        refine z_iconst hx hb dX7_addPost_50 ?_
        refine lv_istore_n (lv' := [(3, .int (zI (0))), (2, .int (zI (0))), (0, .ref m0), (1, .int (zI (x)))]) hx hb dX7_addPost_51 rfl hl (by decide) rfl (fun ls hl => ?_)
        have L52 : ∀ (fuel : Nat), ∀ (t : Int) (i : Int), ∀ (h4 : 0 ≤ i ∧ i ≤ x), ∀ (ht : t = rank f i), (x - i).toNat < fuel → ∀ (H : Heap) (locs : List Loc), va_P D vwCl [(m0, .inr (7, [.ref (a 0), .ref (a 1), .int (zI (cnS ke)), .int (zI (0)), .ref (a 2), .ref (a 3), .ref (a 4), .ref (a 5), .ref (a 6), .ref (a 7), .ref (a 8), .long (zL (hs))])), (a 0, .inl (cI, 612, .inl (zA f))), (a 1, .inl (cI, 2448, .inl (zA (kpF gp f ke))))] H → va_S A s.heap H locs → ∀ (ls : Array Slot), lv_has ls 4 [(0, .ref m0), (1, .int (zI (x))), (2, .int (zI (t))), (3, .int (zI (i)))] → W p l e rmX7_addPost s m args below meth c H locs 0 0 Q (F0 m 52 ls []) := by
          intro fuel
          induction fuel with
          | zero =>
            intro t i h4 ht hm
            exact absurd hm (Nat.not_lt_zero _)
          | succ fuel ih52 =>
            intro t i h4 ht hm H locs hP hS ls hl
            refine lv_iload_n hx hb dX7_addPost_52 rfl (lv_at hl 3 rfl) ?_
            refine lv_iload_n hx hb dX7_addPost_53 rfl (lv_at hl 1 rfl) ?_
            refine z_icmp_ge (tgt := 76) hx hb dX7_addPost_54 (by decide) (by omega) (by omega) (fun c54 => ?_) (fun c54 => ?_)
            · refine lv_aload_n hx hb dX7_addPost_76 rfl (lv_at hl 0 rfl) ?_
              refine va_get (D := D) (ci := 7) (v := .ref (a 0)) (C := RX7) (T := TX7) (N := 12) hx hb hts in7 hown hK hP 0 rfl rfl 0 (by decide) f7 (fun _ h9 => h9) rfl dX7_addPost_77 ?_
              refine z_sipush hx hb dX7_addPost_80 (by decide +kernel) ?_
              refine lv_iload_n hx hb dX7_addPost_83 rfl (lv_at hl 1 rfl) ?_
              refine z_iadd hx hb dX7_addPost_84 ?_
              refine z_iconst hx hb dX7_addPost_85 ?_
              refine z_iast hx hb hK hP (zD hD rfl) hS 1 0 [(m0, .inr (7, [.ref (a 0), .ref (a 1), .int (zI (cnS ke)), .int (zI (0)), .ref (a 2), .ref (a 3), .ref (a 4), .ref (a 5), .ref (a 6), .ref (a 7), .ref (a 8), .long (zL (hs))])), (a 0, .inl (cI, 612, .inl (zA (zup f (491 + x) 1)))), (a 1, .inl (cI, 2448, .inl (zA (kpF gp f ke))))] rfl rfl (by omega) (Nat.lt_of_succ_le (Nat.le_of_ble_eq_true rfl)) rfl dX7_addPost_86 (fun H locs hP hS => ?_)
              refine lv_iload_n hx hb dX7_addPost_87 rfl (lv_at hl 2 rfl) ?_
              exact hret () (by rw [ht, show i = x by omega]) hP hS dX7_addPost_88
            · refine lv_iload_n hx hb dX7_addPost_57 rfl (lv_at hl 2 rfl) ?_
              refine lv_aload_n hx hb dX7_addPost_58 rfl (lv_at hl 0 rfl) ?_
              refine va_get (D := D) (ci := 7) (v := .ref (a 0)) (C := RX7) (T := TX7) (N := 12) hx hb hts in7 hown hK hP 0 rfl rfl 0 (by decide) f7 (fun _ h9 => h9) rfl dX7_addPost_59 ?_
              refine z_sipush hx hb dX7_addPost_62 (by decide +kernel) ?_
              refine lv_iload_n hx hb dX7_addPost_65 rfl (lv_at hl 3 rfl) ?_
              refine z_iadd hx hb dX7_addPost_66 ?_
              refine z_iald hx hb hK hP 1 0 rfl rfl (by omega) (Nat.lt_of_succ_le (Nat.le_of_ble_eq_true rfl)) dX7_addPost_67 ?_
              refine z_iadd hx hb dX7_addPost_68 ?_
              refine lv_istore_n (lv' := [(2, .int (zI (t + (f (491 + i))))), (0, .ref m0), (1, .int (zI (x))), (3, .int (zI (i)))]) hx hb dX7_addPost_69 rfl hl (by decide) rfl (fun ls hl => ?_)
              refine z_iinc (lv' := [(3, .int (zI (i + 1))), (2, .int (zI (t + (f (491 + i))))), (0, .ref m0), (1, .int (zI (x)))]) hx hb 3 (i + 1) dX7_addPost_70 hl rfl (by omega) (by decide) rfl (fun ls hl => ?_)
              refine lv_goto (tgt := 52) hx hb dX7_addPost_73 (by decide) ?_
              exact ih52 (t + (f (491 + i))) (i + 1) (by omega) (by rw [ht]; exact (zsm_s h4.1).symm) (by omega) _ _ hP hS ls (lv_sub hl [2, 3, 1, 0] rfl)
        exact L52 _ 0 0 (by omega) rfl (Nat.lt_succ_self _) _ _ hP hS ls (lv_sub hl [2, 3, 1, 0] rfl)
      · exfalso; omega
    · exfalso; omega
  · exfalso; omega

theorem okF_post {f : Int → Int} (ok : OkF f) {x v : Int} (hx : 0 ≤ x) (hv : v = 0 ∨ v = 1) : OkF (zup f (491 + x) v) := by
  obtain ⟨o0, o1, o2, o3, o4, o5, o7, o8, olim, ogrd, obar, oneed, opost⟩ := ok
  have e : ∀ j : Int, j < 491 → zup f (491 + x) v j = f j := fun j h => zup_ne (by omega)
  refine ⟨?_, ?_, ?_, ?_, ?_, ?_, ?_, ?_, ?_, ?_, ?_, ?_, ?_⟩
  · rw [e 0 (by omega)]; exact o0
  · rw [e 1 (by omega)]; exact o1
  · rw [e 2 (by omega)]; exact o2
  · rw [e 3 (by omega)]; exact o3
  · rw [e 4 (by omega)]; exact o4
  · rw [e 5 (by omega), e 6 (by omega)]; exact o5
  · rw [e 7 (by omega)]; exact o7
  · rw [e 8 (by omega)]; exact o8
  · intro y a b; rw [e _ (by omega)]; exact olim y a b
  · intro y a b; rw [e _ (by omega)]; exact ogrd y a b
  · intro y a b; rw [e _ (by omega)]; exact obar y a b
  · intro y a b; rw [e _ (by omega)]; exact oneed y a b
  · intro y a b
    by_cases h : y = x
    · subst h; rw [zup_at]; exact hv
    · rw [zup_ne (by omega)]; exact opost y a b
theorem okF_clP {f : Int → Int} (ok : OkF f) : OkF (clP f) := by
  obtain ⟨o0, o1, o2, o3, o4, o5, o7, o8, olim, ogrd, obar, oneed, opost⟩ := ok
  have e : ∀ j : Int, j < 491 → clP f j = f j := fun j h => if_neg (by omega)
  refine ⟨?_, ?_, ?_, ?_, ?_, ?_, ?_, ?_, ?_, ?_, ?_, ?_, ?_⟩
  · rw [e 0 (by omega)]; exact o0
  · rw [e 1 (by omega)]; exact o1
  · rw [e 2 (by omega)]; exact o2
  · rw [e 3 (by omega)]; exact o3
  · rw [e 4 (by omega)]; exact o4
  · rw [e 5 (by omega), e 6 (by omega)]; exact o5
  · rw [e 7 (by omega)]; exact o7
  · rw [e 8 (by omega)]; exact o8
  · intro y a b; rw [e _ (by omega)]; exact olim y a b
  · intro y a b; rw [e _ (by omega)]; exact ogrd y a b
  · intro y a b; rw [e _ (by omega)]; exact obar y a b
  · intro y a b; rw [e _ (by omega)]; exact oneed y a b
  · intro y a b; exact Or.inl (if_pos (by omega))

set_option maxHeartbeats 4000000 in
set_option maxRecDepth 100000 in
theorem kX7_removePost_ok (l : Launch) (D : va_G) (cI cJ cS : ClassId) (m0 : Nat) (a : Nat → Nat) (ke th hs : Int) (f : Int → Int) (gp gr : Int → Int) (x : Int) (ok : OkF f) (hke : 0 ≤ ke ∧ ke ≤ 4) (hY : 0 ≤ x ∧ x ≤ f 0) (h3 : f (491 + x) = 1) : Met l yX7_removePost wsX7_removePost rmX7_removePost (zPc D (zT cI cJ cS) [.ref m0, .int (zI (x))] [(m0, .inr (7, [.ref (a 0), .ref (a 1), .int (zI (ke)), .int (zI (th)), .ref (a 2), .ref (a 3), .ref (a 4), .ref (a 5), .ref (a 6), .ref (a 7), .ref (a 8), .long (zL (hs))])), (a 0, .inl (cI, 612, .inl (zA f))), (a 1, .inl (cI, 2448, .inl (zA gp))), (a 6, .inl (cI, 121, .inl (zA gr)))]) (va_Qi (fun r _ => r = zI (rank (zup f (491 + x) 0) (f 0 + 1))) (fun (u : Int → Int) t => va_P D vwCl [(m0, .inr (7, [.ref (a 0), .ref (a 1), .int (zI (cnS ke)), .int (zI (0)), .ref (a 2), .ref (a 3), .ref (a 4), .ref (a 5), .ref (a 6), .ref (a 7), .ref (a 8), .long (zL (hs))])), (a 0, .inl (cI, 612, .inl (zA (zup f (491 + x) 0)))), (a 1, .inl (cI, 2448, .inl (zA (kpF gp f ke)))), (a 6, .inl (cI, 121, .inl (zA u)))] t.heap) (zAd [(m0, .inr (7, [.ref (a 0), .ref (a 1), .int (zI (ke)), .int (zI (th)), .ref (a 2), .ref (a 3), .ref (a 4), .ref (a 5), .ref (a 6), .ref (a 7), .ref (a 8), .long (zL (hs))])), (a 0, .inl (cI, 612, .inl (zA f))), (a 1, .inl (cI, 2448, .inl (zA gp))), (a 6, .inl (cI, 121, .inl (zA gr)))])) 0 0 (zAd [(m0, .inr (7, [.ref (a 0), .ref (a 1), .int (zI (ke)), .int (zI (th)), .ref (a 2), .ref (a 3), .ref (a 4), .ref (a 5), .ref (a 6), .ref (a 7), .ref (a 8), .long (zL (hs))])), (a 0, .inl (cI, 612, .inl (zA f))), (a 1, .inl (cI, 2448, .inl (zA gp))), (a 6, .inl (cI, 121, .inl (zA gr)))]) := by
  refine zWi_of (cc := cX7_removePost) (maxL := 2) (ret := (some .int)) (by decide) rfl (Nat.le_of_ble_eq_true rfl) rfl ?_
  intro p e s m args below meth c Q A ls hx hb hml hts hown hK hP hD hS hl hret
  have in7 : ∀ w ∈ wsX70, w ∈ wsX7_removePost := by decide +kernel
  have f7 := hts (.fieldLink RX7 7 "SignalSpacingModel" "now" "[I") (by decide +kernel)
  have f41 := hts (.fieldLink RX7 41 "SignalSpacingModel" "thrown" "I") (by decide +kernel)
  have hl : lv_has ls 2 [(0, .ref m0), (1, .int (zI (x)))] := hl
  have hP : va_P D vwCl [(m0, .inr (7, [.ref (a 0), .ref (a 1), .int (zI (ke)), .int (zI (th)), .ref (a 2), .ref (a 3), .ref (a 4), .ref (a 5), .ref (a 6), .ref (a 7), .ref (a 8), .long (zL (hs))])), (a 0, .inl (cI, 612, .inl (zA f))), (a 1, .inl (cI, 2448, .inl (zA gp))), (a 6, .inl (cI, 121, .inl (zA gr)))] s.heap := hP
  obtain ⟨o0, o1, o2, o3, o4, o5, o7, o8, olim, ogrd, obar, oneed, opost⟩ := id ok
  have hfr := okF_r ok
  refine lv_aload_n hx hb dX7_removePost_0 rfl (lv_at hl 0 rfl) ?_
  refine lv_aload_n hx hb dX7_removePost_1 rfl (lv_at hl 0 rfl) ?_
  refine lv_iload_n hx hb dX7_removePost_2 rfl (lv_at hl 1 rfl) ?_
  refine y_rV (v := zB (0 ≤ x ∧ x ≤ f 0)) (As := [.int (zI (x))]) (rest := [.ref m0]) hx hb hml hown hts hl.1 ⟨Nat.zero_le _, Nat.zero_le _⟩ (kX7_isPosition l D cI cJ cS m0 a ke th hs f x o0 (by omega)) (cwV 1 hts gX7_removePost_X7_isPosition rfl rfl rfl jX7_isPosition ⟨Nat.le_of_ble_eq_true rfl, Nat.le_of_ble_eq_true rfl⟩) hK [true, true] hP hD rfl 7 0 rfl rfl rfl rfl rfl (Nat.le_of_ble_eq_true rfl) dX7_removePost_3 ?_
  refine z_top (1) (zB_t (by omega)) ?_
  refine z_if_ne (tgt := 13) hx hb dX7_removePost_6 (by decide) (by omega) (fun c6 => ?_) (fun c6 => ?_)
  · refine lv_aload_n hx hb dX7_removePost_13 rfl (lv_at hl 0 rfl) ?_
    refine va_get (D := D) (ci := 7) (v := .ref (a 0)) (C := RX7) (T := TX7) (N := 12) hx hb hts in7 hown hK hP 0 rfl rfl 0 (by decide) f7 (fun _ h9 => h9) rfl dX7_removePost_14 ?_
    refine z_sipush hx hb dX7_removePost_17 (by decide +kernel) ?_
    refine lv_iload_n hx hb dX7_removePost_20 rfl (lv_at hl 1 rfl) ?_
    refine z_iadd hx hb dX7_removePost_21 ?_
    refine z_iald hx hb hK hP 1 0 rfl rfl (by omega) (Nat.lt_of_succ_le (Nat.le_of_ble_eq_true rfl)) dX7_removePost_22 ?_
    refine z_top (1) h3 ?_
    refine z_if_ne (tgt := 30) hx hb dX7_removePost_23 (by decide) (by omega) (fun c23 => ?_) (fun c23 => ?_)
    · refine z_iconst hx hb dX7_removePost_30 ?_
      refine z_put (ci := 7) (v := .int (zI (0))) (ty := .int) (C := RX7) (F := TX7) (N := 12) hx hb hts in7 tyX7 tyX7_ok nmX7 hown hK hP hD hS 0 [(m0, .inr (7, [.ref (a 0), .ref (a 1), .int (zI (ke)), .int (zI (0)), .ref (a 2), .ref (a 3), .ref (a 4), .ref (a 5), .ref (a 6), .ref (a 7), .ref (a 8), .long (zL (hs))])), (a 0, .inl (cI, 612, .inl (zA f))), (a 1, .inl (cI, 2448, .inl (zA gp))), (a 6, .inl (cI, 121, .inl (zA gr)))] rfl rfl 3 (by decide) f41 (fun _ h9 => h9) rfl (by decide +kernel) rfl rfl (Nat.le_of_ble_eq_true rfl) dX7_removePost_31 rfl (fun H locs hP hS => ?_)
      refine lv_aload_n hx hb dX7_removePost_34 rfl (lv_at hl 0 rfl) ?_
      refine va_get (D := D) (ci := 7) (v := .int (zI (0))) (C := RX7) (T := TX7) (N := 12) hx hb hts in7 hown hK hP 0 rfl rfl 3 (by decide) f41 (fun _ h9 => h9) rfl dX7_removePost_35 ?_
      refine z_if_eq (tgt := 43) hx hb dX7_removePost_38 (by decide) (by omega) (fun c38 => ?_) (fun c38 => ?_)
      · refine lv_aload_n hx hb dX7_removePost_43 rfl (lv_at hl 0 rfl) ?_
        refine y_wVv (As := []) (rest := []) (fun (u44 : Unit) => [(m0, .inr (7, [.ref (a 0), .ref (a 1), .int (zI (cnS ke)), .int (zI (0)), .ref (a 2), .ref (a 3), .ref (a 4), .ref (a 5), .ref (a 6), .ref (a 7), .ref (a 8), .long (zL (hs))])), (a 0, .inl (cI, 612, .inl (zA f))), (a 1, .inl (cI, 2448, .inl (zA (kpF gp f ke)))), (a 6, .inl (cI, 121, .inl (zA gr)))]) hx hb hml hown hts hl.1 ⟨Nat.zero_le _, Nat.zero_le _⟩ (kX7_keep l D cI cJ cS m0 a ke 0 hs f gp hke) (cwV 0 hts gX7_removePost_X7_keep rfl rfl rfl jX7_keep ⟨Nat.le_of_ble_eq_true rfl, Nat.le_of_ble_eq_true rfl⟩) hK [true, true, true] hP (zD hD rfl) hS rfl (fun _ => rfl) (fun _ => rfl) 7 0 rfl rfl rfl rfl rfl (Nat.le_of_ble_eq_true rfl) dX7_removePost_44 (fun u44 H locs hu44 hP hS => ?_)
        refine lv_aload_n hx hb dX7_removePost_47 rfl (lv_at hl 0 rfl) ?_
        refine va_get (D := D) (ci := 7) (v := .ref (a 0)) (C := RX7) (T := TX7) (N := 12) hx hb hts in7 hown hK hP 0 rfl rfl 0 (by decide) f7 (fun _ h9 => h9) rfl dX7_removePost_48 ?_
        refine z_sipush hx hb dX7_removePost_51 (by decide +kernel) ?_
        refine lv_iload_n hx hb dX7_removePost_54 rfl (lv_at hl 1 rfl) ?_
        refine z_iadd hx hb dX7_removePost_55 ?_
        refine z_iconst hx hb dX7_removePost_56 ?_
        refine z_iast hx hb hK hP (zD hD rfl) hS 1 0 [(m0, .inr (7, [.ref (a 0), .ref (a 1), .int (zI (cnS ke)), .int (zI (0)), .ref (a 2), .ref (a 3), .ref (a 4), .ref (a 5), .ref (a 6), .ref (a 7), .ref (a 8), .long (zL (hs))])), (a 0, .inl (cI, 612, .inl (zA (zup f (491 + x) 0)))), (a 1, .inl (cI, 2448, .inl (zA (kpF gp f ke)))), (a 6, .inl (cI, 121, .inl (zA gr)))] rfl rfl (by omega) (Nat.lt_of_succ_le (Nat.le_of_ble_eq_true rfl)) rfl dX7_removePost_57 (fun H locs hP hS => ?_)
        refine lv_aload_n hx hb dX7_removePost_58 rfl (lv_at hl 0 rfl) ?_
        refine y_wVi (As := []) (rest := []) (fun (u59 : Int → Int) => [(m0, .inr (7, [.ref (a 0), .ref (a 1), .int (zI (cnS ke)), .int (zI (0)), .ref (a 2), .ref (a 3), .ref (a 4), .ref (a 5), .ref (a 6), .ref (a 7), .ref (a 8), .long (zL (hs))])), (a 0, .inl (cI, 612, .inl (zA (zup f (491 + x) 0)))), (a 1, .inl (cI, 2448, .inl (zA (kpF gp f ke)))), (a 6, .inl (cI, 121, .inl (zA u59)))]) hx hb hml hown hts hl.1 ⟨Nat.zero_le _, Nat.zero_le _⟩ (kX7_layRow l D cI cJ cS m0 a (cnS ke) 0 hs (zup f (491 + x) 0) gr (okF_post ok hY.1 (Or.inl rfl))) (cwV 0 hts gX7_removePost_X7_layRow rfl rfl rfl jX7_layRow ⟨Nat.le_of_ble_eq_true rfl, Nat.le_of_ble_eq_true rfl⟩) hK [true, true, false, true] hP (zD hD rfl) hS rfl (fun _ => rfl) (fun _ => rfl) 7 0 rfl rfl rfl rfl rfl (Nat.le_of_ble_eq_true rfl) dX7_removePost_59 (fun r59 u59 H locs hu59 hP hS => ?_)
        obtain ⟨rfl, hu59⟩ := hu59
        exact hret u59 (by rw [show (zup f (491 + x) 0) 0 = f 0 from zup_ne (by omega)]) hP hS dX7_removePost_62
      · exfalso; omega
    · exfalso; omega
  · exfalso; omega

abbrev rmX7_clears : Room := { frames := 0, cells := 0, slots := 0, locals := 0 }
theorem jX7_clears : yX7_clears.cls = RX7 ∧ yX7_clears.cls ≠ "java/lang/invoke/MethodHandle" ∧ yX7_clears.cls ≠ "java/lang/invoke/VarHandle" ∧ (parseMethodDescriptor yX7_clears.desc).map (fun d => d.parameters.length) = some 0 := by decide +kernel
set_option maxHeartbeats 4000000 in
set_option maxRecDepth 100000 in
theorem kX7_clears (l : Launch) (D : va_G) (cI cJ cS : ClassId) (m0 : Nat) (a : Nat → Nat) (ke th hs : Int) (f : Int → Int)  : Met l yX7_clears wsX7_clears rmX7_clears (zPc D (zT cI cJ cS) [.ref m0] [(m0, .inr (7, [.ref (a 0), .ref (a 1), .int (zI (ke)), .int (zI (th)), .ref (a 2), .ref (a 3), .ref (a 4), .ref (a 5), .ref (a 6), .ref (a 7), .ref (a 8), .long (zL (hs))])), (a 0, .inl (cI, 612, .inl (zA f)))]) (va_Qv (fun _ => True) (fun (u : Unit) t => va_P D vwCl [(m0, .inr (7, [.ref (a 0), .ref (a 1), .int (zI (ke)), .int (zI (th)), .ref (a 2), .ref (a 3), .ref (a 4), .ref (a 5), .ref (a 6), .ref (a 7), .ref (a 8), .long (zL (hs))])), (a 0, .inl (cI, 612, .inl (zA (clP f))))] t.heap) (zAd [(m0, .inr (7, [.ref (a 0), .ref (a 1), .int (zI (ke)), .int (zI (th)), .ref (a 2), .ref (a 3), .ref (a 4), .ref (a 5), .ref (a 6), .ref (a 7), .ref (a 8), .long (zL (hs))])), (a 0, .inl (cI, 612, .inl (zA f)))])) 0 0 (zAd [(m0, .inr (7, [.ref (a 0), .ref (a 1), .int (zI (ke)), .int (zI (th)), .ref (a 2), .ref (a 3), .ref (a 4), .ref (a 5), .ref (a 6), .ref (a 7), .ref (a 8), .long (zL (hs))])), (a 0, .inl (cI, 612, .inl (zA f)))]) := by
  refine zWv_of (cc := cX7_clears) (maxL := 2) (ret := none) (by decide) rfl (Nat.le_of_ble_eq_true rfl) rfl ?_
  intro p e s m args below meth c Q A ls hx hb hml hts hown hK hP hD hS hl hret
  have in7 : ∀ w ∈ wsX70, w ∈ wsX7_clears := by decide +kernel
  have f7 := hts (.fieldLink RX7 7 "SignalSpacingModel" "now" "[I") (by decide +kernel)
  have hl : lv_has ls 2 [(0, .ref m0)] := hl
  have hP : va_P D vwCl [(m0, .inr (7, [.ref (a 0), .ref (a 1), .int (zI (ke)), .int (zI (th)), .ref (a 2), .ref (a 3), .ref (a 4), .ref (a 5), .ref (a 6), .ref (a 7), .ref (a 8), .long (zL (hs))])), (a 0, .inl (cI, 612, .inl (zA f)))] s.heap := hP
  refine z_iconst hx hb dX7_clears_0 ?_
  refine lv_istore_n (lv' := [(1, .int (zI (0))), (0, .ref m0)]) hx hb dX7_clears_1 rfl hl (by decide) rfl (fun ls hl => ?_)
  have L2 : ∀ (fuel : Nat), ∀ (i : Int) (g : Int → Int), ∀ (h1 : 0 ≤ i ∧ i ≤ 121), ∀ (hg : ∀ j : Int, g j = if 491 ≤ j ∧ j < 491 + i then 0 else f j), (121 - i).toNat < fuel → ∀ (H : Heap) (locs : List Loc), va_P D vwCl [(m0, .inr (7, [.ref (a 0), .ref (a 1), .int (zI (ke)), .int (zI (th)), .ref (a 2), .ref (a 3), .ref (a 4), .ref (a 5), .ref (a 6), .ref (a 7), .ref (a 8), .long (zL (hs))])), (a 0, .inl (cI, 612, .inl (zA g)))] H → va_S A s.heap H locs → ∀ (ls : Array Slot), lv_has ls 2 [(0, .ref m0), (1, .int (zI (i)))] → W p l e rmX7_clears s m args below meth c H locs 0 0 Q (F0 m 2 ls []) := by
    intro fuel
    induction fuel with
    | zero =>
      intro i g h1 hg hm
      exact absurd hm (Nat.not_lt_zero _)
    | succ fuel ih2 =>
      intro i g h1 hg hm H locs hP hS ls hl
      refine lv_iload_n hx hb dX7_clears_2 rfl (lv_at hl 1 rfl) ?_
      refine z_bipush hx hb dX7_clears_3 (by decide +kernel) ?_
      refine z_icmp_ge (tgt := 25) hx hb dX7_clears_5 (by decide) (by omega) (by omega) (fun c5 => ?_) (fun c5 => ?_)
      · have hi9 : i = 121 := by omega
        have hP := zre (g' := clP f) 1 hP rfl (fun j a b => by rw [hg j]; unfold clP; exact z_ifc (by omega))
        exact hret () trivial hP hS dX7_clears_25
      · refine lv_aload_n hx hb dX7_clears_8 rfl (lv_at hl 0 rfl) ?_
        refine va_get (D := D) (ci := 7) (v := .ref (a 0)) (C := RX7) (T := TX7) (N := 12) hx hb hts in7 hown hK hP 0 rfl rfl 0 (by decide) f7 (fun _ h9 => h9) rfl dX7_clears_9 ?_
        refine z_sipush hx hb dX7_clears_12 (by decide +kernel) ?_
        refine lv_iload_n hx hb dX7_clears_15 rfl (lv_at hl 1 rfl) ?_
        refine z_iadd hx hb dX7_clears_16 ?_
        refine z_iconst hx hb dX7_clears_17 ?_
        refine z_iast hx hb hK hP (zD hD rfl) hS 1 0 [(m0, .inr (7, [.ref (a 0), .ref (a 1), .int (zI (ke)), .int (zI (th)), .ref (a 2), .ref (a 3), .ref (a 4), .ref (a 5), .ref (a 6), .ref (a 7), .ref (a 8), .long (zL (hs))])), (a 0, .inl (cI, 612, .inl (zA (zup g (491 + i) 0))))] rfl rfl (by omega) (Nat.lt_of_succ_le (Nat.le_of_ble_eq_true rfl)) rfl dX7_clears_18 (fun H locs hP hS => ?_)
        refine z_iinc (lv' := [(1, .int (zI (i + 1))), (0, .ref m0)]) hx hb 1 (i + 1) dX7_clears_19 hl rfl (by omega) (by decide) rfl (fun ls hl => ?_)
        refine lv_goto (tgt := 2) hx hb dX7_clears_22 (by decide) ?_
        exact ih2 (i + 1) (zup g (491 + i) 0) (by omega) (fun j => if h7 : j = 491 + i then (by rw [h7, zup_at, if_pos (by omega)]) else (by rw [zup_ne h7, hg j]; exact z_ifc (by omega))) (by omega) _ _ hP hS ls (lv_sub hl [1, 0] rfl)
  exact L2 _ 0 f (by omega) (fun j => by rw [if_neg (by omega)]) (Nat.lt_succ_self _) _ _ hP hS ls (lv_sub hl [1, 0] rfl)

abbrev rmX7_clearPosts : Room := { frames := 1, cells := 0, slots := 0, locals := 22 }
theorem jX7_clearPosts : yX7_clearPosts.cls = RX7 ∧ yX7_clearPosts.cls ≠ "java/lang/invoke/MethodHandle" ∧ yX7_clearPosts.cls ≠ "java/lang/invoke/VarHandle" ∧ (parseMethodDescriptor yX7_clearPosts.desc).map (fun d => d.parameters.length) = some 0 := by decide +kernel
set_option maxHeartbeats 4000000 in
set_option maxRecDepth 100000 in
theorem kX7_clearPosts (l : Launch) (D : va_G) (cI cJ cS : ClassId) (m0 : Nat) (a : Nat → Nat) (ke th hs : Int) (f : Int → Int) (gp gr : Int → Int) (ok : OkF f) (hke : 0 ≤ ke ∧ ke ≤ 4) : Met l yX7_clearPosts wsX7_clearPosts rmX7_clearPosts (zPc D (zT cI cJ cS) [.ref m0] [(m0, .inr (7, [.ref (a 0), .ref (a 1), .int (zI (ke)), .int (zI (th)), .ref (a 2), .ref (a 3), .ref (a 4), .ref (a 5), .ref (a 6), .ref (a 7), .ref (a 8), .long (zL (hs))])), (a 0, .inl (cI, 612, .inl (zA f))), (a 1, .inl (cI, 2448, .inl (zA gp))), (a 6, .inl (cI, 121, .inl (zA gr)))]) (va_Qi (fun r _ => r = zI (rank f (f 0 + 1))) (fun (u : Int → Int) t => va_P D vwCl [(m0, .inr (7, [.ref (a 0), .ref (a 1), .int (zI (cnS ke)), .int (zI (0)), .ref (a 2), .ref (a 3), .ref (a 4), .ref (a 5), .ref (a 6), .ref (a 7), .ref (a 8), .long (zL (hs))])), (a 0, .inl (cI, 612, .inl (zA (clP f)))), (a 1, .inl (cI, 2448, .inl (zA (kpF gp f ke)))), (a 6, .inl (cI, 121, .inl (zA u)))] t.heap) (zAd [(m0, .inr (7, [.ref (a 0), .ref (a 1), .int (zI (ke)), .int (zI (th)), .ref (a 2), .ref (a 3), .ref (a 4), .ref (a 5), .ref (a 6), .ref (a 7), .ref (a 8), .long (zL (hs))])), (a 0, .inl (cI, 612, .inl (zA f))), (a 1, .inl (cI, 2448, .inl (zA gp))), (a 6, .inl (cI, 121, .inl (zA gr)))])) 0 0 (zAd [(m0, .inr (7, [.ref (a 0), .ref (a 1), .int (zI (ke)), .int (zI (th)), .ref (a 2), .ref (a 3), .ref (a 4), .ref (a 5), .ref (a 6), .ref (a 7), .ref (a 8), .long (zL (hs))])), (a 0, .inl (cI, 612, .inl (zA f))), (a 1, .inl (cI, 2448, .inl (zA gp))), (a 6, .inl (cI, 121, .inl (zA gr)))]) := by
  refine zWi_of (cc := cX7_clearPosts) (maxL := 2) (ret := (some .int)) (by decide) rfl (Nat.le_of_ble_eq_true rfl) rfl ?_
  intro p e s m args below meth c Q A ls hx hb hml hts hown hK hP hD hS hl hret
  have in7 : ∀ w ∈ wsX70, w ∈ wsX7_clearPosts := by decide +kernel
  have f41 := hts (.fieldLink RX7 41 "SignalSpacingModel" "thrown" "I") (by decide +kernel)
  have hl : lv_has ls 2 [(0, .ref m0)] := hl
  have hP : va_P D vwCl [(m0, .inr (7, [.ref (a 0), .ref (a 1), .int (zI (ke)), .int (zI (th)), .ref (a 2), .ref (a 3), .ref (a 4), .ref (a 5), .ref (a 6), .ref (a 7), .ref (a 8), .long (zL (hs))])), (a 0, .inl (cI, 612, .inl (zA f))), (a 1, .inl (cI, 2448, .inl (zA gp))), (a 6, .inl (cI, 121, .inl (zA gr)))] s.heap := hP
  obtain ⟨o0, o1, o2, o3, o4, o5, o7, o8, olim, ogrd, obar, oneed, opost⟩ := id ok
  have hfr := okF_r ok
  refine lv_aload_n hx hb dX7_clearPosts_0 rfl (lv_at hl 0 rfl) ?_
  refine z_iconst hx hb dX7_clearPosts_1 ?_
  refine z_put (ci := 7) (v := .int (zI (0))) (ty := .int) (C := RX7) (F := TX7) (N := 12) hx hb hts in7 tyX7 tyX7_ok nmX7 hown hK hP hD hS 0 [(m0, .inr (7, [.ref (a 0), .ref (a 1), .int (zI (ke)), .int (zI (0)), .ref (a 2), .ref (a 3), .ref (a 4), .ref (a 5), .ref (a 6), .ref (a 7), .ref (a 8), .long (zL (hs))])), (a 0, .inl (cI, 612, .inl (zA f))), (a 1, .inl (cI, 2448, .inl (zA gp))), (a 6, .inl (cI, 121, .inl (zA gr)))] rfl rfl 3 (by decide) f41 (fun _ h9 => h9) rfl (by decide +kernel) rfl rfl (Nat.le_of_ble_eq_true rfl) dX7_clearPosts_2 rfl (fun H locs hP hS => ?_)
  refine lv_aload_n hx hb dX7_clearPosts_5 rfl (lv_at hl 0 rfl) ?_
  refine y_wVv (As := []) (rest := []) (fun (u6 : Unit) => [(m0, .inr (7, [.ref (a 0), .ref (a 1), .int (zI (cnS ke)), .int (zI (0)), .ref (a 2), .ref (a 3), .ref (a 4), .ref (a 5), .ref (a 6), .ref (a 7), .ref (a 8), .long (zL (hs))])), (a 0, .inl (cI, 612, .inl (zA f))), (a 1, .inl (cI, 2448, .inl (zA (kpF gp f ke)))), (a 6, .inl (cI, 121, .inl (zA gr)))]) hx hb hml hown hts hl.1 ⟨Nat.zero_le _, Nat.zero_le _⟩ (kX7_keep l D cI cJ cS m0 a ke 0 hs f gp hke) (cwV 0 hts gX7_clearPosts_X7_keep rfl rfl rfl jX7_keep ⟨Nat.le_of_ble_eq_true rfl, Nat.le_of_ble_eq_true rfl⟩) hK [true, true, true] hP (zD hD rfl) hS rfl (fun _ => rfl) (fun _ => rfl) 7 0 rfl rfl rfl rfl rfl (Nat.le_of_ble_eq_true rfl) dX7_clearPosts_6 (fun u6 H locs hu6 hP hS => ?_)
  refine lv_aload_n hx hb dX7_clearPosts_9 rfl (lv_at hl 0 rfl) ?_
  refine y_wVi (As := []) (rest := []) (fun (u10 : Int → Int) => [(m0, .inr (7, [.ref (a 0), .ref (a 1), .int (zI (cnS ke)), .int (zI (0)), .ref (a 2), .ref (a 3), .ref (a 4), .ref (a 5), .ref (a 6), .ref (a 7), .ref (a 8), .long (zL (hs))])), (a 0, .inl (cI, 612, .inl (zA f))), (a 1, .inl (cI, 2448, .inl (zA (kpF gp f ke)))), (a 6, .inl (cI, 121, .inl (zA u10)))]) hx hb hml hown hts hl.1 ⟨Nat.zero_le _, Nat.zero_le _⟩ (kX7_layRow l D cI cJ cS m0 a (cnS ke) 0 hs f gr ok) (cwV 0 hts gX7_clearPosts_X7_layRow rfl rfl rfl jX7_layRow ⟨Nat.le_of_ble_eq_true rfl, Nat.le_of_ble_eq_true rfl⟩) hK [true, true, false, true] hP (zD hD rfl) hS rfl (fun _ => rfl) (fun _ => rfl) 7 0 rfl rfl rfl rfl rfl (Nat.le_of_ble_eq_true rfl) dX7_clearPosts_10 (fun r10 u10 H locs hu10 hP hS => ?_)
  obtain ⟨rfl, hu10⟩ := hu10
  refine lv_istore_n (lv' := [(1, .int (zI (rank f (f 0 + 1)))), (0, .ref m0)]) hx hb dX7_clearPosts_13 rfl hl (by decide) rfl (fun ls hl => ?_)
  refine lv_aload_n hx hb dX7_clearPosts_14 rfl (lv_at hl 1 rfl) ?_
  refine y_wVv (As := []) (rest := []) (fun (u15 : Unit) => [(m0, .inr (7, [.ref (a 0), .ref (a 1), .int (zI (cnS ke)), .int (zI (0)), .ref (a 2), .ref (a 3), .ref (a 4), .ref (a 5), .ref (a 6), .ref (a 7), .ref (a 8), .long (zL (hs))])), (a 0, .inl (cI, 612, .inl (zA (clP f)))), (a 1, .inl (cI, 2448, .inl (zA (kpF gp f ke)))), (a 6, .inl (cI, 121, .inl (zA u10)))]) hx hb hml hown hts hl.1 ⟨Nat.zero_le _, Nat.zero_le _⟩ (kX7_clears l D cI cJ cS m0 a (cnS ke) 0 hs f) (cwV 0 hts gX7_clearPosts_X7_clears rfl rfl rfl jX7_clears ⟨Nat.le_of_ble_eq_true rfl, Nat.le_of_ble_eq_true rfl⟩) hK [true, true] hP (zD hD rfl) hS rfl (fun _ => rfl) (fun _ => rfl) 7 0 rfl rfl rfl rfl rfl (Nat.le_of_ble_eq_true rfl) dX7_clearPosts_15 (fun u15 H locs hu15 hP hS => ?_)
  refine lv_iload_n hx hb dX7_clearPosts_18 rfl (lv_at hl 0 rfl) ?_
  exact hret u10 rfl hP hS dX7_clearPosts_19

abbrev rmX7_posts : Room := { frames := 1, cells := 0, slots := 0, locals := 22 }
theorem jX7_posts : yX7_posts.cls = RX7 ∧ yX7_posts.cls ≠ "java/lang/invoke/MethodHandle" ∧ yX7_posts.cls ≠ "java/lang/invoke/VarHandle" ∧ (parseMethodDescriptor yX7_posts.desc).map (fun d => d.parameters.length) = some 0 := by decide +kernel
set_option maxHeartbeats 4000000 in
set_option maxRecDepth 100000 in
theorem kX7_posts (l : Launch) (D : va_G) (cI cJ cS : ClassId) (m0 : Nat) (a : Nat → Nat) (ke th hs : Int) (f : Int → Int) (gr : Int → Int) (ok : OkF f) : Met l yX7_posts wsX7_posts rmX7_posts (zPc D (zT cI cJ cS) [.ref m0] [(m0, .inr (7, [.ref (a 0), .ref (a 1), .int (zI (ke)), .int (zI (th)), .ref (a 2), .ref (a 3), .ref (a 4), .ref (a 5), .ref (a 6), .ref (a 7), .ref (a 8), .long (zL (hs))])), (a 0, .inl (cI, 612, .inl (zA f))), (a 6, .inl (cI, 121, .inl (zA gr)))]) (va_Qi (fun r _ => r = zI (rank f (f 0 + 1))) (fun (u : Int → Int) t => va_P D vwCl [(m0, .inr (7, [.ref (a 0), .ref (a 1), .int (zI (ke)), .int (zI (0)), .ref (a 2), .ref (a 3), .ref (a 4), .ref (a 5), .ref (a 6), .ref (a 7), .ref (a 8), .long (zL (hs))])), (a 0, .inl (cI, 612, .inl (zA f))), (a 6, .inl (cI, 121, .inl (zA u)))] t.heap) (zAd [(m0, .inr (7, [.ref (a 0), .ref (a 1), .int (zI (ke)), .int (zI (th)), .ref (a 2), .ref (a 3), .ref (a 4), .ref (a 5), .ref (a 6), .ref (a 7), .ref (a 8), .long (zL (hs))])), (a 0, .inl (cI, 612, .inl (zA f))), (a 6, .inl (cI, 121, .inl (zA gr)))])) 0 0 (zAd [(m0, .inr (7, [.ref (a 0), .ref (a 1), .int (zI (ke)), .int (zI (th)), .ref (a 2), .ref (a 3), .ref (a 4), .ref (a 5), .ref (a 6), .ref (a 7), .ref (a 8), .long (zL (hs))])), (a 0, .inl (cI, 612, .inl (zA f))), (a 6, .inl (cI, 121, .inl (zA gr)))]) := by
  refine zWi_of (cc := cX7_posts) (maxL := 1) (ret := (some .int)) (by decide) rfl (Nat.le_of_ble_eq_true rfl) rfl ?_
  intro p e s m args below meth c Q A ls hx hb hml hts hown hK hP hD hS hl hret
  have in7 : ∀ w ∈ wsX70, w ∈ wsX7_posts := by decide +kernel
  have f41 := hts (.fieldLink RX7 41 "SignalSpacingModel" "thrown" "I") (by decide +kernel)
  have hl : lv_has ls 1 [(0, .ref m0)] := hl
  have hP : va_P D vwCl [(m0, .inr (7, [.ref (a 0), .ref (a 1), .int (zI (ke)), .int (zI (th)), .ref (a 2), .ref (a 3), .ref (a 4), .ref (a 5), .ref (a 6), .ref (a 7), .ref (a 8), .long (zL (hs))])), (a 0, .inl (cI, 612, .inl (zA f))), (a 6, .inl (cI, 121, .inl (zA gr)))] s.heap := hP
  obtain ⟨o0, o1, o2, o3, o4, o5, o7, o8, olim, ogrd, obar, oneed, opost⟩ := id ok
  have hfr := okF_r ok
  refine lv_aload_n hx hb dX7_posts_0 rfl (lv_at hl 0 rfl) ?_
  refine z_iconst hx hb dX7_posts_1 ?_
  refine z_put (ci := 7) (v := .int (zI (0))) (ty := .int) (C := RX7) (F := TX7) (N := 12) hx hb hts in7 tyX7 tyX7_ok nmX7 hown hK hP hD hS 0 [(m0, .inr (7, [.ref (a 0), .ref (a 1), .int (zI (ke)), .int (zI (0)), .ref (a 2), .ref (a 3), .ref (a 4), .ref (a 5), .ref (a 6), .ref (a 7), .ref (a 8), .long (zL (hs))])), (a 0, .inl (cI, 612, .inl (zA f))), (a 6, .inl (cI, 121, .inl (zA gr)))] rfl rfl 3 (by decide) f41 (fun _ h9 => h9) rfl (by decide +kernel) rfl rfl (Nat.le_of_ble_eq_true rfl) dX7_posts_2 rfl (fun H locs hP hS => ?_)
  refine lv_aload_n hx hb dX7_posts_5 rfl (lv_at hl 0 rfl) ?_
  refine y_wVi (As := []) (rest := []) (fun (u6 : Int → Int) => [(m0, .inr (7, [.ref (a 0), .ref (a 1), .int (zI (ke)), .int (zI (0)), .ref (a 2), .ref (a 3), .ref (a 4), .ref (a 5), .ref (a 6), .ref (a 7), .ref (a 8), .long (zL (hs))])), (a 0, .inl (cI, 612, .inl (zA f))), (a 6, .inl (cI, 121, .inl (zA u6)))]) hx hb hml hown hts hl.1 ⟨Nat.zero_le _, Nat.zero_le _⟩ (kX7_layRow l D cI cJ cS m0 a ke 0 hs f gr ok) (cwV 0 hts gX7_posts_X7_layRow rfl rfl rfl jX7_layRow ⟨Nat.le_of_ble_eq_true rfl, Nat.le_of_ble_eq_true rfl⟩) hK [true, true, true] hP (zD hD rfl) hS rfl (fun _ => rfl) (fun _ => rfl) 7 0 rfl rfl rfl rfl rfl (Nat.le_of_ble_eq_true rfl) dX7_posts_6 (fun r6 u6 H locs hu6 hP hS => ?_)
  obtain ⟨rfl, hu6⟩ := hu6
  exact hret u6 rfl hP hS dX7_posts_9

abbrev rmX7_post : Room := { frames := 1, cells := 0, slots := 0, locals := 22 }
theorem jX7_post : yX7_post.cls = RX7 ∧ yX7_post.cls ≠ "java/lang/invoke/MethodHandle" ∧ yX7_post.cls ≠ "java/lang/invoke/VarHandle" ∧ (parseMethodDescriptor yX7_post.desc).map (fun d => d.parameters.length) = some 1 := by decide +kernel
set_option maxHeartbeats 4000000 in
set_option maxRecDepth 100000 in
theorem kX7_post_no (l : Launch) (D : va_G) (cI cJ cS : ClassId) (m0 : Nat) (a : Nat → Nat) (ke th hs : Int) (f : Int → Int) (gr : Int → Int) (i : Int) (ok : OkF f) (hN : ¬ (0 ≤ i ∧ i < rank f (f 0 + 1))) (hr_i : -2147483648 ≤ i ∧ i < 2147483648) : Met l yX7_post wsX7_post rmX7_post (zPc D (zT cI cJ cS) [.ref m0, .int (zI (i))] [(m0, .inr (7, [.ref (a 0), .ref (a 1), .int (zI (ke)), .int (zI (th)), .ref (a 2), .ref (a 3), .ref (a 4), .ref (a 5), .ref (a 6), .ref (a 7), .ref (a 8), .long (zL (hs))])), (a 0, .inl (cI, 612, .inl (zA f))), (a 6, .inl (cI, 121, .inl (zA gr)))]) (va_Qi (fun r _ => r = zI 0) (fun (u : Int → Int) t => va_P D vwCl [(m0, .inr (7, [.ref (a 0), .ref (a 1), .int (zI (ke)), .int (zI (1)), .ref (a 2), .ref (a 3), .ref (a 4), .ref (a 5), .ref (a 6), .ref (a 7), .ref (a 8), .long (zL (hs))])), (a 0, .inl (cI, 612, .inl (zA f))), (a 6, .inl (cI, 121, .inl (zA u)))] t.heap) (zAd [(m0, .inr (7, [.ref (a 0), .ref (a 1), .int (zI (ke)), .int (zI (th)), .ref (a 2), .ref (a 3), .ref (a 4), .ref (a 5), .ref (a 6), .ref (a 7), .ref (a 8), .long (zL (hs))])), (a 0, .inl (cI, 612, .inl (zA f))), (a 6, .inl (cI, 121, .inl (zA gr)))])) 0 0 (zAd [(m0, .inr (7, [.ref (a 0), .ref (a 1), .int (zI (ke)), .int (zI (th)), .ref (a 2), .ref (a 3), .ref (a 4), .ref (a 5), .ref (a 6), .ref (a 7), .ref (a 8), .long (zL (hs))])), (a 0, .inl (cI, 612, .inl (zA f))), (a 6, .inl (cI, 121, .inl (zA gr)))]) := by
  refine zWi_of (cc := cX7_post) (maxL := 3) (ret := (some .int)) (by decide) rfl (Nat.le_of_ble_eq_true rfl) rfl ?_
  intro p e s m args below meth c Q A ls hx hb hml hts hown hK hP hD hS hl hret
  have hl : lv_has ls 3 [(0, .ref m0), (1, .int (zI (i)))] := hl
  have hP : va_P D vwCl [(m0, .inr (7, [.ref (a 0), .ref (a 1), .int (zI (ke)), .int (zI (th)), .ref (a 2), .ref (a 3), .ref (a 4), .ref (a 5), .ref (a 6), .ref (a 7), .ref (a 8), .long (zL (hs))])), (a 0, .inl (cI, 612, .inl (zA f))), (a 6, .inl (cI, 121, .inl (zA gr)))] s.heap := hP
  obtain ⟨o0, o1, o2, o3, o4, o5, o7, o8, olim, ogrd, obar, oneed, opost⟩ := id ok
  have hfr := okF_r ok
  have hr9 := rank_b ok (x := f 0 + 1) (by omega) (by omega)
  refine lv_aload_n hx hb dX7_post_0 rfl (lv_at hl 0 rfl) ?_
  refine y_wVi (As := []) (rest := []) (fun (u1 : Int → Int) => [(m0, .inr (7, [.ref (a 0), .ref (a 1), .int (zI (ke)), .int (zI (th)), .ref (a 2), .ref (a 3), .ref (a 4), .ref (a 5), .ref (a 6), .ref (a 7), .ref (a 8), .long (zL (hs))])), (a 0, .inl (cI, 612, .inl (zA f))), (a 6, .inl (cI, 121, .inl (zA u1)))]) hx hb hml hown hts hl.1 ⟨Nat.zero_le _, Nat.zero_le _⟩ (kX7_layRow l D cI cJ cS m0 a ke th hs f gr ok) (cwV 0 hts gX7_post_X7_layRow rfl rfl rfl jX7_layRow ⟨Nat.le_of_ble_eq_true rfl, Nat.le_of_ble_eq_true rfl⟩) hK [true, true, true] hP hD hS rfl (fun _ => rfl) (fun _ => rfl) 7 0 rfl rfl rfl rfl rfl (Nat.le_of_ble_eq_true rfl) dX7_post_1 (fun r1 u1 H locs hu1 hP hS => ?_)
  obtain ⟨rfl, hu1⟩ := hu1
  refine lv_istore_n (lv' := [(2, .int (zI (rank f (f 0 + 1)))), (0, .ref m0), (1, .int (zI (i)))]) hx hb dX7_post_4 rfl hl (by decide) rfl (fun ls hl => ?_)
  refine lv_aload_n hx hb dX7_post_5 rfl (lv_at hl 1 rfl) ?_
  refine lv_iload_n hx hb dX7_post_6 rfl (lv_at hl 2 rfl) ?_
  refine z_iconst hx hb dX7_post_7 ?_
  refine lv_iload_n hx hb dX7_post_8 rfl (lv_at hl 0 rfl) ?_
  refine z_iconst hx hb dX7_post_9 ?_
  refine z_isub hx hb dX7_post_10 ?_
  refine z_rS (v := zB (0 ≤ i ∧ i ≤ ((rank f (f 0 + 1)) - 1))) (As := [.int (zI (i)), .int (zI (0)), .int (zI ((rank f (f 0 + 1)) - 1))]) (rest := [.ref m0]) hx hb hml hown hts hl.1 ⟨Nat.zero_le _, Nat.zero_le _⟩ (kX7_in l D cI cJ cS i 0 ((rank f (f 0 + 1)) - 1) (by omega) (by omega) (by omega)) (cwS 3 hts gX7_post_X7_in rfl rfl rfl jX7_in ⟨Nat.le_of_ble_eq_true rfl, Nat.le_of_ble_eq_true rfl⟩) hK rfl rfl (Nat.le_of_ble_eq_true rfl) dX7_post_11 ?_
  refine z_top (0) (zB_f (by omega)) ?_
  refine y_wVi (As := [.int (zI (0))]) (rest := []) (fun (u14 : Unit) => [(m0, .inr (7, [.ref (a 0), .ref (a 1), .int (zI (ke)), .int (zI (1)), .ref (a 2), .ref (a 3), .ref (a 4), .ref (a 5), .ref (a 6), .ref (a 7), .ref (a 8), .long (zL (hs))])), (a 0, .inl (cI, 612, .inl (zA f))), (a 6, .inl (cI, 121, .inl (zA u1)))]) hx hb hml hown hts hl.1 ⟨Nat.zero_le _, Nat.zero_le _⟩ (kX7_refuses_0 l D cI cJ cS m0 a ke th hs f) (cwV 1 hts gX7_post_X7_refuses rfl rfl rfl jX7_refuses ⟨Nat.le_of_ble_eq_true rfl, Nat.le_of_ble_eq_true rfl⟩) hK [true] hP (zD hD rfl) hS rfl (fun _ => rfl) (fun _ => rfl) 7 0 rfl rfl rfl rfl rfl (Nat.le_of_ble_eq_true rfl) dX7_post_14 (fun r14 u14 H locs hu14 hP hS => ?_)
  subst hu14
  refine z_if_eq (tgt := 24) hx hb dX7_post_17 (by decide) (by omega) (fun c17 => ?_) (fun c17 => ?_)
  · exfalso; omega
  · refine z_iconst hx hb dX7_post_20 ?_
    refine lv_goto (tgt := 30) hx hb dX7_post_21 (by decide) ?_
    exact hret u1 rfl hP hS dX7_post_30

set_option maxHeartbeats 4000000 in
set_option maxRecDepth 100000 in
theorem kX7_post_ok (l : Launch) (D : va_G) (cI cJ cS : ClassId) (m0 : Nat) (a : Nat → Nat) (ke th hs : Int) (f : Int → Int) (gr : Int → Int) (i : Int) (ok : OkF f) (hY : 0 ≤ i ∧ i < rank f (f 0 + 1)) : Met l yX7_post wsX7_post rmX7_post (zPc D (zT cI cJ cS) [.ref m0, .int (zI (i))] [(m0, .inr (7, [.ref (a 0), .ref (a 1), .int (zI (ke)), .int (zI (th)), .ref (a 2), .ref (a 3), .ref (a 4), .ref (a 5), .ref (a 6), .ref (a 7), .ref (a 8), .long (zL (hs))])), (a 0, .inl (cI, 612, .inl (zA f))), (a 6, .inl (cI, 121, .inl (zA gr)))]) (va_Qi (fun r _ => r = zI (pst f i)) (fun (u : Int → Int) t => va_P D vwCl [(m0, .inr (7, [.ref (a 0), .ref (a 1), .int (zI (ke)), .int (zI (0)), .ref (a 2), .ref (a 3), .ref (a 4), .ref (a 5), .ref (a 6), .ref (a 7), .ref (a 8), .long (zL (hs))])), (a 0, .inl (cI, 612, .inl (zA f))), (a 6, .inl (cI, 121, .inl (zA u)))] t.heap) (zAd [(m0, .inr (7, [.ref (a 0), .ref (a 1), .int (zI (ke)), .int (zI (th)), .ref (a 2), .ref (a 3), .ref (a 4), .ref (a 5), .ref (a 6), .ref (a 7), .ref (a 8), .long (zL (hs))])), (a 0, .inl (cI, 612, .inl (zA f))), (a 6, .inl (cI, 121, .inl (zA gr)))])) 0 0 (zAd [(m0, .inr (7, [.ref (a 0), .ref (a 1), .int (zI (ke)), .int (zI (th)), .ref (a 2), .ref (a 3), .ref (a 4), .ref (a 5), .ref (a 6), .ref (a 7), .ref (a 8), .long (zL (hs))])), (a 0, .inl (cI, 612, .inl (zA f))), (a 6, .inl (cI, 121, .inl (zA gr)))]) := by
  refine zWi_of (cc := cX7_post) (maxL := 3) (ret := (some .int)) (by decide) rfl (Nat.le_of_ble_eq_true rfl) rfl ?_
  intro p e s m args below meth c Q A ls hx hb hml hts hown hK hP hD hS hl hret
  have in7 : ∀ w ∈ wsX70, w ∈ wsX7_post := by decide +kernel
  have f29 := hts (.fieldLink RX7 29 "SignalSpacingModel" "row" "[I") (by decide +kernel)
  have hl : lv_has ls 3 [(0, .ref m0), (1, .int (zI (i)))] := hl
  have hP : va_P D vwCl [(m0, .inr (7, [.ref (a 0), .ref (a 1), .int (zI (ke)), .int (zI (th)), .ref (a 2), .ref (a 3), .ref (a 4), .ref (a 5), .ref (a 6), .ref (a 7), .ref (a 8), .long (zL (hs))])), (a 0, .inl (cI, 612, .inl (zA f))), (a 6, .inl (cI, 121, .inl (zA gr)))] s.heap := hP
  obtain ⟨o0, o1, o2, o3, o4, o5, o7, o8, olim, ogrd, obar, oneed, opost⟩ := id ok
  have hfr := okF_r ok
  have hr9 := rank_b ok (x := f 0 + 1) (by omega) (by omega)
  refine lv_aload_n hx hb dX7_post_0 rfl (lv_at hl 0 rfl) ?_
  refine y_wVi (As := []) (rest := []) (fun (u1 : Int → Int) => [(m0, .inr (7, [.ref (a 0), .ref (a 1), .int (zI (ke)), .int (zI (th)), .ref (a 2), .ref (a 3), .ref (a 4), .ref (a 5), .ref (a 6), .ref (a 7), .ref (a 8), .long (zL (hs))])), (a 0, .inl (cI, 612, .inl (zA f))), (a 6, .inl (cI, 121, .inl (zA u1)))]) hx hb hml hown hts hl.1 ⟨Nat.zero_le _, Nat.zero_le _⟩ (kX7_layRow l D cI cJ cS m0 a ke th hs f gr ok) (cwV 0 hts gX7_post_X7_layRow rfl rfl rfl jX7_layRow ⟨Nat.le_of_ble_eq_true rfl, Nat.le_of_ble_eq_true rfl⟩) hK [true, true, true] hP hD hS rfl (fun _ => rfl) (fun _ => rfl) 7 0 rfl rfl rfl rfl rfl (Nat.le_of_ble_eq_true rfl) dX7_post_1 (fun r1 u1 H locs hu1 hP hS => ?_)
  obtain ⟨rfl, hu1⟩ := hu1
  refine lv_istore_n (lv' := [(2, .int (zI (rank f (f 0 + 1)))), (0, .ref m0), (1, .int (zI (i)))]) hx hb dX7_post_4 rfl hl (by decide) rfl (fun ls hl => ?_)
  refine lv_aload_n hx hb dX7_post_5 rfl (lv_at hl 1 rfl) ?_
  refine lv_iload_n hx hb dX7_post_6 rfl (lv_at hl 2 rfl) ?_
  refine z_iconst hx hb dX7_post_7 ?_
  refine lv_iload_n hx hb dX7_post_8 rfl (lv_at hl 0 rfl) ?_
  refine z_iconst hx hb dX7_post_9 ?_
  refine z_isub hx hb dX7_post_10 ?_
  refine z_rS (v := zB (0 ≤ i ∧ i ≤ ((rank f (f 0 + 1)) - 1))) (As := [.int (zI (i)), .int (zI (0)), .int (zI ((rank f (f 0 + 1)) - 1))]) (rest := [.ref m0]) hx hb hml hown hts hl.1 ⟨Nat.zero_le _, Nat.zero_le _⟩ (kX7_in l D cI cJ cS i 0 ((rank f (f 0 + 1)) - 1) (by omega) (by omega) (by omega)) (cwS 3 hts gX7_post_X7_in rfl rfl rfl jX7_in ⟨Nat.le_of_ble_eq_true rfl, Nat.le_of_ble_eq_true rfl⟩) hK rfl rfl (Nat.le_of_ble_eq_true rfl) dX7_post_11 ?_
  refine z_top (1) (zB_t (by omega)) ?_
  refine y_wVi (As := [.int (zI (1))]) (rest := []) (fun (u14 : Unit) => [(m0, .inr (7, [.ref (a 0), .ref (a 1), .int (zI (ke)), .int (zI (0)), .ref (a 2), .ref (a 3), .ref (a 4), .ref (a 5), .ref (a 6), .ref (a 7), .ref (a 8), .long (zL (hs))])), (a 0, .inl (cI, 612, .inl (zA f))), (a 6, .inl (cI, 121, .inl (zA u1)))]) hx hb hml hown hts hl.1 ⟨Nat.zero_le _, Nat.zero_le _⟩ (kX7_refuses_1 l D cI cJ cS m0 a ke th hs f) (cwV 1 hts gX7_post_X7_refuses rfl rfl rfl jX7_refuses ⟨Nat.le_of_ble_eq_true rfl, Nat.le_of_ble_eq_true rfl⟩) hK [true] hP (zD hD rfl) hS rfl (fun _ => rfl) (fun _ => rfl) 7 0 rfl rfl rfl rfl rfl (Nat.le_of_ble_eq_true rfl) dX7_post_14 (fun r14 u14 H locs hu14 hP hS => ?_)
  subst hu14
  refine z_if_eq (tgt := 24) hx hb dX7_post_17 (by decide) (by omega) (fun c17 => ?_) (fun c17 => ?_)
  · refine lv_aload_n hx hb dX7_post_24 rfl (lv_at hl 1 rfl) ?_
    refine va_get (D := D) (ci := 7) (v := .ref (a 6)) (C := RX7) (T := TX7) (N := 12) hx hb hts in7 hown hK hP 0 rfl rfl 8 (by decide) f29 (fun _ h9 => h9) rfl dX7_post_25 ?_
    refine lv_iload_n hx hb dX7_post_28 rfl (lv_at hl 2 rfl) ?_
    refine z_iald hx hb hK hP 2 0 rfl rfl (by omega) (Nat.lt_of_succ_le (Nat.le_of_ble_eq_true rfl)) dX7_post_29 ?_
    exact hret u1 (by rw [rep_pst ok hu1 hY.1 hY.2]) hP hS dX7_post_30
  · exfalso; omega
