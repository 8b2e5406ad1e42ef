/-! ===== SignalSpacing$Profile ===== -/
abbrev rmX2_energyOf : Room := { frames := 0, cells := 0, slots := 0, locals := 0 }
theorem jX2_energyOf : yX2_energyOf.cls = RX2 ∧ yX2_energyOf.cls ≠ "java/lang/invoke/MethodHandle" ∧ yX2_energyOf.cls ≠ "java/lang/invoke/VarHandle" ∧ (parseMethodDescriptor yX2_energyOf.desc).map (fun d => d.parameters.length) = some 1 := by decide +kernel
set_option maxHeartbeats 4000000 in
set_option maxRecDepth 100000 in
theorem kX2_energyOf (l : Launch) (D : va_G) (cI cJ cS : ClassId) (v : Int)  : Met l yX2_energyOf wsX2_energyOf rmX2_energyOf (zPc D (zT cI cJ cS) [.int (zI (v))] []) (vp_Si (fun r => r = zI (125 * v * v))) 0 0 (fun _ => False) := by
  refine zRi_of (cc := cX2_energyOf) (maxL := 1) (ret := (some .int)) (125 * v * v) (by decide) rfl (Nat.le_of_ble_eq_true rfl) rfl ?_
  intro p e s m args below meth c Q ls hx hb hml hts hown hK hP hD hl hret
  have hl : lv_has ls 1 [(0, .int (zI (v)))] := hl
  have hP : va_P D vwCl [] s.heap := hP
  refine z_bipush hx hb dX2_energyOf_0 (by decide +kernel) ?_
  refine lv_iload_n hx hb dX2_energyOf_2 rfl (lv_at hl 0 rfl) ?_
  refine z_imul hx hb dX2_energyOf_3 ?_
  refine lv_iload_n hx hb dX2_energyOf_4 rfl (lv_at hl 0 rfl) ?_
  refine z_imul hx hb dX2_energyOf_5 ?_
  exact z_top (125 * v * v) rfl (hret dX2_energyOf_6)

abbrev rmX2_roundUp : Room := { frames := 0, cells := 0, slots := 0, locals := 0 }
theorem jX2_roundUp : yX2_roundUp.cls = RX2 ∧ yX2_roundUp.cls ≠ "java/lang/invoke/MethodHandle" ∧ yX2_roundUp.cls ≠ "java/lang/invoke/VarHandle" ∧ (parseMethodDescriptor yX2_roundUp.desc).map (fun d => d.parameters.length) = some 2 := by decide +kernel
set_option maxHeartbeats 4000000 in
set_option maxRecDepth 100000 in
theorem kX2_roundUp (l : Launch) (D : va_G) (cI cJ cS : ClassId) (a d : Int) (h1 : 0 ≤ a ∧ 0 < d ∧ a + d < 2147483648) : Met l yX2_roundUp wsX2_roundUp rmX2_roundUp (zPc D (zT cI cJ cS) [.int (zI (a)), .int (zI (d))] []) (vp_Si (fun r => r = zI (rup a d))) 0 0 (fun _ => False) := by
  refine zRi_of (cc := cX2_roundUp) (maxL := 2) (ret := (some .int)) (rup a d) (by decide) rfl (Nat.le_of_ble_eq_true rfl) rfl ?_
  intro p e s m args below meth c Q ls hx hb hml hts hown hK hP hD hl hret
  have hl : lv_has ls 2 [(0, .int (zI (a))), (1, .int (zI (d)))] := hl
  have hP : va_P D vwCl [] s.heap := hP
  refine lv_iload_n hx hb dX2_roundUp_0 rfl (lv_at hl 1 rfl) ?_
  refine z_if_le (tgt := 14) hx hb dX2_roundUp_1 (by decide) (by omega) (fun c1 => ?_) (fun c1 => ?_)
  · exfalso; omega
  · refine lv_iload_n hx hb dX2_roundUp_4 rfl (lv_at hl 0 rfl) ?_
    refine lv_iload_n hx hb dX2_roundUp_5 rfl (lv_at hl 1 rfl) ?_
    refine z_iadd hx hb dX2_roundUp_6 ?_
    refine z_iconst hx hb dX2_roundUp_7 ?_
    refine z_isub hx hb dX2_roundUp_8 ?_
    refine lv_iload_n hx hb dX2_roundUp_9 rfl (lv_at hl 1 rfl) ?_
    refine z_idiv hx hb dX2_roundUp_10 (by omega) (by omega) ?_
    refine lv_goto (tgt := 15) hx hb dX2_roundUp_11 (by decide) ?_
    exact z_top (rup a d) rfl (hret dX2_roundUp_15)

abbrev rmX2_greatestEnergy : Room := { frames := 1, cells := 0, slots := 0, locals := 21 }
theorem jX2_greatestEnergy : yX2_greatestEnergy.cls = RX2 ∧ yX2_greatestEnergy.cls ≠ "java/lang/invoke/MethodHandle" ∧ yX2_greatestEnergy.cls ≠ "java/lang/invoke/VarHandle" ∧ (parseMethodDescriptor yX2_greatestEnergy.desc).map (fun d => d.parameters.length) = some 1 := by decide +kernel
set_option maxHeartbeats 4000000 in
set_option maxRecDepth 100000 in
theorem kX2_greatestEnergy (l : Launch) (D : va_G) (cI cJ cS : ClassId) (p0 : Nat) (b r : Nat → Nat) (fr : Int) (f ps : Int → Int) (n : Int) (x : Int) (h1 : 0 ≤ x ∧ x < 120) : Met l yX2_greatestEnergy wsX2_greatestEnergy rmX2_greatestEnergy (zPc D (zT cI cJ cS) [.ref p0, .int (zI (x))] [(p0, .inr (2, [.ref (b 0), .ref (r 0), .ref (r 1), .ref (r 2), .ref (r 3), .int (zI (fr))])), (b 0, .inr (4, [.ref (b 1), .ref (b 2), .ref (b 3), .ref (b 4), .ref (b 5), .int (zI (n)), .int (zI (f 0)), .int (zI (f 1)), .int (zI (f 2)), .int (zI (f 3)), .int (zI (f 4)), .int (zI (f 5)), .int (zI (f 6)), .int (zI (f 7)), .int (zI (f 8))])), (b 1, .inr (3, [.ref (b 6)])), (b 2, .inr (3, [.ref (b 7)])), (b 3, .inr (3, [.ref (b 8)])), (b 4, .inr (3, [.ref (b 9)])), (b 5, .inr (3, [.ref (b 10)])), (b 6, .inl (cI, 120, .inl (zA (fun xx => f (9 + xx))))), (b 7, .inl (cI, 120, .inl (zA (fun xx => f (129 + xx))))), (b 8, .inl (cI, 121, .inl (zA (fun xx => f (249 + xx))))), (b 9, .inl (cI, 121, .inl (zA (fun xx => f (370 + xx))))), (b 10, .inl (cI, 121, .inl (zA ps)))]) (vp_Si (fun r => r = zI (zmost f x))) 0 0 (fun _ => False) := by
  refine zRi_of (cc := cX2_greatestEnergy) (maxL := 2) (ret := (some .int)) (zmost f x) (by decide) rfl (Nat.le_of_ble_eq_true rfl) rfl ?_
  intro p e s m args below meth c Q ls hx hb hml hts hown hK hP hD hl hret
  have in2 : ∀ w ∈ wsX20, w ∈ wsX2_greatestEnergy := by decide +kernel
  have in4 : ∀ w ∈ wsX40, w ∈ wsX2_greatestEnergy := by decide +kernel
  have f29 := hts (.fieldLink RX2 29 "SignalSpacing$Profile" "state" "LSignalSpacing$State;") (by decide +kernel)
  have f72 := hts (.fieldLink RX2 72 "SignalSpacing$State" "limits" "LSignalSpacing$Row;") (by decide +kernel)
  have hl : lv_has ls 2 [(0, .ref p0), (1, .int (zI (x)))] := hl
  have hP : va_P D vwCl [(p0, .inr (2, [.ref (b 0), .ref (r 0), .ref (r 1), .ref (r 2), .ref (r 3), .int (zI (fr))])), (b 0, .inr (4, [.ref (b 1), .ref (b 2), .ref (b 3), .ref (b 4), .ref (b 5), .int (zI (n)), .int (zI (f 0)), .int (zI (f 1)), .int (zI (f 2)), .int (zI (f 3)), .int (zI (f 4)), .int (zI (f 5)), .int (zI (f 6)), .int (zI (f 7)), .int (zI (f 8))])), (b 1, .inr (3, [.ref (b 6)])), (b 2, .inr (3, [.ref (b 7)])), (b 3, .inr (3, [.ref (b 8)])), (b 4, .inr (3, [.ref (b 9)])), (b 5, .inr (3, [.ref (b 10)])), (b 6, .inl (cI, 120, .inl (zA (fun xx => f (9 + xx))))), (b 7, .inl (cI, 120, .inl (zA (fun xx => f (129 + xx))))), (b 8, .inl (cI, 121, .inl (zA (fun xx => f (249 + xx))))), (b 9, .inl (cI, 121, .inl (zA (fun xx => f (370 + xx))))), (b 10, .inl (cI, 121, .inl (zA ps)))] s.heap := hP
  refine lv_aload_n hx hb dX2_greatestEnergy_0 rfl (lv_at hl 0 rfl) ?_
  refine va_get (D := D) (ci := 2) (v := .ref (b 0)) (C := RX2) (T := TX2) (N := 6) hx hb hts in2 hown hK hP 0 rfl rfl 0 (by decide) f29 (fun _ h9 => h9) rfl dX2_greatestEnergy_1 ?_
  refine va_get (D := D) (ci := 4) (v := .ref (b 1)) (C := RX4) (T := TX4) (N := 15) hx hb hts in4 hown hK hP 1 rfl rfl 0 (by decide) f72 (fun _ h9 => h9) rfl dX2_greatestEnergy_4 ?_
  refine lv_iload_n hx hb dX2_greatestEnergy_7 rfl (lv_at hl 1 rfl) ?_
  refine y_rV (v := f (9 + x)) (As := [.int (zI (x))]) (rest := []) hx hb hml hown hts hl.1 ⟨Nat.zero_le _, Nat.zero_le _⟩ (kX3_at l D cI cJ cS (b 1) (b 6) 120 (fun xx => f (9 + xx)) x (by omega) (Nat.lt_of_succ_le (Nat.le_of_ble_eq_true rfl))) (cwV 1 hts gX2_greatestEnergy_X3_at rfl rfl rfl jX3_at ⟨Nat.le_of_ble_eq_true rfl, Nat.le_of_ble_eq_true rfl⟩) hK [false, false, true, false, false, false, false, true] hP hD rfl 3 0 rfl rfl rfl rfl rfl (Nat.le_of_ble_eq_true rfl) dX2_greatestEnergy_8 ?_
  refine z_rS (v := 125 * (f (9 + x)) * (f (9 + x))) (As := [.int (zI (f (9 + x)))]) (rest := []) hx hb hml hown hts hl.1 ⟨Nat.zero_le _, Nat.zero_le _⟩ (kX2_energyOf l D cI cJ cS (f (9 + x))) (cwS 1 hts gX2_greatestEnergy_X2_energyOf rfl rfl rfl jX2_energyOf ⟨Nat.le_of_ble_eq_true rfl, Nat.le_of_ble_eq_true rfl⟩) hK rfl rfl (Nat.le_of_ble_eq_true rfl) dX2_greatestEnergy_11 ?_
  exact z_top (zmost f x) rfl (hret dX2_greatestEnergy_14)

abbrev rmX2_energyLost : Room := { frames := 1, cells := 0, slots := 0, locals := 21 }
theorem jX2_energyLost : yX2_energyLost.cls = RX2 ∧ yX2_energyLost.cls ≠ "java/lang/invoke/MethodHandle" ∧ yX2_energyLost.cls ≠ "java/lang/invoke/VarHandle" ∧ (parseMethodDescriptor yX2_energyLost.desc).map (fun d => d.parameters.length) = some 1 := by decide +kernel
set_option maxHeartbeats 4000000 in
set_option maxRecDepth 100000 in
theorem kX2_energyLost (l : Launch) (D : va_G) (cI cJ cS : ClassId) (p0 : Nat) (b r : Nat → Nat) (fr : Int) (f ps : Int → Int) (n : Int) (x : Int) (ok : OkF f) (h1 : 0 ≤ x ∧ x < 2147483648) : Met l yX2_energyLost wsX2_energyLost rmX2_energyLost (zPc D (zT cI cJ cS) [.ref p0, .int (zI (x))] [(p0, .inr (2, [.ref (b 0), .ref (r 0), .ref (r 1), .ref (r 2), .ref (r 3), .int (zI (fr))])), (b 0, .inr (4, [.ref (b 1), .ref (b 2), .ref (b 3), .ref (b 4), .ref (b 5), .int (zI (n)), .int (zI (f 0)), .int (zI (f 1)), .int (zI (f 2)), .int (zI (f 3)), .int (zI (f 4)), .int (zI (f 5)), .int (zI (f 6)), .int (zI (f 7)), .int (zI (f 8))])), (b 1, .inr (3, [.ref (b 6)])), (b 2, .inr (3, [.ref (b 7)])), (b 3, .inr (3, [.ref (b 8)])), (b 4, .inr (3, [.ref (b 9)])), (b 5, .inr (3, [.ref (b 10)])), (b 6, .inl (cI, 120, .inl (zA (fun xx => f (9 + xx))))), (b 7, .inl (cI, 120, .inl (zA (fun xx => f (129 + xx))))), (b 8, .inl (cI, 121, .inl (zA (fun xx => f (249 + xx))))), (b 9, .inl (cI, 121, .inl (zA (fun xx => f (370 + xx))))), (b 10, .inl (cI, 121, .inl (zA ps)))]) (vp_Si (fun r => r = zI (zlost f x))) 0 0 (fun _ => False) := by
  refine zRi_of (cc := cX2_energyLost) (maxL := 3) (ret := (some .int)) (zlost f x) (by decide) rfl (Nat.le_of_ble_eq_true rfl) rfl ?_
  intro p e s m args below meth c Q ls hx hb hml hts hown hK hP hD hl hret
  have in2 : ∀ w ∈ wsX20, w ∈ wsX2_energyLost := by decide +kernel
  have in4 : ∀ w ∈ wsX40, w ∈ wsX2_energyLost := by decide +kernel
  have f29 := hts (.fieldLink RX2 29 "SignalSpacing$Profile" "state" "LSignalSpacing$State;") (by decide +kernel)
  have f49 := hts (.fieldLink RX2 49 "SignalSpacing$State" "length" "I") (by decide +kernel)
  have f81 := hts (.fieldLink RX2 81 "SignalSpacing$State" "gradients" "LSignalSpacing$Row;") (by decide +kernel)
  have f84 := hts (.fieldLink RX2 84 "SignalSpacing$State" "rate" "I") (by decide +kernel)
  have c66 := hts (.methodLink RX2 66 Lib.Math.min.name) (by decide +kernel)
  have hl : lv_has ls 3 [(0, .ref p0), (1, .int (zI (x)))] := hl
  have hP : va_P D vwCl [(p0, .inr (2, [.ref (b 0), .ref (r 0), .ref (r 1), .ref (r 2), .ref (r 3), .int (zI (fr))])), (b 0, .inr (4, [.ref (b 1), .ref (b 2), .ref (b 3), .ref (b 4), .ref (b 5), .int (zI (n)), .int (zI (f 0)), .int (zI (f 1)), .int (zI (f 2)), .int (zI (f 3)), .int (zI (f 4)), .int (zI (f 5)), .int (zI (f 6)), .int (zI (f 7)), .int (zI (f 8))])), (b 1, .inr (3, [.ref (b 6)])), (b 2, .inr (3, [.ref (b 7)])), (b 3, .inr (3, [.ref (b 8)])), (b 4, .inr (3, [.ref (b 9)])), (b 5, .inr (3, [.ref (b 10)])), (b 6, .inl (cI, 120, .inl (zA (fun xx => f (9 + xx))))), (b 7, .inl (cI, 120, .inl (zA (fun xx => f (129 + xx))))), (b 8, .inl (cI, 121, .inl (zA (fun xx => f (249 + xx))))), (b 9, .inl (cI, 121, .inl (zA (fun xx => f (370 + xx))))), (b 10, .inl (cI, 121, .inl (zA ps)))] s.heap := hP
  obtain ⟨o0, o1, o2, o3, o4, o5, o7, o8, olim, ogrd, obar, oneed, opost⟩ := id ok
  refine lv_aload_n hx hb dX2_energyLost_0 rfl (lv_at hl 0 rfl) ?_
  refine va_get (D := D) (ci := 2) (v := .ref (b 0)) (C := RX2) (T := TX2) (N := 6) hx hb hts in2 hown hK hP 0 rfl rfl 0 (by decide) f29 (fun _ h9 => h9) rfl dX2_energyLost_1 ?_
  refine va_get (D := D) (ci := 4) (v := .ref (b 2)) (C := RX4) (T := TX4) (N := 15) hx hb hts in4 hown hK hP 1 rfl rfl 1 (by decide) f81 (fun _ h9 => h9) rfl dX2_energyLost_4 ?_
  refine lv_iload_n hx hb dX2_energyLost_7 rfl (lv_at hl 1 rfl) ?_
  refine lv_aload_n hx hb dX2_energyLost_8 rfl (lv_at hl 0 rfl) ?_
  refine va_get (D := D) (ci := 2) (v := .ref (b 0)) (C := RX2) (T := TX2) (N := 6) hx hb hts in2 hown hK hP 0 rfl rfl 0 (by decide) f29 (fun _ h9 => h9) rfl dX2_energyLost_9 ?_
  refine va_get (D := D) (ci := 4) (v := .int (zI (f 0))) (C := RX4) (T := TX4) (N := 15) hx hb hts in4 hown hK hP 1 rfl rfl 6 (by decide) f49 (fun _ h9 => h9) rfl dX2_energyLost_12 ?_
  refine z_iconst hx hb dX2_energyLost_15 ?_
  refine z_isub hx hb dX2_energyLost_16 ?_
  refine z_mmin hx hb (hml.trans hl.1.symm) hown c66 (hts (.static Lib.Math.min.name) (by decide +kernel)) (hts (.initialized "java/lang/Math") (by decide +kernel)) (hts (.code Lib.Math.min.name Lib.Math.min.code 2 (some .int)) (by decide +kernel)) (Nat.le_of_ble_eq_true rfl) (Nat.le_of_ble_eq_true rfl) ⟨Nat.zero_le _, Nat.zero_le _⟩ ((if x < f 0 then x else f 0 - 1)) dX2_energyLost_17 (by omega) (by omega) (by split <;> omega) ?_
  refine y_rV (v := f (129 + (if x < f 0 then x else f 0 - 1))) (As := [.int (zI ((if x < f 0 then x else f 0 - 1)))]) (rest := []) hx hb hml hown hts hl.1 ⟨Nat.zero_le _, Nat.zero_le _⟩ (kX3_at l D cI cJ cS (b 2) (b 7) 120 (fun xx => f (129 + xx)) (if x < f 0 then x else f 0 - 1) (by split <;> omega) (Nat.lt_of_succ_le (Nat.le_of_ble_eq_true rfl))) (cwV 1 hts gX2_energyLost_X3_at rfl rfl rfl jX3_at ⟨Nat.le_of_ble_eq_true rfl, Nat.le_of_ble_eq_true rfl⟩) hK [false, false, false, true, false, false, false, false, true] hP hD rfl 3 0 rfl rfl rfl rfl rfl (Nat.le_of_ble_eq_true rfl) dX2_energyLost_20 ?_
  refine lv_istore_n (lv' := [(2, .int (zI (f (129 + (if x < f 0 then x else f 0 - 1))))), (0, .ref p0), (1, .int (zI (x)))]) hx hb dX2_energyLost_23 rfl hl (by decide) rfl (fun ls hl => ?_)
  refine z_sipush hx hb dX2_energyLost_24 (by decide +kernel) ?_
  refine z_bipush hx hb dX2_energyLost_27 (by decide +kernel) ?_
  refine lv_aload_n hx hb dX2_energyLost_29 rfl (lv_at hl 1 rfl) ?_
  refine va_get (D := D) (ci := 2) (v := .ref (b 0)) (C := RX2) (T := TX2) (N := 6) hx hb hts in2 hown hK hP 0 rfl rfl 0 (by decide) f29 (fun _ h9 => h9) rfl dX2_energyLost_30 ?_
  refine va_get (D := D) (ci := 4) (v := .int (zI (f 1))) (C := RX4) (T := TX4) (N := 15) hx hb hts in4 hown hK hP 1 rfl rfl 7 (by decide) f84 (fun _ h9 => h9) rfl dX2_energyLost_33 ?_
  refine z_imul hx hb dX2_energyLost_36 ?_
  refine z_bipush hx hb dX2_energyLost_37 (by decide +kernel) ?_
  refine lv_iload_n hx hb dX2_energyLost_39 rfl (lv_at hl 0 rfl) ?_
  refine z_imul hx hb dX2_energyLost_40 ?_
  refine z_iadd hx hb dX2_energyLost_41 ?_
  refine z_imul hx hb dX2_energyLost_42 ?_
  exact z_top (zlost f x) rfl (hret dX2_energyLost_43)

abbrev rmX2_computeEnergies : Room := { frames := 2, cells := 0, slots := 0, locals := 43 }
theorem jX2_computeEnergies : yX2_computeEnergies.cls = RX2 ∧ yX2_computeEnergies.cls ≠ "java/lang/invoke/MethodHandle" ∧ yX2_computeEnergies.cls ≠ "java/lang/invoke/VarHandle" ∧ (parseMethodDescriptor yX2_computeEnergies.desc).map (fun d => d.parameters.length) = some 0 := by decide +kernel
set_option maxHeartbeats 4000000 in
set_option maxRecDepth 100000 in
theorem kX2_computeEnergies (l : Launch) (D : va_G) (cI cJ cS : ClassId) (p0 : Nat) (b r : Nat → Nat) (fr : Int) (f ps : Int → Int) (n : Int) (ge : Int → Int) (ok : OkF f) : Met l yX2_computeEnergies wsX2_computeEnergies rmX2_computeEnergies (zPc D (zT cI cJ cS) [.ref p0] [(p0, .inr (2, [.ref (b 0), .ref (r 0), .ref (r 1), .ref (r 2), .ref (r 3), .int (zI (fr))])), (r 0, .inr (3, [.ref (r 4)])), (r 4, .inl (cI, 121, .inl (zA ge))), (b 0, .inr (4, [.ref (b 1), .ref (b 2), .ref (b 3), .ref (b 4), .ref (b 5), .int (zI (n)), .int (zI (f 0)), .int (zI (f 1)), .int (zI (f 2)), .int (zI (f 3)), .int (zI (f 4)), .int (zI (f 5)), .int (zI (f 6)), .int (zI (f 7)), .int (zI (f 8))])), (b 1, .inr (3, [.ref (b 6)])), (b 2, .inr (3, [.ref (b 7)])), (b 3, .inr (3, [.ref (b 8)])), (b 4, .inr (3, [.ref (b 9)])), (b 5, .inr (3, [.ref (b 10)])), (b 6, .inl (cI, 120, .inl (zA (fun xx => f (9 + xx))))), (b 7, .inl (cI, 120, .inl (zA (fun xx => f (129 + xx))))), (b 8, .inl (cI, 121, .inl (zA (fun xx => f (249 + xx))))), (b 9, .inl (cI, 121, .inl (zA (fun xx => f (370 + xx))))), (b 10, .inl (cI, 121, .inl (zA ps)))]) (va_Qv (fun u => ∀ x : Int, 0 ≤ x → x ≤ f 0 → u x = enE f x) (fun (u : Int → Int) t => va_P D vwCl [(p0, .inr (2, [.ref (b 0), .ref (r 0), .ref (r 1), .ref (r 2), .ref (r 3), .int (zI (fr))])), (r 0, .inr (3, [.ref (r 4)])), (r 4, .inl (cI, 121, .inl (zA u))), (b 0, .inr (4, [.ref (b 1), .ref (b 2), .ref (b 3), .ref (b 4), .ref (b 5), .int (zI (n)), .int (zI (f 0)), .int (zI (f 1)), .int (zI (f 2)), .int (zI (f 3)), .int (zI (f 4)), .int (zI (f 5)), .int (zI (f 6)), .int (zI (f 7)), .int (zI (f 8))])), (b 1, .inr (3, [.ref (b 6)])), (b 2, .inr (3, [.ref (b 7)])), (b 3, .inr (3, [.ref (b 8)])), (b 4, .inr (3, [.ref (b 9)])), (b 5, .inr (3, [.ref (b 10)])), (b 6, .inl (cI, 120, .inl (zA (fun xx => f (9 + xx))))), (b 7, .inl (cI, 120, .inl (zA (fun xx => f (129 + xx))))), (b 8, .inl (cI, 121, .inl (zA (fun xx => f (249 + xx))))), (b 9, .inl (cI, 121, .inl (zA (fun xx => f (370 + xx))))), (b 10, .inl (cI, 121, .inl (zA ps)))] t.heap) (zAd [(p0, .inr (2, [.ref (b 0), .ref (r 0), .ref (r 1), .ref (r 2), .ref (r 3), .int (zI (fr))])), (r 0, .inr (3, [.ref (r 4)])), (r 4, .inl (cI, 121, .inl (zA ge))), (b 0, .inr (4, [.ref (b 1), .ref (b 2), .ref (b 3), .ref (b 4), .ref (b 5), .int (zI (n)), .int (zI (f 0)), .int (zI (f 1)), .int (zI (f 2)), .int (zI (f 3)), .int (zI (f 4)), .int (zI (f 5)), .int (zI (f 6)), .int (zI (f 7)), .int (zI (f 8))])), (b 1, .inr (3, [.ref (b 6)])), (b 2, .inr (3, [.ref (b 7)])), (b 3, .inr (3, [.ref (b 8)])), (b 4, .inr (3, [.ref (b 9)])), (b 5, .inr (3, [.ref (b 10)])), (b 6, .inl (cI, 120, .inl (zA (fun xx => f (9 + xx))))), (b 7, .inl (cI, 120, .inl (zA (fun xx => f (129 + xx))))), (b 8, .inl (cI, 121, .inl (zA (fun xx => f (249 + xx))))), (b 9, .inl (cI, 121, .inl (zA (fun xx => f (370 + xx))))), (b 10, .inl (cI, 121, .inl (zA ps)))])) 0 0 (zAd [(p0, .inr (2, [.ref (b 0), .ref (r 0), .ref (r 1), .ref (r 2), .ref (r 3), .int (zI (fr))])), (r 0, .inr (3, [.ref (r 4)])), (r 4, .inl (cI, 121, .inl (zA ge))), (b 0, .inr (4, [.ref (b 1), .ref (b 2), .ref (b 3), .ref (b 4), .ref (b 5), .int (zI (n)), .int (zI (f 0)), .int (zI (f 1)), .int (zI (f 2)), .int (zI (f 3)), .int (zI (f 4)), .int (zI (f 5)), .int (zI (f 6)), .int (zI (f 7)), .int (zI (f 8))])), (b 1, .inr (3, [.ref (b 6)])), (b 2, .inr (3, [.ref (b 7)])), (b 3, .inr (3, [.ref (b 8)])), (b 4, .inr (3, [.ref (b 9)])), (b 5, .inr (3, [.ref (b 10)])), (b 6, .inl (cI, 120, .inl (zA (fun xx => f (9 + xx))))), (b 7, .inl (cI, 120, .inl (zA (fun xx => f (129 + xx))))), (b 8, .inl (cI, 121, .inl (zA (fun xx => f (249 + xx))))), (b 9, .inl (cI, 121, .inl (zA (fun xx => f (370 + xx))))), (b 10, .inl (cI, 121, .inl (zA ps)))]) := by
  refine zWv_of (cc := cX2_computeEnergies) (maxL := 3) (ret := none) (by decide) rfl (Nat.le_of_ble_eq_true rfl) rfl ?_
  intro p e s m args below meth c Q A ls hx hb hml hts hown hK hP hD hS hl hret
  have in2 : ∀ w ∈ wsX20, w ∈ wsX2_computeEnergies := by decide +kernel
  have in4 : ∀ w ∈ wsX40, w ∈ wsX2_computeEnergies := by decide +kernel
  have f14 := hts (.fieldLink RX2 14 "SignalSpacing$Profile" "energies" "LSignalSpacing$Row;") (by decide +kernel)
  have f29 := hts (.fieldLink RX2 29 "SignalSpacing$Profile" "state" "LSignalSpacing$State;") (by decide +kernel)
  have f49 := hts (.fieldLink RX2 49 "SignalSpacing$State" "length" "I") (by decide +kernel)
  have c66 := hts (.methodLink RX2 66 Lib.Math.min.name) (by decide +kernel)
  have hl : lv_has ls 3 [(0, .ref p0)] := hl
  have hP : va_P D vwCl [(p0, .inr (2, [.ref (b 0), .ref (r 0), .ref (r 1), .ref (r 2), .ref (r 3), .int (zI (fr))])), (r 0, .inr (3, [.ref (r 4)])), (r 4, .inl (cI, 121, .inl (zA ge))), (b 0, .inr (4, [.ref (b 1), .ref (b 2), .ref (b 3), .ref (b 4), .ref (b 5), .int (zI (n)), .int (zI (f 0)), .int (zI (f 1)), .int (zI (f 2)), .int (zI (f 3)), .int (zI (f 4)), .int (zI (f 5)), .int (zI (f 6)), .int (zI (f 7)), .int (zI (f 8))])), (b 1, .inr (3, [.ref (b 6)])), (b 2, .inr (3, [.ref (b 7)])), (b 3, .inr (3, [.ref (b 8)])), (b 4, .inr (3, [.ref (b 9)])), (b 5, .inr (3, [.ref (b 10)])), (b 6, .inl (cI, 120, .inl (zA (fun xx => f (9 + xx))))), (b 7, .inl (cI, 120, .inl (zA (fun xx => f (129 + xx))))), (b 8, .inl (cI, 121, .inl (zA (fun xx => f (249 + xx))))), (b 9, .inl (cI, 121, .inl (zA (fun xx => f (370 + xx))))), (b 10, .inl (cI, 121, .inl (zA ps)))] s.heap := hP
  obtain ⟨o0, o1, o2, o3, o4, o5, o7, o8, olim, ogrd, obar, oneed, opost⟩ := id ok
  refine lv_aload_n hx hb dX2_computeEnergies_0 rfl (lv_at hl 0 rfl) ?_
  refine lv_aload_n hx hb dX2_computeEnergies_1 rfl (lv_at hl 0 rfl) ?_
  refine va_get (D := D) (ci := 2) (v := .ref (b 0)) (C := RX2) (T := TX2) (N := 6) hx hb hts in2 hown hK hP 0 rfl rfl 0 (by decide) f29 (fun _ h9 => h9) rfl dX2_computeEnergies_2 ?_
  refine va_get (D := D) (ci := 4) (v := .int (zI (f 0))) (C := RX4) (T := TX4) (N := 15) hx hb hts in4 hown hK hP 3 rfl rfl 6 (by decide) f49 (fun _ h9 => h9) rfl dX2_computeEnergies_5 ?_
  refine z_iconst hx hb dX2_computeEnergies_8 ?_
  refine z_isub hx hb dX2_computeEnergies_9 ?_
  refine y_rV (v := zmost f ((f 0) - 1)) (As := [.int (zI ((f 0) - 1))]) (rest := []) hx hb hml hown hts hl.1 ⟨Nat.zero_le _, Nat.zero_le _⟩ (kX2_greatestEnergy l D cI cJ cS p0 b r fr f ps n ((f 0) - 1) (by omega)) (cwV 1 hts gX2_computeEnergies_X2_greatestEnergy rfl rfl rfl jX2_greatestEnergy ⟨Nat.le_of_ble_eq_true rfl, Nat.le_of_ble_eq_true rfl⟩) hK [true, false, false, true, true, true, true, true, true, true, true, true, true, true] hP hD rfl 2 0 rfl rfl rfl rfl rfl (Nat.le_of_ble_eq_true rfl) dX2_computeEnergies_10 ?_
  refine z_top (enE f (f 0)) (enE_top f).symm ?_
  refine lv_istore_n (lv' := [(1, .int (zI (enE f (f 0)))), (0, .ref p0)]) hx hb dX2_computeEnergies_13 rfl hl (by decide) rfl (fun ls hl => ?_)
  refine lv_aload_n hx hb dX2_computeEnergies_14 rfl (lv_at hl 1 rfl) ?_
  refine va_get (D := D) (ci := 2) (v := .ref (r 0)) (C := RX2) (T := TX2) (N := 6) hx hb hts in2 hown hK hP 0 rfl rfl 1 (by decide) f14 (fun _ h9 => h9) rfl dX2_computeEnergies_15 ?_
  refine lv_aload_n hx hb dX2_computeEnergies_18 rfl (lv_at hl 1 rfl) ?_
  refine va_get (D := D) (ci := 2) (v := .ref (b 0)) (C := RX2) (T := TX2) (N := 6) hx hb hts in2 hown hK hP 0 rfl rfl 0 (by decide) f29 (fun _ h9 => h9) rfl dX2_computeEnergies_19 ?_
  refine va_get (D := D) (ci := 4) (v := .int (zI (f 0))) (C := RX4) (T := TX4) (N := 15) hx hb hts in4 hown hK hP 3 rfl rfl 6 (by decide) f49 (fun _ h9 => h9) rfl dX2_computeEnergies_22 ?_
  refine lv_iload_n hx hb dX2_computeEnergies_25 rfl (lv_at hl 0 rfl) ?_
  refine y_wVv (As := [.int (zI (f 0)), .int (zI (enE f (f 0)))]) (rest := []) (fun (u26 : Unit) => [(p0, .inr (2, [.ref (b 0), .ref (r 0), .ref (r 1), .ref (r 2), .ref (r 3), .int (zI (fr))])), (r 0, .inr (3, [.ref (r 4)])), (r 4, .inl (cI, 121, .inl (zA (zup ge (f 0) (enE f (f 0)))))), (b 0, .inr (4, [.ref (b 1), .ref (b 2), .ref (b 3), .ref (b 4), .ref (b 5), .int (zI (n)), .int (zI (f 0)), .int (zI (f 1)), .int (zI (f 2)), .int (zI (f 3)), .int (zI (f 4)), .int (zI (f 5)), .int (zI (f 6)), .int (zI (f 7)), .int (zI (f 8))])), (b 1, .inr (3, [.ref (b 6)])), (b 2, .inr (3, [.ref (b 7)])), (b 3, .inr (3, [.ref (b 8)])), (b 4, .inr (3, [.ref (b 9)])), (b 5, .inr (3, [.ref (b 10)])), (b 6, .inl (cI, 120, .inl (zA (fun xx => f (9 + xx))))), (b 7, .inl (cI, 120, .inl (zA (fun xx => f (129 + xx))))), (b 8, .inl (cI, 121, .inl (zA (fun xx => f (249 + xx))))), (b 9, .inl (cI, 121, .inl (zA (fun xx => f (370 + xx))))), (b 10, .inl (cI, 121, .inl (zA ps)))]) hx hb hml hown hts hl.1 ⟨Nat.zero_le _, Nat.zero_le _⟩ (kX3_put l D cI cJ cS (r 0) (r 4) 121 ge (f 0) (enE f (f 0)) (by omega) (Nat.lt_of_succ_le (Nat.le_of_ble_eq_true rfl))) (cwV 2 hts gX2_computeEnergies_X3_put rfl rfl rfl jX3_put ⟨Nat.le_of_ble_eq_true rfl, Nat.le_of_ble_eq_true rfl⟩) hK [false, true, true] hP hD hS rfl (fun _ => rfl) (fun _ => rfl) 3 0 rfl rfl rfl rfl rfl (Nat.le_of_ble_eq_true rfl) dX2_computeEnergies_26 (fun u26 H locs hu26 hP hS => ?_)
  refine lv_aload_n hx hb dX2_computeEnergies_29 rfl (lv_at hl 1 rfl) ?_
  refine va_get (D := D) (ci := 2) (v := .ref (b 0)) (C := RX2) (T := TX2) (N := 6) hx hb hts in2 hown hK hP 0 rfl rfl 0 (by decide) f29 (fun _ h9 => h9) rfl dX2_computeEnergies_30 ?_
  refine va_get (D := D) (ci := 4) (v := .int (zI (f 0))) (C := RX4) (T := TX4) (N := 15) hx hb hts in4 hown hK hP 3 rfl rfl 6 (by decide) f49 (fun _ h9 => h9) rfl dX2_computeEnergies_33 ?_
  refine z_iconst hx hb dX2_computeEnergies_36 ?_
  refine z_isub hx hb dX2_computeEnergies_37 ?_
  refine lv_istore_n (lv' := [(2, .int (zI ((f 0) - 1))), (1, .int (zI (enE f (f 0)))), (0, .ref p0)]) hx hb dX2_computeEnergies_38 rfl hl (by decide) rfl (fun ls hl => ?_)
  have L39 : ∀ (fuel : Nat), ∀ (x : Int) (en : Int) (g : Int → Int), ∀ (h1 : -1 ≤ x ∧ x ≤ f 0 - 1), ∀ (he : en = enE f (x + 1)), ∀ (hg : ∀ y : Int, x < y → 0 ≤ y → y ≤ f 0 → g y = enE f y), (x + 1).toNat < fuel → ∀ (H : Heap) (locs : List Loc), va_P D vwCl [(p0, .inr (2, [.ref (b 0), .ref (r 0), .ref (r 1), .ref (r 2), .ref (r 3), .int (zI (fr))])), (r 0, .inr (3, [.ref (r 4)])), (r 4, .inl (cI, 121, .inl (zA g))), (b 0, .inr (4, [.ref (b 1), .ref (b 2), .ref (b 3), .ref (b 4), .ref (b 5), .int (zI (n)), .int (zI (f 0)), .int (zI (f 1)), .int (zI (f 2)), .int (zI (f 3)), .int (zI (f 4)), .int (zI (f 5)), .int (zI (f 6)), .int (zI (f 7)), .int (zI (f 8))])), (b 1, .inr (3, [.ref (b 6)])), (b 2, .inr (3, [.ref (b 7)])), (b 3, .inr (3, [.ref (b 8)])), (b 4, .inr (3, [.ref (b 9)])), (b 5, .inr (3, [.ref (b 10)])), (b 6, .inl (cI, 120, .inl (zA (fun xx => f (9 + xx))))), (b 7, .inl (cI, 120, .inl (zA (fun xx => f (129 + xx))))), (b 8, .inl (cI, 121, .inl (zA (fun xx => f (249 + xx))))), (b 9, .inl (cI, 121, .inl (zA (fun xx => f (370 + xx))))), (b 10, .inl (cI, 121, .inl (zA ps)))] H → va_S A s.heap H locs → ∀ (ls : Array Slot), lv_has ls 3 [(0, .ref p0), (1, .int (zI (en))), (2, .int (zI (x)))] → W p l e rmX2_computeEnergies s m args below meth c H locs 0 0 Q (F0 m 39 ls []) := by
    intro fuel
    induction fuel with
    | zero =>
      intro x en g h1 he hg hm
      exact absurd hm (Nat.not_lt_zero _)
    | succ fuel ih39 =>
      intro x en g h1 he hg hm H locs hP hS ls hl
      refine lv_iload_n hx hb dX2_computeEnergies_39 rfl (lv_at hl 2 rfl) ?_
      refine z_if_lt (tgt := 74) hx hb dX2_computeEnergies_40 (by decide) (by omega) (fun c40 => ?_) (fun c40 => ?_)
      · exact hret g (fun y a b => hg y (by omega) a b) hP hS dX2_computeEnergies_74
      · refine lv_aload_n hx hb dX2_computeEnergies_43 rfl (lv_at hl 0 rfl) ?_
        refine lv_iload_n hx hb dX2_computeEnergies_44 rfl (lv_at hl 2 rfl) ?_
        refine y_rV (v := zmost f x) (As := [.int (zI (x))]) (rest := []) hx hb hml hown hts hl.1 ⟨Nat.zero_le _, Nat.zero_le _⟩ (kX2_greatestEnergy l D cI cJ cS p0 b r fr f ps n x (by omega)) (cwV 1 hts gX2_computeEnergies_X2_greatestEnergy rfl rfl rfl jX2_greatestEnergy ⟨Nat.le_of_ble_eq_true rfl, Nat.le_of_ble_eq_true rfl⟩) hK [true, false, false, true, true, true, true, true, true, true, true, true, true, true] hP (zD hD rfl) rfl 2 0 rfl rfl rfl rfl rfl (Nat.le_of_ble_eq_true rfl) dX2_computeEnergies_45 ?_
        refine lv_iload_n hx hb dX2_computeEnergies_48 rfl (lv_at hl 1 rfl) ?_
        refine lv_aload_n hx hb dX2_computeEnergies_49 rfl (lv_at hl 0 rfl) ?_
        refine lv_iload_n hx hb dX2_computeEnergies_50 rfl (lv_at hl 2 rfl) ?_
        refine y_rV (v := zlost f x) (As := [.int (zI (x))]) (rest := [.int (zI (en)), .int (zI (zmost f x))]) hx hb hml hown hts hl.1 ⟨Nat.zero_le _, Nat.zero_le _⟩ (kX2_energyLost l D cI cJ cS p0 b r fr f ps n x ok (by omega)) (cwV 1 hts gX2_computeEnergies_X2_energyLost rfl rfl rfl jX2_energyLost ⟨Nat.le_of_ble_eq_true rfl, Nat.le_of_ble_eq_true rfl⟩) hK [true, false, false, true, true, true, true, true, true, true, true, true, true, true] hP (zD hD rfl) rfl 2 0 rfl rfl rfl rfl rfl (Nat.le_of_ble_eq_true rfl) dX2_computeEnergies_51 ?_
        refine z_iadd hx hb dX2_computeEnergies_54 ?_
        have hx0 : 0 ≤ x := by omega
        have hb1 := zmost_b ok hx0 (by omega : x < 120)
        have hb2 := zlost_b ok hx0
        have hb3 := enE_b ok (x + 1) (by omega) (by omega)
        refine z_mmin hx hb (hml.trans hl.1.symm) hown c66 (hts (.static Lib.Math.min.name) (by decide +kernel)) (hts (.initialized "java/lang/Math") (by decide +kernel)) (hts (.code Lib.Math.min.name Lib.Math.min.code 2 (some .int)) (by decide +kernel)) (Nat.le_of_ble_eq_true rfl) (Nat.le_of_ble_eq_true rfl) ⟨Nat.zero_le _, Nat.zero_le _⟩ (enE f x) dX2_computeEnergies_55 (by omega) (by omega) (by rw [enE_s (by omega : x < f 0), ← he]; split <;> omega) ?_
        refine lv_istore_n (lv' := [(1, .int (zI (enE f x))), (0, .ref p0), (2, .int (zI (x)))]) hx hb dX2_computeEnergies_58 rfl hl (by decide) rfl (fun ls hl => ?_)
        refine lv_aload_n hx hb dX2_computeEnergies_59 rfl (lv_at hl 1 rfl) ?_
        refine va_get (D := D) (ci := 2) (v := .ref (r 0)) (C := RX2) (T := TX2) (N := 6) hx hb hts in2 hown hK hP 0 rfl rfl 1 (by decide) f14 (fun _ h9 => h9) rfl dX2_computeEnergies_60 ?_
        refine lv_iload_n hx hb dX2_computeEnergies_63 rfl (lv_at hl 2 rfl) ?_
        refine lv_iload_n hx hb dX2_computeEnergies_64 rfl (lv_at hl 0 rfl) ?_
        refine y_wVv (As := [.int (zI (x)), .int (zI (enE f x))]) (rest := []) (fun (u65 : Unit) => [(p0, .inr (2, [.ref (b 0), .ref (r 0), .ref (r 1), .ref (r 2), .ref (r 3), .int (zI (fr))])), (r 0, .inr (3, [.ref (r 4)])), (r 4, .inl (cI, 121, .inl (zA (zup g x (enE f x))))), (b 0, .inr (4, [.ref (b 1), .ref (b 2), .ref (b 3), .ref (b 4), .ref (b 5), .int (zI (n)), .int (zI (f 0)), .int (zI (f 1)), .int (zI (f 2)), .int (zI (f 3)), .int (zI (f 4)), .int (zI (f 5)), .int (zI (f 6)), .int (zI (f 7)), .int (zI (f 8))])), (b 1, .inr (3, [.ref (b 6)])), (b 2, .inr (3, [.ref (b 7)])), (b 3, .inr (3, [.ref (b 8)])), (b 4, .inr (3, [.ref (b 9)])), (b 5, .inr (3, [.ref (b 10)])), (b 6, .inl (cI, 120, .inl (zA (fun xx => f (9 + xx))))), (b 7, .inl (cI, 120, .inl (zA (fun xx => f (129 + xx))))), (b 8, .inl (cI, 121, .inl (zA (fun xx => f (249 + xx))))), (b 9, .inl (cI, 121, .inl (zA (fun xx => f (370 + xx))))), (b 10, .inl (cI, 121, .inl (zA ps)))]) hx hb hml hown hts hl.1 ⟨Nat.zero_le _, Nat.zero_le _⟩ (kX3_put l D cI cJ cS (r 0) (r 4) 121 g x (enE f x) (by omega) (Nat.lt_of_succ_le (Nat.le_of_ble_eq_true rfl))) (cwV 2 hts gX2_computeEnergies_X3_put rfl rfl rfl jX3_put ⟨Nat.le_of_ble_eq_true rfl, Nat.le_of_ble_eq_true rfl⟩) hK [false, true, true] hP (zD hD rfl) hS rfl (fun _ => rfl) (fun _ => rfl) 3 0 rfl rfl rfl rfl rfl (Nat.le_of_ble_eq_true rfl) dX2_computeEnergies_65 (fun u65 H locs hu65 hP hS => ?_)
        refine z_iinc (lv' := [(2, .int (zI (x - 1))), (1, .int (zI (enE f x))), (0, .ref p0)]) hx hb 2 (x - 1) dX2_computeEnergies_68 hl rfl (by omega) (by decide) rfl (fun ls hl => ?_)
        refine lv_goto (tgt := 39) hx hb dX2_computeEnergies_71 (by decide) ?_
        exact ih39 (x - 1) (enE f x) (zup g x (enE f x)) (by omega) (by rw [show x - 1 + 1 = x by omega]) (fun y a b c => if hy : y = x then (by rw [hy]; exact zup_at _ _ _) else (by rw [zup_ne hy]; exact hg y (by omega) b c)) (by omega) _ _ hP hS ls (lv_sub hl [2, 1, 0] rfl)
  exact L39 _ ((f 0) - 1) (enE f (f 0)) (zup ge (f 0) (enE f (f 0))) (by omega) (by rw [show f 0 - 1 + 1 = f 0 by omega]) (fun y a b c => by rw [show y = f 0 by omega]; exact zup_at _ _ _) (Nat.lt_succ_self _) _ _ hP hS ls (lv_sub hl [2, 1, 0] rfl)

abbrev rmX2_speedWith : Room := { frames := 1, cells := 0, slots := 0, locals := 20 }
theorem jX2_speedWith : yX2_speedWith.cls = RX2 ∧ yX2_speedWith.cls ≠ "java/lang/invoke/MethodHandle" ∧ yX2_speedWith.cls ≠ "java/lang/invoke/VarHandle" ∧ (parseMethodDescriptor yX2_speedWith.desc).map (fun d => d.parameters.length) = some 1 := by decide +kernel
set_option maxHeartbeats 4000000 in
set_option maxRecDepth 100000 in
theorem kX2_speedWith (l : Launch) (D : va_G) (cI cJ cS : ClassId) (en : Int) (h1 : 0 ≤ en ∧ en ≤ 3200000) : Met l yX2_speedWith wsX2_speedWith rmX2_speedWith (zPc D (zT cI cJ cS) [.int (zI (en))] []) (vp_Si (fun r => r = zI (spd en))) 0 0 (fun _ => False) := by
  refine zRi_of (cc := cX2_speedWith) (maxL := 4) (ret := (some .int)) (spd en) (by decide) rfl (Nat.le_of_ble_eq_true rfl) rfl ?_
  intro p e s m args below meth c Q ls hx hb hml hts hown hK hP hD hl hret
  have hl : lv_has ls 4 [(0, .int (zI (en)))] := hl
  have hP : va_P D vwCl [] s.heap := hP
  refine z_iconst hx hb dX2_speedWith_0 ?_
  refine lv_istore_n (lv' := [(1, .int (zI (0))), (0, .int (zI (en)))]) hx hb dX2_speedWith_1 rfl hl (by decide) rfl (fun ls hl => ?_)
  refine z_bipush hx hb dX2_speedWith_2 (by decide +kernel) ?_
  refine lv_istore_n (lv' := [(2, .int (zI (7))), (1, .int (zI (0))), (0, .int (zI (en)))]) hx hb dX2_speedWith_4 rfl hl (by decide) rfl (fun ls hl => ?_)
  have L5 : ∀ (fuel : Nat), ∀ (sp : Int) (bt : Int), ∀ (hb0 : -1 ≤ bt ∧ bt ≤ 7), ∀ (hs : 0 ≤ sp ∧ sp + p2 (bt + 1) ≤ 256), ∀ (hlo : 125 * sp * sp ≤ en), ∀ (hhi : en < 125 * (sp + p2 (bt + 1)) * (sp + p2 (bt + 1))), (bt + 1).toNat < fuel → ∀ (ls : Array Slot), lv_has ls 4 [(0, .int (zI (en))), (1, .int (zI (sp))), (2, .int (zI (bt)))] → W p l e rmX2_speedWith s m args below meth c s.heap [] 0 0 Q (F0 m 5 ls []) := by
    intro fuel
    induction fuel with
    | zero =>
      intro sp bt hb0 hs hlo hhi hm
      exact absurd hm (Nat.not_lt_zero _)
    | succ fuel ih5 =>
      intro sp bt hb0 hs hlo hhi hm ls hl
      refine lv_iload_n hx hb dX2_speedWith_5 rfl (lv_at hl 2 rfl) ?_
      refine z_if_lt (tgt := 31) hx hb dX2_speedWith_6 (by decide) (by omega) (fun c6 => ?_) (fun c6 => ?_)
      · refine lv_iload_n hx hb dX2_speedWith_31 rfl (lv_at hl 1 rfl) ?_
        exact z_top (spd en) (spd_of ⟨hs.1, hlo, by rw [show bt + 1 = 0 by omega] at hhi; exact hhi⟩) (hret dX2_speedWith_32)
      · have hb1 : 0 ≤ bt := by omega
        have hb2 := p2_s hb1
        have hb3 := p2_b (b := bt) ⟨hb1, by omega⟩
        have hb4 := z_sqm (a := sp + p2 bt) (b := 256) (by omega) (by omega)
        have hb5 := z_sq0 (a := sp + p2 bt) (by omega)
        refine lv_iload_n hx hb dX2_speedWith_9 rfl (lv_at hl 1 rfl) ?_
        refine z_iconst hx hb dX2_speedWith_10 ?_
        refine lv_iload_n hx hb dX2_speedWith_11 rfl (lv_at hl 2 rfl) ?_
        refine z_ishl1 hx hb dX2_speedWith_12 (by omega) ?_
        refine z_iadd hx hb dX2_speedWith_13 ?_
        refine lv_istore_n (lv' := [(3, .int (zI (sp + (p2 bt)))), (0, .int (zI (en))), (1, .int (zI (sp))), (2, .int (zI (bt)))]) hx hb dX2_speedWith_14 rfl hl (by decide) rfl (fun ls hl => ?_)
        refine lv_iload_n hx hb dX2_speedWith_15 rfl (lv_at hl 0 rfl) ?_
        refine z_rS (v := 125 * (sp + (p2 bt)) * (sp + (p2 bt))) (As := [.int (zI (sp + (p2 bt)))]) (rest := []) hx hb hml hown hts hl.1 ⟨Nat.zero_le _, Nat.zero_le _⟩ (kX2_energyOf l D cI cJ cS (sp + (p2 bt))) (cwS 1 hts gX2_speedWith_X2_energyOf rfl rfl rfl jX2_energyOf ⟨Nat.le_of_ble_eq_true rfl, Nat.le_of_ble_eq_true rfl⟩) hK rfl rfl (Nat.le_of_ble_eq_true rfl) dX2_speedWith_16 ?_
        refine lv_iload_n hx hb dX2_speedWith_19 rfl (lv_at hl 1 rfl) ?_
        refine z_icmp_gt (tgt := 25) hx hb dX2_speedWith_20 (by decide) (by omega) (by omega) (fun c20 => ?_) (fun c20 => ?_)
        · refine z_iinc (lv' := [(2, .int (zI (bt - 1))), (3, .int (zI (sp + (p2 bt)))), (0, .int (zI (en))), (1, .int (zI (sp)))]) hx hb 3 (bt - 1) dX2_speedWith_25 hl rfl (by omega) (by decide) rfl (fun ls hl => ?_)
          refine lv_goto (tgt := 5) hx hb dX2_speedWith_28 (by decide) ?_
          exact ih5 sp (bt - 1) (by omega) (by rw [show bt - 1 + 1 = bt by omega]; omega) hlo (by rw [show bt - 1 + 1 = bt by omega]; exact c20) (by omega) ls (lv_sub hl [2, 3, 0] rfl)
        · refine lv_iload_n hx hb dX2_speedWith_23 rfl (lv_at hl 0 rfl) ?_
          refine lv_istore_n (lv' := [(1, .int (zI (sp + (p2 bt)))), (3, .int (zI (sp + (p2 bt)))), (0, .int (zI (en))), (2, .int (zI (bt)))]) hx hb dX2_speedWith_24 rfl hl (by decide) rfl (fun ls hl => ?_)
          refine z_iinc (lv' := [(2, .int (zI (bt - 1))), (1, .int (zI (sp + (p2 bt)))), (3, .int (zI (sp + (p2 bt)))), (0, .int (zI (en)))]) hx hb 3 (bt - 1) dX2_speedWith_25 hl rfl (by omega) (by decide) rfl (fun ls hl => ?_)
          refine lv_goto (tgt := 5) hx hb dX2_speedWith_28 (by decide) ?_
          exact ih5 (sp + (p2 bt)) (bt - 1) (by omega) (by rw [show bt - 1 + 1 = bt by omega]; omega) c20 (by rw [show bt - 1 + 1 = bt by omega, show sp + p2 bt + p2 bt = sp + p2 (bt + 1) by omega]; exact hhi) (by omega) ls (lv_sub hl [3, 1, 0] rfl)
  exact L5 _ 0 7 (by omega) (by decide) (by omega) (by rw [show (0 : Int) + p2 (7 + 1) = 256 by decide]; omega) (Nat.lt_succ_self _) ls (lv_sub hl [2, 1, 0] rfl)

abbrev rmX2_computeSpeeds : Room := { frames := 2, cells := 0, slots := 0, locals := 43 }
theorem jX2_computeSpeeds : yX2_computeSpeeds.cls = RX2 ∧ yX2_computeSpeeds.cls ≠ "java/lang/invoke/MethodHandle" ∧ yX2_computeSpeeds.cls ≠ "java/lang/invoke/VarHandle" ∧ (parseMethodDescriptor yX2_computeSpeeds.desc).map (fun d => d.parameters.length) = some 0 := by decide +kernel
set_option maxHeartbeats 4000000 in
set_option maxRecDepth 100000 in
theorem kX2_computeSpeeds (l : Launch) (D : va_G) (cI cJ cS : ClassId) (p0 : Nat) (b r : Nat → Nat) (fr : Int) (f ps : Int → Int) (n : Int) (ge gv : Int → Int) (ok : OkF f) (hE : ∀ x : Int, 0 ≤ x → x ≤ f 0 → ge x = enE f x) : Met l yX2_computeSpeeds wsX2_computeSpeeds rmX2_computeSpeeds (zPc D (zT cI cJ cS) [.ref p0] [(p0, .inr (2, [.ref (b 0), .ref (r 0), .ref (r 1), .ref (r 2), .ref (r 3), .int (zI (fr))])), (r 0, .inr (3, [.ref (r 4)])), (r 4, .inl (cI, 121, .inl (zA ge))), (r 1, .inr (3, [.ref (r 5)])), (r 5, .inl (cI, 121, .inl (zA gv))), (b 0, .inr (4, [.ref (b 1), .ref (b 2), .ref (b 3), .ref (b 4), .ref (b 5), .int (zI (n)), .int (zI (f 0)), .int (zI (f 1)), .int (zI (f 2)), .int (zI (f 3)), .int (zI (f 4)), .int (zI (f 5)), .int (zI (f 6)), .int (zI (f 7)), .int (zI (f 8))])), (b 1, .inr (3, [.ref (b 6)])), (b 2, .inr (3, [.ref (b 7)])), (b 3, .inr (3, [.ref (b 8)])), (b 4, .inr (3, [.ref (b 9)])), (b 5, .inr (3, [.ref (b 10)])), (b 6, .inl (cI, 120, .inl (zA (fun xx => f (9 + xx))))), (b 7, .inl (cI, 120, .inl (zA (fun xx => f (129 + xx))))), (b 8, .inl (cI, 121, .inl (zA (fun xx => f (249 + xx))))), (b 9, .inl (cI, 121, .inl (zA (fun xx => f (370 + xx))))), (b 10, .inl (cI, 121, .inl (zA ps)))]) (va_Qv (fun u => ∀ x : Int, 0 ≤ x → x ≤ f 0 → u x = spV f x) (fun (u : Int → Int) t => va_P D vwCl [(p0, .inr (2, [.ref (b 0), .ref (r 0), .ref (r 1), .ref (r 2), .ref (r 3), .int (zI (fr))])), (r 0, .inr (3, [.ref (r 4)])), (r 4, .inl (cI, 121, .inl (zA ge))), (r 1, .inr (3, [.ref (r 5)])), (r 5, .inl (cI, 121, .inl (zA u))), (b 0, .inr (4, [.ref (b 1), .ref (b 2), .ref (b 3), .ref (b 4), .ref (b 5), .int (zI (n)), .int (zI (f 0)), .int (zI (f 1)), .int (zI (f 2)), .int (zI (f 3)), .int (zI (f 4)), .int (zI (f 5)), .int (zI (f 6)), .int (zI (f 7)), .int (zI (f 8))])), (b 1, .inr (3, [.ref (b 6)])), (b 2, .inr (3, [.ref (b 7)])), (b 3, .inr (3, [.ref (b 8)])), (b 4, .inr (3, [.ref (b 9)])), (b 5, .inr (3, [.ref (b 10)])), (b 6, .inl (cI, 120, .inl (zA (fun xx => f (9 + xx))))), (b 7, .inl (cI, 120, .inl (zA (fun xx => f (129 + xx))))), (b 8, .inl (cI, 121, .inl (zA (fun xx => f (249 + xx))))), (b 9, .inl (cI, 121, .inl (zA (fun xx => f (370 + xx))))), (b 10, .inl (cI, 121, .inl (zA ps)))] t.heap) (zAd [(p0, .inr (2, [.ref (b 0), .ref (r 0), .ref (r 1), .ref (r 2), .ref (r 3), .int (zI (fr))])), (r 0, .inr (3, [.ref (r 4)])), (r 4, .inl (cI, 121, .inl (zA ge))), (r 1, .inr (3, [.ref (r 5)])), (r 5, .inl (cI, 121, .inl (zA gv))), (b 0, .inr (4, [.ref (b 1), .ref (b 2), .ref (b 3), .ref (b 4), .ref (b 5), .int (zI (n)), .int (zI (f 0)), .int (zI (f 1)), .int (zI (f 2)), .int (zI (f 3)), .int (zI (f 4)), .int (zI (f 5)), .int (zI (f 6)), .int (zI (f 7)), .int (zI (f 8))])), (b 1, .inr (3, [.ref (b 6)])), (b 2, .inr (3, [.ref (b 7)])), (b 3, .inr (3, [.ref (b 8)])), (b 4, .inr (3, [.ref (b 9)])), (b 5, .inr (3, [.ref (b 10)])), (b 6, .inl (cI, 120, .inl (zA (fun xx => f (9 + xx))))), (b 7, .inl (cI, 120, .inl (zA (fun xx => f (129 + xx))))), (b 8, .inl (cI, 121, .inl (zA (fun xx => f (249 + xx))))), (b 9, .inl (cI, 121, .inl (zA (fun xx => f (370 + xx))))), (b 10, .inl (cI, 121, .inl (zA ps)))])) 0 0 (zAd [(p0, .inr (2, [.ref (b 0), .ref (r 0), .ref (r 1), .ref (r 2), .ref (r 3), .int (zI (fr))])), (r 0, .inr (3, [.ref (r 4)])), (r 4, .inl (cI, 121, .inl (zA ge))), (r 1, .inr (3, [.ref (r 5)])), (r 5, .inl (cI, 121, .inl (zA gv))), (b 0, .inr (4, [.ref (b 1), .ref (b 2), .ref (b 3), .ref (b 4), .ref (b 5), .int (zI (n)), .int (zI (f 0)), .int (zI (f 1)), .int (zI (f 2)), .int (zI (f 3)), .int (zI (f 4)), .int (zI (f 5)), .int (zI (f 6)), .int (zI (f 7)), .int (zI (f 8))])), (b 1, .inr (3, [.ref (b 6)])), (b 2, .inr (3, [.ref (b 7)])), (b 3, .inr (3, [.ref (b 8)])), (b 4, .inr (3, [.ref (b 9)])), (b 5, .inr (3, [.ref (b 10)])), (b 6, .inl (cI, 120, .inl (zA (fun xx => f (9 + xx))))), (b 7, .inl (cI, 120, .inl (zA (fun xx => f (129 + xx))))), (b 8, .inl (cI, 121, .inl (zA (fun xx => f (249 + xx))))), (b 9, .inl (cI, 121, .inl (zA (fun xx => f (370 + xx))))), (b 10, .inl (cI, 121, .inl (zA ps)))]) := by
  refine zWv_of (cc := cX2_computeSpeeds) (maxL := 2) (ret := none) (by decide) rfl (Nat.le_of_ble_eq_true rfl) rfl ?_
  intro p e s m args below meth c Q A ls hx hb hml hts hown hK hP hD hS hl hret
  have in2 : ∀ w ∈ wsX20, w ∈ wsX2_computeSpeeds := by decide +kernel
  have in4 : ∀ w ∈ wsX40, w ∈ wsX2_computeSpeeds := by decide +kernel
  have f14 := hts (.fieldLink RX2 14 "SignalSpacing$Profile" "energies" "LSignalSpacing$Row;") (by decide +kernel)
  have f20 := hts (.fieldLink RX2 20 "SignalSpacing$Profile" "speeds" "LSignalSpacing$Row;") (by decide +kernel)
  have f29 := hts (.fieldLink RX2 29 "SignalSpacing$Profile" "state" "LSignalSpacing$State;") (by decide +kernel)
  have f49 := hts (.fieldLink RX2 49 "SignalSpacing$State" "length" "I") (by decide +kernel)
  have hl : lv_has ls 2 [(0, .ref p0)] := hl
  have hP : va_P D vwCl [(p0, .inr (2, [.ref (b 0), .ref (r 0), .ref (r 1), .ref (r 2), .ref (r 3), .int (zI (fr))])), (r 0, .inr (3, [.ref (r 4)])), (r 4, .inl (cI, 121, .inl (zA ge))), (r 1, .inr (3, [.ref (r 5)])), (r 5, .inl (cI, 121, .inl (zA gv))), (b 0, .inr (4, [.ref (b 1), .ref (b 2), .ref (b 3), .ref (b 4), .ref (b 5), .int (zI (n)), .int (zI (f 0)), .int (zI (f 1)), .int (zI (f 2)), .int (zI (f 3)), .int (zI (f 4)), .int (zI (f 5)), .int (zI (f 6)), .int (zI (f 7)), .int (zI (f 8))])), (b 1, .inr (3, [.ref (b 6)])), (b 2, .inr (3, [.ref (b 7)])), (b 3, .inr (3, [.ref (b 8)])), (b 4, .inr (3, [.ref (b 9)])), (b 5, .inr (3, [.ref (b 10)])), (b 6, .inl (cI, 120, .inl (zA (fun xx => f (9 + xx))))), (b 7, .inl (cI, 120, .inl (zA (fun xx => f (129 + xx))))), (b 8, .inl (cI, 121, .inl (zA (fun xx => f (249 + xx))))), (b 9, .inl (cI, 121, .inl (zA (fun xx => f (370 + xx))))), (b 10, .inl (cI, 121, .inl (zA ps)))] s.heap := hP
  obtain ⟨o0, o1, o2, o3, o4, o5, o7, o8, olim, ogrd, obar, oneed, opost⟩ := id ok
  refine z_iconst hx hb dX2_computeSpeeds_0 ?_
  refine lv_istore_n (lv' := [(1, .int (zI (0))), (0, .ref p0)]) hx hb dX2_computeSpeeds_1 rfl hl (by decide) rfl (fun ls hl => ?_)
  have L2 : ∀ (fuel : Nat), ∀ (x : Int) (g : Int → Int), ∀ (h1 : 0 ≤ x ∧ x ≤ f 0 + 1), ∀ (hg : ∀ y : Int, 0 ≤ y → y < x → g y = spV f y), (f 0 + 1 - x).toNat < fuel → ∀ (H : Heap) (locs : List Loc), va_P D vwCl [(p0, .inr (2, [.ref (b 0), .ref (r 0), .ref (r 1), .ref (r 2), .ref (r 3), .int (zI (fr))])), (r 0, .inr (3, [.ref (r 4)])), (r 4, .inl (cI, 121, .inl (zA ge))), (r 1, .inr (3, [.ref (r 5)])), (r 5, .inl (cI, 121, .inl (zA g))), (b 0, .inr (4, [.ref (b 1), .ref (b 2), .ref (b 3), .ref (b 4), .ref (b 5), .int (zI (n)), .int (zI (f 0)), .int (zI (f 1)), .int (zI (f 2)), .int (zI (f 3)), .int (zI (f 4)), .int (zI (f 5)), .int (zI (f 6)), .int (zI (f 7)), .int (zI (f 8))])), (b 1, .inr (3, [.ref (b 6)])), (b 2, .inr (3, [.ref (b 7)])), (b 3, .inr (3, [.ref (b 8)])), (b 4, .inr (3, [.ref (b 9)])), (b 5, .inr (3, [.ref (b 10)])), (b 6, .inl (cI, 120, .inl (zA (fun xx => f (9 + xx))))), (b 7, .inl (cI, 120, .inl (zA (fun xx => f (129 + xx))))), (b 8, .inl (cI, 121, .inl (zA (fun xx => f (249 + xx))))), (b 9, .inl (cI, 121, .inl (zA (fun xx => f (370 + xx))))), (b 10, .inl (cI, 121, .inl (zA ps)))] H → va_S A s.heap H locs → ∀ (ls : Array Slot), lv_has ls 2 [(0, .ref p0), (1, .int (zI (x)))] → W p l e rmX2_computeSpeeds s m args below meth c H locs 0 0 Q (F0 m 2 ls []) := by
    intro fuel
    induction fuel with
    | zero =>
      intro x g h1 hg hm
      exact absurd hm (Nat.not_lt_zero _)
    | succ fuel ih2 =>
      intro x g h1 hg hm H locs hP hS ls hl
      refine lv_iload_n hx hb dX2_computeSpeeds_2 rfl (lv_at hl 1 rfl) ?_
      refine lv_aload_n hx hb dX2_computeSpeeds_3 rfl (lv_at hl 0 rfl) ?_
      refine va_get (D := D) (ci := 2) (v := .ref (b 0)) (C := RX2) (T := TX2) (N := 6) hx hb hts in2 hown hK hP 0 rfl rfl 0 (by decide) f29 (fun _ h9 => h9) rfl dX2_computeSpeeds_4 ?_
      refine va_get (D := D) (ci := 4) (v := .int (zI (f 0))) (C := RX4) (T := TX4) (N := 15) hx hb hts in4 hown hK hP 5 rfl rfl 6 (by decide) f49 (fun _ h9 => h9) rfl dX2_computeSpeeds_7 ?_
      refine z_icmp_gt (tgt := 38) hx hb dX2_computeSpeeds_10 (by decide) (by omega) (by omega) (fun c10 => ?_) (fun c10 => ?_)
      · exact hret g (fun y a b => hg y a (by omega)) hP hS dX2_computeSpeeds_38
      · refine lv_aload_n hx hb dX2_computeSpeeds_13 rfl (lv_at hl 0 rfl) ?_
        refine va_get (D := D) (ci := 2) (v := .ref (r 1)) (C := RX2) (T := TX2) (N := 6) hx hb hts in2 hown hK hP 0 rfl rfl 2 (by decide) f20 (fun _ h9 => h9) rfl dX2_computeSpeeds_14 ?_
        refine lv_iload_n hx hb dX2_computeSpeeds_17 rfl (lv_at hl 1 rfl) ?_
        refine lv_aload_n hx hb dX2_computeSpeeds_18 rfl (lv_at hl 0 rfl) ?_
        refine va_get (D := D) (ci := 2) (v := .ref (r 0)) (C := RX2) (T := TX2) (N := 6) hx hb hts in2 hown hK hP 0 rfl rfl 1 (by decide) f14 (fun _ h9 => h9) rfl dX2_computeSpeeds_19 ?_
        refine lv_iload_n hx hb dX2_computeSpeeds_22 rfl (lv_at hl 1 rfl) ?_
        refine y_rV (v := ge x) (As := [.int (zI (x))]) (rest := [.int (zI (x)), .ref (r 1)]) hx hb hml hown hts hl.1 ⟨Nat.zero_le _, Nat.zero_le _⟩ (kX3_at l D cI cJ cS (r 0) (r 4) 121 ge x (by omega) (Nat.lt_of_succ_le (Nat.le_of_ble_eq_true rfl))) (cwV 1 hts gX2_computeSpeeds_X3_at rfl rfl rfl jX3_at ⟨Nat.le_of_ble_eq_true rfl, Nat.le_of_ble_eq_true rfl⟩) hK [false, true, true] hP (zD hD rfl) rfl 3 0 rfl rfl rfl rfl rfl (Nat.le_of_ble_eq_true rfl) dX2_computeSpeeds_23 ?_
        refine z_top (enE f x) (hE x h1.1 (by omega)) ?_
        have hb3 := enE_b ok x h1.1 (by omega)
        refine z_rS (v := spd (enE f x)) (As := [.int (zI (enE f x))]) (rest := [.int (zI (x)), .ref (r 1)]) hx hb hml hown hts hl.1 ⟨Nat.zero_le _, Nat.zero_le _⟩ (kX2_speedWith l D cI cJ cS (enE f x) (by omega)) (cwS 1 hts gX2_computeSpeeds_X2_speedWith rfl rfl rfl jX2_speedWith ⟨Nat.le_of_ble_eq_true rfl, Nat.le_of_ble_eq_true rfl⟩) hK rfl rfl (Nat.le_of_ble_eq_true rfl) dX2_computeSpeeds_26 ?_
        refine z_top (spV f x) rfl ?_
        refine y_wVv (As := [.int (zI (x)), .int (zI (spV f x))]) (rest := []) (fun (u29 : Unit) => [(p0, .inr (2, [.ref (b 0), .ref (r 0), .ref (r 1), .ref (r 2), .ref (r 3), .int (zI (fr))])), (r 0, .inr (3, [.ref (r 4)])), (r 4, .inl (cI, 121, .inl (zA ge))), (r 1, .inr (3, [.ref (r 5)])), (r 5, .inl (cI, 121, .inl (zA (zup g x (spV f x))))), (b 0, .inr (4, [.ref (b 1), .ref (b 2), .ref (b 3), .ref (b 4), .ref (b 5), .int (zI (n)), .int (zI (f 0)), .int (zI (f 1)), .int (zI (f 2)), .int (zI (f 3)), .int (zI (f 4)), .int (zI (f 5)), .int (zI (f 6)), .int (zI (f 7)), .int (zI (f 8))])), (b 1, .inr (3, [.ref (b 6)])), (b 2, .inr (3, [.ref (b 7)])), (b 3, .inr (3, [.ref (b 8)])), (b 4, .inr (3, [.ref (b 9)])), (b 5, .inr (3, [.ref (b 10)])), (b 6, .inl (cI, 120, .inl (zA (fun xx => f (9 + xx))))), (b 7, .inl (cI, 120, .inl (zA (fun xx => f (129 + xx))))), (b 8, .inl (cI, 121, .inl (zA (fun xx => f (249 + xx))))), (b 9, .inl (cI, 121, .inl (zA (fun xx => f (370 + xx))))), (b 10, .inl (cI, 121, .inl (zA ps)))]) hx hb hml hown hts hl.1 ⟨Nat.zero_le _, Nat.zero_le _⟩ (kX3_put l D cI cJ cS (r 1) (r 5) 121 g x (spV f x) (by omega) (Nat.lt_of_succ_le (Nat.le_of_ble_eq_true rfl))) (cwV 2 hts gX2_computeSpeeds_X3_put rfl rfl rfl jX3_put ⟨Nat.le_of_ble_eq_true rfl, Nat.le_of_ble_eq_true rfl⟩) hK [false, false, false, true, true] hP (zD hD rfl) hS rfl (fun _ => rfl) (fun _ => rfl) 3 0 rfl rfl rfl rfl rfl (Nat.le_of_ble_eq_true rfl) dX2_computeSpeeds_29 (fun u29 H locs hu29 hP hS => ?_)
        refine z_iinc (lv' := [(1, .int (zI (x + 1))), (0, .ref p0)]) hx hb 1 (x + 1) dX2_computeSpeeds_32 hl rfl (by omega) (by decide) rfl (fun ls hl => ?_)
        refine lv_goto (tgt := 2) hx hb dX2_computeSpeeds_35 (by decide) ?_
        exact ih2 (x + 1) (zup g x (spV f x)) (by omega) (zx_up hg rfl) (by omega) _ _ hP hS ls (lv_sub hl [1, 0] rfl)
  exact L2 _ 0 gv (by omega) (fun y a b => by omega) (Nat.lt_succ_self _) _ _ hP hS ls (lv_sub hl [1, 0] rfl)

abbrev rmX2_brakingCells : Room := { frames := 2, cells := 0, slots := 0, locals := 43 }
theorem jX2_brakingCells : yX2_brakingCells.cls = RX2 ∧ yX2_brakingCells.cls ≠ "java/lang/invoke/MethodHandle" ∧ yX2_brakingCells.cls ≠ "java/lang/invoke/VarHandle" ∧ (parseMethodDescriptor yX2_brakingCells.desc).map (fun d => d.parameters.length) = some 2 := by decide +kernel
set_option maxHeartbeats 4000000 in
set_option maxRecDepth 100000 in
theorem kX2_brakingCells (l : Launch) (D : va_G) (cI cJ cS : ClassId) (p0 : Nat) (b r : Nat → Nat) (fr : Int) (f ps : Int → Int) (n : Int) (a en : Int) (ok : OkF f) (h1 : 0 ≤ a ∧ a ≤ 1000000) (h2 : 50000 ≤ en ∧ en ≤ 3200000) : Met l yX2_brakingCells wsX2_brakingCells rmX2_brakingCells (zPc D (zT cI cJ cS) [.ref p0, .int (zI (a)), .int (zI (en))] [(p0, .inr (2, [.ref (b 0), .ref (r 0), .ref (r 1), .ref (r 2), .ref (r 3), .int (zI (fr))])), (b 0, .inr (4, [.ref (b 1), .ref (b 2), .ref (b 3), .ref (b 4), .ref (b 5), .int (zI (n)), .int (zI (f 0)), .int (zI (f 1)), .int (zI (f 2)), .int (zI (f 3)), .int (zI (f 4)), .int (zI (f 5)), .int (zI (f 6)), .int (zI (f 7)), .int (zI (f 8))])), (b 1, .inr (3, [.ref (b 6)])), (b 2, .inr (3, [.ref (b 7)])), (b 3, .inr (3, [.ref (b 8)])), (b 4, .inr (3, [.ref (b 9)])), (b 5, .inr (3, [.ref (b 10)])), (b 6, .inl (cI, 120, .inl (zA (fun xx => f (9 + xx))))), (b 7, .inl (cI, 120, .inl (zA (fun xx => f (129 + xx))))), (b 8, .inl (cI, 121, .inl (zA (fun xx => f (249 + xx))))), (b 9, .inl (cI, 121, .inl (zA (fun xx => f (370 + xx))))), (b 10, .inl (cI, 121, .inl (zA ps)))]) (vp_Si (fun r => r = zI (brk f a en))) 0 0 (fun _ => False) := by
  refine zRi_of (cc := cX2_brakingCells) (maxL := 5) (ret := (some .int)) (brk f a en) (by decide) rfl (Nat.le_of_ble_eq_true rfl) rfl ?_
  intro p e s m args below meth c Q ls hx hb hml hts hown hK hP hD hl hret
  have hl : lv_has ls 5 [(0, .ref p0), (1, .int (zI (a))), (2, .int (zI (en)))] := hl
  have hP : va_P D vwCl [(p0, .inr (2, [.ref (b 0), .ref (r 0), .ref (r 1), .ref (r 2), .ref (r 3), .int (zI (fr))])), (b 0, .inr (4, [.ref (b 1), .ref (b 2), .ref (b 3), .ref (b 4), .ref (b 5), .int (zI (n)), .int (zI (f 0)), .int (zI (f 1)), .int (zI (f 2)), .int (zI (f 3)), .int (zI (f 4)), .int (zI (f 5)), .int (zI (f 6)), .int (zI (f 7)), .int (zI (f 8))])), (b 1, .inr (3, [.ref (b 6)])), (b 2, .inr (3, [.ref (b 7)])), (b 3, .inr (3, [.ref (b 8)])), (b 4, .inr (3, [.ref (b 9)])), (b 5, .inr (3, [.ref (b 10)])), (b 6, .inl (cI, 120, .inl (zA (fun xx => f (9 + xx))))), (b 7, .inl (cI, 120, .inl (zA (fun xx => f (129 + xx))))), (b 8, .inl (cI, 121, .inl (zA (fun xx => f (249 + xx))))), (b 9, .inl (cI, 121, .inl (zA (fun xx => f (370 + xx))))), (b 10, .inl (cI, 121, .inl (zA ps)))] s.heap := hP
  obtain ⟨o0, o1, o2, o3, o4, o5, o7, o8, olim, ogrd, obar, oneed, opost⟩ := id ok
  refine z_iconst hx hb dX2_brakingCells_0 ?_
  refine lv_istore_n (lv' := [(3, .int (zI (0))), (0, .ref p0), (1, .int (zI (a))), (2, .int (zI (en)))]) hx hb dX2_brakingCells_1 rfl hl (by decide) rfl (fun ls hl => ?_)
  refine z_iconst hx hb dX2_brakingCells_2 ?_
  refine lv_istore (lv' := [(4, .int (zI (0))), (3, .int (zI (0))), (0, .ref p0), (1, .int (zI (a))), (2, .int (zI (en)))]) hx hb dX2_brakingCells_3 hl (by decide) rfl (fun ls hl => ?_)
  have L5 : ∀ (fuel : Nat), ∀ (lo : Int) (ce : Int), ∀ (h3 : 0 ≤ ce ∧ ce ≤ 1000), ∀ (hlo : lo = zcum f a ce), ∀ (hj : ∀ j : Int, 0 ≤ j → j < ce → zcum f a j < en), (1000 - ce).toNat < fuel → ∀ (ls : Array Slot), lv_has ls 5 [(0, .ref p0), (1, .int (zI (a))), (2, .int (zI (en))), (3, .int (zI (lo))), (4, .int (zI (ce)))] → W p l e rmX2_brakingCells s m args below meth c s.heap [] 0 0 Q (F0 m 5 ls []) := by
    intro fuel
    induction fuel with
    | zero =>
      intro lo ce h3 hlo hj hm
      exact absurd hm (Nat.not_lt_zero _)
    | succ fuel ih5 =>
      intro lo ce h3 hlo hj hm ls hl
      have hb1 := zcum_b ok h1.1 ce h3.1 (by omega)
      refine lv_iload_n hx hb dX2_brakingCells_5 rfl (lv_at hl 3 rfl) ?_
      refine lv_iload_n hx hb dX2_brakingCells_6 rfl (lv_at hl 2 rfl) ?_
      refine z_icmp_ge (tgt := 35) hx hb dX2_brakingCells_7 (by decide) (by omega) (by omega) (fun c7 => ?_) (fun c7 => ?_)
      · refine lv_iload hx hb dX2_brakingCells_35 (lv_at hl 4 rfl) ?_
        exact z_top (brk f a en) (brk_of ⟨h3.1, by omega, hj⟩) (hret dX2_brakingCells_37)
      · refine lv_iload hx hb dX2_brakingCells_10 (lv_at hl 4 rfl) ?_
        refine z_sipush hx hb dX2_brakingCells_12 (by decide +kernel) ?_
        refine z_icmp_ge (tgt := 35) hx hb dX2_brakingCells_15 (by decide) (by omega) (by omega) (fun c15 => ?_) (fun c15 => ?_)
        · exfalso; omega
        · refine lv_iload_n hx hb dX2_brakingCells_18 rfl (lv_at hl 3 rfl) ?_
          refine lv_aload_n hx hb dX2_brakingCells_19 rfl (lv_at hl 0 rfl) ?_
          refine lv_iload_n hx hb dX2_brakingCells_20 rfl (lv_at hl 1 rfl) ?_
          refine lv_iload hx hb dX2_brakingCells_21 (lv_at hl 4 rfl) ?_
          refine z_iadd hx hb dX2_brakingCells_23 ?_
          refine y_rV (v := zlost f (a + ce)) (As := [.int (zI (a + ce))]) (rest := [.int (zI (lo))]) hx hb hml hown hts hl.1 ⟨Nat.zero_le _, Nat.zero_le _⟩ (kX2_energyLost l D cI cJ cS p0 b r fr f ps n (a + ce) ok (by omega)) (cwV 1 hts gX2_brakingCells_X2_energyLost rfl rfl rfl jX2_energyLost ⟨Nat.le_of_ble_eq_true rfl, Nat.le_of_ble_eq_true rfl⟩) hK [true, true, true, true, true, true, true, true, true, true, true, true] hP hD rfl 2 0 rfl rfl rfl rfl rfl (Nat.le_of_ble_eq_true rfl) dX2_brakingCells_24 ?_
          refine z_iadd hx hb dX2_brakingCells_27 ?_
          refine lv_istore_n (lv' := [(3, .int (zI (lo + (zlost f (a + ce))))), (0, .ref p0), (1, .int (zI (a))), (2, .int (zI (en))), (4, .int (zI (ce)))]) hx hb dX2_brakingCells_28 rfl hl (by decide) rfl (fun ls hl => ?_)
          refine z_iinc (lv' := [(4, .int (zI (ce + 1))), (3, .int (zI (lo + (zlost f (a + ce))))), (0, .ref p0), (1, .int (zI (a))), (2, .int (zI (en)))]) hx hb 4 (ce + 1) dX2_brakingCells_29 hl rfl (by omega) (by decide) rfl (fun ls hl => ?_)
          refine lv_goto (tgt := 5) hx hb dX2_brakingCells_32 (by decide) ?_
          exact ih5 (lo + (zlost f (a + ce))) (ce + 1) (by omega) (by rw [zcum_s h3.1, hlo]) (fun j a b => if hj9 : j = ce then (by rw [hj9]; omega) else hj j a (by omega)) (by omega) ls (lv_sub hl [2, 3, 4, 1, 0] rfl)
  exact L5 _ 0 0 (by omega) rfl (fun j a b => by omega) (Nat.lt_succ_self _) ls (lv_sub hl [2, 3, 4, 1, 0] rfl)

abbrev rmX2_computeDistances : Room := { frames := 3, cells := 0, slots := 0, locals := 67 }
theorem jX2_computeDistances : yX2_computeDistances.cls = RX2 ∧ yX2_computeDistances.cls ≠ "java/lang/invoke/MethodHandle" ∧ yX2_computeDistances.cls ≠ "java/lang/invoke/VarHandle" ∧ (parseMethodDescriptor yX2_computeDistances.desc).map (fun d => d.parameters.length) = some 0 := by decide +kernel
set_option maxHeartbeats 4000000 in
set_option maxRecDepth 100000 in
theorem kX2_computeDistances (l : Launch) (D : va_G) (cI cJ cS : ClassId) (p0 : Nat) (b r : Nat → Nat) (fr : Int) (f ps : Int → Int) (n : Int) (ge gv gd : Int → Int) (ok : OkF f) (hE : ∀ x : Int, 0 ≤ x → x ≤ f 0 → ge x = enE f x) (hV : ∀ x : Int, 0 ≤ x → x ≤ f 0 → gv x = spV f x) : Met l yX2_computeDistances wsX2_computeDistances rmX2_computeDistances (zPc D (zT cI cJ cS) [.ref p0] [(p0, .inr (2, [.ref (b 0), .ref (r 0), .ref (r 1), .ref (r 2), .ref (r 3), .int (zI (fr))])), (r 0, .inr (3, [.ref (r 4)])), (r 4, .inl (cI, 121, .inl (zA ge))), (r 1, .inr (3, [.ref (r 5)])), (r 5, .inl (cI, 121, .inl (zA gv))), (r 2, .inr (3, [.ref (r 6)])), (r 6, .inl (cI, 121, .inl (zA gd))), (b 0, .inr (4, [.ref (b 1), .ref (b 2), .ref (b 3), .ref (b 4), .ref (b 5), .int (zI (n)), .int (zI (f 0)), .int (zI (f 1)), .int (zI (f 2)), .int (zI (f 3)), .int (zI (f 4)), .int (zI (f 5)), .int (zI (f 6)), .int (zI (f 7)), .int (zI (f 8))])), (b 1, .inr (3, [.ref (b 6)])), (b 2, .inr (3, [.ref (b 7)])), (b 3, .inr (3, [.ref (b 8)])), (b 4, .inr (3, [.ref (b 9)])), (b 5, .inr (3, [.ref (b 10)])), (b 6, .inl (cI, 120, .inl (zA (fun xx => f (9 + xx))))), (b 7, .inl (cI, 120, .inl (zA (fun xx => f (129 + xx))))), (b 8, .inl (cI, 121, .inl (zA (fun xx => f (249 + xx))))), (b 9, .inl (cI, 121, .inl (zA (fun xx => f (370 + xx))))), (b 10, .inl (cI, 121, .inl (zA ps)))]) (va_Qv (fun u => ∀ x : Int, 0 ≤ x → x ≤ f 0 → u x = brD f x) (fun (u : Int → Int) t => va_P D vwCl [(p0, .inr (2, [.ref (b 0), .ref (r 0), .ref (r 1), .ref (r 2), .ref (r 3), .int (zI (fr))])), (r 0, .inr (3, [.ref (r 4)])), (r 4, .inl (cI, 121, .inl (zA ge))), (r 1, .inr (3, [.ref (r 5)])), (r 5, .inl (cI, 121, .inl (zA gv))), (r 2, .inr (3, [.ref (r 6)])), (r 6, .inl (cI, 121, .inl (zA u))), (b 0, .inr (4, [.ref (b 1), .ref (b 2), .ref (b 3), .ref (b 4), .ref (b 5), .int (zI (n)), .int (zI (f 0)), .int (zI (f 1)), .int (zI (f 2)), .int (zI (f 3)), .int (zI (f 4)), .int (zI (f 5)), .int (zI (f 6)), .int (zI (f 7)), .int (zI (f 8))])), (b 1, .inr (3, [.ref (b 6)])), (b 2, .inr (3, [.ref (b 7)])), (b 3, .inr (3, [.ref (b 8)])), (b 4, .inr (3, [.ref (b 9)])), (b 5, .inr (3, [.ref (b 10)])), (b 6, .inl (cI, 120, .inl (zA (fun xx => f (9 + xx))))), (b 7, .inl (cI, 120, .inl (zA (fun xx => f (129 + xx))))), (b 8, .inl (cI, 121, .inl (zA (fun xx => f (249 + xx))))), (b 9, .inl (cI, 121, .inl (zA (fun xx => f (370 + xx))))), (b 10, .inl (cI, 121, .inl (zA ps)))] t.heap) (zAd [(p0, .inr (2, [.ref (b 0), .ref (r 0), .ref (r 1), .ref (r 2), .ref (r 3), .int (zI (fr))])), (r 0, .inr (3, [.ref (r 4)])), (r 4, .inl (cI, 121, .inl (zA ge))), (r 1, .inr (3, [.ref (r 5)])), (r 5, .inl (cI, 121, .inl (zA gv))), (r 2, .inr (3, [.ref (r 6)])), (r 6, .inl (cI, 121, .inl (zA gd))), (b 0, .inr (4, [.ref (b 1), .ref (b 2), .ref (b 3), .ref (b 4), .ref (b 5), .int (zI (n)), .int (zI (f 0)), .int (zI (f 1)), .int (zI (f 2)), .int (zI (f 3)), .int (zI (f 4)), .int (zI (f 5)), .int (zI (f 6)), .int (zI (f 7)), .int (zI (f 8))])), (b 1, .inr (3, [.ref (b 6)])), (b 2, .inr (3, [.ref (b 7)])), (b 3, .inr (3, [.ref (b 8)])), (b 4, .inr (3, [.ref (b 9)])), (b 5, .inr (3, [.ref (b 10)])), (b 6, .inl (cI, 120, .inl (zA (fun xx => f (9 + xx))))), (b 7, .inl (cI, 120, .inl (zA (fun xx => f (129 + xx))))), (b 8, .inl (cI, 121, .inl (zA (fun xx => f (249 + xx))))), (b 9, .inl (cI, 121, .inl (zA (fun xx => f (370 + xx))))), (b 10, .inl (cI, 121, .inl (zA ps)))])) 0 0 (zAd [(p0, .inr (2, [.ref (b 0), .ref (r 0), .ref (r 1), .ref (r 2), .ref (r 3), .int (zI (fr))])), (r 0, .inr (3, [.ref (r 4)])), (r 4, .inl (cI, 121, .inl (zA ge))), (r 1, .inr (3, [.ref (r 5)])), (r 5, .inl (cI, 121, .inl (zA gv))), (r 2, .inr (3, [.ref (r 6)])), (r 6, .inl (cI, 121, .inl (zA gd))), (b 0, .inr (4, [.ref (b 1), .ref (b 2), .ref (b 3), .ref (b 4), .ref (b 5), .int (zI (n)), .int (zI (f 0)), .int (zI (f 1)), .int (zI (f 2)), .int (zI (f 3)), .int (zI (f 4)), .int (zI (f 5)), .int (zI (f 6)), .int (zI (f 7)), .int (zI (f 8))])), (b 1, .inr (3, [.ref (b 6)])), (b 2, .inr (3, [.ref (b 7)])), (b 3, .inr (3, [.ref (b 8)])), (b 4, .inr (3, [.ref (b 9)])), (b 5, .inr (3, [.ref (b 10)])), (b 6, .inl (cI, 120, .inl (zA (fun xx => f (9 + xx))))), (b 7, .inl (cI, 120, .inl (zA (fun xx => f (129 + xx))))), (b 8, .inl (cI, 121, .inl (zA (fun xx => f (249 + xx))))), (b 9, .inl (cI, 121, .inl (zA (fun xx => f (370 + xx))))), (b 10, .inl (cI, 121, .inl (zA ps)))]) := by
  refine zWv_of (cc := cX2_computeDistances) (maxL := 4) (ret := none) (by decide) rfl (Nat.le_of_ble_eq_true rfl) rfl ?_
  intro p e s m args below meth c Q A ls hx hb hml hts hown hK hP hD hS hl hret
  have in2 : ∀ w ∈ wsX20, w ∈ wsX2_computeDistances := by decide +kernel
  have in4 : ∀ w ∈ wsX40, w ∈ wsX2_computeDistances := by decide +kernel
  have f14 := hts (.fieldLink RX2 14 "SignalSpacing$Profile" "energies" "LSignalSpacing$Row;") (by decide +kernel)
  have f20 := hts (.fieldLink RX2 20 "SignalSpacing$Profile" "speeds" "LSignalSpacing$Row;") (by decide +kernel)
  have f23 := hts (.fieldLink RX2 23 "SignalSpacing$Profile" "distances" "LSignalSpacing$Row;") (by decide +kernel)
  have f29 := hts (.fieldLink RX2 29 "SignalSpacing$Profile" "state" "LSignalSpacing$State;") (by decide +kernel)
  have f49 := hts (.fieldLink RX2 49 "SignalSpacing$State" "length" "I") (by decide +kernel)
  have f90 := hts (.fieldLink RX2 90 "SignalSpacing$State" "reaction" "I") (by decide +kernel)
  have hl : lv_has ls 4 [(0, .ref p0)] := hl
  have hP : va_P D vwCl [(p0, .inr (2, [.ref (b 0), .ref (r 0), .ref (r 1), .ref (r 2), .ref (r 3), .int (zI (fr))])), (r 0, .inr (3, [.ref (r 4)])), (r 4, .inl (cI, 121, .inl (zA ge))), (r 1, .inr (3, [.ref (r 5)])), (r 5, .inl (cI, 121, .inl (zA gv))), (r 2, .inr (3, [.ref (r 6)])), (r 6, .inl (cI, 121, .inl (zA gd))), (b 0, .inr (4, [.ref (b 1), .ref (b 2), .ref (b 3), .ref (b 4), .ref (b 5), .int (zI (n)), .int (zI (f 0)), .int (zI (f 1)), .int (zI (f 2)), .int (zI (f 3)), .int (zI (f 4)), .int (zI (f 5)), .int (zI (f 6)), .int (zI (f 7)), .int (zI (f 8))])), (b 1, .inr (3, [.ref (b 6)])), (b 2, .inr (3, [.ref (b 7)])), (b 3, .inr (3, [.ref (b 8)])), (b 4, .inr (3, [.ref (b 9)])), (b 5, .inr (3, [.ref (b 10)])), (b 6, .inl (cI, 120, .inl (zA (fun xx => f (9 + xx))))), (b 7, .inl (cI, 120, .inl (zA (fun xx => f (129 + xx))))), (b 8, .inl (cI, 121, .inl (zA (fun xx => f (249 + xx))))), (b 9, .inl (cI, 121, .inl (zA (fun xx => f (370 + xx))))), (b 10, .inl (cI, 121, .inl (zA ps)))] s.heap := hP
  obtain ⟨o0, o1, o2, o3, o4, o5, o7, o8, olim, ogrd, obar, oneed, opost⟩ := id ok
  refine z_iconst hx hb dX2_computeDistances_0 ?_
  refine lv_istore_n (lv' := [(1, .int (zI (0))), (0, .ref p0)]) hx hb dX2_computeDistances_1 rfl hl (by decide) rfl (fun ls hl => ?_)
  have L2 : ∀ (fuel : Nat), ∀ (x : Int) (g : Int → Int), ∀ (h1 : 0 ≤ x ∧ x ≤ f 0 + 1), ∀ (hg : ∀ y : Int, 0 ≤ y → y < x → g y = brD f y), (f 0 + 1 - x).toNat < fuel → ∀ (H : Heap) (locs : List Loc), va_P D vwCl [(p0, .inr (2, [.ref (b 0), .ref (r 0), .ref (r 1), .ref (r 2), .ref (r 3), .int (zI (fr))])), (r 0, .inr (3, [.ref (r 4)])), (r 4, .inl (cI, 121, .inl (zA ge))), (r 1, .inr (3, [.ref (r 5)])), (r 5, .inl (cI, 121, .inl (zA gv))), (r 2, .inr (3, [.ref (r 6)])), (r 6, .inl (cI, 121, .inl (zA g))), (b 0, .inr (4, [.ref (b 1), .ref (b 2), .ref (b 3), .ref (b 4), .ref (b 5), .int (zI (n)), .int (zI (f 0)), .int (zI (f 1)), .int (zI (f 2)), .int (zI (f 3)), .int (zI (f 4)), .int (zI (f 5)), .int (zI (f 6)), .int (zI (f 7)), .int (zI (f 8))])), (b 1, .inr (3, [.ref (b 6)])), (b 2, .inr (3, [.ref (b 7)])), (b 3, .inr (3, [.ref (b 8)])), (b 4, .inr (3, [.ref (b 9)])), (b 5, .inr (3, [.ref (b 10)])), (b 6, .inl (cI, 120, .inl (zA (fun xx => f (9 + xx))))), (b 7, .inl (cI, 120, .inl (zA (fun xx => f (129 + xx))))), (b 8, .inl (cI, 121, .inl (zA (fun xx => f (249 + xx))))), (b 9, .inl (cI, 121, .inl (zA (fun xx => f (370 + xx))))), (b 10, .inl (cI, 121, .inl (zA ps)))] H → va_S A s.heap H locs → ∀ (ls : Array Slot), lv_has ls 4 [(0, .ref p0), (1, .int (zI (x)))] → W p l e rmX2_computeDistances s m args below meth c H locs 0 0 Q (F0 m 2 ls []) := by
    intro fuel
    induction fuel with
    | zero =>
      intro x g h1 hg hm
      exact absurd hm (Nat.not_lt_zero _)
    | succ fuel ih2 =>
      intro x g h1 hg hm H locs hP hS ls hl
      refine lv_iload_n hx hb dX2_computeDistances_2 rfl (lv_at hl 1 rfl) ?_
      refine lv_aload_n hx hb dX2_computeDistances_3 rfl (lv_at hl 0 rfl) ?_
      refine va_get (D := D) (ci := 2) (v := .ref (b 0)) (C := RX2) (T := TX2) (N := 6) hx hb hts in2 hown hK hP 0 rfl rfl 0 (by decide) f29 (fun _ h9 => h9) rfl dX2_computeDistances_4 ?_
      refine va_get (D := D) (ci := 4) (v := .int (zI (f 0))) (C := RX4) (T := TX4) (N := 15) hx hb hts in4 hown hK hP 7 rfl rfl 6 (by decide) f49 (fun _ h9 => h9) rfl dX2_computeDistances_7 ?_
      refine z_icmp_gt (tgt := 69) hx hb dX2_computeDistances_10 (by decide) (by omega) (by omega) (fun c10 => ?_) (fun c10 => ?_)
      · exact hret g (fun y a b => hg y a (by omega)) hP hS dX2_computeDistances_69
      · refine lv_aload_n hx hb dX2_computeDistances_13 rfl (lv_at hl 0 rfl) ?_
        refine va_get (D := D) (ci := 2) (v := .ref (r 1)) (C := RX2) (T := TX2) (N := 6) hx hb hts in2 hown hK hP 0 rfl rfl 2 (by decide) f20 (fun _ h9 => h9) rfl dX2_computeDistances_14 ?_
        refine lv_iload_n hx hb dX2_computeDistances_17 rfl (lv_at hl 1 rfl) ?_
        refine y_rV (v := gv x) (As := [.int (zI (x))]) (rest := []) hx hb hml hown hts hl.1 ⟨Nat.zero_le _, Nat.zero_le _⟩ (kX3_at l D cI cJ cS (r 1) (r 5) 121 gv x (by omega) (Nat.lt_of_succ_le (Nat.le_of_ble_eq_true rfl))) (cwV 1 hts gX2_computeDistances_X3_at rfl rfl rfl jX3_at ⟨Nat.le_of_ble_eq_true rfl, Nat.le_of_ble_eq_true rfl⟩) hK [false, false, false, true, true] hP (zD hD rfl) rfl 3 0 rfl rfl rfl rfl rfl (Nat.le_of_ble_eq_true rfl) dX2_computeDistances_18 ?_
        refine z_top (spV f x) (hV x h1.1 (by omega)) ?_
        refine lv_aload_n hx hb dX2_computeDistances_21 rfl (lv_at hl 0 rfl) ?_
        refine va_get (D := D) (ci := 2) (v := .ref (b 0)) (C := RX2) (T := TX2) (N := 6) hx hb hts in2 hown hK hP 0 rfl rfl 0 (by decide) f29 (fun _ h9 => h9) rfl dX2_computeDistances_22 ?_
        refine va_get (D := D) (ci := 4) (v := .int (zI (f 2))) (C := RX4) (T := TX4) (N := 15) hx hb hts in4 hown hK hP 7 rfl rfl 8 (by decide) f90 (fun _ h9 => h9) rfl dX2_computeDistances_25 ?_
        refine z_imul hx hb dX2_computeDistances_28 ?_
        refine z_sipush hx hb dX2_computeDistances_29 (by decide +kernel) ?_
        have hb2 := reaM_b ok h1.1 (by omega : x ≤ f 0)
        have hb1 := reaC_b ok h1.1 (by omega : x ≤ f 0)
        have hb3 := enE_b ok x h1.1 (by omega)
        refine z_rS (v := rup ((spV f x) * (f 2)) 1800) (As := [.int (zI ((spV f x) * (f 2))), .int (zI (1800))]) (rest := []) hx hb hml hown hts hl.1 ⟨Nat.zero_le _, Nat.zero_le _⟩ (kX2_roundUp l D cI cJ cS ((spV f x) * (f 2)) 1800 (by omega)) (cwS 2 hts gX2_computeDistances_X2_roundUp rfl rfl rfl jX2_roundUp ⟨Nat.le_of_ble_eq_true rfl, Nat.le_of_ble_eq_true rfl⟩) hK rfl rfl (Nat.le_of_ble_eq_true rfl) dX2_computeDistances_32 ?_
        refine z_top (reaC f x) rfl ?_
        refine lv_istore_n (lv' := [(2, .int (zI (reaC f x))), (0, .ref p0), (1, .int (zI (x)))]) hx hb dX2_computeDistances_35 rfl hl (by decide) rfl (fun ls hl => ?_)
        refine lv_aload_n hx hb dX2_computeDistances_36 rfl (lv_at hl 1 rfl) ?_
        refine lv_iload_n hx hb dX2_computeDistances_37 rfl (lv_at hl 2 rfl) ?_
        refine lv_iload_n hx hb dX2_computeDistances_38 rfl (lv_at hl 0 rfl) ?_
        refine z_iadd hx hb dX2_computeDistances_39 ?_
        refine lv_aload_n hx hb dX2_computeDistances_40 rfl (lv_at hl 1 rfl) ?_
        refine va_get (D := D) (ci := 2) (v := .ref (r 0)) (C := RX2) (T := TX2) (N := 6) hx hb hts in2 hown hK hP 0 rfl rfl 1 (by decide) f14 (fun _ h9 => h9) rfl dX2_computeDistances_41 ?_
        refine lv_iload_n hx hb dX2_computeDistances_44 rfl (lv_at hl 2 rfl) ?_
        refine y_rV (v := ge x) (As := [.int (zI (x))]) (rest := [.int (zI (x + (reaC f x))), .ref p0]) hx hb hml hown hts hl.1 ⟨Nat.zero_le _, Nat.zero_le _⟩ (kX3_at l D cI cJ cS (r 0) (r 4) 121 ge x (by omega) (Nat.lt_of_succ_le (Nat.le_of_ble_eq_true rfl))) (cwV 1 hts gX2_computeDistances_X3_at rfl rfl rfl jX3_at ⟨Nat.le_of_ble_eq_true rfl, Nat.le_of_ble_eq_true rfl⟩) hK [false, true, true] hP (zD hD rfl) rfl 3 0 rfl rfl rfl rfl rfl (Nat.le_of_ble_eq_true rfl) dX2_computeDistances_45 ?_
        refine z_top (enE f x) (hE x h1.1 (by omega)) ?_
        refine y_rV (v := brk f (x + (reaC f x)) (enE f x)) (As := [.int (zI (x + (reaC f x))), .int (zI (enE f x))]) (rest := []) hx hb hml hown hts hl.1 ⟨Nat.zero_le _, Nat.zero_le _⟩ (kX2_brakingCells l D cI cJ cS p0 b r fr f ps n (x + (reaC f x)) (enE f x) ok (by omega) (by omega)) (cwV 2 hts gX2_computeDistances_X2_brakingCells rfl rfl rfl jX2_brakingCells ⟨Nat.le_of_ble_eq_true rfl, Nat.le_of_ble_eq_true rfl⟩) hK [true, false, false, false, false, false, false, true, true, true, true, true, true, true, true, true, true, true] hP (zD hD rfl) rfl 2 0 rfl rfl rfl rfl rfl (Nat.le_of_ble_eq_true rfl) dX2_computeDistances_48 ?_
        refine lv_istore_n (lv' := [(3, .int (zI (brk f (x + (reaC f x)) (enE f x)))), (2, .int (zI (reaC f x))), (0, .ref p0), (1, .int (zI (x)))]) hx hb dX2_computeDistances_51 rfl hl (by decide) rfl (fun ls hl => ?_)
        refine lv_aload_n hx hb dX2_computeDistances_52 rfl (lv_at hl 2 rfl) ?_
        refine va_get (D := D) (ci := 2) (v := .ref (r 2)) (C := RX2) (T := TX2) (N := 6) hx hb hts in2 hown hK hP 0 rfl rfl 3 (by decide) f23 (fun _ h9 => h9) rfl dX2_computeDistances_53 ?_
        refine lv_iload_n hx hb dX2_computeDistances_56 rfl (lv_at hl 3 rfl) ?_
        refine lv_iload_n hx hb dX2_computeDistances_57 rfl (lv_at hl 1 rfl) ?_
        refine lv_iload_n hx hb dX2_computeDistances_58 rfl (lv_at hl 0 rfl) ?_
        refine z_iadd hx hb dX2_computeDistances_59 ?_
        refine y_wVv (As := [.int (zI (x)), .int (zI ((reaC f x) + (brk f (x + (reaC f x)) (enE f x))))]) (rest := []) (fun (u60 : Unit) => [(p0, .inr (2, [.ref (b 0), .ref (r 0), .ref (r 1), .ref (r 2), .ref (r 3), .int (zI (fr))])), (r 0, .inr (3, [.ref (r 4)])), (r 4, .inl (cI, 121, .inl (zA ge))), (r 1, .inr (3, [.ref (r 5)])), (r 5, .inl (cI, 121, .inl (zA gv))), (r 2, .inr (3, [.ref (r 6)])), (r 6, .inl (cI, 121, .inl (zA (zup g x ((reaC f x) + (brk f (x + (reaC f x)) (enE f x))))))), (b 0, .inr (4, [.ref (b 1), .ref (b 2), .ref (b 3), .ref (b 4), .ref (b 5), .int (zI (n)), .int (zI (f 0)), .int (zI (f 1)), .int (zI (f 2)), .int (zI (f 3)), .int (zI (f 4)), .int (zI (f 5)), .int (zI (f 6)), .int (zI (f 7)), .int (zI (f 8))])), (b 1, .inr (3, [.ref (b 6)])), (b 2, .inr (3, [.ref (b 7)])), (b 3, .inr (3, [.ref (b 8)])), (b 4, .inr (3, [.ref (b 9)])), (b 5, .inr (3, [.ref (b 10)])), (b 6, .inl (cI, 120, .inl (zA (fun xx => f (9 + xx))))), (b 7, .inl (cI, 120, .inl (zA (fun xx => f (129 + xx))))), (b 8, .inl (cI, 121, .inl (zA (fun xx => f (249 + xx))))), (b 9, .inl (cI, 121, .inl (zA (fun xx => f (370 + xx))))), (b 10, .inl (cI, 121, .inl (zA ps)))]) hx hb hml hown hts hl.1 ⟨Nat.zero_le _, Nat.zero_le _⟩ (kX3_put l D cI cJ cS (r 2) (r 6) 121 g x ((reaC f x) + (brk f (x + (reaC f x)) (enE f x))) (by omega) (Nat.lt_of_succ_le (Nat.le_of_ble_eq_true rfl))) (cwV 2 hts gX2_computeDistances_X3_put rfl rfl rfl jX3_put ⟨Nat.le_of_ble_eq_true rfl, Nat.le_of_ble_eq_true rfl⟩) hK [false, false, false, false, false, true, true] hP (zD hD rfl) hS rfl (fun _ => rfl) (fun _ => rfl) 3 0 rfl rfl rfl rfl rfl (Nat.le_of_ble_eq_true rfl) dX2_computeDistances_60 (fun u60 H locs hu60 hP hS => ?_)
        refine z_iinc (lv' := [(1, .int (zI (x + 1))), (3, .int (zI (brk f (x + (reaC f x)) (enE f x)))), (2, .int (zI (reaC f x))), (0, .ref p0)]) hx hb 3 (x + 1) dX2_computeDistances_63 hl rfl (by omega) (by decide) rfl (fun ls hl => ?_)
        refine lv_goto (tgt := 2) hx hb dX2_computeDistances_66 (by decide) ?_
        exact ih2 (x + 1) (zup g x ((reaC f x) + (brk f (x + (reaC f x)) (enE f x)))) (by omega) (zx_up hg rfl) (by omega) _ _ hP hS ls (lv_sub hl [3, 0] rfl)
  exact L2 _ 0 gd (by omega) (fun y a b => by omega) (Nat.lt_succ_self _) _ _ hP hS ls (lv_sub hl [1, 0] rfl)

abbrev rmX2_computeTimes : Room := { frames := 1, cells := 0, slots := 0, locals := 22 }
theorem jX2_computeTimes : yX2_computeTimes.cls = RX2 ∧ yX2_computeTimes.cls ≠ "java/lang/invoke/MethodHandle" ∧ yX2_computeTimes.cls ≠ "java/lang/invoke/VarHandle" ∧ (parseMethodDescriptor yX2_computeTimes.desc).map (fun d => d.parameters.length) = some 0 := by decide +kernel
set_option maxHeartbeats 4000000 in
set_option maxRecDepth 100000 in
theorem kX2_computeTimes (l : Launch) (D : va_G) (cI cJ cS : ClassId) (p0 : Nat) (b r : Nat → Nat) (fr : Int) (f ps : Int → Int) (n : Int) (gv gt : Int → Int) (ok : OkF f) (hV : ∀ x : Int, 0 ≤ x → x ≤ f 0 → gv x = spV f x) : Met l yX2_computeTimes wsX2_computeTimes rmX2_computeTimes (zPc D (zT cI cJ cS) [.ref p0] [(p0, .inr (2, [.ref (b 0), .ref (r 0), .ref (r 1), .ref (r 2), .ref (r 3), .int (zI (fr))])), (r 1, .inr (3, [.ref (r 5)])), (r 5, .inl (cI, 121, .inl (zA gv))), (r 3, .inr (3, [.ref (r 7)])), (r 7, .inl (cI, 121, .inl (zA gt))), (b 0, .inr (4, [.ref (b 1), .ref (b 2), .ref (b 3), .ref (b 4), .ref (b 5), .int (zI (n)), .int (zI (f 0)), .int (zI (f 1)), .int (zI (f 2)), .int (zI (f 3)), .int (zI (f 4)), .int (zI (f 5)), .int (zI (f 6)), .int (zI (f 7)), .int (zI (f 8))])), (b 1, .inr (3, [.ref (b 6)])), (b 2, .inr (3, [.ref (b 7)])), (b 3, .inr (3, [.ref (b 8)])), (b 4, .inr (3, [.ref (b 9)])), (b 5, .inr (3, [.ref (b 10)])), (b 6, .inl (cI, 120, .inl (zA (fun xx => f (9 + xx))))), (b 7, .inl (cI, 120, .inl (zA (fun xx => f (129 + xx))))), (b 8, .inl (cI, 121, .inl (zA (fun xx => f (249 + xx))))), (b 9, .inl (cI, 121, .inl (zA (fun xx => f (370 + xx))))), (b 10, .inl (cI, 121, .inl (zA ps)))]) (va_Qv (fun u => ∀ x : Int, 0 ≤ x → x ≤ f 0 → u x = tiT f x) (fun (u : Int → Int) t => va_P D vwCl [(p0, .inr (2, [.ref (b 0), .ref (r 0), .ref (r 1), .ref (r 2), .ref (r 3), .int (zI (fr))])), (r 1, .inr (3, [.ref (r 5)])), (r 5, .inl (cI, 121, .inl (zA gv))), (r 3, .inr (3, [.ref (r 7)])), (r 7, .inl (cI, 121, .inl (zA u))), (b 0, .inr (4, [.ref (b 1), .ref (b 2), .ref (b 3), .ref (b 4), .ref (b 5), .int (zI (n)), .int (zI (f 0)), .int (zI (f 1)), .int (zI (f 2)), .int (zI (f 3)), .int (zI (f 4)), .int (zI (f 5)), .int (zI (f 6)), .int (zI (f 7)), .int (zI (f 8))])), (b 1, .inr (3, [.ref (b 6)])), (b 2, .inr (3, [.ref (b 7)])), (b 3, .inr (3, [.ref (b 8)])), (b 4, .inr (3, [.ref (b 9)])), (b 5, .inr (3, [.ref (b 10)])), (b 6, .inl (cI, 120, .inl (zA (fun xx => f (9 + xx))))), (b 7, .inl (cI, 120, .inl (zA (fun xx => f (129 + xx))))), (b 8, .inl (cI, 121, .inl (zA (fun xx => f (249 + xx))))), (b 9, .inl (cI, 121, .inl (zA (fun xx => f (370 + xx))))), (b 10, .inl (cI, 121, .inl (zA ps)))] t.heap) (zAd [(p0, .inr (2, [.ref (b 0), .ref (r 0), .ref (r 1), .ref (r 2), .ref (r 3), .int (zI (fr))])), (r 1, .inr (3, [.ref (r 5)])), (r 5, .inl (cI, 121, .inl (zA gv))), (r 3, .inr (3, [.ref (r 7)])), (r 7, .inl (cI, 121, .inl (zA gt))), (b 0, .inr (4, [.ref (b 1), .ref (b 2), .ref (b 3), .ref (b 4), .ref (b 5), .int (zI (n)), .int (zI (f 0)), .int (zI (f 1)), .int (zI (f 2)), .int (zI (f 3)), .int (zI (f 4)), .int (zI (f 5)), .int (zI (f 6)), .int (zI (f 7)), .int (zI (f 8))])), (b 1, .inr (3, [.ref (b 6)])), (b 2, .inr (3, [.ref (b 7)])), (b 3, .inr (3, [.ref (b 8)])), (b 4, .inr (3, [.ref (b 9)])), (b 5, .inr (3, [.ref (b 10)])), (b 6, .inl (cI, 120, .inl (zA (fun xx => f (9 + xx))))), (b 7, .inl (cI, 120, .inl (zA (fun xx => f (129 + xx))))), (b 8, .inl (cI, 121, .inl (zA (fun xx => f (249 + xx))))), (b 9, .inl (cI, 121, .inl (zA (fun xx => f (370 + xx))))), (b 10, .inl (cI, 121, .inl (zA ps)))])) 0 0 (zAd [(p0, .inr (2, [.ref (b 0), .ref (r 0), .ref (r 1), .ref (r 2), .ref (r 3), .int (zI (fr))])), (r 1, .inr (3, [.ref (r 5)])), (r 5, .inl (cI, 121, .inl (zA gv))), (r 3, .inr (3, [.ref (r 7)])), (r 7, .inl (cI, 121, .inl (zA gt))), (b 0, .inr (4, [.ref (b 1), .ref (b 2), .ref (b 3), .ref (b 4), .ref (b 5), .int (zI (n)), .int (zI (f 0)), .int (zI (f 1)), .int (zI (f 2)), .int (zI (f 3)), .int (zI (f 4)), .int (zI (f 5)), .int (zI (f 6)), .int (zI (f 7)), .int (zI (f 8))])), (b 1, .inr (3, [.ref (b 6)])), (b 2, .inr (3, [.ref (b 7)])), (b 3, .inr (3, [.ref (b 8)])), (b 4, .inr (3, [.ref (b 9)])), (b 5, .inr (3, [.ref (b 10)])), (b 6, .inl (cI, 120, .inl (zA (fun xx => f (9 + xx))))), (b 7, .inl (cI, 120, .inl (zA (fun xx => f (129 + xx))))), (b 8, .inl (cI, 121, .inl (zA (fun xx => f (249 + xx))))), (b 9, .inl (cI, 121, .inl (zA (fun xx => f (370 + xx))))), (b 10, .inl (cI, 121, .inl (zA ps)))]) := by
  refine zWv_of (cc := cX2_computeTimes) (maxL := 3) (ret := none) (by decide) rfl (Nat.le_of_ble_eq_true rfl) rfl ?_
  intro p e s m args below meth c Q A ls hx hb hml hts hown hK hP hD hS hl hret
  have in2 : ∀ w ∈ wsX20, w ∈ wsX2_computeTimes := by decide +kernel
  have in4 : ∀ w ∈ wsX40, w ∈ wsX2_computeTimes := by decide +kernel
  have f20 := hts (.fieldLink RX2 20 "SignalSpacing$Profile" "speeds" "LSignalSpacing$Row;") (by decide +kernel)
  have f26 := hts (.fieldLink RX2 26 "SignalSpacing$Profile" "times" "LSignalSpacing$Row;") (by decide +kernel)
  have f29 := hts (.fieldLink RX2 29 "SignalSpacing$Profile" "state" "LSignalSpacing$State;") (by decide +kernel)
  have f49 := hts (.fieldLink RX2 49 "SignalSpacing$State" "length" "I") (by decide +kernel)
  have c99 := hts (.constant RX2 99 (180000)) (by decide +kernel)
  have hl : lv_has ls 3 [(0, .ref p0)] := hl
  have hP : va_P D vwCl [(p0, .inr (2, [.ref (b 0), .ref (r 0), .ref (r 1), .ref (r 2), .ref (r 3), .int (zI (fr))])), (r 1, .inr (3, [.ref (r 5)])), (r 5, .inl (cI, 121, .inl (zA gv))), (r 3, .inr (3, [.ref (r 7)])), (r 7, .inl (cI, 121, .inl (zA gt))), (b 0, .inr (4, [.ref (b 1), .ref (b 2), .ref (b 3), .ref (b 4), .ref (b 5), .int (zI (n)), .int (zI (f 0)), .int (zI (f 1)), .int (zI (f 2)), .int (zI (f 3)), .int (zI (f 4)), .int (zI (f 5)), .int (zI (f 6)), .int (zI (f 7)), .int (zI (f 8))])), (b 1, .inr (3, [.ref (b 6)])), (b 2, .inr (3, [.ref (b 7)])), (b 3, .inr (3, [.ref (b 8)])), (b 4, .inr (3, [.ref (b 9)])), (b 5, .inr (3, [.ref (b 10)])), (b 6, .inl (cI, 120, .inl (zA (fun xx => f (9 + xx))))), (b 7, .inl (cI, 120, .inl (zA (fun xx => f (129 + xx))))), (b 8, .inl (cI, 121, .inl (zA (fun xx => f (249 + xx))))), (b 9, .inl (cI, 121, .inl (zA (fun xx => f (370 + xx))))), (b 10, .inl (cI, 121, .inl (zA ps)))] s.heap := hP
  obtain ⟨o0, o1, o2, o3, o4, o5, o7, o8, olim, ogrd, obar, oneed, opost⟩ := id ok
  refine z_iconst hx hb dX2_computeTimes_0 ?_
  refine lv_istore_n (lv' := [(1, .int (zI (0))), (0, .ref p0)]) hx hb dX2_computeTimes_1 rfl hl (by decide) rfl (fun ls hl => ?_)
  refine lv_aload_n hx hb dX2_computeTimes_2 rfl (lv_at hl 1 rfl) ?_
  refine va_get (D := D) (ci := 2) (v := .ref (r 3)) (C := RX2) (T := TX2) (N := 6) hx hb hts in2 hown hK hP 0 rfl rfl 4 (by decide) f26 (fun _ h9 => h9) rfl dX2_computeTimes_3 ?_
  refine z_iconst hx hb dX2_computeTimes_6 ?_
  refine lv_iload_n hx hb dX2_computeTimes_7 rfl (lv_at hl 0 rfl) ?_
  refine y_wVv (As := [.int (zI (0)), .int (zI (0))]) (rest := []) (fun (u8 : Unit) => [(p0, .inr (2, [.ref (b 0), .ref (r 0), .ref (r 1), .ref (r 2), .ref (r 3), .int (zI (fr))])), (r 1, .inr (3, [.ref (r 5)])), (r 5, .inl (cI, 121, .inl (zA gv))), (r 3, .inr (3, [.ref (r 7)])), (r 7, .inl (cI, 121, .inl (zA (zup gt 0 0)))), (b 0, .inr (4, [.ref (b 1), .ref (b 2), .ref (b 3), .ref (b 4), .ref (b 5), .int (zI (n)), .int (zI (f 0)), .int (zI (f 1)), .int (zI (f 2)), .int (zI (f 3)), .int (zI (f 4)), .int (zI (f 5)), .int (zI (f 6)), .int (zI (f 7)), .int (zI (f 8))])), (b 1, .inr (3, [.ref (b 6)])), (b 2, .inr (3, [.ref (b 7)])), (b 3, .inr (3, [.ref (b 8)])), (b 4, .inr (3, [.ref (b 9)])), (b 5, .inr (3, [.ref (b 10)])), (b 6, .inl (cI, 120, .inl (zA (fun xx => f (9 + xx))))), (b 7, .inl (cI, 120, .inl (zA (fun xx => f (129 + xx))))), (b 8, .inl (cI, 121, .inl (zA (fun xx => f (249 + xx))))), (b 9, .inl (cI, 121, .inl (zA (fun xx => f (370 + xx))))), (b 10, .inl (cI, 121, .inl (zA ps)))]) hx hb hml hown hts hl.1 ⟨Nat.zero_le _, Nat.zero_le _⟩ (kX3_put l D cI cJ cS (r 3) (r 7) 121 gt 0 0 (by omega) (Nat.lt_of_succ_le (Nat.le_of_ble_eq_true rfl))) (cwV 2 hts gX2_computeTimes_X3_put rfl rfl rfl jX3_put ⟨Nat.le_of_ble_eq_true rfl, Nat.le_of_ble_eq_true rfl⟩) hK [false, false, false, true, true] hP hD hS rfl (fun _ => rfl) (fun _ => rfl) 3 0 rfl rfl rfl rfl rfl (Nat.le_of_ble_eq_true rfl) dX2_computeTimes_8 (fun u8 H locs hu8 hP hS => ?_)
  refine z_iconst hx hb dX2_computeTimes_11 ?_
  refine lv_istore_n (lv' := [(2, .int (zI (0))), (1, .int (zI (0))), (0, .ref p0)]) hx hb dX2_computeTimes_12 rfl hl (by decide) rfl (fun ls hl => ?_)
  have L13 : ∀ (fuel : Nat), ∀ (t : Int) (x : Int) (g : Int → Int), ∀ (h1 : 0 ≤ x ∧ x ≤ f 0), ∀ (ht : t = tiT f x), ∀ (hg : ∀ y : Int, 0 ≤ y → y < x + 1 → g y = tiT f y), (f 0 - x).toNat < fuel → ∀ (H : Heap) (locs : List Loc), va_P D vwCl [(p0, .inr (2, [.ref (b 0), .ref (r 0), .ref (r 1), .ref (r 2), .ref (r 3), .int (zI (fr))])), (r 1, .inr (3, [.ref (r 5)])), (r 5, .inl (cI, 121, .inl (zA gv))), (r 3, .inr (3, [.ref (r 7)])), (r 7, .inl (cI, 121, .inl (zA g))), (b 0, .inr (4, [.ref (b 1), .ref (b 2), .ref (b 3), .ref (b 4), .ref (b 5), .int (zI (n)), .int (zI (f 0)), .int (zI (f 1)), .int (zI (f 2)), .int (zI (f 3)), .int (zI (f 4)), .int (zI (f 5)), .int (zI (f 6)), .int (zI (f 7)), .int (zI (f 8))])), (b 1, .inr (3, [.ref (b 6)])), (b 2, .inr (3, [.ref (b 7)])), (b 3, .inr (3, [.ref (b 8)])), (b 4, .inr (3, [.ref (b 9)])), (b 5, .inr (3, [.ref (b 10)])), (b 6, .inl (cI, 120, .inl (zA (fun xx => f (9 + xx))))), (b 7, .inl (cI, 120, .inl (zA (fun xx => f (129 + xx))))), (b 8, .inl (cI, 121, .inl (zA (fun xx => f (249 + xx))))), (b 9, .inl (cI, 121, .inl (zA (fun xx => f (370 + xx))))), (b 10, .inl (cI, 121, .inl (zA ps)))] H → va_S A s.heap H locs → ∀ (ls : Array Slot), lv_has ls 3 [(0, .ref p0), (1, .int (zI (t))), (2, .int (zI (x)))] → W p l e rmX2_computeTimes s m args below meth c H locs 0 0 Q (F0 m 13 ls []) := by
    intro fuel
    induction fuel with
    | zero =>
      intro t x g h1 ht hg hm
      exact absurd hm (Nat.not_lt_zero _)
    | succ fuel ih13 =>
      intro t x g h1 ht hg hm H locs hP hS ls hl
      refine lv_iload_n hx hb dX2_computeTimes_13 rfl (lv_at hl 2 rfl) ?_
      refine lv_aload_n hx hb dX2_computeTimes_14 rfl (lv_at hl 0 rfl) ?_
      refine va_get (D := D) (ci := 2) (v := .ref (b 0)) (C := RX2) (T := TX2) (N := 6) hx hb hts in2 hown hK hP 0 rfl rfl 0 (by decide) f29 (fun _ h9 => h9) rfl dX2_computeTimes_15 ?_
      refine va_get (D := D) (ci := 4) (v := .int (zI (f 0))) (C := RX4) (T := TX4) (N := 15) hx hb hts in4 hown hK hP 5 rfl rfl 6 (by decide) f49 (fun _ h9 => h9) rfl dX2_computeTimes_18 ?_
      refine z_icmp_ge (tgt := 57) hx hb dX2_computeTimes_21 (by decide) (by omega) (by omega) (fun c21 => ?_) (fun c21 => ?_)
      · exact hret g (fun y a b => hg y a (by omega)) hP hS dX2_computeTimes_57
      · refine lv_iload_n hx hb dX2_computeTimes_24 rfl (lv_at hl 1 rfl) ?_
        refine z_ldc hx hb (180000) hown c99 (by decide +kernel) dX2_computeTimes_25 ?_
        refine lv_aload_n hx hb dX2_computeTimes_27 rfl (lv_at hl 0 rfl) ?_
        refine va_get (D := D) (ci := 2) (v := .ref (r 1)) (C := RX2) (T := TX2) (N := 6) hx hb hts in2 hown hK hP 0 rfl rfl 2 (by decide) f20 (fun _ h9 => h9) rfl dX2_computeTimes_28 ?_
        refine lv_iload_n hx hb dX2_computeTimes_31 rfl (lv_at hl 2 rfl) ?_
        refine y_rV (v := gv x) (As := [.int (zI (x))]) (rest := [.int (zI (180000)), .int (zI (t))]) hx hb hml hown hts hl.1 ⟨Nat.zero_le _, Nat.zero_le _⟩ (kX3_at l D cI cJ cS (r 1) (r 5) 121 gv x (by omega) (Nat.lt_of_succ_le (Nat.le_of_ble_eq_true rfl))) (cwV 1 hts gX2_computeTimes_X3_at rfl rfl rfl jX3_at ⟨Nat.le_of_ble_eq_true rfl, Nat.le_of_ble_eq_true rfl⟩) hK [false, true, true] hP (zD hD rfl) rfl 3 0 rfl rfl rfl rfl rfl (Nat.le_of_ble_eq_true rfl) dX2_computeTimes_32 ?_
        refine z_top (spV f x) (hV x h1.1 (by omega)) ?_
        have hb1 := spV_b ok h1.1 (by omega : x ≤ f 0)
        refine z_rS (v := rup 180000 (spV f x)) (As := [.int (zI (180000)), .int (zI (spV f x))]) (rest := [.int (zI (t))]) hx hb hml hown hts hl.1 ⟨Nat.zero_le _, Nat.zero_le _⟩ (kX2_roundUp l D cI cJ cS 180000 (spV f x) (by omega)) (cwS 2 hts gX2_computeTimes_X2_roundUp rfl rfl rfl jX2_roundUp ⟨Nat.le_of_ble_eq_true rfl, Nat.le_of_ble_eq_true rfl⟩) hK rfl rfl (Nat.le_of_ble_eq_true rfl) dX2_computeTimes_35 ?_
        refine z_iadd hx hb dX2_computeTimes_38 ?_
        refine z_top (tiT f (x + 1)) (by rw [tiT_s h1.1, ht]) ?_
        refine lv_istore_n (lv' := [(1, .int (zI (tiT f (x + 1)))), (0, .ref p0), (2, .int (zI (x)))]) hx hb dX2_computeTimes_39 rfl hl (by decide) rfl (fun ls hl => ?_)
        refine lv_aload_n hx hb dX2_computeTimes_40 rfl (lv_at hl 1 rfl) ?_
        refine va_get (D := D) (ci := 2) (v := .ref (r 3)) (C := RX2) (T := TX2) (N := 6) hx hb hts in2 hown hK hP 0 rfl rfl 4 (by decide) f26 (fun _ h9 => h9) rfl dX2_computeTimes_41 ?_
        refine lv_iload_n hx hb dX2_computeTimes_44 rfl (lv_at hl 2 rfl) ?_
        refine z_iconst hx hb dX2_computeTimes_45 ?_
        refine z_iadd hx hb dX2_computeTimes_46 ?_
        refine lv_iload_n hx hb dX2_computeTimes_47 rfl (lv_at hl 0 rfl) ?_
        refine y_wVv (As := [.int (zI (x + 1)), .int (zI (tiT f (x + 1)))]) (rest := []) (fun (u48 : Unit) => [(p0, .inr (2, [.ref (b 0), .ref (r 0), .ref (r 1), .ref (r 2), .ref (r 3), .int (zI (fr))])), (r 1, .inr (3, [.ref (r 5)])), (r 5, .inl (cI, 121, .inl (zA gv))), (r 3, .inr (3, [.ref (r 7)])), (r 7, .inl (cI, 121, .inl (zA (zup g (x + 1) (tiT f (x + 1)))))), (b 0, .inr (4, [.ref (b 1), .ref (b 2), .ref (b 3), .ref (b 4), .ref (b 5), .int (zI (n)), .int (zI (f 0)), .int (zI (f 1)), .int (zI (f 2)), .int (zI (f 3)), .int (zI (f 4)), .int (zI (f 5)), .int (zI (f 6)), .int (zI (f 7)), .int (zI (f 8))])), (b 1, .inr (3, [.ref (b 6)])), (b 2, .inr (3, [.ref (b 7)])), (b 3, .inr (3, [.ref (b 8)])), (b 4, .inr (3, [.ref (b 9)])), (b 5, .inr (3, [.ref (b 10)])), (b 6, .inl (cI, 120, .inl (zA (fun xx => f (9 + xx))))), (b 7, .inl (cI, 120, .inl (zA (fun xx => f (129 + xx))))), (b 8, .inl (cI, 121, .inl (zA (fun xx => f (249 + xx))))), (b 9, .inl (cI, 121, .inl (zA (fun xx => f (370 + xx))))), (b 10, .inl (cI, 121, .inl (zA ps)))]) hx hb hml hown hts hl.1 ⟨Nat.zero_le _, Nat.zero_le _⟩ (kX3_put l D cI cJ cS (r 3) (r 7) 121 g (x + 1) (tiT f (x + 1)) (by omega) (Nat.lt_of_succ_le (Nat.le_of_ble_eq_true rfl))) (cwV 2 hts gX2_computeTimes_X3_put rfl rfl rfl jX3_put ⟨Nat.le_of_ble_eq_true rfl, Nat.le_of_ble_eq_true rfl⟩) hK [false, false, false, true, true] hP (zD hD rfl) hS rfl (fun _ => rfl) (fun _ => rfl) 3 0 rfl rfl rfl rfl rfl (Nat.le_of_ble_eq_true rfl) dX2_computeTimes_48 (fun u48 H locs hu48 hP hS => ?_)
        refine z_iinc (lv' := [(2, .int (zI (x + 1))), (1, .int (zI (tiT f (x + 1)))), (0, .ref p0)]) hx hb 2 (x + 1) dX2_computeTimes_51 hl rfl (by omega) (by decide) rfl (fun ls hl => ?_)
        refine lv_goto (tgt := 13) hx hb dX2_computeTimes_54 (by decide) ?_
        exact ih13 (tiT f (x + 1)) (x + 1) (zup g (x + 1) (tiT f (x + 1))) (by omega) rfl (zx_up hg rfl) (by omega) _ _ hP hS ls (lv_sub hl [2, 1, 0] rfl)
  exact L13 _ 0 0 (zup gt 0 0) (by omega) rfl (fun y a b => by rw [show y = 0 by omega]; exact zup_at _ _ _) (Nat.lt_succ_self _) _ _ hP hS ls (lv_sub hl [2, 1, 0] rfl)

abbrev rmX2_refresh : Room := { frames := 4, cells := 0, slots := 0, locals := 90 }
theorem jX2_refresh : yX2_refresh.cls = RX2 ∧ yX2_refresh.cls ≠ "java/lang/invoke/MethodHandle" ∧ yX2_refresh.cls ≠ "java/lang/invoke/VarHandle" ∧ (parseMethodDescriptor yX2_refresh.desc).map (fun d => d.parameters.length) = some 0 := by decide +kernel
set_option maxHeartbeats 4000000 in
set_option maxRecDepth 100000 in
theorem kX2_refresh (l : Launch) (D : va_G) (cI cJ cS : ClassId) (p0 : Nat) (b r : Nat → Nat) (fr : Int) (f ps : Int → Int) (n : Int) (ge gv gd gt : Int → Int) (ok : OkF f) (hfr : fr = 0 ∨ fr = 1) (hp : fr = 1 → PrOk f ge gv gd gt) : Met l yX2_refresh wsX2_refresh rmX2_refresh (zPc D (zT cI cJ cS) [.ref p0] [(p0, .inr (2, [.ref (b 0), .ref (r 0), .ref (r 1), .ref (r 2), .ref (r 3), .int (zI (fr))])), (r 0, .inr (3, [.ref (r 4)])), (r 4, .inl (cI, 121, .inl (zA ge))), (r 1, .inr (3, [.ref (r 5)])), (r 5, .inl (cI, 121, .inl (zA gv))), (r 2, .inr (3, [.ref (r 6)])), (r 6, .inl (cI, 121, .inl (zA gd))), (r 3, .inr (3, [.ref (r 7)])), (r 7, .inl (cI, 121, .inl (zA gt))), (b 0, .inr (4, [.ref (b 1), .ref (b 2), .ref (b 3), .ref (b 4), .ref (b 5), .int (zI (n)), .int (zI (f 0)), .int (zI (f 1)), .int (zI (f 2)), .int (zI (f 3)), .int (zI (f 4)), .int (zI (f 5)), .int (zI (f 6)), .int (zI (f 7)), .int (zI (f 8))])), (b 1, .inr (3, [.ref (b 6)])), (b 2, .inr (3, [.ref (b 7)])), (b 3, .inr (3, [.ref (b 8)])), (b 4, .inr (3, [.ref (b 9)])), (b 5, .inr (3, [.ref (b 10)])), (b 6, .inl (cI, 120, .inl (zA (fun xx => f (9 + xx))))), (b 7, .inl (cI, 120, .inl (zA (fun xx => f (129 + xx))))), (b 8, .inl (cI, 121, .inl (zA (fun xx => f (249 + xx))))), (b 9, .inl (cI, 121, .inl (zA (fun xx => f (370 + xx))))), (b 10, .inl (cI, 121, .inl (zA ps)))]) (va_Qv (fun u => PrOk f (u 0) (u 1) (u 2) (u 3)) (fun (u : Nat → Int → Int) t => va_P D vwCl [(p0, .inr (2, [.ref (b 0), .ref (r 0), .ref (r 1), .ref (r 2), .ref (r 3), .int (zI (1))])), (r 0, .inr (3, [.ref (r 4)])), (r 4, .inl (cI, 121, .inl (zA (u 0)))), (r 1, .inr (3, [.ref (r 5)])), (r 5, .inl (cI, 121, .inl (zA (u 1)))), (r 2, .inr (3, [.ref (r 6)])), (r 6, .inl (cI, 121, .inl (zA (u 2)))), (r 3, .inr (3, [.ref (r 7)])), (r 7, .inl (cI, 121, .inl (zA (u 3)))), (b 0, .inr (4, [.ref (b 1), .ref (b 2), .ref (b 3), .ref (b 4), .ref (b 5), .int (zI (n)), .int (zI (f 0)), .int (zI (f 1)), .int (zI (f 2)), .int (zI (f 3)), .int (zI (f 4)), .int (zI (f 5)), .int (zI (f 6)), .int (zI (f 7)), .int (zI (f 8))])), (b 1, .inr (3, [.ref (b 6)])), (b 2, .inr (3, [.ref (b 7)])), (b 3, .inr (3, [.ref (b 8)])), (b 4, .inr (3, [.ref (b 9)])), (b 5, .inr (3, [.ref (b 10)])), (b 6, .inl (cI, 120, .inl (zA (fun xx => f (9 + xx))))), (b 7, .inl (cI, 120, .inl (zA (fun xx => f (129 + xx))))), (b 8, .inl (cI, 121, .inl (zA (fun xx => f (249 + xx))))), (b 9, .inl (cI, 121, .inl (zA (fun xx => f (370 + xx))))), (b 10, .inl (cI, 121, .inl (zA ps)))] t.heap) (zAd [(p0, .inr (2, [.ref (b 0), .ref (r 0), .ref (r 1), .ref (r 2), .ref (r 3), .int (zI (fr))])), (r 0, .inr (3, [.ref (r 4)])), (r 4, .inl (cI, 121, .inl (zA ge))), (r 1, .inr (3, [.ref (r 5)])), (r 5, .inl (cI, 121, .inl (zA gv))), (r 2, .inr (3, [.ref (r 6)])), (r 6, .inl (cI, 121, .inl (zA gd))), (r 3, .inr (3, [.ref (r 7)])), (r 7, .inl (cI, 121, .inl (zA gt))), (b 0, .inr (4, [.ref (b 1), .ref (b 2), .ref (b 3), .ref (b 4), .ref (b 5), .int (zI (n)), .int (zI (f 0)), .int (zI (f 1)), .int (zI (f 2)), .int (zI (f 3)), .int (zI (f 4)), .int (zI (f 5)), .int (zI (f 6)), .int (zI (f 7)), .int (zI (f 8))])), (b 1, .inr (3, [.ref (b 6)])), (b 2, .inr (3, [.ref (b 7)])), (b 3, .inr (3, [.ref (b 8)])), (b 4, .inr (3, [.ref (b 9)])), (b 5, .inr (3, [.ref (b 10)])), (b 6, .inl (cI, 120, .inl (zA (fun xx => f (9 + xx))))), (b 7, .inl (cI, 120, .inl (zA (fun xx => f (129 + xx))))), (b 8, .inl (cI, 121, .inl (zA (fun xx => f (249 + xx))))), (b 9, .inl (cI, 121, .inl (zA (fun xx => f (370 + xx))))), (b 10, .inl (cI, 121, .inl (zA ps)))])) 0 0 (zAd [(p0, .inr (2, [.ref (b 0), .ref (r 0), .ref (r 1), .ref (r 2), .ref (r 3), .int (zI (fr))])), (r 0, .inr (3, [.ref (r 4)])), (r 4, .inl (cI, 121, .inl (zA ge))), (r 1, .inr (3, [.ref (r 5)])), (r 5, .inl (cI, 121, .inl (zA gv))), (r 2, .inr (3, [.ref (r 6)])), (r 6, .inl (cI, 121, .inl (zA gd))), (r 3, .inr (3, [.ref (r 7)])), (r 7, .inl (cI, 121, .inl (zA gt))), (b 0, .inr (4, [.ref (b 1), .ref (b 2), .ref (b 3), .ref (b 4), .ref (b 5), .int (zI (n)), .int (zI (f 0)), .int (zI (f 1)), .int (zI (f 2)), .int (zI (f 3)), .int (zI (f 4)), .int (zI (f 5)), .int (zI (f 6)), .int (zI (f 7)), .int (zI (f 8))])), (b 1, .inr (3, [.ref (b 6)])), (b 2, .inr (3, [.ref (b 7)])), (b 3, .inr (3, [.ref (b 8)])), (b 4, .inr (3, [.ref (b 9)])), (b 5, .inr (3, [.ref (b 10)])), (b 6, .inl (cI, 120, .inl (zA (fun xx => f (9 + xx))))), (b 7, .inl (cI, 120, .inl (zA (fun xx => f (129 + xx))))), (b 8, .inl (cI, 121, .inl (zA (fun xx => f (249 + xx))))), (b 9, .inl (cI, 121, .inl (zA (fun xx => f (370 + xx))))), (b 10, .inl (cI, 121, .inl (zA ps)))]) := by
  refine zWv_of (cc := cX2_refresh) (maxL := 1) (ret := none) (by decide) rfl (Nat.le_of_ble_eq_true rfl) rfl ?_
  intro p e s m args below meth c Q A ls hx hb hml hts hown hK hP hD hS hl hret
  have in2 : ∀ w ∈ wsX20, w ∈ wsX2_refresh := by decide +kernel
  have f33 := hts (.fieldLink RX2 33 "SignalSpacing$Profile" "isFresh" "Z") (by decide +kernel)
  have hl : lv_has ls 1 [(0, .ref p0)] := hl
  have hP : va_P D vwCl [(p0, .inr (2, [.ref (b 0), .ref (r 0), .ref (r 1), .ref (r 2), .ref (r 3), .int (zI (fr))])), (r 0, .inr (3, [.ref (r 4)])), (r 4, .inl (cI, 121, .inl (zA ge))), (r 1, .inr (3, [.ref (r 5)])), (r 5, .inl (cI, 121, .inl (zA gv))), (r 2, .inr (3, [.ref (r 6)])), (r 6, .inl (cI, 121, .inl (zA gd))), (r 3, .inr (3, [.ref (r 7)])), (r 7, .inl (cI, 121, .inl (zA gt))), (b 0, .inr (4, [.ref (b 1), .ref (b 2), .ref (b 3), .ref (b 4), .ref (b 5), .int (zI (n)), .int (zI (f 0)), .int (zI (f 1)), .int (zI (f 2)), .int (zI (f 3)), .int (zI (f 4)), .int (zI (f 5)), .int (zI (f 6)), .int (zI (f 7)), .int (zI (f 8))])), (b 1, .inr (3, [.ref (b 6)])), (b 2, .inr (3, [.ref (b 7)])), (b 3, .inr (3, [.ref (b 8)])), (b 4, .inr (3, [.ref (b 9)])), (b 5, .inr (3, [.ref (b 10)])), (b 6, .inl (cI, 120, .inl (zA (fun xx => f (9 + xx))))), (b 7, .inl (cI, 120, .inl (zA (fun xx => f (129 + xx))))), (b 8, .inl (cI, 121, .inl (zA (fun xx => f (249 + xx))))), (b 9, .inl (cI, 121, .inl (zA (fun xx => f (370 + xx))))), (b 10, .inl (cI, 121, .inl (zA ps)))] s.heap := hP
  obtain ⟨o0, o1, o2, o3, o4, o5, o7, o8, olim, ogrd, obar, oneed, opost⟩ := id ok
  refine lv_aload_n hx hb dX2_refresh_0 rfl (lv_at hl 0 rfl) ?_
  refine va_get (D := D) (ci := 2) (v := .int (zI (fr))) (C := RX2) (T := TX2) (N := 6) hx hb hts in2 hown hK hP 0 rfl rfl 5 (by decide) f33 (fun _ h9 => h9) rfl dX2_refresh_1 ?_
  refine z_if_eq (tgt := 8) hx hb dX2_refresh_4 (by decide) (by omega) (fun c4 => ?_) (fun c4 => ?_)
  · refine lv_aload_n hx hb dX2_refresh_8 rfl (lv_at hl 0 rfl) ?_
    refine y_wVv (As := []) (rest := []) (fun (u9 : Int → Int) => [(p0, .inr (2, [.ref (b 0), .ref (r 0), .ref (r 1), .ref (r 2), .ref (r 3), .int (zI (fr))])), (r 0, .inr (3, [.ref (r 4)])), (r 4, .inl (cI, 121, .inl (zA u9))), (r 1, .inr (3, [.ref (r 5)])), (r 5, .inl (cI, 121, .inl (zA gv))), (r 2, .inr (3, [.ref (r 6)])), (r 6, .inl (cI, 121, .inl (zA gd))), (r 3, .inr (3, [.ref (r 7)])), (r 7, .inl (cI, 121, .inl (zA gt))), (b 0, .inr (4, [.ref (b 1), .ref (b 2), .ref (b 3), .ref (b 4), .ref (b 5), .int (zI (n)), .int (zI (f 0)), .int (zI (f 1)), .int (zI (f 2)), .int (zI (f 3)), .int (zI (f 4)), .int (zI (f 5)), .int (zI (f 6)), .int (zI (f 7)), .int (zI (f 8))])), (b 1, .inr (3, [.ref (b 6)])), (b 2, .inr (3, [.ref (b 7)])), (b 3, .inr (3, [.ref (b 8)])), (b 4, .inr (3, [.ref (b 9)])), (b 5, .inr (3, [.ref (b 10)])), (b 6, .inl (cI, 120, .inl (zA (fun xx => f (9 + xx))))), (b 7, .inl (cI, 120, .inl (zA (fun xx => f (129 + xx))))), (b 8, .inl (cI, 121, .inl (zA (fun xx => f (249 + xx))))), (b 9, .inl (cI, 121, .inl (zA (fun xx => f (370 + xx))))), (b 10, .inl (cI, 121, .inl (zA ps)))]) hx hb hml hown hts hl.1 ⟨Nat.zero_le _, Nat.zero_le _⟩ (kX2_computeEnergies l D cI cJ cS p0 b r fr f ps n ge ok) (cwV 0 hts gX2_refresh_X2_computeEnergies rfl rfl rfl jX2_computeEnergies ⟨Nat.le_of_ble_eq_true rfl, Nat.le_of_ble_eq_true rfl⟩) hK [true, true, true, false, false, false, false, false, false, true, true, true, true, true, true, true, true, true, true, true] hP hD hS rfl (fun _ => rfl) (fun _ => rfl) 2 0 rfl rfl rfl rfl rfl (Nat.le_of_ble_eq_true rfl) dX2_refresh_9 (fun u9 H locs hu9 hP hS => ?_)
    refine lv_aload_n hx hb dX2_refresh_12 rfl (lv_at hl 0 rfl) ?_
    refine y_wVv (As := []) (rest := []) (fun (u13 : Int → Int) => [(p0, .inr (2, [.ref (b 0), .ref (r 0), .ref (r 1), .ref (r 2), .ref (r 3), .int (zI (fr))])), (r 0, .inr (3, [.ref (r 4)])), (r 4, .inl (cI, 121, .inl (zA u9))), (r 1, .inr (3, [.ref (r 5)])), (r 5, .inl (cI, 121, .inl (zA u13))), (r 2, .inr (3, [.ref (r 6)])), (r 6, .inl (cI, 121, .inl (zA gd))), (r 3, .inr (3, [.ref (r 7)])), (r 7, .inl (cI, 121, .inl (zA gt))), (b 0, .inr (4, [.ref (b 1), .ref (b 2), .ref (b 3), .ref (b 4), .ref (b 5), .int (zI (n)), .int (zI (f 0)), .int (zI (f 1)), .int (zI (f 2)), .int (zI (f 3)), .int (zI (f 4)), .int (zI (f 5)), .int (zI (f 6)), .int (zI (f 7)), .int (zI (f 8))])), (b 1, .inr (3, [.ref (b 6)])), (b 2, .inr (3, [.ref (b 7)])), (b 3, .inr (3, [.ref (b 8)])), (b 4, .inr (3, [.ref (b 9)])), (b 5, .inr (3, [.ref (b 10)])), (b 6, .inl (cI, 120, .inl (zA (fun xx => f (9 + xx))))), (b 7, .inl (cI, 120, .inl (zA (fun xx => f (129 + xx))))), (b 8, .inl (cI, 121, .inl (zA (fun xx => f (249 + xx))))), (b 9, .inl (cI, 121, .inl (zA (fun xx => f (370 + xx))))), (b 10, .inl (cI, 121, .inl (zA ps)))]) hx hb hml hown hts hl.1 ⟨Nat.zero_le _, Nat.zero_le _⟩ (kX2_computeSpeeds l D cI cJ cS p0 b r fr f ps n u9 gv ok hu9) (cwV 0 hts gX2_refresh_X2_computeSpeeds rfl rfl rfl jX2_computeSpeeds ⟨Nat.le_of_ble_eq_true rfl, Nat.le_of_ble_eq_true rfl⟩) hK [true, true, true, true, true, false, false, false, false, true, true, true, true, true, true, true, true, true, true, true] hP (zD hD rfl) hS rfl (fun _ => rfl) (fun _ => rfl) 2 0 rfl rfl rfl rfl rfl (Nat.le_of_ble_eq_true rfl) dX2_refresh_13 (fun u13 H locs hu13 hP hS => ?_)
    refine lv_aload_n hx hb dX2_refresh_16 rfl (lv_at hl 0 rfl) ?_
    refine y_wVv (As := []) (rest := []) (fun (u17 : Int → Int) => [(p0, .inr (2, [.ref (b 0), .ref (r 0), .ref (r 1), .ref (r 2), .ref (r 3), .int (zI (fr))])), (r 0, .inr (3, [.ref (r 4)])), (r 4, .inl (cI, 121, .inl (zA u9))), (r 1, .inr (3, [.ref (r 5)])), (r 5, .inl (cI, 121, .inl (zA u13))), (r 2, .inr (3, [.ref (r 6)])), (r 6, .inl (cI, 121, .inl (zA u17))), (r 3, .inr (3, [.ref (r 7)])), (r 7, .inl (cI, 121, .inl (zA gt))), (b 0, .inr (4, [.ref (b 1), .ref (b 2), .ref (b 3), .ref (b 4), .ref (b 5), .int (zI (n)), .int (zI (f 0)), .int (zI (f 1)), .int (zI (f 2)), .int (zI (f 3)), .int (zI (f 4)), .int (zI (f 5)), .int (zI (f 6)), .int (zI (f 7)), .int (zI (f 8))])), (b 1, .inr (3, [.ref (b 6)])), (b 2, .inr (3, [.ref (b 7)])), (b 3, .inr (3, [.ref (b 8)])), (b 4, .inr (3, [.ref (b 9)])), (b 5, .inr (3, [.ref (b 10)])), (b 6, .inl (cI, 120, .inl (zA (fun xx => f (9 + xx))))), (b 7, .inl (cI, 120, .inl (zA (fun xx => f (129 + xx))))), (b 8, .inl (cI, 121, .inl (zA (fun xx => f (249 + xx))))), (b 9, .inl (cI, 121, .inl (zA (fun xx => f (370 + xx))))), (b 10, .inl (cI, 121, .inl (zA ps)))]) hx hb hml hown hts hl.1 ⟨Nat.zero_le _, Nat.zero_le _⟩ (kX2_computeDistances l D cI cJ cS p0 b r fr f ps n u9 u13 gd ok hu9 hu13) (cwV 0 hts gX2_refresh_X2_computeDistances rfl rfl rfl jX2_computeDistances ⟨Nat.le_of_ble_eq_true rfl, Nat.le_of_ble_eq_true rfl⟩) hK [true, true, true, true, true, true, true, false, false, true, true, true, true, true, true, true, true, true, true, true] hP (zD hD rfl) hS rfl (fun _ => rfl) (fun _ => rfl) 2 0 rfl rfl rfl rfl rfl (Nat.le_of_ble_eq_true rfl) dX2_refresh_17 (fun u17 H locs hu17 hP hS => ?_)
    refine lv_aload_n hx hb dX2_refresh_20 rfl (lv_at hl 0 rfl) ?_
    refine y_wVv (As := []) (rest := []) (fun (u21 : Int → Int) => [(p0, .inr (2, [.ref (b 0), .ref (r 0), .ref (r 1), .ref (r 2), .ref (r 3), .int (zI (fr))])), (r 0, .inr (3, [.ref (r 4)])), (r 4, .inl (cI, 121, .inl (zA u9))), (r 1, .inr (3, [.ref (r 5)])), (r 5, .inl (cI, 121, .inl (zA u13))), (r 2, .inr (3, [.ref (r 6)])), (r 6, .inl (cI, 121, .inl (zA u17))), (r 3, .inr (3, [.ref (r 7)])), (r 7, .inl (cI, 121, .inl (zA u21))), (b 0, .inr (4, [.ref (b 1), .ref (b 2), .ref (b 3), .ref (b 4), .ref (b 5), .int (zI (n)), .int (zI (f 0)), .int (zI (f 1)), .int (zI (f 2)), .int (zI (f 3)), .int (zI (f 4)), .int (zI (f 5)), .int (zI (f 6)), .int (zI (f 7)), .int (zI (f 8))])), (b 1, .inr (3, [.ref (b 6)])), (b 2, .inr (3, [.ref (b 7)])), (b 3, .inr (3, [.ref (b 8)])), (b 4, .inr (3, [.ref (b 9)])), (b 5, .inr (3, [.ref (b 10)])), (b 6, .inl (cI, 120, .inl (zA (fun xx => f (9 + xx))))), (b 7, .inl (cI, 120, .inl (zA (fun xx => f (129 + xx))))), (b 8, .inl (cI, 121, .inl (zA (fun xx => f (249 + xx))))), (b 9, .inl (cI, 121, .inl (zA (fun xx => f (370 + xx))))), (b 10, .inl (cI, 121, .inl (zA ps)))]) hx hb hml hown hts hl.1 ⟨Nat.zero_le _, Nat.zero_le _⟩ (kX2_computeTimes l D cI cJ cS p0 b r fr f ps n u13 gt ok hu13) (cwV 0 hts gX2_refresh_X2_computeTimes rfl rfl rfl jX2_computeTimes ⟨Nat.le_of_ble_eq_true rfl, Nat.le_of_ble_eq_true rfl⟩) hK [true, false, false, true, true, false, false, true, true, true, true, true, true, true, true, true, true, true, true, true] hP (zD hD rfl) hS rfl (fun _ => rfl) (fun _ => rfl) 2 0 rfl rfl rfl rfl rfl (Nat.le_of_ble_eq_true rfl) dX2_refresh_21 (fun u21 H locs hu21 hP hS => ?_)
    refine lv_aload_n hx hb dX2_refresh_24 rfl (lv_at hl 0 rfl) ?_
    refine z_iconst hx hb dX2_refresh_25 ?_
    refine z_put (ci := 2) (v := .int (zI (1))) (ty := .boolean) (C := RX2) (F := TX2) (N := 6) hx hb hts in2 tyX2 tyX2_ok nmX2 hown hK hP (zD hD rfl) hS 0 [(p0, .inr (2, [.ref (b 0), .ref (r 0), .ref (r 1), .ref (r 2), .ref (r 3), .int (zI (1))])), (r 0, .inr (3, [.ref (r 4)])), (r 4, .inl (cI, 121, .inl (zA u9))), (r 1, .inr (3, [.ref (r 5)])), (r 5, .inl (cI, 121, .inl (zA u13))), (r 2, .inr (3, [.ref (r 6)])), (r 6, .inl (cI, 121, .inl (zA u17))), (r 3, .inr (3, [.ref (r 7)])), (r 7, .inl (cI, 121, .inl (zA u21))), (b 0, .inr (4, [.ref (b 1), .ref (b 2), .ref (b 3), .ref (b 4), .ref (b 5), .int (zI (n)), .int (zI (f 0)), .int (zI (f 1)), .int (zI (f 2)), .int (zI (f 3)), .int (zI (f 4)), .int (zI (f 5)), .int (zI (f 6)), .int (zI (f 7)), .int (zI (f 8))])), (b 1, .inr (3, [.ref (b 6)])), (b 2, .inr (3, [.ref (b 7)])), (b 3, .inr (3, [.ref (b 8)])), (b 4, .inr (3, [.ref (b 9)])), (b 5, .inr (3, [.ref (b 10)])), (b 6, .inl (cI, 120, .inl (zA (fun xx => f (9 + xx))))), (b 7, .inl (cI, 120, .inl (zA (fun xx => f (129 + xx))))), (b 8, .inl (cI, 121, .inl (zA (fun xx => f (249 + xx))))), (b 9, .inl (cI, 121, .inl (zA (fun xx => f (370 + xx))))), (b 10, .inl (cI, 121, .inl (zA ps)))] rfl rfl 5 (by decide) f33 (fun _ h9 => h9) rfl (by decide +kernel) rfl rfl (Nat.le_of_ble_eq_true rfl) dX2_refresh_26 rfl (fun H locs hP hS => ?_)
    exact hret (fun j => if j = 0 then u9 else if j = 1 then u13 else if j = 2 then u17 else u21) (fun x a b => ⟨hu9 x a b, hu13 x a b, hu17 x a b, hu21 x a b⟩) hP hS dX2_refresh_29
  · have hfr1 : fr = 1 := by omega
    subst hfr1
    exact hret (fun j => if j = 0 then ge else if j = 1 then gv else if j = 2 then gd else gt) (hp rfl) hP hS dX2_refresh_7

abbrev rmX2_outdate : Room := { frames := 0, cells := 0, slots := 0, locals := 0 }
theorem jX2_outdate : yX2_outdate.cls = RX2 ∧ yX2_outdate.cls ≠ "java/lang/invoke/MethodHandle" ∧ yX2_outdate.cls ≠ "java/lang/invoke/VarHandle" ∧ (parseMethodDescriptor yX2_outdate.desc).map (fun d => d.parameters.length) = some 0 := by decide +kernel
set_option maxHeartbeats 4000000 in
set_option maxRecDepth 100000 in
theorem kX2_outdate (l : Launch) (D : va_G) (cI cJ cS : ClassId) (p0 : Nat) (b r : Nat → Nat) (fr : Int)  : Met l yX2_outdate wsX2_outdate rmX2_outdate (zPc D (zT cI cJ cS) [.ref p0] [(p0, .inr (2, [.ref (b 0), .ref (r 0), .ref (r 1), .ref (r 2), .ref (r 3), .int (zI (fr))]))]) (va_Qv (fun _ => True) (fun (u : Unit) t => va_P D vwCl [(p0, .inr (2, [.ref (b 0), .ref (r 0), .ref (r 1), .ref (r 2), .ref (r 3), .int (zI (0))]))] t.heap) (zAd [(p0, .inr (2, [.ref (b 0), .ref (r 0), .ref (r 1), .ref (r 2), .ref (r 3), .int (zI (fr))]))])) 0 0 (zAd [(p0, .inr (2, [.ref (b 0), .ref (r 0), .ref (r 1), .ref (r 2), .ref (r 3), .int (zI (fr))]))]) := by
  refine zWv_of (cc := cX2_outdate) (maxL := 1) (ret := none) (by decide) rfl (Nat.le_of_ble_eq_true rfl) rfl ?_
  intro p e s m args below meth c Q A ls hx hb hml hts hown hK hP hD hS hl hret
  have in2 : ∀ w ∈ wsX20, w ∈ wsX2_outdate := by decide +kernel
  have f33 := hts (.fieldLink RX2 33 "SignalSpacing$Profile" "isFresh" "Z") (by decide +kernel)
  have hl : lv_has ls 1 [(0, .ref p0)] := hl
  have hP : va_P D vwCl [(p0, .inr (2, [.ref (b 0), .ref (r 0), .ref (r 1), .ref (r 2), .ref (r 3), .int (zI (fr))]))] s.heap := hP
  refine lv_aload_n hx hb dX2_outdate_0 rfl (lv_at hl 0 rfl) ?_
  refine z_iconst hx hb dX2_outdate_1 ?_
  refine z_put (ci := 2) (v := .int (zI (0))) (ty := .boolean) (C := RX2) (F := TX2) (N := 6) hx hb hts in2 tyX2 tyX2_ok nmX2 hown hK hP hD hS 0 [(p0, .inr (2, [.ref (b 0), .ref (r 0), .ref (r 1), .ref (r 2), .ref (r 3), .int (zI (0))]))] rfl rfl 5 (by decide) f33 (fun _ h9 => h9) rfl (by decide +kernel) rfl rfl (Nat.le_of_ble_eq_true rfl) dX2_outdate_2 rfl (fun H locs hP hS => ?_)
  exact hret () trivial hP hS dX2_outdate_5

abbrev rmX2_timeBetween : Room := { frames := 1, cells := 0, slots := 0, locals := 21 }
theorem jX2_timeBetween : yX2_timeBetween.cls = RX2 ∧ yX2_timeBetween.cls ≠ "java/lang/invoke/MethodHandle" ∧ yX2_timeBetween.cls ≠ "java/lang/invoke/VarHandle" ∧ (parseMethodDescriptor yX2_timeBetween.desc).map (fun d => d.parameters.length) = some 2 := by decide +kernel
set_option maxHeartbeats 4000000 in
set_option maxRecDepth 100000 in
theorem kX2_timeBetween (l : Launch) (D : va_G) (cI cJ cS : ClassId) (p0 : Nat) (b r : Nat → Nat) (fr : Int) (gt : Int → Int) (a z : Int) (h1 : 0 ≤ a ∧ a < 121 ∧ 0 ≤ z ∧ z < 121) : Met l yX2_timeBetween wsX2_timeBetween rmX2_timeBetween (zPc D (zT cI cJ cS) [.ref p0, .int (zI (a)), .int (zI (z))] [(p0, .inr (2, [.ref (b 0), .ref (r 0), .ref (r 1), .ref (r 2), .ref (r 3), .int (zI (fr))])), (r 3, .inr (3, [.ref (r 7)])), (r 7, .inl (cI, 121, .inl (zA gt)))]) (vp_Si (fun r => r = zI (gt z - gt a))) 0 0 (fun _ => False) := by
  refine zRi_of (cc := cX2_timeBetween) (maxL := 3) (ret := (some .int)) (gt z - gt a) (by decide) rfl (Nat.le_of_ble_eq_true rfl) rfl ?_
  intro p e s m args below meth c Q ls hx hb hml hts hown hK hP hD hl hret
  have in2 : ∀ w ∈ wsX20, w ∈ wsX2_timeBetween := by decide +kernel
  have f26 := hts (.fieldLink RX2 26 "SignalSpacing$Profile" "times" "LSignalSpacing$Row;") (by decide +kernel)
  have hl : lv_has ls 3 [(0, .ref p0), (1, .int (zI (a))), (2, .int (zI (z)))] := hl
  have hP : va_P D vwCl [(p0, .inr (2, [.ref (b 0), .ref (r 0), .ref (r 1), .ref (r 2), .ref (r 3), .int (zI (fr))])), (r 3, .inr (3, [.ref (r 7)])), (r 7, .inl (cI, 121, .inl (zA gt)))] s.heap := hP
  refine lv_aload_n hx hb dX2_timeBetween_0 rfl (lv_at hl 0 rfl) ?_
  refine va_get (D := D) (ci := 2) (v := .ref (r 3)) (C := RX2) (T := TX2) (N := 6) hx hb hts in2 hown hK hP 0 rfl rfl 4 (by decide) f26 (fun _ h9 => h9) rfl dX2_timeBetween_1 ?_
  refine lv_iload_n hx hb dX2_timeBetween_4 rfl (lv_at hl 2 rfl) ?_
  refine y_rV (v := gt z) (As := [.int (zI (z))]) (rest := []) hx hb hml hown hts hl.1 ⟨Nat.zero_le _, Nat.zero_le _⟩ (kX3_at l D cI cJ cS (r 3) (r 7) 121 gt z (by omega) (Nat.lt_of_succ_le (Nat.le_of_ble_eq_true rfl))) (cwV 1 hts gX2_timeBetween_X3_at rfl rfl rfl jX3_at ⟨Nat.le_of_ble_eq_true rfl, Nat.le_of_ble_eq_true rfl⟩) hK [false, true, true] hP hD rfl 3 0 rfl rfl rfl rfl rfl (Nat.le_of_ble_eq_true rfl) dX2_timeBetween_5 ?_
  refine lv_aload_n hx hb dX2_timeBetween_8 rfl (lv_at hl 0 rfl) ?_
  refine va_get (D := D) (ci := 2) (v := .ref (r 3)) (C := RX2) (T := TX2) (N := 6) hx hb hts in2 hown hK hP 0 rfl rfl 4 (by decide) f26 (fun _ h9 => h9) rfl dX2_timeBetween_9 ?_
  refine lv_iload_n hx hb dX2_timeBetween_12 rfl (lv_at hl 1 rfl) ?_
  refine y_rV (v := gt a) (As := [.int (zI (a))]) (rest := [.int (zI (gt z))]) hx hb hml hown hts hl.1 ⟨Nat.zero_le _, Nat.zero_le _⟩ (kX3_at l D cI cJ cS (r 3) (r 7) 121 gt a (by omega) (Nat.lt_of_succ_le (Nat.le_of_ble_eq_true rfl))) (cwV 1 hts gX2_timeBetween_X3_at rfl rfl rfl jX3_at ⟨Nat.le_of_ble_eq_true rfl, Nat.le_of_ble_eq_true rfl⟩) hK [false, true, true] hP hD rfl 3 0 rfl rfl rfl rfl rfl (Nat.le_of_ble_eq_true rfl) dX2_timeBetween_13 ?_
  refine z_isub hx hb dX2_timeBetween_16 ?_
  exact z_top (gt z - gt a) rfl (hret dX2_timeBetween_17)

abbrev rmX2_sightOf : Room := { frames := 0, cells := 0, slots := 0, locals := 0 }
theorem jX2_sightOf : yX2_sightOf.cls = RX2 ∧ yX2_sightOf.cls ≠ "java/lang/invoke/MethodHandle" ∧ yX2_sightOf.cls ≠ "java/lang/invoke/VarHandle" ∧ (parseMethodDescriptor yX2_sightOf.desc).map (fun d => d.parameters.length) = some 1 := by decide +kernel
set_option maxHeartbeats 4000000 in
set_option maxRecDepth 100000 in
theorem kX2_sightOf (l : Launch) (D : va_G) (cI cJ cS : ClassId) (p0 : Nat) (b r : Nat → Nat) (fr : Int) (f ps : Int → Int) (n : Int) (x : Int) (ok : OkF f) (h1 : 0 ≤ x ∧ x ≤ 120) : Met l yX2_sightOf wsX2_sightOf rmX2_sightOf (zPc D (zT cI cJ cS) [.ref p0, .int (zI (x))] [(p0, .inr (2, [.ref (b 0), .ref (r 0), .ref (r 1), .ref (r 2), .ref (r 3), .int (zI (fr))])), (b 0, .inr (4, [.ref (b 1), .ref (b 2), .ref (b 3), .ref (b 4), .ref (b 5), .int (zI (n)), .int (zI (f 0)), .int (zI (f 1)), .int (zI (f 2)), .int (zI (f 3)), .int (zI (f 4)), .int (zI (f 5)), .int (zI (f 6)), .int (zI (f 7)), .int (zI (f 8))])), (b 1, .inr (3, [.ref (b 6)])), (b 2, .inr (3, [.ref (b 7)])), (b 3, .inr (3, [.ref (b 8)])), (b 4, .inr (3, [.ref (b 9)])), (b 5, .inr (3, [.ref (b 10)])), (b 6, .inl (cI, 120, .inl (zA (fun xx => f (9 + xx))))), (b 7, .inl (cI, 120, .inl (zA (fun xx => f (129 + xx))))), (b 8, .inl (cI, 121, .inl (zA (fun xx => f (249 + xx))))), (b 9, .inl (cI, 121, .inl (zA (fun xx => f (370 + xx))))), (b 10, .inl (cI, 121, .inl (zA ps)))]) (vp_Si (fun r => r = zI (sgt f x))) 0 0 (fun _ => False) := by
  refine zRi_of (cc := cX2_sightOf) (maxL := 2) (ret := (some .int)) (sgt f x) (by decide) rfl (Nat.le_of_ble_eq_true rfl) rfl ?_
  intro p e s m args below meth c Q ls hx hb hml hts hown hK hP hD hl hret
  have in2 : ∀ w ∈ wsX20, w ∈ wsX2_sightOf := by decide +kernel
  have in4 : ∀ w ∈ wsX40, w ∈ wsX2_sightOf := by decide +kernel
  have f29 := hts (.fieldLink RX2 29 "SignalSpacing$Profile" "state" "LSignalSpacing$State;") (by decide +kernel)
  have f100 := hts (.fieldLink RX2 100 "SignalSpacing$State" "sighting" "I") (by decide +kernel)
  have hl : lv_has ls 2 [(0, .ref p0), (1, .int (zI (x)))] := hl
  have hP : va_P D vwCl [(p0, .inr (2, [.ref (b 0), .ref (r 0), .ref (r 1), .ref (r 2), .ref (r 3), .int (zI (fr))])), (b 0, .inr (4, [.ref (b 1), .ref (b 2), .ref (b 3), .ref (b 4), .ref (b 5), .int (zI (n)), .int (zI (f 0)), .int (zI (f 1)), .int (zI (f 2)), .int (zI (f 3)), .int (zI (f 4)), .int (zI (f 5)), .int (zI (f 6)), .int (zI (f 7)), .int (zI (f 8))])), (b 1, .inr (3, [.ref (b 6)])), (b 2, .inr (3, [.ref (b 7)])), (b 3, .inr (3, [.ref (b 8)])), (b 4, .inr (3, [.ref (b 9)])), (b 5, .inr (3, [.ref (b 10)])), (b 6, .inl (cI, 120, .inl (zA (fun xx => f (9 + xx))))), (b 7, .inl (cI, 120, .inl (zA (fun xx => f (129 + xx))))), (b 8, .inl (cI, 121, .inl (zA (fun xx => f (249 + xx))))), (b 9, .inl (cI, 121, .inl (zA (fun xx => f (370 + xx))))), (b 10, .inl (cI, 121, .inl (zA ps)))] s.heap := hP
  obtain ⟨o0, o1, o2, o3, o4, o5, o7, o8, olim, ogrd, obar, oneed, opost⟩ := id ok
  refine lv_iload_n hx hb dX2_sightOf_0 rfl (lv_at hl 1 rfl) ?_
  refine lv_aload_n hx hb dX2_sightOf_1 rfl (lv_at hl 0 rfl) ?_
  refine va_get (D := D) (ci := 2) (v := .ref (b 0)) (C := RX2) (T := TX2) (N := 6) hx hb hts in2 hown hK hP 0 rfl rfl 0 (by decide) f29 (fun _ h9 => h9) rfl dX2_sightOf_2 ?_
  refine va_get (D := D) (ci := 4) (v := .int (zI (f 7))) (C := RX4) (T := TX4) (N := 15) hx hb hts in4 hown hK hP 1 rfl rfl 13 (by decide) f100 (fun _ h9 => h9) rfl dX2_sightOf_5 ?_
  refine z_icmp_le (tgt := 23) hx hb dX2_sightOf_8 (by decide) (by omega) (by omega) (fun c8 => ?_) (fun c8 => ?_)
  · refine z_iconst hx hb dX2_sightOf_23 ?_
    exact z_top (sgt f x) (by unfold sgt; rw [if_neg (by omega)]) (hret dX2_sightOf_24)
  · refine lv_iload_n hx hb dX2_sightOf_11 rfl (lv_at hl 1 rfl) ?_
    refine lv_aload_n hx hb dX2_sightOf_12 rfl (lv_at hl 0 rfl) ?_
    refine va_get (D := D) (ci := 2) (v := .ref (b 0)) (C := RX2) (T := TX2) (N := 6) hx hb hts in2 hown hK hP 0 rfl rfl 0 (by decide) f29 (fun _ h9 => h9) rfl dX2_sightOf_13 ?_
    refine va_get (D := D) (ci := 4) (v := .int (zI (f 7))) (C := RX4) (T := TX4) (N := 15) hx hb hts in4 hown hK hP 1 rfl rfl 13 (by decide) f100 (fun _ h9 => h9) rfl dX2_sightOf_16 ?_
    refine z_isub hx hb dX2_sightOf_19 ?_
    refine lv_goto (tgt := 24) hx hb dX2_sightOf_20 (by decide) ?_
    exact z_top (sgt f x) (by unfold sgt; rw [if_pos (by omega)]) (hret dX2_sightOf_24)

abbrev rmX2_stopsInSight : Room := { frames := 1, cells := 0, slots := 0, locals := 21 }
theorem jX2_stopsInSight : yX2_stopsInSight.cls = RX2 ∧ yX2_stopsInSight.cls ≠ "java/lang/invoke/MethodHandle" ∧ yX2_stopsInSight.cls ≠ "java/lang/invoke/VarHandle" ∧ (parseMethodDescriptor yX2_stopsInSight.desc).map (fun d => d.parameters.length) = some 1 := by decide +kernel
set_option maxHeartbeats 4000000 in
set_option maxRecDepth 100000 in
theorem kX2_stopsInSight (l : Launch) (D : va_G) (cI cJ cS : ClassId) (p0 : Nat) (b r : Nat → Nat) (fr : Int) (f ps : Int → Int) (n : Int) (gd : Int → Int) (x : Int) (ok : OkF f) (hgd : ∀ x : Int, 0 ≤ x → x ≤ f 0 → 0 ≤ gd x ∧ gd x ≤ 1000) (h1 : 0 ≤ x ∧ x ≤ f 0) : Met l yX2_stopsInSight wsX2_stopsInSight rmX2_stopsInSight (zPc D (zT cI cJ cS) [.ref p0, .int (zI (x))] [(p0, .inr (2, [.ref (b 0), .ref (r 0), .ref (r 1), .ref (r 2), .ref (r 3), .int (zI (fr))])), (r 2, .inr (3, [.ref (r 6)])), (r 6, .inl (cI, 121, .inl (zA gd))), (b 0, .inr (4, [.ref (b 1), .ref (b 2), .ref (b 3), .ref (b 4), .ref (b 5), .int (zI (n)), .int (zI (f 0)), .int (zI (f 1)), .int (zI (f 2)), .int (zI (f 3)), .int (zI (f 4)), .int (zI (f 5)), .int (zI (f 6)), .int (zI (f 7)), .int (zI (f 8))])), (b 1, .inr (3, [.ref (b 6)])), (b 2, .inr (3, [.ref (b 7)])), (b 3, .inr (3, [.ref (b 8)])), (b 4, .inr (3, [.ref (b 9)])), (b 5, .inr (3, [.ref (b 10)])), (b 6, .inl (cI, 120, .inl (zA (fun xx => f (9 + xx))))), (b 7, .inl (cI, 120, .inl (zA (fun xx => f (129 + xx))))), (b 8, .inl (cI, 121, .inl (zA (fun xx => f (249 + xx))))), (b 9, .inl (cI, 121, .inl (zA (fun xx => f (370 + xx))))), (b 10, .inl (cI, 121, .inl (zA ps)))]) (vp_Si (fun r => r = zI (zB (gd (sgt f x) ≤ x - sgt f x)))) 0 0 (fun _ => False) := by
  refine zRz_of (cc := cX2_stopsInSight) (maxL := 3) (ret := (some .boolean)) (zB (gd (sgt f x) ≤ x - sgt f x)) (by decide) rfl (Nat.le_of_ble_eq_true rfl) rfl (zB_01 _) ?_
  intro p e s m args below meth c Q ls hx hb hml hts hown hK hP hD hl hret
  have in2 : ∀ w ∈ wsX20, w ∈ wsX2_stopsInSight := by decide +kernel
  have f23 := hts (.fieldLink RX2 23 "SignalSpacing$Profile" "distances" "LSignalSpacing$Row;") (by decide +kernel)
  have hl : lv_has ls 3 [(0, .ref p0), (1, .int (zI (x)))] := hl
  have hP : va_P D vwCl [(p0, .inr (2, [.ref (b 0), .ref (r 0), .ref (r 1), .ref (r 2), .ref (r 3), .int (zI (fr))])), (r 2, .inr (3, [.ref (r 6)])), (r 6, .inl (cI, 121, .inl (zA gd))), (b 0, .inr (4, [.ref (b 1), .ref (b 2), .ref (b 3), .ref (b 4), .ref (b 5), .int (zI (n)), .int (zI (f 0)), .int (zI (f 1)), .int (zI (f 2)), .int (zI (f 3)), .int (zI (f 4)), .int (zI (f 5)), .int (zI (f 6)), .int (zI (f 7)), .int (zI (f 8))])), (b 1, .inr (3, [.ref (b 6)])), (b 2, .inr (3, [.ref (b 7)])), (b 3, .inr (3, [.ref (b 8)])), (b 4, .inr (3, [.ref (b 9)])), (b 5, .inr (3, [.ref (b 10)])), (b 6, .inl (cI, 120, .inl (zA (fun xx => f (9 + xx))))), (b 7, .inl (cI, 120, .inl (zA (fun xx => f (129 + xx))))), (b 8, .inl (cI, 121, .inl (zA (fun xx => f (249 + xx))))), (b 9, .inl (cI, 121, .inl (zA (fun xx => f (370 + xx))))), (b 10, .inl (cI, 121, .inl (zA ps)))] s.heap := hP
  obtain ⟨o0, o1, o2, o3, o4, o5, o7, o8, olim, ogrd, obar, oneed, opost⟩ := id ok
  have hs1 := sgt_b ok h1.1
  have hs2 := hgd (sgt f x) hs1.1 (by omega)
  refine lv_aload_n hx hb dX2_stopsInSight_0 rfl (lv_at hl 0 rfl) ?_
  refine lv_iload_n hx hb dX2_stopsInSight_1 rfl (lv_at hl 1 rfl) ?_
  refine y_rV (v := sgt f x) (As := [.int (zI (x))]) (rest := []) hx hb hml hown hts hl.1 ⟨Nat.zero_le _, Nat.zero_le _⟩ (kX2_sightOf l D cI cJ cS p0 b r fr f ps n x ok (by omega)) (cwV 1 hts gX2_stopsInSight_X2_sightOf rfl rfl rfl jX2_sightOf ⟨Nat.le_of_ble_eq_true rfl, Nat.le_of_ble_eq_true rfl⟩) hK [true, false, false, true, true, true, true, true, true, true, true, true, true, true] hP hD rfl 2 0 rfl rfl rfl rfl rfl (Nat.le_of_ble_eq_true rfl) dX2_stopsInSight_2 ?_
  refine lv_istore_n (lv' := [(2, .int (zI (sgt f x))), (0, .ref p0), (1, .int (zI (x)))]) hx hb dX2_stopsInSight_5 rfl hl (by decide) rfl (fun ls hl => ?_)
  refine lv_aload_n hx hb dX2_stopsInSight_6 rfl (lv_at hl 1 rfl) ?_
  refine va_get (D := D) (ci := 2) (v := .ref (r 2)) (C := RX2) (T := TX2) (N := 6) hx hb hts in2 hown hK hP 0 rfl rfl 3 (by decide) f23 (fun _ h9 => h9) rfl dX2_stopsInSight_7 ?_
  refine lv_iload_n hx hb dX2_stopsInSight_10 rfl (lv_at hl 0 rfl) ?_
  refine y_rV (v := gd (sgt f x)) (As := [.int (zI (sgt f x))]) (rest := []) hx hb hml hown hts hl.1 ⟨Nat.zero_le _, Nat.zero_le _⟩ (kX3_at l D cI cJ cS (r 2) (r 6) 121 gd (sgt f x) (by omega) (Nat.lt_of_succ_le (Nat.le_of_ble_eq_true rfl))) (cwV 1 hts gX2_stopsInSight_X3_at rfl rfl rfl jX3_at ⟨Nat.le_of_ble_eq_true rfl, Nat.le_of_ble_eq_true rfl⟩) hK [false, true, true] hP hD rfl 3 0 rfl rfl rfl rfl rfl (Nat.le_of_ble_eq_true rfl) dX2_stopsInSight_11 ?_
  refine lv_iload_n hx hb dX2_stopsInSight_14 rfl (lv_at hl 2 rfl) ?_
  refine lv_iload_n hx hb dX2_stopsInSight_15 rfl (lv_at hl 0 rfl) ?_
  refine z_isub hx hb dX2_stopsInSight_16 ?_
  refine z_icmp_gt (tgt := 24) hx hb dX2_stopsInSight_17 (by decide) (by omega) (by omega) (fun c17 => ?_) (fun c17 => ?_)
  · refine z_iconst hx hb dX2_stopsInSight_24 ?_
    exact z_top (zB (gd (sgt f x) ≤ x - sgt f x)) (zB_f (by omega)).symm (hret dX2_stopsInSight_25)
  · refine z_iconst hx hb dX2_stopsInSight_20 ?_
    refine lv_goto (tgt := 25) hx hb dX2_stopsInSight_21 (by decide) ?_
    exact z_top (zB (gd (sgt f x) ≤ x - sgt f x)) (zB_t (by omega)).symm (hret dX2_stopsInSight_25)

abbrev rmX2_blockTimeOf : Room := { frames := 2, cells := 0, slots := 0, locals := 43 }
theorem jX2_blockTimeOf : yX2_blockTimeOf.cls = RX2 ∧ yX2_blockTimeOf.cls ≠ "java/lang/invoke/MethodHandle" ∧ yX2_blockTimeOf.cls ≠ "java/lang/invoke/VarHandle" ∧ (parseMethodDescriptor yX2_blockTimeOf.desc).map (fun d => d.parameters.length) = some 1 := by decide +kernel
set_option maxHeartbeats 4000000 in
set_option maxRecDepth 100000 in
theorem kX2_blockTimeOf (l : Launch) (D : va_G) (cI cJ cS : ClassId) (p0 : Nat) (b r : Nat → Nat) (fr : Int) (f ps : Int → Int) (n : Int) (gt : Int → Int) (i : Int) (ok : OkF f) (rep : Rep f ps n) (h1 : 0 ≤ i ∧ i < n) : Met l yX2_blockTimeOf wsX2_blockTimeOf rmX2_blockTimeOf (zPc D (zT cI cJ cS) [.ref p0, .int (zI (i))] [(p0, .inr (2, [.ref (b 0), .ref (r 0), .ref (r 1), .ref (r 2), .ref (r 3), .int (zI (fr))])), (r 3, .inr (3, [.ref (r 7)])), (r 7, .inl (cI, 121, .inl (zA gt))), (b 0, .inr (4, [.ref (b 1), .ref (b 2), .ref (b 3), .ref (b 4), .ref (b 5), .int (zI (n)), .int (zI (f 0)), .int (zI (f 1)), .int (zI (f 2)), .int (zI (f 3)), .int (zI (f 4)), .int (zI (f 5)), .int (zI (f 6)), .int (zI (f 7)), .int (zI (f 8))])), (b 1, .inr (3, [.ref (b 6)])), (b 2, .inr (3, [.ref (b 7)])), (b 3, .inr (3, [.ref (b 8)])), (b 4, .inr (3, [.ref (b 9)])), (b 5, .inr (3, [.ref (b 10)])), (b 6, .inl (cI, 120, .inl (zA (fun xx => f (9 + xx))))), (b 7, .inl (cI, 120, .inl (zA (fun xx => f (129 + xx))))), (b 8, .inl (cI, 121, .inl (zA (fun xx => f (249 + xx))))), (b 9, .inl (cI, 121, .inl (zA (fun xx => f (370 + xx))))), (b 10, .inl (cI, 121, .inl (zA ps)))]) (vp_Si (fun r => r = zI (blk f ps gt n i))) 0 0 (fun _ => False) := by
  refine zRi_of (cc := cX2_blockTimeOf) (maxL := 4) (ret := (some .int)) (blk f ps gt n i) (by decide) rfl (Nat.le_of_ble_eq_true rfl) rfl ?_
  intro p e s m args below meth c Q ls hx hb hml hts hown hK hP hD hl hret
  have in2 : ∀ w ∈ wsX20, w ∈ wsX2_blockTimeOf := by decide +kernel
  have in4 : ∀ w ∈ wsX40, w ∈ wsX2_blockTimeOf := by decide +kernel
  have f29 := hts (.fieldLink RX2 29 "SignalSpacing$Profile" "state" "LSignalSpacing$State;") (by decide +kernel)
  have f49 := hts (.fieldLink RX2 49 "SignalSpacing$State" "length" "I") (by decide +kernel)
  have f106 := hts (.fieldLink RX2 106 "SignalSpacing$State" "aspects" "I") (by decide +kernel)
  have f109 := hts (.fieldLink RX2 109 "SignalSpacing$State" "postCount" "I") (by decide +kernel)
  have f112 := hts (.fieldLink RX2 112 "SignalSpacing$State" "posts" "LSignalSpacing$Row;") (by decide +kernel)
  have f115 := hts (.fieldLink RX2 115 "SignalSpacing$State" "overlap" "I") (by decide +kernel)
  have f118 := hts (.fieldLink RX2 118 "SignalSpacing$State" "trainLength" "I") (by decide +kernel)
  have c66 := hts (.methodLink RX2 66 Lib.Math.min.name) (by decide +kernel)
  have hl : lv_has ls 4 [(0, .ref p0), (1, .int (zI (i)))] := hl
  have hP : va_P D vwCl [(p0, .inr (2, [.ref (b 0), .ref (r 0), .ref (r 1), .ref (r 2), .ref (r 3), .int (zI (fr))])), (r 3, .inr (3, [.ref (r 7)])), (r 7, .inl (cI, 121, .inl (zA gt))), (b 0, .inr (4, [.ref (b 1), .ref (b 2), .ref (b 3), .ref (b 4), .ref (b 5), .int (zI (n)), .int (zI (f 0)), .int (zI (f 1)), .int (zI (f 2)), .int (zI (f 3)), .int (zI (f 4)), .int (zI (f 5)), .int (zI (f 6)), .int (zI (f 7)), .int (zI (f 8))])), (b 1, .inr (3, [.ref (b 6)])), (b 2, .inr (3, [.ref (b 7)])), (b 3, .inr (3, [.ref (b 8)])), (b 4, .inr (3, [.ref (b 9)])), (b 5, .inr (3, [.ref (b 10)])), (b 6, .inl (cI, 120, .inl (zA (fun xx => f (9 + xx))))), (b 7, .inl (cI, 120, .inl (zA (fun xx => f (129 + xx))))), (b 8, .inl (cI, 121, .inl (zA (fun xx => f (249 + xx))))), (b 9, .inl (cI, 121, .inl (zA (fun xx => f (370 + xx))))), (b 10, .inl (cI, 121, .inl (zA ps)))] s.heap := hP
  obtain ⟨o0, o1, o2, o3, o4, o5, o7, o8, olim, ogrd, obar, oneed, opost⟩ := id ok
  have hn := rep_n ok rep
  have hi := rep_k ok rep h1.1 h1.2
  refine lv_iload_n hx hb dX2_blockTimeOf_0 rfl (lv_at hl 1 rfl) ?_
  refine lv_aload_n hx hb dX2_blockTimeOf_1 rfl (lv_at hl 0 rfl) ?_
  refine va_get (D := D) (ci := 2) (v := .ref (b 0)) (C := RX2) (T := TX2) (N := 6) hx hb hts in2 hown hK hP 0 rfl rfl 0 (by decide) f29 (fun _ h9 => h9) rfl dX2_blockTimeOf_2 ?_
  refine va_get (D := D) (ci := 4) (v := .int (zI (f 4))) (C := RX4) (T := TX4) (N := 15) hx hb hts in4 hown hK hP 3 rfl rfl 10 (by decide) f106 (fun _ h9 => h9) rfl dX2_blockTimeOf_5 ?_
  refine z_iadd hx hb dX2_blockTimeOf_8 ?_
  refine z_iconst hx hb dX2_blockTimeOf_9 ?_
  refine z_isub hx hb dX2_blockTimeOf_10 ?_
  refine lv_istore_n (lv' := [(2, .int (zI ((i + (f 4)) - 1))), (0, .ref p0), (1, .int (zI (i)))]) hx hb dX2_blockTimeOf_11 rfl hl (by decide) rfl (fun ls hl => ?_)
  refine lv_iload_n hx hb dX2_blockTimeOf_12 rfl (lv_at hl 0 rfl) ?_
  refine lv_aload_n hx hb dX2_blockTimeOf_13 rfl (lv_at hl 1 rfl) ?_
  refine va_get (D := D) (ci := 2) (v := .ref (b 0)) (C := RX2) (T := TX2) (N := 6) hx hb hts in2 hown hK hP 0 rfl rfl 0 (by decide) f29 (fun _ h9 => h9) rfl dX2_blockTimeOf_14 ?_
  refine va_get (D := D) (ci := 4) (v := .int (zI (n))) (C := RX4) (T := TX4) (N := 15) hx hb hts in4 hown hK hP 3 rfl rfl 5 (by decide) f109 (fun _ h9 => h9) rfl dX2_blockTimeOf_17 ?_
  refine z_icmp_lt (tgt := 25) hx hb dX2_blockTimeOf_20 (by decide) (by omega) (by omega) (fun c20 => ?_) (fun c20 => ?_)
  · have hj := rep_k ok rep (k := i + f 4 - 1) (by omega) (by omega)
    have hs1 := sgt_b ok hi.1
    refine lv_aload_n hx hb dX2_blockTimeOf_25 rfl (lv_at hl 1 rfl) ?_
    refine va_get (D := D) (ci := 2) (v := .ref (b 0)) (C := RX2) (T := TX2) (N := 6) hx hb hts in2 hown hK hP 0 rfl rfl 0 (by decide) f29 (fun _ h9 => h9) rfl dX2_blockTimeOf_26 ?_
    refine va_get (D := D) (ci := 4) (v := .ref (b 5)) (C := RX4) (T := TX4) (N := 15) hx hb hts in4 hown hK hP 3 rfl rfl 4 (by decide) f112 (fun _ h9 => h9) rfl dX2_blockTimeOf_29 ?_
    refine lv_iload_n hx hb dX2_blockTimeOf_32 rfl (lv_at hl 0 rfl) ?_
    refine y_rV (v := ps ((i + (f 4)) - 1)) (As := [.int (zI ((i + (f 4)) - 1))]) (rest := []) hx hb hml hown hts hl.1 ⟨Nat.zero_le _, Nat.zero_le _⟩ (kX3_at l D cI cJ cS (b 5) (b 10) 121 ps ((i + (f 4)) - 1) (by omega) (Nat.lt_of_succ_le (Nat.le_of_ble_eq_true rfl))) (cwV 1 hts gX2_blockTimeOf_X3_at rfl rfl rfl jX3_at ⟨Nat.le_of_ble_eq_true rfl, Nat.le_of_ble_eq_true rfl⟩) hK [false, false, false, false, false, false, false, false, true, false, false, false, false, true] hP hD rfl 3 0 rfl rfl rfl rfl rfl (Nat.le_of_ble_eq_true rfl) dX2_blockTimeOf_33 ?_
    refine lv_aload_n hx hb dX2_blockTimeOf_36 rfl (lv_at hl 1 rfl) ?_
    refine va_get (D := D) (ci := 2) (v := .ref (b 0)) (C := RX2) (T := TX2) (N := 6) hx hb hts in2 hown hK hP 0 rfl rfl 0 (by decide) f29 (fun _ h9 => h9) rfl dX2_blockTimeOf_37 ?_
    refine va_get (D := D) (ci := 4) (v := .int (zI (f 8))) (C := RX4) (T := TX4) (N := 15) hx hb hts in4 hown hK hP 3 rfl rfl 14 (by decide) f115 (fun _ h9 => h9) rfl dX2_blockTimeOf_40 ?_
    refine z_iadd hx hb dX2_blockTimeOf_43 ?_
    refine lv_aload_n hx hb dX2_blockTimeOf_44 rfl (lv_at hl 1 rfl) ?_
    refine va_get (D := D) (ci := 2) (v := .ref (b 0)) (C := RX2) (T := TX2) (N := 6) hx hb hts in2 hown hK hP 0 rfl rfl 0 (by decide) f29 (fun _ h9 => h9) rfl dX2_blockTimeOf_45 ?_
    refine va_get (D := D) (ci := 4) (v := .int (zI (f 3))) (C := RX4) (T := TX4) (N := 15) hx hb hts in4 hown hK hP 3 rfl rfl 9 (by decide) f118 (fun _ h9 => h9) rfl dX2_blockTimeOf_48 ?_
    refine z_iadd hx hb dX2_blockTimeOf_51 ?_
    refine lv_istore_n (lv' := [(3, .int (zI (((ps ((i + (f 4)) - 1)) + (f 8)) + (f 3)))), (2, .int (zI ((i + (f 4)) - 1))), (0, .ref p0), (1, .int (zI (i)))]) hx hb dX2_blockTimeOf_52 rfl hl (by decide) rfl (fun ls hl => ?_)
    refine lv_aload_n hx hb dX2_blockTimeOf_53 rfl (lv_at hl 2 rfl) ?_
    refine lv_aload_n hx hb dX2_blockTimeOf_54 rfl (lv_at hl 2 rfl) ?_
    refine lv_aload_n hx hb dX2_blockTimeOf_55 rfl (lv_at hl 2 rfl) ?_
    refine va_get (D := D) (ci := 2) (v := .ref (b 0)) (C := RX2) (T := TX2) (N := 6) hx hb hts in2 hown hK hP 0 rfl rfl 0 (by decide) f29 (fun _ h9 => h9) rfl dX2_blockTimeOf_56 ?_
    refine va_get (D := D) (ci := 4) (v := .ref (b 5)) (C := RX4) (T := TX4) (N := 15) hx hb hts in4 hown hK hP 3 rfl rfl 4 (by decide) f112 (fun _ h9 => h9) rfl dX2_blockTimeOf_59 ?_
    refine lv_iload_n hx hb dX2_blockTimeOf_62 rfl (lv_at hl 3 rfl) ?_
    refine y_rV (v := ps i) (As := [.int (zI (i))]) (rest := [.ref p0, .ref p0]) hx hb hml hown hts hl.1 ⟨Nat.zero_le _, Nat.zero_le _⟩ (kX3_at l D cI cJ cS (b 5) (b 10) 121 ps i (by omega) (Nat.lt_of_succ_le (Nat.le_of_ble_eq_true rfl))) (cwV 1 hts gX2_blockTimeOf_X3_at rfl rfl rfl jX3_at ⟨Nat.le_of_ble_eq_true rfl, Nat.le_of_ble_eq_true rfl⟩) hK [false, false, false, false, false, false, false, false, true, false, false, false, false, true] hP hD rfl 3 0 rfl rfl rfl rfl rfl (Nat.le_of_ble_eq_true rfl) dX2_blockTimeOf_63 ?_
    refine y_rV (v := sgt f (ps i)) (As := [.int (zI (ps i))]) (rest := [.ref p0]) hx hb hml hown hts hl.1 ⟨Nat.zero_le _, Nat.zero_le _⟩ (kX2_sightOf l D cI cJ cS p0 b r fr f ps n (ps i) ok (by omega)) (cwV 1 hts gX2_blockTimeOf_X2_sightOf rfl rfl rfl jX2_sightOf ⟨Nat.le_of_ble_eq_true rfl, Nat.le_of_ble_eq_true rfl⟩) hK [true, false, false, true, true, true, true, true, true, true, true, true, true, true] hP hD rfl 2 0 rfl rfl rfl rfl rfl (Nat.le_of_ble_eq_true rfl) dX2_blockTimeOf_66 ?_
    refine lv_aload_n hx hb dX2_blockTimeOf_69 rfl (lv_at hl 2 rfl) ?_
    refine va_get (D := D) (ci := 2) (v := .ref (b 0)) (C := RX2) (T := TX2) (N := 6) hx hb hts in2 hown hK hP 0 rfl rfl 0 (by decide) f29 (fun _ h9 => h9) rfl dX2_blockTimeOf_70 ?_
    refine va_get (D := D) (ci := 4) (v := .int (zI (f 0))) (C := RX4) (T := TX4) (N := 15) hx hb hts in4 hown hK hP 3 rfl rfl 6 (by decide) f49 (fun _ h9 => h9) rfl dX2_blockTimeOf_73 ?_
    refine lv_iload_n hx hb dX2_blockTimeOf_76 rfl (lv_at hl 0 rfl) ?_
    refine z_mmin hx hb (hml.trans hl.1.symm) hown c66 (hts (.static Lib.Math.min.name) (by decide +kernel)) (hts (.initialized "java/lang/Math") (by decide +kernel)) (hts (.code Lib.Math.min.name Lib.Math.min.code 2 (some .int)) (by decide +kernel)) (Nat.le_of_ble_eq_true rfl) (Nat.le_of_ble_eq_true rfl) ⟨Nat.zero_le _, Nat.zero_le _⟩ (bto f (ps (i + f 4 - 1))) dX2_blockTimeOf_77 (by omega) (by omega) (by unfold bto; split <;> omega) ?_
    have hb9 : 0 ≤ bto f (ps (i + f 4 - 1)) ∧ bto f (ps (i + f 4 - 1)) ≤ f 0 := by unfold bto; split <;> omega
    refine y_rV (v := gt (bto f (ps (i + f 4 - 1))) - gt (sgt f (ps i))) (As := [.int (zI (sgt f (ps i))), .int (zI (bto f (ps (i + f 4 - 1))))]) (rest := []) hx hb hml hown hts hl.1 ⟨Nat.zero_le _, Nat.zero_le _⟩ (kX2_timeBetween l D cI cJ cS p0 b r fr gt (sgt f (ps i)) (bto f (ps (i + f 4 - 1))) (by omega)) (cwV 2 hts gX2_blockTimeOf_X2_timeBetween rfl rfl rfl jX2_timeBetween ⟨Nat.le_of_ble_eq_true rfl, Nat.le_of_ble_eq_true rfl⟩) hK [true, true, true] hP hD rfl 2 0 rfl rfl rfl rfl rfl (Nat.le_of_ble_eq_true rfl) dX2_blockTimeOf_80 ?_
    exact z_top (blk f ps gt n i) (by unfold blk; rw [if_neg (by omega)]) (hret dX2_blockTimeOf_83)
  · refine z_iconst hx hb dX2_blockTimeOf_23 ?_
    exact z_top (blk f ps gt n i) (by unfold blk; rw [if_pos (by omega)]) (hret dX2_blockTimeOf_24)

abbrev rmX2_greatestBlockTime : Room := { frames := 3, cells := 0, slots := 0, locals := 66 }
theorem jX2_greatestBlockTime : yX2_greatestBlockTime.cls = RX2 ∧ yX2_greatestBlockTime.cls ≠ "java/lang/invoke/MethodHandle" ∧ yX2_greatestBlockTime.cls ≠ "java/lang/invoke/VarHandle" ∧ (parseMethodDescriptor yX2_greatestBlockTime.desc).map (fun d => d.parameters.length) = some 0 := by decide +kernel
set_option maxHeartbeats 4000000 in
set_option maxRecDepth 100000 in
theorem kX2_greatestBlockTime (l : Launch) (D : va_G) (cI cJ cS : ClassId) (p0 : Nat) (b r : Nat → Nat) (fr : Int) (f ps : Int → Int) (n : Int) (gt : Int → Int) (ok : OkF f) (rep : Rep f ps n) (hT : ∀ i : Int, 0 ≤ i → i < n → -1 ≤ blk f ps gt n i ∧ blk f ps gt n i ≤ 2000000) : Met l yX2_greatestBlockTime wsX2_greatestBlockTime rmX2_greatestBlockTime (zPc D (zT cI cJ cS) [.ref p0] [(p0, .inr (2, [.ref (b 0), .ref (r 0), .ref (r 1), .ref (r 2), .ref (r 3), .int (zI (fr))])), (r 3, .inr (3, [.ref (r 7)])), (r 7, .inl (cI, 121, .inl (zA gt))), (b 0, .inr (4, [.ref (b 1), .ref (b 2), .ref (b 3), .ref (b 4), .ref (b 5), .int (zI (n)), .int (zI (f 0)), .int (zI (f 1)), .int (zI (f 2)), .int (zI (f 3)), .int (zI (f 4)), .int (zI (f 5)), .int (zI (f 6)), .int (zI (f 7)), .int (zI (f 8))])), (b 1, .inr (3, [.ref (b 6)])), (b 2, .inr (3, [.ref (b 7)])), (b 3, .inr (3, [.ref (b 8)])), (b 4, .inr (3, [.ref (b 9)])), (b 5, .inr (3, [.ref (b 10)])), (b 6, .inl (cI, 120, .inl (zA (fun xx => f (9 + xx))))), (b 7, .inl (cI, 120, .inl (zA (fun xx => f (129 + xx))))), (b 8, .inl (cI, 121, .inl (zA (fun xx => f (249 + xx))))), (b 9, .inl (cI, 121, .inl (zA (fun xx => f (370 + xx))))), (b 10, .inl (cI, 121, .inl (zA ps)))]) (vp_Si (fun r => r = zI (hwy f ps gt n n))) 0 0 (fun _ => False) := by
  refine zRi_of (cc := cX2_greatestBlockTime) (maxL := 3) (ret := (some .int)) (hwy f ps gt n n) (by decide) rfl (Nat.le_of_ble_eq_true rfl) rfl ?_
  intro p e s m args below meth c Q ls hx hb hml hts hown hK hP hD hl hret
  have in2 : ∀ w ∈ wsX20, w ∈ wsX2_greatestBlockTime := by decide +kernel
  have in4 : ∀ w ∈ wsX40, w ∈ wsX2_greatestBlockTime := by decide +kernel
  have f29 := hts (.fieldLink RX2 29 "SignalSpacing$Profile" "state" "LSignalSpacing$State;") (by decide +kernel)
  have f109 := hts (.fieldLink RX2 109 "SignalSpacing$State" "postCount" "I") (by decide +kernel)
  have c127 := hts (.methodLink RX2 127 Lib.Math.max.name) (by decide +kernel)
  have hl : lv_has ls 3 [(0, .ref p0)] := hl
  have hP : va_P D vwCl [(p0, .inr (2, [.ref (b 0), .ref (r 0), .ref (r 1), .ref (r 2), .ref (r 3), .int (zI (fr))])), (r 3, .inr (3, [.ref (r 7)])), (r 7, .inl (cI, 121, .inl (zA gt))), (b 0, .inr (4, [.ref (b 1), .ref (b 2), .ref (b 3), .ref (b 4), .ref (b 5), .int (zI (n)), .int (zI (f 0)), .int (zI (f 1)), .int (zI (f 2)), .int (zI (f 3)), .int (zI (f 4)), .int (zI (f 5)), .int (zI (f 6)), .int (zI (f 7)), .int (zI (f 8))])), (b 1, .inr (3, [.ref (b 6)])), (b 2, .inr (3, [.ref (b 7)])), (b 3, .inr (3, [.ref (b 8)])), (b 4, .inr (3, [.ref (b 9)])), (b 5, .inr (3, [.ref (b 10)])), (b 6, .inl (cI, 120, .inl (zA (fun xx => f (9 + xx))))), (b 7, .inl (cI, 120, .inl (zA (fun xx => f (129 + xx))))), (b 8, .inl (cI, 121, .inl (zA (fun xx => f (249 + xx))))), (b 9, .inl (cI, 121, .inl (zA (fun xx => f (370 + xx))))), (b 10, .inl (cI, 121, .inl (zA ps)))] s.heap := hP
  obtain ⟨o0, o1, o2, o3, o4, o5, o7, o8, olim, ogrd, obar, oneed, opost⟩ := id ok
  have hn := rep_n ok rep
  refine z_iconst hx hb dX2_greatestBlockTime_0 ?_
  refine lv_istore_n (lv' := [(1, .int (zI (-1))), (0, .ref p0)]) hx hb dX2_greatestBlockTime_1 rfl hl (by decide) rfl (fun ls hl => ?_)
  refine z_iconst hx hb dX2_greatestBlockTime_2 ?_
  refine lv_istore_n (lv' := [(2, .int (zI (0))), (1, .int (zI (-1))), (0, .ref p0)]) hx hb dX2_greatestBlockTime_3 rfl hl (by decide) rfl (fun ls hl => ?_)
  have L4 : ∀ (fuel : Nat), ∀ (t : Int) (i : Int), ∀ (h1 : 0 ≤ i ∧ i ≤ n), ∀ (ht : t = hwy f ps gt n i), ∀ (hb9 : -1 ≤ t ∧ t ≤ 2000000), (n - i).toNat < fuel → ∀ (ls : Array Slot), lv_has ls 3 [(0, .ref p0), (1, .int (zI (t))), (2, .int (zI (i)))] → W p l e rmX2_greatestBlockTime s m args below meth c s.heap [] 0 0 Q (F0 m 4 ls []) := by
    intro fuel
    induction fuel with
    | zero =>
      intro t i h1 ht hb9 hm
      exact absurd hm (Nat.not_lt_zero _)
    | succ fuel ih4 =>
      intro t i h1 ht hb9 hm ls hl
      refine lv_iload_n hx hb dX2_greatestBlockTime_4 rfl (lv_at hl 2 rfl) ?_
      refine lv_aload_n hx hb dX2_greatestBlockTime_5 rfl (lv_at hl 0 rfl) ?_
      refine va_get (D := D) (ci := 2) (v := .ref (b 0)) (C := RX2) (T := TX2) (N := 6) hx hb hts in2 hown hK hP 0 rfl rfl 0 (by decide) f29 (fun _ h9 => h9) rfl dX2_greatestBlockTime_6 ?_
      refine va_get (D := D) (ci := 4) (v := .int (zI (n))) (C := RX4) (T := TX4) (N := 15) hx hb hts in4 hown hK hP 3 rfl rfl 5 (by decide) f109 (fun _ h9 => h9) rfl dX2_greatestBlockTime_9 ?_
      refine z_icmp_ge (tgt := 31) hx hb dX2_greatestBlockTime_12 (by decide) (by omega) (by omega) (fun c12 => ?_) (fun c12 => ?_)
      · refine lv_iload_n hx hb dX2_greatestBlockTime_31 rfl (lv_at hl 1 rfl) ?_
        exact z_top (hwy f ps gt n n) (by rw [ht, show i = n by omega]) (hret dX2_greatestBlockTime_32)
      · refine lv_iload_n hx hb dX2_greatestBlockTime_15 rfl (lv_at hl 1 rfl) ?_
        refine lv_aload_n hx hb dX2_greatestBlockTime_16 rfl (lv_at hl 0 rfl) ?_
        refine lv_iload_n hx hb dX2_greatestBlockTime_17 rfl (lv_at hl 2 rfl) ?_
        refine y_rV (v := blk f ps gt n i) (As := [.int (zI (i))]) (rest := [.int (zI (t))]) hx hb hml hown hts hl.1 ⟨Nat.zero_le _, Nat.zero_le _⟩ (kX2_blockTimeOf l D cI cJ cS p0 b r fr f ps n gt i ok rep (by omega)) (cwV 1 hts gX2_greatestBlockTime_X2_blockTimeOf rfl rfl rfl jX2_blockTimeOf ⟨Nat.le_of_ble_eq_true rfl, Nat.le_of_ble_eq_true rfl⟩) hK [true, true, true, true, true, true, true, true, true, true, true, true, true, true] hP hD rfl 2 0 rfl rfl rfl rfl rfl (Nat.le_of_ble_eq_true rfl) dX2_greatestBlockTime_18 ?_
        have hb2 := hT i h1.1 (by omega)
        refine z_mmax hx hb (hml.trans hl.1.symm) hown c127 (hts (.static Lib.Math.max.name) (by decide +kernel)) (hts (.initialized "java/lang/Math") (by decide +kernel)) (hts (.code Lib.Math.max.name Lib.Math.max.code 2 (some .int)) (by decide +kernel)) (Nat.le_of_ble_eq_true rfl) (Nat.le_of_ble_eq_true rfl) ⟨Nat.zero_le _, Nat.zero_le _⟩ (hwy f ps gt n (i + 1)) dX2_greatestBlockTime_21 (by omega) (by omega) (by rw [hwy_s h1.1, ← ht]; split <;> omega) ?_
        refine lv_istore_n (lv' := [(1, .int (zI (hwy f ps gt n (i + 1)))), (0, .ref p0), (2, .int (zI (i)))]) hx hb dX2_greatestBlockTime_24 rfl hl (by decide) rfl (fun ls hl => ?_)
        refine z_iinc (lv' := [(2, .int (zI (i + 1))), (1, .int (zI (hwy f ps gt n (i + 1)))), (0, .ref p0)]) hx hb 2 (i + 1) dX2_greatestBlockTime_25 hl rfl (by omega) (by decide) rfl (fun ls hl => ?_)
        refine lv_goto (tgt := 4) hx hb dX2_greatestBlockTime_28 (by decide) ?_
        exact ih4 (hwy f ps gt n (i + 1)) (i + 1) (by omega) rfl (by rw [hwy_s h1.1, ← ht]; split <;> omega) (by omega) ls (lv_sub hl [2, 1, 0] rfl)
  exact L4 _ (-1) 0 (by omega) rfl (by omega) (Nat.lt_succ_self _) ls (lv_sub hl [2, 1, 0] rfl)
