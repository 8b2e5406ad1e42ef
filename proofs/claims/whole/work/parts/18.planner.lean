/-! ===== SignalSpacing$Planner ===== -/
abbrev rmX1_earliestBehind : Room := { frames := 1, cells := 0, slots := 0, locals := 21 }
theorem jX1_earliestBehind : yX1_earliestBehind.cls = RX1 ∧ yX1_earliestBehind.cls ≠ "java/lang/invoke/MethodHandle" ∧ yX1_earliestBehind.cls ≠ "java/lang/invoke/VarHandle" ∧ (parseMethodDescriptor yX1_earliestBehind.desc).map (fun d => d.parameters.length) = some 2 := by decide +kernel
set_option maxHeartbeats 4000000 in
set_option maxRecDepth 100000 in
theorem kX1_earliestBehind (l : Launch) (D : va_G) (cI cJ cS : ClassId) (l0 p0 : Nat) (b r o : Nat → Nat) (fr : Int) (f ps : Int → Int) (n : Int) (gd : Int → Int) (bf x : Int) (ok : OkF f) (h1 : 0 ≤ x ∧ x ≤ f 0) (h2 : -1 ≤ bf ∧ bf ≤ f 0) : Met l yX1_earliestBehind wsX1_earliestBehind rmX1_earliestBehind (zPc D (zT cI cJ cS) [.ref l0, .int (zI (bf)), .int (zI (x))] [(l0, .inr (1, [.ref (b 0), .ref p0, .ref (o 0), .ref (o 1), .ref (o 2)])), (p0, .inr (2, [.ref (b 0), .ref (r 0), .ref (r 1), .ref (r 2), .ref (r 3), .int (zI (fr))])), (r 2, .inr (3, [.ref (r 6)])), (r 6, .inl (cI, 121, .inl (zA gd))), (b 0, .inr (4, [.ref (b 1), .ref (b 2), .ref (b 3), .ref (b 4), .ref (b 5), .int (zI (n)), .int (zI (f 0)), .int (zI (f 1)), .int (zI (f 2)), .int (zI (f 3)), .int (zI (f 4)), .int (zI (f 5)), .int (zI (f 6)), .int (zI (f 7)), .int (zI (f 8))])), (b 1, .inr (3, [.ref (b 6)])), (b 2, .inr (3, [.ref (b 7)])), (b 3, .inr (3, [.ref (b 8)])), (b 4, .inr (3, [.ref (b 9)])), (b 5, .inr (3, [.ref (b 10)])), (b 6, .inl (cI, 120, .inl (zA (fun xx => f (9 + xx))))), (b 7, .inl (cI, 120, .inl (zA (fun xx => f (129 + xx))))), (b 8, .inl (cI, 121, .inl (zA (fun xx => f (249 + xx))))), (b 9, .inl (cI, 121, .inl (zA (fun xx => f (370 + xx))))), (b 10, .inl (cI, 121, .inl (zA ps)))]) (vp_Si (fun r => r = zI (est f gd bf x))) 0 0 (fun _ => False) := by
  refine zRi_of (cc := cX1_earliestBehind) (maxL := 3) (ret := (some .int)) (est f gd bf x) (by decide) rfl (Nat.le_of_ble_eq_true rfl) rfl ?_
  intro p e s m args below meth c Q ls hx hb hml hts hown hK hP hD hl hret
  have in1 : ∀ w ∈ wsX10, w ∈ wsX1_earliestBehind := by decide +kernel
  have in2 : ∀ w ∈ wsX20, w ∈ wsX1_earliestBehind := by decide +kernel
  have in4 : ∀ w ∈ wsX40, w ∈ wsX1_earliestBehind := by decide +kernel
  have f26 := hts (.fieldLink RX1 26 "SignalSpacing$Planner" "state" "LSignalSpacing$State;") (by decide +kernel)
  have f30 := hts (.fieldLink RX1 30 "SignalSpacing$Planner" "profile" "LSignalSpacing$Profile;") (by decide +kernel)
  have f63 := hts (.fieldLink RX1 63 "SignalSpacing$State" "aspects" "I") (by decide +kernel)
  have f93 := hts (.fieldLink RX1 93 "SignalSpacing$Profile" "distances" "LSignalSpacing$Row;") (by decide +kernel)
  have hl : lv_has ls 3 [(0, .ref l0), (1, .int (zI (bf))), (2, .int (zI (x)))] := hl
  have hP : va_P D vwCl [(l0, .inr (1, [.ref (b 0), .ref p0, .ref (o 0), .ref (o 1), .ref (o 2)])), (p0, .inr (2, [.ref (b 0), .ref (r 0), .ref (r 1), .ref (r 2), .ref (r 3), .int (zI (fr))])), (r 2, .inr (3, [.ref (r 6)])), (r 6, .inl (cI, 121, .inl (zA gd))), (b 0, .inr (4, [.ref (b 1), .ref (b 2), .ref (b 3), .ref (b 4), .ref (b 5), .int (zI (n)), .int (zI (f 0)), .int (zI (f 1)), .int (zI (f 2)), .int (zI (f 3)), .int (zI (f 4)), .int (zI (f 5)), .int (zI (f 6)), .int (zI (f 7)), .int (zI (f 8))])), (b 1, .inr (3, [.ref (b 6)])), (b 2, .inr (3, [.ref (b 7)])), (b 3, .inr (3, [.ref (b 8)])), (b 4, .inr (3, [.ref (b 9)])), (b 5, .inr (3, [.ref (b 10)])), (b 6, .inl (cI, 120, .inl (zA (fun xx => f (9 + xx))))), (b 7, .inl (cI, 120, .inl (zA (fun xx => f (129 + xx))))), (b 8, .inl (cI, 121, .inl (zA (fun xx => f (249 + xx))))), (b 9, .inl (cI, 121, .inl (zA (fun xx => f (370 + xx))))), (b 10, .inl (cI, 121, .inl (zA ps)))] s.heap := hP
  obtain ⟨o0, o1, o2, o3, o4, o5, o7, o8, olim, ogrd, obar, oneed, opost⟩ := id ok
  refine lv_aload_n hx hb dX1_earliestBehind_0 rfl (lv_at hl 0 rfl) ?_
  refine va_get (D := D) (ci := 1) (v := .ref (b 0)) (C := RX1) (T := TX1) (N := 5) hx hb hts in1 hown hK hP 0 rfl rfl 0 (by decide) f26 (fun _ h9 => h9) rfl dX1_earliestBehind_1 ?_
  refine va_get (D := D) (ci := 4) (v := .int (zI (f 4))) (C := RX4) (T := TX4) (N := 15) hx hb hts in4 hown hK hP 4 rfl rfl 10 (by decide) f63 (fun _ h9 => h9) rfl dX1_earliestBehind_4 ?_
  refine z_iconst hx hb dX1_earliestBehind_7 ?_
  refine z_icmp_ne (tgt := 25) hx hb dX1_earliestBehind_8 (by decide) (by omega) (by omega) (fun c8 => ?_) (fun c8 => ?_)
  · refine lv_aload_n hx hb dX1_earliestBehind_25 rfl (lv_at hl 0 rfl) ?_
    refine va_get (D := D) (ci := 1) (v := .ref (b 0)) (C := RX1) (T := TX1) (N := 5) hx hb hts in1 hown hK hP 0 rfl rfl 0 (by decide) f26 (fun _ h9 => h9) rfl dX1_earliestBehind_26 ?_
    refine va_get (D := D) (ci := 4) (v := .int (zI (f 4))) (C := RX4) (T := TX4) (N := 15) hx hb hts in4 hown hK hP 4 rfl rfl 10 (by decide) f63 (fun _ h9 => h9) rfl dX1_earliestBehind_29 ?_
    refine z_iconst hx hb dX1_earliestBehind_32 ?_
    refine z_icmp_ne (tgt := 55) hx hb dX1_earliestBehind_33 (by decide) (by omega) (by omega) (fun c33 => ?_) (fun c33 => ?_)
    · refine z_iconst hx hb dX1_earliestBehind_55 ?_
      exact z_top (est f gd bf x) (by unfold est; rw [if_neg (by omega), if_neg (by omega)]) (hret dX1_earliestBehind_56)
    · refine lv_iload_n hx hb dX1_earliestBehind_36 rfl (lv_at hl 1 rfl) ?_
      refine z_iconst hx hb dX1_earliestBehind_37 ?_
      refine z_icmp_eq (tgt := 55) hx hb dX1_earliestBehind_38 (by decide) (by omega) (by omega) (fun c38 => ?_) (fun c38 => ?_)
      · refine z_iconst hx hb dX1_earliestBehind_55 ?_
        exact z_top (est f gd bf x) (by unfold est; rw [if_neg (by omega), if_neg (by omega)]) (hret dX1_earliestBehind_56)
      · refine lv_iload_n hx hb dX1_earliestBehind_41 rfl (lv_at hl 1 rfl) ?_
        refine lv_aload_n hx hb dX1_earliestBehind_42 rfl (lv_at hl 0 rfl) ?_
        refine va_get (D := D) (ci := 1) (v := .ref p0) (C := RX1) (T := TX1) (N := 5) hx hb hts in1 hown hK hP 0 rfl rfl 1 (by decide) f30 (fun _ h9 => h9) rfl dX1_earliestBehind_43 ?_
        refine va_get (D := D) (ci := 2) (v := .ref (r 2)) (C := RX2) (T := TX2) (N := 6) hx hb hts in2 hown hK hP 1 rfl rfl 3 (by decide) f93 (fun _ h9 => h9) rfl dX1_earliestBehind_46 ?_
        refine lv_iload_n hx hb dX1_earliestBehind_49 rfl (lv_at hl 1 rfl) ?_
        refine y_rV (v := gd bf) (As := [.int (zI (bf))]) (rest := [.int (zI (bf))]) hx hb hml hown hts hl.1 ⟨Nat.zero_le _, Nat.zero_le _⟩ (kX3_at l D cI cJ cS (r 2) (r 6) 121 gd bf (by omega) (Nat.lt_of_succ_le (Nat.le_of_ble_eq_true rfl))) (cwV 1 hts gX1_earliestBehind_X3_at rfl rfl rfl jX3_at ⟨Nat.le_of_ble_eq_true rfl, Nat.le_of_ble_eq_true rfl⟩) hK [false, false, true, true] hP hD rfl 3 0 rfl rfl rfl rfl rfl (Nat.le_of_ble_eq_true rfl) dX1_earliestBehind_50 ?_
        refine z_iadd hx hb dX1_earliestBehind_53 ?_
        exact z_top (est f gd bf x) (by unfold est; rw [if_neg (by omega), if_pos (by omega)]) (hret dX1_earliestBehind_54)
  · refine lv_iload_n hx hb dX1_earliestBehind_11 rfl (lv_at hl 2 rfl) ?_
    refine lv_aload_n hx hb dX1_earliestBehind_12 rfl (lv_at hl 0 rfl) ?_
    refine va_get (D := D) (ci := 1) (v := .ref p0) (C := RX1) (T := TX1) (N := 5) hx hb hts in1 hown hK hP 0 rfl rfl 1 (by decide) f30 (fun _ h9 => h9) rfl dX1_earliestBehind_13 ?_
    refine va_get (D := D) (ci := 2) (v := .ref (r 2)) (C := RX2) (T := TX2) (N := 6) hx hb hts in2 hown hK hP 1 rfl rfl 3 (by decide) f93 (fun _ h9 => h9) rfl dX1_earliestBehind_16 ?_
    refine lv_iload_n hx hb dX1_earliestBehind_19 rfl (lv_at hl 2 rfl) ?_
    refine y_rV (v := gd x) (As := [.int (zI (x))]) (rest := [.int (zI (x))]) hx hb hml hown hts hl.1 ⟨Nat.zero_le _, Nat.zero_le _⟩ (kX3_at l D cI cJ cS (r 2) (r 6) 121 gd x (by omega) (Nat.lt_of_succ_le (Nat.le_of_ble_eq_true rfl))) (cwV 1 hts gX1_earliestBehind_X3_at rfl rfl rfl jX3_at ⟨Nat.le_of_ble_eq_true rfl, Nat.le_of_ble_eq_true rfl⟩) hK [false, false, true, true] hP hD rfl 3 0 rfl rfl rfl rfl rfl (Nat.le_of_ble_eq_true rfl) dX1_earliestBehind_20 ?_
    refine z_iadd hx hb dX1_earliestBehind_23 ?_
    exact z_top (est f gd bf x) (by unfold est; rw [if_pos (by omega)]) (hret dX1_earliestBehind_24)

abbrev rmX1_lastBehind : Room := { frames := 2, cells := 0, slots := 0, locals := 42 }
theorem jX1_lastBehind : yX1_lastBehind.cls = RX1 ∧ yX1_lastBehind.cls ≠ "java/lang/invoke/MethodHandle" ∧ yX1_lastBehind.cls ≠ "java/lang/invoke/VarHandle" ∧ (parseMethodDescriptor yX1_lastBehind.desc).map (fun d => d.parameters.length) = some 1 := by decide +kernel
set_option maxHeartbeats 4000000 in
set_option maxRecDepth 100000 in
theorem kX1_lastBehind (l : Launch) (D : va_G) (cI cJ cS : ClassId) (l0 p0 : Nat) (b r o : Nat → Nat) (fr : Int) (f ps : Int → Int) (n : Int) (x : Int) (ok : OkF f) (h1 : 0 ≤ x ∧ x < f 0) : Met l yX1_lastBehind wsX1_lastBehind rmX1_lastBehind (zPc D (zT cI cJ cS) [.ref l0, .int (zI (x))] [(l0, .inr (1, [.ref (b 0), .ref p0, .ref (o 0), .ref (o 1), .ref (o 2)])), (b 0, .inr (4, [.ref (b 1), .ref (b 2), .ref (b 3), .ref (b 4), .ref (b 5), .int (zI (n)), .int (zI (f 0)), .int (zI (f 1)), .int (zI (f 2)), .int (zI (f 3)), .int (zI (f 4)), .int (zI (f 5)), .int (zI (f 6)), .int (zI (f 7)), .int (zI (f 8))])), (b 1, .inr (3, [.ref (b 6)])), (b 2, .inr (3, [.ref (b 7)])), (b 3, .inr (3, [.ref (b 8)])), (b 4, .inr (3, [.ref (b 9)])), (b 5, .inr (3, [.ref (b 10)])), (b 6, .inl (cI, 120, .inl (zA (fun xx => f (9 + xx))))), (b 7, .inl (cI, 120, .inl (zA (fun xx => f (129 + xx))))), (b 8, .inl (cI, 121, .inl (zA (fun xx => f (249 + xx))))), (b 9, .inl (cI, 121, .inl (zA (fun xx => f (370 + xx))))), (b 10, .inl (cI, 121, .inl (zA ps)))]) (vp_Si (fun r => r = zI (lst f x))) 0 0 (fun _ => False) := by
  refine zRi_of (cc := cX1_lastBehind) (maxL := 4) (ret := (some .int)) (lst f x) (by decide) rfl (Nat.le_of_ble_eq_true rfl) rfl ?_
  intro p e s m args below meth c Q ls hx hb hml hts hown hK hP hD hl hret
  have in1 : ∀ w ∈ wsX10, w ∈ wsX1_lastBehind := by decide +kernel
  have in4 : ∀ w ∈ wsX40, w ∈ wsX1_lastBehind := by decide +kernel
  have f26 := hts (.fieldLink RX1 26 "SignalSpacing$Planner" "state" "LSignalSpacing$State;") (by decide +kernel)
  have f37 := hts (.fieldLink RX1 37 "SignalSpacing$State" "length" "I") (by decide +kernel)
  have f96 := hts (.fieldLink RX1 96 "SignalSpacing$State" "maximum" "I") (by decide +kernel)
  have c82 := hts (.methodLink RX1 82 Lib.Math.min.name) (by decide +kernel)
  have hl : lv_has ls 4 [(0, .ref l0), (1, .int (zI (x)))] := hl
  have hP : va_P D vwCl [(l0, .inr (1, [.ref (b 0), .ref p0, .ref (o 0), .ref (o 1), .ref (o 2)])), (b 0, .inr (4, [.ref (b 1), .ref (b 2), .ref (b 3), .ref (b 4), .ref (b 5), .int (zI (n)), .int (zI (f 0)), .int (zI (f 1)), .int (zI (f 2)), .int (zI (f 3)), .int (zI (f 4)), .int (zI (f 5)), .int (zI (f 6)), .int (zI (f 7)), .int (zI (f 8))])), (b 1, .inr (3, [.ref (b 6)])), (b 2, .inr (3, [.ref (b 7)])), (b 3, .inr (3, [.ref (b 8)])), (b 4, .inr (3, [.ref (b 9)])), (b 5, .inr (3, [.ref (b 10)])), (b 6, .inl (cI, 120, .inl (zA (fun xx => f (9 + xx))))), (b 7, .inl (cI, 120, .inl (zA (fun xx => f (129 + xx))))), (b 8, .inl (cI, 121, .inl (zA (fun xx => f (249 + xx))))), (b 9, .inl (cI, 121, .inl (zA (fun xx => f (370 + xx))))), (b 10, .inl (cI, 121, .inl (zA ps)))] s.heap := hP
  obtain ⟨o0, o1, o2, o3, o4, o5, o7, o8, olim, ogrd, obar, oneed, opost⟩ := id ok
  have hf := far_b ok h1.2
  refine lv_iload_n hx hb dX1_lastBehind_0 rfl (lv_at hl 1 rfl) ?_
  refine lv_aload_n hx hb dX1_lastBehind_1 rfl (lv_at hl 0 rfl) ?_
  refine va_get (D := D) (ci := 1) (v := .ref (b 0)) (C := RX1) (T := TX1) (N := 5) hx hb hts in1 hown hK hP 0 rfl rfl 0 (by decide) f26 (fun _ h9 => h9) rfl dX1_lastBehind_2 ?_
  refine va_get (D := D) (ci := 4) (v := .int (zI (f 6))) (C := RX4) (T := TX4) (N := 15) hx hb hts in4 hown hK hP 1 rfl rfl 12 (by decide) f96 (fun _ h9 => h9) rfl dX1_lastBehind_5 ?_
  refine z_iadd hx hb dX1_lastBehind_8 ?_
  refine lv_aload_n hx hb dX1_lastBehind_9 rfl (lv_at hl 0 rfl) ?_
  refine va_get (D := D) (ci := 1) (v := .ref (b 0)) (C := RX1) (T := TX1) (N := 5) hx hb hts in1 hown hK hP 0 rfl rfl 0 (by decide) f26 (fun _ h9 => h9) rfl dX1_lastBehind_10 ?_
  refine va_get (D := D) (ci := 4) (v := .int (zI (f 0))) (C := RX4) (T := TX4) (N := 15) hx hb hts in4 hown hK hP 1 rfl rfl 6 (by decide) f37 (fun _ h9 => h9) rfl dX1_lastBehind_13 ?_
  refine z_mmin hx hb (hml.trans hl.1.symm) hown c82 (hts (.static Lib.Math.min.name) (by decide +kernel)) (hts (.initialized "java/lang/Math") (by decide +kernel)) (hts (.code Lib.Math.min.name Lib.Math.min.code 2 (some .int)) (by decide +kernel)) (Nat.le_of_ble_eq_true rfl) (Nat.le_of_ble_eq_true rfl) ⟨Nat.zero_le _, Nat.zero_le _⟩ (far f x) dX1_lastBehind_16 (by omega) (by omega) (by unfold far; split <;> omega) ?_
  refine lv_istore_n (lv' := [(2, .int (zI (far f x))), (0, .ref l0), (1, .int (zI (x)))]) hx hb dX1_lastBehind_19 rfl hl (by decide) rfl (fun ls hl => ?_)
  refine lv_iload_n hx hb dX1_lastBehind_20 rfl (lv_at hl 2 rfl) ?_
  refine z_iconst hx hb dX1_lastBehind_21 ?_
  refine z_iadd hx hb dX1_lastBehind_22 ?_
  refine lv_istore_n (lv' := [(3, .int (zI (x + 1))), (2, .int (zI (far f x))), (0, .ref l0), (1, .int (zI (x)))]) hx hb dX1_lastBehind_23 rfl hl (by decide) rfl (fun ls hl => ?_)
  have L24 : ∀ (fuel : Nat), ∀ (y : Int), ∀ (h2 : x < y ∧ y ≤ far f x), ∀ (h3 : ∀ z : Int, x < z → z < y → ¬ wanted f z), (far f x - y).toNat < fuel → ∀ (ls : Array Slot), lv_has ls 4 [(0, .ref l0), (1, .int (zI (x))), (2, .int (zI (far f x))), (3, .int (zI (y)))] → W p l e rmX1_lastBehind s m args below meth c s.heap [] 0 0 Q (F0 m 24 ls []) := by
    intro fuel
    induction fuel with
    | zero =>
      intro y h2 h3 hm
      exact absurd hm (Nat.not_lt_zero _)
    | succ fuel ih24 =>
      intro y h2 h3 hm ls hl
      refine lv_iload_n hx hb dX1_lastBehind_24 rfl (lv_at hl 3 rfl) ?_
      refine lv_iload_n hx hb dX1_lastBehind_25 rfl (lv_at hl 2 rfl) ?_
      refine z_icmp_ge (tgt := 46) hx hb dX1_lastBehind_26 (by decide) (by omega) (by omega) (fun c26 => ?_) (fun c26 => ?_)
      · refine lv_iload_n hx hb dX1_lastBehind_46 rfl (lv_at hl 3 rfl) ?_
        exact z_top (lst f x) (lst_of ⟨h2.1, h2.2, Or.inl (by omega), h3⟩) (hret dX1_lastBehind_47)
      · refine lv_aload_n hx hb dX1_lastBehind_29 rfl (lv_at hl 0 rfl) ?_
        refine va_get (D := D) (ci := 1) (v := .ref (b 0)) (C := RX1) (T := TX1) (N := 5) hx hb hts in1 hown hK hP 0 rfl rfl 0 (by decide) f26 (fun _ h9 => h9) rfl dX1_lastBehind_30 ?_
        refine lv_iload_n hx hb dX1_lastBehind_33 rfl (lv_at hl 3 rfl) ?_
        refine y_rV (v := zB (wanted f y)) (As := [.int (zI (y))]) (rest := []) hx hb hml hown hts hl.1 ⟨Nat.zero_le _, Nat.zero_le _⟩ (kX4_needsPost l D cI cJ cS b f ps n y ok (by omega)) (cwV 1 hts gX1_lastBehind_X4_needsPost rfl rfl rfl jX4_needsPost ⟨Nat.le_of_ble_eq_true rfl, Nat.le_of_ble_eq_true rfl⟩) hK [false, true, true, true, true, true, true, true, true, true, true, true] hP hD rfl 4 0 rfl rfl rfl rfl rfl (Nat.le_of_ble_eq_true rfl) dX1_lastBehind_34 ?_
        refine z_if_ne (tgt := 46) hx hb dX1_lastBehind_37 (by decide) (by have hz := zB_01 (wanted f y); omega) (fun c37 => ?_) (fun c37 => ?_)
        · have c37 := zB_n0.mp c37
          refine lv_iload_n hx hb dX1_lastBehind_46 rfl (lv_at hl 3 rfl) ?_
          exact z_top (lst f x) (lst_of ⟨h2.1, h2.2, Or.inr c37, h3⟩) (hret dX1_lastBehind_47)
        · have c37 := zB_0.mp c37
          refine z_iinc (lv' := [(3, .int (zI (y + 1))), (0, .ref l0), (1, .int (zI (x))), (2, .int (zI (far f x)))]) hx hb 3 (y + 1) dX1_lastBehind_40 hl rfl (by omega) (by decide) rfl (fun ls hl => ?_)
          refine lv_goto (tgt := 24) hx hb dX1_lastBehind_43 (by decide) ?_
          exact ih24 (y + 1) (by omega) (fun z a c => if hz : z = y then (by rw [hz]; exact c37) else h3 z a (by omega)) (by omega) ls (lv_sub hl [1, 2, 3, 0] rfl)
  exact L24 _ (x + 1) (by omega) (fun z a c => by omega) (Nat.lt_succ_self _) ls (lv_sub hl [2, 3, 1, 0] rfl)

abbrev rmX1_fewestBehind : Room := { frames := 1, cells := 0, slots := 0, locals := 21 }
theorem jX1_fewestBehind : yX1_fewestBehind.cls = RX1 ∧ yX1_fewestBehind.cls ≠ "java/lang/invoke/MethodHandle" ∧ yX1_fewestBehind.cls ≠ "java/lang/invoke/VarHandle" ∧ (parseMethodDescriptor yX1_fewestBehind.desc).map (fun d => d.parameters.length) = some 2 := by decide +kernel
set_option maxHeartbeats 4000000 in
set_option maxRecDepth 100000 in
theorem kX1_fewestBehind (l : Launch) (D : va_G) (cI cJ cS : ClassId) (l0 p0 : Nat) (b r o : Nat → Nat) (fr : Int) (f ps : Int → Int) (n : Int) (tb : Int → Int) (x ea : Int) (ok : OkF f) (h1 : 0 ≤ x ∧ x < f 0) (h2 : -1000000 ≤ ea ∧ ea ≤ 1000000) : Met l yX1_fewestBehind wsX1_fewestBehind rmX1_fewestBehind (zPc D (zT cI cJ cS) [.ref l0, .int (zI (x)), .int (zI (ea))] [(l0, .inr (1, [.ref (b 0), .ref p0, .ref (o 0), .ref (o 1), .ref (o 2)])), (o 1, .inr (3, [.ref (o 4)])), (o 4, .inl (cI, 14520, .inl (zA tb))), (b 0, .inr (4, [.ref (b 1), .ref (b 2), .ref (b 3), .ref (b 4), .ref (b 5), .int (zI (n)), .int (zI (f 0)), .int (zI (f 1)), .int (zI (f 2)), .int (zI (f 3)), .int (zI (f 4)), .int (zI (f 5)), .int (zI (f 6)), .int (zI (f 7)), .int (zI (f 8))])), (b 1, .inr (3, [.ref (b 6)])), (b 2, .inr (3, [.ref (b 7)])), (b 3, .inr (3, [.ref (b 8)])), (b 4, .inr (3, [.ref (b 9)])), (b 5, .inr (3, [.ref (b 10)])), (b 6, .inl (cI, 120, .inl (zA (fun xx => f (9 + xx))))), (b 7, .inl (cI, 120, .inl (zA (fun xx => f (129 + xx))))), (b 8, .inl (cI, 121, .inl (zA (fun xx => f (249 + xx))))), (b 9, .inl (cI, 121, .inl (zA (fun xx => f (370 + xx))))), (b 10, .inl (cI, 121, .inl (zA ps)))]) (vp_Si (fun r => r = zI (fbh f tb x ea))) 0 0 (fun _ => False) := by
  refine zRi_of (cc := cX1_fewestBehind) (maxL := 3) (ret := (some .int)) (fbh f tb x ea) (by decide) rfl (Nat.le_of_ble_eq_true rfl) rfl ?_
  intro p e s m args below meth c Q ls hx hb hml hts hown hK hP hD hl hret
  have in1 : ∀ w ∈ wsX10, w ∈ wsX1_fewestBehind := by decide +kernel
  have in4 : ∀ w ∈ wsX40, w ∈ wsX1_fewestBehind := by decide +kernel
  have f20 := hts (.fieldLink RX1 20 "SignalSpacing$Planner" "fewest" "LSignalSpacing$Row;") (by decide +kernel)
  have f26 := hts (.fieldLink RX1 26 "SignalSpacing$Planner" "state" "LSignalSpacing$State;") (by decide +kernel)
  have f37 := hts (.fieldLink RX1 37 "SignalSpacing$State" "length" "I") (by decide +kernel)
  have c90 := hts (.methodLink RX1 90 Lib.Math.max.name) (by decide +kernel)
  have hl : lv_has ls 3 [(0, .ref l0), (1, .int (zI (x))), (2, .int (zI (ea)))] := hl
  have hP : va_P D vwCl [(l0, .inr (1, [.ref (b 0), .ref p0, .ref (o 0), .ref (o 1), .ref (o 2)])), (o 1, .inr (3, [.ref (o 4)])), (o 4, .inl (cI, 14520, .inl (zA tb))), (b 0, .inr (4, [.ref (b 1), .ref (b 2), .ref (b 3), .ref (b 4), .ref (b 5), .int (zI (n)), .int (zI (f 0)), .int (zI (f 1)), .int (zI (f 2)), .int (zI (f 3)), .int (zI (f 4)), .int (zI (f 5)), .int (zI (f 6)), .int (zI (f 7)), .int (zI (f 8))])), (b 1, .inr (3, [.ref (b 6)])), (b 2, .inr (3, [.ref (b 7)])), (b 3, .inr (3, [.ref (b 8)])), (b 4, .inr (3, [.ref (b 9)])), (b 5, .inr (3, [.ref (b 10)])), (b 6, .inl (cI, 120, .inl (zA (fun xx => f (9 + xx))))), (b 7, .inl (cI, 120, .inl (zA (fun xx => f (129 + xx))))), (b 8, .inl (cI, 121, .inl (zA (fun xx => f (249 + xx))))), (b 9, .inl (cI, 121, .inl (zA (fun xx => f (370 + xx))))), (b 10, .inl (cI, 121, .inl (zA ps)))] s.heap := hP
  obtain ⟨o0, o1, o2, o3, o4, o5, o7, o8, olim, ogrd, obar, oneed, opost⟩ := id ok
  refine lv_iload_n hx hb dX1_fewestBehind_0 rfl (lv_at hl 2 rfl) ?_
  refine lv_aload_n hx hb dX1_fewestBehind_1 rfl (lv_at hl 0 rfl) ?_
  refine va_get (D := D) (ci := 1) (v := .ref (b 0)) (C := RX1) (T := TX1) (N := 5) hx hb hts in1 hown hK hP 0 rfl rfl 0 (by decide) f26 (fun _ h9 => h9) rfl dX1_fewestBehind_2 ?_
  refine va_get (D := D) (ci := 4) (v := .int (zI (f 0))) (C := RX4) (T := TX4) (N := 15) hx hb hts in4 hown hK hP 3 rfl rfl 6 (by decide) f37 (fun _ h9 => h9) rfl dX1_fewestBehind_5 ?_
  refine z_icmp_le (tgt := 15) hx hb dX1_fewestBehind_8 (by decide) (by omega) (by omega) (fun c8 => ?_) (fun c8 => ?_)
  · refine lv_aload_n hx hb dX1_fewestBehind_15 rfl (lv_at hl 0 rfl) ?_
    refine va_get (D := D) (ci := 1) (v := .ref (o 1)) (C := RX1) (T := TX1) (N := 5) hx hb hts in1 hown hK hP 0 rfl rfl 3 (by decide) f20 (fun _ h9 => h9) rfl dX1_fewestBehind_16 ?_
    refine lv_iload_n hx hb dX1_fewestBehind_19 rfl (lv_at hl 1 rfl) ?_
    refine z_bipush hx hb dX1_fewestBehind_20 (by decide +kernel) ?_
    refine z_imul hx hb dX1_fewestBehind_22 ?_
    refine lv_iload_n hx hb dX1_fewestBehind_23 rfl (lv_at hl 2 rfl) ?_
    refine lv_iload_n hx hb dX1_fewestBehind_24 rfl (lv_at hl 1 rfl) ?_
    refine z_iconst hx hb dX1_fewestBehind_25 ?_
    refine z_iadd hx hb dX1_fewestBehind_26 ?_
    refine z_mmax hx hb (hml.trans hl.1.symm) hown c90 (hts (.static Lib.Math.max.name) (by decide +kernel)) (hts (.initialized "java/lang/Math") (by decide +kernel)) (hts (.code Lib.Math.max.name Lib.Math.max.code 2 (some .int)) (by decide +kernel)) (Nat.le_of_ble_eq_true rfl) (Nat.le_of_ble_eq_true rfl) ⟨Nat.zero_le _, Nat.zero_le _⟩ ((if ea < x + 1 then x + 1 else ea)) dX1_fewestBehind_27 (by omega) (by omega) (by split <;> omega) ?_
    refine z_iadd hx hb dX1_fewestBehind_30 ?_
    refine y_rV (v := tb ((x * 121) + (if ea < x + 1 then x + 1 else ea))) (As := [.int (zI ((x * 121) + (if ea < x + 1 then x + 1 else ea)))]) (rest := []) hx hb hml hown hts hl.1 ⟨Nat.zero_le _, Nat.zero_le _⟩ (kX3_at l D cI cJ cS (o 1) (o 4) 14520 tb ((x * 121) + (if ea < x + 1 then x + 1 else ea)) (by split <;> omega) (Nat.lt_of_succ_le (Nat.le_of_ble_eq_true rfl))) (cwV 1 hts gX1_fewestBehind_X3_at rfl rfl rfl jX3_at ⟨Nat.le_of_ble_eq_true rfl, Nat.le_of_ble_eq_true rfl⟩) hK [false, true, true] hP hD rfl 3 0 rfl rfl rfl rfl rfl (Nat.le_of_ble_eq_true rfl) dX1_fewestBehind_31 ?_
    exact z_top (fbh f tb x ea) (by unfold fbh; rw [if_neg (show ¬ f 0 < ea by omega)]) (hret dX1_fewestBehind_34)
  · refine z_sipush hx hb dX1_fewestBehind_11 (by decide +kernel) ?_
    exact z_top (fbh f tb x ea) (by unfold fbh; rw [if_pos (by omega)]) (hret dX1_fewestBehind_14)

theorem est_b {f gd : Int → Int} (ok : OkF f) (hgd : ∀ x : Int, 0 ≤ x → x ≤ f 0 → 0 ≤ gd x ∧ gd x ≤ 1000) {b x : Int} (h1 : 0 ≤ x ∧ x ≤ f 0) (h2 : -1 ≤ b ∧ b ≤ f 0) : 0 ≤ est f gd b x ∧ est f gd b x ≤ 2000 := by
  have o0 := ok.1
  unfold est
  have q1 := hgd x h1.1 h1.2
  by_cases c1 : f 4 = 3
  · rw [if_pos c1]; omega
  · rw [if_neg c1]
    by_cases c2 : f 4 = 4 ∧ b ≠ -1
    · rw [if_pos c2]
      have q2 := hgd b (by omega) h2.2
      omega
    · rw [if_neg c2]; omega
theorem fbh_b {f tb : Int → Int} (ok : OkF f) (htr : ∀ x : Int, 0 ≤ x → x < 14520 → 0 ≤ tb x ∧ tb x ≤ 1000) {x e : Int} (h1 : 0 ≤ x ∧ x < f 0) : 0 ≤ fbh f tb x e ∧ fbh f tb x e ≤ 1000 := by
  have o0 := ok.1
  unfold fbh
  by_cases c1 : f 0 < e
  · rw [if_pos c1]; omega
  · rw [if_neg c1]
    exact htr _ (by split <;> omega) (by split <;> omega)
theorem thr_b {f gd tb : Int → Int} (ok : OkF f) (htr : ∀ x : Int, 0 ≤ x → x < 14520 → 0 ≤ tb x ∧ tb x ≤ 1000) {x y : Int} (h1 : 0 ≤ y ∧ y ≤ f 0) : 0 ≤ thr f gd tb x y ∧ thr f gd tb x y ≤ 1000 := by
  by_cases c : y - x < f 5 ∨ ¬ opn f gd y
  · rw [thr_no c]; omega
  · rw [thr_yes (by omega) (Classical.byContradiction (fun q => c (Or.inr q)))]
    split
    · omega
    · have := fbh_b ok htr (x := y) (e := est f gd x y) (by omega)
      unfold cap
      split <;> omega

abbrev rmX1_fewestThrough : Room := { frames := 2, cells := 0, slots := 0, locals := 43 }
theorem jX1_fewestThrough : yX1_fewestThrough.cls = RX1 ∧ yX1_fewestThrough.cls ≠ "java/lang/invoke/MethodHandle" ∧ yX1_fewestThrough.cls ≠ "java/lang/invoke/VarHandle" ∧ (parseMethodDescriptor yX1_fewestThrough.desc).map (fun d => d.parameters.length) = some 2 := by decide +kernel
set_option maxHeartbeats 4000000 in
set_option maxRecDepth 100000 in
theorem kX1_fewestThrough (l : Launch) (D : va_G) (cI cJ cS : ClassId) (l0 p0 : Nat) (b r o : Nat → Nat) (fr : Int) (f ps : Int → Int) (n : Int) (op tb gd : Int → Int) (x y : Int) (ok : OkF f) (hgd : ∀ x : Int, 0 ≤ x → x ≤ f 0 → 0 ≤ gd x ∧ gd x ≤ 1000) (hop : ∀ x : Int, 1 ≤ x → x ≤ f 0 → op x = zB (opn f gd x)) (htr : ∀ x : Int, 0 ≤ x → x < 14520 → 0 ≤ tb x ∧ tb x ≤ 1000) (h1 : 0 ≤ x ∧ x < y ∧ y ≤ f 0) : Met l yX1_fewestThrough wsX1_fewestThrough rmX1_fewestThrough (zPc D (zT cI cJ cS) [.ref l0, .int (zI (x)), .int (zI (y))] [(l0, .inr (1, [.ref (b 0), .ref p0, .ref (o 0), .ref (o 1), .ref (o 2)])), (o 0, .inr (3, [.ref (o 3)])), (o 3, .inl (cI, 121, .inl (zA op))), (o 1, .inr (3, [.ref (o 4)])), (o 4, .inl (cI, 14520, .inl (zA tb))), (p0, .inr (2, [.ref (b 0), .ref (r 0), .ref (r 1), .ref (r 2), .ref (r 3), .int (zI (fr))])), (r 2, .inr (3, [.ref (r 6)])), (r 6, .inl (cI, 121, .inl (zA gd))), (b 0, .inr (4, [.ref (b 1), .ref (b 2), .ref (b 3), .ref (b 4), .ref (b 5), .int (zI (n)), .int (zI (f 0)), .int (zI (f 1)), .int (zI (f 2)), .int (zI (f 3)), .int (zI (f 4)), .int (zI (f 5)), .int (zI (f 6)), .int (zI (f 7)), .int (zI (f 8))])), (b 1, .inr (3, [.ref (b 6)])), (b 2, .inr (3, [.ref (b 7)])), (b 3, .inr (3, [.ref (b 8)])), (b 4, .inr (3, [.ref (b 9)])), (b 5, .inr (3, [.ref (b 10)])), (b 6, .inl (cI, 120, .inl (zA (fun xx => f (9 + xx))))), (b 7, .inl (cI, 120, .inl (zA (fun xx => f (129 + xx))))), (b 8, .inl (cI, 121, .inl (zA (fun xx => f (249 + xx))))), (b 9, .inl (cI, 121, .inl (zA (fun xx => f (370 + xx))))), (b 10, .inl (cI, 121, .inl (zA ps)))]) (vp_Si (fun r => r = zI (thr f gd tb x y))) 0 0 (fun _ => False) := by
  refine zRi_of (cc := cX1_fewestThrough) (maxL := 3) (ret := (some .int)) (thr f gd tb x y) (by decide) rfl (Nat.le_of_ble_eq_true rfl) rfl ?_
  intro p e s m args below meth c Q ls hx hb hml hts hown hK hP hD hl hret
  have in1 : ∀ w ∈ wsX10, w ∈ wsX1_fewestThrough := by decide +kernel
  have in4 : ∀ w ∈ wsX40, w ∈ wsX1_fewestThrough := by decide +kernel
  have f14 := hts (.fieldLink RX1 14 "SignalSpacing$Planner" "open" "LSignalSpacing$Row;") (by decide +kernel)
  have f26 := hts (.fieldLink RX1 26 "SignalSpacing$Planner" "state" "LSignalSpacing$State;") (by decide +kernel)
  have f37 := hts (.fieldLink RX1 37 "SignalSpacing$State" "length" "I") (by decide +kernel)
  have f87 := hts (.fieldLink RX1 87 "SignalSpacing$State" "minimum" "I") (by decide +kernel)
  have c82 := hts (.methodLink RX1 82 Lib.Math.min.name) (by decide +kernel)
  have hl : lv_has ls 3 [(0, .ref l0), (1, .int (zI (x))), (2, .int (zI (y)))] := hl
  have hP : va_P D vwCl [(l0, .inr (1, [.ref (b 0), .ref p0, .ref (o 0), .ref (o 1), .ref (o 2)])), (o 0, .inr (3, [.ref (o 3)])), (o 3, .inl (cI, 121, .inl (zA op))), (o 1, .inr (3, [.ref (o 4)])), (o 4, .inl (cI, 14520, .inl (zA tb))), (p0, .inr (2, [.ref (b 0), .ref (r 0), .ref (r 1), .ref (r 2), .ref (r 3), .int (zI (fr))])), (r 2, .inr (3, [.ref (r 6)])), (r 6, .inl (cI, 121, .inl (zA gd))), (b 0, .inr (4, [.ref (b 1), .ref (b 2), .ref (b 3), .ref (b 4), .ref (b 5), .int (zI (n)), .int (zI (f 0)), .int (zI (f 1)), .int (zI (f 2)), .int (zI (f 3)), .int (zI (f 4)), .int (zI (f 5)), .int (zI (f 6)), .int (zI (f 7)), .int (zI (f 8))])), (b 1, .inr (3, [.ref (b 6)])), (b 2, .inr (3, [.ref (b 7)])), (b 3, .inr (3, [.ref (b 8)])), (b 4, .inr (3, [.ref (b 9)])), (b 5, .inr (3, [.ref (b 10)])), (b 6, .inl (cI, 120, .inl (zA (fun xx => f (9 + xx))))), (b 7, .inl (cI, 120, .inl (zA (fun xx => f (129 + xx))))), (b 8, .inl (cI, 121, .inl (zA (fun xx => f (249 + xx))))), (b 9, .inl (cI, 121, .inl (zA (fun xx => f (370 + xx))))), (b 10, .inl (cI, 121, .inl (zA ps)))] s.heap := hP
  obtain ⟨o0, o1, o2, o3, o4, o5, o7, o8, olim, ogrd, obar, oneed, opost⟩ := id ok
  refine lv_iload_n hx hb dX1_fewestThrough_0 rfl (lv_at hl 2 rfl) ?_
  refine lv_iload_n hx hb dX1_fewestThrough_1 rfl (lv_at hl 1 rfl) ?_
  refine z_isub hx hb dX1_fewestThrough_2 ?_
  refine lv_aload_n hx hb dX1_fewestThrough_3 rfl (lv_at hl 0 rfl) ?_
  refine va_get (D := D) (ci := 1) (v := .ref (b 0)) (C := RX1) (T := TX1) (N := 5) hx hb hts in1 hown hK hP 0 rfl rfl 0 (by decide) f26 (fun _ h9 => h9) rfl dX1_fewestThrough_4 ?_
  refine va_get (D := D) (ci := 4) (v := .int (zI (f 5))) (C := RX4) (T := TX4) (N := 15) hx hb hts in4 hown hK hP 8 rfl rfl 11 (by decide) f87 (fun _ h9 => h9) rfl dX1_fewestThrough_7 ?_
  refine z_icmp_lt (tgt := 24) hx hb dX1_fewestThrough_10 (by decide) (by omega) (by omega) (fun c10 => ?_) (fun c10 => ?_)
  · refine z_sipush hx hb dX1_fewestThrough_24 (by decide +kernel) ?_
    exact z_top (thr f gd tb x y) (thr_no (Or.inl (by omega))).symm (hret dX1_fewestThrough_27)
  · refine lv_aload_n hx hb dX1_fewestThrough_13 rfl (lv_at hl 0 rfl) ?_
    refine va_get (D := D) (ci := 1) (v := .ref (o 0)) (C := RX1) (T := TX1) (N := 5) hx hb hts in1 hown hK hP 0 rfl rfl 2 (by decide) f14 (fun _ h9 => h9) rfl dX1_fewestThrough_14 ?_
    refine lv_iload_n hx hb dX1_fewestThrough_17 rfl (lv_at hl 2 rfl) ?_
    refine y_rV (v := op y) (As := [.int (zI (y))]) (rest := []) hx hb hml hown hts hl.1 ⟨Nat.zero_le _, Nat.zero_le _⟩ (kX3_at l D cI cJ cS (o 0) (o 3) 121 op y (by omega) (Nat.lt_of_succ_le (Nat.le_of_ble_eq_true rfl))) (cwV 1 hts gX1_fewestThrough_X3_at rfl rfl rfl jX3_at ⟨Nat.le_of_ble_eq_true rfl, Nat.le_of_ble_eq_true rfl⟩) hK [false, true, true] hP hD rfl 3 0 rfl rfl rfl rfl rfl (Nat.le_of_ble_eq_true rfl) dX1_fewestThrough_18 ?_
    refine z_top (zB (opn f gd y)) (hop y (by omega) (by omega)) ?_
    refine z_if_ne (tgt := 28) hx hb dX1_fewestThrough_21 (by decide) (by have hz := zB_01 (opn f gd y); omega) (fun c21 => ?_) (fun c21 => ?_)
    · have c21 := zB_n0.mp c21
      refine lv_iload_n hx hb dX1_fewestThrough_28 rfl (lv_at hl 2 rfl) ?_
      refine lv_aload_n hx hb dX1_fewestThrough_29 rfl (lv_at hl 0 rfl) ?_
      refine va_get (D := D) (ci := 1) (v := .ref (b 0)) (C := RX1) (T := TX1) (N := 5) hx hb hts in1 hown hK hP 0 rfl rfl 0 (by decide) f26 (fun _ h9 => h9) rfl dX1_fewestThrough_30 ?_
      refine va_get (D := D) (ci := 4) (v := .int (zI (f 0))) (C := RX4) (T := TX4) (N := 15) hx hb hts in4 hown hK hP 8 rfl rfl 6 (by decide) f37 (fun _ h9 => h9) rfl dX1_fewestThrough_33 ?_
      refine z_icmp_ne (tgt := 41) hx hb dX1_fewestThrough_36 (by decide) (by omega) (by omega) (fun c36 => ?_) (fun c36 => ?_)
      · refine z_sipush hx hb dX1_fewestThrough_41 (by decide +kernel) ?_
        refine z_iconst hx hb dX1_fewestThrough_44 ?_
        refine lv_aload_n hx hb dX1_fewestThrough_45 rfl (lv_at hl 0 rfl) ?_
        refine lv_iload_n hx hb dX1_fewestThrough_46 rfl (lv_at hl 2 rfl) ?_
        refine lv_aload_n hx hb dX1_fewestThrough_47 rfl (lv_at hl 0 rfl) ?_
        refine lv_iload_n hx hb dX1_fewestThrough_48 rfl (lv_at hl 1 rfl) ?_
        refine lv_iload_n hx hb dX1_fewestThrough_49 rfl (lv_at hl 2 rfl) ?_
        have he9 := est_b ok hgd (b := x) (x := y) (by omega) (by omega)
        have hf9 := fbh_b ok htr (x := y) (e := est f gd x y) (by omega)
        refine y_rV (v := est f gd x y) (As := [.int (zI (x)), .int (zI (y))]) (rest := [.int (zI (y)), .ref l0, .int (zI (1)), .int (zI (1000))]) hx hb hml hown hts hl.1 ⟨Nat.zero_le _, Nat.zero_le _⟩ (kX1_earliestBehind l D cI cJ cS l0 p0 b r o fr f ps n gd x y ok (by omega) (by omega)) (cwV 2 hts gX1_fewestThrough_X1_earliestBehind rfl rfl rfl jX1_earliestBehind ⟨Nat.le_of_ble_eq_true rfl, Nat.le_of_ble_eq_true rfl⟩) hK [true, false, false, false, false, true, true, true, true, true, true, true, true, true, true, true, true, true, true] hP hD rfl 1 0 rfl rfl rfl rfl rfl (Nat.le_of_ble_eq_true rfl) dX1_fewestThrough_50 ?_
        refine y_rV (v := fbh f tb y (est f gd x y)) (As := [.int (zI (y)), .int (zI (est f gd x y))]) (rest := [.int (zI (1)), .int (zI (1000))]) hx hb hml hown hts hl.1 ⟨Nat.zero_le _, Nat.zero_le _⟩ (kX1_fewestBehind l D cI cJ cS l0 p0 b r o fr f ps n tb y (est f gd x y) ok (by omega) (by omega)) (cwV 2 hts gX1_fewestThrough_X1_fewestBehind rfl rfl rfl jX1_fewestBehind ⟨Nat.le_of_ble_eq_true rfl, Nat.le_of_ble_eq_true rfl⟩) hK [true, false, false, true, true, false, false, false, true, true, true, true, true, true, true, true, true, true, true] hP hD rfl 1 0 rfl rfl rfl rfl rfl (Nat.le_of_ble_eq_true rfl) dX1_fewestThrough_53 ?_
        refine z_iadd hx hb dX1_fewestThrough_56 ?_
        refine z_mmin hx hb (hml.trans hl.1.symm) hown c82 (hts (.static Lib.Math.min.name) (by decide +kernel)) (hts (.initialized "java/lang/Math") (by decide +kernel)) (hts (.code Lib.Math.min.name Lib.Math.min.code 2 (some .int)) (by decide +kernel)) (Nat.le_of_ble_eq_true rfl) (Nat.le_of_ble_eq_true rfl) ⟨Nat.zero_le _, Nat.zero_le _⟩ (cap (fbh f tb y (est f gd x y))) dX1_fewestThrough_57 (by omega) (by omega) (by unfold cap; split <;> omega) ?_
        exact z_top (thr f gd tb x y) (by rw [thr_yes (by omega) c21, if_neg (by omega)]) (hret dX1_fewestThrough_60)
      · refine z_iconst hx hb dX1_fewestThrough_39 ?_
        exact z_top (thr f gd tb x y) (by rw [thr_yes (by omega) c21, if_pos (by omega)]) (hret dX1_fewestThrough_40)
    · have c21 := zB_0.mp c21
      refine z_sipush hx hb dX1_fewestThrough_24 (by decide +kernel) ?_
      exact z_top (thr f gd tb x y) (thr_no (Or.inr c21)).symm (hret dX1_fewestThrough_27)

abbrev rmX1_markOpen : Room := { frames := 2, cells := 0, slots := 0, locals := 43 }
theorem jX1_markOpen : yX1_markOpen.cls = RX1 ∧ yX1_markOpen.cls ≠ "java/lang/invoke/MethodHandle" ∧ yX1_markOpen.cls ≠ "java/lang/invoke/VarHandle" ∧ (parseMethodDescriptor yX1_markOpen.desc).map (fun d => d.parameters.length) = some 0 := by decide +kernel
set_option maxHeartbeats 4000000 in
set_option maxRecDepth 100000 in
theorem kX1_markOpen (l : Launch) (D : va_G) (cI cJ cS : ClassId) (l0 p0 : Nat) (b r o : Nat → Nat) (fr : Int) (f ps : Int → Int) (n : Int) (op gd : Int → Int) (ok : OkF f) (hgd : ∀ x : Int, 0 ≤ x → x ≤ f 0 → 0 ≤ gd x ∧ gd x ≤ 1000) : Met l yX1_markOpen wsX1_markOpen rmX1_markOpen (zPc D (zT cI cJ cS) [.ref l0] [(l0, .inr (1, [.ref (b 0), .ref p0, .ref (o 0), .ref (o 1), .ref (o 2)])), (o 0, .inr (3, [.ref (o 3)])), (o 3, .inl (cI, 121, .inl (zA op))), (p0, .inr (2, [.ref (b 0), .ref (r 0), .ref (r 1), .ref (r 2), .ref (r 3), .int (zI (fr))])), (r 2, .inr (3, [.ref (r 6)])), (r 6, .inl (cI, 121, .inl (zA gd))), (b 0, .inr (4, [.ref (b 1), .ref (b 2), .ref (b 3), .ref (b 4), .ref (b 5), .int (zI (n)), .int (zI (f 0)), .int (zI (f 1)), .int (zI (f 2)), .int (zI (f 3)), .int (zI (f 4)), .int (zI (f 5)), .int (zI (f 6)), .int (zI (f 7)), .int (zI (f 8))])), (b 1, .inr (3, [.ref (b 6)])), (b 2, .inr (3, [.ref (b 7)])), (b 3, .inr (3, [.ref (b 8)])), (b 4, .inr (3, [.ref (b 9)])), (b 5, .inr (3, [.ref (b 10)])), (b 6, .inl (cI, 120, .inl (zA (fun xx => f (9 + xx))))), (b 7, .inl (cI, 120, .inl (zA (fun xx => f (129 + xx))))), (b 8, .inl (cI, 121, .inl (zA (fun xx => f (249 + xx))))), (b 9, .inl (cI, 121, .inl (zA (fun xx => f (370 + xx))))), (b 10, .inl (cI, 121, .inl (zA ps)))]) (va_Qv (fun u => ∀ x : Int, 1 ≤ x → x ≤ f 0 → u x = zB (opn f gd x)) (fun (u : Int → Int) t => va_P D vwCl [(l0, .inr (1, [.ref (b 0), .ref p0, .ref (o 0), .ref (o 1), .ref (o 2)])), (o 0, .inr (3, [.ref (o 3)])), (o 3, .inl (cI, 121, .inl (zA u))), (p0, .inr (2, [.ref (b 0), .ref (r 0), .ref (r 1), .ref (r 2), .ref (r 3), .int (zI (fr))])), (r 2, .inr (3, [.ref (r 6)])), (r 6, .inl (cI, 121, .inl (zA gd))), (b 0, .inr (4, [.ref (b 1), .ref (b 2), .ref (b 3), .ref (b 4), .ref (b 5), .int (zI (n)), .int (zI (f 0)), .int (zI (f 1)), .int (zI (f 2)), .int (zI (f 3)), .int (zI (f 4)), .int (zI (f 5)), .int (zI (f 6)), .int (zI (f 7)), .int (zI (f 8))])), (b 1, .inr (3, [.ref (b 6)])), (b 2, .inr (3, [.ref (b 7)])), (b 3, .inr (3, [.ref (b 8)])), (b 4, .inr (3, [.ref (b 9)])), (b 5, .inr (3, [.ref (b 10)])), (b 6, .inl (cI, 120, .inl (zA (fun xx => f (9 + xx))))), (b 7, .inl (cI, 120, .inl (zA (fun xx => f (129 + xx))))), (b 8, .inl (cI, 121, .inl (zA (fun xx => f (249 + xx))))), (b 9, .inl (cI, 121, .inl (zA (fun xx => f (370 + xx))))), (b 10, .inl (cI, 121, .inl (zA ps)))] t.heap) (zAd [(l0, .inr (1, [.ref (b 0), .ref p0, .ref (o 0), .ref (o 1), .ref (o 2)])), (o 0, .inr (3, [.ref (o 3)])), (o 3, .inl (cI, 121, .inl (zA op))), (p0, .inr (2, [.ref (b 0), .ref (r 0), .ref (r 1), .ref (r 2), .ref (r 3), .int (zI (fr))])), (r 2, .inr (3, [.ref (r 6)])), (r 6, .inl (cI, 121, .inl (zA gd))), (b 0, .inr (4, [.ref (b 1), .ref (b 2), .ref (b 3), .ref (b 4), .ref (b 5), .int (zI (n)), .int (zI (f 0)), .int (zI (f 1)), .int (zI (f 2)), .int (zI (f 3)), .int (zI (f 4)), .int (zI (f 5)), .int (zI (f 6)), .int (zI (f 7)), .int (zI (f 8))])), (b 1, .inr (3, [.ref (b 6)])), (b 2, .inr (3, [.ref (b 7)])), (b 3, .inr (3, [.ref (b 8)])), (b 4, .inr (3, [.ref (b 9)])), (b 5, .inr (3, [.ref (b 10)])), (b 6, .inl (cI, 120, .inl (zA (fun xx => f (9 + xx))))), (b 7, .inl (cI, 120, .inl (zA (fun xx => f (129 + xx))))), (b 8, .inl (cI, 121, .inl (zA (fun xx => f (249 + xx))))), (b 9, .inl (cI, 121, .inl (zA (fun xx => f (370 + xx))))), (b 10, .inl (cI, 121, .inl (zA ps)))])) 0 0 (zAd [(l0, .inr (1, [.ref (b 0), .ref p0, .ref (o 0), .ref (o 1), .ref (o 2)])), (o 0, .inr (3, [.ref (o 3)])), (o 3, .inl (cI, 121, .inl (zA op))), (p0, .inr (2, [.ref (b 0), .ref (r 0), .ref (r 1), .ref (r 2), .ref (r 3), .int (zI (fr))])), (r 2, .inr (3, [.ref (r 6)])), (r 6, .inl (cI, 121, .inl (zA gd))), (b 0, .inr (4, [.ref (b 1), .ref (b 2), .ref (b 3), .ref (b 4), .ref (b 5), .int (zI (n)), .int (zI (f 0)), .int (zI (f 1)), .int (zI (f 2)), .int (zI (f 3)), .int (zI (f 4)), .int (zI (f 5)), .int (zI (f 6)), .int (zI (f 7)), .int (zI (f 8))])), (b 1, .inr (3, [.ref (b 6)])), (b 2, .inr (3, [.ref (b 7)])), (b 3, .inr (3, [.ref (b 8)])), (b 4, .inr (3, [.ref (b 9)])), (b 5, .inr (3, [.ref (b 10)])), (b 6, .inl (cI, 120, .inl (zA (fun xx => f (9 + xx))))), (b 7, .inl (cI, 120, .inl (zA (fun xx => f (129 + xx))))), (b 8, .inl (cI, 121, .inl (zA (fun xx => f (249 + xx))))), (b 9, .inl (cI, 121, .inl (zA (fun xx => f (370 + xx))))), (b 10, .inl (cI, 121, .inl (zA ps)))]) := by
  refine zWv_of (cc := cX1_markOpen) (maxL := 3) (ret := none) (by decide) rfl (Nat.le_of_ble_eq_true rfl) rfl ?_
  intro p e s m args below meth c Q A ls hx hb hml hts hown hK hP hD hS hl hret
  have in1 : ∀ w ∈ wsX10, w ∈ wsX1_markOpen := by decide +kernel
  have in4 : ∀ w ∈ wsX40, w ∈ wsX1_markOpen := by decide +kernel
  have f14 := hts (.fieldLink RX1 14 "SignalSpacing$Planner" "open" "LSignalSpacing$Row;") (by decide +kernel)
  have f26 := hts (.fieldLink RX1 26 "SignalSpacing$Planner" "state" "LSignalSpacing$State;") (by decide +kernel)
  have f30 := hts (.fieldLink RX1 30 "SignalSpacing$Planner" "profile" "LSignalSpacing$Profile;") (by decide +kernel)
  have f37 := hts (.fieldLink RX1 37 "SignalSpacing$State" "length" "I") (by decide +kernel)
  have f53 := hts (.fieldLink RX1 53 "SignalSpacing$State" "barred" "LSignalSpacing$Row;") (by decide +kernel)
  have f63 := hts (.fieldLink RX1 63 "SignalSpacing$State" "aspects" "I") (by decide +kernel)
  have hl : lv_has ls 3 [(0, .ref l0)] := hl
  have hP : va_P D vwCl [(l0, .inr (1, [.ref (b 0), .ref p0, .ref (o 0), .ref (o 1), .ref (o 2)])), (o 0, .inr (3, [.ref (o 3)])), (o 3, .inl (cI, 121, .inl (zA op))), (p0, .inr (2, [.ref (b 0), .ref (r 0), .ref (r 1), .ref (r 2), .ref (r 3), .int (zI (fr))])), (r 2, .inr (3, [.ref (r 6)])), (r 6, .inl (cI, 121, .inl (zA gd))), (b 0, .inr (4, [.ref (b 1), .ref (b 2), .ref (b 3), .ref (b 4), .ref (b 5), .int (zI (n)), .int (zI (f 0)), .int (zI (f 1)), .int (zI (f 2)), .int (zI (f 3)), .int (zI (f 4)), .int (zI (f 5)), .int (zI (f 6)), .int (zI (f 7)), .int (zI (f 8))])), (b 1, .inr (3, [.ref (b 6)])), (b 2, .inr (3, [.ref (b 7)])), (b 3, .inr (3, [.ref (b 8)])), (b 4, .inr (3, [.ref (b 9)])), (b 5, .inr (3, [.ref (b 10)])), (b 6, .inl (cI, 120, .inl (zA (fun xx => f (9 + xx))))), (b 7, .inl (cI, 120, .inl (zA (fun xx => f (129 + xx))))), (b 8, .inl (cI, 121, .inl (zA (fun xx => f (249 + xx))))), (b 9, .inl (cI, 121, .inl (zA (fun xx => f (370 + xx))))), (b 10, .inl (cI, 121, .inl (zA ps)))] s.heap := hP
  obtain ⟨o0, o1, o2, o3, o4, o5, o7, o8, olim, ogrd, obar, oneed, opost⟩ := id ok
  refine z_iconst hx hb dX1_markOpen_0 ?_
  refine lv_istore_n (lv' := [(1, .int (zI (1))), (0, .ref l0)]) hx hb dX1_markOpen_1 rfl hl (by decide) rfl (fun ls hl => ?_)
  have L2 : ∀ (fuel : Nat), ∀ (x : Int) (g : Int → Int), ∀ (h1 : 1 ≤ x ∧ x ≤ f 0 + 1), ∀ (hg : ∀ y : Int, 1 ≤ y → y < x → g y = zB (opn f gd y)), (f 0 + 1 - x).toNat < fuel → ∀ (H : Heap) (locs : List Loc), va_P D vwCl [(l0, .inr (1, [.ref (b 0), .ref p0, .ref (o 0), .ref (o 1), .ref (o 2)])), (o 0, .inr (3, [.ref (o 3)])), (o 3, .inl (cI, 121, .inl (zA g))), (p0, .inr (2, [.ref (b 0), .ref (r 0), .ref (r 1), .ref (r 2), .ref (r 3), .int (zI (fr))])), (r 2, .inr (3, [.ref (r 6)])), (r 6, .inl (cI, 121, .inl (zA gd))), (b 0, .inr (4, [.ref (b 1), .ref (b 2), .ref (b 3), .ref (b 4), .ref (b 5), .int (zI (n)), .int (zI (f 0)), .int (zI (f 1)), .int (zI (f 2)), .int (zI (f 3)), .int (zI (f 4)), .int (zI (f 5)), .int (zI (f 6)), .int (zI (f 7)), .int (zI (f 8))])), (b 1, .inr (3, [.ref (b 6)])), (b 2, .inr (3, [.ref (b 7)])), (b 3, .inr (3, [.ref (b 8)])), (b 4, .inr (3, [.ref (b 9)])), (b 5, .inr (3, [.ref (b 10)])), (b 6, .inl (cI, 120, .inl (zA (fun xx => f (9 + xx))))), (b 7, .inl (cI, 120, .inl (zA (fun xx => f (129 + xx))))), (b 8, .inl (cI, 121, .inl (zA (fun xx => f (249 + xx))))), (b 9, .inl (cI, 121, .inl (zA (fun xx => f (370 + xx))))), (b 10, .inl (cI, 121, .inl (zA ps)))] H → va_S A s.heap H locs → ∀ (ls : Array Slot), lv_has ls 3 [(0, .ref l0), (1, .int (zI (x)))] → W p l e rmX1_markOpen s m args below meth c H locs 0 0 Q (F0 m 2 ls []) := by
    intro fuel
    induction fuel with
    | zero =>
      intro x g h1 hg hm
      exact absurd hm (Nat.not_lt_zero _)
    | succ fuel ih2 =>
      intro x g h1 hg hm H locs hP hS ls hl
      refine lv_iload_n hx hb dX1_markOpen_2 rfl (lv_at hl 1 rfl) ?_
      refine lv_aload_n hx hb dX1_markOpen_3 rfl (lv_at hl 0 rfl) ?_
      refine va_get (D := D) (ci := 1) (v := .ref (b 0)) (C := RX1) (T := TX1) (N := 5) hx hb hts in1 hown hK hP 0 rfl rfl 0 (by decide) f26 (fun _ h9 => h9) rfl dX1_markOpen_4 ?_
      refine va_get (D := D) (ci := 4) (v := .int (zI (f 0))) (C := RX4) (T := TX4) (N := 15) hx hb hts in4 hown hK hP 6 rfl rfl 6 (by decide) f37 (fun _ h9 => h9) rfl dX1_markOpen_7 ?_
      refine z_icmp_gt (tgt := 78) hx hb dX1_markOpen_10 (by decide) (by omega) (by omega) (fun c10 => ?_) (fun c10 => ?_)
      · exact hret g (fun y a c => hg y a (by omega)) hP hS dX1_markOpen_78
      · have J40 :  ∀ (H : Heap) (locs : List Loc), va_P D vwCl [(l0, .inr (1, [.ref (b 0), .ref p0, .ref (o 0), .ref (o 1), .ref (o 2)])), (o 0, .inr (3, [.ref (o 3)])), (o 3, .inl (cI, 121, .inl (zA g))), (p0, .inr (2, [.ref (b 0), .ref (r 0), .ref (r 1), .ref (r 2), .ref (r 3), .int (zI (fr))])), (r 2, .inr (3, [.ref (r 6)])), (r 6, .inl (cI, 121, .inl (zA gd))), (b 0, .inr (4, [.ref (b 1), .ref (b 2), .ref (b 3), .ref (b 4), .ref (b 5), .int (zI (n)), .int (zI (f 0)), .int (zI (f 1)), .int (zI (f 2)), .int (zI (f 3)), .int (zI (f 4)), .int (zI (f 5)), .int (zI (f 6)), .int (zI (f 7)), .int (zI (f 8))])), (b 1, .inr (3, [.ref (b 6)])), (b 2, .inr (3, [.ref (b 7)])), (b 3, .inr (3, [.ref (b 8)])), (b 4, .inr (3, [.ref (b 9)])), (b 5, .inr (3, [.ref (b 10)])), (b 6, .inl (cI, 120, .inl (zA (fun xx => f (9 + xx))))), (b 7, .inl (cI, 120, .inl (zA (fun xx => f (129 + xx))))), (b 8, .inl (cI, 121, .inl (zA (fun xx => f (249 + xx))))), (b 9, .inl (cI, 121, .inl (zA (fun xx => f (370 + xx))))), (b 10, .inl (cI, 121, .inl (zA ps)))] H → va_S A s.heap H locs → ∀ (ls : Array Slot), lv_has ls 3 [(0, .ref l0), (1, .int (zI (x)))] → W p l e rmX1_markOpen s m args below meth c H locs 0 0 Q (F0 m 40 ls [.int (zI (zB (f 4 ≠ 2 ∨ ¬ isLate f gd x)))]) := by
          intro  H locs hP hS ls hl
          refine lv_istore_n (lv' := [(2, .int (zI (zB (f 4 ≠ 2 ∨ ¬ isLate f gd x)))), (0, .ref l0), (1, .int (zI (x)))]) hx hb dX1_markOpen_40 rfl hl (by decide) rfl (fun ls hl => ?_)
          have J69 :  ∀ (H : Heap) (locs : List Loc), va_P D vwCl [(l0, .inr (1, [.ref (b 0), .ref p0, .ref (o 0), .ref (o 1), .ref (o 2)])), (o 0, .inr (3, [.ref (o 3)])), (o 3, .inl (cI, 121, .inl (zA g))), (p0, .inr (2, [.ref (b 0), .ref (r 0), .ref (r 1), .ref (r 2), .ref (r 3), .int (zI (fr))])), (r 2, .inr (3, [.ref (r 6)])), (r 6, .inl (cI, 121, .inl (zA gd))), (b 0, .inr (4, [.ref (b 1), .ref (b 2), .ref (b 3), .ref (b 4), .ref (b 5), .int (zI (n)), .int (zI (f 0)), .int (zI (f 1)), .int (zI (f 2)), .int (zI (f 3)), .int (zI (f 4)), .int (zI (f 5)), .int (zI (f 6)), .int (zI (f 7)), .int (zI (f 8))])), (b 1, .inr (3, [.ref (b 6)])), (b 2, .inr (3, [.ref (b 7)])), (b 3, .inr (3, [.ref (b 8)])), (b 4, .inr (3, [.ref (b 9)])), (b 5, .inr (3, [.ref (b 10)])), (b 6, .inl (cI, 120, .inl (zA (fun xx => f (9 + xx))))), (b 7, .inl (cI, 120, .inl (zA (fun xx => f (129 + xx))))), (b 8, .inl (cI, 121, .inl (zA (fun xx => f (249 + xx))))), (b 9, .inl (cI, 121, .inl (zA (fun xx => f (370 + xx))))), (b 10, .inl (cI, 121, .inl (zA ps)))] H → va_S A s.heap H locs → ∀ (ls : Array Slot), lv_has ls 3 [(2, .int (zI (zB (f 4 ≠ 2 ∨ ¬ isLate f gd x)))), (0, .ref l0), (1, .int (zI (x)))] → W p l e rmX1_markOpen s m args below meth c H locs 0 0 Q (F0 m 69 ls [.int (zI (zB (opn f gd x))), .int (zI (x)), .ref (o 0)]) := by
            intro  H locs hP hS ls hl
            refine y_wVv (As := [.int (zI (x)), .int (zI (zB (opn f gd x)))]) (rest := []) (fun (u69 : Unit) => [(l0, .inr (1, [.ref (b 0), .ref p0, .ref (o 0), .ref (o 1), .ref (o 2)])), (o 0, .inr (3, [.ref (o 3)])), (o 3, .inl (cI, 121, .inl (zA (zup g x (zB (opn f gd x)))))), (p0, .inr (2, [.ref (b 0), .ref (r 0), .ref (r 1), .ref (r 2), .ref (r 3), .int (zI (fr))])), (r 2, .inr (3, [.ref (r 6)])), (r 6, .inl (cI, 121, .inl (zA gd))), (b 0, .inr (4, [.ref (b 1), .ref (b 2), .ref (b 3), .ref (b 4), .ref (b 5), .int (zI (n)), .int (zI (f 0)), .int (zI (f 1)), .int (zI (f 2)), .int (zI (f 3)), .int (zI (f 4)), .int (zI (f 5)), .int (zI (f 6)), .int (zI (f 7)), .int (zI (f 8))])), (b 1, .inr (3, [.ref (b 6)])), (b 2, .inr (3, [.ref (b 7)])), (b 3, .inr (3, [.ref (b 8)])), (b 4, .inr (3, [.ref (b 9)])), (b 5, .inr (3, [.ref (b 10)])), (b 6, .inl (cI, 120, .inl (zA (fun xx => f (9 + xx))))), (b 7, .inl (cI, 120, .inl (zA (fun xx => f (129 + xx))))), (b 8, .inl (cI, 121, .inl (zA (fun xx => f (249 + xx))))), (b 9, .inl (cI, 121, .inl (zA (fun xx => f (370 + xx))))), (b 10, .inl (cI, 121, .inl (zA ps)))]) hx hb hml hown hts hl.1 ⟨Nat.zero_le _, Nat.zero_le _⟩ (kX3_put l D cI cJ cS (o 0) (o 3) 121 g x (zB (opn f gd x)) (by omega) (Nat.lt_of_succ_le (Nat.le_of_ble_eq_true rfl))) (cwV 2 hts gX1_markOpen_X3_put rfl rfl rfl jX3_put ⟨Nat.le_of_ble_eq_true rfl, Nat.le_of_ble_eq_true rfl⟩) hK [false, true, true] hP (zD hD rfl) hS rfl (fun _ => rfl) (fun _ => rfl) 3 0 rfl rfl rfl rfl rfl (Nat.le_of_ble_eq_true rfl) dX1_markOpen_69 (fun u69 H locs hu69 hP hS => ?_)
            refine z_iinc (lv' := [(1, .int (zI (x + 1))), (2, .int (zI (zB (f 4 ≠ 2 ∨ ¬ isLate f gd x)))), (0, .ref l0)]) hx hb 2 (x + 1) dX1_markOpen_72 hl rfl (by omega) (by decide) rfl (fun ls hl => ?_)
            refine lv_goto (tgt := 2) hx hb dX1_markOpen_75 (by decide) ?_
            exact ih2 (x + 1) (zup g x (zB (opn f gd x))) (by omega) (fun y a c => if hy : y = x then (by rw [hy]; exact zup_at _ _ _) else (by rw [zup_ne hy]; exact hg y a (by omega))) (by omega) _ _ hP hS ls (lv_sub hl [2, 0] rfl)
          refine lv_aload_n hx hb dX1_markOpen_41 rfl (lv_at hl 1 rfl) ?_
          refine va_get (D := D) (ci := 1) (v := .ref (o 0)) (C := RX1) (T := TX1) (N := 5) hx hb hts in1 hown hK hP 0 rfl rfl 2 (by decide) f14 (fun _ h9 => h9) rfl dX1_markOpen_42 ?_
          refine lv_iload_n hx hb dX1_markOpen_45 rfl (lv_at hl 2 rfl) ?_
          refine lv_iload_n hx hb dX1_markOpen_46 rfl (lv_at hl 0 rfl) ?_
          refine z_if_eq (tgt := 68) hx hb dX1_markOpen_47 (by decide) (by have hz := zB_01 (f 4 ≠ 2 ∨ ¬ isLate f gd x); omega) (fun c47 => ?_) (fun c47 => ?_)
          · have c47 := zB_0.mp c47
            refine z_iconst hx hb dX1_markOpen_68 ?_
            refine z_top (zB (opn f gd x)) (zB_f (P := opn f gd x) (fun q => c47 q.2)).symm ?_
            exact J69  _ _ hP hS ls (lv_sub hl [0, 1, 2] rfl)
          · have c47 := zB_n0.mp c47
            refine lv_aload_n hx hb dX1_markOpen_50 rfl (lv_at hl 1 rfl) ?_
            refine va_get (D := D) (ci := 1) (v := .ref (b 0)) (C := RX1) (T := TX1) (N := 5) hx hb hts in1 hown hK hP 0 rfl rfl 0 (by decide) f26 (fun _ h9 => h9) rfl dX1_markOpen_51 ?_
            refine va_get (D := D) (ci := 4) (v := .ref (b 3)) (C := RX4) (T := TX4) (N := 15) hx hb hts in4 hown hK hP 6 rfl rfl 2 (by decide) f53 (fun _ h9 => h9) rfl dX1_markOpen_54 ?_
            refine lv_iload_n hx hb dX1_markOpen_57 rfl (lv_at hl 2 rfl) ?_
            have hb9 := obar x (by omega) (by omega)
            refine y_rV (v := f (249 + x)) (As := [.int (zI (x))]) (rest := [.int (zI (x)), .ref (o 0)]) hx hb hml hown hts hl.1 ⟨Nat.zero_le _, Nat.zero_le _⟩ (kX3_at l D cI cJ cS (b 3) (b 8) 121 (fun xx => f (249 + xx)) x (by omega) (Nat.lt_of_succ_le (Nat.le_of_ble_eq_true rfl))) (cwV 1 hts gX1_markOpen_X3_at rfl rfl rfl jX3_at ⟨Nat.le_of_ble_eq_true rfl, Nat.le_of_ble_eq_true rfl⟩) hK [false, false, false, false, false, false, false, false, false, true, false, false, false, false, true] hP (zD hD rfl) rfl 3 0 rfl rfl rfl rfl rfl (Nat.le_of_ble_eq_true rfl) dX1_markOpen_58 ?_
            refine z_if_ne (tgt := 68) hx hb dX1_markOpen_61 (by decide) (by omega) (fun c61 => ?_) (fun c61 => ?_)
            · refine z_iconst hx hb dX1_markOpen_68 ?_
              refine z_top (zB (opn f gd x)) (zB_f (P := opn f gd x) (fun q => by have := q.1; omega)).symm ?_
              exact J69  _ _ hP hS ls (lv_sub hl [0, 1, 2] rfl)
            · refine z_iconst hx hb dX1_markOpen_64 ?_
              refine lv_goto (tgt := 69) hx hb dX1_markOpen_65 (by decide) ?_
              refine z_top (zB (opn f gd x)) (zB_t (P := opn f gd x) ⟨by omega, c47⟩).symm ?_
              exact J69  _ _ hP hS ls (lv_sub hl [0, 1, 2] rfl)
        refine lv_aload_n hx hb dX1_markOpen_13 rfl (lv_at hl 0 rfl) ?_
        refine va_get (D := D) (ci := 1) (v := .ref (b 0)) (C := RX1) (T := TX1) (N := 5) hx hb hts in1 hown hK hP 0 rfl rfl 0 (by decide) f26 (fun _ h9 => h9) rfl dX1_markOpen_14 ?_
        refine va_get (D := D) (ci := 4) (v := .int (zI (f 4))) (C := RX4) (T := TX4) (N := 15) hx hb hts in4 hown hK hP 6 rfl rfl 10 (by decide) f63 (fun _ h9 => h9) rfl dX1_markOpen_17 ?_
        refine z_iconst hx hb dX1_markOpen_20 ?_
        refine z_icmp_ne (tgt := 35) hx hb dX1_markOpen_21 (by decide) (by omega) (by omega) (fun c21 => ?_) (fun c21 => ?_)
        · refine z_iconst hx hb dX1_markOpen_35 ?_
          refine lv_goto (tgt := 40) hx hb dX1_markOpen_36 (by decide) ?_
          refine z_top (zB (f 4 ≠ 2 ∨ ¬ isLate f gd x)) (zB_t (P := f 4 ≠ 2 ∨ ¬ isLate f gd x) (by unfold isLate; omega)).symm ?_
          exact J40  _ _ hP hS ls (lv_sub hl [0, 1] rfl)
        · refine lv_aload_n hx hb dX1_markOpen_24 rfl (lv_at hl 0 rfl) ?_
          refine va_get (D := D) (ci := 1) (v := .ref p0) (C := RX1) (T := TX1) (N := 5) hx hb hts in1 hown hK hP 0 rfl rfl 1 (by decide) f30 (fun _ h9 => h9) rfl dX1_markOpen_25 ?_
          refine lv_iload_n hx hb dX1_markOpen_28 rfl (lv_at hl 1 rfl) ?_
          refine y_rV (v := zB (gd (sgt f x) ≤ x - sgt f x)) (As := [.int (zI (x))]) (rest := []) hx hb hml hown hts hl.1 ⟨Nat.zero_le _, Nat.zero_le _⟩ (kX2_stopsInSight l D cI cJ cS p0 b r fr f ps n gd x ok hgd (by omega)) (cwV 1 hts gX1_markOpen_X2_stopsInSight rfl rfl rfl jX2_stopsInSight ⟨Nat.le_of_ble_eq_true rfl, Nat.le_of_ble_eq_true rfl⟩) hK [false, false, false, true, true, true, true, true, true, true, true, true, true, true, true, true, true] hP (zD hD rfl) rfl 2 0 rfl rfl rfl rfl rfl (Nat.le_of_ble_eq_true rfl) dX1_markOpen_29 ?_
          refine z_if_eq (tgt := 39) hx hb dX1_markOpen_32 (by decide) (by have hz := zB_01 (gd (sgt f x) ≤ x - sgt f x); omega) (fun c32 => ?_) (fun c32 => ?_)
          · have c32 := zB_0.mp c32
            refine z_iconst hx hb dX1_markOpen_39 ?_
            refine z_top (zB (f 4 ≠ 2 ∨ ¬ isLate f gd x)) (zB_f (P := f 4 ≠ 2 ∨ ¬ isLate f gd x) (by unfold isLate; omega)).symm ?_
            exact J40  _ _ hP hS ls (lv_sub hl [0, 1] rfl)
          · have c32 := zB_n0.mp c32
            refine z_iconst hx hb dX1_markOpen_35 ?_
            refine lv_goto (tgt := 40) hx hb dX1_markOpen_36 (by decide) ?_
            refine z_top (zB (f 4 ≠ 2 ∨ ¬ isLate f gd x)) (zB_t (P := f 4 ≠ 2 ∨ ¬ isLate f gd x) (by unfold isLate; omega)).symm ?_
            exact J40  _ _ hP hS ls (lv_sub hl [0, 1] rfl)
  exact L2 _ 1 op (by omega) (fun y a c => by omega) (Nat.lt_succ_self _) _ _ hP hS ls (lv_sub hl [1, 0] rfl)

abbrev rmX1_weigh : Room := { frames := 3, cells := 0, slots := 0, locals := 65 }
theorem jX1_weigh : yX1_weigh.cls = RX1 ∧ yX1_weigh.cls ≠ "java/lang/invoke/MethodHandle" ∧ yX1_weigh.cls ≠ "java/lang/invoke/VarHandle" ∧ (parseMethodDescriptor yX1_weigh.desc).map (fun d => d.parameters.length) = some 1 := by decide +kernel
set_option maxHeartbeats 4000000 in
set_option maxRecDepth 100000 in
theorem kX1_weigh (l : Launch) (D : va_G) (cI cJ cS : ClassId) (l0 p0 : Nat) (b r o : Nat → Nat) (fr : Int) (f ps : Int → Int) (n : Int) (op tb gd : Int → Int) (x : Int) (ok : OkF f) (hgd : ∀ x : Int, 0 ≤ x → x ≤ f 0 → 0 ≤ gd x ∧ gd x ≤ 1000) (hop : ∀ x : Int, 1 ≤ x → x ≤ f 0 → op x = zB (opn f gd x)) (htr : ∀ x : Int, 0 ≤ x → x < 14520 → 0 ≤ tb x ∧ tb x ≤ 1000) (h1 : 0 ≤ x ∧ x < f 0) : Met l yX1_weigh wsX1_weigh rmX1_weigh (zPc D (zT cI cJ cS) [.ref l0, .int (zI (x))] [(l0, .inr (1, [.ref (b 0), .ref p0, .ref (o 0), .ref (o 1), .ref (o 2)])), (o 0, .inr (3, [.ref (o 3)])), (o 3, .inl (cI, 121, .inl (zA op))), (o 1, .inr (3, [.ref (o 4)])), (o 4, .inl (cI, 14520, .inl (zA tb))), (p0, .inr (2, [.ref (b 0), .ref (r 0), .ref (r 1), .ref (r 2), .ref (r 3), .int (zI (fr))])), (r 2, .inr (3, [.ref (r 6)])), (r 6, .inl (cI, 121, .inl (zA gd))), (b 0, .inr (4, [.ref (b 1), .ref (b 2), .ref (b 3), .ref (b 4), .ref (b 5), .int (zI (n)), .int (zI (f 0)), .int (zI (f 1)), .int (zI (f 2)), .int (zI (f 3)), .int (zI (f 4)), .int (zI (f 5)), .int (zI (f 6)), .int (zI (f 7)), .int (zI (f 8))])), (b 1, .inr (3, [.ref (b 6)])), (b 2, .inr (3, [.ref (b 7)])), (b 3, .inr (3, [.ref (b 8)])), (b 4, .inr (3, [.ref (b 9)])), (b 5, .inr (3, [.ref (b 10)])), (b 6, .inl (cI, 120, .inl (zA (fun xx => f (9 + xx))))), (b 7, .inl (cI, 120, .inl (zA (fun xx => f (129 + xx))))), (b 8, .inl (cI, 121, .inl (zA (fun xx => f (249 + xx))))), (b 9, .inl (cI, 121, .inl (zA (fun xx => f (370 + xx))))), (b 10, .inl (cI, 121, .inl (zA ps)))]) (va_Qv (fun u => (∀ y : Int, x < y → y ≤ f 0 → u (x * 121 + y) = wt f gd tb x y) ∧ (∀ j : Int, (j ≤ x * 121 + x ∨ x * 121 + f 0 < j) → u j = tb j) ∧ ∀ j : Int, 0 ≤ j → j < 14520 → 0 ≤ u j ∧ u j ≤ 1000) (fun (u : Int → Int) t => va_P D vwCl [(l0, .inr (1, [.ref (b 0), .ref p0, .ref (o 0), .ref (o 1), .ref (o 2)])), (o 0, .inr (3, [.ref (o 3)])), (o 3, .inl (cI, 121, .inl (zA op))), (o 1, .inr (3, [.ref (o 4)])), (o 4, .inl (cI, 14520, .inl (zA u))), (p0, .inr (2, [.ref (b 0), .ref (r 0), .ref (r 1), .ref (r 2), .ref (r 3), .int (zI (fr))])), (r 2, .inr (3, [.ref (r 6)])), (r 6, .inl (cI, 121, .inl (zA gd))), (b 0, .inr (4, [.ref (b 1), .ref (b 2), .ref (b 3), .ref (b 4), .ref (b 5), .int (zI (n)), .int (zI (f 0)), .int (zI (f 1)), .int (zI (f 2)), .int (zI (f 3)), .int (zI (f 4)), .int (zI (f 5)), .int (zI (f 6)), .int (zI (f 7)), .int (zI (f 8))])), (b 1, .inr (3, [.ref (b 6)])), (b 2, .inr (3, [.ref (b 7)])), (b 3, .inr (3, [.ref (b 8)])), (b 4, .inr (3, [.ref (b 9)])), (b 5, .inr (3, [.ref (b 10)])), (b 6, .inl (cI, 120, .inl (zA (fun xx => f (9 + xx))))), (b 7, .inl (cI, 120, .inl (zA (fun xx => f (129 + xx))))), (b 8, .inl (cI, 121, .inl (zA (fun xx => f (249 + xx))))), (b 9, .inl (cI, 121, .inl (zA (fun xx => f (370 + xx))))), (b 10, .inl (cI, 121, .inl (zA ps)))] t.heap) (zAd [(l0, .inr (1, [.ref (b 0), .ref p0, .ref (o 0), .ref (o 1), .ref (o 2)])), (o 0, .inr (3, [.ref (o 3)])), (o 3, .inl (cI, 121, .inl (zA op))), (o 1, .inr (3, [.ref (o 4)])), (o 4, .inl (cI, 14520, .inl (zA tb))), (p0, .inr (2, [.ref (b 0), .ref (r 0), .ref (r 1), .ref (r 2), .ref (r 3), .int (zI (fr))])), (r 2, .inr (3, [.ref (r 6)])), (r 6, .inl (cI, 121, .inl (zA gd))), (b 0, .inr (4, [.ref (b 1), .ref (b 2), .ref (b 3), .ref (b 4), .ref (b 5), .int (zI (n)), .int (zI (f 0)), .int (zI (f 1)), .int (zI (f 2)), .int (zI (f 3)), .int (zI (f 4)), .int (zI (f 5)), .int (zI (f 6)), .int (zI (f 7)), .int (zI (f 8))])), (b 1, .inr (3, [.ref (b 6)])), (b 2, .inr (3, [.ref (b 7)])), (b 3, .inr (3, [.ref (b 8)])), (b 4, .inr (3, [.ref (b 9)])), (b 5, .inr (3, [.ref (b 10)])), (b 6, .inl (cI, 120, .inl (zA (fun xx => f (9 + xx))))), (b 7, .inl (cI, 120, .inl (zA (fun xx => f (129 + xx))))), (b 8, .inl (cI, 121, .inl (zA (fun xx => f (249 + xx))))), (b 9, .inl (cI, 121, .inl (zA (fun xx => f (370 + xx))))), (b 10, .inl (cI, 121, .inl (zA ps)))])) 0 0 (zAd [(l0, .inr (1, [.ref (b 0), .ref p0, .ref (o 0), .ref (o 1), .ref (o 2)])), (o 0, .inr (3, [.ref (o 3)])), (o 3, .inl (cI, 121, .inl (zA op))), (o 1, .inr (3, [.ref (o 4)])), (o 4, .inl (cI, 14520, .inl (zA tb))), (p0, .inr (2, [.ref (b 0), .ref (r 0), .ref (r 1), .ref (r 2), .ref (r 3), .int (zI (fr))])), (r 2, .inr (3, [.ref (r 6)])), (r 6, .inl (cI, 121, .inl (zA gd))), (b 0, .inr (4, [.ref (b 1), .ref (b 2), .ref (b 3), .ref (b 4), .ref (b 5), .int (zI (n)), .int (zI (f 0)), .int (zI (f 1)), .int (zI (f 2)), .int (zI (f 3)), .int (zI (f 4)), .int (zI (f 5)), .int (zI (f 6)), .int (zI (f 7)), .int (zI (f 8))])), (b 1, .inr (3, [.ref (b 6)])), (b 2, .inr (3, [.ref (b 7)])), (b 3, .inr (3, [.ref (b 8)])), (b 4, .inr (3, [.ref (b 9)])), (b 5, .inr (3, [.ref (b 10)])), (b 6, .inl (cI, 120, .inl (zA (fun xx => f (9 + xx))))), (b 7, .inl (cI, 120, .inl (zA (fun xx => f (129 + xx))))), (b 8, .inl (cI, 121, .inl (zA (fun xx => f (249 + xx))))), (b 9, .inl (cI, 121, .inl (zA (fun xx => f (370 + xx))))), (b 10, .inl (cI, 121, .inl (zA ps)))]) := by
  refine zWv_of (cc := cX1_weigh) (maxL := 5) (ret := none) (by decide) rfl (Nat.le_of_ble_eq_true rfl) rfl ?_
  intro p e s m args below meth c Q A ls hx hb hml hts hown hK hP hD hS hl hret
  have in1 : ∀ w ∈ wsX10, w ∈ wsX1_weigh := by decide +kernel
  have in4 : ∀ w ∈ wsX40, w ∈ wsX1_weigh := by decide +kernel
  have f20 := hts (.fieldLink RX1 20 "SignalSpacing$Planner" "fewest" "LSignalSpacing$Row;") (by decide +kernel)
  have f26 := hts (.fieldLink RX1 26 "SignalSpacing$Planner" "state" "LSignalSpacing$State;") (by decide +kernel)
  have f37 := hts (.fieldLink RX1 37 "SignalSpacing$State" "length" "I") (by decide +kernel)
  have c82 := hts (.methodLink RX1 82 Lib.Math.min.name) (by decide +kernel)
  have hl : lv_has ls 5 [(0, .ref l0), (1, .int (zI (x)))] := hl
  have hP : va_P D vwCl [(l0, .inr (1, [.ref (b 0), .ref p0, .ref (o 0), .ref (o 1), .ref (o 2)])), (o 0, .inr (3, [.ref (o 3)])), (o 3, .inl (cI, 121, .inl (zA op))), (o 1, .inr (3, [.ref (o 4)])), (o 4, .inl (cI, 14520, .inl (zA tb))), (p0, .inr (2, [.ref (b 0), .ref (r 0), .ref (r 1), .ref (r 2), .ref (r 3), .int (zI (fr))])), (r 2, .inr (3, [.ref (r 6)])), (r 6, .inl (cI, 121, .inl (zA gd))), (b 0, .inr (4, [.ref (b 1), .ref (b 2), .ref (b 3), .ref (b 4), .ref (b 5), .int (zI (n)), .int (zI (f 0)), .int (zI (f 1)), .int (zI (f 2)), .int (zI (f 3)), .int (zI (f 4)), .int (zI (f 5)), .int (zI (f 6)), .int (zI (f 7)), .int (zI (f 8))])), (b 1, .inr (3, [.ref (b 6)])), (b 2, .inr (3, [.ref (b 7)])), (b 3, .inr (3, [.ref (b 8)])), (b 4, .inr (3, [.ref (b 9)])), (b 5, .inr (3, [.ref (b 10)])), (b 6, .inl (cI, 120, .inl (zA (fun xx => f (9 + xx))))), (b 7, .inl (cI, 120, .inl (zA (fun xx => f (129 + xx))))), (b 8, .inl (cI, 121, .inl (zA (fun xx => f (249 + xx))))), (b 9, .inl (cI, 121, .inl (zA (fun xx => f (370 + xx))))), (b 10, .inl (cI, 121, .inl (zA ps)))] s.heap := hP
  obtain ⟨o0, o1, o2, o3, o4, o5, o7, o8, olim, ogrd, obar, oneed, opost⟩ := id ok
  have hlst := lst_is ok h1.1 h1.2
  have hlf := far_b ok h1.2
  have hll := hlst.2.1
  have hll0 := hlst.1
  refine lv_aload_n hx hb dX1_weigh_0 rfl (lv_at hl 0 rfl) ?_
  refine lv_iload_n hx hb dX1_weigh_1 rfl (lv_at hl 1 rfl) ?_
  refine y_rV (v := lst f x) (As := [.int (zI (x))]) (rest := []) hx hb hml hown hts hl.1 ⟨Nat.zero_le _, Nat.zero_le _⟩ (kX1_lastBehind l D cI cJ cS l0 p0 b r o fr f ps n x ok (by omega)) (cwV 1 hts gX1_weigh_X1_lastBehind rfl rfl rfl jX1_lastBehind ⟨Nat.le_of_ble_eq_true rfl, Nat.le_of_ble_eq_true rfl⟩) hK [true, false, false, false, false, false, false, false, true, true, true, true, true, true, true, true, true, true, true] hP hD rfl 1 0 rfl rfl rfl rfl rfl (Nat.le_of_ble_eq_true rfl) dX1_weigh_2 ?_
  refine lv_istore_n (lv' := [(2, .int (zI (lst f x))), (0, .ref l0), (1, .int (zI (x)))]) hx hb dX1_weigh_5 rfl hl (by decide) rfl (fun ls hl => ?_)
  refine z_sipush hx hb dX1_weigh_6 (by decide +kernel) ?_
  refine lv_istore_n (lv' := [(3, .int (zI (1000))), (2, .int (zI (lst f x))), (0, .ref l0), (1, .int (zI (x)))]) hx hb dX1_weigh_9 rfl hl (by decide) rfl (fun ls hl => ?_)
  refine lv_aload_n hx hb dX1_weigh_10 rfl (lv_at hl 2 rfl) ?_
  refine va_get (D := D) (ci := 1) (v := .ref (b 0)) (C := RX1) (T := TX1) (N := 5) hx hb hts in1 hown hK hP 0 rfl rfl 0 (by decide) f26 (fun _ h9 => h9) rfl dX1_weigh_11 ?_
  refine va_get (D := D) (ci := 4) (v := .int (zI (f 0))) (C := RX4) (T := TX4) (N := 15) hx hb hts in4 hown hK hP 8 rfl rfl 6 (by decide) f37 (fun _ h9 => h9) rfl dX1_weigh_14 ?_
  refine lv_istore (lv' := [(4, .int (zI (f 0))), (3, .int (zI (1000))), (2, .int (zI (lst f x))), (0, .ref l0), (1, .int (zI (x)))]) hx hb dX1_weigh_17 hl (by decide) rfl (fun ls hl => ?_)
  have L19 : ∀ (fuel : Nat), ∀ (le : Int) (y : Int) (g : Int → Int), ∀ (h2 : x ≤ y ∧ y ≤ f 0), ∀ (hle : le = wt f gd tb x (y + 1)), ∀ (hlb : 0 ≤ le ∧ le ≤ 1000), ∀ (hg1 : ∀ z : Int, y < z → z ≤ f 0 → g (x * 121 + z) = wt f gd tb x z), ∀ (hg2 : ∀ j : Int, (j ≤ x * 121 + y ∨ x * 121 + f 0 < j) → g j = tb j), ∀ (hg3 : ∀ j : Int, 0 ≤ j → j < 14520 → 0 ≤ g j ∧ g j ≤ 1000), (y - x).toNat < fuel → ∀ (H : Heap) (locs : List Loc), va_P D vwCl [(l0, .inr (1, [.ref (b 0), .ref p0, .ref (o 0), .ref (o 1), .ref (o 2)])), (o 0, .inr (3, [.ref (o 3)])), (o 3, .inl (cI, 121, .inl (zA op))), (o 1, .inr (3, [.ref (o 4)])), (o 4, .inl (cI, 14520, .inl (zA g))), (p0, .inr (2, [.ref (b 0), .ref (r 0), .ref (r 1), .ref (r 2), .ref (r 3), .int (zI (fr))])), (r 2, .inr (3, [.ref (r 6)])), (r 6, .inl (cI, 121, .inl (zA gd))), (b 0, .inr (4, [.ref (b 1), .ref (b 2), .ref (b 3), .ref (b 4), .ref (b 5), .int (zI (n)), .int (zI (f 0)), .int (zI (f 1)), .int (zI (f 2)), .int (zI (f 3)), .int (zI (f 4)), .int (zI (f 5)), .int (zI (f 6)), .int (zI (f 7)), .int (zI (f 8))])), (b 1, .inr (3, [.ref (b 6)])), (b 2, .inr (3, [.ref (b 7)])), (b 3, .inr (3, [.ref (b 8)])), (b 4, .inr (3, [.ref (b 9)])), (b 5, .inr (3, [.ref (b 10)])), (b 6, .inl (cI, 120, .inl (zA (fun xx => f (9 + xx))))), (b 7, .inl (cI, 120, .inl (zA (fun xx => f (129 + xx))))), (b 8, .inl (cI, 121, .inl (zA (fun xx => f (249 + xx))))), (b 9, .inl (cI, 121, .inl (zA (fun xx => f (370 + xx))))), (b 10, .inl (cI, 121, .inl (zA ps)))] H → va_S A s.heap H locs → ∀ (ls : Array Slot), lv_has ls 5 [(0, .ref l0), (1, .int (zI (x))), (2, .int (zI (lst f x))), (3, .int (zI (le))), (4, .int (zI (y)))] → W p l e rmX1_weigh s m args below meth c H locs 0 0 Q (F0 m 19 ls []) := by
    intro fuel
    induction fuel with
    | zero =>
      intro le y g h2 hle hlb hg1 hg2 hg3 hm
      exact absurd hm (Nat.not_lt_zero _)
    | succ fuel ih19 =>
      intro le y g h2 hle hlb hg1 hg2 hg3 hm H locs hP hS ls hl
      refine lv_iload hx hb dX1_weigh_19 (lv_at hl 4 rfl) ?_
      refine lv_iload_n hx hb dX1_weigh_21 rfl (lv_at hl 1 rfl) ?_
      refine z_icmp_le (tgt := 64) hx hb dX1_weigh_22 (by decide) (by omega) (by omega) (fun c22 => ?_) (fun c22 => ?_)
      · exact hret g ⟨fun y2 a c => hg1 y2 (by omega) c, fun j a => hg2 j (by omega), hg3⟩ hP hS dX1_weigh_64
      · have J43 : ∀ (le2 : Int), ∀ (hq : le2 = wt f gd tb x y), ∀ (hqb : 0 ≤ le2 ∧ le2 ≤ 1000), ∀ (H : Heap) (locs : List Loc), va_P D vwCl [(l0, .inr (1, [.ref (b 0), .ref p0, .ref (o 0), .ref (o 1), .ref (o 2)])), (o 0, .inr (3, [.ref (o 3)])), (o 3, .inl (cI, 121, .inl (zA op))), (o 1, .inr (3, [.ref (o 4)])), (o 4, .inl (cI, 14520, .inl (zA g))), (p0, .inr (2, [.ref (b 0), .ref (r 0), .ref (r 1), .ref (r 2), .ref (r 3), .int (zI (fr))])), (r 2, .inr (3, [.ref (r 6)])), (r 6, .inl (cI, 121, .inl (zA gd))), (b 0, .inr (4, [.ref (b 1), .ref (b 2), .ref (b 3), .ref (b 4), .ref (b 5), .int (zI (n)), .int (zI (f 0)), .int (zI (f 1)), .int (zI (f 2)), .int (zI (f 3)), .int (zI (f 4)), .int (zI (f 5)), .int (zI (f 6)), .int (zI (f 7)), .int (zI (f 8))])), (b 1, .inr (3, [.ref (b 6)])), (b 2, .inr (3, [.ref (b 7)])), (b 3, .inr (3, [.ref (b 8)])), (b 4, .inr (3, [.ref (b 9)])), (b 5, .inr (3, [.ref (b 10)])), (b 6, .inl (cI, 120, .inl (zA (fun xx => f (9 + xx))))), (b 7, .inl (cI, 120, .inl (zA (fun xx => f (129 + xx))))), (b 8, .inl (cI, 121, .inl (zA (fun xx => f (249 + xx))))), (b 9, .inl (cI, 121, .inl (zA (fun xx => f (370 + xx))))), (b 10, .inl (cI, 121, .inl (zA ps)))] H → va_S A s.heap H locs → ∀ (ls : Array Slot), lv_has ls 5 [(0, .ref l0), (1, .int (zI (x))), (2, .int (zI (lst f x))), (3, .int (zI (le2))), (4, .int (zI (y)))] → W p l e rmX1_weigh s m args below meth c H locs 0 0 Q (F0 m 43 ls []) := by
          intro le2 hq hqb H locs hP hS ls hl
          refine lv_aload_n hx hb dX1_weigh_43 rfl (lv_at hl 0 rfl) ?_
          refine va_get (D := D) (ci := 1) (v := .ref (o 1)) (C := RX1) (T := TX1) (N := 5) hx hb hts in1 hown hK hP 0 rfl rfl 3 (by decide) f20 (fun _ h9 => h9) rfl dX1_weigh_44 ?_
          refine lv_iload_n hx hb dX1_weigh_47 rfl (lv_at hl 1 rfl) ?_
          refine z_bipush hx hb dX1_weigh_48 (by decide +kernel) ?_
          refine z_imul hx hb dX1_weigh_50 ?_
          refine lv_iload hx hb dX1_weigh_51 (lv_at hl 4 rfl) ?_
          refine z_iadd hx hb dX1_weigh_53 ?_
          refine lv_iload_n hx hb dX1_weigh_54 rfl (lv_at hl 3 rfl) ?_
          refine y_wVv (As := [.int (zI ((x * 121) + y)), .int (zI (le2))]) (rest := []) (fun (u55 : Unit) => [(l0, .inr (1, [.ref (b 0), .ref p0, .ref (o 0), .ref (o 1), .ref (o 2)])), (o 0, .inr (3, [.ref (o 3)])), (o 3, .inl (cI, 121, .inl (zA op))), (o 1, .inr (3, [.ref (o 4)])), (o 4, .inl (cI, 14520, .inl (zA (zup g ((x * 121) + y) le2)))), (p0, .inr (2, [.ref (b 0), .ref (r 0), .ref (r 1), .ref (r 2), .ref (r 3), .int (zI (fr))])), (r 2, .inr (3, [.ref (r 6)])), (r 6, .inl (cI, 121, .inl (zA gd))), (b 0, .inr (4, [.ref (b 1), .ref (b 2), .ref (b 3), .ref (b 4), .ref (b 5), .int (zI (n)), .int (zI (f 0)), .int (zI (f 1)), .int (zI (f 2)), .int (zI (f 3)), .int (zI (f 4)), .int (zI (f 5)), .int (zI (f 6)), .int (zI (f 7)), .int (zI (f 8))])), (b 1, .inr (3, [.ref (b 6)])), (b 2, .inr (3, [.ref (b 7)])), (b 3, .inr (3, [.ref (b 8)])), (b 4, .inr (3, [.ref (b 9)])), (b 5, .inr (3, [.ref (b 10)])), (b 6, .inl (cI, 120, .inl (zA (fun xx => f (9 + xx))))), (b 7, .inl (cI, 120, .inl (zA (fun xx => f (129 + xx))))), (b 8, .inl (cI, 121, .inl (zA (fun xx => f (249 + xx))))), (b 9, .inl (cI, 121, .inl (zA (fun xx => f (370 + xx))))), (b 10, .inl (cI, 121, .inl (zA ps)))]) hx hb hml hown hts hl.1 ⟨Nat.zero_le _, Nat.zero_le _⟩ (kX3_put l D cI cJ cS (o 1) (o 4) 14520 g ((x * 121) + y) le2 (by omega) (Nat.lt_of_succ_le (Nat.le_of_ble_eq_true rfl))) (cwV 2 hts gX1_weigh_X3_put rfl rfl rfl jX3_put ⟨Nat.le_of_ble_eq_true rfl, Nat.le_of_ble_eq_true rfl⟩) hK [false, false, false, true, true] hP (zD hD rfl) hS rfl (fun _ => rfl) (fun _ => rfl) 3 0 rfl rfl rfl rfl rfl (Nat.le_of_ble_eq_true rfl) dX1_weigh_55 (fun u55 H locs hu55 hP hS => ?_)
          refine z_iinc (lv' := [(4, .int (zI (y - 1))), (0, .ref l0), (1, .int (zI (x))), (2, .int (zI (lst f x))), (3, .int (zI (le2)))]) hx hb 4 (y - 1) dX1_weigh_58 hl rfl (by omega) (by decide) rfl (fun ls hl => ?_)
          refine lv_goto (tgt := 19) hx hb dX1_weigh_61 (by decide) ?_
          exact ih19 le2 (y - 1) (zup g ((x * 121) + y) le2) (by omega) (by rw [show y - 1 + 1 = y by omega]; exact hq) hqb (fun z a c => if hz : z = y then (by rw [hz, zup_at]; exact hq) else (by rw [zup_ne (by omega)]; exact hg1 z (by omega) c)) (fun j a => by rw [zup_ne (by omega)]; exact hg2 j (by omega)) (fun j a c => if hj : j = x * 121 + y then (by rw [hj, zup_at]; exact hqb) else (by rw [zup_ne hj]; exact hg3 j a c)) (by omega) _ _ hP hS ls (lv_sub hl [1, 2, 3, 4, 0] rfl)
        refine lv_iload hx hb dX1_weigh_25 (lv_at hl 4 rfl) ?_
        refine lv_iload_n hx hb dX1_weigh_27 rfl (lv_at hl 2 rfl) ?_
        refine z_icmp_gt (tgt := 43) hx hb dX1_weigh_28 (by decide) (by omega) (by omega) (fun c28 => ?_) (fun c28 => ?_)
        · exact J43 le (by rw [wt_s (by omega : y ≤ f 0), if_neg (show ¬ y ≤ lst f x by omega), ← hle]) hlb _ _ hP hS ls (lv_sub hl [0, 1, 2, 3, 4] rfl)
        · refine lv_iload_n hx hb dX1_weigh_31 rfl (lv_at hl 3 rfl) ?_
          refine lv_aload_n hx hb dX1_weigh_32 rfl (lv_at hl 0 rfl) ?_
          refine lv_iload_n hx hb dX1_weigh_33 rfl (lv_at hl 1 rfl) ?_
          refine lv_iload hx hb dX1_weigh_34 (lv_at hl 4 rfl) ?_
          have hte : thr f gd g x y = thr f gd tb x y := thr_congr h1.1 (fun j a => hg2 j (by omega)) (by omega)
          have htb := thr_b (gd := gd) ok htr (x := x) (y := y) (by omega)
          refine y_rV (v := thr f gd g x y) (As := [.int (zI (x)), .int (zI (y))]) (rest := [.int (zI (le))]) hx hb hml hown hts hl.1 ⟨Nat.zero_le _, Nat.zero_le _⟩ (kX1_fewestThrough l D cI cJ cS l0 p0 b r o fr f ps n op g gd x y ok hgd hop hg3 (by omega)) (cwV 2 hts gX1_weigh_X1_fewestThrough rfl rfl rfl jX1_fewestThrough ⟨Nat.le_of_ble_eq_true rfl, Nat.le_of_ble_eq_true rfl⟩) hK [true, true, true, true, true, true, true, true, true, true, true, true, true, true, true, true, true, true, true] hP (zD hD rfl) rfl 1 0 rfl rfl rfl rfl rfl (Nat.le_of_ble_eq_true rfl) dX1_weigh_36 ?_
          refine z_top (thr f gd tb x y) hte ?_
          refine z_mmin hx hb (hml.trans hl.1.symm) hown c82 (hts (.static Lib.Math.min.name) (by decide +kernel)) (hts (.initialized "java/lang/Math") (by decide +kernel)) (hts (.code Lib.Math.min.name Lib.Math.min.code 2 (some .int)) (by decide +kernel)) (Nat.le_of_ble_eq_true rfl) (Nat.le_of_ble_eq_true rfl) ⟨Nat.zero_le _, Nat.zero_le _⟩ ((if thr f gd tb x y < le then thr f gd tb x y else le)) dX1_weigh_39 (by omega) (by omega) (by split <;> omega) ?_
          refine lv_istore_n (lv' := [(3, .int (zI ((if thr f gd tb x y < le then thr f gd tb x y else le)))), (0, .ref l0), (1, .int (zI (x))), (2, .int (zI (lst f x))), (4, .int (zI (y)))]) hx hb dX1_weigh_42 rfl hl (by decide) rfl (fun ls hl => ?_)
          exact J43 (if thr f gd tb x y < le then thr f gd tb x y else le) (by rw [wt_s (by omega : y ≤ f 0), if_pos (show y ≤ lst f x by omega), ← hle]) (by split <;> omega) _ _ hP hS ls (lv_sub hl [1, 2, 3, 0, 4] rfl)
  exact L19 _ 1000 (f 0) tb (by omega) (by rw [wt_top]) (by omega) (fun z a c => by omega) (fun j _ => rfl) htr (Nat.lt_succ_self _) _ _ hP hS ls (lv_sub hl [3, 4, 2, 1, 0] rfl)

abbrev rmX1_firstBehind : Room := { frames := 3, cells := 0, slots := 0, locals := 65 }
theorem jX1_firstBehind : yX1_firstBehind.cls = RX1 ∧ yX1_firstBehind.cls ≠ "java/lang/invoke/MethodHandle" ∧ yX1_firstBehind.cls ≠ "java/lang/invoke/VarHandle" ∧ (parseMethodDescriptor yX1_firstBehind.desc).map (fun d => d.parameters.length) = some 2 := by decide +kernel
set_option maxHeartbeats 4000000 in
set_option maxRecDepth 100000 in
theorem kX1_firstBehind (l : Launch) (D : va_G) (cI cJ cS : ClassId) (l0 p0 : Nat) (b r o : Nat → Nat) (fr : Int) (f ps : Int → Int) (n : Int) (op tb gd : Int → Int) (x ea : Int) (ok : OkF f) (hgd : ∀ x : Int, 0 ≤ x → x ≤ f 0 → 0 ≤ gd x ∧ gd x ≤ 1000) (hop : ∀ x : Int, 1 ≤ x → x ≤ f 0 → op x = zB (opn f gd x)) (htr : ∀ x : Int, 0 ≤ x → x < 14520 → 0 ≤ tb x ∧ tb x ≤ 1000) (htab : ∀ x : Int, 0 ≤ x → x < f 0 → Tab f gd tb x) (h1 : 0 ≤ x ∧ x < f 0) (h2 : -1000000 ≤ ea ∧ ea ≤ 1000000) (hc : fbh f tb x ea ≠ 1000) : Met l yX1_firstBehind wsX1_firstBehind rmX1_firstBehind (zPc D (zT cI cJ cS) [.ref l0, .int (zI (x)), .int (zI (ea))] [(l0, .inr (1, [.ref (b 0), .ref p0, .ref (o 0), .ref (o 1), .ref (o 2)])), (o 0, .inr (3, [.ref (o 3)])), (o 3, .inl (cI, 121, .inl (zA op))), (o 1, .inr (3, [.ref (o 4)])), (o 4, .inl (cI, 14520, .inl (zA tb))), (p0, .inr (2, [.ref (b 0), .ref (r 0), .ref (r 1), .ref (r 2), .ref (r 3), .int (zI (fr))])), (r 2, .inr (3, [.ref (r 6)])), (r 6, .inl (cI, 121, .inl (zA gd))), (b 0, .inr (4, [.ref (b 1), .ref (b 2), .ref (b 3), .ref (b 4), .ref (b 5), .int (zI (n)), .int (zI (f 0)), .int (zI (f 1)), .int (zI (f 2)), .int (zI (f 3)), .int (zI (f 4)), .int (zI (f 5)), .int (zI (f 6)), .int (zI (f 7)), .int (zI (f 8))])), (b 1, .inr (3, [.ref (b 6)])), (b 2, .inr (3, [.ref (b 7)])), (b 3, .inr (3, [.ref (b 8)])), (b 4, .inr (3, [.ref (b 9)])), (b 5, .inr (3, [.ref (b 10)])), (b 6, .inl (cI, 120, .inl (zA (fun xx => f (9 + xx))))), (b 7, .inl (cI, 120, .inl (zA (fun xx => f (129 + xx))))), (b 8, .inl (cI, 121, .inl (zA (fun xx => f (249 + xx))))), (b 9, .inl (cI, 121, .inl (zA (fun xx => f (370 + xx))))), (b 10, .inl (cI, 121, .inl (zA ps)))]) (vp_Si (fun r => r = zI (nxt f gd tb x ea))) 0 0 (fun _ => False) := by
  refine zRi_of (cc := cX1_firstBehind) (maxL := 6) (ret := (some .int)) (nxt f gd tb x ea) (by decide) rfl (Nat.le_of_ble_eq_true rfl) rfl ?_
  intro p e s m args below meth c Q ls hx hb hml hts hown hK hP hD hl hret
  have c90 := hts (.methodLink RX1 90 Lib.Math.max.name) (by decide +kernel)
  have hl : lv_has ls 6 [(0, .ref l0), (1, .int (zI (x))), (2, .int (zI (ea)))] := hl
  have hP : va_P D vwCl [(l0, .inr (1, [.ref (b 0), .ref p0, .ref (o 0), .ref (o 1), .ref (o 2)])), (o 0, .inr (3, [.ref (o 3)])), (o 3, .inl (cI, 121, .inl (zA op))), (o 1, .inr (3, [.ref (o 4)])), (o 4, .inl (cI, 14520, .inl (zA tb))), (p0, .inr (2, [.ref (b 0), .ref (r 0), .ref (r 1), .ref (r 2), .ref (r 3), .int (zI (fr))])), (r 2, .inr (3, [.ref (r 6)])), (r 6, .inl (cI, 121, .inl (zA gd))), (b 0, .inr (4, [.ref (b 1), .ref (b 2), .ref (b 3), .ref (b 4), .ref (b 5), .int (zI (n)), .int (zI (f 0)), .int (zI (f 1)), .int (zI (f 2)), .int (zI (f 3)), .int (zI (f 4)), .int (zI (f 5)), .int (zI (f 6)), .int (zI (f 7)), .int (zI (f 8))])), (b 1, .inr (3, [.ref (b 6)])), (b 2, .inr (3, [.ref (b 7)])), (b 3, .inr (3, [.ref (b 8)])), (b 4, .inr (3, [.ref (b 9)])), (b 5, .inr (3, [.ref (b 10)])), (b 6, .inl (cI, 120, .inl (zA (fun xx => f (9 + xx))))), (b 7, .inl (cI, 120, .inl (zA (fun xx => f (129 + xx))))), (b 8, .inl (cI, 121, .inl (zA (fun xx => f (249 + xx))))), (b 9, .inl (cI, 121, .inl (zA (fun xx => f (370 + xx))))), (b 10, .inl (cI, 121, .inl (zA ps)))] s.heap := hP
  obtain ⟨o0, o1, o2, o3, o4, o5, o7, o8, olim, ogrd, obar, oneed, opost⟩ := id ok
  have hlst := lst_is ok h1.1 h1.2
  have hf := far_b ok h1.2
  have hls := hlst.2.1
  have hll0 := hlst.1
  have hex := nxt_ex ok h1.1 h1.2 (htab x h1.1 h1.2) hc
  have hfb := fbh_b ok htr (x := x) (e := ea) h1
  refine lv_aload_n hx hb dX1_firstBehind_0 rfl (lv_at hl 0 rfl) ?_
  refine lv_iload_n hx hb dX1_firstBehind_1 rfl (lv_at hl 1 rfl) ?_
  refine lv_iload_n hx hb dX1_firstBehind_2 rfl (lv_at hl 2 rfl) ?_
  refine y_rV (v := fbh f tb x ea) (As := [.int (zI (x)), .int (zI (ea))]) (rest := []) hx hb hml hown hts hl.1 ⟨Nat.zero_le _, Nat.zero_le _⟩ (kX1_fewestBehind l D cI cJ cS l0 p0 b r o fr f ps n tb x ea ok (by omega) (by omega)) (cwV 2 hts gX1_firstBehind_X1_fewestBehind rfl rfl rfl jX1_fewestBehind ⟨Nat.le_of_ble_eq_true rfl, Nat.le_of_ble_eq_true rfl⟩) hK [true, false, false, true, true, false, false, false, true, true, true, true, true, true, true, true, true, true, true] hP hD rfl 1 0 rfl rfl rfl rfl rfl (Nat.le_of_ble_eq_true rfl) dX1_firstBehind_3 ?_
  refine lv_istore_n (lv' := [(3, .int (zI (fbh f tb x ea))), (0, .ref l0), (1, .int (zI (x))), (2, .int (zI (ea)))]) hx hb dX1_firstBehind_6 rfl hl (by decide) rfl (fun ls hl => ?_)
  refine lv_aload_n hx hb dX1_firstBehind_7 rfl (lv_at hl 1 rfl) ?_
  refine lv_iload_n hx hb dX1_firstBehind_8 rfl (lv_at hl 2 rfl) ?_
  refine y_rV (v := lst f x) (As := [.int (zI (x))]) (rest := []) hx hb hml hown hts hl.1 ⟨Nat.zero_le _, Nat.zero_le _⟩ (kX1_lastBehind l D cI cJ cS l0 p0 b r o fr f ps n x ok (by omega)) (cwV 1 hts gX1_firstBehind_X1_lastBehind rfl rfl rfl jX1_lastBehind ⟨Nat.le_of_ble_eq_true rfl, Nat.le_of_ble_eq_true rfl⟩) hK [true, false, false, false, false, false, false, false, true, true, true, true, true, true, true, true, true, true, true] hP hD rfl 1 0 rfl rfl rfl rfl rfl (Nat.le_of_ble_eq_true rfl) dX1_firstBehind_9 ?_
  refine lv_istore (lv' := [(4, .int (zI (lst f x))), (3, .int (zI (fbh f tb x ea))), (0, .ref l0), (1, .int (zI (x))), (2, .int (zI (ea)))]) hx hb dX1_firstBehind_12 hl (by decide) rfl (fun ls hl => ?_)
  refine lv_iload_n hx hb dX1_firstBehind_14 rfl (lv_at hl 4 rfl) ?_
  refine lv_iload_n hx hb dX1_firstBehind_15 rfl (lv_at hl 3 rfl) ?_
  refine z_iconst hx hb dX1_firstBehind_16 ?_
  refine z_iadd hx hb dX1_firstBehind_17 ?_
  refine z_mmax hx hb (hml.trans hl.1.symm) hown c90 (hts (.static Lib.Math.max.name) (by decide +kernel)) (hts (.initialized "java/lang/Math") (by decide +kernel)) (hts (.code Lib.Math.max.name Lib.Math.max.code 2 (some .int)) (by decide +kernel)) (Nat.le_of_ble_eq_true rfl) (Nat.le_of_ble_eq_true rfl) ⟨Nat.zero_le _, Nat.zero_le _⟩ ((if ea < x + 1 then x + 1 else ea)) dX1_firstBehind_18 (by omega) (by omega) (by split <;> omega) ?_
  refine lv_istore (lv' := [(5, .int (zI ((if ea < x + 1 then x + 1 else ea)))), (4, .int (zI (lst f x))), (3, .int (zI (fbh f tb x ea))), (0, .ref l0), (1, .int (zI (x))), (2, .int (zI (ea)))]) hx hb dX1_firstBehind_21 hl (by decide) rfl (fun ls hl => ?_)
  have L23 : ∀ (fuel : Nat), ∀ (y : Int), ∀ (h3 : x < y ∧ ea ≤ y ∧ y ≤ lst f x), ∀ (h4 : ∀ z : Int, x < z → ea ≤ z → z < y → thr f gd tb x z ≠ fbh f tb x ea), (lst f x - y).toNat < fuel → ∀ (ls : Array Slot), lv_has ls 6 [(0, .ref l0), (1, .int (zI (x))), (2, .int (zI (ea))), (3, .int (zI (fbh f tb x ea))), (4, .int (zI (lst f x))), (5, .int (zI (y)))] → W p l e rmX1_firstBehind s m args below meth c s.heap [] 0 0 Q (F0 m 23 ls []) := by
    intro fuel
    induction fuel with
    | zero =>
      intro y h3 h4 hm
      exact absurd hm (Nat.not_lt_zero _)
    | succ fuel ih23 =>
      intro y h3 h4 hm ls hl
      refine lv_iload hx hb dX1_firstBehind_23 (lv_at hl 5 rfl) ?_
      refine lv_iload hx hb dX1_firstBehind_25 (lv_at hl 4 rfl) ?_
      refine z_icmp_ge (tgt := 47) hx hb dX1_firstBehind_27 (by decide) (by omega) (by omega) (fun c27 => ?_) (fun c27 => ?_)
      · refine lv_iload hx hb dX1_firstBehind_47 (lv_at hl 5 rfl) ?_
        exact z_top (nxt f gd tb x ea) (nxt_of ⟨h3.1, h3.2.1, h3.2.2, (by
        obtain ⟨w, w1, w2, w3, w4⟩ := hex
        by_cases hw : w = y
        · rw [← hw]; exact w4
        · exact absurd w4 (h4 w w1 w2 (by omega))), h4⟩) (hret dX1_firstBehind_49)
      · refine lv_aload_n hx hb dX1_firstBehind_30 rfl (lv_at hl 0 rfl) ?_
        refine lv_iload_n hx hb dX1_firstBehind_31 rfl (lv_at hl 1 rfl) ?_
        refine lv_iload hx hb dX1_firstBehind_32 (lv_at hl 5 rfl) ?_
        have htb := thr_b (gd := gd) ok htr (x := x) (y := y) (by omega)
        refine y_rV (v := thr f gd tb x y) (As := [.int (zI (x)), .int (zI (y))]) (rest := []) hx hb hml hown hts hl.1 ⟨Nat.zero_le _, Nat.zero_le _⟩ (kX1_fewestThrough l D cI cJ cS l0 p0 b r o fr f ps n op tb gd x y ok hgd hop htr (by omega)) (cwV 2 hts gX1_firstBehind_X1_fewestThrough rfl rfl rfl jX1_fewestThrough ⟨Nat.le_of_ble_eq_true rfl, Nat.le_of_ble_eq_true rfl⟩) hK [true, true, true, true, true, true, true, true, true, true, true, true, true, true, true, true, true, true, true] hP hD rfl 1 0 rfl rfl rfl rfl rfl (Nat.le_of_ble_eq_true rfl) dX1_firstBehind_34 ?_
        refine lv_iload_n hx hb dX1_firstBehind_37 rfl (lv_at hl 3 rfl) ?_
        refine z_icmp_eq (tgt := 47) hx hb dX1_firstBehind_38 (by decide) (by omega) (by omega) (fun c38 => ?_) (fun c38 => ?_)
        · refine lv_iload hx hb dX1_firstBehind_47 (lv_at hl 5 rfl) ?_
          exact z_top (nxt f gd tb x ea) (nxt_of ⟨h3.1, h3.2.1, h3.2.2, c38, h4⟩) (hret dX1_firstBehind_49)
        · refine z_iinc (lv' := [(5, .int (zI (y + 1))), (0, .ref l0), (1, .int (zI (x))), (2, .int (zI (ea))), (3, .int (zI (fbh f tb x ea))), (4, .int (zI (lst f x)))]) hx hb 5 (y + 1) dX1_firstBehind_41 hl rfl (by omega) (by decide) rfl (fun ls hl => ?_)
          refine lv_goto (tgt := 23) hx hb dX1_firstBehind_44 (by decide) ?_
          exact ih23 (y + 1) (by omega) (fun z a c d => if hz : z = y then (by rw [hz]; exact c38) else h4 z a c (by omega)) (by omega) ls (lv_sub hl [1, 2, 3, 4, 5, 0] rfl)
  exact L23 _ (if ea < x + 1 then x + 1 else ea) (by obtain ⟨w, w1, w2, w3, w4⟩ := hex; split <;> omega) (fun z a c d => by split at d <;> omega) (Nat.lt_succ_self _) ls (lv_sub hl [3, 4, 5, 2, 1, 0] rfl)

