/-! ===== SignalSpacing$Survey ===== -/
abbrev rmX5_note : Room := { frames := 1, cells := 0, slots := 0, locals := 22 }
theorem jX5_note : yX5_note.cls = RX5 ∧ yX5_note.cls ≠ "java/lang/invoke/MethodHandle" ∧ yX5_note.cls ≠ "java/lang/invoke/VarHandle" ∧ (parseMethodDescriptor yX5_note.desc).map (fun d => d.parameters.length) = some 3 := by decide +kernel
set_option maxHeartbeats 4000000 in
set_option maxRecDepth 100000 in
theorem kX5_note (l : Launch) (D : va_G) (cI cJ cS : ClassId) (s0 p0 : Nat) (b w : Nat → Nat) (g : Int → Int) (L : List Int) (P : Prop) (k x : Int) (hF : Fnd g L) (hL : L.length < 363) : Met l yX5_note wsX5_note rmX5_note (zPc D (zT cI cJ cS) [.ref s0, .int (zI (zB P)), .int (zI (k)), .int (zI (x))] [(s0, .inr (5, [.ref (b 0), .ref p0, .ref (w 0), .int (zI (((L).length : Int)))])), (w 0, .inr (3, [.ref (w 1)])), (w 1, .inl (cI, 363, .inl (zA g)))]) (va_Qv (fun u => Fnd u (L ++ zl P (1000 * k + x))) (fun (u : Int → Int) t => va_P D vwCl [(s0, .inr (5, [.ref (b 0), .ref p0, .ref (w 0), .int (zI (((L ++ zl P (1000 * k + x)).length : Int)))])), (w 0, .inr (3, [.ref (w 1)])), (w 1, .inl (cI, 363, .inl (zA u)))] t.heap) (zAd [(s0, .inr (5, [.ref (b 0), .ref p0, .ref (w 0), .int (zI (((L).length : Int)))])), (w 0, .inr (3, [.ref (w 1)])), (w 1, .inl (cI, 363, .inl (zA g)))])) 0 0 (zAd [(s0, .inr (5, [.ref (b 0), .ref p0, .ref (w 0), .int (zI (((L).length : Int)))])), (w 0, .inr (3, [.ref (w 1)])), (w 1, .inl (cI, 363, .inl (zA g)))]) := by
  refine zWv_of (cc := cX5_note) (maxL := 4) (ret := none) (by decide) rfl (Nat.le_of_ble_eq_true rfl) rfl ?_
  intro p e s m args below meth c Q A ls hx hb hml hts hown hK hP hD hS hl hret
  have in5 : ∀ w ∈ wsX50, w ∈ wsX5_note := by decide +kernel
  have f16 := hts (.fieldLink RX5 16 "SignalSpacing$Survey" "found" "LSignalSpacing$Row;") (by decide +kernel)
  have f28 := hts (.fieldLink RX5 28 "SignalSpacing$Survey" "count" "I") (by decide +kernel)
  have hl : lv_has ls 4 [(0, .ref s0), (1, .int (zI (zB P))), (2, .int (zI (k))), (3, .int (zI (x)))] := hl
  have hP : va_P D vwCl [(s0, .inr (5, [.ref (b 0), .ref p0, .ref (w 0), .int (zI (((L).length : Int)))])), (w 0, .inr (3, [.ref (w 1)])), (w 1, .inl (cI, 363, .inl (zA g)))] s.heap := hP
  refine lv_iload_n hx hb dX5_note_0 rfl (lv_at hl 1 rfl) ?_
  refine z_if_eq (tgt := 32) hx hb dX5_note_1 (by decide) (by have hz := zB_01 P; omega) (fun c1 => ?_) (fun c1 => ?_)
  · have c1 := zB_0.mp c1
    have e9 : zl P (1000 * k + x) = [] := zl_f c1 _
    have e8 : L ++ zl P (1000 * k + x) = L := by rw [e9, List.append_nil]
    have hP : va_P D vwCl [(s0, .inr (5, [.ref (b 0), .ref p0, .ref (w 0), .int (zI (((L ++ zl P (1000 * k + x)).length : Int)))])), (w 0, .inr (3, [.ref (w 1)])), (w 1, .inl (cI, 363, .inl (zA g)))] s.heap := by rw [e8]; exact hP
    exact hret g (by rw [e8]; exact hF) hP hS dX5_note_32
  · have c1 := zB_n0.mp c1
    refine lv_aload_n hx hb dX5_note_4 rfl (lv_at hl 0 rfl) ?_
    refine va_get (D := D) (ci := 5) (v := .ref (w 0)) (C := RX5) (T := TX5) (N := 4) hx hb hts in5 hown hK hP 0 rfl rfl 2 (by decide) f16 (fun _ h9 => h9) rfl dX5_note_5 ?_
    refine lv_aload_n hx hb dX5_note_8 rfl (lv_at hl 0 rfl) ?_
    refine va_get (D := D) (ci := 5) (v := .int (zI (((L).length : Int)))) (C := RX5) (T := TX5) (N := 4) hx hb hts in5 hown hK hP 0 rfl rfl 3 (by decide) f28 (fun _ h9 => h9) rfl dX5_note_9 ?_
    refine z_sipush hx hb dX5_note_12 (by decide +kernel) ?_
    refine lv_iload_n hx hb dX5_note_15 rfl (lv_at hl 2 rfl) ?_
    refine z_imul hx hb dX5_note_16 ?_
    refine lv_iload_n hx hb dX5_note_17 rfl (lv_at hl 3 rfl) ?_
    refine z_iadd hx hb dX5_note_18 ?_
    refine y_wVv (As := [.int (zI (((L).length : Int))), .int (zI ((1000 * k) + x))]) (rest := []) (fun (u19 : Unit) => [(s0, .inr (5, [.ref (b 0), .ref p0, .ref (w 0), .int (zI (((L).length : Int)))])), (w 0, .inr (3, [.ref (w 1)])), (w 1, .inl (cI, 363, .inl (zA (zup g ((L).length : Int) ((1000 * k) + x)))))]) hx hb hml hown hts hl.1 ⟨Nat.zero_le _, Nat.zero_le _⟩ (kX3_put l D cI cJ cS (w 0) (w 1) 363 g ((L).length : Int) ((1000 * k) + x) (by omega) (Nat.lt_of_succ_le (Nat.le_of_ble_eq_true rfl))) (cwV 2 hts gX5_note_X3_put rfl rfl rfl jX3_put ⟨Nat.le_of_ble_eq_true rfl, Nat.le_of_ble_eq_true rfl⟩) hK [false, true, true] hP hD hS rfl (fun _ => rfl) (fun _ => rfl) 3 0 rfl rfl rfl rfl rfl (Nat.le_of_ble_eq_true rfl) dX5_note_19 (fun u19 H locs hu19 hP hS => ?_)
    refine lv_aload_n hx hb dX5_note_22 rfl (lv_at hl 0 rfl) ?_
    refine lv_dup hx hb dX5_note_23 rfl ?_
    refine va_get (D := D) (ci := 5) (v := .int (zI (((L).length : Int)))) (C := RX5) (T := TX5) (N := 4) hx hb hts in5 hown hK hP 0 rfl rfl 3 (by decide) f28 (fun _ h9 => h9) rfl dX5_note_24 ?_
    refine z_iconst hx hb dX5_note_27 ?_
    refine z_iadd hx hb dX5_note_28 ?_
    refine z_put (ci := 5) (v := .int (zI (((L).length : Int) + 1))) (ty := .int) (C := RX5) (F := TX5) (N := 4) hx hb hts in5 tyX5 tyX5_ok nmX5 hown hK hP (zD hD rfl) hS 0 [(s0, .inr (5, [.ref (b 0), .ref p0, .ref (w 0), .int (zI (((L).length : Int) + 1))])), (w 0, .inr (3, [.ref (w 1)])), (w 1, .inl (cI, 363, .inl (zA (zup g ((L).length : Int) ((1000 * k) + x)))))] rfl rfl 3 (by decide) f28 (fun _ h9 => h9) rfl (by decide +kernel) rfl rfl (Nat.le_of_ble_eq_true rfl) dX5_note_29 rfl (fun H locs hP hS => ?_)
    have e9 : zl P (1000 * k + x) = [1000 * k + x] := zl_t c1 _
    have e7 : (((L ++ zl P (1000 * k + x)).length : Nat) : Int) = (L.length : Int) + 1 := by rw [e9, List.length_append]; simp
    have hP : va_P D vwCl [(s0, .inr (5, [.ref (b 0), .ref p0, .ref (w 0), .int (zI (((L ++ zl P (1000 * k + x)).length : Int)))])), (w 0, .inr (3, [.ref (w 1)])), (w 1, .inl (cI, 363, .inl (zA (zup g (L.length : Int) (1000 * k + x)))))] H := by rw [e7]; exact hP
    exact hret (zup g (L.length : Int) (1000 * k + x)) (by rw [e9]; exact fnd_add hF _) hP hS dX5_note_32

abbrev rmX5_brakesTooLate : Room := { frames := 2, cells := 0, slots := 0, locals := 43 }
theorem jX5_brakesTooLate : yX5_brakesTooLate.cls = RX5 ∧ yX5_brakesTooLate.cls ≠ "java/lang/invoke/MethodHandle" ∧ yX5_brakesTooLate.cls ≠ "java/lang/invoke/VarHandle" ∧ (parseMethodDescriptor yX5_brakesTooLate.desc).map (fun d => d.parameters.length) = some 2 := by decide +kernel
set_option maxHeartbeats 4000000 in
set_option maxRecDepth 100000 in
theorem kX5_brakesTooLate (l : Launch) (D : va_G) (cI cJ cS : ClassId) (s0 p0 : Nat) (b r w : Nat → Nat) (fr : Int) (f ps : Int → Int) (n : Int) (sc : Int) (gd : Int → Int) (i x : Int) (ok : OkF f) (rep : Rep f ps n) (hgd : ∀ x : Int, 0 ≤ x → x ≤ f 0 → 0 ≤ gd x ∧ gd x ≤ 1000) (h1 : 0 ≤ x ∧ x ≤ f 0) (h2 : 0 ≤ i ∧ i ≤ 1000) : Met l yX5_brakesTooLate wsX5_brakesTooLate rmX5_brakesTooLate (zPc D (zT cI cJ cS) [.ref s0, .int (zI (i)), .int (zI (x))] [(s0, .inr (5, [.ref (b 0), .ref p0, .ref (w 0), .int (zI (sc))])), (p0, .inr (2, [.ref (b 0), .ref (r 0), .ref (r 1), .ref (r 2), .ref (r 3), .int (zI (fr))])), (r 2, .inr (3, [.ref (r 6)])), (r 6, .inl (cI, 121, .inl (zA gd))), (b 0, .inr (4, [.ref (b 1), .ref (b 2), .ref (b 3), .ref (b 4), .ref (b 5), .int (zI (n)), .int (zI (f 0)), .int (zI (f 1)), .int (zI (f 2)), .int (zI (f 3)), .int (zI (f 4)), .int (zI (f 5)), .int (zI (f 6)), .int (zI (f 7)), .int (zI (f 8))])), (b 1, .inr (3, [.ref (b 6)])), (b 2, .inr (3, [.ref (b 7)])), (b 3, .inr (3, [.ref (b 8)])), (b 4, .inr (3, [.ref (b 9)])), (b 5, .inr (3, [.ref (b 10)])), (b 6, .inl (cI, 120, .inl (zA (fun x => f (9 + x))))), (b 7, .inl (cI, 120, .inl (zA (fun x => f (129 + x))))), (b 8, .inl (cI, 121, .inl (zA (fun x => f (249 + x))))), (b 9, .inl (cI, 121, .inl (zA (fun x => f (370 + x))))), (b 10, .inl (cI, 121, .inl (zA ps)))]) (vp_Si (fun r => r = zI (zB (near f ps gd n i x)))) 0 0 (fun _ => False) := by
  refine zRz_of (cc := cX5_brakesTooLate) (maxL := 4) (ret := (some .boolean)) (zB (near f ps gd n i x)) (by decide) rfl (Nat.le_of_ble_eq_true rfl) rfl (zB_01 _) ?_
  intro p e s m args below meth c Q ls hx hb hml hts hown hK hP hD hl hret
  have in2 : ∀ w ∈ wsX20, w ∈ wsX5_brakesTooLate := by decide +kernel
  have in4 : ∀ w ∈ wsX40, w ∈ wsX5_brakesTooLate := by decide +kernel
  have in5 : ∀ w ∈ wsX50, w ∈ wsX5_brakesTooLate := by decide +kernel
  have f20 := hts (.fieldLink RX5 20 "SignalSpacing$Survey" "state" "LSignalSpacing$State;") (by decide +kernel)
  have f24 := hts (.fieldLink RX5 24 "SignalSpacing$Survey" "profile" "LSignalSpacing$Profile;") (by decide +kernel)
  have f37 := hts (.fieldLink RX5 37 "SignalSpacing$State" "postCount" "I") (by decide +kernel)
  have f40 := hts (.fieldLink RX5 40 "SignalSpacing$State" "posts" "LSignalSpacing$Row;") (by decide +kernel)
  have f72 := hts (.fieldLink RX5 72 "SignalSpacing$State" "aspects" "I") (by decide +kernel)
  have f80 := hts (.fieldLink RX5 80 "SignalSpacing$Profile" "distances" "LSignalSpacing$Row;") (by decide +kernel)
  have hl : lv_has ls 4 [(0, .ref s0), (1, .int (zI (i))), (2, .int (zI (x)))] := hl
  have hP : va_P D vwCl [(s0, .inr (5, [.ref (b 0), .ref p0, .ref (w 0), .int (zI (sc))])), (p0, .inr (2, [.ref (b 0), .ref (r 0), .ref (r 1), .ref (r 2), .ref (r 3), .int (zI (fr))])), (r 2, .inr (3, [.ref (r 6)])), (r 6, .inl (cI, 121, .inl (zA gd))), (b 0, .inr (4, [.ref (b 1), .ref (b 2), .ref (b 3), .ref (b 4), .ref (b 5), .int (zI (n)), .int (zI (f 0)), .int (zI (f 1)), .int (zI (f 2)), .int (zI (f 3)), .int (zI (f 4)), .int (zI (f 5)), .int (zI (f 6)), .int (zI (f 7)), .int (zI (f 8))])), (b 1, .inr (3, [.ref (b 6)])), (b 2, .inr (3, [.ref (b 7)])), (b 3, .inr (3, [.ref (b 8)])), (b 4, .inr (3, [.ref (b 9)])), (b 5, .inr (3, [.ref (b 10)])), (b 6, .inl (cI, 120, .inl (zA (fun x => f (9 + x))))), (b 7, .inl (cI, 120, .inl (zA (fun x => f (129 + x))))), (b 8, .inl (cI, 121, .inl (zA (fun x => f (249 + x))))), (b 9, .inl (cI, 121, .inl (zA (fun x => f (370 + x))))), (b 10, .inl (cI, 121, .inl (zA ps)))] s.heap := hP
  obtain ⟨o0, o1, o2, o3, o4, o5, o7, o8, olim, ogrd, obar, oneed, opost⟩ := id ok
  have hn := rep_n ok rep
  have hs1 := sgt_b ok h1.1
  have hs2 := hgd (sgt f x) hs1.1 (by omega)
  have hs3 := hgd x h1.1 h1.2
  refine lv_aload_n hx hb dX5_brakesTooLate_0 rfl (lv_at hl 0 rfl) ?_
  refine va_get (D := D) (ci := 5) (v := .ref (b 0)) (C := RX5) (T := TX5) (N := 4) hx hb hts in5 hown hK hP 0 rfl rfl 0 (by decide) f20 (fun _ h9 => h9) rfl dX5_brakesTooLate_1 ?_
  refine va_get (D := D) (ci := 4) (v := .int (zI (f 4))) (C := RX4) (T := TX4) (N := 15) hx hb hts in4 hown hK hP 4 rfl rfl 10 (by decide) f72 (fun _ h9 => h9) rfl dX5_brakesTooLate_4 ?_
  refine z_iconst hx hb dX5_brakesTooLate_7 ?_
  refine z_icmp_ne (tgt := 32) hx hb dX5_brakesTooLate_8 (by decide) (by omega) (by omega) (fun c8 => ?_) (fun c8 => ?_)
  · refine lv_iload_n hx hb dX5_brakesTooLate_32 rfl (lv_at hl 1 rfl) ?_
    refine lv_aload_n hx hb dX5_brakesTooLate_33 rfl (lv_at hl 0 rfl) ?_
    refine va_get (D := D) (ci := 5) (v := .ref (b 0)) (C := RX5) (T := TX5) (N := 4) hx hb hts in5 hown hK hP 0 rfl rfl 0 (by decide) f20 (fun _ h9 => h9) rfl dX5_brakesTooLate_34 ?_
    refine va_get (D := D) (ci := 4) (v := .int (zI (f 4))) (C := RX4) (T := TX4) (N := 15) hx hb hts in4 hown hK hP 4 rfl rfl 10 (by decide) f72 (fun _ h9 => h9) rfl dX5_brakesTooLate_37 ?_
    refine z_iadd hx hb dX5_brakesTooLate_40 ?_
    refine z_iconst hx hb dX5_brakesTooLate_41 ?_
    refine z_isub hx hb dX5_brakesTooLate_42 ?_
    refine lv_istore_n (lv' := [(3, .int (zI ((i + (f 4)) - 2))), (0, .ref s0), (1, .int (zI (i))), (2, .int (zI (x)))]) hx hb dX5_brakesTooLate_43 rfl hl (by decide) rfl (fun ls hl => ?_)
    refine lv_iload_n hx hb dX5_brakesTooLate_44 rfl (lv_at hl 0 rfl) ?_
    refine lv_aload_n hx hb dX5_brakesTooLate_45 rfl (lv_at hl 1 rfl) ?_
    refine va_get (D := D) (ci := 5) (v := .ref (b 0)) (C := RX5) (T := TX5) (N := 4) hx hb hts in5 hown hK hP 0 rfl rfl 0 (by decide) f20 (fun _ h9 => h9) rfl dX5_brakesTooLate_46 ?_
    refine va_get (D := D) (ci := 4) (v := .int (zI (n))) (C := RX4) (T := TX4) (N := 15) hx hb hts in4 hown hK hP 4 rfl rfl 5 (by decide) f37 (fun _ h9 => h9) rfl dX5_brakesTooLate_49 ?_
    refine z_icmp_ge (tgt := 86) hx hb dX5_brakesTooLate_52 (by decide) (by omega) (by omega) (fun c52 => ?_) (fun c52 => ?_)
    · refine z_iconst hx hb dX5_brakesTooLate_86 ?_
      exact z_top (zB (near f ps gd n i x)) (zB_f (by unfold near; omega)).symm (hret dX5_brakesTooLate_87)
    · have hj := rep_k ok rep (k := i + f 4 - 2) (by omega) (by omega)
      refine lv_aload_n hx hb dX5_brakesTooLate_55 rfl (lv_at hl 1 rfl) ?_
      refine va_get (D := D) (ci := 5) (v := .ref (b 0)) (C := RX5) (T := TX5) (N := 4) hx hb hts in5 hown hK hP 0 rfl rfl 0 (by decide) f20 (fun _ h9 => h9) rfl dX5_brakesTooLate_56 ?_
      refine va_get (D := D) (ci := 4) (v := .ref (b 5)) (C := RX4) (T := TX4) (N := 15) hx hb hts in4 hown hK hP 4 rfl rfl 4 (by decide) f40 (fun _ h9 => h9) rfl dX5_brakesTooLate_59 ?_
      refine lv_iload_n hx hb dX5_brakesTooLate_62 rfl (lv_at hl 0 rfl) ?_
      refine y_rV (v := ps ((i + (f 4)) - 2)) (As := [.int (zI ((i + (f 4)) - 2))]) (rest := []) hx hb hml hown hts hl.1 ⟨Nat.zero_le _, Nat.zero_le _⟩ (kX3_at l D cI cJ cS (b 5) (b 10) 121 ps ((i + (f 4)) - 2) (by omega) (Nat.lt_of_succ_le (Nat.le_of_ble_eq_true rfl))) (cwV 1 hts gX5_brakesTooLate_X3_at rfl rfl rfl jX3_at ⟨Nat.le_of_ble_eq_true rfl, Nat.le_of_ble_eq_true rfl⟩) hK [false, false, false, false, false, false, false, false, false, true, false, false, false, false, true] hP hD rfl 3 0 rfl rfl rfl rfl rfl (Nat.le_of_ble_eq_true rfl) dX5_brakesTooLate_63 ?_
      refine lv_iload_n hx hb dX5_brakesTooLate_66 rfl (lv_at hl 3 rfl) ?_
      refine z_isub hx hb dX5_brakesTooLate_67 ?_
      refine lv_aload_n hx hb dX5_brakesTooLate_68 rfl (lv_at hl 1 rfl) ?_
      refine va_get (D := D) (ci := 5) (v := .ref p0) (C := RX5) (T := TX5) (N := 4) hx hb hts in5 hown hK hP 0 rfl rfl 1 (by decide) f24 (fun _ h9 => h9) rfl dX5_brakesTooLate_69 ?_
      refine va_get (D := D) (ci := 2) (v := .ref (r 2)) (C := RX2) (T := TX2) (N := 6) hx hb hts in2 hown hK hP 1 rfl rfl 3 (by decide) f80 (fun _ h9 => h9) rfl dX5_brakesTooLate_72 ?_
      refine lv_iload_n hx hb dX5_brakesTooLate_75 rfl (lv_at hl 3 rfl) ?_
      refine y_rV (v := gd x) (As := [.int (zI (x))]) (rest := [.int (zI ((ps ((i + (f 4)) - 2)) - x))]) hx hb hml hown hts hl.1 ⟨Nat.zero_le _, Nat.zero_le _⟩ (kX3_at l D cI cJ cS (r 2) (r 6) 121 gd x (by omega) (Nat.lt_of_succ_le (Nat.le_of_ble_eq_true rfl))) (cwV 1 hts gX5_brakesTooLate_X3_at rfl rfl rfl jX3_at ⟨Nat.le_of_ble_eq_true rfl, Nat.le_of_ble_eq_true rfl⟩) hK [false, false, true, true] hP hD rfl 3 0 rfl rfl rfl rfl rfl (Nat.le_of_ble_eq_true rfl) dX5_brakesTooLate_76 ?_
      refine z_icmp_ge (tgt := 86) hx hb dX5_brakesTooLate_79 (by decide) (by omega) (by omega) (fun c79 => ?_) (fun c79 => ?_)
      · refine z_iconst hx hb dX5_brakesTooLate_86 ?_
        exact z_top (zB (near f ps gd n i x)) (zB_f (by unfold near; omega)).symm (hret dX5_brakesTooLate_87)
      · refine z_iconst hx hb dX5_brakesTooLate_82 ?_
        refine lv_goto (tgt := 87) hx hb dX5_brakesTooLate_83 (by decide) ?_
        exact z_top (zB (near f ps gd n i x)) (zB_t (Or.inr ⟨c8, c52, c79⟩)).symm (hret dX5_brakesTooLate_87)
  · refine lv_iload_n hx hb dX5_brakesTooLate_11 rfl (lv_at hl 1 rfl) ?_
    refine z_if_le (tgt := 30) hx hb dX5_brakesTooLate_12 (by decide) (by omega) (fun c12 => ?_) (fun c12 => ?_)
    · refine z_iconst hx hb dX5_brakesTooLate_30 ?_
      exact z_top (zB (near f ps gd n i x)) (zB_f (by unfold near; omega)).symm (hret dX5_brakesTooLate_31)
    · refine lv_aload_n hx hb dX5_brakesTooLate_15 rfl (lv_at hl 0 rfl) ?_
      refine va_get (D := D) (ci := 5) (v := .ref p0) (C := RX5) (T := TX5) (N := 4) hx hb hts in5 hown hK hP 0 rfl rfl 1 (by decide) f24 (fun _ h9 => h9) rfl dX5_brakesTooLate_16 ?_
      refine lv_iload_n hx hb dX5_brakesTooLate_19 rfl (lv_at hl 2 rfl) ?_
      refine y_rV (v := zB (gd (sgt f x) ≤ x - sgt f x)) (As := [.int (zI (x))]) (rest := []) hx hb hml hown hts hl.1 ⟨Nat.zero_le _, Nat.zero_le _⟩ (kX2_stopsInSight l D cI cJ cS p0 b r fr f ps n gd x ok hgd (by omega)) (cwV 1 hts gX5_brakesTooLate_X2_stopsInSight rfl rfl rfl jX2_stopsInSight ⟨Nat.le_of_ble_eq_true rfl, Nat.le_of_ble_eq_true rfl⟩) hK [false, true, true, true, true, true, true, true, true, true, true, true, true, true, true] hP hD rfl 2 0 rfl rfl rfl rfl rfl (Nat.le_of_ble_eq_true rfl) dX5_brakesTooLate_20 ?_
      refine z_if_ne (tgt := 30) hx hb dX5_brakesTooLate_23 (by decide) (by have hz := zB_01 (gd (sgt f x) ≤ x - sgt f x); omega) (fun c23 => ?_) (fun c23 => ?_)
      · have c23 := zB_n0.mp c23
        refine z_iconst hx hb dX5_brakesTooLate_30 ?_
        exact z_top (zB (near f ps gd n i x)) (zB_f (by unfold near isLate; omega)).symm (hret dX5_brakesTooLate_31)
      · have c23 := zB_0.mp c23
        refine z_iconst hx hb dX5_brakesTooLate_26 ?_
        refine lv_goto (tgt := 31) hx hb dX5_brakesTooLate_27 (by decide) ?_
        exact z_top (zB (near f ps gd n i x)) (zB_t (Or.inl ⟨c8, c12, by unfold isLate; omega⟩)).symm (hret dX5_brakesTooLate_31)

abbrev rmX5_inspectPost : Room := { frames := 3, cells := 0, slots := 0, locals := 66 }
theorem jX5_inspectPost : yX5_inspectPost.cls = RX5 ∧ yX5_inspectPost.cls ≠ "java/lang/invoke/MethodHandle" ∧ yX5_inspectPost.cls ≠ "java/lang/invoke/VarHandle" ∧ (parseMethodDescriptor yX5_inspectPost.desc).map (fun d => d.parameters.length) = some 2 := by decide +kernel
set_option maxHeartbeats 4000000 in
set_option maxRecDepth 100000 in
theorem kX5_inspectPost (l : Launch) (D : va_G) (cI cJ cS : ClassId) (s0 p0 : Nat) (b r w : Nat → Nat) (fr : Int) (f ps : Int → Int) (n : Int) (g : Int → Int) (L : List Int) (gd : Int → Int) (i x : Int) (ok : OkF f) (rep : Rep f ps n) (hgd : ∀ x : Int, 0 ≤ x → x ≤ f 0 → 0 ≤ gd x ∧ gd x ≤ 1000) (h1 : 0 ≤ x ∧ x ≤ f 0) (h2 : 0 ≤ i ∧ i < n) (h3 : f (491 + x) = 1) (hF : Fnd g L) (hL : L.length ≤ 360) : Met l yX5_inspectPost wsX5_inspectPost rmX5_inspectPost (zPc D (zT cI cJ cS) [.ref s0, .int (zI (i)), .int (zI (x))] [(s0, .inr (5, [.ref (b 0), .ref p0, .ref (w 0), .int (zI (((L).length : Int)))])), (w 0, .inr (3, [.ref (w 1)])), (w 1, .inl (cI, 363, .inl (zA g))), (p0, .inr (2, [.ref (b 0), .ref (r 0), .ref (r 1), .ref (r 2), .ref (r 3), .int (zI (fr))])), (r 2, .inr (3, [.ref (r 6)])), (r 6, .inl (cI, 121, .inl (zA gd))), (b 0, .inr (4, [.ref (b 1), .ref (b 2), .ref (b 3), .ref (b 4), .ref (b 5), .int (zI (n)), .int (zI (f 0)), .int (zI (f 1)), .int (zI (f 2)), .int (zI (f 3)), .int (zI (f 4)), .int (zI (f 5)), .int (zI (f 6)), .int (zI (f 7)), .int (zI (f 8))])), (b 1, .inr (3, [.ref (b 6)])), (b 2, .inr (3, [.ref (b 7)])), (b 3, .inr (3, [.ref (b 8)])), (b 4, .inr (3, [.ref (b 9)])), (b 5, .inr (3, [.ref (b 10)])), (b 6, .inl (cI, 120, .inl (zA (fun x => f (9 + x))))), (b 7, .inl (cI, 120, .inl (zA (fun x => f (129 + x))))), (b 8, .inl (cI, 121, .inl (zA (fun x => f (249 + x))))), (b 9, .inl (cI, 121, .inl (zA (fun x => f (370 + x))))), (b 10, .inl (cI, 121, .inl (zA ps)))]) (va_Qv (fun u => Fnd u (L ++ vat f ps gd n i x)) (fun (u : Int → Int) t => va_P D vwCl [(s0, .inr (5, [.ref (b 0), .ref p0, .ref (w 0), .int (zI (((L ++ vat f ps gd n i x).length : Int)))])), (w 0, .inr (3, [.ref (w 1)])), (w 1, .inl (cI, 363, .inl (zA u))), (p0, .inr (2, [.ref (b 0), .ref (r 0), .ref (r 1), .ref (r 2), .ref (r 3), .int (zI (fr))])), (r 2, .inr (3, [.ref (r 6)])), (r 6, .inl (cI, 121, .inl (zA gd))), (b 0, .inr (4, [.ref (b 1), .ref (b 2), .ref (b 3), .ref (b 4), .ref (b 5), .int (zI (n)), .int (zI (f 0)), .int (zI (f 1)), .int (zI (f 2)), .int (zI (f 3)), .int (zI (f 4)), .int (zI (f 5)), .int (zI (f 6)), .int (zI (f 7)), .int (zI (f 8))])), (b 1, .inr (3, [.ref (b 6)])), (b 2, .inr (3, [.ref (b 7)])), (b 3, .inr (3, [.ref (b 8)])), (b 4, .inr (3, [.ref (b 9)])), (b 5, .inr (3, [.ref (b 10)])), (b 6, .inl (cI, 120, .inl (zA (fun x => f (9 + x))))), (b 7, .inl (cI, 120, .inl (zA (fun x => f (129 + x))))), (b 8, .inl (cI, 121, .inl (zA (fun x => f (249 + x))))), (b 9, .inl (cI, 121, .inl (zA (fun x => f (370 + x))))), (b 10, .inl (cI, 121, .inl (zA ps)))] t.heap) (zAd [(s0, .inr (5, [.ref (b 0), .ref p0, .ref (w 0), .int (zI (((L).length : Int)))])), (w 0, .inr (3, [.ref (w 1)])), (w 1, .inl (cI, 363, .inl (zA g))), (p0, .inr (2, [.ref (b 0), .ref (r 0), .ref (r 1), .ref (r 2), .ref (r 3), .int (zI (fr))])), (r 2, .inr (3, [.ref (r 6)])), (r 6, .inl (cI, 121, .inl (zA gd))), (b 0, .inr (4, [.ref (b 1), .ref (b 2), .ref (b 3), .ref (b 4), .ref (b 5), .int (zI (n)), .int (zI (f 0)), .int (zI (f 1)), .int (zI (f 2)), .int (zI (f 3)), .int (zI (f 4)), .int (zI (f 5)), .int (zI (f 6)), .int (zI (f 7)), .int (zI (f 8))])), (b 1, .inr (3, [.ref (b 6)])), (b 2, .inr (3, [.ref (b 7)])), (b 3, .inr (3, [.ref (b 8)])), (b 4, .inr (3, [.ref (b 9)])), (b 5, .inr (3, [.ref (b 10)])), (b 6, .inl (cI, 120, .inl (zA (fun x => f (9 + x))))), (b 7, .inl (cI, 120, .inl (zA (fun x => f (129 + x))))), (b 8, .inl (cI, 121, .inl (zA (fun x => f (249 + x))))), (b 9, .inl (cI, 121, .inl (zA (fun x => f (370 + x))))), (b 10, .inl (cI, 121, .inl (zA ps)))])) 0 0 (zAd [(s0, .inr (5, [.ref (b 0), .ref p0, .ref (w 0), .int (zI (((L).length : Int)))])), (w 0, .inr (3, [.ref (w 1)])), (w 1, .inl (cI, 363, .inl (zA g))), (p0, .inr (2, [.ref (b 0), .ref (r 0), .ref (r 1), .ref (r 2), .ref (r 3), .int (zI (fr))])), (r 2, .inr (3, [.ref (r 6)])), (r 6, .inl (cI, 121, .inl (zA gd))), (b 0, .inr (4, [.ref (b 1), .ref (b 2), .ref (b 3), .ref (b 4), .ref (b 5), .int (zI (n)), .int (zI (f 0)), .int (zI (f 1)), .int (zI (f 2)), .int (zI (f 3)), .int (zI (f 4)), .int (zI (f 5)), .int (zI (f 6)), .int (zI (f 7)), .int (zI (f 8))])), (b 1, .inr (3, [.ref (b 6)])), (b 2, .inr (3, [.ref (b 7)])), (b 3, .inr (3, [.ref (b 8)])), (b 4, .inr (3, [.ref (b 9)])), (b 5, .inr (3, [.ref (b 10)])), (b 6, .inl (cI, 120, .inl (zA (fun x => f (9 + x))))), (b 7, .inl (cI, 120, .inl (zA (fun x => f (129 + x))))), (b 8, .inl (cI, 121, .inl (zA (fun x => f (249 + x))))), (b 9, .inl (cI, 121, .inl (zA (fun x => f (370 + x))))), (b 10, .inl (cI, 121, .inl (zA ps)))]) := by
  refine zWv_of (cc := cX5_inspectPost) (maxL := 4) (ret := none) (by decide) rfl (Nat.le_of_ble_eq_true rfl) rfl ?_
  intro p e s m args below meth c Q A ls hx hb hml hts hown hK hP hD hS hl hret
  have in4 : ∀ w ∈ wsX40, w ∈ wsX5_inspectPost := by decide +kernel
  have in5 : ∀ w ∈ wsX50, w ∈ wsX5_inspectPost := by decide +kernel
  have f20 := hts (.fieldLink RX5 20 "SignalSpacing$Survey" "state" "LSignalSpacing$State;") (by decide +kernel)
  have f40 := hts (.fieldLink RX5 40 "SignalSpacing$State" "posts" "LSignalSpacing$Row;") (by decide +kernel)
  have f59 := hts (.fieldLink RX5 59 "SignalSpacing$State" "barred" "LSignalSpacing$Row;") (by decide +kernel)
  have f62 := hts (.fieldLink RX5 62 "SignalSpacing$State" "minimum" "I") (by decide +kernel)
  have f65 := hts (.fieldLink RX5 65 "SignalSpacing$State" "maximum" "I") (by decide +kernel)
  have hl : lv_has ls 4 [(0, .ref s0), (1, .int (zI (i))), (2, .int (zI (x)))] := hl
  have hP : va_P D vwCl [(s0, .inr (5, [.ref (b 0), .ref p0, .ref (w 0), .int (zI (((L).length : Int)))])), (w 0, .inr (3, [.ref (w 1)])), (w 1, .inl (cI, 363, .inl (zA g))), (p0, .inr (2, [.ref (b 0), .ref (r 0), .ref (r 1), .ref (r 2), .ref (r 3), .int (zI (fr))])), (r 2, .inr (3, [.ref (r 6)])), (r 6, .inl (cI, 121, .inl (zA gd))), (b 0, .inr (4, [.ref (b 1), .ref (b 2), .ref (b 3), .ref (b 4), .ref (b 5), .int (zI (n)), .int (zI (f 0)), .int (zI (f 1)), .int (zI (f 2)), .int (zI (f 3)), .int (zI (f 4)), .int (zI (f 5)), .int (zI (f 6)), .int (zI (f 7)), .int (zI (f 8))])), (b 1, .inr (3, [.ref (b 6)])), (b 2, .inr (3, [.ref (b 7)])), (b 3, .inr (3, [.ref (b 8)])), (b 4, .inr (3, [.ref (b 9)])), (b 5, .inr (3, [.ref (b 10)])), (b 6, .inl (cI, 120, .inl (zA (fun x => f (9 + x))))), (b 7, .inl (cI, 120, .inl (zA (fun x => f (129 + x))))), (b 8, .inl (cI, 121, .inl (zA (fun x => f (249 + x))))), (b 9, .inl (cI, 121, .inl (zA (fun x => f (370 + x))))), (b 10, .inl (cI, 121, .inl (zA ps)))] s.heap := hP
  obtain ⟨o0, o1, o2, o3, o4, o5, o7, o8, olim, ogrd, obar, oneed, opost⟩ := id ok
  have hn := rep_n ok rep
  have hv := vat_yes (f := f) (ps := ps) (gd := gd) (n := n) (i := i) h3
  have hl1 := zl_len (f (249 + x) = 1) (1000 * 1 + x)
  have hl2 := zl_len (x - ps (i - 1) < f 5) (1000 * 3 + x)
  have hl3 := zl_len (f 6 < x - ps (i - 1)) (1000 * 4 + x)
  refine lv_aload_n hx hb dX5_inspectPost_0 rfl (lv_at hl 0 rfl) ?_
  refine lv_aload_n hx hb dX5_inspectPost_1 rfl (lv_at hl 0 rfl) ?_
  refine va_get (D := D) (ci := 5) (v := .ref (b 0)) (C := RX5) (T := TX5) (N := 4) hx hb hts in5 hown hK hP 0 rfl rfl 0 (by decide) f20 (fun _ h9 => h9) rfl dX5_inspectPost_2 ?_
  refine va_get (D := D) (ci := 4) (v := .ref (b 3)) (C := RX4) (T := TX4) (N := 15) hx hb hts in4 hown hK hP 6 rfl rfl 2 (by decide) f59 (fun _ h9 => h9) rfl dX5_inspectPost_5 ?_
  refine lv_iload_n hx hb dX5_inspectPost_8 rfl (lv_at hl 2 rfl) ?_
  refine y_rV (v := f (249 + x)) (As := [.int (zI (x))]) (rest := [.ref s0]) hx hb hml hown hts hl.1 ⟨Nat.zero_le _, Nat.zero_le _⟩ (kX3_at l D cI cJ cS (b 3) (b 8) 121 (fun x => f (249 + x)) x (by omega) (Nat.lt_of_succ_le (Nat.le_of_ble_eq_true rfl))) (cwV 1 hts gX5_inspectPost_X3_at rfl rfl rfl jX3_at ⟨Nat.le_of_ble_eq_true rfl, Nat.le_of_ble_eq_true rfl⟩) hK [false, false, false, false, false, false, false, false, false, true, false, false, false, false, true] hP hD rfl 3 0 rfl rfl rfl rfl rfl (Nat.le_of_ble_eq_true rfl) dX5_inspectPost_9 ?_
  have J21 :  ∀ (H : Heap) (locs : List Loc), va_P D vwCl [(s0, .inr (5, [.ref (b 0), .ref p0, .ref (w 0), .int (zI (((L).length : Int)))])), (w 0, .inr (3, [.ref (w 1)])), (w 1, .inl (cI, 363, .inl (zA g))), (p0, .inr (2, [.ref (b 0), .ref (r 0), .ref (r 1), .ref (r 2), .ref (r 3), .int (zI (fr))])), (r 2, .inr (3, [.ref (r 6)])), (r 6, .inl (cI, 121, .inl (zA gd))), (b 0, .inr (4, [.ref (b 1), .ref (b 2), .ref (b 3), .ref (b 4), .ref (b 5), .int (zI (n)), .int (zI (f 0)), .int (zI (f 1)), .int (zI (f 2)), .int (zI (f 3)), .int (zI (f 4)), .int (zI (f 5)), .int (zI (f 6)), .int (zI (f 7)), .int (zI (f 8))])), (b 1, .inr (3, [.ref (b 6)])), (b 2, .inr (3, [.ref (b 7)])), (b 3, .inr (3, [.ref (b 8)])), (b 4, .inr (3, [.ref (b 9)])), (b 5, .inr (3, [.ref (b 10)])), (b 6, .inl (cI, 120, .inl (zA (fun x => f (9 + x))))), (b 7, .inl (cI, 120, .inl (zA (fun x => f (129 + x))))), (b 8, .inl (cI, 121, .inl (zA (fun x => f (249 + x))))), (b 9, .inl (cI, 121, .inl (zA (fun x => f (370 + x))))), (b 10, .inl (cI, 121, .inl (zA ps)))] H → va_S A s.heap H locs → ∀ (ls : Array Slot), lv_has ls 4 [(0, .ref s0), (1, .int (zI (i))), (2, .int (zI (x)))] → W p l e rmX5_inspectPost s m args below meth c H locs 0 0 Q (F0 m 21 ls [.int (zI (zB (f (249 + x) = 1))), .ref s0]) := by
    intro  H locs hP hS ls hl
    refine z_iconst hx hb dX5_inspectPost_21 ?_
    refine lv_iload_n hx hb dX5_inspectPost_22 rfl (lv_at hl 2 rfl) ?_
    refine y_wVv (As := [.int (zI (zB (f (249 + x) = 1))), .int (zI (1)), .int (zI (x))]) (rest := []) (fun (u23 : Int → Int) => [(s0, .inr (5, [.ref (b 0), .ref p0, .ref (w 0), .int (zI (((L ++ zl (f (249 + x) = 1) (1000 * 1 + x)).length : Int)))])), (w 0, .inr (3, [.ref (w 1)])), (w 1, .inl (cI, 363, .inl (zA u23))), (p0, .inr (2, [.ref (b 0), .ref (r 0), .ref (r 1), .ref (r 2), .ref (r 3), .int (zI (fr))])), (r 2, .inr (3, [.ref (r 6)])), (r 6, .inl (cI, 121, .inl (zA gd))), (b 0, .inr (4, [.ref (b 1), .ref (b 2), .ref (b 3), .ref (b 4), .ref (b 5), .int (zI (n)), .int (zI (f 0)), .int (zI (f 1)), .int (zI (f 2)), .int (zI (f 3)), .int (zI (f 4)), .int (zI (f 5)), .int (zI (f 6)), .int (zI (f 7)), .int (zI (f 8))])), (b 1, .inr (3, [.ref (b 6)])), (b 2, .inr (3, [.ref (b 7)])), (b 3, .inr (3, [.ref (b 8)])), (b 4, .inr (3, [.ref (b 9)])), (b 5, .inr (3, [.ref (b 10)])), (b 6, .inl (cI, 120, .inl (zA (fun x => f (9 + x))))), (b 7, .inl (cI, 120, .inl (zA (fun x => f (129 + x))))), (b 8, .inl (cI, 121, .inl (zA (fun x => f (249 + x))))), (b 9, .inl (cI, 121, .inl (zA (fun x => f (370 + x))))), (b 10, .inl (cI, 121, .inl (zA ps)))]) hx hb hml hown hts hl.1 ⟨Nat.zero_le _, Nat.zero_le _⟩ (kX5_note l D cI cJ cS s0 p0 b w g L (f (249 + x) = 1) 1 x hF (by omega)) (cwV 3 hts gX5_inspectPost_X5_note rfl rfl rfl jX5_note ⟨Nat.le_of_ble_eq_true rfl, Nat.le_of_ble_eq_true rfl⟩) hK [true, true, true] hP (zD hD rfl) hS rfl (fun _ => rfl) (fun _ => rfl) 5 0 rfl rfl rfl rfl rfl (Nat.le_of_ble_eq_true rfl) dX5_inspectPost_23 (fun u23 H locs hu23 hP hS => ?_)
    refine lv_iload_n hx hb dX5_inspectPost_26 rfl (lv_at hl 1 rfl) ?_
    refine z_if_le (tgt := 90) hx hb dX5_inspectPost_27 (by decide) (by omega) (fun c27 => ?_) (fun c27 => ?_)
    · refine lv_aload_n hx hb dX5_inspectPost_90 rfl (lv_at hl 0 rfl) ?_
      refine lv_aload_n hx hb dX5_inspectPost_91 rfl (lv_at hl 0 rfl) ?_
      refine lv_iload_n hx hb dX5_inspectPost_92 rfl (lv_at hl 1 rfl) ?_
      refine lv_iload_n hx hb dX5_inspectPost_93 rfl (lv_at hl 2 rfl) ?_
      refine y_rV (v := zB (near f ps gd n i x)) (As := [.int (zI (i)), .int (zI (x))]) (rest := [.ref s0]) hx hb hml hown hts hl.1 ⟨Nat.zero_le _, Nat.zero_le _⟩ (kX5_brakesTooLate l D cI cJ cS s0 p0 b r w fr f ps n ((L ++ zl (f (249 + x) = 1) (1000 * 1 + x)).length : Int) gd i x ok rep hgd (by omega) (by omega)) (cwV 2 hts gX5_inspectPost_X5_brakesTooLate rfl rfl rfl jX5_brakesTooLate ⟨Nat.le_of_ble_eq_true rfl, Nat.le_of_ble_eq_true rfl⟩) hK [true, false, false, true, true, true, true, true, true, true, true, true, true, true, true, true, true] hP (zD hD rfl) rfl 5 0 rfl rfl rfl rfl rfl (Nat.le_of_ble_eq_true rfl) dX5_inspectPost_94 ?_
      refine z_iconst hx hb dX5_inspectPost_97 ?_
      refine lv_iload_n hx hb dX5_inspectPost_98 rfl (lv_at hl 2 rfl) ?_
      refine y_wVv (As := [.int (zI (zB (near f ps gd n i x))), .int (zI (5)), .int (zI (x))]) (rest := []) (fun (u99 : Int → Int) => [(s0, .inr (5, [.ref (b 0), .ref p0, .ref (w 0), .int (zI ((((L ++ zl (f (249 + x) = 1) (1000 * 1 + x)) ++ zl (near f ps gd n i x) (1000 * 5 + x)).length : Int)))])), (w 0, .inr (3, [.ref (w 1)])), (w 1, .inl (cI, 363, .inl (zA u99))), (p0, .inr (2, [.ref (b 0), .ref (r 0), .ref (r 1), .ref (r 2), .ref (r 3), .int (zI (fr))])), (r 2, .inr (3, [.ref (r 6)])), (r 6, .inl (cI, 121, .inl (zA gd))), (b 0, .inr (4, [.ref (b 1), .ref (b 2), .ref (b 3), .ref (b 4), .ref (b 5), .int (zI (n)), .int (zI (f 0)), .int (zI (f 1)), .int (zI (f 2)), .int (zI (f 3)), .int (zI (f 4)), .int (zI (f 5)), .int (zI (f 6)), .int (zI (f 7)), .int (zI (f 8))])), (b 1, .inr (3, [.ref (b 6)])), (b 2, .inr (3, [.ref (b 7)])), (b 3, .inr (3, [.ref (b 8)])), (b 4, .inr (3, [.ref (b 9)])), (b 5, .inr (3, [.ref (b 10)])), (b 6, .inl (cI, 120, .inl (zA (fun x => f (9 + x))))), (b 7, .inl (cI, 120, .inl (zA (fun x => f (129 + x))))), (b 8, .inl (cI, 121, .inl (zA (fun x => f (249 + x))))), (b 9, .inl (cI, 121, .inl (zA (fun x => f (370 + x))))), (b 10, .inl (cI, 121, .inl (zA ps)))]) hx hb hml hown hts hl.1 ⟨Nat.zero_le _, Nat.zero_le _⟩ (kX5_note l D cI cJ cS s0 p0 b w u23 (L ++ zl (f (249 + x) = 1) (1000 * 1 + x)) (near f ps gd n i x) 5 x hu23 (by rw [List.length_append]; omega)) (cwV 3 hts gX5_inspectPost_X5_note rfl rfl rfl jX5_note ⟨Nat.le_of_ble_eq_true rfl, Nat.le_of_ble_eq_true rfl⟩) hK [true, true, true] hP (zD hD rfl) hS rfl (fun _ => rfl) (fun _ => rfl) 5 0 rfl rfl rfl rfl rfl (Nat.le_of_ble_eq_true rfl) dX5_inspectPost_99 (fun u99 H locs hu99 hP hS => ?_)
      have e9 : (L ++ zl (f (249 + x) = 1) (1000 * 1 + x)) ++ zl (near f ps gd n i x) (1000 * 5 + x) = L ++ vat f ps gd n i x := by rw [hv, zl_f (P := 0 < i ∧ x - ps (i - 1) < f 5) (by omega), zl_f (P := 0 < i ∧ f 6 < x - ps (i - 1)) (by omega)]; simp only [List.append_assoc, List.nil_append]
      rw [e9] at hu99
      rw [e9] at hP
      exact hret u99 hu99 hP hS dX5_inspectPost_102
    · refine lv_iload_n hx hb dX5_inspectPost_30 rfl (lv_at hl 2 rfl) ?_
      refine lv_aload_n hx hb dX5_inspectPost_31 rfl (lv_at hl 0 rfl) ?_
      refine va_get (D := D) (ci := 5) (v := .ref (b 0)) (C := RX5) (T := TX5) (N := 4) hx hb hts in5 hown hK hP 0 rfl rfl 0 (by decide) f20 (fun _ h9 => h9) rfl dX5_inspectPost_32 ?_
      refine va_get (D := D) (ci := 4) (v := .ref (b 5)) (C := RX4) (T := TX4) (N := 15) hx hb hts in4 hown hK hP 6 rfl rfl 4 (by decide) f40 (fun _ h9 => h9) rfl dX5_inspectPost_35 ?_
      refine lv_iload_n hx hb dX5_inspectPost_38 rfl (lv_at hl 1 rfl) ?_
      refine z_iconst hx hb dX5_inspectPost_39 ?_
      refine z_isub hx hb dX5_inspectPost_40 ?_
      refine y_rV (v := ps (i - 1)) (As := [.int (zI (i - 1))]) (rest := [.int (zI (x))]) hx hb hml hown hts hl.1 ⟨Nat.zero_le _, Nat.zero_le _⟩ (kX3_at l D cI cJ cS (b 5) (b 10) 121 ps (i - 1) (by omega) (Nat.lt_of_succ_le (Nat.le_of_ble_eq_true rfl))) (cwV 1 hts gX5_inspectPost_X3_at rfl rfl rfl jX3_at ⟨Nat.le_of_ble_eq_true rfl, Nat.le_of_ble_eq_true rfl⟩) hK [false, false, false, false, false, false, false, false, false, false, false, true, false, false, false, false, true] hP (zD hD rfl) rfl 3 0 rfl rfl rfl rfl rfl (Nat.le_of_ble_eq_true rfl) dX5_inspectPost_41 ?_
      have hj := rep_k ok rep (k := i - 1) (by omega) (by omega)
      refine z_isub hx hb dX5_inspectPost_44 ?_
      refine lv_istore_n (lv' := [(3, .int (zI (x - (ps (i - 1))))), (0, .ref s0), (1, .int (zI (i))), (2, .int (zI (x)))]) hx hb dX5_inspectPost_45 rfl hl (by decide) rfl (fun ls hl => ?_)
      have J63 :  ∀ (H : Heap) (locs : List Loc), va_P D vwCl [(s0, .inr (5, [.ref (b 0), .ref p0, .ref (w 0), .int (zI (((L ++ zl (f (249 + x) = 1) (1000 * 1 + x)).length : Int)))])), (w 0, .inr (3, [.ref (w 1)])), (w 1, .inl (cI, 363, .inl (zA u23))), (p0, .inr (2, [.ref (b 0), .ref (r 0), .ref (r 1), .ref (r 2), .ref (r 3), .int (zI (fr))])), (r 2, .inr (3, [.ref (r 6)])), (r 6, .inl (cI, 121, .inl (zA gd))), (b 0, .inr (4, [.ref (b 1), .ref (b 2), .ref (b 3), .ref (b 4), .ref (b 5), .int (zI (n)), .int (zI (f 0)), .int (zI (f 1)), .int (zI (f 2)), .int (zI (f 3)), .int (zI (f 4)), .int (zI (f 5)), .int (zI (f 6)), .int (zI (f 7)), .int (zI (f 8))])), (b 1, .inr (3, [.ref (b 6)])), (b 2, .inr (3, [.ref (b 7)])), (b 3, .inr (3, [.ref (b 8)])), (b 4, .inr (3, [.ref (b 9)])), (b 5, .inr (3, [.ref (b 10)])), (b 6, .inl (cI, 120, .inl (zA (fun x => f (9 + x))))), (b 7, .inl (cI, 120, .inl (zA (fun x => f (129 + x))))), (b 8, .inl (cI, 121, .inl (zA (fun x => f (249 + x))))), (b 9, .inl (cI, 121, .inl (zA (fun x => f (370 + x))))), (b 10, .inl (cI, 121, .inl (zA ps)))] H → va_S A s.heap H locs → ∀ (ls : Array Slot), lv_has ls 4 [(3, .int (zI (x - (ps (i - 1))))), (0, .ref s0), (1, .int (zI (i))), (2, .int (zI (x)))] → W p l e rmX5_inspectPost s m args below meth c H locs 0 0 Q (F0 m 63 ls [.int (zI (zB (x - ps (i - 1) < f 5))), .ref s0]) := by
        intro  H locs hP hS ls hl
        refine z_iconst hx hb dX5_inspectPost_63 ?_
        refine lv_iload_n hx hb dX5_inspectPost_64 rfl (lv_at hl 3 rfl) ?_
        refine y_wVv (As := [.int (zI (zB (x - ps (i - 1) < f 5))), .int (zI (3)), .int (zI (x))]) (rest := []) (fun (u65 : Int → Int) => [(s0, .inr (5, [.ref (b 0), .ref p0, .ref (w 0), .int (zI ((((L ++ zl (f (249 + x) = 1) (1000 * 1 + x)) ++ zl (x - ps (i - 1) < f 5) (1000 * 3 + x)).length : Int)))])), (w 0, .inr (3, [.ref (w 1)])), (w 1, .inl (cI, 363, .inl (zA u65))), (p0, .inr (2, [.ref (b 0), .ref (r 0), .ref (r 1), .ref (r 2), .ref (r 3), .int (zI (fr))])), (r 2, .inr (3, [.ref (r 6)])), (r 6, .inl (cI, 121, .inl (zA gd))), (b 0, .inr (4, [.ref (b 1), .ref (b 2), .ref (b 3), .ref (b 4), .ref (b 5), .int (zI (n)), .int (zI (f 0)), .int (zI (f 1)), .int (zI (f 2)), .int (zI (f 3)), .int (zI (f 4)), .int (zI (f 5)), .int (zI (f 6)), .int (zI (f 7)), .int (zI (f 8))])), (b 1, .inr (3, [.ref (b 6)])), (b 2, .inr (3, [.ref (b 7)])), (b 3, .inr (3, [.ref (b 8)])), (b 4, .inr (3, [.ref (b 9)])), (b 5, .inr (3, [.ref (b 10)])), (b 6, .inl (cI, 120, .inl (zA (fun x => f (9 + x))))), (b 7, .inl (cI, 120, .inl (zA (fun x => f (129 + x))))), (b 8, .inl (cI, 121, .inl (zA (fun x => f (249 + x))))), (b 9, .inl (cI, 121, .inl (zA (fun x => f (370 + x))))), (b 10, .inl (cI, 121, .inl (zA ps)))]) hx hb hml hown hts hl.1 ⟨Nat.zero_le _, Nat.zero_le _⟩ (kX5_note l D cI cJ cS s0 p0 b w u23 (L ++ zl (f (249 + x) = 1) (1000 * 1 + x)) (x - ps (i - 1) < f 5) 3 x hu23 (by rw [List.length_append]; omega)) (cwV 3 hts gX5_inspectPost_X5_note rfl rfl rfl jX5_note ⟨Nat.le_of_ble_eq_true rfl, Nat.le_of_ble_eq_true rfl⟩) hK [true, true, true] hP (zD hD rfl) hS rfl (fun _ => rfl) (fun _ => rfl) 5 0 rfl rfl rfl rfl rfl (Nat.le_of_ble_eq_true rfl) dX5_inspectPost_65 (fun u65 H locs hu65 hP hS => ?_)
        have J85 :  ∀ (H : Heap) (locs : List Loc), va_P D vwCl [(s0, .inr (5, [.ref (b 0), .ref p0, .ref (w 0), .int (zI ((((L ++ zl (f (249 + x) = 1) (1000 * 1 + x)) ++ zl (x - ps (i - 1) < f 5) (1000 * 3 + x)).length : Int)))])), (w 0, .inr (3, [.ref (w 1)])), (w 1, .inl (cI, 363, .inl (zA u65))), (p0, .inr (2, [.ref (b 0), .ref (r 0), .ref (r 1), .ref (r 2), .ref (r 3), .int (zI (fr))])), (r 2, .inr (3, [.ref (r 6)])), (r 6, .inl (cI, 121, .inl (zA gd))), (b 0, .inr (4, [.ref (b 1), .ref (b 2), .ref (b 3), .ref (b 4), .ref (b 5), .int (zI (n)), .int (zI (f 0)), .int (zI (f 1)), .int (zI (f 2)), .int (zI (f 3)), .int (zI (f 4)), .int (zI (f 5)), .int (zI (f 6)), .int (zI (f 7)), .int (zI (f 8))])), (b 1, .inr (3, [.ref (b 6)])), (b 2, .inr (3, [.ref (b 7)])), (b 3, .inr (3, [.ref (b 8)])), (b 4, .inr (3, [.ref (b 9)])), (b 5, .inr (3, [.ref (b 10)])), (b 6, .inl (cI, 120, .inl (zA (fun x => f (9 + x))))), (b 7, .inl (cI, 120, .inl (zA (fun x => f (129 + x))))), (b 8, .inl (cI, 121, .inl (zA (fun x => f (249 + x))))), (b 9, .inl (cI, 121, .inl (zA (fun x => f (370 + x))))), (b 10, .inl (cI, 121, .inl (zA ps)))] H → va_S A s.heap H locs → ∀ (ls : Array Slot), lv_has ls 4 [(3, .int (zI (x - (ps (i - 1))))), (0, .ref s0), (1, .int (zI (i))), (2, .int (zI (x)))] → W p l e rmX5_inspectPost s m args below meth c H locs 0 0 Q (F0 m 85 ls [.int (zI (zB (f 6 < x - ps (i - 1)))), .ref s0]) := by
          intro  H locs hP hS ls hl
          refine z_iconst hx hb dX5_inspectPost_85 ?_
          refine lv_iload_n hx hb dX5_inspectPost_86 rfl (lv_at hl 3 rfl) ?_
          refine y_wVv (As := [.int (zI (zB (f 6 < x - ps (i - 1)))), .int (zI (4)), .int (zI (x))]) (rest := []) (fun (u87 : Int → Int) => [(s0, .inr (5, [.ref (b 0), .ref p0, .ref (w 0), .int (zI (((((L ++ zl (f (249 + x) = 1) (1000 * 1 + x)) ++ zl (x - ps (i - 1) < f 5) (1000 * 3 + x)) ++ zl (f 6 < x - ps (i - 1)) (1000 * 4 + x)).length : Int)))])), (w 0, .inr (3, [.ref (w 1)])), (w 1, .inl (cI, 363, .inl (zA u87))), (p0, .inr (2, [.ref (b 0), .ref (r 0), .ref (r 1), .ref (r 2), .ref (r 3), .int (zI (fr))])), (r 2, .inr (3, [.ref (r 6)])), (r 6, .inl (cI, 121, .inl (zA gd))), (b 0, .inr (4, [.ref (b 1), .ref (b 2), .ref (b 3), .ref (b 4), .ref (b 5), .int (zI (n)), .int (zI (f 0)), .int (zI (f 1)), .int (zI (f 2)), .int (zI (f 3)), .int (zI (f 4)), .int (zI (f 5)), .int (zI (f 6)), .int (zI (f 7)), .int (zI (f 8))])), (b 1, .inr (3, [.ref (b 6)])), (b 2, .inr (3, [.ref (b 7)])), (b 3, .inr (3, [.ref (b 8)])), (b 4, .inr (3, [.ref (b 9)])), (b 5, .inr (3, [.ref (b 10)])), (b 6, .inl (cI, 120, .inl (zA (fun x => f (9 + x))))), (b 7, .inl (cI, 120, .inl (zA (fun x => f (129 + x))))), (b 8, .inl (cI, 121, .inl (zA (fun x => f (249 + x))))), (b 9, .inl (cI, 121, .inl (zA (fun x => f (370 + x))))), (b 10, .inl (cI, 121, .inl (zA ps)))]) hx hb hml hown hts hl.1 ⟨Nat.zero_le _, Nat.zero_le _⟩ (kX5_note l D cI cJ cS s0 p0 b w u65 ((L ++ zl (f (249 + x) = 1) (1000 * 1 + x)) ++ zl (x - ps (i - 1) < f 5) (1000 * 3 + x)) (f 6 < x - ps (i - 1)) 4 x hu65 (by rw [List.length_append, List.length_append]; omega)) (cwV 3 hts gX5_inspectPost_X5_note rfl rfl rfl jX5_note ⟨Nat.le_of_ble_eq_true rfl, Nat.le_of_ble_eq_true rfl⟩) hK [true, true, true] hP (zD hD rfl) hS rfl (fun _ => rfl) (fun _ => rfl) 5 0 rfl rfl rfl rfl rfl (Nat.le_of_ble_eq_true rfl) dX5_inspectPost_87 (fun u87 H locs hu87 hP hS => ?_)
          refine lv_aload_n hx hb dX5_inspectPost_90 rfl (lv_at hl 1 rfl) ?_
          refine lv_aload_n hx hb dX5_inspectPost_91 rfl (lv_at hl 1 rfl) ?_
          refine lv_iload_n hx hb dX5_inspectPost_92 rfl (lv_at hl 2 rfl) ?_
          refine lv_iload_n hx hb dX5_inspectPost_93 rfl (lv_at hl 3 rfl) ?_
          refine y_rV (v := zB (near f ps gd n i x)) (As := [.int (zI (i)), .int (zI (x))]) (rest := [.ref s0]) hx hb hml hown hts hl.1 ⟨Nat.zero_le _, Nat.zero_le _⟩ (kX5_brakesTooLate l D cI cJ cS s0 p0 b r w fr f ps n ((((L ++ zl (f (249 + x) = 1) (1000 * 1 + x)) ++ zl (x - ps (i - 1) < f 5) (1000 * 3 + x)) ++ zl (f 6 < x - ps (i - 1)) (1000 * 4 + x)).length : Int) gd i x ok rep hgd (by omega) (by omega)) (cwV 2 hts gX5_inspectPost_X5_brakesTooLate rfl rfl rfl jX5_brakesTooLate ⟨Nat.le_of_ble_eq_true rfl, Nat.le_of_ble_eq_true rfl⟩) hK [true, false, false, true, true, true, true, true, true, true, true, true, true, true, true, true, true] hP (zD hD rfl) rfl 5 0 rfl rfl rfl rfl rfl (Nat.le_of_ble_eq_true rfl) dX5_inspectPost_94 ?_
          refine z_iconst hx hb dX5_inspectPost_97 ?_
          refine lv_iload_n hx hb dX5_inspectPost_98 rfl (lv_at hl 3 rfl) ?_
          refine y_wVv (As := [.int (zI (zB (near f ps gd n i x))), .int (zI (5)), .int (zI (x))]) (rest := []) (fun (u99 : Int → Int) => [(s0, .inr (5, [.ref (b 0), .ref p0, .ref (w 0), .int (zI ((((((L ++ zl (f (249 + x) = 1) (1000 * 1 + x)) ++ zl (x - ps (i - 1) < f 5) (1000 * 3 + x)) ++ zl (f 6 < x - ps (i - 1)) (1000 * 4 + x)) ++ zl (near f ps gd n i x) (1000 * 5 + x)).length : Int)))])), (w 0, .inr (3, [.ref (w 1)])), (w 1, .inl (cI, 363, .inl (zA u99))), (p0, .inr (2, [.ref (b 0), .ref (r 0), .ref (r 1), .ref (r 2), .ref (r 3), .int (zI (fr))])), (r 2, .inr (3, [.ref (r 6)])), (r 6, .inl (cI, 121, .inl (zA gd))), (b 0, .inr (4, [.ref (b 1), .ref (b 2), .ref (b 3), .ref (b 4), .ref (b 5), .int (zI (n)), .int (zI (f 0)), .int (zI (f 1)), .int (zI (f 2)), .int (zI (f 3)), .int (zI (f 4)), .int (zI (f 5)), .int (zI (f 6)), .int (zI (f 7)), .int (zI (f 8))])), (b 1, .inr (3, [.ref (b 6)])), (b 2, .inr (3, [.ref (b 7)])), (b 3, .inr (3, [.ref (b 8)])), (b 4, .inr (3, [.ref (b 9)])), (b 5, .inr (3, [.ref (b 10)])), (b 6, .inl (cI, 120, .inl (zA (fun x => f (9 + x))))), (b 7, .inl (cI, 120, .inl (zA (fun x => f (129 + x))))), (b 8, .inl (cI, 121, .inl (zA (fun x => f (249 + x))))), (b 9, .inl (cI, 121, .inl (zA (fun x => f (370 + x))))), (b 10, .inl (cI, 121, .inl (zA ps)))]) hx hb hml hown hts hl.1 ⟨Nat.zero_le _, Nat.zero_le _⟩ (kX5_note l D cI cJ cS s0 p0 b w u87 (((L ++ zl (f (249 + x) = 1) (1000 * 1 + x)) ++ zl (x - ps (i - 1) < f 5) (1000 * 3 + x)) ++ zl (f 6 < x - ps (i - 1)) (1000 * 4 + x)) (near f ps gd n i x) 5 x hu87 (by rw [List.length_append, List.length_append, List.length_append]; omega)) (cwV 3 hts gX5_inspectPost_X5_note rfl rfl rfl jX5_note ⟨Nat.le_of_ble_eq_true rfl, Nat.le_of_ble_eq_true rfl⟩) hK [true, true, true] hP (zD hD rfl) hS rfl (fun _ => rfl) (fun _ => rfl) 5 0 rfl rfl rfl rfl rfl (Nat.le_of_ble_eq_true rfl) dX5_inspectPost_99 (fun u99 H locs hu99 hP hS => ?_)
          have e9 : (((L ++ zl (f (249 + x) = 1) (1000 * 1 + x)) ++ zl (x - ps (i - 1) < f 5) (1000 * 3 + x)) ++ zl (f 6 < x - ps (i - 1)) (1000 * 4 + x)) ++ zl (near f ps gd n i x) (1000 * 5 + x) = L ++ vat f ps gd n i x := by rw [hv, zl_iff (P := 0 < i ∧ x - ps (i - 1) < f 5) (Q := x - ps (i - 1) < f 5) ⟨fun q => q.2, fun q => ⟨c27, q⟩⟩, zl_iff (P := 0 < i ∧ f 6 < x - ps (i - 1)) (Q := f 6 < x - ps (i - 1)) ⟨fun q => q.2, fun q => ⟨c27, q⟩⟩]; simp only [List.append_assoc]
          rw [e9] at hu99
          rw [e9] at hP
          exact hret u99 hu99 hP hS dX5_inspectPost_102
        refine lv_aload_n hx hb dX5_inspectPost_68 rfl (lv_at hl 1 rfl) ?_
        refine lv_iload_n hx hb dX5_inspectPost_69 rfl (lv_at hl 0 rfl) ?_
        refine lv_aload_n hx hb dX5_inspectPost_70 rfl (lv_at hl 1 rfl) ?_
        refine va_get (D := D) (ci := 5) (v := .ref (b 0)) (C := RX5) (T := TX5) (N := 4) hx hb hts in5 hown hK hP 0 rfl rfl 0 (by decide) f20 (fun _ h9 => h9) rfl dX5_inspectPost_71 ?_
        refine va_get (D := D) (ci := 4) (v := .int (zI (f 6))) (C := RX4) (T := TX4) (N := 15) hx hb hts in4 hown hK hP 6 rfl rfl 12 (by decide) f65 (fun _ h9 => h9) rfl dX5_inspectPost_74 ?_
        refine z_icmp_le (tgt := 84) hx hb dX5_inspectPost_77 (by decide) (by omega) (by omega) (fun c77 => ?_) (fun c77 => ?_)
        · refine z_iconst hx hb dX5_inspectPost_84 ?_
          refine z_top (zB (f 6 < x - ps (i - 1))) (zB_f (P := f 6 < x - ps (i - 1)) (by omega)).symm ?_
          exact J85  _ _ hP hS ls (lv_sub hl [0, 1, 2, 3] rfl)
        · refine z_iconst hx hb dX5_inspectPost_80 ?_
          refine lv_goto (tgt := 85) hx hb dX5_inspectPost_81 (by decide) ?_
          refine z_top (zB (f 6 < x - ps (i - 1))) (zB_t (P := f 6 < x - ps (i - 1)) (by omega)).symm ?_
          exact J85  _ _ hP hS ls (lv_sub hl [0, 1, 2, 3] rfl)
      refine lv_aload_n hx hb dX5_inspectPost_46 rfl (lv_at hl 1 rfl) ?_
      refine lv_iload_n hx hb dX5_inspectPost_47 rfl (lv_at hl 0 rfl) ?_
      refine lv_aload_n hx hb dX5_inspectPost_48 rfl (lv_at hl 1 rfl) ?_
      refine va_get (D := D) (ci := 5) (v := .ref (b 0)) (C := RX5) (T := TX5) (N := 4) hx hb hts in5 hown hK hP 0 rfl rfl 0 (by decide) f20 (fun _ h9 => h9) rfl dX5_inspectPost_49 ?_
      refine va_get (D := D) (ci := 4) (v := .int (zI (f 5))) (C := RX4) (T := TX4) (N := 15) hx hb hts in4 hown hK hP 6 rfl rfl 11 (by decide) f62 (fun _ h9 => h9) rfl dX5_inspectPost_52 ?_
      refine z_icmp_ge (tgt := 62) hx hb dX5_inspectPost_55 (by decide) (by omega) (by omega) (fun c55 => ?_) (fun c55 => ?_)
      · refine z_iconst hx hb dX5_inspectPost_62 ?_
        refine z_top (zB (x - ps (i - 1) < f 5)) (zB_f (P := x - ps (i - 1) < f 5) (by omega)).symm ?_
        exact J63  _ _ hP hS ls (lv_sub hl [0, 1, 2, 3] rfl)
      · refine z_iconst hx hb dX5_inspectPost_58 ?_
        refine lv_goto (tgt := 63) hx hb dX5_inspectPost_59 (by decide) ?_
        refine z_top (zB (x - ps (i - 1) < f 5)) (zB_t (P := x - ps (i - 1) < f 5) (by omega)).symm ?_
        exact J63  _ _ hP hS ls (lv_sub hl [0, 1, 2, 3] rfl)
  have hb9 := obar x h1.1 (by omega)
  refine z_iconst hx hb dX5_inspectPost_12 ?_
  refine z_icmp_ne (tgt := 20) hx hb dX5_inspectPost_13 (by decide) (by omega) (by omega) (fun c13 => ?_) (fun c13 => ?_)
  · refine z_iconst hx hb dX5_inspectPost_20 ?_
    refine z_top (zB (f (249 + x) = 1)) (zB_f (P := f (249 + x) = 1) (by omega)).symm ?_
    exact J21  _ _ hP hS ls (lv_sub hl [0, 1, 2] rfl)
  · refine z_iconst hx hb dX5_inspectPost_16 ?_
    refine lv_goto (tgt := 21) hx hb dX5_inspectPost_17 (by decide) ?_
    refine z_top (zB (f (249 + x) = 1)) (zB_t (P := f (249 + x) = 1) (by omega)).symm ?_
    exact J21  _ _ hP hS ls (lv_sub hl [0, 1, 2] rfl)

abbrev rmX5_inspect : Room := { frames := 4, cells := 0, slots := 0, locals := 89 }
theorem jX5_inspect : yX5_inspect.cls = RX5 ∧ yX5_inspect.cls ≠ "java/lang/invoke/MethodHandle" ∧ yX5_inspect.cls ≠ "java/lang/invoke/VarHandle" ∧ (parseMethodDescriptor yX5_inspect.desc).map (fun d => d.parameters.length) = some 0 := by decide +kernel
set_option maxHeartbeats 4000000 in
set_option maxRecDepth 100000 in
theorem kX5_inspect (l : Launch) (D : va_G) (cI cJ cS : ClassId) (s0 p0 : Nat) (b r w : Nat → Nat) (fr : Int) (f ps : Int → Int) (n : Int) (sc : Int) (g0 gd : Int → Int) (ok : OkF f) (rep : Rep f ps n) (hgd : ∀ x : Int, 0 ≤ x → x ≤ f 0 → 0 ≤ gd x ∧ gd x ≤ 1000) : Met l yX5_inspect wsX5_inspect rmX5_inspect (zPc D (zT cI cJ cS) [.ref s0] [(s0, .inr (5, [.ref (b 0), .ref p0, .ref (w 0), .int (zI (sc))])), (w 0, .inr (3, [.ref (w 1)])), (w 1, .inl (cI, 363, .inl (zA g0))), (p0, .inr (2, [.ref (b 0), .ref (r 0), .ref (r 1), .ref (r 2), .ref (r 3), .int (zI (fr))])), (r 2, .inr (3, [.ref (r 6)])), (r 6, .inl (cI, 121, .inl (zA gd))), (b 0, .inr (4, [.ref (b 1), .ref (b 2), .ref (b 3), .ref (b 4), .ref (b 5), .int (zI (n)), .int (zI (f 0)), .int (zI (f 1)), .int (zI (f 2)), .int (zI (f 3)), .int (zI (f 4)), .int (zI (f 5)), .int (zI (f 6)), .int (zI (f 7)), .int (zI (f 8))])), (b 1, .inr (3, [.ref (b 6)])), (b 2, .inr (3, [.ref (b 7)])), (b 3, .inr (3, [.ref (b 8)])), (b 4, .inr (3, [.ref (b 9)])), (b 5, .inr (3, [.ref (b 10)])), (b 6, .inl (cI, 120, .inl (zA (fun x => f (9 + x))))), (b 7, .inl (cI, 120, .inl (zA (fun x => f (129 + x))))), (b 8, .inl (cI, 121, .inl (zA (fun x => f (249 + x))))), (b 9, .inl (cI, 121, .inl (zA (fun x => f (370 + x))))), (b 10, .inl (cI, 121, .inl (zA ps)))]) (va_Qi (fun r u => r = zI ((vio f ps gd n (f 0 + 1)).length : Int) ∧ Fnd u (vio f ps gd n (f 0 + 1))) (fun (u : Int → Int) t => va_P D vwCl [(s0, .inr (5, [.ref (b 0), .ref p0, .ref (w 0), .int (zI (((vio f ps gd n (f 0 + 1)).length : Int)))])), (w 0, .inr (3, [.ref (w 1)])), (w 1, .inl (cI, 363, .inl (zA u))), (p0, .inr (2, [.ref (b 0), .ref (r 0), .ref (r 1), .ref (r 2), .ref (r 3), .int (zI (fr))])), (r 2, .inr (3, [.ref (r 6)])), (r 6, .inl (cI, 121, .inl (zA gd))), (b 0, .inr (4, [.ref (b 1), .ref (b 2), .ref (b 3), .ref (b 4), .ref (b 5), .int (zI (n)), .int (zI (f 0)), .int (zI (f 1)), .int (zI (f 2)), .int (zI (f 3)), .int (zI (f 4)), .int (zI (f 5)), .int (zI (f 6)), .int (zI (f 7)), .int (zI (f 8))])), (b 1, .inr (3, [.ref (b 6)])), (b 2, .inr (3, [.ref (b 7)])), (b 3, .inr (3, [.ref (b 8)])), (b 4, .inr (3, [.ref (b 9)])), (b 5, .inr (3, [.ref (b 10)])), (b 6, .inl (cI, 120, .inl (zA (fun x => f (9 + x))))), (b 7, .inl (cI, 120, .inl (zA (fun x => f (129 + x))))), (b 8, .inl (cI, 121, .inl (zA (fun x => f (249 + x))))), (b 9, .inl (cI, 121, .inl (zA (fun x => f (370 + x))))), (b 10, .inl (cI, 121, .inl (zA ps)))] t.heap) (zAd [(s0, .inr (5, [.ref (b 0), .ref p0, .ref (w 0), .int (zI (sc))])), (w 0, .inr (3, [.ref (w 1)])), (w 1, .inl (cI, 363, .inl (zA g0))), (p0, .inr (2, [.ref (b 0), .ref (r 0), .ref (r 1), .ref (r 2), .ref (r 3), .int (zI (fr))])), (r 2, .inr (3, [.ref (r 6)])), (r 6, .inl (cI, 121, .inl (zA gd))), (b 0, .inr (4, [.ref (b 1), .ref (b 2), .ref (b 3), .ref (b 4), .ref (b 5), .int (zI (n)), .int (zI (f 0)), .int (zI (f 1)), .int (zI (f 2)), .int (zI (f 3)), .int (zI (f 4)), .int (zI (f 5)), .int (zI (f 6)), .int (zI (f 7)), .int (zI (f 8))])), (b 1, .inr (3, [.ref (b 6)])), (b 2, .inr (3, [.ref (b 7)])), (b 3, .inr (3, [.ref (b 8)])), (b 4, .inr (3, [.ref (b 9)])), (b 5, .inr (3, [.ref (b 10)])), (b 6, .inl (cI, 120, .inl (zA (fun x => f (9 + x))))), (b 7, .inl (cI, 120, .inl (zA (fun x => f (129 + x))))), (b 8, .inl (cI, 121, .inl (zA (fun x => f (249 + x))))), (b 9, .inl (cI, 121, .inl (zA (fun x => f (370 + x))))), (b 10, .inl (cI, 121, .inl (zA ps)))])) 0 0 (zAd [(s0, .inr (5, [.ref (b 0), .ref p0, .ref (w 0), .int (zI (sc))])), (w 0, .inr (3, [.ref (w 1)])), (w 1, .inl (cI, 363, .inl (zA g0))), (p0, .inr (2, [.ref (b 0), .ref (r 0), .ref (r 1), .ref (r 2), .ref (r 3), .int (zI (fr))])), (r 2, .inr (3, [.ref (r 6)])), (r 6, .inl (cI, 121, .inl (zA gd))), (b 0, .inr (4, [.ref (b 1), .ref (b 2), .ref (b 3), .ref (b 4), .ref (b 5), .int (zI (n)), .int (zI (f 0)), .int (zI (f 1)), .int (zI (f 2)), .int (zI (f 3)), .int (zI (f 4)), .int (zI (f 5)), .int (zI (f 6)), .int (zI (f 7)), .int (zI (f 8))])), (b 1, .inr (3, [.ref (b 6)])), (b 2, .inr (3, [.ref (b 7)])), (b 3, .inr (3, [.ref (b 8)])), (b 4, .inr (3, [.ref (b 9)])), (b 5, .inr (3, [.ref (b 10)])), (b 6, .inl (cI, 120, .inl (zA (fun x => f (9 + x))))), (b 7, .inl (cI, 120, .inl (zA (fun x => f (129 + x))))), (b 8, .inl (cI, 121, .inl (zA (fun x => f (249 + x))))), (b 9, .inl (cI, 121, .inl (zA (fun x => f (370 + x))))), (b 10, .inl (cI, 121, .inl (zA ps)))]) := by
  refine zWi_of (cc := cX5_inspect) (maxL := 3) (ret := (some .int)) (by decide) rfl (Nat.le_of_ble_eq_true rfl) rfl ?_
  intro p e s m args below meth c Q A ls hx hb hml hts hown hK hP hD hS hl hret
  have in4 : ∀ w ∈ wsX40, w ∈ wsX5_inspect := by decide +kernel
  have in5 : ∀ w ∈ wsX50, w ∈ wsX5_inspect := by decide +kernel
  have f20 := hts (.fieldLink RX5 20 "SignalSpacing$Survey" "state" "LSignalSpacing$State;") (by decide +kernel)
  have f28 := hts (.fieldLink RX5 28 "SignalSpacing$Survey" "count" "I") (by decide +kernel)
  have f32 := hts (.fieldLink RX5 32 "SignalSpacing$State" "length" "I") (by decide +kernel)
  have f37 := hts (.fieldLink RX5 37 "SignalSpacing$State" "postCount" "I") (by decide +kernel)
  have f40 := hts (.fieldLink RX5 40 "SignalSpacing$State" "posts" "LSignalSpacing$Row;") (by decide +kernel)
  have hl : lv_has ls 3 [(0, .ref s0)] := hl
  have hP : va_P D vwCl [(s0, .inr (5, [.ref (b 0), .ref p0, .ref (w 0), .int (zI (sc))])), (w 0, .inr (3, [.ref (w 1)])), (w 1, .inl (cI, 363, .inl (zA g0))), (p0, .inr (2, [.ref (b 0), .ref (r 0), .ref (r 1), .ref (r 2), .ref (r 3), .int (zI (fr))])), (r 2, .inr (3, [.ref (r 6)])), (r 6, .inl (cI, 121, .inl (zA gd))), (b 0, .inr (4, [.ref (b 1), .ref (b 2), .ref (b 3), .ref (b 4), .ref (b 5), .int (zI (n)), .int (zI (f 0)), .int (zI (f 1)), .int (zI (f 2)), .int (zI (f 3)), .int (zI (f 4)), .int (zI (f 5)), .int (zI (f 6)), .int (zI (f 7)), .int (zI (f 8))])), (b 1, .inr (3, [.ref (b 6)])), (b 2, .inr (3, [.ref (b 7)])), (b 3, .inr (3, [.ref (b 8)])), (b 4, .inr (3, [.ref (b 9)])), (b 5, .inr (3, [.ref (b 10)])), (b 6, .inl (cI, 120, .inl (zA (fun x => f (9 + x))))), (b 7, .inl (cI, 120, .inl (zA (fun x => f (129 + x))))), (b 8, .inl (cI, 121, .inl (zA (fun x => f (249 + x))))), (b 9, .inl (cI, 121, .inl (zA (fun x => f (370 + x))))), (b 10, .inl (cI, 121, .inl (zA ps)))] s.heap := hP
  obtain ⟨o0, o1, o2, o3, o4, o5, o7, o8, olim, ogrd, obar, oneed, opost⟩ := id ok
  have hn := rep_n ok rep
  refine lv_aload_n hx hb dX5_inspect_0 rfl (lv_at hl 0 rfl) ?_
  refine z_iconst hx hb dX5_inspect_1 ?_
  refine z_put (ci := 5) (v := .int (zI (0))) (ty := .int) (C := RX5) (F := TX5) (N := 4) hx hb hts in5 tyX5 tyX5_ok nmX5 hown hK hP hD hS 0 [(s0, .inr (5, [.ref (b 0), .ref p0, .ref (w 0), .int (zI (0))])), (w 0, .inr (3, [.ref (w 1)])), (w 1, .inl (cI, 363, .inl (zA g0))), (p0, .inr (2, [.ref (b 0), .ref (r 0), .ref (r 1), .ref (r 2), .ref (r 3), .int (zI (fr))])), (r 2, .inr (3, [.ref (r 6)])), (r 6, .inl (cI, 121, .inl (zA gd))), (b 0, .inr (4, [.ref (b 1), .ref (b 2), .ref (b 3), .ref (b 4), .ref (b 5), .int (zI (n)), .int (zI (f 0)), .int (zI (f 1)), .int (zI (f 2)), .int (zI (f 3)), .int (zI (f 4)), .int (zI (f 5)), .int (zI (f 6)), .int (zI (f 7)), .int (zI (f 8))])), (b 1, .inr (3, [.ref (b 6)])), (b 2, .inr (3, [.ref (b 7)])), (b 3, .inr (3, [.ref (b 8)])), (b 4, .inr (3, [.ref (b 9)])), (b 5, .inr (3, [.ref (b 10)])), (b 6, .inl (cI, 120, .inl (zA (fun x => f (9 + x))))), (b 7, .inl (cI, 120, .inl (zA (fun x => f (129 + x))))), (b 8, .inl (cI, 121, .inl (zA (fun x => f (249 + x))))), (b 9, .inl (cI, 121, .inl (zA (fun x => f (370 + x))))), (b 10, .inl (cI, 121, .inl (zA ps)))] rfl rfl 3 (by decide) f28 (fun _ h9 => h9) rfl (by decide +kernel) rfl rfl (Nat.le_of_ble_eq_true rfl) dX5_inspect_2 rfl (fun H locs hP hS => ?_)
  refine z_iconst hx hb dX5_inspect_5 ?_
  refine lv_istore_n (lv' := [(1, .int (zI (0))), (0, .ref s0)]) hx hb dX5_inspect_6 rfl hl (by decide) rfl (fun ls hl => ?_)
  refine z_iconst hx hb dX5_inspect_7 ?_
  refine lv_istore_n (lv' := [(2, .int (zI (0))), (1, .int (zI (0))), (0, .ref s0)]) hx hb dX5_inspect_8 rfl hl (by decide) rfl (fun ls hl => ?_)
  have L9 : ∀ (fuel : Nat), ∀ (i : Int) (x : Int) (g : Int → Int), ∀ (h1 : 0 ≤ x ∧ x ≤ f 0 + 1), ∀ (hi : i = rank f x), ∀ (hg : Fnd g (vio f ps gd n x)), (f 0 + 1 - x).toNat < fuel → ∀ (H : Heap) (locs : List Loc), va_P D vwCl [(s0, .inr (5, [.ref (b 0), .ref p0, .ref (w 0), .int (zI (((vio f ps gd n x).length : Int)))])), (w 0, .inr (3, [.ref (w 1)])), (w 1, .inl (cI, 363, .inl (zA g))), (p0, .inr (2, [.ref (b 0), .ref (r 0), .ref (r 1), .ref (r 2), .ref (r 3), .int (zI (fr))])), (r 2, .inr (3, [.ref (r 6)])), (r 6, .inl (cI, 121, .inl (zA gd))), (b 0, .inr (4, [.ref (b 1), .ref (b 2), .ref (b 3), .ref (b 4), .ref (b 5), .int (zI (n)), .int (zI (f 0)), .int (zI (f 1)), .int (zI (f 2)), .int (zI (f 3)), .int (zI (f 4)), .int (zI (f 5)), .int (zI (f 6)), .int (zI (f 7)), .int (zI (f 8))])), (b 1, .inr (3, [.ref (b 6)])), (b 2, .inr (3, [.ref (b 7)])), (b 3, .inr (3, [.ref (b 8)])), (b 4, .inr (3, [.ref (b 9)])), (b 5, .inr (3, [.ref (b 10)])), (b 6, .inl (cI, 120, .inl (zA (fun x => f (9 + x))))), (b 7, .inl (cI, 120, .inl (zA (fun x => f (129 + x))))), (b 8, .inl (cI, 121, .inl (zA (fun x => f (249 + x))))), (b 9, .inl (cI, 121, .inl (zA (fun x => f (370 + x))))), (b 10, .inl (cI, 121, .inl (zA ps)))] H → va_S A s.heap H locs → ∀ (ls : Array Slot), lv_has ls 3 [(0, .ref s0), (1, .int (zI (i))), (2, .int (zI (x)))] → W p l e rmX5_inspect s m args below meth c H locs 0 0 Q (F0 m 9 ls []) := by
    intro fuel
    induction fuel with
    | zero =>
      intro i x g h1 hi hg hm
      exact absurd hm (Nat.not_lt_zero _)
    | succ fuel ih9 =>
      intro i x g h1 hi hg hm H locs hP hS ls hl
      have hl9 := vio_len (ps := ps) (gd := gd) (n := n) ok x h1.1 (by omega)
      have hr9 := rank_b ok h1.1 (by omega : x ≤ 121)
      refine lv_iload_n hx hb dX5_inspect_9 rfl (lv_at hl 2 rfl) ?_
      refine lv_aload_n hx hb dX5_inspect_10 rfl (lv_at hl 0 rfl) ?_
      refine va_get (D := D) (ci := 5) (v := .ref (b 0)) (C := RX5) (T := TX5) (N := 4) hx hb hts in5 hown hK hP 0 rfl rfl 0 (by decide) f20 (fun _ h9 => h9) rfl dX5_inspect_11 ?_
      refine va_get (D := D) (ci := 4) (v := .int (zI (f 0))) (C := RX4) (T := TX4) (N := 15) hx hb hts in4 hown hK hP 6 rfl rfl 6 (by decide) f32 (fun _ h9 => h9) rfl dX5_inspect_14 ?_
      refine z_icmp_gt (tgt := 78) hx hb dX5_inspect_17 (by decide) (by omega) (by omega) (fun c17 => ?_) (fun c17 => ?_)
      · refine lv_aload_n hx hb dX5_inspect_78 rfl (lv_at hl 0 rfl) ?_
        refine va_get (D := D) (ci := 5) (v := .int (zI (((vio f ps gd n x).length : Int)))) (C := RX5) (T := TX5) (N := 4) hx hb hts in5 hown hK hP 0 rfl rfl 3 (by decide) f28 (fun _ h9 => h9) rfl dX5_inspect_79 ?_
        have e9 : x = f 0 + 1 := by omega
        rw [e9] at hP hg
        exact hret g ⟨by rw [e9], hg⟩ hP hS dX5_inspect_82
      · refine lv_iload_n hx hb dX5_inspect_20 rfl (lv_at hl 1 rfl) ?_
        refine lv_aload_n hx hb dX5_inspect_21 rfl (lv_at hl 0 rfl) ?_
        refine va_get (D := D) (ci := 5) (v := .ref (b 0)) (C := RX5) (T := TX5) (N := 4) hx hb hts in5 hown hK hP 0 rfl rfl 0 (by decide) f20 (fun _ h9 => h9) rfl dX5_inspect_22 ?_
        refine va_get (D := D) (ci := 4) (v := .int (zI (n))) (C := RX4) (T := TX4) (N := 15) hx hb hts in4 hown hK hP 6 rfl rfl 5 (by decide) f37 (fun _ h9 => h9) rfl dX5_inspect_25 ?_
        refine z_icmp_ge (tgt := 58) hx hb dX5_inspect_28 (by decide) (by omega) (by omega) (fun c28 => ?_) (fun c28 => ?_)
        · have hxu : f (491 + x) ≠ 1 := fun q => by have q1 := rank_lt ok h1.1 (by omega : x < f 0 + 1) (by omega) q; have q2 := rep.1; omega
          refine lv_aload_n hx hb dX5_inspect_58 rfl (lv_at hl 0 rfl) ?_
          refine lv_aload_n hx hb dX5_inspect_59 rfl (lv_at hl 0 rfl) ?_
          refine va_get (D := D) (ci := 5) (v := .ref (b 0)) (C := RX5) (T := TX5) (N := 4) hx hb hts in5 hown hK hP 0 rfl rfl 0 (by decide) f20 (fun _ h9 => h9) rfl dX5_inspect_60 ?_
          refine lv_iload_n hx hb dX5_inspect_63 rfl (lv_at hl 2 rfl) ?_
          refine y_rV (v := zB (wanted f x)) (As := [.int (zI (x))]) (rest := [.ref s0]) hx hb hml hown hts hl.1 ⟨Nat.zero_le _, Nat.zero_le _⟩ (kX4_needsPost l D cI cJ cS b f ps n x ok (by omega)) (cwV 1 hts gX5_inspect_X4_needsPost rfl rfl rfl jX4_needsPost ⟨Nat.le_of_ble_eq_true rfl, Nat.le_of_ble_eq_true rfl⟩) hK [false, false, false, false, false, false, true, true, true, true, true, true, true, true, true, true, true] hP (zD hD rfl) rfl 4 0 rfl rfl rfl rfl rfl (Nat.le_of_ble_eq_true rfl) dX5_inspect_64 ?_
          refine z_iconst hx hb dX5_inspect_67 ?_
          refine lv_iload_n hx hb dX5_inspect_68 rfl (lv_at hl 2 rfl) ?_
          refine y_wVv (As := [.int (zI (zB (wanted f x))), .int (zI (2)), .int (zI (x))]) (rest := []) (fun (u69 : Int → Int) => [(s0, .inr (5, [.ref (b 0), .ref p0, .ref (w 0), .int (zI ((((vio f ps gd n x) ++ zl (wanted f x) (1000 * 2 + x)).length : Int)))])), (w 0, .inr (3, [.ref (w 1)])), (w 1, .inl (cI, 363, .inl (zA u69))), (p0, .inr (2, [.ref (b 0), .ref (r 0), .ref (r 1), .ref (r 2), .ref (r 3), .int (zI (fr))])), (r 2, .inr (3, [.ref (r 6)])), (r 6, .inl (cI, 121, .inl (zA gd))), (b 0, .inr (4, [.ref (b 1), .ref (b 2), .ref (b 3), .ref (b 4), .ref (b 5), .int (zI (n)), .int (zI (f 0)), .int (zI (f 1)), .int (zI (f 2)), .int (zI (f 3)), .int (zI (f 4)), .int (zI (f 5)), .int (zI (f 6)), .int (zI (f 7)), .int (zI (f 8))])), (b 1, .inr (3, [.ref (b 6)])), (b 2, .inr (3, [.ref (b 7)])), (b 3, .inr (3, [.ref (b 8)])), (b 4, .inr (3, [.ref (b 9)])), (b 5, .inr (3, [.ref (b 10)])), (b 6, .inl (cI, 120, .inl (zA (fun x => f (9 + x))))), (b 7, .inl (cI, 120, .inl (zA (fun x => f (129 + x))))), (b 8, .inl (cI, 121, .inl (zA (fun x => f (249 + x))))), (b 9, .inl (cI, 121, .inl (zA (fun x => f (370 + x))))), (b 10, .inl (cI, 121, .inl (zA ps)))]) hx hb hml hown hts hl.1 ⟨Nat.zero_le _, Nat.zero_le _⟩ (kX5_note l D cI cJ cS s0 p0 b w g (vio f ps gd n x) (wanted f x) 2 x hg (by omega)) (cwV 3 hts gX5_inspect_X5_note rfl rfl rfl jX5_note ⟨Nat.le_of_ble_eq_true rfl, Nat.le_of_ble_eq_true rfl⟩) hK [true, true, true] hP (zD hD rfl) hS rfl (fun _ => rfl) (fun _ => rfl) 5 0 rfl rfl rfl rfl rfl (Nat.le_of_ble_eq_true rfl) dX5_inspect_69 (fun u69 H locs hu69 hP hS => ?_)
          have e49 : vio f ps gd n x ++ zl (wanted f x) (1000 * 2 + x) = vio f ps gd n (x + 1) := by rw [vio_s h1.1, vat_no hxu]
          rw [e49] at hu69 hP
          have hu69b := hu69
          have e58 : i = rank f (x + 1) := by
            have e0 := opost x h1.1 (by omega)
            rw [hi]
            show rank f x = zsm f 491 (x + 1)
            rw [zsm_s h1.1, show f (491 + x) = 0 by omega, Int.add_zero]
          refine z_iinc (lv' := [(2, .int (zI (x + 1))), (0, .ref s0), (1, .int (zI (i)))]) hx hb 2 (x + 1) dX5_inspect_72 hl rfl (by omega) (by decide) rfl (fun ls hl => ?_)
          refine lv_goto (tgt := 9) hx hb dX5_inspect_75 (by decide) ?_
          exact ih9 i (x + 1) u69 (by omega) e58 hu69b (by omega) _ _ hP hS ls (lv_sub hl [1, 2, 0] rfl)
        · refine lv_aload_n hx hb dX5_inspect_31 rfl (lv_at hl 0 rfl) ?_
          refine va_get (D := D) (ci := 5) (v := .ref (b 0)) (C := RX5) (T := TX5) (N := 4) hx hb hts in5 hown hK hP 0 rfl rfl 0 (by decide) f20 (fun _ h9 => h9) rfl dX5_inspect_32 ?_
          refine va_get (D := D) (ci := 4) (v := .ref (b 5)) (C := RX4) (T := TX4) (N := 15) hx hb hts in4 hown hK hP 6 rfl rfl 4 (by decide) f40 (fun _ h9 => h9) rfl dX5_inspect_35 ?_
          refine lv_iload_n hx hb dX5_inspect_38 rfl (lv_at hl 1 rfl) ?_
          have hj := rep_k ok rep (k := i) (by omega) (by omega)
          refine y_rV (v := ps i) (As := [.int (zI (i))]) (rest := []) hx hb hml hown hts hl.1 ⟨Nat.zero_le _, Nat.zero_le _⟩ (kX3_at l D cI cJ cS (b 5) (b 10) 121 ps i (by omega) (Nat.lt_of_succ_le (Nat.le_of_ble_eq_true rfl))) (cwV 1 hts gX5_inspect_X3_at rfl rfl rfl jX3_at ⟨Nat.le_of_ble_eq_true rfl, Nat.le_of_ble_eq_true rfl⟩) hK [false, false, false, false, false, false, false, false, false, false, false, true, false, false, false, false, true] hP (zD hD rfl) rfl 3 0 rfl rfl rfl rfl rfl (Nat.le_of_ble_eq_true rfl) dX5_inspect_39 ?_
          refine lv_iload_n hx hb dX5_inspect_42 rfl (lv_at hl 2 rfl) ?_
          refine z_icmp_ne (tgt := 58) hx hb dX5_inspect_43 (by decide) (by omega) (by omega) (fun c43 => ?_) (fun c43 => ?_)
          · have hxu : f (491 + x) ≠ 1 := fun q => c43 (by rw [hi]; exact rep.2 x h1.1 (by omega) q)
            refine lv_aload_n hx hb dX5_inspect_58 rfl (lv_at hl 0 rfl) ?_
            refine lv_aload_n hx hb dX5_inspect_59 rfl (lv_at hl 0 rfl) ?_
            refine va_get (D := D) (ci := 5) (v := .ref (b 0)) (C := RX5) (T := TX5) (N := 4) hx hb hts in5 hown hK hP 0 rfl rfl 0 (by decide) f20 (fun _ h9 => h9) rfl dX5_inspect_60 ?_
            refine lv_iload_n hx hb dX5_inspect_63 rfl (lv_at hl 2 rfl) ?_
            refine y_rV (v := zB (wanted f x)) (As := [.int (zI (x))]) (rest := [.ref s0]) hx hb hml hown hts hl.1 ⟨Nat.zero_le _, Nat.zero_le _⟩ (kX4_needsPost l D cI cJ cS b f ps n x ok (by omega)) (cwV 1 hts gX5_inspect_X4_needsPost rfl rfl rfl jX4_needsPost ⟨Nat.le_of_ble_eq_true rfl, Nat.le_of_ble_eq_true rfl⟩) hK [false, false, false, false, false, false, true, true, true, true, true, true, true, true, true, true, true] hP (zD hD rfl) rfl 4 0 rfl rfl rfl rfl rfl (Nat.le_of_ble_eq_true rfl) dX5_inspect_64 ?_
            refine z_iconst hx hb dX5_inspect_67 ?_
            refine lv_iload_n hx hb dX5_inspect_68 rfl (lv_at hl 2 rfl) ?_
            refine y_wVv (As := [.int (zI (zB (wanted f x))), .int (zI (2)), .int (zI (x))]) (rest := []) (fun (u69 : Int → Int) => [(s0, .inr (5, [.ref (b 0), .ref p0, .ref (w 0), .int (zI ((((vio f ps gd n x) ++ zl (wanted f x) (1000 * 2 + x)).length : Int)))])), (w 0, .inr (3, [.ref (w 1)])), (w 1, .inl (cI, 363, .inl (zA u69))), (p0, .inr (2, [.ref (b 0), .ref (r 0), .ref (r 1), .ref (r 2), .ref (r 3), .int (zI (fr))])), (r 2, .inr (3, [.ref (r 6)])), (r 6, .inl (cI, 121, .inl (zA gd))), (b 0, .inr (4, [.ref (b 1), .ref (b 2), .ref (b 3), .ref (b 4), .ref (b 5), .int (zI (n)), .int (zI (f 0)), .int (zI (f 1)), .int (zI (f 2)), .int (zI (f 3)), .int (zI (f 4)), .int (zI (f 5)), .int (zI (f 6)), .int (zI (f 7)), .int (zI (f 8))])), (b 1, .inr (3, [.ref (b 6)])), (b 2, .inr (3, [.ref (b 7)])), (b 3, .inr (3, [.ref (b 8)])), (b 4, .inr (3, [.ref (b 9)])), (b 5, .inr (3, [.ref (b 10)])), (b 6, .inl (cI, 120, .inl (zA (fun x => f (9 + x))))), (b 7, .inl (cI, 120, .inl (zA (fun x => f (129 + x))))), (b 8, .inl (cI, 121, .inl (zA (fun x => f (249 + x))))), (b 9, .inl (cI, 121, .inl (zA (fun x => f (370 + x))))), (b 10, .inl (cI, 121, .inl (zA ps)))]) hx hb hml hown hts hl.1 ⟨Nat.zero_le _, Nat.zero_le _⟩ (kX5_note l D cI cJ cS s0 p0 b w g (vio f ps gd n x) (wanted f x) 2 x hg (by omega)) (cwV 3 hts gX5_inspect_X5_note rfl rfl rfl jX5_note ⟨Nat.le_of_ble_eq_true rfl, Nat.le_of_ble_eq_true rfl⟩) hK [true, true, true] hP (zD hD rfl) hS rfl (fun _ => rfl) (fun _ => rfl) 5 0 rfl rfl rfl rfl rfl (Nat.le_of_ble_eq_true rfl) dX5_inspect_69 (fun u69 H locs hu69 hP hS => ?_)
            have e49 : vio f ps gd n x ++ zl (wanted f x) (1000 * 2 + x) = vio f ps gd n (x + 1) := by rw [vio_s h1.1, vat_no hxu]
            rw [e49] at hu69 hP
            have hu69b := hu69
            have e58 : i = rank f (x + 1) := by
              have e0 := opost x h1.1 (by omega)
              rw [hi]
              show rank f x = zsm f 491 (x + 1)
              rw [zsm_s h1.1, show f (491 + x) = 0 by omega, Int.add_zero]
            refine z_iinc (lv' := [(2, .int (zI (x + 1))), (0, .ref s0), (1, .int (zI (i)))]) hx hb 2 (x + 1) dX5_inspect_72 hl rfl (by omega) (by decide) rfl (fun ls hl => ?_)
            refine lv_goto (tgt := 9) hx hb dX5_inspect_75 (by decide) ?_
            exact ih9 i (x + 1) u69 (by omega) e58 hu69b (by omega) _ _ hP hS ls (lv_sub hl [1, 2, 0] rfl)
          · have hxm : f (491 + x) = 1 := by rw [← c43]; exact hj.2.2.1
            refine lv_aload_n hx hb dX5_inspect_46 rfl (lv_at hl 0 rfl) ?_
            refine lv_iload_n hx hb dX5_inspect_47 rfl (lv_at hl 1 rfl) ?_
            refine lv_iload_n hx hb dX5_inspect_48 rfl (lv_at hl 2 rfl) ?_
            refine y_wVv (As := [.int (zI (i)), .int (zI (x))]) (rest := []) (fun (u49 : Int → Int) => [(s0, .inr (5, [.ref (b 0), .ref p0, .ref (w 0), .int (zI ((((vio f ps gd n x) ++ vat f ps gd n i x).length : Int)))])), (w 0, .inr (3, [.ref (w 1)])), (w 1, .inl (cI, 363, .inl (zA u49))), (p0, .inr (2, [.ref (b 0), .ref (r 0), .ref (r 1), .ref (r 2), .ref (r 3), .int (zI (fr))])), (r 2, .inr (3, [.ref (r 6)])), (r 6, .inl (cI, 121, .inl (zA gd))), (b 0, .inr (4, [.ref (b 1), .ref (b 2), .ref (b 3), .ref (b 4), .ref (b 5), .int (zI (n)), .int (zI (f 0)), .int (zI (f 1)), .int (zI (f 2)), .int (zI (f 3)), .int (zI (f 4)), .int (zI (f 5)), .int (zI (f 6)), .int (zI (f 7)), .int (zI (f 8))])), (b 1, .inr (3, [.ref (b 6)])), (b 2, .inr (3, [.ref (b 7)])), (b 3, .inr (3, [.ref (b 8)])), (b 4, .inr (3, [.ref (b 9)])), (b 5, .inr (3, [.ref (b 10)])), (b 6, .inl (cI, 120, .inl (zA (fun x => f (9 + x))))), (b 7, .inl (cI, 120, .inl (zA (fun x => f (129 + x))))), (b 8, .inl (cI, 121, .inl (zA (fun x => f (249 + x))))), (b 9, .inl (cI, 121, .inl (zA (fun x => f (370 + x))))), (b 10, .inl (cI, 121, .inl (zA ps)))]) hx hb hml hown hts hl.1 ⟨Nat.zero_le _, Nat.zero_le _⟩ (kX5_inspectPost l D cI cJ cS s0 p0 b r w fr f ps n g (vio f ps gd n x) gd i x ok rep hgd (by omega) (by omega) hxm hg (by omega)) (cwV 2 hts gX5_inspect_X5_inspectPost rfl rfl rfl jX5_inspectPost ⟨Nat.le_of_ble_eq_true rfl, Nat.le_of_ble_eq_true rfl⟩) hK [true, true, true, true, true, true, true, true, true, true, true, true, true, true, true, true, true] hP (zD hD rfl) hS rfl (fun _ => rfl) (fun _ => rfl) 5 0 rfl rfl rfl rfl rfl (Nat.le_of_ble_eq_true rfl) dX5_inspect_49 (fun u49 H locs hu49 hP hS => ?_)
            have e49 : vio f ps gd n x ++ vat f ps gd n i x = vio f ps gd n (x + 1) := by rw [vio_s h1.1, hi]
            rw [e49] at hu49 hP
            have hu49b := hu49
            have e58 : i + 1 = rank f (x + 1) := by rw [hi]; show _ = zsm f 491 (x + 1); rw [zsm_s h1.1, hxm]
            refine z_iinc (lv' := [(1, .int (zI (i + 1))), (0, .ref s0), (2, .int (zI (x)))]) hx hb 1 (i + 1) dX5_inspect_52 hl rfl (by omega) (by decide) rfl (fun ls hl => ?_)
            refine lv_goto (tgt := 72) hx hb dX5_inspect_55 (by decide) ?_
            refine z_iinc (lv' := [(2, .int (zI (x + 1))), (1, .int (zI (i + 1))), (0, .ref s0)]) hx hb 2 (x + 1) dX5_inspect_72 hl rfl (by omega) (by decide) rfl (fun ls hl => ?_)
            refine lv_goto (tgt := 9) hx hb dX5_inspect_75 (by decide) ?_
            exact ih9 (i + 1) (x + 1) u49 (by omega) e58 hu49b (by omega) _ _ hP hS ls (lv_sub hl [2, 1, 0] rfl)
  exact L9 _ 0 0 g0 (by omega) (by rw [show rank f 0 = 0 from zsm_0 f 491]) (fnd_nil _) (Nat.lt_succ_self _) _ _ hP hS ls (lv_sub hl [2, 1, 0] rfl)
