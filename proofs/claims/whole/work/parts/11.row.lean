/-! ===== SignalSpacing$Row: its methods' contracts ===== -/
def zfill (g : Int → Int) (a b v : Int) : Int → Int := fun x => if a ≤ x ∧ x ≤ b then v else g x
/-- how many of k places from a on hold another number than v -/
def zcnt (g : Int → Int) (v a : Int) : Nat → Int
  | 0 => 0
  | k + 1 => zcnt g v a k + (if g (a + (k : Int)) = v then 0 else 1)
theorem zcnt_s {g : Int → Int} {v a i : Int} (h : a ≤ i) : zcnt g v a (i + 1 - a).toNat = zcnt g v a (i - a).toNat + (if g i = v then 0 else 1) := by
  have h1 : (i + 1 - a).toNat = (i - a).toNat + 1 := by omega
  rw [h1]
  show zcnt g v a (i - a).toNat + (if g (a + ((i - a).toNat : Int)) = v then 0 else 1) = _
  rw [show a + ((i - a).toNat : Int) = i by omega]
theorem zcnt_b (g : Int → Int) (v a : Int) : ∀ k : Nat, 0 ≤ zcnt g v a k ∧ zcnt g v a k ≤ (k : Int)
  | 0 => ⟨Int.le_refl _, Int.le_refl _⟩
  | k + 1 => by
    have h := zcnt_b g v a k
    show 0 ≤ zcnt g v a k + (if g (a + (k : Int)) = v then 0 else 1) ∧ zcnt g v a k + (if g (a + (k : Int)) = v then 0 else 1) ≤ ((k + 1 : Nat) : Int)
    split <;> omega

abbrev rmX3_at : Room := { frames := 0, cells := 0, slots := 0, locals := 0 }
theorem jX3_at : yX3_at.cls = RX3 ∧ yX3_at.cls ≠ "java/lang/invoke/MethodHandle" ∧ yX3_at.cls ≠ "java/lang/invoke/VarHandle" ∧ (parseMethodDescriptor yX3_at.desc).map (fun d => d.parameters.length) = some 1 := by decide +kernel
set_option maxHeartbeats 4000000 in
set_option maxRecDepth 100000 in
/-- Row.at within the row -/
theorem kX3_at (l : Launch) (D : va_G) (cI cJ cS : ClassId) (b q : Nat) (n : Nat) (g : Int → Int) (i : Int) (h1 : 0 ≤ i ∧ i < (n : Int)) (h2 : n < 2147483648) : Met l yX3_at wsX3_at rmX3_at (zPc D (zT cI cJ cS) [.ref b, .int (zI (i))] [(b, .inr (3, [.ref q])), (q, .inl (cI, n, .inl (zA g)))]) (vp_Si (fun r => r = zI (g i))) 0 0 (fun _ => False) := by
  refine zRi_of (cc := cX3_at) (maxL := 2) (ret := (some .int)) (g i) (by decide) rfl (Nat.le_of_ble_eq_true rfl) rfl ?_
  intro p e s m args below meth c Q ls hx hb hml hts hown hK hP hD hl hret
  have in3 : ∀ w ∈ wsX30, w ∈ wsX3_at := by decide +kernel
  have f7 := hts (.fieldLink RX3 7 "SignalSpacing$Row" "numbers" "[I") (by decide +kernel)
  have hl : lv_has ls 2 [(0, .ref b), (1, .int (zI (i)))] := hl
  have hP : va_P D vwCl [(b, .inr (3, [.ref q])), (q, .inl (cI, n, .inl (zA g)))] s.heap := hP
  refine lv_iload_n hx hb dX3_at_0 rfl (lv_at hl 1 rfl) ?_
  refine z_if_lt (tgt := 22) hx hb dX3_at_1 (by decide) (by omega) (fun c1 => ?_) (fun c1 => ?_)
  · exfalso; omega
  · refine lv_iload_n hx hb dX3_at_4 rfl (lv_at hl 1 rfl) ?_
    refine lv_aload_n hx hb dX3_at_5 rfl (lv_at hl 0 rfl) ?_
    refine va_get (D := D) (ci := 3) (v := .ref q) (C := RX3) (T := TX3) (N := 1) hx hb hts in3 hown hK hP 0 rfl rfl 0 (by decide) f7 (fun _ h9 => h9) rfl dX3_at_6 ?_
    refine z_alen hx hb hK hP 1 0 (n : Int) rfl rfl rfl dX3_at_9 ?_
    refine z_icmp_ge (tgt := 22) hx hb dX3_at_10 (by decide) (by omega) (by omega) (fun c10 => ?_) (fun c10 => ?_)
    · exfalso; omega
    · refine lv_aload_n hx hb dX3_at_13 rfl (lv_at hl 0 rfl) ?_
      refine va_get (D := D) (ci := 3) (v := .ref q) (C := RX3) (T := TX3) (N := 1) hx hb hts in3 hown hK hP 0 rfl rfl 0 (by decide) f7 (fun _ h9 => h9) rfl dX3_at_14 ?_
      refine lv_iload_n hx hb dX3_at_17 rfl (lv_at hl 1 rfl) ?_
      refine z_iald hx hb hK hP 1 0 rfl rfl (by omega) (by omega) dX3_at_18 ?_
      refine lv_goto (tgt := 23) hx hb dX3_at_19 (by decide) ?_
      exact z_top (g i) rfl (hret dX3_at_23)

abbrev rmX3_put : Room := { frames := 0, cells := 0, slots := 0, locals := 0 }
theorem jX3_put : yX3_put.cls = RX3 ∧ yX3_put.cls ≠ "java/lang/invoke/MethodHandle" ∧ yX3_put.cls ≠ "java/lang/invoke/VarHandle" ∧ (parseMethodDescriptor yX3_put.desc).map (fun d => d.parameters.length) = some 2 := by decide +kernel
set_option maxHeartbeats 4000000 in
set_option maxRecDepth 100000 in
/-- Row.put within the row -/
theorem kX3_put (l : Launch) (D : va_G) (cI cJ cS : ClassId) (b q : Nat) (n : Nat) (g : Int → Int) (i v : Int) (h1 : 0 ≤ i ∧ i < (n : Int)) (h2 : n < 2147483648) : Met l yX3_put wsX3_put rmX3_put (zPc D (zT cI cJ cS) [.ref b, .int (zI (i)), .int (zI (v))] [(b, .inr (3, [.ref q])), (q, .inl (cI, n, .inl (zA g)))]) (va_Qv (fun _ => True) (fun (u : Unit) t => va_P D vwCl [(b, .inr (3, [.ref q])), (q, .inl (cI, n, .inl (zA (zup g i v))))] t.heap) (zAd [(b, .inr (3, [.ref q])), (q, .inl (cI, n, .inl (zA g)))])) 0 0 (zAd [(b, .inr (3, [.ref q])), (q, .inl (cI, n, .inl (zA g)))]) := by
  refine zWv_of (cc := cX3_put) (maxL := 3) (ret := none) (by decide) rfl (Nat.le_of_ble_eq_true rfl) rfl ?_
  intro p e s m args below meth c Q A ls hx hb hml hts hown hK hP hD hS hl hret
  have in3 : ∀ w ∈ wsX30, w ∈ wsX3_put := by decide +kernel
  have f7 := hts (.fieldLink RX3 7 "SignalSpacing$Row" "numbers" "[I") (by decide +kernel)
  have hl : lv_has ls 3 [(0, .ref b), (1, .int (zI (i))), (2, .int (zI (v)))] := hl
  have hP : va_P D vwCl [(b, .inr (3, [.ref q])), (q, .inl (cI, n, .inl (zA g)))] s.heap := hP
  refine lv_iload_n hx hb dX3_put_0 rfl (lv_at hl 1 rfl) ?_
  refine z_if_lt (tgt := 20) hx hb dX3_put_1 (by decide) (by omega) (fun c1 => ?_) (fun c1 => ?_)
  · exfalso; omega
  · refine lv_iload_n hx hb dX3_put_4 rfl (lv_at hl 1 rfl) ?_
    refine lv_aload_n hx hb dX3_put_5 rfl (lv_at hl 0 rfl) ?_
    refine va_get (D := D) (ci := 3) (v := .ref q) (C := RX3) (T := TX3) (N := 1) hx hb hts in3 hown hK hP 0 rfl rfl 0 (by decide) f7 (fun _ h9 => h9) rfl dX3_put_6 ?_
    refine z_alen hx hb hK hP 1 0 (n : Int) rfl rfl rfl dX3_put_9 ?_
    refine z_icmp_ge (tgt := 20) hx hb dX3_put_10 (by decide) (by omega) (by omega) (fun c10 => ?_) (fun c10 => ?_)
    · exfalso; omega
    · refine lv_aload_n hx hb dX3_put_13 rfl (lv_at hl 0 rfl) ?_
      refine va_get (D := D) (ci := 3) (v := .ref q) (C := RX3) (T := TX3) (N := 1) hx hb hts in3 hown hK hP 0 rfl rfl 0 (by decide) f7 (fun _ h9 => h9) rfl dX3_put_14 ?_
      refine lv_iload_n hx hb dX3_put_17 rfl (lv_at hl 1 rfl) ?_
      refine lv_iload_n hx hb dX3_put_18 rfl (lv_at hl 2 rfl) ?_
      refine z_iast hx hb hK hP hD hS 1 0 [(b, .inr (3, [.ref q])), (q, .inl (cI, n, .inl (zA (zup g i v))))] rfl rfl (by omega) (by omega) rfl dX3_put_19 (fun H locs hP hS => ?_)
      exact hret () trivial hP hS dX3_put_20

abbrev rmX3_fill : Room := { frames := 0, cells := 0, slots := 0, locals := 0 }
theorem jX3_fill : yX3_fill.cls = RX3 ∧ yX3_fill.cls ≠ "java/lang/invoke/MethodHandle" ∧ yX3_fill.cls ≠ "java/lang/invoke/VarHandle" ∧ (parseMethodDescriptor yX3_fill.desc).map (fun d => d.parameters.length) = some 1 := by decide +kernel
set_option maxHeartbeats 4000000 in
set_option maxRecDepth 100000 in
/-- Row.fill -/
theorem kX3_fill (l : Launch) (D : va_G) (cI cJ cS : ClassId) (b q : Nat) (n : Nat) (g : Int → Int) (v : Int) (h2 : n < 2147483648) : Met l yX3_fill wsX3_fill rmX3_fill (zPc D (zT cI cJ cS) [.ref b, .int (zI (v))] [(b, .inr (3, [.ref q])), (q, .inl (cI, n, .inl (zA g)))]) (va_Qv (fun _ => True) (fun (u : Unit) t => va_P D vwCl [(b, .inr (3, [.ref q])), (q, .inl (cI, n, .inl (zA (fun _ => v))))] t.heap) (zAd [(b, .inr (3, [.ref q])), (q, .inl (cI, n, .inl (zA g)))])) 0 0 (zAd [(b, .inr (3, [.ref q])), (q, .inl (cI, n, .inl (zA g)))]) := by
  refine zWv_of (cc := cX3_fill) (maxL := 3) (ret := none) (by decide) rfl (Nat.le_of_ble_eq_true rfl) rfl ?_
  intro p e s m args below meth c Q A ls hx hb hml hts hown hK hP hD hS hl hret
  have in3 : ∀ w ∈ wsX30, w ∈ wsX3_fill := by decide +kernel
  have f7 := hts (.fieldLink RX3 7 "SignalSpacing$Row" "numbers" "[I") (by decide +kernel)
  have hl : lv_has ls 3 [(0, .ref b), (1, .int (zI (v)))] := hl
  have hP : va_P D vwCl [(b, .inr (3, [.ref q])), (q, .inl (cI, n, .inl (zA g)))] s.heap := hP
  refine z_iconst hx hb dX3_fill_0 ?_
  refine lv_istore_n (lv' := [(2, .int (zI (0))), (0, .ref b), (1, .int (zI (v)))]) hx hb dX3_fill_1 rfl hl (by decide) rfl (fun ls hl => ?_)
  have L2 : ∀ (fuel : Nat), ∀ (i : Int) (g1 : Int → Int), ∀ (hi : 0 ≤ i ∧ i ≤ (n : Int)), ∀ (hg : ∀ x : Int, 0 ≤ x → x < i → g1 x = v), ((n : Int) - i).toNat < fuel → ∀ (H : Heap) (locs : List Loc), va_P D vwCl [(b, .inr (3, [.ref q])), (q, .inl (cI, n, .inl (zA g1)))] H → va_S A s.heap H locs → ∀ (ls : Array Slot), lv_has ls 3 [(0, .ref b), (1, .int (zI (v))), (2, .int (zI (i)))] → W p l e rmX3_fill s m args below meth c H locs 0 0 Q (F0 m 2 ls []) := by
    intro fuel
    induction fuel with
    | zero =>
      intro i g1 hi hg hm
      exact absurd hm (Nat.not_lt_zero _)
    | succ fuel ih2 =>
      intro i g1 hi hg hm H locs hP hS ls hl
      refine lv_iload_n hx hb dX3_fill_2 rfl (lv_at hl 2 rfl) ?_
      refine lv_aload_n hx hb dX3_fill_3 rfl (lv_at hl 0 rfl) ?_
      refine va_get (D := D) (ci := 3) (v := .ref q) (C := RX3) (T := TX3) (N := 1) hx hb hts in3 hown hK hP 0 rfl rfl 0 (by decide) f7 (fun _ h9 => h9) rfl dX3_fill_4 ?_
      refine z_alen hx hb hK hP 1 0 (n : Int) rfl rfl rfl dX3_fill_7 ?_
      refine z_icmp_ge (tgt := 24) hx hb dX3_fill_8 (by decide) (by omega) (by omega) (fun c8 => ?_) (fun c8 => ?_)
      · have hP := zre (g' := fun _ => v) 1 hP rfl (fun x h3 h4 => hg x h3 (by omega))
        exact hret () trivial hP hS dX3_fill_24
      · refine lv_aload_n hx hb dX3_fill_11 rfl (lv_at hl 0 rfl) ?_
        refine va_get (D := D) (ci := 3) (v := .ref q) (C := RX3) (T := TX3) (N := 1) hx hb hts in3 hown hK hP 0 rfl rfl 0 (by decide) f7 (fun _ h9 => h9) rfl dX3_fill_12 ?_
        refine lv_iload_n hx hb dX3_fill_15 rfl (lv_at hl 2 rfl) ?_
        refine lv_iload_n hx hb dX3_fill_16 rfl (lv_at hl 1 rfl) ?_
        refine z_iast hx hb hK hP (zD hD rfl) hS 1 0 [(b, .inr (3, [.ref q])), (q, .inl (cI, n, .inl (zA (zup g1 i v))))] rfl rfl (by omega) (by omega) rfl dX3_fill_17 (fun H locs hP hS => ?_)
        refine z_iinc (lv' := [(2, .int (zI (i + 1))), (0, .ref b), (1, .int (zI (v)))]) hx hb 2 (i + 1) dX3_fill_18 hl rfl (by omega) (by decide) rfl (fun ls hl => ?_)
        refine lv_goto (tgt := 2) hx hb dX3_fill_21 (by decide) ?_
        exact ih2 (i + 1) (zup g1 i v) (by omega) (zx_up hg rfl) (by omega) _ _ hP hS ls (lv_sub hl [1, 2, 0] rfl)
  exact L2 _ 0 g (by omega) (fun x h3 h4 => by omega) (Nat.lt_succ_self _) _ _ hP hS ls (lv_sub hl [1, 2, 0] rfl)

abbrev rmX3_copy : Room := { frames := 0, cells := 0, slots := 0, locals := 0 }
theorem jX3_copy : yX3_copy.cls = RX3 ∧ yX3_copy.cls ≠ "java/lang/invoke/MethodHandle" ∧ yX3_copy.cls ≠ "java/lang/invoke/VarHandle" ∧ (parseMethodDescriptor yX3_copy.desc).map (fun d => d.parameters.length) = some 1 := by decide +kernel
set_option maxHeartbeats 4000000 in
set_option maxRecDepth 100000 in
/-- Row.copy of a row of the same length -/
theorem kX3_copy (l : Launch) (D : va_G) (cI cJ cS : ClassId) (b q : Nat) (n : Nat) (g : Int → Int) (b2 q2 : Nat) (g2 : Int → Int) (h2 : n < 2147483648) : Met l yX3_copy wsX3_copy rmX3_copy (zPc D (zT cI cJ cS) [.ref b, .ref b2] [(b, .inr (3, [.ref q])), (q, .inl (cI, n, .inl (zA g))), (b2, .inr (3, [.ref q2])), (q2, .inl (cI, n, .inl (zA g2)))]) (va_Qv (fun _ => True) (fun (u : Unit) t => va_P D vwCl [(b, .inr (3, [.ref q])), (q, .inl (cI, n, .inl (zA g2))), (b2, .inr (3, [.ref q2])), (q2, .inl (cI, n, .inl (zA g2)))] t.heap) (zAd [(b, .inr (3, [.ref q])), (q, .inl (cI, n, .inl (zA g))), (b2, .inr (3, [.ref q2])), (q2, .inl (cI, n, .inl (zA g2)))])) 0 0 (zAd [(b, .inr (3, [.ref q])), (q, .inl (cI, n, .inl (zA g))), (b2, .inr (3, [.ref q2])), (q2, .inl (cI, n, .inl (zA g2)))]) := by
  refine zWv_of (cc := cX3_copy) (maxL := 3) (ret := none) (by decide) rfl (Nat.le_of_ble_eq_true rfl) rfl ?_
  intro p e s m args below meth c Q A ls hx hb hml hts hown hK hP hD hS hl hret
  have in3 : ∀ w ∈ wsX30, w ∈ wsX3_copy := by decide +kernel
  have f7 := hts (.fieldLink RX3 7 "SignalSpacing$Row" "numbers" "[I") (by decide +kernel)
  have hl : lv_has ls 3 [(0, .ref b), (1, .ref b2)] := hl
  have hP : va_P D vwCl [(b, .inr (3, [.ref q])), (q, .inl (cI, n, .inl (zA g))), (b2, .inr (3, [.ref q2])), (q2, .inl (cI, n, .inl (zA g2)))] s.heap := hP
  refine z_iconst hx hb dX3_copy_0 ?_
  refine lv_istore_n (lv' := [(2, .int (zI (0))), (0, .ref b), (1, .ref b2)]) hx hb dX3_copy_1 rfl hl (by decide) rfl (fun ls hl => ?_)
  have L2 : ∀ (fuel : Nat), ∀ (i : Int) (g1 : Int → Int), ∀ (hi : 0 ≤ i ∧ i ≤ (n : Int)), ∀ (hg : ∀ x : Int, 0 ≤ x → x < i → g1 x = g2 x), ((n : Int) - i).toNat < fuel → ∀ (H : Heap) (locs : List Loc), va_P D vwCl [(b, .inr (3, [.ref q])), (q, .inl (cI, n, .inl (zA g1))), (b2, .inr (3, [.ref q2])), (q2, .inl (cI, n, .inl (zA g2)))] H → va_S A s.heap H locs → ∀ (ls : Array Slot), lv_has ls 3 [(0, .ref b), (1, .ref b2), (2, .int (zI (i)))] → W p l e rmX3_copy s m args below meth c H locs 0 0 Q (F0 m 2 ls []) := by
    intro fuel
    induction fuel with
    | zero =>
      intro i g1 hi hg hm
      exact absurd hm (Nat.not_lt_zero _)
    | succ fuel ih2 =>
      intro i g1 hi hg hm H locs hP hS ls hl
      refine lv_iload_n hx hb dX3_copy_2 rfl (lv_at hl 2 rfl) ?_
      refine lv_aload_n hx hb dX3_copy_3 rfl (lv_at hl 0 rfl) ?_
      refine va_get (D := D) (ci := 3) (v := .ref q) (C := RX3) (T := TX3) (N := 1) hx hb hts in3 hown hK hP 0 rfl rfl 0 (by decide) f7 (fun _ h9 => h9) rfl dX3_copy_4 ?_
      refine z_alen hx hb hK hP 1 0 (n : Int) rfl rfl rfl dX3_copy_7 ?_
      refine z_icmp_ge (tgt := 38) hx hb dX3_copy_8 (by decide) (by omega) (by omega) (fun c8 => ?_) (fun c8 => ?_)
      · have hP := zre (g' := g2) 1 hP rfl (fun x h3 h4 => hg x h3 (by omega))
        exact hret () trivial hP hS dX3_copy_38
      · refine lv_iload_n hx hb dX3_copy_11 rfl (lv_at hl 2 rfl) ?_
        refine lv_aload_n hx hb dX3_copy_12 rfl (lv_at hl 1 rfl) ?_
        refine va_get (D := D) (ci := 3) (v := .ref q2) (C := RX3) (T := TX3) (N := 1) hx hb hts in3 hown hK hP 2 rfl rfl 0 (by decide) f7 (fun _ h9 => h9) rfl dX3_copy_13 ?_
        refine z_alen hx hb hK hP 3 0 (n : Int) rfl rfl rfl dX3_copy_16 ?_
        refine z_icmp_ge (tgt := 38) hx hb dX3_copy_17 (by decide) (by omega) (by omega) (fun c17 => ?_) (fun c17 => ?_)
        · exfalso; omega
        · refine lv_aload_n hx hb dX3_copy_20 rfl (lv_at hl 0 rfl) ?_
          refine va_get (D := D) (ci := 3) (v := .ref q) (C := RX3) (T := TX3) (N := 1) hx hb hts in3 hown hK hP 0 rfl rfl 0 (by decide) f7 (fun _ h9 => h9) rfl dX3_copy_21 ?_
          refine lv_iload_n hx hb dX3_copy_24 rfl (lv_at hl 2 rfl) ?_
          refine lv_aload_n hx hb dX3_copy_25 rfl (lv_at hl 1 rfl) ?_
          refine va_get (D := D) (ci := 3) (v := .ref q2) (C := RX3) (T := TX3) (N := 1) hx hb hts in3 hown hK hP 2 rfl rfl 0 (by decide) f7 (fun _ h9 => h9) rfl dX3_copy_26 ?_
          refine lv_iload_n hx hb dX3_copy_29 rfl (lv_at hl 2 rfl) ?_
          refine z_iald hx hb hK hP 3 0 rfl rfl (by omega) (by omega) dX3_copy_30 ?_
          refine z_iast hx hb hK hP (zD hD rfl) hS 1 0 [(b, .inr (3, [.ref q])), (q, .inl (cI, n, .inl (zA (zup g1 i (g2 i))))), (b2, .inr (3, [.ref q2])), (q2, .inl (cI, n, .inl (zA g2)))] rfl rfl (by omega) (by omega) rfl dX3_copy_31 (fun H locs hP hS => ?_)
          refine z_iinc (lv' := [(2, .int (zI (i + 1))), (0, .ref b), (1, .ref b2)]) hx hb 2 (i + 1) dX3_copy_32 hl rfl (by omega) (by decide) rfl (fun ls hl => ?_)
          refine lv_goto (tgt := 2) hx hb dX3_copy_35 (by decide) ?_
          exact ih2 (i + 1) (zup g1 i (g2 i)) (by omega) (zx_up hg rfl) (by omega) _ _ hP hS ls (lv_sub hl [1, 2, 0] rfl)
  exact L2 _ 0 g (by omega) (fun x h3 h4 => by omega) (Nat.lt_succ_self _) _ _ hP hS ls (lv_sub hl [1, 2, 0] rfl)

abbrev rmX3_change : Room := { frames := 1, cells := 0, slots := 0, locals := 21 }
theorem jX3_change : yX3_change.cls = RX3 ∧ yX3_change.cls ≠ "java/lang/invoke/MethodHandle" ∧ yX3_change.cls ≠ "java/lang/invoke/VarHandle" ∧ (parseMethodDescriptor yX3_change.desc).map (fun d => d.parameters.length) = some 3 := by decide +kernel
set_option maxHeartbeats 4000000 in
set_option maxRecDepth 100000 in
/-- Row.change -/
theorem kX3_change (l : Launch) (D : va_G) (cI cJ cS : ClassId) (b q : Nat) (n : Nat) (g : Int → Int) (a z v : Int) (h1 : 0 ≤ a ∧ a ≤ z ∧ z < (n : Int)) (h2 : n < 2147483647) (hv : -2147483648 ≤ v ∧ v < 2147483648) (hgr : ∀ x : Int, 0 ≤ x → x < (n : Int) → -2147483648 ≤ g x ∧ g x < 2147483648) : Met l yX3_change wsX3_change rmX3_change (zPc D (zT cI cJ cS) [.ref b, .int (zI (a)), .int (zI (z)), .int (zI (v))] [(b, .inr (3, [.ref q])), (q, .inl (cI, n, .inl (zA g)))]) (va_Qi (fun r _ => r = zI (zcnt g v a (z + 1 - a).toNat)) (fun (u : Unit) t => va_P D vwCl [(b, .inr (3, [.ref q])), (q, .inl (cI, n, .inl (zA (zfill g a z v))))] t.heap) (zAd [(b, .inr (3, [.ref q])), (q, .inl (cI, n, .inl (zA g)))])) 0 0 (zAd [(b, .inr (3, [.ref q])), (q, .inl (cI, n, .inl (zA g)))]) := by
  refine zWi_of (cc := cX3_change) (maxL := 6) (ret := (some .int)) (by decide) rfl (Nat.le_of_ble_eq_true rfl) rfl ?_
  intro p e s m args below meth c Q A ls hx hb hml hts hown hK hP hD hS hl hret
  have in3 : ∀ w ∈ wsX30, w ∈ wsX3_change := by decide +kernel
  have f7 := hts (.fieldLink RX3 7 "SignalSpacing$Row" "numbers" "[I") (by decide +kernel)
  have c13 := hts (.methodLink RX3 13 Lib.Math.max.name) (by decide +kernel)
  have hl : lv_has ls 6 [(0, .ref b), (1, .int (zI (a))), (2, .int (zI (z))), (3, .int (zI (v)))] := hl
  have hP : va_P D vwCl [(b, .inr (3, [.ref q])), (q, .inl (cI, n, .inl (zA g)))] s.heap := hP
  refine z_iconst hx hb dX3_change_0 ?_
  refine lv_istore (lv' := [(4, .int (zI (0))), (0, .ref b), (1, .int (zI (a))), (2, .int (zI (z))), (3, .int (zI (v)))]) hx hb dX3_change_1 hl (by decide) rfl (fun ls hl => ?_)
  refine lv_iload_n hx hb dX3_change_3 rfl (lv_at hl 2 rfl) ?_
  refine z_iconst hx hb dX3_change_4 ?_
  refine z_mmax hx hb (hml.trans hl.1.symm) hown c13 (hts (.static Lib.Math.max.name) (by decide +kernel)) (hts (.initialized "java/lang/Math") (by decide +kernel)) (hts (.code Lib.Math.max.name Lib.Math.max.code 2 (some .int)) (by decide +kernel)) (Nat.le_of_ble_eq_true rfl) (Nat.le_of_ble_eq_true rfl) ⟨Nat.zero_le _, Nat.zero_le _⟩ (a) dX3_change_5 (by omega) (by omega) (by omega) ?_
  refine lv_istore (lv' := [(5, .int (zI (a))), (4, .int (zI (0))), (0, .ref b), (1, .int (zI (a))), (2, .int (zI (z))), (3, .int (zI (v)))]) hx hb dX3_change_8 hl (by decide) rfl (fun ls hl => ?_)
  have L10 : ∀ (fuel : Nat), ∀ (t : Int) (i : Int) (g1 : Int → Int), ∀ (hi : a ≤ i ∧ i ≤ z + 1), ∀ (ht : t = zcnt g v a (i - a).toNat), ∀ (hg : ∀ x : Int, g1 x = if a ≤ x ∧ x < i then v else g x), (z + 1 - i).toNat < fuel → ∀ (H : Heap) (locs : List Loc), va_P D vwCl [(b, .inr (3, [.ref q])), (q, .inl (cI, n, .inl (zA g1)))] H → va_S A s.heap H locs → ∀ (ls : Array Slot), lv_has ls 6 [(0, .ref b), (1, .int (zI (a))), (2, .int (zI (z))), (3, .int (zI (v))), (4, .int (zI (t))), (5, .int (zI (i)))] → W p l e rmX3_change s m args below meth c H locs 0 0 Q (F0 m 10 ls []) := by
    intro fuel
    induction fuel with
    | zero =>
      intro t i g1 hi ht hg hm
      exact absurd hm (Nat.not_lt_zero _)
    | succ fuel ih10 =>
      intro t i g1 hi ht hg hm H locs hP hS ls hl
      refine lv_iload hx hb dX3_change_10 (lv_at hl 5 rfl) ?_
      refine lv_iload_n hx hb dX3_change_12 rfl (lv_at hl 2 rfl) ?_
      refine z_icmp_gt (tgt := 54) hx hb dX3_change_13 (by decide) (by omega) (by omega) (fun c13 => ?_) (fun c13 => ?_)
      · refine lv_iload hx hb dX3_change_54 (lv_at hl 4 rfl) ?_
        have hP := zre (g' := zfill g a z v) 1 hP rfl (fun x h3 h4 => by rw [hg x]; unfold zfill; exact z_ifc (by omega))
        have hz : i = z + 1 := by omega
        exact hret () (by rw [ht, hz]) hP hS dX3_change_56
      · refine lv_iload hx hb dX3_change_16 (lv_at hl 5 rfl) ?_
        refine lv_aload_n hx hb dX3_change_18 rfl (lv_at hl 0 rfl) ?_
        refine va_get (D := D) (ci := 3) (v := .ref q) (C := RX3) (T := TX3) (N := 1) hx hb hts in3 hown hK hP 0 rfl rfl 0 (by decide) f7 (fun _ h9 => h9) rfl dX3_change_19 ?_
        refine z_alen hx hb hK hP 1 0 (n : Int) rfl rfl rfl dX3_change_22 ?_
        refine z_icmp_ge (tgt := 54) hx hb dX3_change_23 (by decide) (by omega) (by omega) (fun c23 => ?_) (fun c23 => ?_)
        · exfalso; omega
        · refine lv_aload_n hx hb dX3_change_26 rfl (lv_at hl 0 rfl) ?_
          refine va_get (D := D) (ci := 3) (v := .ref q) (C := RX3) (T := TX3) (N := 1) hx hb hts in3 hown hK hP 0 rfl rfl 0 (by decide) f7 (fun _ h9 => h9) rfl dX3_change_27 ?_
          refine lv_iload hx hb dX3_change_30 (lv_at hl 5 rfl) ?_
          refine z_iald hx hb hK hP 1 0 rfl rfl (by omega) (by omega) dX3_change_32 ?_
          refine lv_iload_n hx hb dX3_change_33 rfl (lv_at hl 3 rfl) ?_
          have hr34 : -2147483648 ≤ g1 i ∧ g1 i < 2147483648 := by rw [hg i, if_neg (by omega)]; exact hgr i (by omega) (by omega)
          refine z_icmp_eq (tgt := 48) hx hb dX3_change_34 (by decide) (by omega) (by omega) (fun c34 => ?_) (fun c34 => ?_)
          · refine z_iinc (lv' := [(5, .int (zI (i + 1))), (0, .ref b), (1, .int (zI (a))), (2, .int (zI (z))), (3, .int (zI (v))), (4, .int (zI (t)))]) hx hb 5 (i + 1) dX3_change_48 hl rfl (by omega) (by decide) rfl (fun ls hl => ?_)
            refine lv_goto (tgt := 10) hx hb dX3_change_51 (by decide) ?_
            exact ih10 t (i + 1) g1 (by omega) (by rw [zcnt_s hi.1, if_pos (by rw [hg i, if_neg (by omega)] at c34; exact c34), ht]; omega) (fun x => if hx : x = i then (by rw [hx, if_pos ⟨hi.1, by omega⟩]; exact c34) else (by rw [hg x]; exact z_ifc (by omega))) (by omega) _ _ hP hS ls (lv_sub hl [1, 2, 3, 4, 5, 0] rfl)
          · refine lv_aload_n hx hb dX3_change_37 rfl (lv_at hl 0 rfl) ?_
            refine va_get (D := D) (ci := 3) (v := .ref q) (C := RX3) (T := TX3) (N := 1) hx hb hts in3 hown hK hP 0 rfl rfl 0 (by decide) f7 (fun _ h9 => h9) rfl dX3_change_38 ?_
            refine lv_iload hx hb dX3_change_41 (lv_at hl 5 rfl) ?_
            refine lv_iload_n hx hb dX3_change_43 rfl (lv_at hl 3 rfl) ?_
            refine z_iast hx hb hK hP (zD hD rfl) hS 1 0 [(b, .inr (3, [.ref q])), (q, .inl (cI, n, .inl (zA (zup g1 i v))))] rfl rfl (by omega) (by omega) rfl dX3_change_44 (fun H locs hP hS => ?_)
            refine z_iinc (lv' := [(4, .int (zI (t + 1))), (0, .ref b), (1, .int (zI (a))), (2, .int (zI (z))), (3, .int (zI (v))), (5, .int (zI (i)))]) hx hb 4 (t + 1) dX3_change_45 hl rfl (by omega) (by decide) rfl (fun ls hl => ?_)
            refine z_iinc (lv' := [(5, .int (zI (i + 1))), (4, .int (zI (t + 1))), (0, .ref b), (1, .int (zI (a))), (2, .int (zI (z))), (3, .int (zI (v)))]) hx hb 5 (i + 1) dX3_change_48 hl rfl (by omega) (by decide) rfl (fun ls hl => ?_)
            refine lv_goto (tgt := 10) hx hb dX3_change_51 (by decide) ?_
            exact ih10 (t + 1) (i + 1) (zup g1 i v) (by omega) (by rw [zcnt_s hi.1, if_neg (fun q => c34 (by rw [hg i, if_neg (by omega)]; exact q)), ht]) (fun x => if hx : x = i then (by rw [hx, zup_at, if_pos ⟨hi.1, by omega⟩]) else (by rw [zup_ne hx, hg x]; exact z_ifc (by omega))) (by omega) _ _ hP hS ls (lv_sub hl [2, 3, 4, 5, 1, 0] rfl)
  exact L10 _ 0 a g (by omega) (by rw [Int.sub_self]; rfl) (fun x => by rw [if_neg (by omega)]) (Nat.lt_succ_self _) _ _ hP hS ls (lv_sub hl [2, 3, 4, 5, 1, 0] rfl)
