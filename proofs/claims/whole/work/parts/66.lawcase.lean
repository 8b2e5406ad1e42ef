set_option maxHeartbeats 4000000 in
set_option maxRecDepth 100000 in
/-- limit -/
theorem lc_8 {p : Program} {e : Env} {s : State} {m : MethodId} {args : Array Value} {below : List Frame} {meth : Method} {c : Code} {Q : State → Prop} {A : Nat → Prop} {H0 : Heap} (l : Launch) (hst : l.stackTraces = false) (D : va_G) (cI cJ cS : ClassId) (ss h0 p0 s0 l0 h1 m0 oa : Nat) (b r w o a : Nat → Nat) (bs : Nat → Nat → Nat) {b0 L : Nat} {xv : Nat → Int}
    (hx : p.tables.exec = Jvm.exec) (hb : c.code = cL_law) (hml : c.maxLocals = 8) (hown : s.vm.findClass RL = some m.cls) (hts : ∀ w ∈ wsL_law, w.before args s = true) (hK : va_K D vwCl (zT cI cJ cS) s) (hZ : xKs A s H0) (hTx : xTx s) (hX : va_X b0 L (fun j => zI (xv j)) s H0) (hbl : b0 < H0.size) (hbA : ¬ A b0) (hL : L < 2147483648) (hxv : ∀ j : Nat, -2147483648 ≤ xv j ∧ xv j < 2147483648) (hD : va_D A (LW cI cJ cS ss h0 p0 s0 l0 h1 m0 oa b r w o a bs (fun _ => 0) (fun _ => 0) 0 (fun _ _ => 0) (fun _ _ => 0) (fun _ => 0) 0 0 0 (fun _ => 0) (fun _ => 0) (fun _ => 0) (fun _ => 0) 0 (fun _ => 0) (fun _ => 0) (fun _ => 0) (fun _ => 0) (fun _ => 0) 0 0 0 (fun _ => 0) (fun _ => 0) (fun _ => 0) (fun _ => 0) (fun _ => 0) (fun _ => 0) (fun _ => 0) (fun _ => 0) (fun _ => 0))) {H : Heap} {locs : List Loc} {cells slots : Nat} {ls : Array Slot} (i : Int) (hi : 0 ≤ i ∧ i + 4 ≤ (L : Int)) (hI : LInv D cI cJ cS ss h0 p0 s0 l0 h1 m0 oa b r w o a bs H) (hS : va_S A H0 H locs) (hl : lv_has ls 8 [(0, .ref b0), (1, .ref ss), (2, .ref m0), (3, .ref oa), (4, .int (zI (i)))]) (hc2 : cells + 1 ≤ 601024 ∧ slots + 6 ≤ 7293034)
    (kk : ∀ (H1 : Heap) (locs1 : List Loc) (ls1 : Array Slot), LInv D cI cJ cS ss h0 p0 s0 l0 h1 m0 oa b r w o a bs H1 → va_S A H0 H1 locs1 → lv_has ls1 8 [(0, .ref b0), (1, .ref ss), (2, .ref m0), (3, .ref oa), (4, .int (zI (i)))] → W p l e room_1 s m args below meth c H1 locs1 (cells + 1) (slots + 6) Q (F0 m 1700 ls1 [])) : W p l e room_1 s m args below meth c H locs cells slots Q (F0 m 799 ls []) := by
  obtain ⟨f, ps, n, F, P, N, la, cn, fr, ge, gv, gd, gt, sc, gf, op, tb, sb, th, hs, gp, e2, v2, d2, t2, r2, f2, w2, go, ok, rep, hla, hcn, hfr0, hp, htr, hh, hP⟩ := hI
  obtain ⟨o0, o1, o2, o3, o4, o5, o7, o8, olim, ogrd, obar, oneed, opost⟩ := id ok
  have hc1 : cells ≤ 601024 ∧ slots ≤ 7293034 := ⟨by omega, by omega⟩
  obtain ⟨x, h_s1⟩ : ∃ x : Int, xv (i + 1).toNat = x := ⟨_, rfl⟩
  have hr_x : -2147483648 ≤ x ∧ x < 2147483648 := by rw [← h_s1]; exact hxv _
  rcases Classical.em (0 ≤ x ∧ x ≤ f 0 - 1) with hY | hN
  · have hq := olim x hY.1 (by omega)
    refine lv_aload_n hx hb dL_law_799 rfl (lv_at hl 1 rfl) ?_
    refine lv_aload_n hx hb dL_law_800 rfl (lv_at hl 0 rfl) ?_
    refine lv_iload hx hb dL_law_801 (lv_at hl 4 rfl) ?_
    refine z_iconst hx hb dL_law_803 ?_
    refine z_iadd hx hb dL_law_804 ?_
    refine z_sld hx hb hX hbl hbA hS (by omega) hL h_s1 dL_law_805 ?_
    refine lv_aload_n hx hb dL_law_806 rfl (lv_at hl 3 rfl) ?_
    refine y_wSi (As := [.ref ss, .int (zI (x)), .ref oa]) (rest := []) (fun (u807 : Unit) => (LW cI cJ cS ss h0 p0 s0 l0 h1 m0 oa b r w o a bs f ps n F P N la cn fr ge gv gd gt sc gf op tb sb f cn th hs gp e2 v2 d2 t2 r2 f2 w2 (zup go 0 (f (9 + x))))) hx hb hml hown hts hl.1 hc1 (kL_limit_ok l D cI cJ cS ss h0 p0 s0 l0 b f ps n x oa go ok hY) (vx_cwSW 3 hts gL_law_L_limit rfl rfl rfl jL_limit.2 ⟨Nat.le_of_ble_eq_true rfl, Nat.le_of_ble_eq_true rfl⟩) hK [true, false, false, false, false, false, false, false, false, false, false, false, false, false, false, false, false, false, false, false, false, false, false, false, false, false, false, false, false, false, false, false, false, false, false, false, false, false, false, false, false, false, false, false, false, false, false, false, false, false, false, false, false, false, false, false, false, false, false, false, false, false, false, false, false, false, true, true, true, true, true, true, true, true, true, true, true, false, false, false, false, false, false, false, false, false, false, true] hP (zD hD rfl) hS rfl (fun _ => rfl) (fun _ => rfl) rfl rfl (Nat.le_of_ble_eq_true rfl) dL_law_807 (fun r807 u807 H locs hu807 hP hS => ?_)
    subst hu807
    refine lv_istore (lv' := [(5, .int (zI (0))), (0, .ref b0), (1, .ref ss), (2, .ref m0), (3, .ref oa), (4, .int (zI (i)))]) hx hb dL_law_810 hl (by decide) rfl (fun ls hl => ?_)
    refine lv_aload_n hx hb dL_law_812 rfl (lv_at hl 3 rfl) ?_
    refine lv_aload_n hx hb dL_law_813 rfl (lv_at hl 1 rfl) ?_
    refine lv_iload hx hb dL_law_814 (lv_at hl 5 rfl) ?_
    refine z_iconst hx hb dL_law_816 ?_
    refine z_iadd hx hb dL_law_817 ?_
    refine z_sld hx hb hX hbl hbA hS (by omega) hL h_s1 dL_law_818 ?_
    refine y_wVi (As := [.int (zI (x))]) (rest := []) (fun (u819 : Unit) => (LW cI cJ cS ss h0 p0 s0 l0 h1 m0 oa b r w o a bs f ps n F P N la cn fr ge gv gd gt sc gf op tb sb f cn 0 hs gp e2 v2 d2 t2 r2 f2 w2 (zup go 0 (f (9 + x))))) hx hb hml hown hts hl.1 hc1 (kX7_limit_ok l D cI cJ cS m0 a cn th hs f x ok hY) (cwV 1 hts gL_law_X7_limit rfl rfl rfl jX7_limit ⟨Nat.le_of_ble_eq_true rfl, Nat.le_of_ble_eq_true rfl⟩) hK [false, false, false, false, false, false, false, false, false, false, false, false, false, false, false, false, false, false, false, false, false, false, false, false, false, false, false, false, false, false, false, false, false, false, false, false, false, false, false, false, false, false, false, false, false, false, false, false, false, false, false, false, false, false, false, false, false, false, false, false, false, false, false, false, false, false, false, false, false, false, false, false, false, false, false, false, false, true, true] hP (zD hD rfl) hS rfl (fun _ => rfl) (fun _ => rfl) 7 0 rfl rfl rfl rfl rfl (Nat.le_of_ble_eq_true rfl) dL_law_819 (fun r819 u819 H locs hu819 hP hS => ?_)
    subst hu819
    refine lv_istore (lv' := [(6, .int (zI (f (9 + x)))), (5, .int (zI (0))), (0, .ref b0), (1, .ref ss), (2, .ref m0), (3, .ref oa), (4, .int (zI (i)))]) hx hb dL_law_822 hl (by decide) rfl (fun ls hl => ?_)
    refine lv_aload_n hx hb dL_law_824 rfl (lv_at hl 4 rfl) ?_
    refine y_rV (v := 0) (As := []) (rest := []) hx hb hml hown hts hl.1 hc1 (kX7_thrown l D cI cJ cS m0 a cn 0 hs f ) (cwV 0 hts gL_law_X7_thrown rfl rfl rfl jX7_thrown ⟨Nat.le_of_ble_eq_true rfl, Nat.le_of_ble_eq_true rfl⟩) hK [false, false, false, false, false, false, false, false, false, false, false, false, false, false, false, false, false, false, false, false, false, false, false, false, false, false, false, false, false, false, false, false, false, false, false, false, false, false, false, false, false, false, false, false, false, false, false, false, false, false, false, false, false, false, false, false, false, false, false, false, false, false, false, false, false, false, false, false, false, false, false, false, false, false, false, false, false, true] hP (zD hD rfl) rfl 7 0 rfl rfl rfl rfl rfl (Nat.le_of_ble_eq_true rfl) dL_law_825 ?_
    refine lv_iload hx hb dL_law_828 (lv_at hl 1 rfl) ?_
    refine z_icmpR 835 hx hb dL_law_830 (by decide) ?_
    refine lv_iload hx hb dL_law_835 (lv_at hl 1 rfl) ?_
    refine z_if_ne (tgt := 852) hx hb dL_law_837 (by decide) (by omega) (fun c837 => ?_) (fun c837 => ?_)
    · exfalso; omega
    · refine lv_aload_n hx hb dL_law_840 rfl (lv_at hl 5 rfl) ?_
      refine z_iconst hx hb dL_law_841 ?_
      refine z_lald hx hb hK hP 87 1 rfl rfl (by omega) (Nat.lt_of_succ_le (Nat.le_of_ble_eq_true rfl)) dL_law_842 ?_
      refine z_topL (f (9 + x)) (zup_at _ _ _) ?_
      refine lv_iload hx hb dL_law_843 (lv_at hl 0 rfl) ?_
      refine z_i2l hx hb dL_law_845 (by omega) ?_
      refine z_lcmpR hx hb dL_law_846 ?_
      refine z_if_eq (tgt := 852) hx hb dL_law_847 (by decide) (by omega) (fun c847 => ?_) (fun c847 => ?_)
      · refine lv_goto (tgt := 1700) hx hb dL_law_852 (by decide) ?_
        refine W.widen (k := cells + 1) (n := slots + 6) (Nat.le_add_right _ _) (Nat.le_add_right _ _) ?_
        exact kk _ _ _ ⟨f, ps, n, F, P, N, la, cn, fr, ge, gv, gd, gt, sc, gf, op, tb, sb, 0, hs, gp, e2, v2, d2, t2, r2, f2, w2, (zup go 0 (f (9 + x))), ok, rep, hla, hcn, hfr0, hp, htr, hh, hP⟩ hS (lv_sub hl [2, 3, 4, 5, 6] rfl)
      · exfalso; omega
  · refine lv_aload_n hx hb dL_law_799 rfl (lv_at hl 1 rfl) ?_
    refine lv_aload_n hx hb dL_law_800 rfl (lv_at hl 0 rfl) ?_
    refine lv_iload hx hb dL_law_801 (lv_at hl 4 rfl) ?_
    refine z_iconst hx hb dL_law_803 ?_
    refine z_iadd hx hb dL_law_804 ?_
    refine z_sld hx hb hX hbl hbA hS (by omega) hL h_s1 dL_law_805 ?_
    refine lv_aload_n hx hb dL_law_806 rfl (lv_at hl 3 rfl) ?_
    refine y_wSx (As := [.ref ss, .int (zI (x)), .ref oa]) (rest := []) (fun (u807 : Unit) => (LW cI cJ cS ss h0 p0 s0 l0 h1 m0 oa b r w o a bs f ps n F P N la cn fr ge gv gd gt sc gf op tb sb f cn th hs gp e2 v2 d2 t2 r2 f2 w2 go)) hx hb hml hown hts hl.1 hc2 (nL_limit l D cI cJ cS ss h0 p0 s0 l0 b f ps n x oa go ok hN hr_x hst) (vx_cwSW 3 hts gL_law_L_limit rfl rfl rfl jL_limit.2 ⟨Nat.le_of_ble_eq_true rfl, Nat.le_of_ble_eq_true rfl⟩) hK [true, false, false, false, false, false, false, false, false, false, false, false, false, false, false, false, false, false, false, false, false, false, false, false, false, false, false, false, false, false, false, false, false, false, false, false, false, false, false, false, false, false, false, false, false, false, false, false, false, false, false, false, false, false, false, false, false, false, false, false, false, false, false, false, false, false, true, true, true, true, true, true, true, true, true, true, true, false, false, false, false, false, false, false, false, false, false, true] hP (zD hD rfl) hS hZ hTx rfl (fun _ => rfl) (fun _ => rfl) rfl rfl (Nat.le_of_ble_eq_true rfl) dL_law_807 (fun r807 u807 H locs hu807 hP hS => ?_)
    subst hu807
    refine lv_istore (lv' := [(5, .int (zI (1))), (0, .ref b0), (1, .ref ss), (2, .ref m0), (3, .ref oa), (4, .int (zI (i)))]) hx hb dL_law_810 hl (by decide) rfl (fun ls hl => ?_)
    refine lv_aload_n hx hb dL_law_812 rfl (lv_at hl 3 rfl) ?_
    refine lv_aload_n hx hb dL_law_813 rfl (lv_at hl 1 rfl) ?_
    refine lv_iload hx hb dL_law_814 (lv_at hl 5 rfl) ?_
    refine z_iconst hx hb dL_law_816 ?_
    refine z_iadd hx hb dL_law_817 ?_
    refine z_sld hx hb hX hbl hbA hS (by omega) hL h_s1 dL_law_818 ?_
    refine y_wVi (As := [.int (zI (x))]) (rest := []) (fun (u819 : Unit) => (LW cI cJ cS ss h0 p0 s0 l0 h1 m0 oa b r w o a bs f ps n F P N la cn fr ge gv gd gt sc gf op tb sb f cn 1 hs gp e2 v2 d2 t2 r2 f2 w2 go)) hx hb hml hown hts hl.1 hc2 (kX7_limit_no l D cI cJ cS m0 a cn th hs f x ok hN hr_x) (cwV 1 hts gL_law_X7_limit rfl rfl rfl jX7_limit ⟨Nat.le_of_ble_eq_true rfl, Nat.le_of_ble_eq_true rfl⟩) hK [false, false, false, false, false, false, false, false, false, false, false, false, false, false, false, false, false, false, false, false, false, false, false, false, false, false, false, false, false, false, false, false, false, false, false, false, false, false, false, false, false, false, false, false, false, false, false, false, false, false, false, false, false, false, false, false, false, false, false, false, false, false, false, false, false, false, false, false, false, false, false, false, false, false, false, false, false, true, true] hP (zD hD rfl) hS rfl (fun _ => rfl) (fun _ => rfl) 7 0 rfl rfl rfl rfl rfl (Nat.le_of_ble_eq_true rfl) dL_law_819 (fun r819 u819 H locs hu819 hP hS => ?_)
    subst hu819
    refine lv_istore (lv' := [(6, .int (zI (0))), (5, .int (zI (1))), (0, .ref b0), (1, .ref ss), (2, .ref m0), (3, .ref oa), (4, .int (zI (i)))]) hx hb dL_law_822 hl (by decide) rfl (fun ls hl => ?_)
    refine lv_aload_n hx hb dL_law_824 rfl (lv_at hl 4 rfl) ?_
    refine y_rV (v := 1) (As := []) (rest := []) hx hb hml hown hts hl.1 hc2 (kX7_thrown l D cI cJ cS m0 a cn 1 hs f ) (cwV 0 hts gL_law_X7_thrown rfl rfl rfl jX7_thrown ⟨Nat.le_of_ble_eq_true rfl, Nat.le_of_ble_eq_true rfl⟩) hK [false, false, false, false, false, false, false, false, false, false, false, false, false, false, false, false, false, false, false, false, false, false, false, false, false, false, false, false, false, false, false, false, false, false, false, false, false, false, false, false, false, false, false, false, false, false, false, false, false, false, false, false, false, false, false, false, false, false, false, false, false, false, false, false, false, false, false, false, false, false, false, false, false, false, false, false, false, true] hP (zD hD rfl) rfl 7 0 rfl rfl rfl rfl rfl (Nat.le_of_ble_eq_true rfl) dL_law_825 ?_
    refine lv_iload hx hb dL_law_828 (lv_at hl 1 rfl) ?_
    refine z_icmpR 835 hx hb dL_law_830 (by decide) ?_
    refine lv_iload hx hb dL_law_835 (lv_at hl 1 rfl) ?_
    refine z_if_ne (tgt := 852) hx hb dL_law_837 (by decide) (by omega) (fun c837 => ?_) (fun c837 => ?_)
    · refine lv_goto (tgt := 1700) hx hb dL_law_852 (by decide) ?_
      exact kk _ _ _ ⟨f, ps, n, F, P, N, la, cn, fr, ge, gv, gd, gt, sc, gf, op, tb, sb, 1, hs, gp, e2, v2, d2, t2, r2, f2, w2, go, ok, rep, hla, hcn, hfr0, hp, htr, hh, hP⟩ hS (lv_sub hl [2, 3, 4, 5, 6] rfl)
    · exfalso; omega

set_option maxHeartbeats 4000000 in
set_option maxRecDepth 100000 in
/-- gradient -/
theorem lc_9 {p : Program} {e : Env} {s : State} {m : MethodId} {args : Array Value} {below : List Frame} {meth : Method} {c : Code} {Q : State → Prop} {A : Nat → Prop} {H0 : Heap} (l : Launch) (hst : l.stackTraces = false) (D : va_G) (cI cJ cS : ClassId) (ss h0 p0 s0 l0 h1 m0 oa : Nat) (b r w o a : Nat → Nat) (bs : Nat → Nat → Nat) {b0 L : Nat} {xv : Nat → Int}
    (hx : p.tables.exec = Jvm.exec) (hb : c.code = cL_law) (hml : c.maxLocals = 8) (hown : s.vm.findClass RL = some m.cls) (hts : ∀ w ∈ wsL_law, w.before args s = true) (hK : va_K D vwCl (zT cI cJ cS) s) (hZ : xKs A s H0) (hTx : xTx s) (hX : va_X b0 L (fun j => zI (xv j)) s H0) (hbl : b0 < H0.size) (hbA : ¬ A b0) (hL : L < 2147483648) (hxv : ∀ j : Nat, -2147483648 ≤ xv j ∧ xv j < 2147483648) (hD : va_D A (LW cI cJ cS ss h0 p0 s0 l0 h1 m0 oa b r w o a bs (fun _ => 0) (fun _ => 0) 0 (fun _ _ => 0) (fun _ _ => 0) (fun _ => 0) 0 0 0 (fun _ => 0) (fun _ => 0) (fun _ => 0) (fun _ => 0) 0 (fun _ => 0) (fun _ => 0) (fun _ => 0) (fun _ => 0) (fun _ => 0) 0 0 0 (fun _ => 0) (fun _ => 0) (fun _ => 0) (fun _ => 0) (fun _ => 0) (fun _ => 0) (fun _ => 0) (fun _ => 0) (fun _ => 0))) {H : Heap} {locs : List Loc} {cells slots : Nat} {ls : Array Slot} (i : Int) (hi : 0 ≤ i ∧ i + 4 ≤ (L : Int)) (hI : LInv D cI cJ cS ss h0 p0 s0 l0 h1 m0 oa b r w o a bs H) (hS : va_S A H0 H locs) (hl : lv_has ls 8 [(0, .ref b0), (1, .ref ss), (2, .ref m0), (3, .ref oa), (4, .int (zI (i)))]) (hc2 : cells + 1 ≤ 601024 ∧ slots + 6 ≤ 7293034)
    (kk : ∀ (H1 : Heap) (locs1 : List Loc) (ls1 : Array Slot), LInv D cI cJ cS ss h0 p0 s0 l0 h1 m0 oa b r w o a bs H1 → va_S A H0 H1 locs1 → lv_has ls1 8 [(0, .ref b0), (1, .ref ss), (2, .ref m0), (3, .ref oa), (4, .int (zI (i)))] → W p l e room_1 s m args below meth c H1 locs1 (cells + 1) (slots + 6) Q (F0 m 1700 ls1 [])) : W p l e room_1 s m args below meth c H locs cells slots Q (F0 m 855 ls []) := by
  obtain ⟨f, ps, n, F, P, N, la, cn, fr, ge, gv, gd, gt, sc, gf, op, tb, sb, th, hs, gp, e2, v2, d2, t2, r2, f2, w2, go, ok, rep, hla, hcn, hfr0, hp, htr, hh, hP⟩ := hI
  obtain ⟨o0, o1, o2, o3, o4, o5, o7, o8, olim, ogrd, obar, oneed, opost⟩ := id ok
  have hc1 : cells ≤ 601024 ∧ slots ≤ 7293034 := ⟨by omega, by omega⟩
  obtain ⟨x, h_s1⟩ : ∃ x : Int, xv (i + 1).toNat = x := ⟨_, rfl⟩
  have hr_x : -2147483648 ≤ x ∧ x < 2147483648 := by rw [← h_s1]; exact hxv _
  rcases Classical.em (0 ≤ x ∧ x ≤ f 0 - 1) with hY | hN
  · have hq := ogrd x hY.1 (by omega)
    refine lv_aload_n hx hb dL_law_855 rfl (lv_at hl 1 rfl) ?_
    refine lv_aload_n hx hb dL_law_856 rfl (lv_at hl 0 rfl) ?_
    refine lv_iload hx hb dL_law_857 (lv_at hl 4 rfl) ?_
    refine z_iconst hx hb dL_law_859 ?_
    refine z_iadd hx hb dL_law_860 ?_
    refine z_sld hx hb hX hbl hbA hS (by omega) hL h_s1 dL_law_861 ?_
    refine lv_aload_n hx hb dL_law_862 rfl (lv_at hl 3 rfl) ?_
    refine y_wSi (As := [.ref ss, .int (zI (x)), .ref oa]) (rest := []) (fun (u863 : Unit) => (LW cI cJ cS ss h0 p0 s0 l0 h1 m0 oa b r w o a bs f ps n F P N la cn fr ge gv gd gt sc gf op tb sb f cn th hs gp e2 v2 d2 t2 r2 f2 w2 (zup go 0 (f (129 + x))))) hx hb hml hown hts hl.1 hc1 (kL_gradient_ok l D cI cJ cS ss h0 p0 s0 l0 b f ps n x oa go ok hY) (vx_cwSW 3 hts gL_law_L_gradient rfl rfl rfl jL_gradient.2 ⟨Nat.le_of_ble_eq_true rfl, Nat.le_of_ble_eq_true rfl⟩) hK [true, false, false, false, false, false, false, false, false, false, false, false, false, false, false, false, false, false, false, false, false, false, false, false, false, false, false, false, false, false, false, false, false, false, false, false, false, false, false, false, false, false, false, false, false, false, false, false, false, false, false, false, false, false, false, false, false, false, false, false, false, false, false, false, false, false, true, true, true, true, true, true, true, true, true, true, true, false, false, false, false, false, false, false, false, false, false, true] hP (zD hD rfl) hS rfl (fun _ => rfl) (fun _ => rfl) rfl rfl (Nat.le_of_ble_eq_true rfl) dL_law_863 (fun r863 u863 H locs hu863 hP hS => ?_)
    subst hu863
    refine lv_istore (lv' := [(5, .int (zI (0))), (0, .ref b0), (1, .ref ss), (2, .ref m0), (3, .ref oa), (4, .int (zI (i)))]) hx hb dL_law_866 hl (by decide) rfl (fun ls hl => ?_)
    refine lv_aload_n hx hb dL_law_868 rfl (lv_at hl 3 rfl) ?_
    refine lv_aload_n hx hb dL_law_869 rfl (lv_at hl 1 rfl) ?_
    refine lv_iload hx hb dL_law_870 (lv_at hl 5 rfl) ?_
    refine z_iconst hx hb dL_law_872 ?_
    refine z_iadd hx hb dL_law_873 ?_
    refine z_sld hx hb hX hbl hbA hS (by omega) hL h_s1 dL_law_874 ?_
    refine y_wVi (As := [.int (zI (x))]) (rest := []) (fun (u875 : Unit) => (LW cI cJ cS ss h0 p0 s0 l0 h1 m0 oa b r w o a bs f ps n F P N la cn fr ge gv gd gt sc gf op tb sb f cn 0 hs gp e2 v2 d2 t2 r2 f2 w2 (zup go 0 (f (129 + x))))) hx hb hml hown hts hl.1 hc1 (kX7_gradient_ok l D cI cJ cS m0 a cn th hs f x ok hY) (cwV 1 hts gL_law_X7_gradient rfl rfl rfl jX7_gradient ⟨Nat.le_of_ble_eq_true rfl, Nat.le_of_ble_eq_true rfl⟩) hK [false, false, false, false, false, false, false, false, false, false, false, false, false, false, false, false, false, false, false, false, false, false, false, false, false, false, false, false, false, false, false, false, false, false, false, false, false, false, false, false, false, false, false, false, false, false, false, false, false, false, false, false, false, false, false, false, false, false, false, false, false, false, false, false, false, false, false, false, false, false, false, false, false, false, false, false, false, true, true] hP (zD hD rfl) hS rfl (fun _ => rfl) (fun _ => rfl) 7 0 rfl rfl rfl rfl rfl (Nat.le_of_ble_eq_true rfl) dL_law_875 (fun r875 u875 H locs hu875 hP hS => ?_)
    subst hu875
    refine lv_istore (lv' := [(6, .int (zI (f (129 + x)))), (5, .int (zI (0))), (0, .ref b0), (1, .ref ss), (2, .ref m0), (3, .ref oa), (4, .int (zI (i)))]) hx hb dL_law_878 hl (by decide) rfl (fun ls hl => ?_)
    refine lv_aload_n hx hb dL_law_880 rfl (lv_at hl 4 rfl) ?_
    refine y_rV (v := 0) (As := []) (rest := []) hx hb hml hown hts hl.1 hc1 (kX7_thrown l D cI cJ cS m0 a cn 0 hs f ) (cwV 0 hts gL_law_X7_thrown rfl rfl rfl jX7_thrown ⟨Nat.le_of_ble_eq_true rfl, Nat.le_of_ble_eq_true rfl⟩) hK [false, false, false, false, false, false, false, false, false, false, false, false, false, false, false, false, false, false, false, false, false, false, false, false, false, false, false, false, false, false, false, false, false, false, false, false, false, false, false, false, false, false, false, false, false, false, false, false, false, false, false, false, false, false, false, false, false, false, false, false, false, false, false, false, false, false, false, false, false, false, false, false, false, false, false, false, false, true] hP (zD hD rfl) rfl 7 0 rfl rfl rfl rfl rfl (Nat.le_of_ble_eq_true rfl) dL_law_881 ?_
    refine lv_iload hx hb dL_law_884 (lv_at hl 1 rfl) ?_
    refine z_icmpR 891 hx hb dL_law_886 (by decide) ?_
    refine lv_iload hx hb dL_law_891 (lv_at hl 1 rfl) ?_
    refine z_if_ne (tgt := 908) hx hb dL_law_893 (by decide) (by omega) (fun c893 => ?_) (fun c893 => ?_)
    · exfalso; omega
    · refine lv_aload_n hx hb dL_law_896 rfl (lv_at hl 5 rfl) ?_
      refine z_iconst hx hb dL_law_897 ?_
      refine z_lald hx hb hK hP 87 1 rfl rfl (by omega) (Nat.lt_of_succ_le (Nat.le_of_ble_eq_true rfl)) dL_law_898 ?_
      refine z_topL (f (129 + x)) (zup_at _ _ _) ?_
      refine lv_iload hx hb dL_law_899 (lv_at hl 0 rfl) ?_
      refine z_i2l hx hb dL_law_901 (by omega) ?_
      refine z_lcmpR hx hb dL_law_902 ?_
      refine z_if_eq (tgt := 908) hx hb dL_law_903 (by decide) (by omega) (fun c903 => ?_) (fun c903 => ?_)
      · refine lv_goto (tgt := 1700) hx hb dL_law_908 (by decide) ?_
        refine W.widen (k := cells + 1) (n := slots + 6) (Nat.le_add_right _ _) (Nat.le_add_right _ _) ?_
        exact kk _ _ _ ⟨f, ps, n, F, P, N, la, cn, fr, ge, gv, gd, gt, sc, gf, op, tb, sb, 0, hs, gp, e2, v2, d2, t2, r2, f2, w2, (zup go 0 (f (129 + x))), ok, rep, hla, hcn, hfr0, hp, htr, hh, hP⟩ hS (lv_sub hl [2, 3, 4, 5, 6] rfl)
      · exfalso; omega
  · refine lv_aload_n hx hb dL_law_855 rfl (lv_at hl 1 rfl) ?_
    refine lv_aload_n hx hb dL_law_856 rfl (lv_at hl 0 rfl) ?_
    refine lv_iload hx hb dL_law_857 (lv_at hl 4 rfl) ?_
    refine z_iconst hx hb dL_law_859 ?_
    refine z_iadd hx hb dL_law_860 ?_
    refine z_sld hx hb hX hbl hbA hS (by omega) hL h_s1 dL_law_861 ?_
    refine lv_aload_n hx hb dL_law_862 rfl (lv_at hl 3 rfl) ?_
    refine y_wSx (As := [.ref ss, .int (zI (x)), .ref oa]) (rest := []) (fun (u863 : Unit) => (LW cI cJ cS ss h0 p0 s0 l0 h1 m0 oa b r w o a bs f ps n F P N la cn fr ge gv gd gt sc gf op tb sb f cn th hs gp e2 v2 d2 t2 r2 f2 w2 go)) hx hb hml hown hts hl.1 hc2 (nL_gradient l D cI cJ cS ss h0 p0 s0 l0 b f ps n x oa go ok hN hr_x hst) (vx_cwSW 3 hts gL_law_L_gradient rfl rfl rfl jL_gradient.2 ⟨Nat.le_of_ble_eq_true rfl, Nat.le_of_ble_eq_true rfl⟩) hK [true, false, false, false, false, false, false, false, false, false, false, false, false, false, false, false, false, false, false, false, false, false, false, false, false, false, false, false, false, false, false, false, false, false, false, false, false, false, false, false, false, false, false, false, false, false, false, false, false, false, false, false, false, false, false, false, false, false, false, false, false, false, false, false, false, false, true, true, true, true, true, true, true, true, true, true, true, false, false, false, false, false, false, false, false, false, false, true] hP (zD hD rfl) hS hZ hTx rfl (fun _ => rfl) (fun _ => rfl) rfl rfl (Nat.le_of_ble_eq_true rfl) dL_law_863 (fun r863 u863 H locs hu863 hP hS => ?_)
    subst hu863
    refine lv_istore (lv' := [(5, .int (zI (1))), (0, .ref b0), (1, .ref ss), (2, .ref m0), (3, .ref oa), (4, .int (zI (i)))]) hx hb dL_law_866 hl (by decide) rfl (fun ls hl => ?_)
    refine lv_aload_n hx hb dL_law_868 rfl (lv_at hl 3 rfl) ?_
    refine lv_aload_n hx hb dL_law_869 rfl (lv_at hl 1 rfl) ?_
    refine lv_iload hx hb dL_law_870 (lv_at hl 5 rfl) ?_
    refine z_iconst hx hb dL_law_872 ?_
    refine z_iadd hx hb dL_law_873 ?_
    refine z_sld hx hb hX hbl hbA hS (by omega) hL h_s1 dL_law_874 ?_
    refine y_wVi (As := [.int (zI (x))]) (rest := []) (fun (u875 : Unit) => (LW cI cJ cS ss h0 p0 s0 l0 h1 m0 oa b r w o a bs f ps n F P N la cn fr ge gv gd gt sc gf op tb sb f cn 1 hs gp e2 v2 d2 t2 r2 f2 w2 go)) hx hb hml hown hts hl.1 hc2 (kX7_gradient_no l D cI cJ cS m0 a cn th hs f x ok hN hr_x) (cwV 1 hts gL_law_X7_gradient rfl rfl rfl jX7_gradient ⟨Nat.le_of_ble_eq_true rfl, Nat.le_of_ble_eq_true rfl⟩) hK [false, false, false, false, false, false, false, false, false, false, false, false, false, false, false, false, false, false, false, false, false, false, false, false, false, false, false, false, false, false, false, false, false, false, false, false, false, false, false, false, false, false, false, false, false, false, false, false, false, false, false, false, false, false, false, false, false, false, false, false, false, false, false, false, false, false, false, false, false, false, false, false, false, false, false, false, false, true, true] hP (zD hD rfl) hS rfl (fun _ => rfl) (fun _ => rfl) 7 0 rfl rfl rfl rfl rfl (Nat.le_of_ble_eq_true rfl) dL_law_875 (fun r875 u875 H locs hu875 hP hS => ?_)
    subst hu875
    refine lv_istore (lv' := [(6, .int (zI (0))), (5, .int (zI (1))), (0, .ref b0), (1, .ref ss), (2, .ref m0), (3, .ref oa), (4, .int (zI (i)))]) hx hb dL_law_878 hl (by decide) rfl (fun ls hl => ?_)
    refine lv_aload_n hx hb dL_law_880 rfl (lv_at hl 4 rfl) ?_
    refine y_rV (v := 1) (As := []) (rest := []) hx hb hml hown hts hl.1 hc2 (kX7_thrown l D cI cJ cS m0 a cn 1 hs f ) (cwV 0 hts gL_law_X7_thrown rfl rfl rfl jX7_thrown ⟨Nat.le_of_ble_eq_true rfl, Nat.le_of_ble_eq_true rfl⟩) hK [false, false, false, false, false, false, false, false, false, false, false, false, false, false, false, false, false, false, false, false, false, false, false, false, false, false, false, false, false, false, false, false, false, false, false, false, false, false, false, false, false, false, false, false, false, false, false, false, false, false, false, false, false, false, false, false, false, false, false, false, false, false, false, false, false, false, false, false, false, false, false, false, false, false, false, false, false, true] hP (zD hD rfl) rfl 7 0 rfl rfl rfl rfl rfl (Nat.le_of_ble_eq_true rfl) dL_law_881 ?_
    refine lv_iload hx hb dL_law_884 (lv_at hl 1 rfl) ?_
    refine z_icmpR 891 hx hb dL_law_886 (by decide) ?_
    refine lv_iload hx hb dL_law_891 (lv_at hl 1 rfl) ?_
    refine z_if_ne (tgt := 908) hx hb dL_law_893 (by decide) (by omega) (fun c893 => ?_) (fun c893 => ?_)
    · refine lv_goto (tgt := 1700) hx hb dL_law_908 (by decide) ?_
      exact kk _ _ _ ⟨f, ps, n, F, P, N, la, cn, fr, ge, gv, gd, gt, sc, gf, op, tb, sb, 1, hs, gp, e2, v2, d2, t2, r2, f2, w2, go, ok, rep, hla, hcn, hfr0, hp, htr, hh, hP⟩ hS (lv_sub hl [2, 3, 4, 5, 6] rfl)
    · exfalso; omega

set_option maxHeartbeats 4000000 in
set_option maxRecDepth 100000 in
/-- isBarred -/
theorem lc_10 {p : Program} {e : Env} {s : State} {m : MethodId} {args : Array Value} {below : List Frame} {meth : Method} {c : Code} {Q : State → Prop} {A : Nat → Prop} {H0 : Heap} (l : Launch) (hst : l.stackTraces = false) (D : va_G) (cI cJ cS : ClassId) (ss h0 p0 s0 l0 h1 m0 oa : Nat) (b r w o a : Nat → Nat) (bs : Nat → Nat → Nat) {b0 L : Nat} {xv : Nat → Int}
    (hx : p.tables.exec = Jvm.exec) (hb : c.code = cL_law) (hml : c.maxLocals = 8) (hown : s.vm.findClass RL = some m.cls) (hts : ∀ w ∈ wsL_law, w.before args s = true) (hK : va_K D vwCl (zT cI cJ cS) s) (hZ : xKs A s H0) (hTx : xTx s) (hX : va_X b0 L (fun j => zI (xv j)) s H0) (hbl : b0 < H0.size) (hbA : ¬ A b0) (hL : L < 2147483648) (hxv : ∀ j : Nat, -2147483648 ≤ xv j ∧ xv j < 2147483648) (hD : va_D A (LW cI cJ cS ss h0 p0 s0 l0 h1 m0 oa b r w o a bs (fun _ => 0) (fun _ => 0) 0 (fun _ _ => 0) (fun _ _ => 0) (fun _ => 0) 0 0 0 (fun _ => 0) (fun _ => 0) (fun _ => 0) (fun _ => 0) 0 (fun _ => 0) (fun _ => 0) (fun _ => 0) (fun _ => 0) (fun _ => 0) 0 0 0 (fun _ => 0) (fun _ => 0) (fun _ => 0) (fun _ => 0) (fun _ => 0) (fun _ => 0) (fun _ => 0) (fun _ => 0) (fun _ => 0))) {H : Heap} {locs : List Loc} {cells slots : Nat} {ls : Array Slot} (i : Int) (hi : 0 ≤ i ∧ i + 4 ≤ (L : Int)) (hI : LInv D cI cJ cS ss h0 p0 s0 l0 h1 m0 oa b r w o a bs H) (hS : va_S A H0 H locs) (hl : lv_has ls 8 [(0, .ref b0), (1, .ref ss), (2, .ref m0), (3, .ref oa), (4, .int (zI (i)))]) (hc2 : cells + 1 ≤ 601024 ∧ slots + 6 ≤ 7293034)
    (kk : ∀ (H1 : Heap) (locs1 : List Loc) (ls1 : Array Slot), LInv D cI cJ cS ss h0 p0 s0 l0 h1 m0 oa b r w o a bs H1 → va_S A H0 H1 locs1 → lv_has ls1 8 [(0, .ref b0), (1, .ref ss), (2, .ref m0), (3, .ref oa), (4, .int (zI (i)))] → W p l e room_1 s m args below meth c H1 locs1 (cells + 1) (slots + 6) Q (F0 m 1700 ls1 [])) : W p l e room_1 s m args below meth c H locs cells slots Q (F0 m 911 ls []) := by
  obtain ⟨f, ps, n, F, P, N, la, cn, fr, ge, gv, gd, gt, sc, gf, op, tb, sb, th, hs, gp, e2, v2, d2, t2, r2, f2, w2, go, ok, rep, hla, hcn, hfr0, hp, htr, hh, hP⟩ := hI
  obtain ⟨o0, o1, o2, o3, o4, o5, o7, o8, olim, ogrd, obar, oneed, opost⟩ := id ok
  have hc1 : cells ≤ 601024 ∧ slots ≤ 7293034 := ⟨by omega, by omega⟩
  obtain ⟨x, h_s1⟩ : ∃ x : Int, xv (i + 1).toNat = x := ⟨_, rfl⟩
  have hr_x : -2147483648 ≤ x ∧ x < 2147483648 := by rw [← h_s1]; exact hxv _
  rcases Classical.em (0 ≤ x ∧ x ≤ f 0) with hY | hN
  · have hzb9 := zB_01 (f (249 + x) = 1)
    refine lv_aload_n hx hb dL_law_911 rfl (lv_at hl 1 rfl) ?_
    refine lv_aload_n hx hb dL_law_912 rfl (lv_at hl 0 rfl) ?_
    refine lv_iload hx hb dL_law_913 (lv_at hl 4 rfl) ?_
    refine z_iconst hx hb dL_law_915 ?_
    refine z_iadd hx hb dL_law_916 ?_
    refine z_sld hx hb hX hbl hbA hS (by omega) hL h_s1 dL_law_917 ?_
    refine lv_aload_n hx hb dL_law_918 rfl (lv_at hl 3 rfl) ?_
    refine y_wSi (As := [.ref ss, .int (zI (x)), .ref oa]) (rest := []) (fun (u919 : Unit) => (LW cI cJ cS ss h0 p0 s0 l0 h1 m0 oa b r w o a bs f ps n F P N la cn fr ge gv gd gt sc gf op tb sb f cn th hs gp e2 v2 d2 t2 r2 f2 w2 (zup go 0 (zB (f (249 + x) = 1))))) hx hb hml hown hts hl.1 hc1 (kL_isBarred_ok l D cI cJ cS ss h0 p0 s0 l0 b f ps n x oa go ok hY) (vx_cwSW 3 hts gL_law_L_isBarred rfl rfl rfl jL_isBarred.2 ⟨Nat.le_of_ble_eq_true rfl, Nat.le_of_ble_eq_true rfl⟩) hK [true, false, false, false, false, false, false, false, false, false, false, false, false, false, false, false, false, false, false, false, false, false, false, false, false, false, false, false, false, false, false, false, false, false, false, false, false, false, false, false, false, false, false, false, false, false, false, false, false, false, false, false, false, false, false, false, false, false, false, false, false, false, false, false, false, false, true, true, true, true, true, true, true, true, true, true, true, false, false, false, false, false, false, false, false, false, false, true] hP (zD hD rfl) hS rfl (fun _ => rfl) (fun _ => rfl) rfl rfl (Nat.le_of_ble_eq_true rfl) dL_law_919 (fun r919 u919 H locs hu919 hP hS => ?_)
    subst hu919
    refine lv_istore (lv' := [(5, .int (zI (0))), (0, .ref b0), (1, .ref ss), (2, .ref m0), (3, .ref oa), (4, .int (zI (i)))]) hx hb dL_law_922 hl (by decide) rfl (fun ls hl => ?_)
    refine lv_aload_n hx hb dL_law_924 rfl (lv_at hl 3 rfl) ?_
    refine lv_aload_n hx hb dL_law_925 rfl (lv_at hl 1 rfl) ?_
    refine lv_iload hx hb dL_law_926 (lv_at hl 5 rfl) ?_
    refine z_iconst hx hb dL_law_928 ?_
    refine z_iadd hx hb dL_law_929 ?_
    refine z_sld hx hb hX hbl hbA hS (by omega) hL h_s1 dL_law_930 ?_
    refine y_wVi (As := [.int (zI (x))]) (rest := []) (fun (u931 : Unit) => (LW cI cJ cS ss h0 p0 s0 l0 h1 m0 oa b r w o a bs f ps n F P N la cn fr ge gv gd gt sc gf op tb sb f cn 0 hs gp e2 v2 d2 t2 r2 f2 w2 (zup go 0 (zB (f (249 + x) = 1))))) hx hb hml hown hts hl.1 hc1 (kX7_isBarred_ok l D cI cJ cS m0 a cn th hs f x ok hY) (cwV 1 hts gL_law_X7_isBarred rfl rfl rfl jX7_isBarred ⟨Nat.le_of_ble_eq_true rfl, Nat.le_of_ble_eq_true rfl⟩) hK [false, false, false, false, false, false, false, false, false, false, false, false, false, false, false, false, false, false, false, false, false, false, false, false, false, false, false, false, false, false, false, false, false, false, false, false, false, false, false, false, false, false, false, false, false, false, false, false, false, false, false, false, false, false, false, false, false, false, false, false, false, false, false, false, false, false, false, false, false, false, false, false, false, false, false, false, false, true, true] hP (zD hD rfl) hS rfl (fun _ => rfl) (fun _ => rfl) 7 0 rfl rfl rfl rfl rfl (Nat.le_of_ble_eq_true rfl) dL_law_931 (fun r931 u931 H locs hu931 hP hS => ?_)
    subst hu931
    refine lv_istore (lv' := [(6, .int (zI ((zB (f (249 + x) = 1))))), (5, .int (zI (0))), (0, .ref b0), (1, .ref ss), (2, .ref m0), (3, .ref oa), (4, .int (zI (i)))]) hx hb dL_law_934 hl (by decide) rfl (fun ls hl => ?_)
    refine lv_aload_n hx hb dL_law_936 rfl (lv_at hl 4 rfl) ?_
    refine y_rV (v := 0) (As := []) (rest := []) hx hb hml hown hts hl.1 hc1 (kX7_thrown l D cI cJ cS m0 a cn 0 hs f ) (cwV 0 hts gL_law_X7_thrown rfl rfl rfl jX7_thrown ⟨Nat.le_of_ble_eq_true rfl, Nat.le_of_ble_eq_true rfl⟩) hK [false, false, false, false, false, false, false, false, false, false, false, false, false, false, false, false, false, false, false, false, false, false, false, false, false, false, false, false, false, false, false, false, false, false, false, false, false, false, false, false, false, false, false, false, false, false, false, false, false, false, false, false, false, false, false, false, false, false, false, false, false, false, false, false, false, false, false, false, false, false, false, false, false, false, false, false, false, true] hP (zD hD rfl) rfl 7 0 rfl rfl rfl rfl rfl (Nat.le_of_ble_eq_true rfl) dL_law_937 ?_
    refine lv_iload hx hb dL_law_940 (lv_at hl 1 rfl) ?_
    refine z_icmpR 947 hx hb dL_law_942 (by decide) ?_
    refine lv_iload hx hb dL_law_947 (lv_at hl 1 rfl) ?_
    refine z_if_ne (tgt := 971) hx hb dL_law_949 (by decide) (by omega) (fun c949 => ?_) (fun c949 => ?_)
    · exfalso; omega
    · refine lv_aload_n hx hb dL_law_952 rfl (lv_at hl 5 rfl) ?_
      refine z_iconst hx hb dL_law_953 ?_
      refine z_lald hx hb hK hP 87 1 rfl rfl (by omega) (Nat.lt_of_succ_le (Nat.le_of_ble_eq_true rfl)) dL_law_954 ?_
      refine z_topL ((zB (f (249 + x) = 1))) (zup_at _ _ _) ?_
      refine lv_iload hx hb dL_law_955 (lv_at hl 0 rfl) ?_
      refine z_if_eq (tgt := 964) hx hb dL_law_957 (by decide) (by omega) (fun c957 => ?_) (fun c957 => ?_)
      · refine z_lconst hx hb 0 dL_law_964 (by decide +kernel) ?_
        refine z_topL ((zB (f (249 + x) = 1))) c957.symm ?_
        refine z_lcmpR hx hb dL_law_965 ?_
        refine z_if_eq (tgt := 971) hx hb dL_law_966 (by decide) (by omega) (fun c966 => ?_) (fun c966 => ?_)
        · refine lv_goto (tgt := 1700) hx hb dL_law_971 (by decide) ?_
          refine W.widen (k := cells + 1) (n := slots + 6) (Nat.le_add_right _ _) (Nat.le_add_right _ _) ?_
          exact kk _ _ _ ⟨f, ps, n, F, P, N, la, cn, fr, ge, gv, gd, gt, sc, gf, op, tb, sb, 0, hs, gp, e2, v2, d2, t2, r2, f2, w2, (zup go 0 (zB (f (249 + x) = 1))), ok, rep, hla, hcn, hfr0, hp, htr, hh, hP⟩ hS (lv_sub hl [2, 3, 4, 5, 6] rfl)
        · exfalso; omega
      · refine z_lconst hx hb 1 dL_law_960 (by decide +kernel) ?_
        refine lv_goto (tgt := 965) hx hb dL_law_961 (by decide) ?_
        refine z_topL ((zB (f (249 + x) = 1))) (by have h9 := zB_01 (f (249 + x) = 1); omega) ?_
        refine z_lcmpR hx hb dL_law_965 ?_
        refine z_if_eq (tgt := 971) hx hb dL_law_966 (by decide) (by omega) (fun c966 => ?_) (fun c966 => ?_)
        · refine lv_goto (tgt := 1700) hx hb dL_law_971 (by decide) ?_
          refine W.widen (k := cells + 1) (n := slots + 6) (Nat.le_add_right _ _) (Nat.le_add_right _ _) ?_
          exact kk _ _ _ ⟨f, ps, n, F, P, N, la, cn, fr, ge, gv, gd, gt, sc, gf, op, tb, sb, 0, hs, gp, e2, v2, d2, t2, r2, f2, w2, (zup go 0 (zB (f (249 + x) = 1))), ok, rep, hla, hcn, hfr0, hp, htr, hh, hP⟩ hS (lv_sub hl [2, 3, 4, 5, 6] rfl)
        · exfalso; omega
  · refine lv_aload_n hx hb dL_law_911 rfl (lv_at hl 1 rfl) ?_
    refine lv_aload_n hx hb dL_law_912 rfl (lv_at hl 0 rfl) ?_
    refine lv_iload hx hb dL_law_913 (lv_at hl 4 rfl) ?_
    refine z_iconst hx hb dL_law_915 ?_
    refine z_iadd hx hb dL_law_916 ?_
    refine z_sld hx hb hX hbl hbA hS (by omega) hL h_s1 dL_law_917 ?_
    refine lv_aload_n hx hb dL_law_918 rfl (lv_at hl 3 rfl) ?_
    refine y_wSx (As := [.ref ss, .int (zI (x)), .ref oa]) (rest := []) (fun (u919 : Unit) => (LW cI cJ cS ss h0 p0 s0 l0 h1 m0 oa b r w o a bs f ps n F P N la cn fr ge gv gd gt sc gf op tb sb f cn th hs gp e2 v2 d2 t2 r2 f2 w2 go)) hx hb hml hown hts hl.1 hc2 (nL_isBarred l D cI cJ cS ss h0 p0 s0 l0 b f ps n x oa go ok hN hr_x hst) (vx_cwSW 3 hts gL_law_L_isBarred rfl rfl rfl jL_isBarred.2 ⟨Nat.le_of_ble_eq_true rfl, Nat.le_of_ble_eq_true rfl⟩) hK [true, false, false, false, false, false, false, false, false, false, false, false, false, false, false, false, false, false, false, false, false, false, false, false, false, false, false, false, false, false, false, false, false, false, false, false, false, false, false, false, false, false, false, false, false, false, false, false, false, false, false, false, false, false, false, false, false, false, false, false, false, false, false, false, false, false, true, true, true, true, true, true, true, true, true, true, true, false, false, false, false, false, false, false, false, false, false, true] hP (zD hD rfl) hS hZ hTx rfl (fun _ => rfl) (fun _ => rfl) rfl rfl (Nat.le_of_ble_eq_true rfl) dL_law_919 (fun r919 u919 H locs hu919 hP hS => ?_)
    subst hu919
    refine lv_istore (lv' := [(5, .int (zI (1))), (0, .ref b0), (1, .ref ss), (2, .ref m0), (3, .ref oa), (4, .int (zI (i)))]) hx hb dL_law_922 hl (by decide) rfl (fun ls hl => ?_)
    refine lv_aload_n hx hb dL_law_924 rfl (lv_at hl 3 rfl) ?_
    refine lv_aload_n hx hb dL_law_925 rfl (lv_at hl 1 rfl) ?_
    refine lv_iload hx hb dL_law_926 (lv_at hl 5 rfl) ?_
    refine z_iconst hx hb dL_law_928 ?_
    refine z_iadd hx hb dL_law_929 ?_
    refine z_sld hx hb hX hbl hbA hS (by omega) hL h_s1 dL_law_930 ?_
    refine y_wVi (As := [.int (zI (x))]) (rest := []) (fun (u931 : Unit) => (LW cI cJ cS ss h0 p0 s0 l0 h1 m0 oa b r w o a bs f ps n F P N la cn fr ge gv gd gt sc gf op tb sb f cn 1 hs gp e2 v2 d2 t2 r2 f2 w2 go)) hx hb hml hown hts hl.1 hc2 (kX7_isBarred_no l D cI cJ cS m0 a cn th hs f x ok hN hr_x) (cwV 1 hts gL_law_X7_isBarred rfl rfl rfl jX7_isBarred ⟨Nat.le_of_ble_eq_true rfl, Nat.le_of_ble_eq_true rfl⟩) hK [false, false, false, false, false, false, false, false, false, false, false, false, false, false, false, false, false, false, false, false, false, false, false, false, false, false, false, false, false, false, false, false, false, false, false, false, false, false, false, false, false, false, false, false, false, false, false, false, false, false, false, false, false, false, false, false, false, false, false, false, false, false, false, false, false, false, false, false, false, false, false, false, false, false, false, false, false, true, true] hP (zD hD rfl) hS rfl (fun _ => rfl) (fun _ => rfl) 7 0 rfl rfl rfl rfl rfl (Nat.le_of_ble_eq_true rfl) dL_law_931 (fun r931 u931 H locs hu931 hP hS => ?_)
    subst hu931
    refine lv_istore (lv' := [(6, .int (zI ((0)))), (5, .int (zI (1))), (0, .ref b0), (1, .ref ss), (2, .ref m0), (3, .ref oa), (4, .int (zI (i)))]) hx hb dL_law_934 hl (by decide) rfl (fun ls hl => ?_)
    refine lv_aload_n hx hb dL_law_936 rfl (lv_at hl 4 rfl) ?_
    refine y_rV (v := 1) (As := []) (rest := []) hx hb hml hown hts hl.1 hc2 (kX7_thrown l D cI cJ cS m0 a cn 1 hs f ) (cwV 0 hts gL_law_X7_thrown rfl rfl rfl jX7_thrown ⟨Nat.le_of_ble_eq_true rfl, Nat.le_of_ble_eq_true rfl⟩) hK [false, false, false, false, false, false, false, false, false, false, false, false, false, false, false, false, false, false, false, false, false, false, false, false, false, false, false, false, false, false, false, false, false, false, false, false, false, false, false, false, false, false, false, false, false, false, false, false, false, false, false, false, false, false, false, false, false, false, false, false, false, false, false, false, false, false, false, false, false, false, false, false, false, false, false, false, false, true] hP (zD hD rfl) rfl 7 0 rfl rfl rfl rfl rfl (Nat.le_of_ble_eq_true rfl) dL_law_937 ?_
    refine lv_iload hx hb dL_law_940 (lv_at hl 1 rfl) ?_
    refine z_icmpR 947 hx hb dL_law_942 (by decide) ?_
    refine lv_iload hx hb dL_law_947 (lv_at hl 1 rfl) ?_
    refine z_if_ne (tgt := 971) hx hb dL_law_949 (by decide) (by omega) (fun c949 => ?_) (fun c949 => ?_)
    · refine lv_goto (tgt := 1700) hx hb dL_law_971 (by decide) ?_
      exact kk _ _ _ ⟨f, ps, n, F, P, N, la, cn, fr, ge, gv, gd, gt, sc, gf, op, tb, sb, 1, hs, gp, e2, v2, d2, t2, r2, f2, w2, go, ok, rep, hla, hcn, hfr0, hp, htr, hh, hP⟩ hS (lv_sub hl [2, 3, 4, 5, 6] rfl)
    · exfalso; omega

set_option maxHeartbeats 4000000 in
set_option maxRecDepth 100000 in
/-- energy -/
theorem lc_11 {p : Program} {e : Env} {s : State} {m : MethodId} {args : Array Value} {below : List Frame} {meth : Method} {c : Code} {Q : State → Prop} {A : Nat → Prop} {H0 : Heap} (l : Launch) (hst : l.stackTraces = false) (D : va_G) (cI cJ cS : ClassId) (ss h0 p0 s0 l0 h1 m0 oa : Nat) (b r w o a : Nat → Nat) (bs : Nat → Nat → Nat) {b0 L : Nat} {xv : Nat → Int}
    (hx : p.tables.exec = Jvm.exec) (hb : c.code = cL_law) (hml : c.maxLocals = 8) (hown : s.vm.findClass RL = some m.cls) (hts : ∀ w ∈ wsL_law, w.before args s = true) (hK : va_K D vwCl (zT cI cJ cS) s) (hZ : xKs A s H0) (hTx : xTx s) (hX : va_X b0 L (fun j => zI (xv j)) s H0) (hbl : b0 < H0.size) (hbA : ¬ A b0) (hL : L < 2147483648) (hxv : ∀ j : Nat, -2147483648 ≤ xv j ∧ xv j < 2147483648) (hD : va_D A (LW cI cJ cS ss h0 p0 s0 l0 h1 m0 oa b r w o a bs (fun _ => 0) (fun _ => 0) 0 (fun _ _ => 0) (fun _ _ => 0) (fun _ => 0) 0 0 0 (fun _ => 0) (fun _ => 0) (fun _ => 0) (fun _ => 0) 0 (fun _ => 0) (fun _ => 0) (fun _ => 0) (fun _ => 0) (fun _ => 0) 0 0 0 (fun _ => 0) (fun _ => 0) (fun _ => 0) (fun _ => 0) (fun _ => 0) (fun _ => 0) (fun _ => 0) (fun _ => 0) (fun _ => 0))) {H : Heap} {locs : List Loc} {cells slots : Nat} {ls : Array Slot} (i : Int) (hi : 0 ≤ i ∧ i + 4 ≤ (L : Int)) (hI : LInv D cI cJ cS ss h0 p0 s0 l0 h1 m0 oa b r w o a bs H) (hS : va_S A H0 H locs) (hl : lv_has ls 8 [(0, .ref b0), (1, .ref ss), (2, .ref m0), (3, .ref oa), (4, .int (zI (i)))]) (hc2 : cells + 1 ≤ 601024 ∧ slots + 6 ≤ 7293034)
    (kk : ∀ (H1 : Heap) (locs1 : List Loc) (ls1 : Array Slot), LInv D cI cJ cS ss h0 p0 s0 l0 h1 m0 oa b r w o a bs H1 → va_S A H0 H1 locs1 → lv_has ls1 8 [(0, .ref b0), (1, .ref ss), (2, .ref m0), (3, .ref oa), (4, .int (zI (i)))] → W p l e room_1 s m args below meth c H1 locs1 (cells + 1) (slots + 6) Q (F0 m 1700 ls1 [])) : W p l e room_1 s m args below meth c H locs cells slots Q (F0 m 974 ls []) := by
  obtain ⟨f, ps, n, F, P, N, la, cn, fr, ge, gv, gd, gt, sc, gf, op, tb, sb, th, hs, gp, e2, v2, d2, t2, r2, f2, w2, go, ok, rep, hla, hcn, hfr0, hp, htr, hh, hP⟩ := hI
  obtain ⟨o0, o1, o2, o3, o4, o5, o7, o8, olim, ogrd, obar, oneed, opost⟩ := id ok
  have hc1 : cells ≤ 601024 ∧ slots ≤ 7293034 := ⟨by omega, by omega⟩
  obtain ⟨x, h_s1⟩ : ∃ x : Int, xv (i + 1).toNat = x := ⟨_, rfl⟩
  have hr_x : -2147483648 ≤ x ∧ x < 2147483648 := by rw [← h_s1]; exact hxv _
  rcases Classical.em (0 ≤ x ∧ x ≤ f 0) with hY | hN
  · refine lv_aload_n hx hb dL_law_974 rfl (lv_at hl 1 rfl) ?_
    refine lv_aload_n hx hb dL_law_975 rfl (lv_at hl 0 rfl) ?_
    refine lv_iload hx hb dL_law_976 (lv_at hl 4 rfl) ?_
    refine z_iconst hx hb dL_law_978 ?_
    refine z_iadd hx hb dL_law_979 ?_
    refine z_sld hx hb hX hbl hbA hS (by omega) hL h_s1 dL_law_980 ?_
    refine lv_aload_n hx hb dL_law_981 rfl (lv_at hl 3 rfl) ?_
    refine y_wSi (As := [.ref ss, .int (zI (x)), .ref oa]) (rest := []) (fun (u982 : Nat → Int → Int) => (LW cI cJ cS ss h0 p0 s0 l0 h1 m0 oa b r w o a bs f ps n F P N la cn 1 (u982 0) (u982 1) (u982 2) (u982 3) sc gf op tb sb f cn th hs gp e2 v2 d2 t2 r2 f2 w2 (zup go 0 (enE f x)))) hx hb hml hown hts hl.1 hc1 (kL_energy_ok l D cI cJ cS ss h0 p0 s0 l0 b f ps n ge gv gd gt fr r x oa go ok hfr0 hp hY) (vx_cwSW 3 hts gL_law_L_energy rfl rfl rfl jL_energy.2 ⟨Nat.le_of_ble_eq_true rfl, Nat.le_of_ble_eq_true rfl⟩) hK [true, false, false, false, false, false, false, false, false, false, false, false, false, false, false, false, false, false, false, false, false, false, false, false, false, false, false, false, false, false, false, false, false, false, false, false, false, false, false, false, false, false, false, false, false, false, false, false, false, false, false, false, false, false, false, false, false, true, true, true, true, true, true, true, true, true, true, true, true, true, true, true, true, true, true, true, true, false, false, false, false, false, false, false, false, false, false, true] hP (zD hD rfl) hS rfl (fun _ => rfl) (fun _ => rfl) rfl rfl (Nat.le_of_ble_eq_true rfl) dL_law_982 (fun r982 u982 H locs hu982 hP hS => ?_)
    obtain ⟨rfl, q982⟩ := hu982
    refine lv_istore (lv' := [(5, .int (zI (0))), (0, .ref b0), (1, .ref ss), (2, .ref m0), (3, .ref oa), (4, .int (zI (i)))]) hx hb dL_law_985 hl (by decide) rfl (fun ls hl => ?_)
    refine lv_aload_n hx hb dL_law_987 rfl (lv_at hl 3 rfl) ?_
    refine lv_aload_n hx hb dL_law_988 rfl (lv_at hl 1 rfl) ?_
    refine lv_iload hx hb dL_law_989 (lv_at hl 5 rfl) ?_
    refine z_iconst hx hb dL_law_991 ?_
    refine z_iadd hx hb dL_law_992 ?_
    refine z_sld hx hb hX hbl hbA hS (by omega) hL h_s1 dL_law_993 ?_
    refine y_wVl (As := [.int (zI (x))]) (rest := []) (fun (u994 : Nat → Int → Int) => (LW cI cJ cS ss h0 p0 s0 l0 h1 m0 oa b r w o a bs f ps n F P N la cn 1 (u982 0) (u982 1) (u982 2) (u982 3) sc gf op tb sb f cn 0 hs gp (u994 0) (u994 1) (u994 2) (u994 3) r2 f2 w2 (zup go 0 (enE f x)))) hx hb hml hown hts hl.1 hc1 (kX7_energy_ok l D cI cJ cS m0 a cn th hs f e2 v2 d2 t2 x ok hY) (cwV 1 hts gL_law_X7_energy rfl rfl rfl jX7_energy ⟨Nat.le_of_ble_eq_true rfl, Nat.le_of_ble_eq_true rfl⟩) hK [false, false, false, false, false, false, false, false, false, false, false, false, false, false, false, false, false, false, false, false, false, false, false, false, false, false, false, false, false, false, false, false, false, false, false, false, false, false, false, false, false, false, false, false, false, false, false, false, false, false, false, false, false, false, false, false, false, false, false, false, false, false, false, false, false, false, false, false, false, false, false, false, false, false, false, false, false, true, true, false, true, true, true, true] hP (zD hD rfl) hS rfl (fun _ => rfl) (fun _ => rfl) 7 0 rfl rfl rfl rfl rfl (Nat.le_of_ble_eq_true rfl) dL_law_994 (fun r994 u994 H locs hu994 hP hS => ?_)
    subst hu994
    refine lv_lstore (lv' := [(6, .long (zL (enE f x))), (5, .int (zI (0))), (0, .ref b0), (1, .ref ss), (2, .ref m0), (3, .ref oa), (4, .int (zI (i)))]) hx hb dL_law_997 hl (by decide) rfl (fun ls hl => ?_)
    refine lv_aload_n hx hb dL_law_999 rfl (lv_at hl 4 rfl) ?_
    refine y_rV (v := 0) (As := []) (rest := []) hx hb hml hown hts hl.1 hc1 (kX7_thrown l D cI cJ cS m0 a cn 0 hs f ) (cwV 0 hts gL_law_X7_thrown rfl rfl rfl jX7_thrown ⟨Nat.le_of_ble_eq_true rfl, Nat.le_of_ble_eq_true rfl⟩) hK [false, false, false, false, false, false, false, false, false, false, false, false, false, false, false, false, false, false, false, false, false, false, false, false, false, false, false, false, false, false, false, false, false, false, false, false, false, false, false, false, false, false, false, false, false, false, false, false, false, false, false, false, false, false, false, false, false, false, false, false, false, false, false, false, false, false, false, false, false, false, false, false, false, false, false, false, false, true] hP (zD hD rfl) rfl 7 0 rfl rfl rfl rfl rfl (Nat.le_of_ble_eq_true rfl) dL_law_1000 ?_
    refine lv_iload hx hb dL_law_1003 (lv_at hl 1 rfl) ?_
    refine z_icmpR 1010 hx hb dL_law_1005 (by decide) ?_
    refine lv_iload hx hb dL_law_1010 (lv_at hl 1 rfl) ?_
    refine z_if_ne (tgt := 1026) hx hb dL_law_1012 (by decide) (by omega) (fun c1012 => ?_) (fun c1012 => ?_)
    · exfalso; omega
    · refine lv_aload_n hx hb dL_law_1015 rfl (lv_at hl 5 rfl) ?_
      refine z_iconst hx hb dL_law_1016 ?_
      refine z_lald hx hb hK hP 87 1 rfl rfl (by omega) (Nat.lt_of_succ_le (Nat.le_of_ble_eq_true rfl)) dL_law_1017 ?_
      refine z_topL (enE f x) (zup_at _ _ _) ?_
      refine lv_lload hx hb dL_law_1018 (lv_at hl 0 rfl) ?_
      refine z_lcmpR hx hb dL_law_1020 ?_
      refine z_if_eq (tgt := 1026) hx hb dL_law_1021 (by decide) (by omega) (fun c1021 => ?_) (fun c1021 => ?_)
      · refine lv_goto (tgt := 1700) hx hb dL_law_1026 (by decide) ?_
        refine W.widen (k := cells + 1) (n := slots + 6) (Nat.le_add_right _ _) (Nat.le_add_right _ _) ?_
        exact kk _ _ _ ⟨f, ps, n, F, P, N, la, cn, 1, (u982 0), (u982 1), (u982 2), (u982 3), sc, gf, op, tb, sb, 0, hs, gp, (u994 0), (u994 1), (u994 2), (u994 3), r2, f2, w2, (zup go 0 (enE f x)), ok, rep, hla, hcn, (Or.inr rfl), (fun _ => q982), htr, hh, hP⟩ hS (lv_sub hl [2, 3, 4, 5, 6] rfl)
      · exfalso; omega
  · refine lv_aload_n hx hb dL_law_974 rfl (lv_at hl 1 rfl) ?_
    refine lv_aload_n hx hb dL_law_975 rfl (lv_at hl 0 rfl) ?_
    refine lv_iload hx hb dL_law_976 (lv_at hl 4 rfl) ?_
    refine z_iconst hx hb dL_law_978 ?_
    refine z_iadd hx hb dL_law_979 ?_
    refine z_sld hx hb hX hbl hbA hS (by omega) hL h_s1 dL_law_980 ?_
    refine lv_aload_n hx hb dL_law_981 rfl (lv_at hl 3 rfl) ?_
    refine y_wSx (As := [.ref ss, .int (zI (x)), .ref oa]) (rest := []) (fun (u982 : Unit) => (LW cI cJ cS ss h0 p0 s0 l0 h1 m0 oa b r w o a bs f ps n F P N la cn fr ge gv gd gt sc gf op tb sb f cn th hs gp e2 v2 d2 t2 r2 f2 w2 go)) hx hb hml hown hts hl.1 hc2 (nL_energy l D cI cJ cS ss h0 p0 s0 l0 b f ps n x oa go ok hN hr_x hst) (vx_cwSW 3 hts gL_law_L_energy rfl rfl rfl jL_energy.2 ⟨Nat.le_of_ble_eq_true rfl, Nat.le_of_ble_eq_true rfl⟩) hK [true, false, false, false, false, false, false, false, false, false, false, false, false, false, false, false, false, false, false, false, false, false, false, false, false, false, false, false, false, false, false, false, false, false, false, false, false, false, false, false, false, false, false, false, false, false, false, false, false, false, false, false, false, false, false, false, false, false, false, false, false, false, false, false, false, false, true, true, true, true, true, true, true, true, true, true, true, false, false, false, false, false, false, false, false, false, false, true] hP (zD hD rfl) hS hZ hTx rfl (fun _ => rfl) (fun _ => rfl) rfl rfl (Nat.le_of_ble_eq_true rfl) dL_law_982 (fun r982 u982 H locs hu982 hP hS => ?_)
    subst hu982
    refine lv_istore (lv' := [(5, .int (zI (1))), (0, .ref b0), (1, .ref ss), (2, .ref m0), (3, .ref oa), (4, .int (zI (i)))]) hx hb dL_law_985 hl (by decide) rfl (fun ls hl => ?_)
    refine lv_aload_n hx hb dL_law_987 rfl (lv_at hl 3 rfl) ?_
    refine lv_aload_n hx hb dL_law_988 rfl (lv_at hl 1 rfl) ?_
    refine lv_iload hx hb dL_law_989 (lv_at hl 5 rfl) ?_
    refine z_iconst hx hb dL_law_991 ?_
    refine z_iadd hx hb dL_law_992 ?_
    refine z_sld hx hb hX hbl hbA hS (by omega) hL h_s1 dL_law_993 ?_
    refine y_wVl (As := [.int (zI (x))]) (rest := []) (fun (u994 : Unit) => (LW cI cJ cS ss h0 p0 s0 l0 h1 m0 oa b r w o a bs f ps n F P N la cn fr ge gv gd gt sc gf op tb sb f cn 1 hs gp e2 v2 d2 t2 r2 f2 w2 go)) hx hb hml hown hts hl.1 hc2 (kX7_energy_no l D cI cJ cS m0 a cn th hs f x ok hN hr_x) (cwV 1 hts gL_law_X7_energy rfl rfl rfl jX7_energy ⟨Nat.le_of_ble_eq_true rfl, Nat.le_of_ble_eq_true rfl⟩) hK [false, false, false, false, false, false, false, false, false, false, false, false, false, false, false, false, false, false, false, false, false, false, false, false, false, false, false, false, false, false, false, false, false, false, false, false, false, false, false, false, false, false, false, false, false, false, false, false, false, false, false, false, false, false, false, false, false, false, false, false, false, false, false, false, false, false, false, false, false, false, false, false, false, false, false, false, false, true, true] hP (zD hD rfl) hS rfl (fun _ => rfl) (fun _ => rfl) 7 0 rfl rfl rfl rfl rfl (Nat.le_of_ble_eq_true rfl) dL_law_994 (fun r994 u994 H locs hu994 hP hS => ?_)
    subst hu994
    refine lv_lstore (lv' := [(6, .long (zL (0))), (5, .int (zI (1))), (0, .ref b0), (1, .ref ss), (2, .ref m0), (3, .ref oa), (4, .int (zI (i)))]) hx hb dL_law_997 hl (by decide) rfl (fun ls hl => ?_)
    refine lv_aload_n hx hb dL_law_999 rfl (lv_at hl 4 rfl) ?_
    refine y_rV (v := 1) (As := []) (rest := []) hx hb hml hown hts hl.1 hc2 (kX7_thrown l D cI cJ cS m0 a cn 1 hs f ) (cwV 0 hts gL_law_X7_thrown rfl rfl rfl jX7_thrown ⟨Nat.le_of_ble_eq_true rfl, Nat.le_of_ble_eq_true rfl⟩) hK [false, false, false, false, false, false, false, false, false, false, false, false, false, false, false, false, false, false, false, false, false, false, false, false, false, false, false, false, false, false, false, false, false, false, false, false, false, false, false, false, false, false, false, false, false, false, false, false, false, false, false, false, false, false, false, false, false, false, false, false, false, false, false, false, false, false, false, false, false, false, false, false, false, false, false, false, false, true] hP (zD hD rfl) rfl 7 0 rfl rfl rfl rfl rfl (Nat.le_of_ble_eq_true rfl) dL_law_1000 ?_
    refine lv_iload hx hb dL_law_1003 (lv_at hl 1 rfl) ?_
    refine z_icmpR 1010 hx hb dL_law_1005 (by decide) ?_
    refine lv_iload hx hb dL_law_1010 (lv_at hl 1 rfl) ?_
    refine z_if_ne (tgt := 1026) hx hb dL_law_1012 (by decide) (by omega) (fun c1012 => ?_) (fun c1012 => ?_)
    · refine lv_goto (tgt := 1700) hx hb dL_law_1026 (by decide) ?_
      exact kk _ _ _ ⟨f, ps, n, F, P, N, la, cn, fr, ge, gv, gd, gt, sc, gf, op, tb, sb, 1, hs, gp, e2, v2, d2, t2, r2, f2, w2, go, ok, rep, hla, hcn, hfr0, hp, htr, hh, hP⟩ hS (lv_sub hl [2, 3, 4, 5, 6] rfl)
    · exfalso; omega
