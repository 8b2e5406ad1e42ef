set_option maxHeartbeats 4000000 in
set_option maxRecDepth 100000 in
/-- profileSpeed -/
theorem lc_12 {p : Program} {e : Env} {s : State} {m : MethodId} {args : Array Value} {below : List Frame} {meth : Method} {c : Code} {Q : State → Prop} {A : Nat → Prop} {H0 : Heap} (l : Launch) (hst : l.stackTraces = false) (D : va_G) (cI cJ cS : ClassId) (ss h0 p0 s0 l0 h1 m0 oa : Nat) (b r w o a : Nat → Nat) (bs : Nat → Nat → Nat) {b0 L : Nat} {xv : Nat → Int}
    (hx : p.tables.exec = Jvm.exec) (hb : c.code = cL_law) (hml : c.maxLocals = 8) (hown : s.vm.findClass RL = some m.cls) (hts : ∀ w ∈ wsL_law, w.before args s = true) (hK : va_K D vwCl (zT cI cJ cS) s) (hZ : xKs A s H0) (hTx : xTx s) (hX : va_X b0 L (fun j => zI (xv j)) s H0) (hbl : b0 < H0.size) (hbA : ¬ A b0) (hL : L < 2147483648) (hxv : ∀ j : Nat, -2147483648 ≤ xv j ∧ xv j < 2147483648) (hD : va_D A (LW cI cJ cS ss h0 p0 s0 l0 h1 m0 oa b r w o a bs (fun _ => 0) (fun _ => 0) 0 (fun _ _ => 0) (fun _ _ => 0) (fun _ => 0) 0 0 0 (fun _ => 0) (fun _ => 0) (fun _ => 0) (fun _ => 0) 0 (fun _ => 0) (fun _ => 0) (fun _ => 0) (fun _ => 0) (fun _ => 0) 0 0 0 (fun _ => 0) (fun _ => 0) (fun _ => 0) (fun _ => 0) (fun _ => 0) (fun _ => 0) (fun _ => 0) (fun _ => 0) (fun _ => 0))) {H : Heap} {locs : List Loc} {cells slots : Nat} {ls : Array Slot} (i : Int) (hi : 0 ≤ i ∧ i + 4 ≤ (L : Int)) (hI : LInv D cI cJ cS ss h0 p0 s0 l0 h1 m0 oa b r w o a bs H) (hS : va_S A H0 H locs) (hl : lv_has ls 8 [(0, .ref b0), (1, .ref ss), (2, .ref m0), (3, .ref oa), (4, .int (zI (i)))]) (hc2 : cells + 1 ≤ 601024 ∧ slots + 6 ≤ 7293034)
    (kk : ∀ (H1 : Heap) (locs1 : List Loc) (ls1 : Array Slot), LInv D cI cJ cS ss h0 p0 s0 l0 h1 m0 oa b r w o a bs H1 → va_S A H0 H1 locs1 → lv_has ls1 8 [(0, .ref b0), (1, .ref ss), (2, .ref m0), (3, .ref oa), (4, .int (zI (i)))] → W p l e room_1 s m args below meth c H1 locs1 (cells + 1) (slots + 6) Q (F0 m 1700 ls1 [])) : W p l e room_1 s m args below meth c H locs cells slots Q (F0 m 1029 ls []) := by
  obtain ⟨f, ps, n, F, P, N, la, cn, fr, ge, gv, gd, gt, sc, gf, op, tb, sb, th, hs, gp, e2, v2, d2, t2, r2, f2, w2, go, ok, rep, hla, hcn, hfr0, hp, htr, hh, hP⟩ := hI
  obtain ⟨o0, o1, o2, o3, o4, o5, o7, o8, olim, ogrd, obar, oneed, opost⟩ := id ok
  have hc1 : cells ≤ 601024 ∧ slots ≤ 7293034 := ⟨by omega, by omega⟩
  obtain ⟨x, h_s1⟩ : ∃ x : Int, xv (i + 1).toNat = x := ⟨_, rfl⟩
  have hr_x : -2147483648 ≤ x ∧ x < 2147483648 := by rw [← h_s1]; exact hxv _
  rcases Classical.em (0 ≤ x ∧ x ≤ f 0) with hY | hN
  · have hq := spV_b ok hY.1 hY.2
    refine lv_aload_n hx hb dL_law_1029 rfl (lv_at hl 1 rfl) ?_
    refine lv_aload_n hx hb dL_law_1030 rfl (lv_at hl 0 rfl) ?_
    refine lv_iload hx hb dL_law_1031 (lv_at hl 4 rfl) ?_
    refine z_iconst hx hb dL_law_1033 ?_
    refine z_iadd hx hb dL_law_1034 ?_
    refine z_sld hx hb hX hbl hbA hS (by omega) hL h_s1 dL_law_1035 ?_
    refine lv_aload_n hx hb dL_law_1036 rfl (lv_at hl 3 rfl) ?_
    refine y_wSi (As := [.ref ss, .int (zI (x)), .ref oa]) (rest := []) (fun (u1037 : Nat → Int → Int) => (LW cI cJ cS ss h0 p0 s0 l0 h1 m0 oa b r w o a bs f ps n F P N la cn 1 (u1037 0) (u1037 1) (u1037 2) (u1037 3) sc gf op tb sb f cn th hs gp e2 v2 d2 t2 r2 f2 w2 (zup go 0 (spV f x)))) hx hb hml hown hts hl.1 hc1 (kL_profileSpeed_ok l D cI cJ cS ss h0 p0 s0 l0 b f ps n ge gv gd gt fr r x oa go ok hfr0 hp hY) (vx_cwSW 3 hts gL_law_L_profileSpeed rfl rfl rfl jL_profileSpeed.2 ⟨Nat.le_of_ble_eq_true rfl, Nat.le_of_ble_eq_true rfl⟩) hK [true, false, false, false, false, false, false, false, false, false, false, false, false, false, false, false, false, false, false, false, false, false, false, false, false, false, false, false, false, false, false, false, false, false, false, false, false, false, false, false, false, false, false, false, false, false, false, false, false, false, false, false, false, false, false, false, false, true, true, true, true, true, true, true, true, true, true, true, true, true, true, true, true, true, true, true, true, false, false, false, false, false, false, false, false, false, false, true] hP (zD hD rfl) hS rfl (fun _ => rfl) (fun _ => rfl) rfl rfl (Nat.le_of_ble_eq_true rfl) dL_law_1037 (fun r1037 u1037 H locs hu1037 hP hS => ?_)
    obtain ⟨rfl, q1037⟩ := hu1037
    refine lv_istore (lv' := [(5, .int (zI (0))), (0, .ref b0), (1, .ref ss), (2, .ref m0), (3, .ref oa), (4, .int (zI (i)))]) hx hb dL_law_1040 hl (by decide) rfl (fun ls hl => ?_)
    refine lv_aload_n hx hb dL_law_1042 rfl (lv_at hl 3 rfl) ?_
    refine lv_aload_n hx hb dL_law_1043 rfl (lv_at hl 1 rfl) ?_
    refine lv_iload hx hb dL_law_1044 (lv_at hl 5 rfl) ?_
    refine z_iconst hx hb dL_law_1046 ?_
    refine z_iadd hx hb dL_law_1047 ?_
    refine z_sld hx hb hX hbl hbA hS (by omega) hL h_s1 dL_law_1048 ?_
    refine y_wVi (As := [.int (zI (x))]) (rest := []) (fun (u1049 : Nat → Int → Int) => (LW cI cJ cS ss h0 p0 s0 l0 h1 m0 oa b r w o a bs f ps n F P N la cn 1 (u1037 0) (u1037 1) (u1037 2) (u1037 3) sc gf op tb sb f cn 0 hs gp (u1049 0) (u1049 1) (u1049 2) (u1049 3) r2 f2 w2 (zup go 0 (spV f x)))) hx hb hml hown hts hl.1 hc1 (kX7_profileSpeed_ok l D cI cJ cS m0 a cn th hs f e2 v2 d2 t2 x ok hY) (cwV 1 hts gL_law_X7_profileSpeed rfl rfl rfl jX7_profileSpeed ⟨Nat.le_of_ble_eq_true rfl, Nat.le_of_ble_eq_true rfl⟩) hK [false, false, false, false, false, false, false, false, false, false, false, false, false, false, false, false, false, false, false, false, false, false, false, false, false, false, false, false, false, false, false, false, false, false, false, false, false, false, false, false, false, false, false, false, false, false, false, false, false, false, false, false, false, false, false, false, false, false, false, false, false, false, false, false, false, false, false, false, false, false, false, false, false, false, false, false, false, true, true, false, true, true, true, true] hP (zD hD rfl) hS rfl (fun _ => rfl) (fun _ => rfl) 7 0 rfl rfl rfl rfl rfl (Nat.le_of_ble_eq_true rfl) dL_law_1049 (fun r1049 u1049 H locs hu1049 hP hS => ?_)
    subst hu1049
    refine lv_istore (lv' := [(6, .int (zI (spV f x))), (5, .int (zI (0))), (0, .ref b0), (1, .ref ss), (2, .ref m0), (3, .ref oa), (4, .int (zI (i)))]) hx hb dL_law_1052 hl (by decide) rfl (fun ls hl => ?_)
    refine lv_aload_n hx hb dL_law_1054 rfl (lv_at hl 4 rfl) ?_
    refine y_rV (v := 0) (As := []) (rest := []) hx hb hml hown hts hl.1 hc1 (kX7_thrown l D cI cJ cS m0 a cn 0 hs f ) (cwV 0 hts gL_law_X7_thrown rfl rfl rfl jX7_thrown ⟨Nat.le_of_ble_eq_true rfl, Nat.le_of_ble_eq_true rfl⟩) hK [false, false, false, false, false, false, false, false, false, false, false, false, false, false, false, false, false, false, false, false, false, false, false, false, false, false, false, false, false, false, false, false, false, false, false, false, false, false, false, false, false, false, false, false, false, false, false, false, false, false, false, false, false, false, false, false, false, false, false, false, false, false, false, false, false, false, false, false, false, false, false, false, false, false, false, false, false, true] hP (zD hD rfl) rfl 7 0 rfl rfl rfl rfl rfl (Nat.le_of_ble_eq_true rfl) dL_law_1055 ?_
    refine lv_iload hx hb dL_law_1058 (lv_at hl 1 rfl) ?_
    refine z_icmpR 1065 hx hb dL_law_1060 (by decide) ?_
    refine lv_iload hx hb dL_law_1065 (lv_at hl 1 rfl) ?_
    refine z_if_ne (tgt := 1082) hx hb dL_law_1067 (by decide) (by omega) (fun c1067 => ?_) (fun c1067 => ?_)
    · exfalso; omega
    · refine lv_aload_n hx hb dL_law_1070 rfl (lv_at hl 5 rfl) ?_
      refine z_iconst hx hb dL_law_1071 ?_
      refine z_lald hx hb hK hP 87 1 rfl rfl (by omega) (Nat.lt_of_succ_le (Nat.le_of_ble_eq_true rfl)) dL_law_1072 ?_
      refine z_topL (spV f x) (zup_at _ _ _) ?_
      refine lv_iload hx hb dL_law_1073 (lv_at hl 0 rfl) ?_
      refine z_i2l hx hb dL_law_1075 (by omega) ?_
      refine z_lcmpR hx hb dL_law_1076 ?_
      refine z_if_eq (tgt := 1082) hx hb dL_law_1077 (by decide) (by omega) (fun c1077 => ?_) (fun c1077 => ?_)
      · refine lv_goto (tgt := 1700) hx hb dL_law_1082 (by decide) ?_
        refine W.widen (k := cells + 1) (n := slots + 6) (Nat.le_add_right _ _) (Nat.le_add_right _ _) ?_
        exact kk _ _ _ ⟨f, ps, n, F, P, N, la, cn, 1, (u1037 0), (u1037 1), (u1037 2), (u1037 3), sc, gf, op, tb, sb, 0, hs, gp, (u1049 0), (u1049 1), (u1049 2), (u1049 3), r2, f2, w2, (zup go 0 (spV f x)), ok, rep, hla, hcn, (Or.inr rfl), (fun _ => q1037), htr, hh, hP⟩ hS (lv_sub hl [2, 3, 4, 5, 6] rfl)
      · exfalso; omega
  · refine lv_aload_n hx hb dL_law_1029 rfl (lv_at hl 1 rfl) ?_
    refine lv_aload_n hx hb dL_law_1030 rfl (lv_at hl 0 rfl) ?_
    refine lv_iload hx hb dL_law_1031 (lv_at hl 4 rfl) ?_
    refine z_iconst hx hb dL_law_1033 ?_
    refine z_iadd hx hb dL_law_1034 ?_
    refine z_sld hx hb hX hbl hbA hS (by omega) hL h_s1 dL_law_1035 ?_
    refine lv_aload_n hx hb dL_law_1036 rfl (lv_at hl 3 rfl) ?_
    refine y_wSx (As := [.ref ss, .int (zI (x)), .ref oa]) (rest := []) (fun (u1037 : Unit) => (LW cI cJ cS ss h0 p0 s0 l0 h1 m0 oa b r w o a bs f ps n F P N la cn fr ge gv gd gt sc gf op tb sb f cn th hs gp e2 v2 d2 t2 r2 f2 w2 go)) hx hb hml hown hts hl.1 hc2 (nL_profileSpeed l D cI cJ cS ss h0 p0 s0 l0 b f ps n x oa go ok hN hr_x hst) (vx_cwSW 3 hts gL_law_L_profileSpeed rfl rfl rfl jL_profileSpeed.2 ⟨Nat.le_of_ble_eq_true rfl, Nat.le_of_ble_eq_true rfl⟩) hK [true, false, false, false, false, false, false, false, false, false, false, false, false, false, false, false, false, false, false, false, false, false, false, false, false, false, false, false, false, false, false, false, false, false, false, false, false, false, false, false, false, false, false, false, false, false, false, false, false, false, false, false, false, false, false, false, false, false, false, false, false, false, false, false, false, false, true, true, true, true, true, true, true, true, true, true, true, false, false, false, false, false, false, false, false, false, false, true] hP (zD hD rfl) hS hZ hTx rfl (fun _ => rfl) (fun _ => rfl) rfl rfl (Nat.le_of_ble_eq_true rfl) dL_law_1037 (fun r1037 u1037 H locs hu1037 hP hS => ?_)
    subst hu1037
    refine lv_istore (lv' := [(5, .int (zI (1))), (0, .ref b0), (1, .ref ss), (2, .ref m0), (3, .ref oa), (4, .int (zI (i)))]) hx hb dL_law_1040 hl (by decide) rfl (fun ls hl => ?_)
    refine lv_aload_n hx hb dL_law_1042 rfl (lv_at hl 3 rfl) ?_
    refine lv_aload_n hx hb dL_law_1043 rfl (lv_at hl 1 rfl) ?_
    refine lv_iload hx hb dL_law_1044 (lv_at hl 5 rfl) ?_
    refine z_iconst hx hb dL_law_1046 ?_
    refine z_iadd hx hb dL_law_1047 ?_
    refine z_sld hx hb hX hbl hbA hS (by omega) hL h_s1 dL_law_1048 ?_
    refine y_wVi (As := [.int (zI (x))]) (rest := []) (fun (u1049 : Unit) => (LW cI cJ cS ss h0 p0 s0 l0 h1 m0 oa b r w o a bs f ps n F P N la cn fr ge gv gd gt sc gf op tb sb f cn 1 hs gp e2 v2 d2 t2 r2 f2 w2 go)) hx hb hml hown hts hl.1 hc2 (kX7_profileSpeed_no l D cI cJ cS m0 a cn th hs f x ok hN hr_x) (cwV 1 hts gL_law_X7_profileSpeed rfl rfl rfl jX7_profileSpeed ⟨Nat.le_of_ble_eq_true rfl, Nat.le_of_ble_eq_true rfl⟩) hK [false, false, false, false, false, false, false, false, false, false, false, false, false, false, false, false, false, false, false, false, false, false, false, false, false, false, false, false, false, false, false, false, false, false, false, false, false, false, false, false, false, false, false, false, false, false, false, false, false, false, false, false, false, false, false, false, false, false, false, false, false, false, false, false, false, false, false, false, false, false, false, false, false, false, false, false, false, true, true] hP (zD hD rfl) hS rfl (fun _ => rfl) (fun _ => rfl) 7 0 rfl rfl rfl rfl rfl (Nat.le_of_ble_eq_true rfl) dL_law_1049 (fun r1049 u1049 H locs hu1049 hP hS => ?_)
    subst hu1049
    refine lv_istore (lv' := [(6, .int (zI (0))), (5, .int (zI (1))), (0, .ref b0), (1, .ref ss), (2, .ref m0), (3, .ref oa), (4, .int (zI (i)))]) hx hb dL_law_1052 hl (by decide) rfl (fun ls hl => ?_)
    refine lv_aload_n hx hb dL_law_1054 rfl (lv_at hl 4 rfl) ?_
    refine y_rV (v := 1) (As := []) (rest := []) hx hb hml hown hts hl.1 hc2 (kX7_thrown l D cI cJ cS m0 a cn 1 hs f ) (cwV 0 hts gL_law_X7_thrown rfl rfl rfl jX7_thrown ⟨Nat.le_of_ble_eq_true rfl, Nat.le_of_ble_eq_true rfl⟩) hK [false, false, false, false, false, false, false, false, false, false, false, false, false, false, false, false, false, false, false, false, false, false, false, false, false, false, false, false, false, false, false, false, false, false, false, false, false, false, false, false, false, false, false, false, false, false, false, false, false, false, false, false, false, false, false, false, false, false, false, false, false, false, false, false, false, false, false, false, false, false, false, false, false, false, false, false, false, true] hP (zD hD rfl) rfl 7 0 rfl rfl rfl rfl rfl (Nat.le_of_ble_eq_true rfl) dL_law_1055 ?_
    refine lv_iload hx hb dL_law_1058 (lv_at hl 1 rfl) ?_
    refine z_icmpR 1065 hx hb dL_law_1060 (by decide) ?_
    refine lv_iload hx hb dL_law_1065 (lv_at hl 1 rfl) ?_
    refine z_if_ne (tgt := 1082) hx hb dL_law_1067 (by decide) (by omega) (fun c1067 => ?_) (fun c1067 => ?_)
    · refine lv_goto (tgt := 1700) hx hb dL_law_1082 (by decide) ?_
      exact kk _ _ _ ⟨f, ps, n, F, P, N, la, cn, fr, ge, gv, gd, gt, sc, gf, op, tb, sb, 1, hs, gp, e2, v2, d2, t2, r2, f2, w2, go, ok, rep, hla, hcn, hfr0, hp, htr, hh, hP⟩ hS (lv_sub hl [2, 3, 4, 5, 6] rfl)
    · exfalso; omega

set_option maxHeartbeats 4000000 in
set_option maxRecDepth 100000 in
/-- brakingDistance -/
theorem lc_13 {p : Program} {e : Env} {s : State} {m : MethodId} {args : Array Value} {below : List Frame} {meth : Method} {c : Code} {Q : State → Prop} {A : Nat → Prop} {H0 : Heap} (l : Launch) (hst : l.stackTraces = false) (D : va_G) (cI cJ cS : ClassId) (ss h0 p0 s0 l0 h1 m0 oa : Nat) (b r w o a : Nat → Nat) (bs : Nat → Nat → Nat) {b0 L : Nat} {xv : Nat → Int}
    (hx : p.tables.exec = Jvm.exec) (hb : c.code = cL_law) (hml : c.maxLocals = 8) (hown : s.vm.findClass RL = some m.cls) (hts : ∀ w ∈ wsL_law, w.before args s = true) (hK : va_K D vwCl (zT cI cJ cS) s) (hZ : xKs A s H0) (hTx : xTx s) (hX : va_X b0 L (fun j => zI (xv j)) s H0) (hbl : b0 < H0.size) (hbA : ¬ A b0) (hL : L < 2147483648) (hxv : ∀ j : Nat, -2147483648 ≤ xv j ∧ xv j < 2147483648) (hD : va_D A (LW cI cJ cS ss h0 p0 s0 l0 h1 m0 oa b r w o a bs (fun _ => 0) (fun _ => 0) 0 (fun _ _ => 0) (fun _ _ => 0) (fun _ => 0) 0 0 0 (fun _ => 0) (fun _ => 0) (fun _ => 0) (fun _ => 0) 0 (fun _ => 0) (fun _ => 0) (fun _ => 0) (fun _ => 0) (fun _ => 0) 0 0 0 (fun _ => 0) (fun _ => 0) (fun _ => 0) (fun _ => 0) (fun _ => 0) (fun _ => 0) (fun _ => 0) (fun _ => 0) (fun _ => 0))) {H : Heap} {locs : List Loc} {cells slots : Nat} {ls : Array Slot} (i : Int) (hi : 0 ≤ i ∧ i + 4 ≤ (L : Int)) (hI : LInv D cI cJ cS ss h0 p0 s0 l0 h1 m0 oa b r w o a bs H) (hS : va_S A H0 H locs) (hl : lv_has ls 8 [(0, .ref b0), (1, .ref ss), (2, .ref m0), (3, .ref oa), (4, .int (zI (i)))]) (hc2 : cells + 1 ≤ 601024 ∧ slots + 6 ≤ 7293034)
    (kk : ∀ (H1 : Heap) (locs1 : List Loc) (ls1 : Array Slot), LInv D cI cJ cS ss h0 p0 s0 l0 h1 m0 oa b r w o a bs H1 → va_S A H0 H1 locs1 → lv_has ls1 8 [(0, .ref b0), (1, .ref ss), (2, .ref m0), (3, .ref oa), (4, .int (zI (i)))] → W p l e room_1 s m args below meth c H1 locs1 (cells + 1) (slots + 6) Q (F0 m 1700 ls1 [])) : W p l e room_1 s m args below meth c H locs cells slots Q (F0 m 1085 ls []) := by
  obtain ⟨f, ps, n, F, P, N, la, cn, fr, ge, gv, gd, gt, sc, gf, op, tb, sb, th, hs, gp, e2, v2, d2, t2, r2, f2, w2, go, ok, rep, hla, hcn, hfr0, hp, htr, hh, hP⟩ := hI
  obtain ⟨o0, o1, o2, o3, o4, o5, o7, o8, olim, ogrd, obar, oneed, opost⟩ := id ok
  have hc1 : cells ≤ 601024 ∧ slots ≤ 7293034 := ⟨by omega, by omega⟩
  obtain ⟨x, h_s1⟩ : ∃ x : Int, xv (i + 1).toNat = x := ⟨_, rfl⟩
  have hr_x : -2147483648 ≤ x ∧ x < 2147483648 := by rw [← h_s1]; exact hxv _
  rcases Classical.em (0 ≤ x ∧ x ≤ f 0) with hY | hN
  · have hq := brD_b ok hY.1 hY.2
    refine lv_aload_n hx hb dL_law_1085 rfl (lv_at hl 1 rfl) ?_
    refine lv_aload_n hx hb dL_law_1086 rfl (lv_at hl 0 rfl) ?_
    refine lv_iload hx hb dL_law_1087 (lv_at hl 4 rfl) ?_
    refine z_iconst hx hb dL_law_1089 ?_
    refine z_iadd hx hb dL_law_1090 ?_
    refine z_sld hx hb hX hbl hbA hS (by omega) hL h_s1 dL_law_1091 ?_
    refine lv_aload_n hx hb dL_law_1092 rfl (lv_at hl 3 rfl) ?_
    refine y_wSi (As := [.ref ss, .int (zI (x)), .ref oa]) (rest := []) (fun (u1093 : Nat → Int → Int) => (LW cI cJ cS ss h0 p0 s0 l0 h1 m0 oa b r w o a bs f ps n F P N la cn 1 (u1093 0) (u1093 1) (u1093 2) (u1093 3) sc gf op tb sb f cn th hs gp e2 v2 d2 t2 r2 f2 w2 (zup go 0 (brD f x)))) hx hb hml hown hts hl.1 hc1 (kL_brakingDistance_ok l D cI cJ cS ss h0 p0 s0 l0 b f ps n ge gv gd gt fr r x oa go ok hfr0 hp hY) (vx_cwSW 3 hts gL_law_L_brakingDistance rfl rfl rfl jL_brakingDistance.2 ⟨Nat.le_of_ble_eq_true rfl, Nat.le_of_ble_eq_true rfl⟩) hK [true, false, false, false, false, false, false, false, false, false, false, false, false, false, false, false, false, false, false, false, false, false, false, false, false, false, false, false, false, false, false, false, false, false, false, false, false, false, false, false, false, false, false, false, false, false, false, false, false, false, false, false, false, false, false, false, false, true, true, true, true, true, true, true, true, true, true, true, true, true, true, true, true, true, true, true, true, false, false, false, false, false, false, false, false, false, false, true] hP (zD hD rfl) hS rfl (fun _ => rfl) (fun _ => rfl) rfl rfl (Nat.le_of_ble_eq_true rfl) dL_law_1093 (fun r1093 u1093 H locs hu1093 hP hS => ?_)
    obtain ⟨rfl, q1093⟩ := hu1093
    refine lv_istore (lv' := [(5, .int (zI (0))), (0, .ref b0), (1, .ref ss), (2, .ref m0), (3, .ref oa), (4, .int (zI (i)))]) hx hb dL_law_1096 hl (by decide) rfl (fun ls hl => ?_)
    refine lv_aload_n hx hb dL_law_1098 rfl (lv_at hl 3 rfl) ?_
    refine lv_aload_n hx hb dL_law_1099 rfl (lv_at hl 1 rfl) ?_
    refine lv_iload hx hb dL_law_1100 (lv_at hl 5 rfl) ?_
    refine z_iconst hx hb dL_law_1102 ?_
    refine z_iadd hx hb dL_law_1103 ?_
    refine z_sld hx hb hX hbl hbA hS (by omega) hL h_s1 dL_law_1104 ?_
    refine y_wVi (As := [.int (zI (x))]) (rest := []) (fun (u1105 : Nat → Int → Int) => (LW cI cJ cS ss h0 p0 s0 l0 h1 m0 oa b r w o a bs f ps n F P N la cn 1 (u1093 0) (u1093 1) (u1093 2) (u1093 3) sc gf op tb sb f cn 0 hs gp (u1105 0) (u1105 1) (u1105 2) (u1105 3) r2 f2 w2 (zup go 0 (brD f x)))) hx hb hml hown hts hl.1 hc1 (kX7_brakingDistance_ok l D cI cJ cS m0 a cn th hs f e2 v2 d2 t2 x ok hY) (cwV 1 hts gL_law_X7_brakingDistance rfl rfl rfl jX7_brakingDistance ⟨Nat.le_of_ble_eq_true rfl, Nat.le_of_ble_eq_true rfl⟩) hK [false, false, false, false, false, false, false, false, false, false, false, false, false, false, false, false, false, false, false, false, false, false, false, false, false, false, false, false, false, false, false, false, false, false, false, false, false, false, false, false, false, false, false, false, false, false, false, false, false, false, false, false, false, false, false, false, false, false, false, false, false, false, false, false, false, false, false, false, false, false, false, false, false, false, false, false, false, true, true, false, true, true, true, true] hP (zD hD rfl) hS rfl (fun _ => rfl) (fun _ => rfl) 7 0 rfl rfl rfl rfl rfl (Nat.le_of_ble_eq_true rfl) dL_law_1105 (fun r1105 u1105 H locs hu1105 hP hS => ?_)
    subst hu1105
    refine lv_istore (lv' := [(6, .int (zI (brD f x))), (5, .int (zI (0))), (0, .ref b0), (1, .ref ss), (2, .ref m0), (3, .ref oa), (4, .int (zI (i)))]) hx hb dL_law_1108 hl (by decide) rfl (fun ls hl => ?_)
    refine lv_aload_n hx hb dL_law_1110 rfl (lv_at hl 4 rfl) ?_
    refine y_rV (v := 0) (As := []) (rest := []) hx hb hml hown hts hl.1 hc1 (kX7_thrown l D cI cJ cS m0 a cn 0 hs f ) (cwV 0 hts gL_law_X7_thrown rfl rfl rfl jX7_thrown ⟨Nat.le_of_ble_eq_true rfl, Nat.le_of_ble_eq_true rfl⟩) hK [false, false, false, false, false, false, false, false, false, false, false, false, false, false, false, false, false, false, false, false, false, false, false, false, false, false, false, false, false, false, false, false, false, false, false, false, false, false, false, false, false, false, false, false, false, false, false, false, false, false, false, false, false, false, false, false, false, false, false, false, false, false, false, false, false, false, false, false, false, false, false, false, false, false, false, false, false, true] hP (zD hD rfl) rfl 7 0 rfl rfl rfl rfl rfl (Nat.le_of_ble_eq_true rfl) dL_law_1111 ?_
    refine lv_iload hx hb dL_law_1114 (lv_at hl 1 rfl) ?_
    refine z_icmpR 1121 hx hb dL_law_1116 (by decide) ?_
    refine lv_iload hx hb dL_law_1121 (lv_at hl 1 rfl) ?_
    refine z_if_ne (tgt := 1138) hx hb dL_law_1123 (by decide) (by omega) (fun c1123 => ?_) (fun c1123 => ?_)
    · exfalso; omega
    · refine lv_aload_n hx hb dL_law_1126 rfl (lv_at hl 5 rfl) ?_
      refine z_iconst hx hb dL_law_1127 ?_
      refine z_lald hx hb hK hP 87 1 rfl rfl (by omega) (Nat.lt_of_succ_le (Nat.le_of_ble_eq_true rfl)) dL_law_1128 ?_
      refine z_topL (brD f x) (zup_at _ _ _) ?_
      refine lv_iload hx hb dL_law_1129 (lv_at hl 0 rfl) ?_
      refine z_i2l hx hb dL_law_1131 (by omega) ?_
      refine z_lcmpR hx hb dL_law_1132 ?_
      refine z_if_eq (tgt := 1138) hx hb dL_law_1133 (by decide) (by omega) (fun c1133 => ?_) (fun c1133 => ?_)
      · refine lv_goto (tgt := 1700) hx hb dL_law_1138 (by decide) ?_
        refine W.widen (k := cells + 1) (n := slots + 6) (Nat.le_add_right _ _) (Nat.le_add_right _ _) ?_
        exact kk _ _ _ ⟨f, ps, n, F, P, N, la, cn, 1, (u1093 0), (u1093 1), (u1093 2), (u1093 3), sc, gf, op, tb, sb, 0, hs, gp, (u1105 0), (u1105 1), (u1105 2), (u1105 3), r2, f2, w2, (zup go 0 (brD f x)), ok, rep, hla, hcn, (Or.inr rfl), (fun _ => q1093), htr, hh, hP⟩ hS (lv_sub hl [2, 3, 4, 5, 6] rfl)
      · exfalso; omega
  · refine lv_aload_n hx hb dL_law_1085 rfl (lv_at hl 1 rfl) ?_
    refine lv_aload_n hx hb dL_law_1086 rfl (lv_at hl 0 rfl) ?_
    refine lv_iload hx hb dL_law_1087 (lv_at hl 4 rfl) ?_
    refine z_iconst hx hb dL_law_1089 ?_
    refine z_iadd hx hb dL_law_1090 ?_
    refine z_sld hx hb hX hbl hbA hS (by omega) hL h_s1 dL_law_1091 ?_
    refine lv_aload_n hx hb dL_law_1092 rfl (lv_at hl 3 rfl) ?_
    refine y_wSx (As := [.ref ss, .int (zI (x)), .ref oa]) (rest := []) (fun (u1093 : Unit) => (LW cI cJ cS ss h0 p0 s0 l0 h1 m0 oa b r w o a bs f ps n F P N la cn fr ge gv gd gt sc gf op tb sb f cn th hs gp e2 v2 d2 t2 r2 f2 w2 go)) hx hb hml hown hts hl.1 hc2 (nL_brakingDistance l D cI cJ cS ss h0 p0 s0 l0 b f ps n x oa go ok hN hr_x hst) (vx_cwSW 3 hts gL_law_L_brakingDistance rfl rfl rfl jL_brakingDistance.2 ⟨Nat.le_of_ble_eq_true rfl, Nat.le_of_ble_eq_true rfl⟩) hK [true, false, false, false, false, false, false, false, false, false, false, false, false, false, false, false, false, false, false, false, false, false, false, false, false, false, false, false, false, false, false, false, false, false, false, false, false, false, false, false, false, false, false, false, false, false, false, false, false, false, false, false, false, false, false, false, false, false, false, false, false, false, false, false, false, false, true, true, true, true, true, true, true, true, true, true, true, false, false, false, false, false, false, false, false, false, false, true] hP (zD hD rfl) hS hZ hTx rfl (fun _ => rfl) (fun _ => rfl) rfl rfl (Nat.le_of_ble_eq_true rfl) dL_law_1093 (fun r1093 u1093 H locs hu1093 hP hS => ?_)
    subst hu1093
    refine lv_istore (lv' := [(5, .int (zI (1))), (0, .ref b0), (1, .ref ss), (2, .ref m0), (3, .ref oa), (4, .int (zI (i)))]) hx hb dL_law_1096 hl (by decide) rfl (fun ls hl => ?_)
    refine lv_aload_n hx hb dL_law_1098 rfl (lv_at hl 3 rfl) ?_
    refine lv_aload_n hx hb dL_law_1099 rfl (lv_at hl 1 rfl) ?_
    refine lv_iload hx hb dL_law_1100 (lv_at hl 5 rfl) ?_
    refine z_iconst hx hb dL_law_1102 ?_
    refine z_iadd hx hb dL_law_1103 ?_
    refine z_sld hx hb hX hbl hbA hS (by omega) hL h_s1 dL_law_1104 ?_
    refine y_wVi (As := [.int (zI (x))]) (rest := []) (fun (u1105 : Unit) => (LW cI cJ cS ss h0 p0 s0 l0 h1 m0 oa b r w o a bs f ps n F P N la cn fr ge gv gd gt sc gf op tb sb f cn 1 hs gp e2 v2 d2 t2 r2 f2 w2 go)) hx hb hml hown hts hl.1 hc2 (kX7_brakingDistance_no l D cI cJ cS m0 a cn th hs f x ok hN hr_x) (cwV 1 hts gL_law_X7_brakingDistance rfl rfl rfl jX7_brakingDistance ⟨Nat.le_of_ble_eq_true rfl, Nat.le_of_ble_eq_true rfl⟩) hK [false, false, false, false, false, false, false, false, false, false, false, false, false, false, false, false, false, false, false, false, false, false, false, false, false, false, false, false, false, false, false, false, false, false, false, false, false, false, false, false, false, false, false, false, false, false, false, false, false, false, false, false, false, false, false, false, false, false, false, false, false, false, false, false, false, false, false, false, false, false, false, false, false, false, false, false, false, true, true] hP (zD hD rfl) hS rfl (fun _ => rfl) (fun _ => rfl) 7 0 rfl rfl rfl rfl rfl (Nat.le_of_ble_eq_true rfl) dL_law_1105 (fun r1105 u1105 H locs hu1105 hP hS => ?_)
    subst hu1105
    refine lv_istore (lv' := [(6, .int (zI (0))), (5, .int (zI (1))), (0, .ref b0), (1, .ref ss), (2, .ref m0), (3, .ref oa), (4, .int (zI (i)))]) hx hb dL_law_1108 hl (by decide) rfl (fun ls hl => ?_)
    refine lv_aload_n hx hb dL_law_1110 rfl (lv_at hl 4 rfl) ?_
    refine y_rV (v := 1) (As := []) (rest := []) hx hb hml hown hts hl.1 hc2 (kX7_thrown l D cI cJ cS m0 a cn 1 hs f ) (cwV 0 hts gL_law_X7_thrown rfl rfl rfl jX7_thrown ⟨Nat.le_of_ble_eq_true rfl, Nat.le_of_ble_eq_true rfl⟩) hK [false, false, false, false, false, false, false, false, false, false, false, false, false, false, false, false, false, false, false, false, false, false, false, false, false, false, false, false, false, false, false, false, false, false, false, false, false, false, false, false, false, false, false, false, false, false, false, false, false, false, false, false, false, false, false, false, false, false, false, false, false, false, false, false, false, false, false, false, false, false, false, false, false, false, false, false, false, true] hP (zD hD rfl) rfl 7 0 rfl rfl rfl rfl rfl (Nat.le_of_ble_eq_true rfl) dL_law_1111 ?_
    refine lv_iload hx hb dL_law_1114 (lv_at hl 1 rfl) ?_
    refine z_icmpR 1121 hx hb dL_law_1116 (by decide) ?_
    refine lv_iload hx hb dL_law_1121 (lv_at hl 1 rfl) ?_
    refine z_if_ne (tgt := 1138) hx hb dL_law_1123 (by decide) (by omega) (fun c1123 => ?_) (fun c1123 => ?_)
    · refine lv_goto (tgt := 1700) hx hb dL_law_1138 (by decide) ?_
      exact kk _ _ _ ⟨f, ps, n, F, P, N, la, cn, fr, ge, gv, gd, gt, sc, gf, op, tb, sb, 1, hs, gp, e2, v2, d2, t2, r2, f2, w2, go, ok, rep, hla, hcn, hfr0, hp, htr, hh, hP⟩ hS (lv_sub hl [2, 3, 4, 5, 6] rfl)
    · exfalso; omega

set_option maxHeartbeats 4000000 in
set_option maxRecDepth 100000 in
/-- travelTime -/
theorem lc_14 {p : Program} {e : Env} {s : State} {m : MethodId} {args : Array Value} {below : List Frame} {meth : Method} {c : Code} {Q : State → Prop} {A : Nat → Prop} {H0 : Heap} (l : Launch) (hst : l.stackTraces = false) (D : va_G) (cI cJ cS : ClassId) (ss h0 p0 s0 l0 h1 m0 oa : Nat) (b r w o a : Nat → Nat) (bs : Nat → Nat → Nat) {b0 L : Nat} {xv : Nat → Int}
    (hx : p.tables.exec = Jvm.exec) (hb : c.code = cL_law) (hml : c.maxLocals = 8) (hown : s.vm.findClass RL = some m.cls) (hts : ∀ w ∈ wsL_law, w.before args s = true) (hK : va_K D vwCl (zT cI cJ cS) s) (hZ : xKs A s H0) (hTx : xTx s) (hX : va_X b0 L (fun j => zI (xv j)) s H0) (hbl : b0 < H0.size) (hbA : ¬ A b0) (hL : L < 2147483648) (hxv : ∀ j : Nat, -2147483648 ≤ xv j ∧ xv j < 2147483648) (hD : va_D A (LW cI cJ cS ss h0 p0 s0 l0 h1 m0 oa b r w o a bs (fun _ => 0) (fun _ => 0) 0 (fun _ _ => 0) (fun _ _ => 0) (fun _ => 0) 0 0 0 (fun _ => 0) (fun _ => 0) (fun _ => 0) (fun _ => 0) 0 (fun _ => 0) (fun _ => 0) (fun _ => 0) (fun _ => 0) (fun _ => 0) 0 0 0 (fun _ => 0) (fun _ => 0) (fun _ => 0) (fun _ => 0) (fun _ => 0) (fun _ => 0) (fun _ => 0) (fun _ => 0) (fun _ => 0))) {H : Heap} {locs : List Loc} {cells slots : Nat} {ls : Array Slot} (i : Int) (hi : 0 ≤ i ∧ i + 4 ≤ (L : Int)) (hI : LInv D cI cJ cS ss h0 p0 s0 l0 h1 m0 oa b r w o a bs H) (hS : va_S A H0 H locs) (hl : lv_has ls 8 [(0, .ref b0), (1, .ref ss), (2, .ref m0), (3, .ref oa), (4, .int (zI (i)))]) (hc2 : cells + 1 ≤ 601024 ∧ slots + 6 ≤ 7293034)
    (kk : ∀ (H1 : Heap) (locs1 : List Loc) (ls1 : Array Slot), LInv D cI cJ cS ss h0 p0 s0 l0 h1 m0 oa b r w o a bs H1 → va_S A H0 H1 locs1 → lv_has ls1 8 [(0, .ref b0), (1, .ref ss), (2, .ref m0), (3, .ref oa), (4, .int (zI (i)))] → W p l e room_1 s m args below meth c H1 locs1 (cells + 1) (slots + 6) Q (F0 m 1700 ls1 [])) : W p l e room_1 s m args below meth c H locs cells slots Q (F0 m 1141 ls []) := by
  obtain ⟨f, ps, n, F, P, N, la, cn, fr, ge, gv, gd, gt, sc, gf, op, tb, sb, th, hs, gp, e2, v2, d2, t2, r2, f2, w2, go, ok, rep, hla, hcn, hfr0, hp, htr, hh, hP⟩ := hI
  obtain ⟨o0, o1, o2, o3, o4, o5, o7, o8, olim, ogrd, obar, oneed, opost⟩ := id ok
  have hc1 : cells ≤ 601024 ∧ slots ≤ 7293034 := ⟨by omega, by omega⟩
  obtain ⟨x, h_s1⟩ : ∃ x : Int, xv (i + 1).toNat = x := ⟨_, rfl⟩
  have hr_x : -2147483648 ≤ x ∧ x < 2147483648 := by rw [← h_s1]; exact hxv _
  obtain ⟨z, h_s2⟩ : ∃ z : Int, xv (i + 2).toNat = z := ⟨_, rfl⟩
  have hr_z : -2147483648 ≤ z ∧ z < 2147483648 := by rw [← h_s2]; exact hxv _
  rcases Classical.em (0 ≤ x ∧ x ≤ z ∧ z ≤ f 0) with hY | hN
  · have hq := tiT_b ok x hY.1 (by omega)
    have hq2 := tiT_b ok z (by omega) hY.2.2
    refine lv_aload_n hx hb dL_law_1141 rfl (lv_at hl 1 rfl) ?_
    refine lv_aload_n hx hb dL_law_1142 rfl (lv_at hl 0 rfl) ?_
    refine lv_iload hx hb dL_law_1143 (lv_at hl 4 rfl) ?_
    refine z_iconst hx hb dL_law_1145 ?_
    refine z_iadd hx hb dL_law_1146 ?_
    refine z_sld hx hb hX hbl hbA hS (by omega) hL h_s1 dL_law_1147 ?_
    refine lv_aload_n hx hb dL_law_1148 rfl (lv_at hl 0 rfl) ?_
    refine lv_iload hx hb dL_law_1149 (lv_at hl 4 rfl) ?_
    refine z_iconst hx hb dL_law_1151 ?_
    refine z_iadd hx hb dL_law_1152 ?_
    refine z_sld hx hb hX hbl hbA hS (by omega) hL h_s2 dL_law_1153 ?_
    refine lv_aload_n hx hb dL_law_1154 rfl (lv_at hl 3 rfl) ?_
    refine y_wSi (As := [.ref ss, .int (zI (x)), .int (zI (z)), .ref oa]) (rest := []) (fun (u1155 : Nat → Int → Int) => (LW cI cJ cS ss h0 p0 s0 l0 h1 m0 oa b r w o a bs f ps n F P N la cn 1 (u1155 0) (u1155 1) (u1155 2) (u1155 3) sc gf op tb sb f cn th hs gp e2 v2 d2 t2 r2 f2 w2 (zup go 0 (tiT f z - tiT f x)))) hx hb hml hown hts hl.1 hc1 (kL_travelTime_ok l D cI cJ cS ss h0 p0 s0 l0 b f ps n ge gv gd gt fr r x z oa go ok hfr0 hp hY) (vx_cwSW 4 hts gL_law_L_travelTime rfl rfl rfl jL_travelTime.2 ⟨Nat.le_of_ble_eq_true rfl, Nat.le_of_ble_eq_true rfl⟩) hK [true, false, false, false, false, false, false, false, false, false, false, false, false, false, false, false, false, false, false, false, false, false, false, false, false, false, false, false, false, false, false, false, false, false, false, false, false, false, false, false, false, false, false, false, false, false, false, false, false, false, false, false, false, false, false, false, false, true, true, true, true, true, true, true, true, true, true, true, true, true, true, true, true, true, true, true, true, false, false, false, false, false, false, false, false, false, false, true] hP (zD hD rfl) hS rfl (fun _ => rfl) (fun _ => rfl) rfl rfl (Nat.le_of_ble_eq_true rfl) dL_law_1155 (fun r1155 u1155 H locs hu1155 hP hS => ?_)
    obtain ⟨rfl, q1155⟩ := hu1155
    refine lv_istore (lv' := [(5, .int (zI (0))), (0, .ref b0), (1, .ref ss), (2, .ref m0), (3, .ref oa), (4, .int (zI (i)))]) hx hb dL_law_1158 hl (by decide) rfl (fun ls hl => ?_)
    refine lv_aload_n hx hb dL_law_1160 rfl (lv_at hl 3 rfl) ?_
    refine lv_aload_n hx hb dL_law_1161 rfl (lv_at hl 1 rfl) ?_
    refine lv_iload hx hb dL_law_1162 (lv_at hl 5 rfl) ?_
    refine z_iconst hx hb dL_law_1164 ?_
    refine z_iadd hx hb dL_law_1165 ?_
    refine z_sld hx hb hX hbl hbA hS (by omega) hL h_s1 dL_law_1166 ?_
    refine lv_aload_n hx hb dL_law_1167 rfl (lv_at hl 1 rfl) ?_
    refine lv_iload hx hb dL_law_1168 (lv_at hl 5 rfl) ?_
    refine z_iconst hx hb dL_law_1170 ?_
    refine z_iadd hx hb dL_law_1171 ?_
    refine z_sld hx hb hX hbl hbA hS (by omega) hL h_s2 dL_law_1172 ?_
    refine y_wVi (As := [.int (zI (x)), .int (zI (z))]) (rest := []) (fun (u1173 : Nat → Int → Int) => (LW cI cJ cS ss h0 p0 s0 l0 h1 m0 oa b r w o a bs f ps n F P N la cn 1 (u1155 0) (u1155 1) (u1155 2) (u1155 3) sc gf op tb sb f cn 0 hs gp (u1173 0) (u1173 1) (u1173 2) (u1173 3) r2 f2 w2 (zup go 0 (tiT f z - tiT f x)))) hx hb hml hown hts hl.1 hc1 (kX7_travelTime_ok l D cI cJ cS m0 a cn th hs f e2 v2 d2 t2 x z ok hY) (cwV 2 hts gL_law_X7_travelTime rfl rfl rfl jX7_travelTime ⟨Nat.le_of_ble_eq_true rfl, Nat.le_of_ble_eq_true rfl⟩) hK [false, false, false, false, false, false, false, false, false, false, false, false, false, false, false, false, false, false, false, false, false, false, false, false, false, false, false, false, false, false, false, false, false, false, false, false, false, false, false, false, false, false, false, false, false, false, false, false, false, false, false, false, false, false, false, false, false, false, false, false, false, false, false, false, false, false, false, false, false, false, false, false, false, false, false, false, false, true, true, false, true, true, true, true] hP (zD hD rfl) hS rfl (fun _ => rfl) (fun _ => rfl) 7 0 rfl rfl rfl rfl rfl (Nat.le_of_ble_eq_true rfl) dL_law_1173 (fun r1173 u1173 H locs hu1173 hP hS => ?_)
    subst hu1173
    refine lv_istore (lv' := [(6, .int (zI (tiT f z - tiT f x))), (5, .int (zI (0))), (0, .ref b0), (1, .ref ss), (2, .ref m0), (3, .ref oa), (4, .int (zI (i)))]) hx hb dL_law_1176 hl (by decide) rfl (fun ls hl => ?_)
    refine lv_aload_n hx hb dL_law_1178 rfl (lv_at hl 4 rfl) ?_
    refine y_rV (v := 0) (As := []) (rest := []) hx hb hml hown hts hl.1 hc1 (kX7_thrown l D cI cJ cS m0 a cn 0 hs f ) (cwV 0 hts gL_law_X7_thrown rfl rfl rfl jX7_thrown ⟨Nat.le_of_ble_eq_true rfl, Nat.le_of_ble_eq_true rfl⟩) hK [false, false, false, false, false, false, false, false, false, false, false, false, false, false, false, false, false, false, false, false, false, false, false, false, false, false, false, false, false, false, false, false, false, false, false, false, false, false, false, false, false, false, false, false, false, false, false, false, false, false, false, false, false, false, false, false, false, false, false, false, false, false, false, false, false, false, false, false, false, false, false, false, false, false, false, false, false, true] hP (zD hD rfl) rfl 7 0 rfl rfl rfl rfl rfl (Nat.le_of_ble_eq_true rfl) dL_law_1179 ?_
    refine lv_iload hx hb dL_law_1182 (lv_at hl 1 rfl) ?_
    refine z_icmpR 1189 hx hb dL_law_1184 (by decide) ?_
    refine lv_iload hx hb dL_law_1189 (lv_at hl 1 rfl) ?_
    refine z_if_ne (tgt := 1206) hx hb dL_law_1191 (by decide) (by omega) (fun c1191 => ?_) (fun c1191 => ?_)
    · exfalso; omega
    · refine lv_aload_n hx hb dL_law_1194 rfl (lv_at hl 5 rfl) ?_
      refine z_iconst hx hb dL_law_1195 ?_
      refine z_lald hx hb hK hP 87 1 rfl rfl (by omega) (Nat.lt_of_succ_le (Nat.le_of_ble_eq_true rfl)) dL_law_1196 ?_
      refine z_topL (tiT f z - tiT f x) (zup_at _ _ _) ?_
      refine lv_iload hx hb dL_law_1197 (lv_at hl 0 rfl) ?_
      refine z_i2l hx hb dL_law_1199 (by omega) ?_
      refine z_lcmpR hx hb dL_law_1200 ?_
      refine z_if_eq (tgt := 1206) hx hb dL_law_1201 (by decide) (by omega) (fun c1201 => ?_) (fun c1201 => ?_)
      · refine lv_goto (tgt := 1700) hx hb dL_law_1206 (by decide) ?_
        refine W.widen (k := cells + 1) (n := slots + 6) (Nat.le_add_right _ _) (Nat.le_add_right _ _) ?_
        exact kk _ _ _ ⟨f, ps, n, F, P, N, la, cn, 1, (u1155 0), (u1155 1), (u1155 2), (u1155 3), sc, gf, op, tb, sb, 0, hs, gp, (u1173 0), (u1173 1), (u1173 2), (u1173 3), r2, f2, w2, (zup go 0 (tiT f z - tiT f x)), ok, rep, hla, hcn, (Or.inr rfl), (fun _ => q1155), htr, hh, hP⟩ hS (lv_sub hl [2, 3, 4, 5, 6] rfl)
      · exfalso; omega
  · refine lv_aload_n hx hb dL_law_1141 rfl (lv_at hl 1 rfl) ?_
    refine lv_aload_n hx hb dL_law_1142 rfl (lv_at hl 0 rfl) ?_
    refine lv_iload hx hb dL_law_1143 (lv_at hl 4 rfl) ?_
    refine z_iconst hx hb dL_law_1145 ?_
    refine z_iadd hx hb dL_law_1146 ?_
    refine z_sld hx hb hX hbl hbA hS (by omega) hL h_s1 dL_law_1147 ?_
    refine lv_aload_n hx hb dL_law_1148 rfl (lv_at hl 0 rfl) ?_
    refine lv_iload hx hb dL_law_1149 (lv_at hl 4 rfl) ?_
    refine z_iconst hx hb dL_law_1151 ?_
    refine z_iadd hx hb dL_law_1152 ?_
    refine z_sld hx hb hX hbl hbA hS (by omega) hL h_s2 dL_law_1153 ?_
    refine lv_aload_n hx hb dL_law_1154 rfl (lv_at hl 3 rfl) ?_
    refine y_wSx (As := [.ref ss, .int (zI (x)), .int (zI (z)), .ref oa]) (rest := []) (fun (u1155 : Unit) => (LW cI cJ cS ss h0 p0 s0 l0 h1 m0 oa b r w o a bs f ps n F P N la cn fr ge gv gd gt sc gf op tb sb f cn th hs gp e2 v2 d2 t2 r2 f2 w2 go)) hx hb hml hown hts hl.1 hc2 (nL_travelTime l D cI cJ cS ss h0 p0 s0 l0 b f ps n x z oa go ok hN hr_x hr_z hst) (vx_cwSW 4 hts gL_law_L_travelTime rfl rfl rfl jL_travelTime.2 ⟨Nat.le_of_ble_eq_true rfl, Nat.le_of_ble_eq_true rfl⟩) hK [true, false, false, false, false, false, false, false, false, false, false, false, false, false, false, false, false, false, false, false, false, false, false, false, false, false, false, false, false, false, false, false, false, false, false, false, false, false, false, false, false, false, false, false, false, false, false, false, false, false, false, false, false, false, false, false, false, false, false, false, false, false, false, false, false, false, true, true, true, true, true, true, true, true, true, true, true, false, false, false, false, false, false, false, false, false, false, true] hP (zD hD rfl) hS hZ hTx rfl (fun _ => rfl) (fun _ => rfl) rfl rfl (Nat.le_of_ble_eq_true rfl) dL_law_1155 (fun r1155 u1155 H locs hu1155 hP hS => ?_)
    subst hu1155
    refine lv_istore (lv' := [(5, .int (zI (1))), (0, .ref b0), (1, .ref ss), (2, .ref m0), (3, .ref oa), (4, .int (zI (i)))]) hx hb dL_law_1158 hl (by decide) rfl (fun ls hl => ?_)
    refine lv_aload_n hx hb dL_law_1160 rfl (lv_at hl 3 rfl) ?_
    refine lv_aload_n hx hb dL_law_1161 rfl (lv_at hl 1 rfl) ?_
    refine lv_iload hx hb dL_law_1162 (lv_at hl 5 rfl) ?_
    refine z_iconst hx hb dL_law_1164 ?_
    refine z_iadd hx hb dL_law_1165 ?_
    refine z_sld hx hb hX hbl hbA hS (by omega) hL h_s1 dL_law_1166 ?_
    refine lv_aload_n hx hb dL_law_1167 rfl (lv_at hl 1 rfl) ?_
    refine lv_iload hx hb dL_law_1168 (lv_at hl 5 rfl) ?_
    refine z_iconst hx hb dL_law_1170 ?_
    refine z_iadd hx hb dL_law_1171 ?_
    refine z_sld hx hb hX hbl hbA hS (by omega) hL h_s2 dL_law_1172 ?_
    refine y_wVi (As := [.int (zI (x)), .int (zI (z))]) (rest := []) (fun (u1173 : Unit) => (LW cI cJ cS ss h0 p0 s0 l0 h1 m0 oa b r w o a bs f ps n F P N la cn fr ge gv gd gt sc gf op tb sb f cn 1 hs gp e2 v2 d2 t2 r2 f2 w2 go)) hx hb hml hown hts hl.1 hc2 (kX7_travelTime_no l D cI cJ cS m0 a cn th hs f x z ok hN hr_x hr_z) (cwV 2 hts gL_law_X7_travelTime rfl rfl rfl jX7_travelTime ⟨Nat.le_of_ble_eq_true rfl, Nat.le_of_ble_eq_true rfl⟩) hK [false, false, false, false, false, false, false, false, false, false, false, false, false, false, false, false, false, false, false, false, false, false, false, false, false, false, false, false, false, false, false, false, false, false, false, false, false, false, false, false, false, false, false, false, false, false, false, false, false, false, false, false, false, false, false, false, false, false, false, false, false, false, false, false, false, false, false, false, false, false, false, false, false, false, false, false, false, true, true] hP (zD hD rfl) hS rfl (fun _ => rfl) (fun _ => rfl) 7 0 rfl rfl rfl rfl rfl (Nat.le_of_ble_eq_true rfl) dL_law_1173 (fun r1173 u1173 H locs hu1173 hP hS => ?_)
    subst hu1173
    refine lv_istore (lv' := [(6, .int (zI (0))), (5, .int (zI (1))), (0, .ref b0), (1, .ref ss), (2, .ref m0), (3, .ref oa), (4, .int (zI (i)))]) hx hb dL_law_1176 hl (by decide) rfl (fun ls hl => ?_)
    refine lv_aload_n hx hb dL_law_1178 rfl (lv_at hl 4 rfl) ?_
    refine y_rV (v := 1) (As := []) (rest := []) hx hb hml hown hts hl.1 hc2 (kX7_thrown l D cI cJ cS m0 a cn 1 hs f ) (cwV 0 hts gL_law_X7_thrown rfl rfl rfl jX7_thrown ⟨Nat.le_of_ble_eq_true rfl, Nat.le_of_ble_eq_true rfl⟩) hK [false, false, false, false, false, false, false, false, false, false, false, false, false, false, false, false, false, false, false, false, false, false, false, false, false, false, false, false, false, false, false, false, false, false, false, false, false, false, false, false, false, false, false, false, false, false, false, false, false, false, false, false, false, false, false, false, false, false, false, false, false, false, false, false, false, false, false, false, false, false, false, false, false, false, false, false, false, true] hP (zD hD rfl) rfl 7 0 rfl rfl rfl rfl rfl (Nat.le_of_ble_eq_true rfl) dL_law_1179 ?_
    refine lv_iload hx hb dL_law_1182 (lv_at hl 1 rfl) ?_
    refine z_icmpR 1189 hx hb dL_law_1184 (by decide) ?_
    refine lv_iload hx hb dL_law_1189 (lv_at hl 1 rfl) ?_
    refine z_if_ne (tgt := 1206) hx hb dL_law_1191 (by decide) (by omega) (fun c1191 => ?_) (fun c1191 => ?_)
    · refine lv_goto (tgt := 1700) hx hb dL_law_1206 (by decide) ?_
      exact kk _ _ _ ⟨f, ps, n, F, P, N, la, cn, fr, ge, gv, gd, gt, sc, gf, op, tb, sb, 1, hs, gp, e2, v2, d2, t2, r2, f2, w2, go, ok, rep, hla, hcn, hfr0, hp, htr, hh, hP⟩ hS (lv_sub hl [2, 3, 4, 5, 6] rfl)
    · exfalso; omega
