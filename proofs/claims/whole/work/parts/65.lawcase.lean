set_option maxHeartbeats 4000000 in
set_option maxRecDepth 100000 in
/-- setTrain -/
theorem lc_5 {p : Program} {e : Env} {s : State} {m : MethodId} {args : Array Value} {below : List Frame} {meth : Method} {c : Code} {Q : State → Prop} {A : Nat → Prop} {H0 : Heap} (l : Launch) (hst : l.stackTraces = false) (D : va_G) (cI cJ cS : ClassId) (ss h0 p0 s0 l0 h1 m0 oa : Nat) (b r w o a : Nat → Nat) (bs : Nat → Nat → Nat) {b0 L : Nat} {xv : Nat → Int}
    (hx : p.tables.exec = Jvm.exec) (hb : c.code = cL_law) (hml : c.maxLocals = 8) (hown : s.vm.findClass RL = some m.cls) (hts : ∀ w ∈ wsL_law, w.before args s = true) (hK : va_K D vwCl (zT cI cJ cS) s) (hZ : xKs A s H0) (hTx : xTx s) (hX : va_X b0 L (fun j => zI (xv j)) s H0) (hbl : b0 < H0.size) (hbA : ¬ A b0) (hL : L < 2147483648) (hxv : ∀ j : Nat, -2147483648 ≤ xv j ∧ xv j < 2147483648) (hD : va_D A (LW cI cJ cS ss h0 p0 s0 l0 h1 m0 oa b r w o a bs (fun _ => 0) (fun _ => 0) 0 (fun _ _ => 0) (fun _ _ => 0) (fun _ => 0) 0 0 0 (fun _ => 0) (fun _ => 0) (fun _ => 0) (fun _ => 0) 0 (fun _ => 0) (fun _ => 0) (fun _ => 0) (fun _ => 0) (fun _ => 0) 0 0 0 (fun _ => 0) (fun _ => 0) (fun _ => 0) (fun _ => 0) (fun _ => 0) (fun _ => 0) (fun _ => 0) (fun _ => 0) (fun _ => 0))) {H : Heap} {locs : List Loc} {cells slots : Nat} {ls : Array Slot} (i : Int) (hi : 0 ≤ i ∧ i + 4 ≤ (L : Int)) (hI : LInv D cI cJ cS ss h0 p0 s0 l0 h1 m0 oa b r w o a bs H) (hS : va_S A H0 H locs) (hl : lv_has ls 8 [(0, .ref b0), (1, .ref ss), (2, .ref m0), (3, .ref oa), (4, .int (zI (i)))]) (hc2 : cells + 1 ≤ 601024 ∧ slots + 6 ≤ 7293034)
    (kk : ∀ (H1 : Heap) (locs1 : List Loc) (ls1 : Array Slot), LInv D cI cJ cS ss h0 p0 s0 l0 h1 m0 oa b r w o a bs H1 → va_S A H0 H1 locs1 → lv_has ls1 8 [(0, .ref b0), (1, .ref ss), (2, .ref m0), (3, .ref oa), (4, .int (zI (i)))] → W p l e room_1 s m args below meth c H1 locs1 (cells + 1) (slots + 6) Q (F0 m 1700 ls1 [])) : W p l e room_1 s m args below meth c H locs cells slots Q (F0 m 571 ls []) := by
  obtain ⟨f, ps, n, F, P, N, la, cn, fr, ge, gv, gd, gt, sc, gf, op, tb, sb, th, hs, gp, e2, v2, d2, t2, r2, f2, w2, go, ok, rep, hla, hcn, hfr0, hp, htr, hh, hP⟩ := hI
  obtain ⟨o0, o1, o2, o3, o4, o5, o7, o8, olim, ogrd, obar, oneed, opost⟩ := id ok
  have hc1 : cells ≤ 601024 ∧ slots ≤ 7293034 := ⟨by omega, by omega⟩
  obtain ⟨x, h_s1⟩ : ∃ x : Int, xv (i + 1).toNat = x := ⟨_, rfl⟩
  have hr_x : -2147483648 ≤ x ∧ x < 2147483648 := by rw [← h_s1]; exact hxv _
  obtain ⟨y, h_s2⟩ : ∃ y : Int, xv (i + 2).toNat = y := ⟨_, rfl⟩
  have hr_y : -2147483648 ≤ y ∧ y < 2147483648 := by rw [← h_s2]; exact hxv _
  obtain ⟨z, h_s3⟩ : ∃ z : Int, xv (i + 3).toNat = z := ⟨_, rfl⟩
  have hr_z : -2147483648 ≤ z ∧ z < 2147483648 := by rw [← h_s3]; exact hxv _
  rcases Classical.em (50 ≤ x ∧ x ≤ 200 ∧ 0 ≤ y ∧ y ≤ 100 ∧ 1 ≤ z ∧ z ≤ 20) with hY | hN
  · refine lv_aload_n hx hb dL_law_571 rfl (lv_at hl 1 rfl) ?_
    refine lv_aload_n hx hb dL_law_572 rfl (lv_at hl 0 rfl) ?_
    refine lv_iload hx hb dL_law_573 (lv_at hl 4 rfl) ?_
    refine z_iconst hx hb dL_law_575 ?_
    refine z_iadd hx hb dL_law_576 ?_
    refine z_sld hx hb hX hbl hbA hS (by omega) hL h_s1 dL_law_577 ?_
    refine lv_aload_n hx hb dL_law_578 rfl (lv_at hl 0 rfl) ?_
    refine lv_iload hx hb dL_law_579 (lv_at hl 4 rfl) ?_
    refine z_iconst hx hb dL_law_581 ?_
    refine z_iadd hx hb dL_law_582 ?_
    refine z_sld hx hb hX hbl hbA hS (by omega) hL h_s2 dL_law_583 ?_
    refine lv_aload_n hx hb dL_law_584 rfl (lv_at hl 0 rfl) ?_
    refine lv_iload hx hb dL_law_585 (lv_at hl 4 rfl) ?_
    refine z_iconst hx hb dL_law_587 ?_
    refine z_iadd hx hb dL_law_588 ?_
    refine z_sld hx hb hX hbl hbA hS (by omega) hL h_s3 dL_law_589 ?_
    refine lv_aload_n hx hb dL_law_590 rfl (lv_at hl 3 rfl) ?_
    refine y_wSi (As := [.ref ss, .int (zI (x)), .int (zI (y)), .int (zI (z)), .ref oa]) (rest := []) (fun (u591 : Unit) => (LW cI cJ cS ss h0 p0 s0 l0 h1 m0 oa b r w o a bs (zup (zup (zup f 1 x) 2 y) 3 z) ps n (upS F (nxS la) f) (upS P (nxS la) ps) (upS N (nxS la) n) (nxS la) (cnS cn) 0 ge gv gd gt sc gf op tb sb f cn th hs gp e2 v2 d2 t2 r2 f2 w2 (zup go 0 (f 1)))) hx hb hml hown hts hl.1 hc1 (kL_setTrain_ok l D cI cJ cS ss h0 p0 s0 l0 b f ps n h1 bs F P N la cn fr r x y z oa go ok hla hcn hY) (vx_cwSW 5 hts gL_law_L_setTrain rfl rfl rfl jL_setTrain.2 ⟨Nat.le_of_ble_eq_true rfl, Nat.le_of_ble_eq_true rfl⟩) hK [true, true, true, true, true, true, true, true, true, true, true, true, true, true, true, true, true, true, true, true, true, true, true, true, true, true, true, true, true, true, true, true, true, true, true, true, true, true, true, true, true, true, true, true, true, true, true, false, false, false, false, false, false, false, false, false, false, true, false, false, false, false, false, false, false, false, true, true, true, true, true, true, true, true, true, true, true, false, false, false, false, false, false, false, false, false, false, true] hP (zD hD rfl) hS rfl (fun _ => rfl) (fun _ => rfl) rfl rfl (Nat.le_of_ble_eq_true rfl) dL_law_591 (fun r591 u591 H locs hu591 hP hS => ?_)
    subst hu591
    refine lv_istore (lv' := [(5, .int (zI (0))), (0, .ref b0), (1, .ref ss), (2, .ref m0), (3, .ref oa), (4, .int (zI (i)))]) hx hb dL_law_594 hl (by decide) rfl (fun ls hl => ?_)
    refine lv_aload_n hx hb dL_law_596 rfl (lv_at hl 3 rfl) ?_
    refine lv_aload_n hx hb dL_law_597 rfl (lv_at hl 1 rfl) ?_
    refine lv_iload hx hb dL_law_598 (lv_at hl 5 rfl) ?_
    refine z_iconst hx hb dL_law_600 ?_
    refine z_iadd hx hb dL_law_601 ?_
    refine z_sld hx hb hX hbl hbA hS (by omega) hL h_s1 dL_law_602 ?_
    refine lv_aload_n hx hb dL_law_603 rfl (lv_at hl 1 rfl) ?_
    refine lv_iload hx hb dL_law_604 (lv_at hl 5 rfl) ?_
    refine z_iconst hx hb dL_law_606 ?_
    refine z_iadd hx hb dL_law_607 ?_
    refine z_sld hx hb hX hbl hbA hS (by omega) hL h_s2 dL_law_608 ?_
    refine lv_aload_n hx hb dL_law_609 rfl (lv_at hl 1 rfl) ?_
    refine lv_iload hx hb dL_law_610 (lv_at hl 5 rfl) ?_
    refine z_iconst hx hb dL_law_612 ?_
    refine z_iadd hx hb dL_law_613 ?_
    refine z_sld hx hb hX hbl hbA hS (by omega) hL h_s3 dL_law_614 ?_
    refine y_wVi (As := [.int (zI (x)), .int (zI (y)), .int (zI (z))]) (rest := []) (fun (u615 : Unit) => (LW cI cJ cS ss h0 p0 s0 l0 h1 m0 oa b r w o a bs (zup (zup (zup f 1 x) 2 y) 3 z) ps n (upS F (nxS la) f) (upS P (nxS la) ps) (upS N (nxS la) n) (nxS la) (cnS cn) 0 ge gv gd gt sc gf op tb sb (zup (zup (zup f 1 x) 2 y) 3 z) (cnS cn) 0 hs (kpF gp f cn) e2 v2 d2 t2 r2 f2 w2 (zup go 0 (f 1)))) hx hb hml hown hts hl.1 hc1 (kX7_setTrain_ok l D cI cJ cS m0 a cn th hs f gp x y z ok hcn hY) (cwV 3 hts gL_law_X7_setTrain rfl rfl rfl jX7_setTrain ⟨Nat.le_of_ble_eq_true rfl, Nat.le_of_ble_eq_true rfl⟩) hK [false, false, false, false, false, false, false, false, false, false, false, false, false, false, false, false, false, false, false, false, false, false, false, false, false, false, false, false, false, false, false, false, false, false, false, false, false, false, false, false, false, false, false, false, false, false, false, false, false, false, false, false, false, false, false, false, false, false, false, false, false, false, false, false, false, false, false, false, false, false, false, false, false, false, false, false, false, true, true, true] hP (zD hD rfl) hS rfl (fun _ => rfl) (fun _ => rfl) 7 0 rfl rfl rfl rfl rfl (Nat.le_of_ble_eq_true rfl) dL_law_615 (fun r615 u615 H locs hu615 hP hS => ?_)
    subst hu615
    refine lv_istore (lv' := [(6, .int (zI (f 1))), (5, .int (zI (0))), (0, .ref b0), (1, .ref ss), (2, .ref m0), (3, .ref oa), (4, .int (zI (i)))]) hx hb dL_law_618 hl (by decide) rfl (fun ls hl => ?_)
    refine lv_aload_n hx hb dL_law_620 rfl (lv_at hl 4 rfl) ?_
    refine y_rV (v := 0) (As := []) (rest := []) hx hb hml hown hts hl.1 hc1 (kX7_thrown l D cI cJ cS m0 a (cnS cn) 0 hs (zup (zup (zup f 1 x) 2 y) 3 z) ) (cwV 0 hts gL_law_X7_thrown rfl rfl rfl jX7_thrown ⟨Nat.le_of_ble_eq_true rfl, Nat.le_of_ble_eq_true rfl⟩) hK [false, false, false, false, false, false, false, false, false, false, false, false, false, false, false, false, false, false, false, false, false, false, false, false, false, false, false, false, false, false, false, false, false, false, false, false, false, false, false, false, false, false, false, false, false, false, false, false, false, false, false, false, false, false, false, false, false, false, false, false, false, false, false, false, false, false, false, false, false, false, false, false, false, false, false, false, false, true] hP (zD hD rfl) rfl 7 0 rfl rfl rfl rfl rfl (Nat.le_of_ble_eq_true rfl) dL_law_621 ?_
    refine lv_iload hx hb dL_law_624 (lv_at hl 1 rfl) ?_
    refine z_icmpR 631 hx hb dL_law_626 (by decide) ?_
    refine lv_iload hx hb dL_law_631 (lv_at hl 1 rfl) ?_
    refine z_if_ne (tgt := 648) hx hb dL_law_633 (by decide) (by omega) (fun c633 => ?_) (fun c633 => ?_)
    · exfalso; omega
    · refine lv_aload_n hx hb dL_law_636 rfl (lv_at hl 5 rfl) ?_
      refine z_iconst hx hb dL_law_637 ?_
      refine z_lald hx hb hK hP 87 1 rfl rfl (by omega) (Nat.lt_of_succ_le (Nat.le_of_ble_eq_true rfl)) dL_law_638 ?_
      refine z_topL (f 1) (zup_at _ _ _) ?_
      refine lv_iload hx hb dL_law_639 (lv_at hl 0 rfl) ?_
      refine z_i2l hx hb dL_law_641 (by omega) ?_
      refine z_lcmpR hx hb dL_law_642 ?_
      refine z_if_eq (tgt := 648) hx hb dL_law_643 (by decide) (by omega) (fun c643 => ?_) (fun c643 => ?_)
      · refine lv_goto (tgt := 1700) hx hb dL_law_648 (by decide) ?_
        refine W.widen (k := cells + 1) (n := slots + 6) (Nat.le_add_right _ _) (Nat.le_add_right _ _) ?_
        exact kk _ _ _ ⟨(zup (zup (zup f 1 x) 2 y) 3 z), ps, n, upS F (nxS la) f, upS P (nxS la) ps, upS N (nxS la) n, nxS la, cnS cn, 0, ge, gv, gd, gt, sc, gf, op, tb, sb, 0, hs, (kpF gp f cn), e2, v2, d2, t2, r2, f2, w2, (zup go 0 (f 1)), (okF_train ok hY), (rep_ext ok rep (by rw [zup_ne (by omega), zup_ne (by omega), zup_ne (by omega)]) (fun x9 a9 b9 => by rw [zup_ne (by omega), zup_ne (by omega), zup_ne (by omega)])), (nxS_b hla), (cnS_b hcn), (Or.inl rfl), (fun h9 => absurd h9 (by decide)), htr, (hst_push ok rep hla hcn hh), hP⟩ hS (lv_sub hl [2, 3, 4, 5, 6] rfl)
      · exfalso; omega
  · refine lv_aload_n hx hb dL_law_571 rfl (lv_at hl 1 rfl) ?_
    refine lv_aload_n hx hb dL_law_572 rfl (lv_at hl 0 rfl) ?_
    refine lv_iload hx hb dL_law_573 (lv_at hl 4 rfl) ?_
    refine z_iconst hx hb dL_law_575 ?_
    refine z_iadd hx hb dL_law_576 ?_
    refine z_sld hx hb hX hbl hbA hS (by omega) hL h_s1 dL_law_577 ?_
    refine lv_aload_n hx hb dL_law_578 rfl (lv_at hl 0 rfl) ?_
    refine lv_iload hx hb dL_law_579 (lv_at hl 4 rfl) ?_
    refine z_iconst hx hb dL_law_581 ?_
    refine z_iadd hx hb dL_law_582 ?_
    refine z_sld hx hb hX hbl hbA hS (by omega) hL h_s2 dL_law_583 ?_
    refine lv_aload_n hx hb dL_law_584 rfl (lv_at hl 0 rfl) ?_
    refine lv_iload hx hb dL_law_585 (lv_at hl 4 rfl) ?_
    refine z_iconst hx hb dL_law_587 ?_
    refine z_iadd hx hb dL_law_588 ?_
    refine z_sld hx hb hX hbl hbA hS (by omega) hL h_s3 dL_law_589 ?_
    refine lv_aload_n hx hb dL_law_590 rfl (lv_at hl 3 rfl) ?_
    refine y_wSx (As := [.ref ss, .int (zI (x)), .int (zI (y)), .int (zI (z)), .ref oa]) (rest := []) (fun (u591 : Unit) => (LW cI cJ cS ss h0 p0 s0 l0 h1 m0 oa b r w o a bs f ps n F P N la cn fr ge gv gd gt sc gf op tb sb f cn th hs gp e2 v2 d2 t2 r2 f2 w2 go)) hx hb hml hown hts hl.1 hc2 (nL_setTrain l D cI cJ cS ss h0 p0 s0 l0 b f ps n x y z oa go ok hN hr_x hr_y hr_z hst) (vx_cwSW 5 hts gL_law_L_setTrain rfl rfl rfl jL_setTrain.2 ⟨Nat.le_of_ble_eq_true rfl, Nat.le_of_ble_eq_true rfl⟩) hK [true, false, false, false, false, false, false, false, false, false, false, false, false, false, false, false, false, false, false, false, false, false, false, false, false, false, false, false, false, false, false, false, false, false, false, false, false, false, false, false, false, false, false, false, false, false, false, false, false, false, false, false, false, false, false, false, false, false, false, false, false, false, false, false, false, false, true, true, true, true, true, true, true, true, true, true, true, false, false, false, false, false, false, false, false, false, false, true] hP (zD hD rfl) hS hZ hTx rfl (fun _ => rfl) (fun _ => rfl) rfl rfl (Nat.le_of_ble_eq_true rfl) dL_law_591 (fun r591 u591 H locs hu591 hP hS => ?_)
    subst hu591
    refine lv_istore (lv' := [(5, .int (zI (1))), (0, .ref b0), (1, .ref ss), (2, .ref m0), (3, .ref oa), (4, .int (zI (i)))]) hx hb dL_law_594 hl (by decide) rfl (fun ls hl => ?_)
    refine lv_aload_n hx hb dL_law_596 rfl (lv_at hl 3 rfl) ?_
    refine lv_aload_n hx hb dL_law_597 rfl (lv_at hl 1 rfl) ?_
    refine lv_iload hx hb dL_law_598 (lv_at hl 5 rfl) ?_
    refine z_iconst hx hb dL_law_600 ?_
    refine z_iadd hx hb dL_law_601 ?_
    refine z_sld hx hb hX hbl hbA hS (by omega) hL h_s1 dL_law_602 ?_
    refine lv_aload_n hx hb dL_law_603 rfl (lv_at hl 1 rfl) ?_
    refine lv_iload hx hb dL_law_604 (lv_at hl 5 rfl) ?_
    refine z_iconst hx hb dL_law_606 ?_
    refine z_iadd hx hb dL_law_607 ?_
    refine z_sld hx hb hX hbl hbA hS (by omega) hL h_s2 dL_law_608 ?_
    refine lv_aload_n hx hb dL_law_609 rfl (lv_at hl 1 rfl) ?_
    refine lv_iload hx hb dL_law_610 (lv_at hl 5 rfl) ?_
    refine z_iconst hx hb dL_law_612 ?_
    refine z_iadd hx hb dL_law_613 ?_
    refine z_sld hx hb hX hbl hbA hS (by omega) hL h_s3 dL_law_614 ?_
    refine y_wVi (As := [.int (zI (x)), .int (zI (y)), .int (zI (z))]) (rest := []) (fun (u615 : Unit) => (LW cI cJ cS ss h0 p0 s0 l0 h1 m0 oa b r w o a bs f ps n F P N la cn fr ge gv gd gt sc gf op tb sb f cn 1 hs gp e2 v2 d2 t2 r2 f2 w2 go)) hx hb hml hown hts hl.1 hc2 (kX7_setTrain_no l D cI cJ cS m0 a cn th hs f x y z ok hN hr_x hr_y hr_z) (cwV 3 hts gL_law_X7_setTrain rfl rfl rfl jX7_setTrain ⟨Nat.le_of_ble_eq_true rfl, Nat.le_of_ble_eq_true rfl⟩) hK [false, false, false, false, false, false, false, false, false, false, false, false, false, false, false, false, false, false, false, false, false, false, false, false, false, false, false, false, false, false, false, false, false, false, false, false, false, false, false, false, false, false, false, false, false, false, false, false, false, false, false, false, false, false, false, false, false, false, false, false, false, false, false, false, false, false, false, false, false, false, false, false, false, false, false, false, false, true, true] hP (zD hD rfl) hS rfl (fun _ => rfl) (fun _ => rfl) 7 0 rfl rfl rfl rfl rfl (Nat.le_of_ble_eq_true rfl) dL_law_615 (fun r615 u615 H locs hu615 hP hS => ?_)
    subst hu615
    refine lv_istore (lv' := [(6, .int (zI (0))), (5, .int (zI (1))), (0, .ref b0), (1, .ref ss), (2, .ref m0), (3, .ref oa), (4, .int (zI (i)))]) hx hb dL_law_618 hl (by decide) rfl (fun ls hl => ?_)
    refine lv_aload_n hx hb dL_law_620 rfl (lv_at hl 4 rfl) ?_
    refine y_rV (v := 1) (As := []) (rest := []) hx hb hml hown hts hl.1 hc2 (kX7_thrown l D cI cJ cS m0 a cn 1 hs f ) (cwV 0 hts gL_law_X7_thrown rfl rfl rfl jX7_thrown ⟨Nat.le_of_ble_eq_true rfl, Nat.le_of_ble_eq_true rfl⟩) hK [false, false, false, false, false, false, false, false, false, false, false, false, false, false, false, false, false, false, false, false, false, false, false, false, false, false, false, false, false, false, false, false, false, false, false, false, false, false, false, false, false, false, false, false, false, false, false, false, false, false, false, false, false, false, false, false, false, false, false, false, false, false, false, false, false, false, false, false, false, false, false, false, false, false, false, false, false, true] hP (zD hD rfl) rfl 7 0 rfl rfl rfl rfl rfl (Nat.le_of_ble_eq_true rfl) dL_law_621 ?_
    refine lv_iload hx hb dL_law_624 (lv_at hl 1 rfl) ?_
    refine z_icmpR 631 hx hb dL_law_626 (by decide) ?_
    refine lv_iload hx hb dL_law_631 (lv_at hl 1 rfl) ?_
    refine z_if_ne (tgt := 648) hx hb dL_law_633 (by decide) (by omega) (fun c633 => ?_) (fun c633 => ?_)
    · refine lv_goto (tgt := 1700) hx hb dL_law_648 (by decide) ?_
      exact kk _ _ _ ⟨f, ps, n, F, P, N, la, cn, fr, ge, gv, gd, gt, sc, gf, op, tb, sb, 1, hs, gp, e2, v2, d2, t2, r2, f2, w2, go, ok, rep, hla, hcn, hfr0, hp, htr, hh, hP⟩ hS (lv_sub hl [2, 3, 4, 5, 6] rfl)
    · exfalso; omega

set_option maxHeartbeats 4000000 in
set_option maxRecDepth 100000 in
/-- setRules -/
theorem lc_6 {p : Program} {e : Env} {s : State} {m : MethodId} {args : Array Value} {below : List Frame} {meth : Method} {c : Code} {Q : State → Prop} {A : Nat → Prop} {H0 : Heap} (l : Launch) (hst : l.stackTraces = false) (D : va_G) (cI cJ cS : ClassId) (ss h0 p0 s0 l0 h1 m0 oa : Nat) (b r w o a : Nat → Nat) (bs : Nat → Nat → Nat) {b0 L : Nat} {xv : Nat → Int}
    (hx : p.tables.exec = Jvm.exec) (hb : c.code = cL_law) (hml : c.maxLocals = 8) (hown : s.vm.findClass RL = some m.cls) (hts : ∀ w ∈ wsL_law, w.before args s = true) (hK : va_K D vwCl (zT cI cJ cS) s) (hZ : xKs A s H0) (hTx : xTx s) (hX : va_X b0 L (fun j => zI (xv j)) s H0) (hbl : b0 < H0.size) (hbA : ¬ A b0) (hL : L < 2147483648) (hxv : ∀ j : Nat, -2147483648 ≤ xv j ∧ xv j < 2147483648) (hD : va_D A (LW cI cJ cS ss h0 p0 s0 l0 h1 m0 oa b r w o a bs (fun _ => 0) (fun _ => 0) 0 (fun _ _ => 0) (fun _ _ => 0) (fun _ => 0) 0 0 0 (fun _ => 0) (fun _ => 0) (fun _ => 0) (fun _ => 0) 0 (fun _ => 0) (fun _ => 0) (fun _ => 0) (fun _ => 0) (fun _ => 0) 0 0 0 (fun _ => 0) (fun _ => 0) (fun _ => 0) (fun _ => 0) (fun _ => 0) (fun _ => 0) (fun _ => 0) (fun _ => 0) (fun _ => 0))) {H : Heap} {locs : List Loc} {cells slots : Nat} {ls : Array Slot} (i : Int) (hi : 0 ≤ i ∧ i + 4 ≤ (L : Int)) (hI : LInv D cI cJ cS ss h0 p0 s0 l0 h1 m0 oa b r w o a bs H) (hS : va_S A H0 H locs) (hl : lv_has ls 8 [(0, .ref b0), (1, .ref ss), (2, .ref m0), (3, .ref oa), (4, .int (zI (i)))]) (hc2 : cells + 1 ≤ 601024 ∧ slots + 6 ≤ 7293034)
    (kk : ∀ (H1 : Heap) (locs1 : List Loc) (ls1 : Array Slot), LInv D cI cJ cS ss h0 p0 s0 l0 h1 m0 oa b r w o a bs H1 → va_S A H0 H1 locs1 → lv_has ls1 8 [(0, .ref b0), (1, .ref ss), (2, .ref m0), (3, .ref oa), (4, .int (zI (i)))] → W p l e room_1 s m args below meth c H1 locs1 (cells + 1) (slots + 6) Q (F0 m 1700 ls1 [])) : W p l e room_1 s m args below meth c H locs cells slots Q (F0 m 651 ls []) := by
  obtain ⟨f, ps, n, F, P, N, la, cn, fr, ge, gv, gd, gt, sc, gf, op, tb, sb, th, hs, gp, e2, v2, d2, t2, r2, f2, w2, go, ok, rep, hla, hcn, hfr0, hp, htr, hh, hP⟩ := hI
  obtain ⟨o0, o1, o2, o3, o4, o5, o7, o8, olim, ogrd, obar, oneed, opost⟩ := id ok
  have hc1 : cells ≤ 601024 ∧ slots ≤ 7293034 := ⟨by omega, by omega⟩
  obtain ⟨x, h_s1⟩ : ∃ x : Int, xv (i + 1).toNat = x := ⟨_, rfl⟩
  have hr_x : -2147483648 ≤ x ∧ x < 2147483648 := by rw [← h_s1]; exact hxv _
  obtain ⟨y, h_s2⟩ : ∃ y : Int, xv (i + 2).toNat = y := ⟨_, rfl⟩
  have hr_y : -2147483648 ≤ y ∧ y < 2147483648 := by rw [← h_s2]; exact hxv _
  obtain ⟨z, h_s3⟩ : ∃ z : Int, xv (i + 3).toNat = z := ⟨_, rfl⟩
  have hr_z : -2147483648 ≤ z ∧ z < 2147483648 := by rw [← h_s3]; exact hxv _
  rcases Classical.em (2 ≤ x ∧ x ≤ 4 ∧ 1 ≤ y ∧ y ≤ z ∧ z ≤ 120) with hY | hN
  · refine lv_aload_n hx hb dL_law_651 rfl (lv_at hl 1 rfl) ?_
    refine lv_aload_n hx hb dL_law_652 rfl (lv_at hl 0 rfl) ?_
    refine lv_iload hx hb dL_law_653 (lv_at hl 4 rfl) ?_
    refine z_iconst hx hb dL_law_655 ?_
    refine z_iadd hx hb dL_law_656 ?_
    refine z_sld hx hb hX hbl hbA hS (by omega) hL h_s1 dL_law_657 ?_
    refine lv_aload_n hx hb dL_law_658 rfl (lv_at hl 0 rfl) ?_
    refine lv_iload hx hb dL_law_659 (lv_at hl 4 rfl) ?_
    refine z_iconst hx hb dL_law_661 ?_
    refine z_iadd hx hb dL_law_662 ?_
    refine z_sld hx hb hX hbl hbA hS (by omega) hL h_s2 dL_law_663 ?_
    refine lv_aload_n hx hb dL_law_664 rfl (lv_at hl 0 rfl) ?_
    refine lv_iload hx hb dL_law_665 (lv_at hl 4 rfl) ?_
    refine z_iconst hx hb dL_law_667 ?_
    refine z_iadd hx hb dL_law_668 ?_
    refine z_sld hx hb hX hbl hbA hS (by omega) hL h_s3 dL_law_669 ?_
    refine lv_aload_n hx hb dL_law_670 rfl (lv_at hl 3 rfl) ?_
    refine y_wSi (As := [.ref ss, .int (zI (x)), .int (zI (y)), .int (zI (z)), .ref oa]) (rest := []) (fun (u671 : Unit) => (LW cI cJ cS ss h0 p0 s0 l0 h1 m0 oa b r w o a bs (zup (zup (zup f 4 x) 5 y) 6 z) ps n (upS F (nxS la) f) (upS P (nxS la) ps) (upS N (nxS la) n) (nxS la) (cnS cn) 0 ge gv gd gt sc gf op tb sb f cn th hs gp e2 v2 d2 t2 r2 f2 w2 (zup go 0 (f 4)))) hx hb hml hown hts hl.1 hc1 (kL_setRules_ok l D cI cJ cS ss h0 p0 s0 l0 b f ps n h1 bs F P N la cn fr r x y z oa go ok hla hcn hY) (vx_cwSW 5 hts gL_law_L_setRules rfl rfl rfl jL_setRules.2 ⟨Nat.le_of_ble_eq_true rfl, Nat.le_of_ble_eq_true rfl⟩) hK [true, true, true, true, true, true, true, true, true, true, true, true, true, true, true, true, true, true, true, true, true, true, true, true, true, true, true, true, true, true, true, true, true, true, true, true, true, true, true, true, true, true, true, true, true, true, true, false, false, false, false, false, false, false, false, false, false, true, false, false, false, false, false, false, false, false, true, true, true, true, true, true, true, true, true, true, true, false, false, false, false, false, false, false, false, false, false, true] hP (zD hD rfl) hS rfl (fun _ => rfl) (fun _ => rfl) rfl rfl (Nat.le_of_ble_eq_true rfl) dL_law_671 (fun r671 u671 H locs hu671 hP hS => ?_)
    subst hu671
    refine lv_istore (lv' := [(5, .int (zI (0))), (0, .ref b0), (1, .ref ss), (2, .ref m0), (3, .ref oa), (4, .int (zI (i)))]) hx hb dL_law_674 hl (by decide) rfl (fun ls hl => ?_)
    refine lv_aload_n hx hb dL_law_676 rfl (lv_at hl 3 rfl) ?_
    refine lv_aload_n hx hb dL_law_677 rfl (lv_at hl 1 rfl) ?_
    refine lv_iload hx hb dL_law_678 (lv_at hl 5 rfl) ?_
    refine z_iconst hx hb dL_law_680 ?_
    refine z_iadd hx hb dL_law_681 ?_
    refine z_sld hx hb hX hbl hbA hS (by omega) hL h_s1 dL_law_682 ?_
    refine lv_aload_n hx hb dL_law_683 rfl (lv_at hl 1 rfl) ?_
    refine lv_iload hx hb dL_law_684 (lv_at hl 5 rfl) ?_
    refine z_iconst hx hb dL_law_686 ?_
    refine z_iadd hx hb dL_law_687 ?_
    refine z_sld hx hb hX hbl hbA hS (by omega) hL h_s2 dL_law_688 ?_
    refine lv_aload_n hx hb dL_law_689 rfl (lv_at hl 1 rfl) ?_
    refine lv_iload hx hb dL_law_690 (lv_at hl 5 rfl) ?_
    refine z_iconst hx hb dL_law_692 ?_
    refine z_iadd hx hb dL_law_693 ?_
    refine z_sld hx hb hX hbl hbA hS (by omega) hL h_s3 dL_law_694 ?_
    refine y_wVi (As := [.int (zI (x)), .int (zI (y)), .int (zI (z))]) (rest := []) (fun (u695 : Unit) => (LW cI cJ cS ss h0 p0 s0 l0 h1 m0 oa b r w o a bs (zup (zup (zup f 4 x) 5 y) 6 z) ps n (upS F (nxS la) f) (upS P (nxS la) ps) (upS N (nxS la) n) (nxS la) (cnS cn) 0 ge gv gd gt sc gf op tb sb (zup (zup (zup f 4 x) 5 y) 6 z) (cnS cn) 0 hs (kpF gp f cn) e2 v2 d2 t2 r2 f2 w2 (zup go 0 (f 4)))) hx hb hml hown hts hl.1 hc1 (kX7_setRules_ok l D cI cJ cS m0 a cn th hs f gp x y z ok hcn hY) (cwV 3 hts gL_law_X7_setRules rfl rfl rfl jX7_setRules ⟨Nat.le_of_ble_eq_true rfl, Nat.le_of_ble_eq_true rfl⟩) hK [false, false, false, false, false, false, false, false, false, false, false, false, false, false, false, false, false, false, false, false, false, false, false, false, false, false, false, false, false, false, false, false, false, false, false, false, false, false, false, false, false, false, false, false, false, false, false, false, false, false, false, false, false, false, false, false, false, false, false, false, false, false, false, false, false, false, false, false, false, false, false, false, false, false, false, false, false, true, true, true] hP (zD hD rfl) hS rfl (fun _ => rfl) (fun _ => rfl) 7 0 rfl rfl rfl rfl rfl (Nat.le_of_ble_eq_true rfl) dL_law_695 (fun r695 u695 H locs hu695 hP hS => ?_)
    subst hu695
    refine lv_istore (lv' := [(6, .int (zI (f 4))), (5, .int (zI (0))), (0, .ref b0), (1, .ref ss), (2, .ref m0), (3, .ref oa), (4, .int (zI (i)))]) hx hb dL_law_698 hl (by decide) rfl (fun ls hl => ?_)
    refine lv_aload_n hx hb dL_law_700 rfl (lv_at hl 4 rfl) ?_
    refine y_rV (v := 0) (As := []) (rest := []) hx hb hml hown hts hl.1 hc1 (kX7_thrown l D cI cJ cS m0 a (cnS cn) 0 hs (zup (zup (zup f 4 x) 5 y) 6 z) ) (cwV 0 hts gL_law_X7_thrown rfl rfl rfl jX7_thrown ⟨Nat.le_of_ble_eq_true rfl, Nat.le_of_ble_eq_true rfl⟩) hK [false, false, false, false, false, false, false, false, false, false, false, false, false, false, false, false, false, false, false, false, false, false, false, false, false, false, false, false, false, false, false, false, false, false, false, false, false, false, false, false, false, false, false, false, false, false, false, false, false, false, false, false, false, false, false, false, false, false, false, false, false, false, false, false, false, false, false, false, false, false, false, false, false, false, false, false, false, true] hP (zD hD rfl) rfl 7 0 rfl rfl rfl rfl rfl (Nat.le_of_ble_eq_true rfl) dL_law_701 ?_
    refine lv_iload hx hb dL_law_704 (lv_at hl 1 rfl) ?_
    refine z_icmpR 711 hx hb dL_law_706 (by decide) ?_
    refine lv_iload hx hb dL_law_711 (lv_at hl 1 rfl) ?_
    refine z_if_ne (tgt := 728) hx hb dL_law_713 (by decide) (by omega) (fun c713 => ?_) (fun c713 => ?_)
    · exfalso; omega
    · refine lv_aload_n hx hb dL_law_716 rfl (lv_at hl 5 rfl) ?_
      refine z_iconst hx hb dL_law_717 ?_
      refine z_lald hx hb hK hP 87 1 rfl rfl (by omega) (Nat.lt_of_succ_le (Nat.le_of_ble_eq_true rfl)) dL_law_718 ?_
      refine z_topL (f 4) (zup_at _ _ _) ?_
      refine lv_iload hx hb dL_law_719 (lv_at hl 0 rfl) ?_
      refine z_i2l hx hb dL_law_721 (by omega) ?_
      refine z_lcmpR hx hb dL_law_722 ?_
      refine z_if_eq (tgt := 728) hx hb dL_law_723 (by decide) (by omega) (fun c723 => ?_) (fun c723 => ?_)
      · refine lv_goto (tgt := 1700) hx hb dL_law_728 (by decide) ?_
        refine W.widen (k := cells + 1) (n := slots + 6) (Nat.le_add_right _ _) (Nat.le_add_right _ _) ?_
        exact kk _ _ _ ⟨(zup (zup (zup f 4 x) 5 y) 6 z), ps, n, upS F (nxS la) f, upS P (nxS la) ps, upS N (nxS la) n, nxS la, cnS cn, 0, ge, gv, gd, gt, sc, gf, op, tb, sb, 0, hs, (kpF gp f cn), e2, v2, d2, t2, r2, f2, w2, (zup go 0 (f 4)), (okF_rules ok hY), (rep_ext ok rep (by rw [zup_ne (by omega), zup_ne (by omega), zup_ne (by omega)]) (fun x9 a9 b9 => by rw [zup_ne (by omega), zup_ne (by omega), zup_ne (by omega)])), (nxS_b hla), (cnS_b hcn), (Or.inl rfl), (fun h9 => absurd h9 (by decide)), htr, (hst_push ok rep hla hcn hh), hP⟩ hS (lv_sub hl [2, 3, 4, 5, 6] rfl)
      · exfalso; omega
  · refine lv_aload_n hx hb dL_law_651 rfl (lv_at hl 1 rfl) ?_
    refine lv_aload_n hx hb dL_law_652 rfl (lv_at hl 0 rfl) ?_
    refine lv_iload hx hb dL_law_653 (lv_at hl 4 rfl) ?_
    refine z_iconst hx hb dL_law_655 ?_
    refine z_iadd hx hb dL_law_656 ?_
    refine z_sld hx hb hX hbl hbA hS (by omega) hL h_s1 dL_law_657 ?_
    refine lv_aload_n hx hb dL_law_658 rfl (lv_at hl 0 rfl) ?_
    refine lv_iload hx hb dL_law_659 (lv_at hl 4 rfl) ?_
    refine z_iconst hx hb dL_law_661 ?_
    refine z_iadd hx hb dL_law_662 ?_
    refine z_sld hx hb hX hbl hbA hS (by omega) hL h_s2 dL_law_663 ?_
    refine lv_aload_n hx hb dL_law_664 rfl (lv_at hl 0 rfl) ?_
    refine lv_iload hx hb dL_law_665 (lv_at hl 4 rfl) ?_
    refine z_iconst hx hb dL_law_667 ?_
    refine z_iadd hx hb dL_law_668 ?_
    refine z_sld hx hb hX hbl hbA hS (by omega) hL h_s3 dL_law_669 ?_
    refine lv_aload_n hx hb dL_law_670 rfl (lv_at hl 3 rfl) ?_
    refine y_wSx (As := [.ref ss, .int (zI (x)), .int (zI (y)), .int (zI (z)), .ref oa]) (rest := []) (fun (u671 : Unit) => (LW cI cJ cS ss h0 p0 s0 l0 h1 m0 oa b r w o a bs f ps n F P N la cn fr ge gv gd gt sc gf op tb sb f cn th hs gp e2 v2 d2 t2 r2 f2 w2 go)) hx hb hml hown hts hl.1 hc2 (nL_setRules l D cI cJ cS ss h0 p0 s0 l0 b f ps n x y z oa go ok hN hr_x hr_y hr_z hst) (vx_cwSW 5 hts gL_law_L_setRules rfl rfl rfl jL_setRules.2 ⟨Nat.le_of_ble_eq_true rfl, Nat.le_of_ble_eq_true rfl⟩) hK [true, false, false, false, false, false, false, false, false, false, false, false, false, false, false, false, false, false, false, false, false, false, false, false, false, false, false, false, false, false, false, false, false, false, false, false, false, false, false, false, false, false, false, false, false, false, false, false, false, false, false, false, false, false, false, false, false, false, false, false, false, false, false, false, false, false, true, true, true, true, true, true, true, true, true, true, true, false, false, false, false, false, false, false, false, false, false, true] hP (zD hD rfl) hS hZ hTx rfl (fun _ => rfl) (fun _ => rfl) rfl rfl (Nat.le_of_ble_eq_true rfl) dL_law_671 (fun r671 u671 H locs hu671 hP hS => ?_)
    subst hu671
    refine lv_istore (lv' := [(5, .int (zI (1))), (0, .ref b0), (1, .ref ss), (2, .ref m0), (3, .ref oa), (4, .int (zI (i)))]) hx hb dL_law_674 hl (by decide) rfl (fun ls hl => ?_)
    refine lv_aload_n hx hb dL_law_676 rfl (lv_at hl 3 rfl) ?_
    refine lv_aload_n hx hb dL_law_677 rfl (lv_at hl 1 rfl) ?_
    refine lv_iload hx hb dL_law_678 (lv_at hl 5 rfl) ?_
    refine z_iconst hx hb dL_law_680 ?_
    refine z_iadd hx hb dL_law_681 ?_
    refine z_sld hx hb hX hbl hbA hS (by omega) hL h_s1 dL_law_682 ?_
    refine lv_aload_n hx hb dL_law_683 rfl (lv_at hl 1 rfl) ?_
    refine lv_iload hx hb dL_law_684 (lv_at hl 5 rfl) ?_
    refine z_iconst hx hb dL_law_686 ?_
    refine z_iadd hx hb dL_law_687 ?_
    refine z_sld hx hb hX hbl hbA hS (by omega) hL h_s2 dL_law_688 ?_
    refine lv_aload_n hx hb dL_law_689 rfl (lv_at hl 1 rfl) ?_
    refine lv_iload hx hb dL_law_690 (lv_at hl 5 rfl) ?_
    refine z_iconst hx hb dL_law_692 ?_
    refine z_iadd hx hb dL_law_693 ?_
    refine z_sld hx hb hX hbl hbA hS (by omega) hL h_s3 dL_law_694 ?_
    refine y_wVi (As := [.int (zI (x)), .int (zI (y)), .int (zI (z))]) (rest := []) (fun (u695 : Unit) => (LW cI cJ cS ss h0 p0 s0 l0 h1 m0 oa b r w o a bs f ps n F P N la cn fr ge gv gd gt sc gf op tb sb f cn 1 hs gp e2 v2 d2 t2 r2 f2 w2 go)) hx hb hml hown hts hl.1 hc2 (kX7_setRules_no l D cI cJ cS m0 a cn th hs f x y z ok hN hr_x hr_y hr_z) (cwV 3 hts gL_law_X7_setRules rfl rfl rfl jX7_setRules ⟨Nat.le_of_ble_eq_true rfl, Nat.le_of_ble_eq_true rfl⟩) hK [false, false, false, false, false, false, false, false, false, false, false, false, false, false, false, false, false, false, false, false, false, false, false, false, false, false, false, false, false, false, false, false, false, false, false, false, false, false, false, false, false, false, false, false, false, false, false, false, false, false, false, false, false, false, false, false, false, false, false, false, false, false, false, false, false, false, false, false, false, false, false, false, false, false, false, false, false, true, true] hP (zD hD rfl) hS rfl (fun _ => rfl) (fun _ => rfl) 7 0 rfl rfl rfl rfl rfl (Nat.le_of_ble_eq_true rfl) dL_law_695 (fun r695 u695 H locs hu695 hP hS => ?_)
    subst hu695
    refine lv_istore (lv' := [(6, .int (zI (0))), (5, .int (zI (1))), (0, .ref b0), (1, .ref ss), (2, .ref m0), (3, .ref oa), (4, .int (zI (i)))]) hx hb dL_law_698 hl (by decide) rfl (fun ls hl => ?_)
    refine lv_aload_n hx hb dL_law_700 rfl (lv_at hl 4 rfl) ?_
    refine y_rV (v := 1) (As := []) (rest := []) hx hb hml hown hts hl.1 hc2 (kX7_thrown l D cI cJ cS m0 a cn 1 hs f ) (cwV 0 hts gL_law_X7_thrown rfl rfl rfl jX7_thrown ⟨Nat.le_of_ble_eq_true rfl, Nat.le_of_ble_eq_true rfl⟩) hK [false, false, false, false, false, false, false, false, false, false, false, false, false, false, false, false, false, false, false, false, false, false, false, false, false, false, false, false, false, false, false, false, false, false, false, false, false, false, false, false, false, false, false, false, false, false, false, false, false, false, false, false, false, false, false, false, false, false, false, false, false, false, false, false, false, false, false, false, false, false, false, false, false, false, false, false, false, true] hP (zD hD rfl) rfl 7 0 rfl rfl rfl rfl rfl (Nat.le_of_ble_eq_true rfl) dL_law_701 ?_
    refine lv_iload hx hb dL_law_704 (lv_at hl 1 rfl) ?_
    refine z_icmpR 711 hx hb dL_law_706 (by decide) ?_
    refine lv_iload hx hb dL_law_711 (lv_at hl 1 rfl) ?_
    refine z_if_ne (tgt := 728) hx hb dL_law_713 (by decide) (by omega) (fun c713 => ?_) (fun c713 => ?_)
    · refine lv_goto (tgt := 1700) hx hb dL_law_728 (by decide) ?_
      exact kk _ _ _ ⟨f, ps, n, F, P, N, la, cn, fr, ge, gv, gd, gt, sc, gf, op, tb, sb, 1, hs, gp, e2, v2, d2, t2, r2, f2, w2, go, ok, rep, hla, hcn, hfr0, hp, htr, hh, hP⟩ hS (lv_sub hl [2, 3, 4, 5, 6] rfl)
    · exfalso; omega

set_option maxHeartbeats 4000000 in
set_option maxRecDepth 100000 in
/-- setSight -/
theorem lc_7 {p : Program} {e : Env} {s : State} {m : MethodId} {args : Array Value} {below : List Frame} {meth : Method} {c : Code} {Q : State → Prop} {A : Nat → Prop} {H0 : Heap} (l : Launch) (hst : l.stackTraces = false) (D : va_G) (cI cJ cS : ClassId) (ss h0 p0 s0 l0 h1 m0 oa : Nat) (b r w o a : Nat → Nat) (bs : Nat → Nat → Nat) {b0 L : Nat} {xv : Nat → Int}
    (hx : p.tables.exec = Jvm.exec) (hb : c.code = cL_law) (hml : c.maxLocals = 8) (hown : s.vm.findClass RL = some m.cls) (hts : ∀ w ∈ wsL_law, w.before args s = true) (hK : va_K D vwCl (zT cI cJ cS) s) (hZ : xKs A s H0) (hTx : xTx s) (hX : va_X b0 L (fun j => zI (xv j)) s H0) (hbl : b0 < H0.size) (hbA : ¬ A b0) (hL : L < 2147483648) (hxv : ∀ j : Nat, -2147483648 ≤ xv j ∧ xv j < 2147483648) (hD : va_D A (LW cI cJ cS ss h0 p0 s0 l0 h1 m0 oa b r w o a bs (fun _ => 0) (fun _ => 0) 0 (fun _ _ => 0) (fun _ _ => 0) (fun _ => 0) 0 0 0 (fun _ => 0) (fun _ => 0) (fun _ => 0) (fun _ => 0) 0 (fun _ => 0) (fun _ => 0) (fun _ => 0) (fun _ => 0) (fun _ => 0) 0 0 0 (fun _ => 0) (fun _ => 0) (fun _ => 0) (fun _ => 0) (fun _ => 0) (fun _ => 0) (fun _ => 0) (fun _ => 0) (fun _ => 0))) {H : Heap} {locs : List Loc} {cells slots : Nat} {ls : Array Slot} (i : Int) (hi : 0 ≤ i ∧ i + 4 ≤ (L : Int)) (hI : LInv D cI cJ cS ss h0 p0 s0 l0 h1 m0 oa b r w o a bs H) (hS : va_S A H0 H locs) (hl : lv_has ls 8 [(0, .ref b0), (1, .ref ss), (2, .ref m0), (3, .ref oa), (4, .int (zI (i)))]) (hc2 : cells + 1 ≤ 601024 ∧ slots + 6 ≤ 7293034)
    (kk : ∀ (H1 : Heap) (locs1 : List Loc) (ls1 : Array Slot), LInv D cI cJ cS ss h0 p0 s0 l0 h1 m0 oa b r w o a bs H1 → va_S A H0 H1 locs1 → lv_has ls1 8 [(0, .ref b0), (1, .ref ss), (2, .ref m0), (3, .ref oa), (4, .int (zI (i)))] → W p l e room_1 s m args below meth c H1 locs1 (cells + 1) (slots + 6) Q (F0 m 1700 ls1 [])) : W p l e room_1 s m args below meth c H locs cells slots Q (F0 m 731 ls []) := by
  obtain ⟨f, ps, n, F, P, N, la, cn, fr, ge, gv, gd, gt, sc, gf, op, tb, sb, th, hs, gp, e2, v2, d2, t2, r2, f2, w2, go, ok, rep, hla, hcn, hfr0, hp, htr, hh, hP⟩ := hI
  obtain ⟨o0, o1, o2, o3, o4, o5, o7, o8, olim, ogrd, obar, oneed, opost⟩ := id ok
  have hc1 : cells ≤ 601024 ∧ slots ≤ 7293034 := ⟨by omega, by omega⟩
  obtain ⟨x, h_s1⟩ : ∃ x : Int, xv (i + 1).toNat = x := ⟨_, rfl⟩
  have hr_x : -2147483648 ≤ x ∧ x < 2147483648 := by rw [← h_s1]; exact hxv _
  obtain ⟨y, h_s2⟩ : ∃ y : Int, xv (i + 2).toNat = y := ⟨_, rfl⟩
  have hr_y : -2147483648 ≤ y ∧ y < 2147483648 := by rw [← h_s2]; exact hxv _
  rcases Classical.em (0 ≤ x ∧ x ≤ 40 ∧ 0 ≤ y ∧ y ≤ 20) with hY | hN
  · refine lv_aload_n hx hb dL_law_731 rfl (lv_at hl 1 rfl) ?_
    refine lv_aload_n hx hb dL_law_732 rfl (lv_at hl 0 rfl) ?_
    refine lv_iload hx hb dL_law_733 (lv_at hl 4 rfl) ?_
    refine z_iconst hx hb dL_law_735 ?_
    refine z_iadd hx hb dL_law_736 ?_
    refine z_sld hx hb hX hbl hbA hS (by omega) hL h_s1 dL_law_737 ?_
    refine lv_aload_n hx hb dL_law_738 rfl (lv_at hl 0 rfl) ?_
    refine lv_iload hx hb dL_law_739 (lv_at hl 4 rfl) ?_
    refine z_iconst hx hb dL_law_741 ?_
    refine z_iadd hx hb dL_law_742 ?_
    refine z_sld hx hb hX hbl hbA hS (by omega) hL h_s2 dL_law_743 ?_
    refine lv_aload_n hx hb dL_law_744 rfl (lv_at hl 3 rfl) ?_
    refine y_wSi (As := [.ref ss, .int (zI (x)), .int (zI (y)), .ref oa]) (rest := []) (fun (u745 : Unit) => (LW cI cJ cS ss h0 p0 s0 l0 h1 m0 oa b r w o a bs (zup (zup f 7 x) 8 y) ps n (upS F (nxS la) f) (upS P (nxS la) ps) (upS N (nxS la) n) (nxS la) (cnS cn) 0 ge gv gd gt sc gf op tb sb f cn th hs gp e2 v2 d2 t2 r2 f2 w2 (zup go 0 (f 7)))) hx hb hml hown hts hl.1 hc1 (kL_setSight_ok l D cI cJ cS ss h0 p0 s0 l0 b f ps n h1 bs F P N la cn fr r x y oa go ok hla hcn hY) (vx_cwSW 4 hts gL_law_L_setSight rfl rfl rfl jL_setSight.2 ⟨Nat.le_of_ble_eq_true rfl, Nat.le_of_ble_eq_true rfl⟩) hK [true, true, true, true, true, true, true, true, true, true, true, true, true, true, true, true, true, true, true, true, true, true, true, true, true, true, true, true, true, true, true, true, true, true, true, true, true, true, true, true, true, true, true, true, true, true, true, false, false, false, false, false, false, false, false, false, false, true, false, false, false, false, false, false, false, false, true, true, true, true, true, true, true, true, true, true, true, false, false, false, false, false, false, false, false, false, false, true] hP (zD hD rfl) hS rfl (fun _ => rfl) (fun _ => rfl) rfl rfl (Nat.le_of_ble_eq_true rfl) dL_law_745 (fun r745 u745 H locs hu745 hP hS => ?_)
    subst hu745
    refine lv_istore (lv' := [(5, .int (zI (0))), (0, .ref b0), (1, .ref ss), (2, .ref m0), (3, .ref oa), (4, .int (zI (i)))]) hx hb dL_law_748 hl (by decide) rfl (fun ls hl => ?_)
    refine lv_aload_n hx hb dL_law_750 rfl (lv_at hl 3 rfl) ?_
    refine lv_aload_n hx hb dL_law_751 rfl (lv_at hl 1 rfl) ?_
    refine lv_iload hx hb dL_law_752 (lv_at hl 5 rfl) ?_
    refine z_iconst hx hb dL_law_754 ?_
    refine z_iadd hx hb dL_law_755 ?_
    refine z_sld hx hb hX hbl hbA hS (by omega) hL h_s1 dL_law_756 ?_
    refine lv_aload_n hx hb dL_law_757 rfl (lv_at hl 1 rfl) ?_
    refine lv_iload hx hb dL_law_758 (lv_at hl 5 rfl) ?_
    refine z_iconst hx hb dL_law_760 ?_
    refine z_iadd hx hb dL_law_761 ?_
    refine z_sld hx hb hX hbl hbA hS (by omega) hL h_s2 dL_law_762 ?_
    refine y_wVi (As := [.int (zI (x)), .int (zI (y))]) (rest := []) (fun (u763 : Unit) => (LW cI cJ cS ss h0 p0 s0 l0 h1 m0 oa b r w o a bs (zup (zup f 7 x) 8 y) ps n (upS F (nxS la) f) (upS P (nxS la) ps) (upS N (nxS la) n) (nxS la) (cnS cn) 0 ge gv gd gt sc gf op tb sb (zup (zup f 7 x) 8 y) (cnS cn) 0 hs (kpF gp f cn) e2 v2 d2 t2 r2 f2 w2 (zup go 0 (f 7)))) hx hb hml hown hts hl.1 hc1 (kX7_setSight_ok l D cI cJ cS m0 a cn th hs f gp x y ok hcn hY) (cwV 2 hts gL_law_X7_setSight rfl rfl rfl jX7_setSight ⟨Nat.le_of_ble_eq_true rfl, Nat.le_of_ble_eq_true rfl⟩) hK [false, false, false, false, false, false, false, false, false, false, false, false, false, false, false, false, false, false, false, false, false, false, false, false, false, false, false, false, false, false, false, false, false, false, false, false, false, false, false, false, false, false, false, false, false, false, false, false, false, false, false, false, false, false, false, false, false, false, false, false, false, false, false, false, false, false, false, false, false, false, false, false, false, false, false, false, false, true, true, true] hP (zD hD rfl) hS rfl (fun _ => rfl) (fun _ => rfl) 7 0 rfl rfl rfl rfl rfl (Nat.le_of_ble_eq_true rfl) dL_law_763 (fun r763 u763 H locs hu763 hP hS => ?_)
    subst hu763
    refine lv_istore (lv' := [(6, .int (zI (f 7))), (5, .int (zI (0))), (0, .ref b0), (1, .ref ss), (2, .ref m0), (3, .ref oa), (4, .int (zI (i)))]) hx hb dL_law_766 hl (by decide) rfl (fun ls hl => ?_)
    refine lv_aload_n hx hb dL_law_768 rfl (lv_at hl 4 rfl) ?_
    refine y_rV (v := 0) (As := []) (rest := []) hx hb hml hown hts hl.1 hc1 (kX7_thrown l D cI cJ cS m0 a (cnS cn) 0 hs (zup (zup f 7 x) 8 y) ) (cwV 0 hts gL_law_X7_thrown rfl rfl rfl jX7_thrown ⟨Nat.le_of_ble_eq_true rfl, Nat.le_of_ble_eq_true rfl⟩) hK [false, false, false, false, false, false, false, false, false, false, false, false, false, false, false, false, false, false, false, false, false, false, false, false, false, false, false, false, false, false, false, false, false, false, false, false, false, false, false, false, false, false, false, false, false, false, false, false, false, false, false, false, false, false, false, false, false, false, false, false, false, false, false, false, false, false, false, false, false, false, false, false, false, false, false, false, false, true] hP (zD hD rfl) rfl 7 0 rfl rfl rfl rfl rfl (Nat.le_of_ble_eq_true rfl) dL_law_769 ?_
    refine lv_iload hx hb dL_law_772 (lv_at hl 1 rfl) ?_
    refine z_icmpR 779 hx hb dL_law_774 (by decide) ?_
    refine lv_iload hx hb dL_law_779 (lv_at hl 1 rfl) ?_
    refine z_if_ne (tgt := 796) hx hb dL_law_781 (by decide) (by omega) (fun c781 => ?_) (fun c781 => ?_)
    · exfalso; omega
    · refine lv_aload_n hx hb dL_law_784 rfl (lv_at hl 5 rfl) ?_
      refine z_iconst hx hb dL_law_785 ?_
      refine z_lald hx hb hK hP 87 1 rfl rfl (by omega) (Nat.lt_of_succ_le (Nat.le_of_ble_eq_true rfl)) dL_law_786 ?_
      refine z_topL (f 7) (zup_at _ _ _) ?_
      refine lv_iload hx hb dL_law_787 (lv_at hl 0 rfl) ?_
      refine z_i2l hx hb dL_law_789 (by omega) ?_
      refine z_lcmpR hx hb dL_law_790 ?_
      refine z_if_eq (tgt := 796) hx hb dL_law_791 (by decide) (by omega) (fun c791 => ?_) (fun c791 => ?_)
      · refine lv_goto (tgt := 1700) hx hb dL_law_796 (by decide) ?_
        refine W.widen (k := cells + 1) (n := slots + 6) (Nat.le_add_right _ _) (Nat.le_add_right _ _) ?_
        exact kk _ _ _ ⟨(zup (zup f 7 x) 8 y), ps, n, upS F (nxS la) f, upS P (nxS la) ps, upS N (nxS la) n, nxS la, cnS cn, 0, ge, gv, gd, gt, sc, gf, op, tb, sb, 0, hs, (kpF gp f cn), e2, v2, d2, t2, r2, f2, w2, (zup go 0 (f 7)), (okF_sight ok hY), (rep_ext ok rep (by rw [zup_ne (by omega), zup_ne (by omega)]) (fun x9 a9 b9 => by rw [zup_ne (by omega), zup_ne (by omega)])), (nxS_b hla), (cnS_b hcn), (Or.inl rfl), (fun h9 => absurd h9 (by decide)), htr, (hst_push ok rep hla hcn hh), hP⟩ hS (lv_sub hl [2, 3, 4, 5, 6] rfl)
      · exfalso; omega
  · refine lv_aload_n hx hb dL_law_731 rfl (lv_at hl 1 rfl) ?_
    refine lv_aload_n hx hb dL_law_732 rfl (lv_at hl 0 rfl) ?_
    refine lv_iload hx hb dL_law_733 (lv_at hl 4 rfl) ?_
    refine z_iconst hx hb dL_law_735 ?_
    refine z_iadd hx hb dL_law_736 ?_
    refine z_sld hx hb hX hbl hbA hS (by omega) hL h_s1 dL_law_737 ?_
    refine lv_aload_n hx hb dL_law_738 rfl (lv_at hl 0 rfl) ?_
    refine lv_iload hx hb dL_law_739 (lv_at hl 4 rfl) ?_
    refine z_iconst hx hb dL_law_741 ?_
    refine z_iadd hx hb dL_law_742 ?_
    refine z_sld hx hb hX hbl hbA hS (by omega) hL h_s2 dL_law_743 ?_
    refine lv_aload_n hx hb dL_law_744 rfl (lv_at hl 3 rfl) ?_
    refine y_wSx (As := [.ref ss, .int (zI (x)), .int (zI (y)), .ref oa]) (rest := []) (fun (u745 : Unit) => (LW cI cJ cS ss h0 p0 s0 l0 h1 m0 oa b r w o a bs f ps n F P N la cn fr ge gv gd gt sc gf op tb sb f cn th hs gp e2 v2 d2 t2 r2 f2 w2 go)) hx hb hml hown hts hl.1 hc2 (nL_setSight l D cI cJ cS ss h0 p0 s0 l0 b f ps n x y oa go ok hN hr_x hr_y hst) (vx_cwSW 4 hts gL_law_L_setSight rfl rfl rfl jL_setSight.2 ⟨Nat.le_of_ble_eq_true rfl, Nat.le_of_ble_eq_true rfl⟩) hK [true, false, false, false, false, false, false, false, false, false, false, false, false, false, false, false, false, false, false, false, false, false, false, false, false, false, false, false, false, false, false, false, false, false, false, false, false, false, false, false, false, false, false, false, false, false, false, false, false, false, false, false, false, false, false, false, false, false, false, false, false, false, false, false, false, false, true, true, true, true, true, true, true, true, true, true, true, false, false, false, false, false, false, false, false, false, false, true] hP (zD hD rfl) hS hZ hTx rfl (fun _ => rfl) (fun _ => rfl) rfl rfl (Nat.le_of_ble_eq_true rfl) dL_law_745 (fun r745 u745 H locs hu745 hP hS => ?_)
    subst hu745
    refine lv_istore (lv' := [(5, .int (zI (1))), (0, .ref b0), (1, .ref ss), (2, .ref m0), (3, .ref oa), (4, .int (zI (i)))]) hx hb dL_law_748 hl (by decide) rfl (fun ls hl => ?_)
    refine lv_aload_n hx hb dL_law_750 rfl (lv_at hl 3 rfl) ?_
    refine lv_aload_n hx hb dL_law_751 rfl (lv_at hl 1 rfl) ?_
    refine lv_iload hx hb dL_law_752 (lv_at hl 5 rfl) ?_
    refine z_iconst hx hb dL_law_754 ?_
    refine z_iadd hx hb dL_law_755 ?_
    refine z_sld hx hb hX hbl hbA hS (by omega) hL h_s1 dL_law_756 ?_
    refine lv_aload_n hx hb dL_law_757 rfl (lv_at hl 1 rfl) ?_
    refine lv_iload hx hb dL_law_758 (lv_at hl 5 rfl) ?_
    refine z_iconst hx hb dL_law_760 ?_
    refine z_iadd hx hb dL_law_761 ?_
    refine z_sld hx hb hX hbl hbA hS (by omega) hL h_s2 dL_law_762 ?_
    refine y_wVi (As := [.int (zI (x)), .int (zI (y))]) (rest := []) (fun (u763 : Unit) => (LW cI cJ cS ss h0 p0 s0 l0 h1 m0 oa b r w o a bs f ps n F P N la cn fr ge gv gd gt sc gf op tb sb f cn 1 hs gp e2 v2 d2 t2 r2 f2 w2 go)) hx hb hml hown hts hl.1 hc2 (kX7_setSight_no l D cI cJ cS m0 a cn th hs f x y ok hN hr_x hr_y) (cwV 2 hts gL_law_X7_setSight rfl rfl rfl jX7_setSight ⟨Nat.le_of_ble_eq_true rfl, Nat.le_of_ble_eq_true rfl⟩) hK [false, false, false, false, false, false, false, false, false, false, false, false, false, false, false, false, false, false, false, false, false, false, false, false, false, false, false, false, false, false, false, false, false, false, false, false, false, false, false, false, false, false, false, false, false, false, false, false, false, false, false, false, false, false, false, false, false, false, false, false, false, false, false, false, false, false, false, false, false, false, false, false, false, false, false, false, false, true, true] hP (zD hD rfl) hS rfl (fun _ => rfl) (fun _ => rfl) 7 0 rfl rfl rfl rfl rfl (Nat.le_of_ble_eq_true rfl) dL_law_763 (fun r763 u763 H locs hu763 hP hS => ?_)
    subst hu763
    refine lv_istore (lv' := [(6, .int (zI (0))), (5, .int (zI (1))), (0, .ref b0), (1, .ref ss), (2, .ref m0), (3, .ref oa), (4, .int (zI (i)))]) hx hb dL_law_766 hl (by decide) rfl (fun ls hl => ?_)
    refine lv_aload_n hx hb dL_law_768 rfl (lv_at hl 4 rfl) ?_
    refine y_rV (v := 1) (As := []) (rest := []) hx hb hml hown hts hl.1 hc2 (kX7_thrown l D cI cJ cS m0 a cn 1 hs f ) (cwV 0 hts gL_law_X7_thrown rfl rfl rfl jX7_thrown ⟨Nat.le_of_ble_eq_true rfl, Nat.le_of_ble_eq_true rfl⟩) hK [false, false, false, false, false, false, false, false, false, false, false, false, false, false, false, false, false, false, false, false, false, false, false, false, false, false, false, false, false, false, false, false, false, false, false, false, false, false, false, false, false, false, false, false, false, false, false, false, false, false, false, false, false, false, false, false, false, false, false, false, false, false, false, false, false, false, false, false, false, false, false, false, false, false, false, false, false, true] hP (zD hD rfl) rfl 7 0 rfl rfl rfl rfl rfl (Nat.le_of_ble_eq_true rfl) dL_law_769 ?_
    refine lv_iload hx hb dL_law_772 (lv_at hl 1 rfl) ?_
    refine z_icmpR 779 hx hb dL_law_774 (by decide) ?_
    refine lv_iload hx hb dL_law_779 (lv_at hl 1 rfl) ?_
    refine z_if_ne (tgt := 796) hx hb dL_law_781 (by decide) (by omega) (fun c781 => ?_) (fun c781 => ?_)
    · refine lv_goto (tgt := 1700) hx hb dL_law_796 (by decide) ?_
      exact kk _ _ _ ⟨f, ps, n, F, P, N, la, cn, fr, ge, gv, gd, gt, sc, gf, op, tb, sb, 1, hs, gp, e2, v2, d2, t2, r2, f2, w2, go, ok, rep, hla, hcn, hfr0, hp, htr, hh, hP⟩ hS (lv_sub hl [2, 3, 4, 5, 6] rfl)
    · exfalso; omega
