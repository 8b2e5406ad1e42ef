set_option maxHeartbeats 4000000 in
set_option maxRecDepth 100000 in
/-- setBarred -/
theorem lc_3 {p : Program} {e : Env} {s : State} {m : MethodId} {args : Array Value} {below : List Frame} {meth : Method} {c : Code} {Q : State → Prop} {A : Nat → Prop} {H0 : Heap} (l : Launch) (hst : l.stackTraces = false) (D : va_G) (cI cJ cS : ClassId) (ss h0 p0 s0 l0 h1 m0 oa : Nat) (b r w o a : Nat → Nat) (bs : Nat → Nat → Nat) {b0 L : Nat} {xv : Nat → Int}
    (hx : p.tables.exec = Jvm.exec) (hb : c.code = cL_law) (hml : c.maxLocals = 8) (hown : s.vm.findClass RL = some m.cls) (hts : ∀ w ∈ wsL_law, w.before args s = true) (hK : va_K D vwCl (zT cI cJ cS) s) (hZ : xKs A s H0) (hTx : xTx s) (hX : va_X b0 L (fun j => zI (xv j)) s H0) (hbl : b0 < H0.size) (hbA : ¬ A b0) (hL : L < 2147483648) (hxv : ∀ j : Nat, -2147483648 ≤ xv j ∧ xv j < 2147483648) (hD : va_D A (LW cI cJ cS ss h0 p0 s0 l0 h1 m0 oa b r w o a bs (fun _ => 0) (fun _ => 0) 0 (fun _ _ => 0) (fun _ _ => 0) (fun _ => 0) 0 0 0 (fun _ => 0) (fun _ => 0) (fun _ => 0) (fun _ => 0) 0 (fun _ => 0) (fun _ => 0) (fun _ => 0) (fun _ => 0) (fun _ => 0) 0 0 0 (fun _ => 0) (fun _ => 0) (fun _ => 0) (fun _ => 0) (fun _ => 0) (fun _ => 0) (fun _ => 0) (fun _ => 0) (fun _ => 0))) {H : Heap} {locs : List Loc} {cells slots : Nat} {ls : Array Slot} (i : Int) (hi : 0 ≤ i ∧ i + 4 ≤ (L : Int)) (hI : LInv D cI cJ cS ss h0 p0 s0 l0 h1 m0 oa b r w o a bs H) (hS : va_S A H0 H locs) (hl : lv_has ls 8 [(0, .ref b0), (1, .ref ss), (2, .ref m0), (3, .ref oa), (4, .int (zI (i)))]) (hc2 : cells + 1 ≤ 601024 ∧ slots + 6 ≤ 7293034)
    (kk : ∀ (H1 : Heap) (locs1 : List Loc) (ls1 : Array Slot), LInv D cI cJ cS ss h0 p0 s0 l0 h1 m0 oa b r w o a bs H1 → va_S A H0 H1 locs1 → lv_has ls1 8 [(0, .ref b0), (1, .ref ss), (2, .ref m0), (3, .ref oa), (4, .int (zI (i)))] → W p l e room_1 s m args below meth c H1 locs1 (cells + 1) (slots + 6) Q (F0 m 1700 ls1 [])) : W p l e room_1 s m args below meth c H locs cells slots Q (F0 m 384 ls []) := by
  obtain ⟨f, ps, n, F, P, N, la, cn, fr, ge, gv, gd, gt, sc, gf, op, tb, sb, th, hs, gp, e2, v2, d2, t2, r2, f2, w2, go, ok, rep, hla, hcn, hfr0, hp, htr, hh, hP⟩ := hI
  obtain ⟨o0, o1, o2, o3, o4, o5, o7, o8, olim, ogrd, obar, oneed, opost⟩ := id ok
  have hc1 : cells ≤ 601024 ∧ slots ≤ 7293034 := ⟨by omega, by omega⟩
  obtain ⟨x, h_s1⟩ : ∃ x : Int, xv (i + 1).toNat = x := ⟨_, rfl⟩
  have hr_x : -2147483648 ≤ x ∧ x < 2147483648 := by rw [← h_s1]; exact hxv _
  obtain ⟨z, h_s2⟩ : ∃ z : Int, xv (i + 2).toNat = z := ⟨_, rfl⟩
  have hr_z : -2147483648 ≤ z ∧ z < 2147483648 := by rw [← h_s2]; exact hxv _
  obtain ⟨w9, h_s3⟩ : ∃ w9 : Int, xv (i + 3).toNat = w9 := ⟨_, rfl⟩
  have hr_w9 : -2147483648 ≤ w9 ∧ w9 < 2147483648 := by rw [← h_s3]; exact hxv _
  rcases Classical.em (0 ≤ x ∧ x ≤ z ∧ z ≤ f 0) with hY | hN
  · rcases Classical.em (w9 = 0) with hz | hz
    · have hok2 := okF_bar ok hY (Or.inl rfl)
      have hzb := zsm_b (f := zfill f (249 + x) (249 + z) 0) (o := 249) (n := 121) hok2.2.2.2.2.2.2.2.2.2.2.1 (f 0 + 1) (by omega) (by omega)
      refine lv_aload_n hx hb dL_law_384 rfl (lv_at hl 1 rfl) ?_
      refine lv_aload_n hx hb dL_law_385 rfl (lv_at hl 0 rfl) ?_
      refine lv_iload hx hb dL_law_386 (lv_at hl 4 rfl) ?_
      refine z_iconst hx hb dL_law_388 ?_
      refine z_iadd hx hb dL_law_389 ?_
      refine z_sld hx hb hX hbl hbA hS (by omega) hL h_s1 dL_law_390 ?_
      refine lv_aload_n hx hb dL_law_391 rfl (lv_at hl 0 rfl) ?_
      refine lv_iload hx hb dL_law_392 (lv_at hl 4 rfl) ?_
      refine z_iconst hx hb dL_law_394 ?_
      refine z_iadd hx hb dL_law_395 ?_
      refine z_sld hx hb hX hbl hbA hS (by omega) hL h_s2 dL_law_396 ?_
      refine lv_aload_n hx hb dL_law_397 rfl (lv_at hl 0 rfl) ?_
      refine lv_iload hx hb dL_law_398 (lv_at hl 4 rfl) ?_
      refine z_iconst hx hb dL_law_400 ?_
      refine z_iadd hx hb dL_law_401 ?_
      refine z_sld hx hb hX hbl hbA hS (by omega) hL h_s3 dL_law_402 ?_
      refine z_if_eq (tgt := 410) hx hb dL_law_403 (by decide) (by omega) (fun c403 => ?_) (fun c403 => ?_)
      · refine z_iconst hx hb dL_law_410 ?_
        refine lv_aload_n hx hb dL_law_411 rfl (lv_at hl 3 rfl) ?_
        refine y_wSi (As := [.ref ss, .int (zI (x)), .int (zI (z)), .int (zI (0)), .ref oa]) (rest := []) (fun (u412 : Unit) => (LW cI cJ cS ss h0 p0 s0 l0 h1 m0 oa b r w o a bs (zfill f (249 + x) (249 + z) 0) ps n (upS F (nxS la) f) (upS P (nxS la) ps) (upS N (nxS la) n) (nxS la) (cnS cn) 0 ge gv gd gt sc gf op tb sb f cn th hs gp e2 v2 d2 t2 r2 f2 w2 (zup go 0 (zsm (zfill f (249 + x) (249 + z) 0) 249 (f 0 + 1))))) hx hb hml hown hts hl.1 hc1 (kL_setBarred_ok l D cI cJ cS ss h0 p0 s0 l0 b f ps n h1 bs F P N la cn fr r x z 0 oa go ok hla hcn hY (Or.inl rfl)) (vx_cwSW 5 hts gL_law_L_setBarred rfl rfl rfl jL_setBarred.2 ⟨Nat.le_of_ble_eq_true rfl, Nat.le_of_ble_eq_true rfl⟩) hK [true, true, true, true, true, true, true, true, true, true, true, true, true, true, true, true, true, true, true, true, true, true, true, true, true, true, true, true, true, true, true, true, true, true, true, true, true, true, true, true, true, true, true, true, true, true, true, false, false, false, false, false, false, false, false, false, false, true, false, false, false, false, false, false, false, false, true, true, true, true, true, true, true, true, true, true, true, false, false, false, false, false, false, false, false, false, false, true] hP (zD hD rfl) hS rfl (fun _ => rfl) (fun _ => rfl) rfl rfl (Nat.le_of_ble_eq_true rfl) dL_law_412 (fun r412 u412 H locs hu412 hP hS => ?_)
        subst hu412
        refine lv_istore (lv' := [(5, .int (zI (0))), (0, .ref b0), (1, .ref ss), (2, .ref m0), (3, .ref oa), (4, .int (zI (i)))]) hx hb dL_law_415 hl (by decide) rfl (fun ls hl => ?_)
        refine lv_aload_n hx hb dL_law_417 rfl (lv_at hl 3 rfl) ?_
        refine lv_aload_n hx hb dL_law_418 rfl (lv_at hl 1 rfl) ?_
        refine lv_iload hx hb dL_law_419 (lv_at hl 5 rfl) ?_
        refine z_iconst hx hb dL_law_421 ?_
        refine z_iadd hx hb dL_law_422 ?_
        refine z_sld hx hb hX hbl hbA hS (by omega) hL h_s1 dL_law_423 ?_
        refine lv_aload_n hx hb dL_law_424 rfl (lv_at hl 1 rfl) ?_
        refine lv_iload hx hb dL_law_425 (lv_at hl 5 rfl) ?_
        refine z_iconst hx hb dL_law_427 ?_
        refine z_iadd hx hb dL_law_428 ?_
        refine z_sld hx hb hX hbl hbA hS (by omega) hL h_s2 dL_law_429 ?_
        refine lv_aload_n hx hb dL_law_430 rfl (lv_at hl 1 rfl) ?_
        refine lv_iload hx hb dL_law_431 (lv_at hl 5 rfl) ?_
        refine z_iconst hx hb dL_law_433 ?_
        refine z_iadd hx hb dL_law_434 ?_
        refine z_sld hx hb hX hbl hbA hS (by omega) hL h_s3 dL_law_435 ?_
        refine z_if_eq (tgt := 443) hx hb dL_law_436 (by decide) (by omega) (fun c436 => ?_) (fun c436 => ?_)
        · refine z_iconst hx hb dL_law_443 ?_
          refine y_wVi (As := [.int (zI (x)), .int (zI (z)), .int (zI (0))]) (rest := []) (fun (u444 : Unit) => (LW cI cJ cS ss h0 p0 s0 l0 h1 m0 oa b r w o a bs (zfill f (249 + x) (249 + z) 0) ps n (upS F (nxS la) f) (upS P (nxS la) ps) (upS N (nxS la) n) (nxS la) (cnS cn) 0 ge gv gd gt sc gf op tb sb (zfill f (249 + x) (249 + z) 0) (cnS cn) 0 hs (kpF gp f cn) e2 v2 d2 t2 r2 f2 w2 (zup go 0 (zsm (zfill f (249 + x) (249 + z) 0) 249 (f 0 + 1))))) hx hb hml hown hts hl.1 hc1 (kX7_setBarred_ok l D cI cJ cS m0 a cn th hs f gp x z 0 ok hcn hY (Or.inl rfl)) (cwV 3 hts gL_law_X7_setBarred rfl rfl rfl jX7_setBarred ⟨Nat.le_of_ble_eq_true rfl, Nat.le_of_ble_eq_true rfl⟩) hK [false, false, false, false, false, false, false, false, false, false, false, false, false, false, false, false, false, false, false, false, false, false, false, false, false, false, false, false, false, false, false, false, false, false, false, false, false, false, false, false, false, false, false, false, false, false, false, false, false, false, false, false, false, false, false, false, false, false, false, false, false, false, false, false, false, false, false, false, false, false, false, false, false, false, false, false, false, true, true, true] hP (zD hD rfl) hS rfl (fun _ => rfl) (fun _ => rfl) 7 0 rfl rfl rfl rfl rfl (Nat.le_of_ble_eq_true rfl) dL_law_444 (fun r444 u444 H locs hu444 hP hS => ?_)
          subst hu444
          refine lv_istore (lv' := [(6, .int (zI (zsm (zfill f (249 + x) (249 + z) 0) 249 (f 0 + 1)))), (5, .int (zI (0))), (0, .ref b0), (1, .ref ss), (2, .ref m0), (3, .ref oa), (4, .int (zI (i)))]) hx hb dL_law_447 hl (by decide) rfl (fun ls hl => ?_)
          refine lv_aload_n hx hb dL_law_449 rfl (lv_at hl 4 rfl) ?_
          refine y_rV (v := 0) (As := []) (rest := []) hx hb hml hown hts hl.1 hc1 (kX7_thrown l D cI cJ cS m0 a (cnS cn) 0 hs (zfill f (249 + x) (249 + z) 0) ) (cwV 0 hts gL_law_X7_thrown rfl rfl rfl jX7_thrown ⟨Nat.le_of_ble_eq_true rfl, Nat.le_of_ble_eq_true rfl⟩) hK [false, false, false, false, false, false, false, false, false, false, false, false, false, false, false, false, false, false, false, false, false, false, false, false, false, false, false, false, false, false, false, false, false, false, false, false, false, false, false, false, false, false, false, false, false, false, false, false, false, false, false, false, false, false, false, false, false, false, false, false, false, false, false, false, false, false, false, false, false, false, false, false, false, false, false, false, false, true] hP (zD hD rfl) rfl 7 0 rfl rfl rfl rfl rfl (Nat.le_of_ble_eq_true rfl) dL_law_450 ?_
          refine lv_iload hx hb dL_law_453 (lv_at hl 1 rfl) ?_
          refine z_icmpR 460 hx hb dL_law_455 (by decide) ?_
          refine lv_iload hx hb dL_law_460 (lv_at hl 1 rfl) ?_
          refine z_if_ne (tgt := 477) hx hb dL_law_462 (by decide) (by omega) (fun c462 => ?_) (fun c462 => ?_)
          · exfalso; omega
          · refine lv_aload_n hx hb dL_law_465 rfl (lv_at hl 5 rfl) ?_
            refine z_iconst hx hb dL_law_466 ?_
            refine z_lald hx hb hK hP 87 1 rfl rfl (by omega) (Nat.lt_of_succ_le (Nat.le_of_ble_eq_true rfl)) dL_law_467 ?_
            refine z_topL (zsm (zfill f (249 + x) (249 + z) 0) 249 (f 0 + 1)) (zup_at _ _ _) ?_
            refine lv_iload hx hb dL_law_468 (lv_at hl 0 rfl) ?_
            refine z_i2l hx hb dL_law_470 (by omega) ?_
            refine z_lcmpR hx hb dL_law_471 ?_
            refine z_if_eq (tgt := 477) hx hb dL_law_472 (by decide) (by omega) (fun c472 => ?_) (fun c472 => ?_)
            · refine lv_goto (tgt := 1700) hx hb dL_law_477 (by decide) ?_
              refine W.widen (k := cells + 1) (n := slots + 6) (Nat.le_add_right _ _) (Nat.le_add_right _ _) ?_
              exact kk _ _ _ ⟨(zfill f (249 + x) (249 + z) 0), ps, n, upS F (nxS la) f, upS P (nxS la) ps, upS N (nxS la) n, nxS la, cnS cn, 0, ge, gv, gd, gt, sc, gf, op, tb, sb, 0, hs, (kpF gp f cn), e2, v2, d2, t2, r2, f2, w2, (zup go 0 (zsm (zfill f (249 + x) (249 + z) 0) 249 (f 0 + 1))), (okF_bar ok hY (Or.inl rfl)), (rep_ext ok rep (if_neg (by omega)) (fun x9 a9 b9 => if_neg (by omega))), (nxS_b hla), (cnS_b hcn), (Or.inl rfl), (fun h9 => absurd h9 (by decide)), htr, (hst_push ok rep hla hcn hh), hP⟩ hS (lv_sub hl [2, 3, 4, 5, 6] rfl)
            · exfalso; omega
        · exact absurd hz c436
      · exact absurd hz c403
    · have hok2 := okF_bar ok hY (Or.inr rfl)
      have hzb := zsm_b (f := zfill f (249 + x) (249 + z) 1) (o := 249) (n := 121) hok2.2.2.2.2.2.2.2.2.2.2.1 (f 0 + 1) (by omega) (by omega)
      refine lv_aload_n hx hb dL_law_384 rfl (lv_at hl 1 rfl) ?_
      refine lv_aload_n hx hb dL_law_385 rfl (lv_at hl 0 rfl) ?_
      refine lv_iload hx hb dL_law_386 (lv_at hl 4 rfl) ?_
      refine z_iconst hx hb dL_law_388 ?_
      refine z_iadd hx hb dL_law_389 ?_
      refine z_sld hx hb hX hbl hbA hS (by omega) hL h_s1 dL_law_390 ?_
      refine lv_aload_n hx hb dL_law_391 rfl (lv_at hl 0 rfl) ?_
      refine lv_iload hx hb dL_law_392 (lv_at hl 4 rfl) ?_
      refine z_iconst hx hb dL_law_394 ?_
      refine z_iadd hx hb dL_law_395 ?_
      refine z_sld hx hb hX hbl hbA hS (by omega) hL h_s2 dL_law_396 ?_
      refine lv_aload_n hx hb dL_law_397 rfl (lv_at hl 0 rfl) ?_
      refine lv_iload hx hb dL_law_398 (lv_at hl 4 rfl) ?_
      refine z_iconst hx hb dL_law_400 ?_
      refine z_iadd hx hb dL_law_401 ?_
      refine z_sld hx hb hX hbl hbA hS (by omega) hL h_s3 dL_law_402 ?_
      refine z_if_eq (tgt := 410) hx hb dL_law_403 (by decide) (by omega) (fun c403 => ?_) (fun c403 => ?_)
      · exact absurd c403 hz
      · refine z_iconst hx hb dL_law_406 ?_
        refine lv_goto (tgt := 411) hx hb dL_law_407 (by decide) ?_
        refine lv_aload_n hx hb dL_law_411 rfl (lv_at hl 3 rfl) ?_
        refine y_wSi (As := [.ref ss, .int (zI (x)), .int (zI (z)), .int (zI (1)), .ref oa]) (rest := []) (fun (u412 : Unit) => (LW cI cJ cS ss h0 p0 s0 l0 h1 m0 oa b r w o a bs (zfill f (249 + x) (249 + z) 1) ps n (upS F (nxS la) f) (upS P (nxS la) ps) (upS N (nxS la) n) (nxS la) (cnS cn) 0 ge gv gd gt sc gf op tb sb f cn th hs gp e2 v2 d2 t2 r2 f2 w2 (zup go 0 (zsm (zfill f (249 + x) (249 + z) 1) 249 (f 0 + 1))))) hx hb hml hown hts hl.1 hc1 (kL_setBarred_ok l D cI cJ cS ss h0 p0 s0 l0 b f ps n h1 bs F P N la cn fr r x z 1 oa go ok hla hcn hY (Or.inr rfl)) (vx_cwSW 5 hts gL_law_L_setBarred rfl rfl rfl jL_setBarred.2 ⟨Nat.le_of_ble_eq_true rfl, Nat.le_of_ble_eq_true rfl⟩) hK [true, true, true, true, true, true, true, true, true, true, true, true, true, true, true, true, true, true, true, true, true, true, true, true, true, true, true, true, true, true, true, true, true, true, true, true, true, true, true, true, true, true, true, true, true, true, true, false, false, false, false, false, false, false, false, false, false, true, false, false, false, false, false, false, false, false, true, true, true, true, true, true, true, true, true, true, true, false, false, false, false, false, false, false, false, false, false, true] hP (zD hD rfl) hS rfl (fun _ => rfl) (fun _ => rfl) rfl rfl (Nat.le_of_ble_eq_true rfl) dL_law_412 (fun r412 u412 H locs hu412 hP hS => ?_)
        subst hu412
        refine lv_istore (lv' := [(5, .int (zI (0))), (0, .ref b0), (1, .ref ss), (2, .ref m0), (3, .ref oa), (4, .int (zI (i)))]) hx hb dL_law_415 hl (by decide) rfl (fun ls hl => ?_)
        refine lv_aload_n hx hb dL_law_417 rfl (lv_at hl 3 rfl) ?_
        refine lv_aload_n hx hb dL_law_418 rfl (lv_at hl 1 rfl) ?_
        refine lv_iload hx hb dL_law_419 (lv_at hl 5 rfl) ?_
        refine z_iconst hx hb dL_law_421 ?_
        refine z_iadd hx hb dL_law_422 ?_
        refine z_sld hx hb hX hbl hbA hS (by omega) hL h_s1 dL_law_423 ?_
        refine lv_aload_n hx hb dL_law_424 rfl (lv_at hl 1 rfl) ?_
        refine lv_iload hx hb dL_law_425 (lv_at hl 5 rfl) ?_
        refine z_iconst hx hb dL_law_427 ?_
        refine z_iadd hx hb dL_law_428 ?_
        refine z_sld hx hb hX hbl hbA hS (by omega) hL h_s2 dL_law_429 ?_
        refine lv_aload_n hx hb dL_law_430 rfl (lv_at hl 1 rfl) ?_
        refine lv_iload hx hb dL_law_431 (lv_at hl 5 rfl) ?_
        refine z_iconst hx hb dL_law_433 ?_
        refine z_iadd hx hb dL_law_434 ?_
        refine z_sld hx hb hX hbl hbA hS (by omega) hL h_s3 dL_law_435 ?_
        refine z_if_eq (tgt := 443) hx hb dL_law_436 (by decide) (by omega) (fun c436 => ?_) (fun c436 => ?_)
        · exact absurd c436 hz
        · refine z_iconst hx hb dL_law_439 ?_
          refine lv_goto (tgt := 444) hx hb dL_law_440 (by decide) ?_
          refine y_wVi (As := [.int (zI (x)), .int (zI (z)), .int (zI (1))]) (rest := []) (fun (u444 : Unit) => (LW cI cJ cS ss h0 p0 s0 l0 h1 m0 oa b r w o a bs (zfill f (249 + x) (249 + z) 1) ps n (upS F (nxS la) f) (upS P (nxS la) ps) (upS N (nxS la) n) (nxS la) (cnS cn) 0 ge gv gd gt sc gf op tb sb (zfill f (249 + x) (249 + z) 1) (cnS cn) 0 hs (kpF gp f cn) e2 v2 d2 t2 r2 f2 w2 (zup go 0 (zsm (zfill f (249 + x) (249 + z) 1) 249 (f 0 + 1))))) hx hb hml hown hts hl.1 hc1 (kX7_setBarred_ok l D cI cJ cS m0 a cn th hs f gp x z 1 ok hcn hY (Or.inr rfl)) (cwV 3 hts gL_law_X7_setBarred rfl rfl rfl jX7_setBarred ⟨Nat.le_of_ble_eq_true rfl, Nat.le_of_ble_eq_true rfl⟩) hK [false, false, false, false, false, false, false, false, false, false, false, false, false, false, false, false, false, false, false, false, false, false, false, false, false, false, false, false, false, false, false, false, false, false, false, false, false, false, false, false, false, false, false, false, false, false, false, false, false, false, false, false, false, false, false, false, false, false, false, false, false, false, false, false, false, false, false, false, false, false, false, false, false, false, false, false, false, true, true, true] hP (zD hD rfl) hS rfl (fun _ => rfl) (fun _ => rfl) 7 0 rfl rfl rfl rfl rfl (Nat.le_of_ble_eq_true rfl) dL_law_444 (fun r444 u444 H locs hu444 hP hS => ?_)
          subst hu444
          refine lv_istore (lv' := [(6, .int (zI (zsm (zfill f (249 + x) (249 + z) 1) 249 (f 0 + 1)))), (5, .int (zI (0))), (0, .ref b0), (1, .ref ss), (2, .ref m0), (3, .ref oa), (4, .int (zI (i)))]) hx hb dL_law_447 hl (by decide) rfl (fun ls hl => ?_)
          refine lv_aload_n hx hb dL_law_449 rfl (lv_at hl 4 rfl) ?_
          refine y_rV (v := 0) (As := []) (rest := []) hx hb hml hown hts hl.1 hc1 (kX7_thrown l D cI cJ cS m0 a (cnS cn) 0 hs (zfill f (249 + x) (249 + z) 1) ) (cwV 0 hts gL_law_X7_thrown rfl rfl rfl jX7_thrown ⟨Nat.le_of_ble_eq_true rfl, Nat.le_of_ble_eq_true rfl⟩) hK [false, false, false, false, false, false, false, false, false, false, false, false, false, false, false, false, false, false, false, false, false, false, false, false, false, false, false, false, false, false, false, false, false, false, false, false, false, false, false, false, false, false, false, false, false, false, false, false, false, false, false, false, false, false, false, false, false, false, false, false, false, false, false, false, false, false, false, false, false, false, false, false, false, false, false, false, false, true] hP (zD hD rfl) rfl 7 0 rfl rfl rfl rfl rfl (Nat.le_of_ble_eq_true rfl) dL_law_450 ?_
          refine lv_iload hx hb dL_law_453 (lv_at hl 1 rfl) ?_
          refine z_icmpR 460 hx hb dL_law_455 (by decide) ?_
          refine lv_iload hx hb dL_law_460 (lv_at hl 1 rfl) ?_
          refine z_if_ne (tgt := 477) hx hb dL_law_462 (by decide) (by omega) (fun c462 => ?_) (fun c462 => ?_)
          · exfalso; omega
          · refine lv_aload_n hx hb dL_law_465 rfl (lv_at hl 5 rfl) ?_
            refine z_iconst hx hb dL_law_466 ?_
            refine z_lald hx hb hK hP 87 1 rfl rfl (by omega) (Nat.lt_of_succ_le (Nat.le_of_ble_eq_true rfl)) dL_law_467 ?_
            refine z_topL (zsm (zfill f (249 + x) (249 + z) 1) 249 (f 0 + 1)) (zup_at _ _ _) ?_
            refine lv_iload hx hb dL_law_468 (lv_at hl 0 rfl) ?_
            refine z_i2l hx hb dL_law_470 (by omega) ?_
            refine z_lcmpR hx hb dL_law_471 ?_
            refine z_if_eq (tgt := 477) hx hb dL_law_472 (by decide) (by omega) (fun c472 => ?_) (fun c472 => ?_)
            · refine lv_goto (tgt := 1700) hx hb dL_law_477 (by decide) ?_
              refine W.widen (k := cells + 1) (n := slots + 6) (Nat.le_add_right _ _) (Nat.le_add_right _ _) ?_
              exact kk _ _ _ ⟨(zfill f (249 + x) (249 + z) 1), ps, n, upS F (nxS la) f, upS P (nxS la) ps, upS N (nxS la) n, nxS la, cnS cn, 0, ge, gv, gd, gt, sc, gf, op, tb, sb, 0, hs, (kpF gp f cn), e2, v2, d2, t2, r2, f2, w2, (zup go 0 (zsm (zfill f (249 + x) (249 + z) 1) 249 (f 0 + 1))), (okF_bar ok hY (Or.inr rfl)), (rep_ext ok rep (if_neg (by omega)) (fun x9 a9 b9 => if_neg (by omega))), (nxS_b hla), (cnS_b hcn), (Or.inl rfl), (fun h9 => absurd h9 (by decide)), htr, (hst_push ok rep hla hcn hh), hP⟩ hS (lv_sub hl [2, 3, 4, 5, 6] rfl)
            · exfalso; omega
  · rcases Classical.em (w9 = 0) with hz | hz
    · refine lv_aload_n hx hb dL_law_384 rfl (lv_at hl 1 rfl) ?_
      refine lv_aload_n hx hb dL_law_385 rfl (lv_at hl 0 rfl) ?_
      refine lv_iload hx hb dL_law_386 (lv_at hl 4 rfl) ?_
      refine z_iconst hx hb dL_law_388 ?_
      refine z_iadd hx hb dL_law_389 ?_
      refine z_sld hx hb hX hbl hbA hS (by omega) hL h_s1 dL_law_390 ?_
      refine lv_aload_n hx hb dL_law_391 rfl (lv_at hl 0 rfl) ?_
      refine lv_iload hx hb dL_law_392 (lv_at hl 4 rfl) ?_
      refine z_iconst hx hb dL_law_394 ?_
      refine z_iadd hx hb dL_law_395 ?_
      refine z_sld hx hb hX hbl hbA hS (by omega) hL h_s2 dL_law_396 ?_
      refine lv_aload_n hx hb dL_law_397 rfl (lv_at hl 0 rfl) ?_
      refine lv_iload hx hb dL_law_398 (lv_at hl 4 rfl) ?_
      refine z_iconst hx hb dL_law_400 ?_
      refine z_iadd hx hb dL_law_401 ?_
      refine z_sld hx hb hX hbl hbA hS (by omega) hL h_s3 dL_law_402 ?_
      refine z_if_eq (tgt := 410) hx hb dL_law_403 (by decide) (by omega) (fun c403 => ?_) (fun c403 => ?_)
      · refine z_iconst hx hb dL_law_410 ?_
        refine lv_aload_n hx hb dL_law_411 rfl (lv_at hl 3 rfl) ?_
        refine y_wSx (As := [.ref ss, .int (zI (x)), .int (zI (z)), .int (zI (0)), .ref oa]) (rest := []) (fun (u412 : Unit) => (LW cI cJ cS ss h0 p0 s0 l0 h1 m0 oa b r w o a bs f ps n F P N la cn fr ge gv gd gt sc gf op tb sb f cn th hs gp e2 v2 d2 t2 r2 f2 w2 go)) hx hb hml hown hts hl.1 hc2 (nL_setBarred l D cI cJ cS ss h0 p0 s0 l0 b f ps n x z 0 oa go ok hN hr_x hr_z (by decide) hst) (vx_cwSW 5 hts gL_law_L_setBarred rfl rfl rfl jL_setBarred.2 ⟨Nat.le_of_ble_eq_true rfl, Nat.le_of_ble_eq_true rfl⟩) hK [true, false, false, false, false, false, false, false, false, false, false, false, false, false, false, false, false, false, false, false, false, false, false, false, false, false, false, false, false, false, false, false, false, false, false, false, false, false, false, false, false, false, false, false, false, false, false, false, false, false, false, false, false, false, false, false, false, false, false, false, false, false, false, false, false, false, true, true, true, true, true, true, true, true, true, true, true, false, false, false, false, false, false, false, false, false, false, true] hP (zD hD rfl) hS hZ hTx rfl (fun _ => rfl) (fun _ => rfl) rfl rfl (Nat.le_of_ble_eq_true rfl) dL_law_412 (fun r412 u412 H locs hu412 hP hS => ?_)
        subst hu412
        refine lv_istore (lv' := [(5, .int (zI (1))), (0, .ref b0), (1, .ref ss), (2, .ref m0), (3, .ref oa), (4, .int (zI (i)))]) hx hb dL_law_415 hl (by decide) rfl (fun ls hl => ?_)
        refine lv_aload_n hx hb dL_law_417 rfl (lv_at hl 3 rfl) ?_
        refine lv_aload_n hx hb dL_law_418 rfl (lv_at hl 1 rfl) ?_
        refine lv_iload hx hb dL_law_419 (lv_at hl 5 rfl) ?_
        refine z_iconst hx hb dL_law_421 ?_
        refine z_iadd hx hb dL_law_422 ?_
        refine z_sld hx hb hX hbl hbA hS (by omega) hL h_s1 dL_law_423 ?_
        refine lv_aload_n hx hb dL_law_424 rfl (lv_at hl 1 rfl) ?_
        refine lv_iload hx hb dL_law_425 (lv_at hl 5 rfl) ?_
        refine z_iconst hx hb dL_law_427 ?_
        refine z_iadd hx hb dL_law_428 ?_
        refine z_sld hx hb hX hbl hbA hS (by omega) hL h_s2 dL_law_429 ?_
        refine lv_aload_n hx hb dL_law_430 rfl (lv_at hl 1 rfl) ?_
        refine lv_iload hx hb dL_law_431 (lv_at hl 5 rfl) ?_
        refine z_iconst hx hb dL_law_433 ?_
        refine z_iadd hx hb dL_law_434 ?_
        refine z_sld hx hb hX hbl hbA hS (by omega) hL h_s3 dL_law_435 ?_
        refine z_if_eq (tgt := 443) hx hb dL_law_436 (by decide) (by omega) (fun c436 => ?_) (fun c436 => ?_)
        · refine z_iconst hx hb dL_law_443 ?_
          refine y_wVi (As := [.int (zI (x)), .int (zI (z)), .int (zI (0))]) (rest := []) (fun (u444 : Unit) => (LW cI cJ cS ss h0 p0 s0 l0 h1 m0 oa b r w o a bs f ps n F P N la cn fr ge gv gd gt sc gf op tb sb f cn 1 hs gp e2 v2 d2 t2 r2 f2 w2 go)) hx hb hml hown hts hl.1 hc2 (kX7_setBarred_no l D cI cJ cS m0 a cn th hs f x z 0 ok hN hr_x hr_z (Or.inl rfl)) (cwV 3 hts gL_law_X7_setBarred rfl rfl rfl jX7_setBarred ⟨Nat.le_of_ble_eq_true rfl, Nat.le_of_ble_eq_true rfl⟩) hK [false, false, false, false, false, false, false, false, false, false, false, false, false, false, false, false, false, false, false, false, false, false, false, false, false, false, false, false, false, false, false, false, false, false, false, false, false, false, false, false, false, false, false, false, false, false, false, false, false, false, false, false, false, false, false, false, false, false, false, false, false, false, false, false, false, false, false, false, false, false, false, false, false, false, false, false, false, true, true] hP (zD hD rfl) hS rfl (fun _ => rfl) (fun _ => rfl) 7 0 rfl rfl rfl rfl rfl (Nat.le_of_ble_eq_true rfl) dL_law_444 (fun r444 u444 H locs hu444 hP hS => ?_)
          subst hu444
          refine lv_istore (lv' := [(6, .int (zI (0))), (5, .int (zI (1))), (0, .ref b0), (1, .ref ss), (2, .ref m0), (3, .ref oa), (4, .int (zI (i)))]) hx hb dL_law_447 hl (by decide) rfl (fun ls hl => ?_)
          refine lv_aload_n hx hb dL_law_449 rfl (lv_at hl 4 rfl) ?_
          refine y_rV (v := 1) (As := []) (rest := []) hx hb hml hown hts hl.1 hc2 (kX7_thrown l D cI cJ cS m0 a cn 1 hs f ) (cwV 0 hts gL_law_X7_thrown rfl rfl rfl jX7_thrown ⟨Nat.le_of_ble_eq_true rfl, Nat.le_of_ble_eq_true rfl⟩) hK [false, false, false, false, false, false, false, false, false, false, false, false, false, false, false, false, false, false, false, false, false, false, false, false, false, false, false, false, false, false, false, false, false, false, false, false, false, false, false, false, false, false, false, false, false, false, false, false, false, false, false, false, false, false, false, false, false, false, false, false, false, false, false, false, false, false, false, false, false, false, false, false, false, false, false, false, false, true] hP (zD hD rfl) rfl 7 0 rfl rfl rfl rfl rfl (Nat.le_of_ble_eq_true rfl) dL_law_450 ?_
          refine lv_iload hx hb dL_law_453 (lv_at hl 1 rfl) ?_
          refine z_icmpR 460 hx hb dL_law_455 (by decide) ?_
          refine lv_iload hx hb dL_law_460 (lv_at hl 1 rfl) ?_
          refine z_if_ne (tgt := 477) hx hb dL_law_462 (by decide) (by omega) (fun c462 => ?_) (fun c462 => ?_)
          · refine lv_goto (tgt := 1700) hx hb dL_law_477 (by decide) ?_
            exact kk _ _ _ ⟨f, ps, n, F, P, N, la, cn, fr, ge, gv, gd, gt, sc, gf, op, tb, sb, 1, hs, gp, e2, v2, d2, t2, r2, f2, w2, go, ok, rep, hla, hcn, hfr0, hp, htr, hh, hP⟩ hS (lv_sub hl [2, 3, 4, 5, 6] rfl)
          · exfalso; omega
        · exact absurd hz c436
      · exact absurd hz c403
    · refine lv_aload_n hx hb dL_law_384 rfl (lv_at hl 1 rfl) ?_
      refine lv_aload_n hx hb dL_law_385 rfl (lv_at hl 0 rfl) ?_
      refine lv_iload hx hb dL_law_386 (lv_at hl 4 rfl) ?_
      refine z_iconst hx hb dL_law_388 ?_
      refine z_iadd hx hb dL_law_389 ?_
      refine z_sld hx hb hX hbl hbA hS (by omega) hL h_s1 dL_law_390 ?_
      refine lv_aload_n hx hb dL_law_391 rfl (lv_at hl 0 rfl) ?_
      refine lv_iload hx hb dL_law_392 (lv_at hl 4 rfl) ?_
      refine z_iconst hx hb dL_law_394 ?_
      refine z_iadd hx hb dL_law_395 ?_
      refine z_sld hx hb hX hbl hbA hS (by omega) hL h_s2 dL_law_396 ?_
      refine lv_aload_n hx hb dL_law_397 rfl (lv_at hl 0 rfl) ?_
      refine lv_iload hx hb dL_law_398 (lv_at hl 4 rfl) ?_
      refine z_iconst hx hb dL_law_400 ?_
      refine z_iadd hx hb dL_law_401 ?_
      refine z_sld hx hb hX hbl hbA hS (by omega) hL h_s3 dL_law_402 ?_
      refine z_if_eq (tgt := 410) hx hb dL_law_403 (by decide) (by omega) (fun c403 => ?_) (fun c403 => ?_)
      · exact absurd c403 hz
      · refine z_iconst hx hb dL_law_406 ?_
        refine lv_goto (tgt := 411) hx hb dL_law_407 (by decide) ?_
        refine lv_aload_n hx hb dL_law_411 rfl (lv_at hl 3 rfl) ?_
        refine y_wSx (As := [.ref ss, .int (zI (x)), .int (zI (z)), .int (zI (1)), .ref oa]) (rest := []) (fun (u412 : Unit) => (LW cI cJ cS ss h0 p0 s0 l0 h1 m0 oa b r w o a bs f ps n F P N la cn fr ge gv gd gt sc gf op tb sb f cn th hs gp e2 v2 d2 t2 r2 f2 w2 go)) hx hb hml hown hts hl.1 hc2 (nL_setBarred l D cI cJ cS ss h0 p0 s0 l0 b f ps n x z 1 oa go ok hN hr_x hr_z (by decide) hst) (vx_cwSW 5 hts gL_law_L_setBarred rfl rfl rfl jL_setBarred.2 ⟨Nat.le_of_ble_eq_true rfl, Nat.le_of_ble_eq_true rfl⟩) hK [true, false, false, false, false, false, false, false, false, false, false, false, false, false, false, false, false, false, false, false, false, false, false, false, false, false, false, false, false, false, false, false, false, false, false, false, false, false, false, false, false, false, false, false, false, false, false, false, false, false, false, false, false, false, false, false, false, false, false, false, false, false, false, false, false, false, true, true, true, true, true, true, true, true, true, true, true, false, false, false, false, false, false, false, false, false, false, true] hP (zD hD rfl) hS hZ hTx rfl (fun _ => rfl) (fun _ => rfl) rfl rfl (Nat.le_of_ble_eq_true rfl) dL_law_412 (fun r412 u412 H locs hu412 hP hS => ?_)
        subst hu412
        refine lv_istore (lv' := [(5, .int (zI (1))), (0, .ref b0), (1, .ref ss), (2, .ref m0), (3, .ref oa), (4, .int (zI (i)))]) hx hb dL_law_415 hl (by decide) rfl (fun ls hl => ?_)
        refine lv_aload_n hx hb dL_law_417 rfl (lv_at hl 3 rfl) ?_
        refine lv_aload_n hx hb dL_law_418 rfl (lv_at hl 1 rfl) ?_
        refine lv_iload hx hb dL_law_419 (lv_at hl 5 rfl) ?_
        refine z_iconst hx hb dL_law_421 ?_
        refine z_iadd hx hb dL_law_422 ?_
        refine z_sld hx hb hX hbl hbA hS (by omega) hL h_s1 dL_law_423 ?_
        refine lv_aload_n hx hb dL_law_424 rfl (lv_at hl 1 rfl) ?_
        refine lv_iload hx hb dL_law_425 (lv_at hl 5 rfl) ?_
        refine z_iconst hx hb dL_law_427 ?_
        refine z_iadd hx hb dL_law_428 ?_
        refine z_sld hx hb hX hbl hbA hS (by omega) hL h_s2 dL_law_429 ?_
        refine lv_aload_n hx hb dL_law_430 rfl (lv_at hl 1 rfl) ?_
        refine lv_iload hx hb dL_law_431 (lv_at hl 5 rfl) ?_
        refine z_iconst hx hb dL_law_433 ?_
        refine z_iadd hx hb dL_law_434 ?_
        refine z_sld hx hb hX hbl hbA hS (by omega) hL h_s3 dL_law_435 ?_
        refine z_if_eq (tgt := 443) hx hb dL_law_436 (by decide) (by omega) (fun c436 => ?_) (fun c436 => ?_)
        · exact absurd c436 hz
        · refine z_iconst hx hb dL_law_439 ?_
          refine lv_goto (tgt := 444) hx hb dL_law_440 (by decide) ?_
          refine y_wVi (As := [.int (zI (x)), .int (zI (z)), .int (zI (1))]) (rest := []) (fun (u444 : Unit) => (LW cI cJ cS ss h0 p0 s0 l0 h1 m0 oa b r w o a bs f ps n F P N la cn fr ge gv gd gt sc gf op tb sb f cn 1 hs gp e2 v2 d2 t2 r2 f2 w2 go)) hx hb hml hown hts hl.1 hc2 (kX7_setBarred_no l D cI cJ cS m0 a cn th hs f x z 1 ok hN hr_x hr_z (Or.inr rfl)) (cwV 3 hts gL_law_X7_setBarred rfl rfl rfl jX7_setBarred ⟨Nat.le_of_ble_eq_true rfl, Nat.le_of_ble_eq_true rfl⟩) hK [false, false, false, false, false, false, false, false, false, false, false, false, false, false, false, false, false, false, false, false, false, false, false, false, false, false, false, false, false, false, false, false, false, false, false, false, false, false, false, false, false, false, false, false, false, false, false, false, false, false, false, false, false, false, false, false, false, false, false, false, false, false, false, false, false, false, false, false, false, false, false, false, false, false, false, false, false, true, true] hP (zD hD rfl) hS rfl (fun _ => rfl) (fun _ => rfl) 7 0 rfl rfl rfl rfl rfl (Nat.le_of_ble_eq_true rfl) dL_law_444 (fun r444 u444 H locs hu444 hP hS => ?_)
          subst hu444
          refine lv_istore (lv' := [(6, .int (zI (0))), (5, .int (zI (1))), (0, .ref b0), (1, .ref ss), (2, .ref m0), (3, .ref oa), (4, .int (zI (i)))]) hx hb dL_law_447 hl (by decide) rfl (fun ls hl => ?_)
          refine lv_aload_n hx hb dL_law_449 rfl (lv_at hl 4 rfl) ?_
          refine y_rV (v := 1) (As := []) (rest := []) hx hb hml hown hts hl.1 hc2 (kX7_thrown l D cI cJ cS m0 a cn 1 hs f ) (cwV 0 hts gL_law_X7_thrown rfl rfl rfl jX7_thrown ⟨Nat.le_of_ble_eq_true rfl, Nat.le_of_ble_eq_true rfl⟩) hK [false, false, false, false, false, false, false, false, false, false, false, false, false, false, false, false, false, false, false, false, false, false, false, false, false, false, false, false, false, false, false, false, false, false, false, false, false, false, false, false, false, false, false, false, false, false, false, false, false, false, false, false, false, false, false, false, false, false, false, false, false, false, false, false, false, false, false, false, false, false, false, false, false, false, false, false, false, true] hP (zD hD rfl) rfl 7 0 rfl rfl rfl rfl rfl (Nat.le_of_ble_eq_true rfl) dL_law_450 ?_
          refine lv_iload hx hb dL_law_453 (lv_at hl 1 rfl) ?_
          refine z_icmpR 460 hx hb dL_law_455 (by decide) ?_
          refine lv_iload hx hb dL_law_460 (lv_at hl 1 rfl) ?_
          refine z_if_ne (tgt := 477) hx hb dL_law_462 (by decide) (by omega) (fun c462 => ?_) (fun c462 => ?_)
          · refine lv_goto (tgt := 1700) hx hb dL_law_477 (by decide) ?_
            exact kk _ _ _ ⟨f, ps, n, F, P, N, la, cn, fr, ge, gv, gd, gt, sc, gf, op, tb, sb, 1, hs, gp, e2, v2, d2, t2, r2, f2, w2, go, ok, rep, hla, hcn, hfr0, hp, htr, hh, hP⟩ hS (lv_sub hl [2, 3, 4, 5, 6] rfl)
          · exfalso; omega

set_option maxHeartbeats 4000000 in
set_option maxRecDepth 100000 in
/-- setRequired -/
theorem lc_4 {p : Program} {e : Env} {s : State} {m : MethodId} {args : Array Value} {below : List Frame} {meth : Method} {c : Code} {Q : State → Prop} {A : Nat → Prop} {H0 : Heap} (l : Launch) (hst : l.stackTraces = false) (D : va_G) (cI cJ cS : ClassId) (ss h0 p0 s0 l0 h1 m0 oa : Nat) (b r w o a : Nat → Nat) (bs : Nat → Nat → Nat) {b0 L : Nat} {xv : Nat → Int}
    (hx : p.tables.exec = Jvm.exec) (hb : c.code = cL_law) (hml : c.maxLocals = 8) (hown : s.vm.findClass RL = some m.cls) (hts : ∀ w ∈ wsL_law, w.before args s = true) (hK : va_K D vwCl (zT cI cJ cS) s) (hZ : xKs A s H0) (hTx : xTx s) (hX : va_X b0 L (fun j => zI (xv j)) s H0) (hbl : b0 < H0.size) (hbA : ¬ A b0) (hL : L < 2147483648) (hxv : ∀ j : Nat, -2147483648 ≤ xv j ∧ xv j < 2147483648) (hD : va_D A (LW cI cJ cS ss h0 p0 s0 l0 h1 m0 oa b r w o a bs (fun _ => 0) (fun _ => 0) 0 (fun _ _ => 0) (fun _ _ => 0) (fun _ => 0) 0 0 0 (fun _ => 0) (fun _ => 0) (fun _ => 0) (fun _ => 0) 0 (fun _ => 0) (fun _ => 0) (fun _ => 0) (fun _ => 0) (fun _ => 0) 0 0 0 (fun _ => 0) (fun _ => 0) (fun _ => 0) (fun _ => 0) (fun _ => 0) (fun _ => 0) (fun _ => 0) (fun _ => 0) (fun _ => 0))) {H : Heap} {locs : List Loc} {cells slots : Nat} {ls : Array Slot} (i : Int) (hi : 0 ≤ i ∧ i + 4 ≤ (L : Int)) (hI : LInv D cI cJ cS ss h0 p0 s0 l0 h1 m0 oa b r w o a bs H) (hS : va_S A H0 H locs) (hl : lv_has ls 8 [(0, .ref b0), (1, .ref ss), (2, .ref m0), (3, .ref oa), (4, .int (zI (i)))]) (hc2 : cells + 1 ≤ 601024 ∧ slots + 6 ≤ 7293034)
    (kk : ∀ (H1 : Heap) (locs1 : List Loc) (ls1 : Array Slot), LInv D cI cJ cS ss h0 p0 s0 l0 h1 m0 oa b r w o a bs H1 → va_S A H0 H1 locs1 → lv_has ls1 8 [(0, .ref b0), (1, .ref ss), (2, .ref m0), (3, .ref oa), (4, .int (zI (i)))] → W p l e room_1 s m args below meth c H1 locs1 (cells + 1) (slots + 6) Q (F0 m 1700 ls1 [])) : W p l e room_1 s m args below meth c H locs cells slots Q (F0 m 480 ls []) := by
  obtain ⟨f, ps, n, F, P, N, la, cn, fr, ge, gv, gd, gt, sc, gf, op, tb, sb, th, hs, gp, e2, v2, d2, t2, r2, f2, w2, go, ok, rep, hla, hcn, hfr0, hp, htr, hh, hP⟩ := hI
  obtain ⟨o0, o1, o2, o3, o4, o5, o7, o8, olim, ogrd, obar, oneed, opost⟩ := id ok
  have hc1 : cells ≤ 601024 ∧ slots ≤ 7293034 := ⟨by omega, by omega⟩
  obtain ⟨x, h_s1⟩ : ∃ x : Int, xv (i + 1).toNat = x := ⟨_, rfl⟩
  have hr_x : -2147483648 ≤ x ∧ x < 2147483648 := by rw [← h_s1]; exact hxv _
  obtain ⟨w9, h_s2⟩ : ∃ w9 : Int, xv (i + 2).toNat = w9 := ⟨_, rfl⟩
  have hr_w9 : -2147483648 ≤ w9 ∧ w9 < 2147483648 := by rw [← h_s2]; exact hxv _
  rcases Classical.em (0 ≤ x ∧ x ≤ f 0) with hY | hN
  · rcases Classical.em (w9 = 0) with hz | hz
    · have hzb9 := zB_01 (f (370 + x) = 1)
      refine lv_aload_n hx hb dL_law_480 rfl (lv_at hl 1 rfl) ?_
      refine lv_aload_n hx hb dL_law_481 rfl (lv_at hl 0 rfl) ?_
      refine lv_iload hx hb dL_law_482 (lv_at hl 4 rfl) ?_
      refine z_iconst hx hb dL_law_484 ?_
      refine z_iadd hx hb dL_law_485 ?_
      refine z_sld hx hb hX hbl hbA hS (by omega) hL h_s1 dL_law_486 ?_
      refine lv_aload_n hx hb dL_law_487 rfl (lv_at hl 0 rfl) ?_
      refine lv_iload hx hb dL_law_488 (lv_at hl 4 rfl) ?_
      refine z_iconst hx hb dL_law_490 ?_
      refine z_iadd hx hb dL_law_491 ?_
      refine z_sld hx hb hX hbl hbA hS (by omega) hL h_s2 dL_law_492 ?_
      refine z_if_eq (tgt := 500) hx hb dL_law_493 (by decide) (by omega) (fun c493 => ?_) (fun c493 => ?_)
      · refine z_iconst hx hb dL_law_500 ?_
        refine lv_aload_n hx hb dL_law_501 rfl (lv_at hl 3 rfl) ?_
        refine y_wSi (As := [.ref ss, .int (zI (x)), .int (zI (0)), .ref oa]) (rest := []) (fun (u502 : Unit) => (LW cI cJ cS ss h0 p0 s0 l0 h1 m0 oa b r w o a bs (zfill f (370 + x) (370 + x) 0) ps n (upS F (nxS la) f) (upS P (nxS la) ps) (upS N (nxS la) n) (nxS la) (cnS cn) 0 ge gv gd gt sc gf op tb sb f cn th hs gp e2 v2 d2 t2 r2 f2 w2 (zup go 0 (zB (f (370 + x) = 1))))) hx hb hml hown hts hl.1 hc1 (kL_setRequired_ok l D cI cJ cS ss h0 p0 s0 l0 b f ps n h1 bs F P N la cn fr r x 0 oa go ok hla hcn hY (Or.inl rfl)) (vx_cwSW 4 hts gL_law_L_setRequired rfl rfl rfl jL_setRequired.2 ⟨Nat.le_of_ble_eq_true rfl, Nat.le_of_ble_eq_true rfl⟩) hK [true, true, true, true, true, true, true, true, true, true, true, true, true, true, true, true, true, true, true, true, true, true, true, true, true, true, true, true, true, true, true, true, true, true, true, true, true, true, true, true, true, true, true, true, true, true, true, false, false, false, false, false, false, false, false, false, false, true, false, false, false, false, false, false, false, false, true, true, true, true, true, true, true, true, true, true, true, false, false, false, false, false, false, false, false, false, false, true] hP (zD hD rfl) hS rfl (fun _ => rfl) (fun _ => rfl) rfl rfl (Nat.le_of_ble_eq_true rfl) dL_law_502 (fun r502 u502 H locs hu502 hP hS => ?_)
        subst hu502
        refine lv_istore (lv' := [(5, .int (zI (0))), (0, .ref b0), (1, .ref ss), (2, .ref m0), (3, .ref oa), (4, .int (zI (i)))]) hx hb dL_law_505 hl (by decide) rfl (fun ls hl => ?_)
        refine lv_aload_n hx hb dL_law_507 rfl (lv_at hl 3 rfl) ?_
        refine lv_aload_n hx hb dL_law_508 rfl (lv_at hl 1 rfl) ?_
        refine lv_iload hx hb dL_law_509 (lv_at hl 5 rfl) ?_
        refine z_iconst hx hb dL_law_511 ?_
        refine z_iadd hx hb dL_law_512 ?_
        refine z_sld hx hb hX hbl hbA hS (by omega) hL h_s1 dL_law_513 ?_
        refine lv_aload_n hx hb dL_law_514 rfl (lv_at hl 1 rfl) ?_
        refine lv_iload hx hb dL_law_515 (lv_at hl 5 rfl) ?_
        refine z_iconst hx hb dL_law_517 ?_
        refine z_iadd hx hb dL_law_518 ?_
        refine z_sld hx hb hX hbl hbA hS (by omega) hL h_s2 dL_law_519 ?_
        refine z_if_eq (tgt := 527) hx hb dL_law_520 (by decide) (by omega) (fun c520 => ?_) (fun c520 => ?_)
        · refine z_iconst hx hb dL_law_527 ?_
          refine y_wVi (As := [.int (zI (x)), .int (zI (0))]) (rest := []) (fun (u528 : Unit) => (LW cI cJ cS ss h0 p0 s0 l0 h1 m0 oa b r w o a bs (zfill f (370 + x) (370 + x) 0) ps n (upS F (nxS la) f) (upS P (nxS la) ps) (upS N (nxS la) n) (nxS la) (cnS cn) 0 ge gv gd gt sc gf op tb sb (zfill f (370 + x) (370 + x) 0) (cnS cn) 0 hs (kpF gp f cn) e2 v2 d2 t2 r2 f2 w2 (zup go 0 (zB (f (370 + x) = 1))))) hx hb hml hown hts hl.1 hc1 (kX7_setRequired_ok l D cI cJ cS m0 a cn th hs f gp x 0 ok hcn hY (Or.inl rfl)) (cwV 2 hts gL_law_X7_setRequired rfl rfl rfl jX7_setRequired ⟨Nat.le_of_ble_eq_true rfl, Nat.le_of_ble_eq_true rfl⟩) hK [false, false, false, false, false, false, false, false, false, false, false, false, false, false, false, false, false, false, false, false, false, false, false, false, false, false, false, false, false, false, false, false, false, false, false, false, false, false, false, false, false, false, false, false, false, false, false, false, false, false, false, false, false, false, false, false, false, false, false, false, false, false, false, false, false, false, false, false, false, false, false, false, false, false, false, false, false, true, true, true] hP (zD hD rfl) hS rfl (fun _ => rfl) (fun _ => rfl) 7 0 rfl rfl rfl rfl rfl (Nat.le_of_ble_eq_true rfl) dL_law_528 (fun r528 u528 H locs hu528 hP hS => ?_)
          subst hu528
          refine lv_istore (lv' := [(6, .int (zI ((zB (f (370 + x) = 1))))), (5, .int (zI (0))), (0, .ref b0), (1, .ref ss), (2, .ref m0), (3, .ref oa), (4, .int (zI (i)))]) hx hb dL_law_531 hl (by decide) rfl (fun ls hl => ?_)
          refine lv_aload_n hx hb dL_law_533 rfl (lv_at hl 4 rfl) ?_
          refine y_rV (v := 0) (As := []) (rest := []) hx hb hml hown hts hl.1 hc1 (kX7_thrown l D cI cJ cS m0 a (cnS cn) 0 hs (zfill f (370 + x) (370 + x) 0) ) (cwV 0 hts gL_law_X7_thrown rfl rfl rfl jX7_thrown ⟨Nat.le_of_ble_eq_true rfl, Nat.le_of_ble_eq_true rfl⟩) hK [false, false, false, false, false, false, false, false, false, false, false, false, false, false, false, false, false, false, false, false, false, false, false, false, false, false, false, false, false, false, false, false, false, false, false, false, false, false, false, false, false, false, false, false, false, false, false, false, false, false, false, false, false, false, false, false, false, false, false, false, false, false, false, false, false, false, false, false, false, false, false, false, false, false, false, false, false, true] hP (zD hD rfl) rfl 7 0 rfl rfl rfl rfl rfl (Nat.le_of_ble_eq_true rfl) dL_law_534 ?_
          refine lv_iload hx hb dL_law_537 (lv_at hl 1 rfl) ?_
          refine z_icmpR 544 hx hb dL_law_539 (by decide) ?_
          refine lv_iload hx hb dL_law_544 (lv_at hl 1 rfl) ?_
          refine z_if_ne (tgt := 568) hx hb dL_law_546 (by decide) (by omega) (fun c546 => ?_) (fun c546 => ?_)
          · exfalso; omega
          · refine lv_aload_n hx hb dL_law_549 rfl (lv_at hl 5 rfl) ?_
            refine z_iconst hx hb dL_law_550 ?_
            refine z_lald hx hb hK hP 87 1 rfl rfl (by omega) (Nat.lt_of_succ_le (Nat.le_of_ble_eq_true rfl)) dL_law_551 ?_
            refine z_topL ((zB (f (370 + x) = 1))) (zup_at _ _ _) ?_
            refine lv_iload hx hb dL_law_552 (lv_at hl 0 rfl) ?_
            refine z_if_eq (tgt := 561) hx hb dL_law_554 (by decide) (by omega) (fun c554 => ?_) (fun c554 => ?_)
            · refine z_lconst hx hb 0 dL_law_561 (by decide +kernel) ?_
              refine z_topL ((zB (f (370 + x) = 1))) c554.symm ?_
              refine z_lcmpR hx hb dL_law_562 ?_
              refine z_if_eq (tgt := 568) hx hb dL_law_563 (by decide) (by omega) (fun c563 => ?_) (fun c563 => ?_)
              · refine lv_goto (tgt := 1700) hx hb dL_law_568 (by decide) ?_
                refine W.widen (k := cells + 1) (n := slots + 6) (Nat.le_add_right _ _) (Nat.le_add_right _ _) ?_
                exact kk _ _ _ ⟨(zfill f (370 + x) (370 + x) 0), ps, n, upS F (nxS la) f, upS P (nxS la) ps, upS N (nxS la) n, nxS la, cnS cn, 0, ge, gv, gd, gt, sc, gf, op, tb, sb, 0, hs, (kpF gp f cn), e2, v2, d2, t2, r2, f2, w2, (zup go 0 (zB (f (370 + x) = 1))), (okF_fill ok (fun j a9 b9 => ⟨by omega, by omega, fun c9 => by omega, fun c9 d9 => by omega, fun c9 => (Or.inl rfl)⟩)), (rep_ext ok rep (if_neg (by omega)) (fun x9 a9 b9 => if_neg (by omega))), (nxS_b hla), (cnS_b hcn), (Or.inl rfl), (fun h9 => absurd h9 (by decide)), htr, (hst_push ok rep hla hcn hh), hP⟩ hS (lv_sub hl [2, 3, 4, 5, 6] rfl)
              · exfalso; omega
            · refine z_lconst hx hb 1 dL_law_557 (by decide +kernel) ?_
              refine lv_goto (tgt := 562) hx hb dL_law_558 (by decide) ?_
              refine z_topL ((zB (f (370 + x) = 1))) (by have h9 := zB_01 (f (370 + x) = 1); omega) ?_
              refine z_lcmpR hx hb dL_law_562 ?_
              refine z_if_eq (tgt := 568) hx hb dL_law_563 (by decide) (by omega) (fun c563 => ?_) (fun c563 => ?_)
              · refine lv_goto (tgt := 1700) hx hb dL_law_568 (by decide) ?_
                refine W.widen (k := cells + 1) (n := slots + 6) (Nat.le_add_right _ _) (Nat.le_add_right _ _) ?_
                exact kk _ _ _ ⟨(zfill f (370 + x) (370 + x) 0), ps, n, upS F (nxS la) f, upS P (nxS la) ps, upS N (nxS la) n, nxS la, cnS cn, 0, ge, gv, gd, gt, sc, gf, op, tb, sb, 0, hs, (kpF gp f cn), e2, v2, d2, t2, r2, f2, w2, (zup go 0 (zB (f (370 + x) = 1))), (okF_fill ok (fun j a9 b9 => ⟨by omega, by omega, fun c9 => by omega, fun c9 d9 => by omega, fun c9 => (Or.inl rfl)⟩)), (rep_ext ok rep (if_neg (by omega)) (fun x9 a9 b9 => if_neg (by omega))), (nxS_b hla), (cnS_b hcn), (Or.inl rfl), (fun h9 => absurd h9 (by decide)), htr, (hst_push ok rep hla hcn hh), hP⟩ hS (lv_sub hl [2, 3, 4, 5, 6] rfl)
              · exfalso; omega
        · exact absurd hz c520
      · exact absurd hz c493
    · have hzb9 := zB_01 (f (370 + x) = 1)
      refine lv_aload_n hx hb dL_law_480 rfl (lv_at hl 1 rfl) ?_
      refine lv_aload_n hx hb dL_law_481 rfl (lv_at hl 0 rfl) ?_
      refine lv_iload hx hb dL_law_482 (lv_at hl 4 rfl) ?_
      refine z_iconst hx hb dL_law_484 ?_
      refine z_iadd hx hb dL_law_485 ?_
      refine z_sld hx hb hX hbl hbA hS (by omega) hL h_s1 dL_law_486 ?_
      refine lv_aload_n hx hb dL_law_487 rfl (lv_at hl 0 rfl) ?_
      refine lv_iload hx hb dL_law_488 (lv_at hl 4 rfl) ?_
      refine z_iconst hx hb dL_law_490 ?_
      refine z_iadd hx hb dL_law_491 ?_
      refine z_sld hx hb hX hbl hbA hS (by omega) hL h_s2 dL_law_492 ?_
      refine z_if_eq (tgt := 500) hx hb dL_law_493 (by decide) (by omega) (fun c493 => ?_) (fun c493 => ?_)
      · exact absurd c493 hz
      · refine z_iconst hx hb dL_law_496 ?_
        refine lv_goto (tgt := 501) hx hb dL_law_497 (by decide) ?_
        refine lv_aload_n hx hb dL_law_501 rfl (lv_at hl 3 rfl) ?_
        refine y_wSi (As := [.ref ss, .int (zI (x)), .int (zI (1)), .ref oa]) (rest := []) (fun (u502 : Unit) => (LW cI cJ cS ss h0 p0 s0 l0 h1 m0 oa b r w o a bs (zfill f (370 + x) (370 + x) 1) ps n (upS F (nxS la) f) (upS P (nxS la) ps) (upS N (nxS la) n) (nxS la) (cnS cn) 0 ge gv gd gt sc gf op tb sb f cn th hs gp e2 v2 d2 t2 r2 f2 w2 (zup go 0 (zB (f (370 + x) = 1))))) hx hb hml hown hts hl.1 hc1 (kL_setRequired_ok l D cI cJ cS ss h0 p0 s0 l0 b f ps n h1 bs F P N la cn fr r x 1 oa go ok hla hcn hY (Or.inr rfl)) (vx_cwSW 4 hts gL_law_L_setRequired rfl rfl rfl jL_setRequired.2 ⟨Nat.le_of_ble_eq_true rfl, Nat.le_of_ble_eq_true rfl⟩) hK [true, true, true, true, true, true, true, true, true, true, true, true, true, true, true, true, true, true, true, true, true, true, true, true, true, true, true, true, true, true, true, true, true, true, true, true, true, true, true, true, true, true, true, true, true, true, true, false, false, false, false, false, false, false, false, false, false, true, false, false, false, false, false, false, false, false, true, true, true, true, true, true, true, true, true, true, true, false, false, false, false, false, false, false, false, false, false, true] hP (zD hD rfl) hS rfl (fun _ => rfl) (fun _ => rfl) rfl rfl (Nat.le_of_ble_eq_true rfl) dL_law_502 (fun r502 u502 H locs hu502 hP hS => ?_)
        subst hu502
        refine lv_istore (lv' := [(5, .int (zI (0))), (0, .ref b0), (1, .ref ss), (2, .ref m0), (3, .ref oa), (4, .int (zI (i)))]) hx hb dL_law_505 hl (by decide) rfl (fun ls hl => ?_)
        refine lv_aload_n hx hb dL_law_507 rfl (lv_at hl 3 rfl) ?_
        refine lv_aload_n hx hb dL_law_508 rfl (lv_at hl 1 rfl) ?_
        refine lv_iload hx hb dL_law_509 (lv_at hl 5 rfl) ?_
        refine z_iconst hx hb dL_law_511 ?_
        refine z_iadd hx hb dL_law_512 ?_
        refine z_sld hx hb hX hbl hbA hS (by omega) hL h_s1 dL_law_513 ?_
        refine lv_aload_n hx hb dL_law_514 rfl (lv_at hl 1 rfl) ?_
        refine lv_iload hx hb dL_law_515 (lv_at hl 5 rfl) ?_
        refine z_iconst hx hb dL_law_517 ?_
        refine z_iadd hx hb dL_law_518 ?_
        refine z_sld hx hb hX hbl hbA hS (by omega) hL h_s2 dL_law_519 ?_
        refine z_if_eq (tgt := 527) hx hb dL_law_520 (by decide) (by omega) (fun c520 => ?_) (fun c520 => ?_)
        · exact absurd c520 hz
        · refine z_iconst hx hb dL_law_523 ?_
          refine lv_goto (tgt := 528) hx hb dL_law_524 (by decide) ?_
          refine y_wVi (As := [.int (zI (x)), .int (zI (1))]) (rest := []) (fun (u528 : Unit) => (LW cI cJ cS ss h0 p0 s0 l0 h1 m0 oa b r w o a bs (zfill f (370 + x) (370 + x) 1) ps n (upS F (nxS la) f) (upS P (nxS la) ps) (upS N (nxS la) n) (nxS la) (cnS cn) 0 ge gv gd gt sc gf op tb sb (zfill f (370 + x) (370 + x) 1) (cnS cn) 0 hs (kpF gp f cn) e2 v2 d2 t2 r2 f2 w2 (zup go 0 (zB (f (370 + x) = 1))))) hx hb hml hown hts hl.1 hc1 (kX7_setRequired_ok l D cI cJ cS m0 a cn th hs f gp x 1 ok hcn hY (Or.inr rfl)) (cwV 2 hts gL_law_X7_setRequired rfl rfl rfl jX7_setRequired ⟨Nat.le_of_ble_eq_true rfl, Nat.le_of_ble_eq_true rfl⟩) hK [false, false, false, false, false, false, false, false, false, false, false, false, false, false, false, false, false, false, false, false, false, false, false, false, false, false, false, false, false, false, false, false, false, false, false, false, false, false, false, false, false, false, false, false, false, false, false, false, false, false, false, false, false, false, false, false, false, false, false, false, false, false, false, false, false, false, false, false, false, false, false, false, false, false, false, false, false, true, true, true] hP (zD hD rfl) hS rfl (fun _ => rfl) (fun _ => rfl) 7 0 rfl rfl rfl rfl rfl (Nat.le_of_ble_eq_true rfl) dL_law_528 (fun r528 u528 H locs hu528 hP hS => ?_)
          subst hu528
          refine lv_istore (lv' := [(6, .int (zI ((zB (f (370 + x) = 1))))), (5, .int (zI (0))), (0, .ref b0), (1, .ref ss), (2, .ref m0), (3, .ref oa), (4, .int (zI (i)))]) hx hb dL_law_531 hl (by decide) rfl (fun ls hl => ?_)
          refine lv_aload_n hx hb dL_law_533 rfl (lv_at hl 4 rfl) ?_
          refine y_rV (v := 0) (As := []) (rest := []) hx hb hml hown hts hl.1 hc1 (kX7_thrown l D cI cJ cS m0 a (cnS cn) 0 hs (zfill f (370 + x) (370 + x) 1) ) (cwV 0 hts gL_law_X7_thrown rfl rfl rfl jX7_thrown ⟨Nat.le_of_ble_eq_true rfl, Nat.le_of_ble_eq_true rfl⟩) hK [false, false, false, false, false, false, false, false, false, false, false, false, false, false, false, false, false, false, false, false, false, false, false, false, false, false, false, false, false, false, false, false, false, false, false, false, false, false, false, false, false, false, false, false, false, false, false, false, false, false, false, false, false, false, false, false, false, false, false, false, false, false, false, false, false, false, false, false, false, false, false, false, false, false, false, false, false, true] hP (zD hD rfl) rfl 7 0 rfl rfl rfl rfl rfl (Nat.le_of_ble_eq_true rfl) dL_law_534 ?_
          refine lv_iload hx hb dL_law_537 (lv_at hl 1 rfl) ?_
          refine z_icmpR 544 hx hb dL_law_539 (by decide) ?_
          refine lv_iload hx hb dL_law_544 (lv_at hl 1 rfl) ?_
          refine z_if_ne (tgt := 568) hx hb dL_law_546 (by decide) (by omega) (fun c546 => ?_) (fun c546 => ?_)
          · exfalso; omega
          · refine lv_aload_n hx hb dL_law_549 rfl (lv_at hl 5 rfl) ?_
            refine z_iconst hx hb dL_law_550 ?_
            refine z_lald hx hb hK hP 87 1 rfl rfl (by omega) (Nat.lt_of_succ_le (Nat.le_of_ble_eq_true rfl)) dL_law_551 ?_
            refine z_topL ((zB (f (370 + x) = 1))) (zup_at _ _ _) ?_
            refine lv_iload hx hb dL_law_552 (lv_at hl 0 rfl) ?_
            refine z_if_eq (tgt := 561) hx hb dL_law_554 (by decide) (by omega) (fun c554 => ?_) (fun c554 => ?_)
            · refine z_lconst hx hb 0 dL_law_561 (by decide +kernel) ?_
              refine z_topL ((zB (f (370 + x) = 1))) c554.symm ?_
              refine z_lcmpR hx hb dL_law_562 ?_
              refine z_if_eq (tgt := 568) hx hb dL_law_563 (by decide) (by omega) (fun c563 => ?_) (fun c563 => ?_)
              · refine lv_goto (tgt := 1700) hx hb dL_law_568 (by decide) ?_
                refine W.widen (k := cells + 1) (n := slots + 6) (Nat.le_add_right _ _) (Nat.le_add_right _ _) ?_
                exact kk _ _ _ ⟨(zfill f (370 + x) (370 + x) 1), ps, n, upS F (nxS la) f, upS P (nxS la) ps, upS N (nxS la) n, nxS la, cnS cn, 0, ge, gv, gd, gt, sc, gf, op, tb, sb, 0, hs, (kpF gp f cn), e2, v2, d2, t2, r2, f2, w2, (zup go 0 (zB (f (370 + x) = 1))), (okF_fill ok (fun j a9 b9 => ⟨by omega, by omega, fun c9 => by omega, fun c9 d9 => by omega, fun c9 => (Or.inr rfl)⟩)), (rep_ext ok rep (if_neg (by omega)) (fun x9 a9 b9 => if_neg (by omega))), (nxS_b hla), (cnS_b hcn), (Or.inl rfl), (fun h9 => absurd h9 (by decide)), htr, (hst_push ok rep hla hcn hh), hP⟩ hS (lv_sub hl [2, 3, 4, 5, 6] rfl)
              · exfalso; omega
            · refine z_lconst hx hb 1 dL_law_557 (by decide +kernel) ?_
              refine lv_goto (tgt := 562) hx hb dL_law_558 (by decide) ?_
              refine z_topL ((zB (f (370 + x) = 1))) (by have h9 := zB_01 (f (370 + x) = 1); omega) ?_
              refine z_lcmpR hx hb dL_law_562 ?_
              refine z_if_eq (tgt := 568) hx hb dL_law_563 (by decide) (by omega) (fun c563 => ?_) (fun c563 => ?_)
              · refine lv_goto (tgt := 1700) hx hb dL_law_568 (by decide) ?_
                refine W.widen (k := cells + 1) (n := slots + 6) (Nat.le_add_right _ _) (Nat.le_add_right _ _) ?_
                exact kk _ _ _ ⟨(zfill f (370 + x) (370 + x) 1), ps, n, upS F (nxS la) f, upS P (nxS la) ps, upS N (nxS la) n, nxS la, cnS cn, 0, ge, gv, gd, gt, sc, gf, op, tb, sb, 0, hs, (kpF gp f cn), e2, v2, d2, t2, r2, f2, w2, (zup go 0 (zB (f (370 + x) = 1))), (okF_fill ok (fun j a9 b9 => ⟨by omega, by omega, fun c9 => by omega, fun c9 d9 => by omega, fun c9 => (Or.inr rfl)⟩)), (rep_ext ok rep (if_neg (by omega)) (fun x9 a9 b9 => if_neg (by omega))), (nxS_b hla), (cnS_b hcn), (Or.inl rfl), (fun h9 => absurd h9 (by decide)), htr, (hst_push ok rep hla hcn hh), hP⟩ hS (lv_sub hl [2, 3, 4, 5, 6] rfl)
              · exfalso; omega
  · rcases Classical.em (w9 = 0) with hz | hz
    · refine lv_aload_n hx hb dL_law_480 rfl (lv_at hl 1 rfl) ?_
      refine lv_aload_n hx hb dL_law_481 rfl (lv_at hl 0 rfl) ?_
      refine lv_iload hx hb dL_law_482 (lv_at hl 4 rfl) ?_
      refine z_iconst hx hb dL_law_484 ?_
      refine z_iadd hx hb dL_law_485 ?_
      refine z_sld hx hb hX hbl hbA hS (by omega) hL h_s1 dL_law_486 ?_
      refine lv_aload_n hx hb dL_law_487 rfl (lv_at hl 0 rfl) ?_
      refine lv_iload hx hb dL_law_488 (lv_at hl 4 rfl) ?_
      refine z_iconst hx hb dL_law_490 ?_
      refine z_iadd hx hb dL_law_491 ?_
      refine z_sld hx hb hX hbl hbA hS (by omega) hL h_s2 dL_law_492 ?_
      refine z_if_eq (tgt := 500) hx hb dL_law_493 (by decide) (by omega) (fun c493 => ?_) (fun c493 => ?_)
      · refine z_iconst hx hb dL_law_500 ?_
        refine lv_aload_n hx hb dL_law_501 rfl (lv_at hl 3 rfl) ?_
        refine y_wSx (As := [.ref ss, .int (zI (x)), .int (zI (0)), .ref oa]) (rest := []) (fun (u502 : Unit) => (LW cI cJ cS ss h0 p0 s0 l0 h1 m0 oa b r w o a bs f ps n F P N la cn fr ge gv gd gt sc gf op tb sb f cn th hs gp e2 v2 d2 t2 r2 f2 w2 go)) hx hb hml hown hts hl.1 hc2 (nL_setRequired l D cI cJ cS ss h0 p0 s0 l0 b f ps n x 0 oa go ok hN hr_x (by decide) hst) (vx_cwSW 4 hts gL_law_L_setRequired rfl rfl rfl jL_setRequired.2 ⟨Nat.le_of_ble_eq_true rfl, Nat.le_of_ble_eq_true rfl⟩) hK [true, false, false, false, false, false, false, false, false, false, false, false, false, false, false, false, false, false, false, false, false, false, false, false, false, false, false, false, false, false, false, false, false, false, false, false, false, false, false, false, false, false, false, false, false, false, false, false, false, false, false, false, false, false, false, false, false, false, false, false, false, false, false, false, false, false, true, true, true, true, true, true, true, true, true, true, true, false, false, false, false, false, false, false, false, false, false, true] hP (zD hD rfl) hS hZ hTx rfl (fun _ => rfl) (fun _ => rfl) rfl rfl (Nat.le_of_ble_eq_true rfl) dL_law_502 (fun r502 u502 H locs hu502 hP hS => ?_)
        subst hu502
        refine lv_istore (lv' := [(5, .int (zI (1))), (0, .ref b0), (1, .ref ss), (2, .ref m0), (3, .ref oa), (4, .int (zI (i)))]) hx hb dL_law_505 hl (by decide) rfl (fun ls hl => ?_)
        refine lv_aload_n hx hb dL_law_507 rfl (lv_at hl 3 rfl) ?_
        refine lv_aload_n hx hb dL_law_508 rfl (lv_at hl 1 rfl) ?_
        refine lv_iload hx hb dL_law_509 (lv_at hl 5 rfl) ?_
        refine z_iconst hx hb dL_law_511 ?_
        refine z_iadd hx hb dL_law_512 ?_
        refine z_sld hx hb hX hbl hbA hS (by omega) hL h_s1 dL_law_513 ?_
        refine lv_aload_n hx hb dL_law_514 rfl (lv_at hl 1 rfl) ?_
        refine lv_iload hx hb dL_law_515 (lv_at hl 5 rfl) ?_
        refine z_iconst hx hb dL_law_517 ?_
        refine z_iadd hx hb dL_law_518 ?_
        refine z_sld hx hb hX hbl hbA hS (by omega) hL h_s2 dL_law_519 ?_
        refine z_if_eq (tgt := 527) hx hb dL_law_520 (by decide) (by omega) (fun c520 => ?_) (fun c520 => ?_)
        · refine z_iconst hx hb dL_law_527 ?_
          refine y_wVi (As := [.int (zI (x)), .int (zI (0))]) (rest := []) (fun (u528 : Unit) => (LW cI cJ cS ss h0 p0 s0 l0 h1 m0 oa b r w o a bs f ps n F P N la cn fr ge gv gd gt sc gf op tb sb f cn 1 hs gp e2 v2 d2 t2 r2 f2 w2 go)) hx hb hml hown hts hl.1 hc2 (kX7_setRequired_no l D cI cJ cS m0 a cn th hs f x 0 ok hN hr_x) (cwV 2 hts gL_law_X7_setRequired rfl rfl rfl jX7_setRequired ⟨Nat.le_of_ble_eq_true rfl, Nat.le_of_ble_eq_true rfl⟩) hK [false, false, false, false, false, false, false, false, false, false, false, false, false, false, false, false, false, false, false, false, false, false, false, false, false, false, false, false, false, false, false, false, false, false, false, false, false, false, false, false, false, false, false, false, false, false, false, false, false, false, false, false, false, false, false, false, false, false, false, false, false, false, false, false, false, false, false, false, false, false, false, false, false, false, false, false, false, true, true] hP (zD hD rfl) hS rfl (fun _ => rfl) (fun _ => rfl) 7 0 rfl rfl rfl rfl rfl (Nat.le_of_ble_eq_true rfl) dL_law_528 (fun r528 u528 H locs hu528 hP hS => ?_)
          subst hu528
          refine lv_istore (lv' := [(6, .int (zI ((0)))), (5, .int (zI (1))), (0, .ref b0), (1, .ref ss), (2, .ref m0), (3, .ref oa), (4, .int (zI (i)))]) hx hb dL_law_531 hl (by decide) rfl (fun ls hl => ?_)
          refine lv_aload_n hx hb dL_law_533 rfl (lv_at hl 4 rfl) ?_
          refine y_rV (v := 1) (As := []) (rest := []) hx hb hml hown hts hl.1 hc2 (kX7_thrown l D cI cJ cS m0 a cn 1 hs f ) (cwV 0 hts gL_law_X7_thrown rfl rfl rfl jX7_thrown ⟨Nat.le_of_ble_eq_true rfl, Nat.le_of_ble_eq_true rfl⟩) hK [false, false, false, false, false, false, false, false, false, false, false, false, false, false, false, false, false, false, false, false, false, false, false, false, false, false, false, false, false, false, false, false, false, false, false, false, false, false, false, false, false, false, false, false, false, false, false, false, false, false, false, false, false, false, false, false, false, false, false, false, false, false, false, false, false, false, false, false, false, false, false, false, false, false, false, false, false, true] hP (zD hD rfl) rfl 7 0 rfl rfl rfl rfl rfl (Nat.le_of_ble_eq_true rfl) dL_law_534 ?_
          refine lv_iload hx hb dL_law_537 (lv_at hl 1 rfl) ?_
          refine z_icmpR 544 hx hb dL_law_539 (by decide) ?_
          refine lv_iload hx hb dL_law_544 (lv_at hl 1 rfl) ?_
          refine z_if_ne (tgt := 568) hx hb dL_law_546 (by decide) (by omega) (fun c546 => ?_) (fun c546 => ?_)
          · refine lv_goto (tgt := 1700) hx hb dL_law_568 (by decide) ?_
            exact kk _ _ _ ⟨f, ps, n, F, P, N, la, cn, fr, ge, gv, gd, gt, sc, gf, op, tb, sb, 1, hs, gp, e2, v2, d2, t2, r2, f2, w2, go, ok, rep, hla, hcn, hfr0, hp, htr, hh, hP⟩ hS (lv_sub hl [2, 3, 4, 5, 6] rfl)
          · exfalso; omega
        · exact absurd hz c520
      · exact absurd hz c493
    · refine lv_aload_n hx hb dL_law_480 rfl (lv_at hl 1 rfl) ?_
      refine lv_aload_n hx hb dL_law_481 rfl (lv_at hl 0 rfl) ?_
      refine lv_iload hx hb dL_law_482 (lv_at hl 4 rfl) ?_
      refine z_iconst hx hb dL_law_484 ?_
      refine z_iadd hx hb dL_law_485 ?_
      refine z_sld hx hb hX hbl hbA hS (by omega) hL h_s1 dL_law_486 ?_
      refine lv_aload_n hx hb dL_law_487 rfl (lv_at hl 0 rfl) ?_
      refine lv_iload hx hb dL_law_488 (lv_at hl 4 rfl) ?_
      refine z_iconst hx hb dL_law_490 ?_
      refine z_iadd hx hb dL_law_491 ?_
      refine z_sld hx hb hX hbl hbA hS (by omega) hL h_s2 dL_law_492 ?_
      refine z_if_eq (tgt := 500) hx hb dL_law_493 (by decide) (by omega) (fun c493 => ?_) (fun c493 => ?_)
      · exact absurd c493 hz
      · refine z_iconst hx hb dL_law_496 ?_
        refine lv_goto (tgt := 501) hx hb dL_law_497 (by decide) ?_
        refine lv_aload_n hx hb dL_law_501 rfl (lv_at hl 3 rfl) ?_
        refine y_wSx (As := [.ref ss, .int (zI (x)), .int (zI (1)), .ref oa]) (rest := []) (fun (u502 : Unit) => (LW cI cJ cS ss h0 p0 s0 l0 h1 m0 oa b r w o a bs f ps n F P N la cn fr ge gv gd gt sc gf op tb sb f cn th hs gp e2 v2 d2 t2 r2 f2 w2 go)) hx hb hml hown hts hl.1 hc2 (nL_setRequired l D cI cJ cS ss h0 p0 s0 l0 b f ps n x 1 oa go ok hN hr_x (by decide) hst) (vx_cwSW 4 hts gL_law_L_setRequired rfl rfl rfl jL_setRequired.2 ⟨Nat.le_of_ble_eq_true rfl, Nat.le_of_ble_eq_true rfl⟩) hK [true, false, false, false, false, false, false, false, false, false, false, false, false, false, false, false, false, false, false, false, false, false, false, false, false, false, false, false, false, false, false, false, false, false, false, false, false, false, false, false, false, false, false, false, false, false, false, false, false, false, false, false, false, false, false, false, false, false, false, false, false, false, false, false, false, false, true, true, true, true, true, true, true, true, true, true, true, false, false, false, false, false, false, false, false, false, false, true] hP (zD hD rfl) hS hZ hTx rfl (fun _ => rfl) (fun _ => rfl) rfl rfl (Nat.le_of_ble_eq_true rfl) dL_law_502 (fun r502 u502 H locs hu502 hP hS => ?_)
        subst hu502
        refine lv_istore (lv' := [(5, .int (zI (1))), (0, .ref b0), (1, .ref ss), (2, .ref m0), (3, .ref oa), (4, .int (zI (i)))]) hx hb dL_law_505 hl (by decide) rfl (fun ls hl => ?_)
        refine lv_aload_n hx hb dL_law_507 rfl (lv_at hl 3 rfl) ?_
        refine lv_aload_n hx hb dL_law_508 rfl (lv_at hl 1 rfl) ?_
        refine lv_iload hx hb dL_law_509 (lv_at hl 5 rfl) ?_
        refine z_iconst hx hb dL_law_511 ?_
        refine z_iadd hx hb dL_law_512 ?_
        refine z_sld hx hb hX hbl hbA hS (by omega) hL h_s1 dL_law_513 ?_
        refine lv_aload_n hx hb dL_law_514 rfl (lv_at hl 1 rfl) ?_
        refine lv_iload hx hb dL_law_515 (lv_at hl 5 rfl) ?_
        refine z_iconst hx hb dL_law_517 ?_
        refine z_iadd hx hb dL_law_518 ?_
        refine z_sld hx hb hX hbl hbA hS (by omega) hL h_s2 dL_law_519 ?_
        refine z_if_eq (tgt := 527) hx hb dL_law_520 (by decide) (by omega) (fun c520 => ?_) (fun c520 => ?_)
        · exact absurd c520 hz
        · refine z_iconst hx hb dL_law_523 ?_
          refine lv_goto (tgt := 528) hx hb dL_law_524 (by decide) ?_
          refine y_wVi (As := [.int (zI (x)), .int (zI (1))]) (rest := []) (fun (u528 : Unit) => (LW cI cJ cS ss h0 p0 s0 l0 h1 m0 oa b r w o a bs f ps n F P N la cn fr ge gv gd gt sc gf op tb sb f cn 1 hs gp e2 v2 d2 t2 r2 f2 w2 go)) hx hb hml hown hts hl.1 hc2 (kX7_setRequired_no l D cI cJ cS m0 a cn th hs f x 1 ok hN hr_x) (cwV 2 hts gL_law_X7_setRequired rfl rfl rfl jX7_setRequired ⟨Nat.le_of_ble_eq_true rfl, Nat.le_of_ble_eq_true rfl⟩) hK [false, false, false, false, false, false, false, false, false, false, false, false, false, false, false, false, false, false, false, false, false, false, false, false, false, false, false, false, false, false, false, false, false, false, false, false, false, false, false, false, false, false, false, false, false, false, false, false, false, false, false, false, false, false, false, false, false, false, false, false, false, false, false, false, false, false, false, false, false, false, false, false, false, false, false, false, false, true, true] hP (zD hD rfl) hS rfl (fun _ => rfl) (fun _ => rfl) 7 0 rfl rfl rfl rfl rfl (Nat.le_of_ble_eq_true rfl) dL_law_528 (fun r528 u528 H locs hu528 hP hS => ?_)
          subst hu528
          refine lv_istore (lv' := [(6, .int (zI ((0)))), (5, .int (zI (1))), (0, .ref b0), (1, .ref ss), (2, .ref m0), (3, .ref oa), (4, .int (zI (i)))]) hx hb dL_law_531 hl (by decide) rfl (fun ls hl => ?_)
          refine lv_aload_n hx hb dL_law_533 rfl (lv_at hl 4 rfl) ?_
          refine y_rV (v := 1) (As := []) (rest := []) hx hb hml hown hts hl.1 hc2 (kX7_thrown l D cI cJ cS m0 a cn 1 hs f ) (cwV 0 hts gL_law_X7_thrown rfl rfl rfl jX7_thrown ⟨Nat.le_of_ble_eq_true rfl, Nat.le_of_ble_eq_true rfl⟩) hK [false, false, false, false, false, false, false, false, false, false, false, false, false, false, false, false, false, false, false, false, false, false, false, false, false, false, false, false, false, false, false, false, false, false, false, false, false, false, false, false, false, false, false, false, false, false, false, false, false, false, false, false, false, false, false, false, false, false, false, false, false, false, false, false, false, false, false, false, false, false, false, false, false, false, false, false, false, true] hP (zD hD rfl) rfl 7 0 rfl rfl rfl rfl rfl (Nat.le_of_ble_eq_true rfl) dL_law_534 ?_
          refine lv_iload hx hb dL_law_537 (lv_at hl 1 rfl) ?_
          refine z_icmpR 544 hx hb dL_law_539 (by decide) ?_
          refine lv_iload hx hb dL_law_544 (lv_at hl 1 rfl) ?_
          refine z_if_ne (tgt := 568) hx hb dL_law_546 (by decide) (by omega) (fun c546 => ?_) (fun c546 => ?_)
          · refine lv_goto (tgt := 1700) hx hb dL_law_568 (by decide) ?_
            exact kk _ _ _ ⟨f, ps, n, F, P, N, la, cn, fr, ge, gv, gd, gt, sc, gf, op, tb, sb, 1, hs, gp, e2, v2, d2, t2, r2, f2, w2, go, ok, rep, hla, hcn, hfr0, hp, htr, hh, hP⟩ hS (lv_sub hl [2, 3, 4, 5, 6] rfl)
          · exfalso; omega
