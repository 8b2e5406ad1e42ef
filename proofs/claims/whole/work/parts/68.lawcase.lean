set_option maxHeartbeats 4000000 in
set_option maxRecDepth 100000 in
/-- addPost -/
theorem lc_15 {p : Program} {e : Env} {s : State} {m : MethodId} {args : Array Value} {below : List Frame} {meth : Method} {c : Code} {Q : State → Prop} {A : Nat → Prop} {H0 : Heap} (l : Launch) (hst : l.stackTraces = false) (D : va_G) (cI cJ cS : ClassId) (ss h0 p0 s0 l0 h1 m0 oa : Nat) (b r w o a : Nat → Nat) (bs : Nat → Nat → Nat) {b0 L : Nat} {xv : Nat → Int}
    (hx : p.tables.exec = Jvm.exec) (hb : c.code = cL_law) (hml : c.maxLocals = 8) (hown : s.vm.findClass RL = some m.cls) (hts : ∀ w ∈ wsL_law, w.before args s = true) (hK : va_K D vwCl (zT cI cJ cS) s) (hZ : xKs A s H0) (hTx : xTx s) (hX : va_X b0 L (fun j => zI (xv j)) s H0) (hbl : b0 < H0.size) (hbA : ¬ A b0) (hL : L < 2147483648) (hxv : ∀ j : Nat, -2147483648 ≤ xv j ∧ xv j < 2147483648) (hD : va_D A (LW cI cJ cS ss h0 p0 s0 l0 h1 m0 oa b r w o a bs (fun _ => 0) (fun _ => 0) 0 (fun _ _ => 0) (fun _ _ => 0) (fun _ => 0) 0 0 0 (fun _ => 0) (fun _ => 0) (fun _ => 0) (fun _ => 0) 0 (fun _ => 0) (fun _ => 0) (fun _ => 0) (fun _ => 0) (fun _ => 0) 0 0 0 (fun _ => 0) (fun _ => 0) (fun _ => 0) (fun _ => 0) (fun _ => 0) (fun _ => 0) (fun _ => 0) (fun _ => 0) (fun _ => 0))) {H : Heap} {locs : List Loc} {cells slots : Nat} {ls : Array Slot} (i : Int) (hi : 0 ≤ i ∧ i + 4 ≤ (L : Int)) (hI : LInv D cI cJ cS ss h0 p0 s0 l0 h1 m0 oa b r w o a bs H) (hS : va_S A H0 H locs) (hl : lv_has ls 8 [(0, .ref b0), (1, .ref ss), (2, .ref m0), (3, .ref oa), (4, .int (zI (i)))]) (hc2 : cells + 1 ≤ 601024 ∧ slots + 6 ≤ 7293034)
    (kk : ∀ (H1 : Heap) (locs1 : List Loc) (ls1 : Array Slot), LInv D cI cJ cS ss h0 p0 s0 l0 h1 m0 oa b r w o a bs H1 → va_S A H0 H1 locs1 → lv_has ls1 8 [(0, .ref b0), (1, .ref ss), (2, .ref m0), (3, .ref oa), (4, .int (zI (i)))] → W p l e room_1 s m args below meth c H1 locs1 (cells + 1) (slots + 6) Q (F0 m 1700 ls1 [])) : W p l e room_1 s m args below meth c H locs cells slots Q (F0 m 1209 ls []) := by
  obtain ⟨f, ps, n, F, P, N, la, cn, fr, ge, gv, gd, gt, sc, gf, op, tb, sb, th, hs, gp, e2, v2, d2, t2, r2, f2, w2, go, ok, rep, hla, hcn, hfr0, hp, htr, hh, hP⟩ := hI
  obtain ⟨o0, o1, o2, o3, o4, o5, o7, o8, olim, ogrd, obar, oneed, opost⟩ := id ok
  have hc1 : cells ≤ 601024 ∧ slots ≤ 7293034 := ⟨by omega, by omega⟩
  obtain ⟨x, h_s1⟩ : ∃ x : Int, xv (i + 1).toNat = x := ⟨_, rfl⟩
  have hr_x : -2147483648 ≤ x ∧ x < 2147483648 := by rw [← h_s1]; exact hxv _
  rcases Classical.em (0 ≤ x ∧ x ≤ f 0) with hY | hN
  · rcases opost x hY.1 (by omega) with h3 | h3
    · have hq := rank_b ok hY.1 (by omega : x ≤ 121)
      refine lv_aload_n hx hb dL_law_1209 rfl (lv_at hl 1 rfl) ?_
      refine lv_aload_n hx hb dL_law_1210 rfl (lv_at hl 0 rfl) ?_
      refine lv_iload hx hb dL_law_1211 (lv_at hl 4 rfl) ?_
      refine z_iconst hx hb dL_law_1213 ?_
      refine z_iadd hx hb dL_law_1214 ?_
      refine z_sld hx hb hX hbl hbA hS (by omega) hL h_s1 dL_law_1215 ?_
      refine lv_aload_n hx hb dL_law_1216 rfl (lv_at hl 3 rfl) ?_
      refine y_wSi (As := [.ref ss, .int (zI (x)), .ref oa]) (rest := []) (fun (u1217 : Int → Int) => (LW cI cJ cS ss h0 p0 s0 l0 h1 m0 oa b r w o a bs (zup f (491 + x) 1) u1217 (n + 1) (upS F (nxS la) f) (upS P (nxS la) ps) (upS N (nxS la) n) (nxS la) (cnS cn) 0 ge gv gd gt sc gf op tb sb f cn th hs gp e2 v2 d2 t2 r2 f2 w2 (zup go 0 (rank f x)))) hx hb hml hown hts hl.1 hc1 (kL_addPost_ok l D cI cJ cS ss h0 p0 s0 l0 b f ps n h1 bs F P N la cn fr r x oa go ok hla hcn rep hY h3) (vx_cwSW 3 hts gL_law_L_addPost rfl rfl rfl jL_addPost.2 ⟨Nat.le_of_ble_eq_true rfl, Nat.le_of_ble_eq_true rfl⟩) hK [true, true, true, true, true, true, true, true, true, true, true, true, true, true, true, true, true, true, true, true, true, true, true, true, true, true, true, true, true, true, true, true, true, true, true, true, true, true, true, true, true, true, true, true, true, true, true, false, false, false, false, false, false, false, false, false, false, true, false, false, false, false, false, false, false, false, true, true, true, true, true, true, true, true, true, true, true, false, false, false, false, false, false, false, false, false, false, true] hP (zD hD rfl) hS rfl (fun _ => rfl) (fun _ => rfl) rfl rfl (Nat.le_of_ble_eq_true rfl) dL_law_1217 (fun r1217 u1217 H locs hu1217 hP hS => ?_)
      obtain ⟨rfl, q1217⟩ := hu1217
      refine lv_istore (lv' := [(5, .int (zI (0))), (0, .ref b0), (1, .ref ss), (2, .ref m0), (3, .ref oa), (4, .int (zI (i)))]) hx hb dL_law_1220 hl (by decide) rfl (fun ls hl => ?_)
      refine lv_aload_n hx hb dL_law_1222 rfl (lv_at hl 3 rfl) ?_
      refine lv_aload_n hx hb dL_law_1223 rfl (lv_at hl 1 rfl) ?_
      refine lv_iload hx hb dL_law_1224 (lv_at hl 5 rfl) ?_
      refine z_iconst hx hb dL_law_1226 ?_
      refine z_iadd hx hb dL_law_1227 ?_
      refine z_sld hx hb hX hbl hbA hS (by omega) hL h_s1 dL_law_1228 ?_
      refine y_wVi (As := [.int (zI (x))]) (rest := []) (fun (u1229 : Unit) => (LW cI cJ cS ss h0 p0 s0 l0 h1 m0 oa b r w o a bs (zup f (491 + x) 1) u1217 (n + 1) (upS F (nxS la) f) (upS P (nxS la) ps) (upS N (nxS la) n) (nxS la) (cnS cn) 0 ge gv gd gt sc gf op tb sb (zup f (491 + x) 1) (cnS cn) 0 hs (kpF gp f cn) e2 v2 d2 t2 r2 f2 w2 (zup go 0 (rank f x)))) hx hb hml hown hts hl.1 hc1 (kX7_addPost_ok l D cI cJ cS m0 a cn th hs f gp x ok hcn hY h3) (cwV 1 hts gL_law_X7_addPost rfl rfl rfl jX7_addPost ⟨Nat.le_of_ble_eq_true rfl, Nat.le_of_ble_eq_true rfl⟩) hK [false, false, false, false, false, false, false, false, false, false, false, false, false, false, false, false, false, false, false, false, false, false, false, false, false, false, false, false, false, false, false, false, false, false, false, false, false, false, false, false, false, false, false, false, false, false, false, false, false, false, false, false, false, false, false, false, false, false, false, false, false, false, false, false, false, false, false, false, false, false, false, false, false, false, false, false, false, true, true, true] hP (zD hD rfl) hS rfl (fun _ => rfl) (fun _ => rfl) 7 0 rfl rfl rfl rfl rfl (Nat.le_of_ble_eq_true rfl) dL_law_1229 (fun r1229 u1229 H locs hu1229 hP hS => ?_)
      subst hu1229
      refine lv_istore (lv' := [(6, .int (zI (rank f x))), (5, .int (zI (0))), (0, .ref b0), (1, .ref ss), (2, .ref m0), (3, .ref oa), (4, .int (zI (i)))]) hx hb dL_law_1232 hl (by decide) rfl (fun ls hl => ?_)
      refine lv_aload_n hx hb dL_law_1234 rfl (lv_at hl 4 rfl) ?_
      refine y_rV (v := 0) (As := []) (rest := []) hx hb hml hown hts hl.1 hc1 (kX7_thrown l D cI cJ cS m0 a (cnS cn) 0 hs (zup f (491 + x) 1) ) (cwV 0 hts gL_law_X7_thrown rfl rfl rfl jX7_thrown ⟨Nat.le_of_ble_eq_true rfl, Nat.le_of_ble_eq_true rfl⟩) hK [false, false, false, false, false, false, false, false, false, false, false, false, false, false, false, false, false, false, false, false, false, false, false, false, false, false, false, false, false, false, false, false, false, false, false, false, false, false, false, false, false, false, false, false, false, false, false, false, false, false, false, false, false, false, false, false, false, false, false, false, false, false, false, false, false, false, false, false, false, false, false, false, false, false, false, false, false, true] hP (zD hD rfl) rfl 7 0 rfl rfl rfl rfl rfl (Nat.le_of_ble_eq_true rfl) dL_law_1235 ?_
      refine lv_iload hx hb dL_law_1238 (lv_at hl 1 rfl) ?_
      refine z_icmpR 1245 hx hb dL_law_1240 (by decide) ?_
      refine lv_iload hx hb dL_law_1245 (lv_at hl 1 rfl) ?_
      refine z_if_ne (tgt := 1262) hx hb dL_law_1247 (by decide) (by omega) (fun c1247 => ?_) (fun c1247 => ?_)
      · exfalso; omega
      · refine lv_aload_n hx hb dL_law_1250 rfl (lv_at hl 5 rfl) ?_
        refine z_iconst hx hb dL_law_1251 ?_
        refine z_lald hx hb hK hP 87 1 rfl rfl (by omega) (Nat.lt_of_succ_le (Nat.le_of_ble_eq_true rfl)) dL_law_1252 ?_
        refine z_topL (rank f x) (zup_at _ _ _) ?_
        refine lv_iload hx hb dL_law_1253 (lv_at hl 0 rfl) ?_
        refine z_i2l hx hb dL_law_1255 (by omega) ?_
        refine z_lcmpR hx hb dL_law_1256 ?_
        refine z_if_eq (tgt := 1262) hx hb dL_law_1257 (by decide) (by omega) (fun c1257 => ?_) (fun c1257 => ?_)
        · refine lv_goto (tgt := 1700) hx hb dL_law_1262 (by decide) ?_
          refine W.widen (k := cells + 1) (n := slots + 6) (Nat.le_add_right _ _) (Nat.le_add_right _ _) ?_
          exact kk _ _ _ ⟨(zup f (491 + x) 1), u1217, n + 1, upS F (nxS la) f, upS P (nxS la) ps, upS N (nxS la) n, nxS la, cnS cn, 0, ge, gv, gd, gt, sc, gf, op, tb, sb, 0, hs, (kpF gp f cn), e2, v2, d2, t2, r2, f2, w2, (zup go 0 (rank f x)), (okF_post ok hY.1 (Or.inr rfl)), q1217, (nxS_b hla), (cnS_b hcn), (Or.inl rfl), (fun h9 => absurd h9 (by decide)), htr, (hst_push ok rep hla hcn hh), hP⟩ hS (lv_sub hl [2, 3, 4, 5, 6] rfl)
        · exfalso; omega
    · refine lv_aload_n hx hb dL_law_1209 rfl (lv_at hl 1 rfl) ?_
      refine lv_aload_n hx hb dL_law_1210 rfl (lv_at hl 0 rfl) ?_
      refine lv_iload hx hb dL_law_1211 (lv_at hl 4 rfl) ?_
      refine z_iconst hx hb dL_law_1213 ?_
      refine z_iadd hx hb dL_law_1214 ?_
      refine z_sld hx hb hX hbl hbA hS (by omega) hL h_s1 dL_law_1215 ?_
      refine lv_aload_n hx hb dL_law_1216 rfl (lv_at hl 3 rfl) ?_
      refine y_wSx (As := [.ref ss, .int (zI (x)), .ref oa]) (rest := []) (fun (u1217 : Unit) => (LW cI cJ cS ss h0 p0 s0 l0 h1 m0 oa b r w o a bs f ps n F P N la cn fr ge gv gd gt sc gf op tb sb f cn th hs gp e2 v2 d2 t2 r2 f2 w2 go)) hx hb hml hown hts hl.1 hc2 (nL_addPost_no2 l D cI cJ cS ss h0 p0 s0 l0 b f ps n x oa go ok hr_x rep hY h3 hst) (vx_cwSW 3 hts gL_law_L_addPost rfl rfl rfl jL_addPost.2 ⟨Nat.le_of_ble_eq_true rfl, Nat.le_of_ble_eq_true rfl⟩) hK [true, false, false, false, false, false, false, false, false, false, false, false, false, false, false, false, false, false, false, false, false, false, false, false, false, false, false, false, false, false, false, false, false, false, false, false, false, false, false, false, false, false, false, false, false, false, false, false, false, false, false, false, false, false, false, false, false, false, false, false, false, false, false, false, false, false, true, true, true, true, true, true, true, true, true, true, true, false, false, false, false, false, false, false, false, false, false, true] hP (zD hD rfl) hS hZ hTx rfl (fun _ => rfl) (fun _ => rfl) rfl rfl (Nat.le_of_ble_eq_true rfl) dL_law_1217 (fun r1217 u1217 H locs hu1217 hP hS => ?_)
      subst hu1217
      refine lv_istore (lv' := [(5, .int (zI (2))), (0, .ref b0), (1, .ref ss), (2, .ref m0), (3, .ref oa), (4, .int (zI (i)))]) hx hb dL_law_1220 hl (by decide) rfl (fun ls hl => ?_)
      refine lv_aload_n hx hb dL_law_1222 rfl (lv_at hl 3 rfl) ?_
      refine lv_aload_n hx hb dL_law_1223 rfl (lv_at hl 1 rfl) ?_
      refine lv_iload hx hb dL_law_1224 (lv_at hl 5 rfl) ?_
      refine z_iconst hx hb dL_law_1226 ?_
      refine z_iadd hx hb dL_law_1227 ?_
      refine z_sld hx hb hX hbl hbA hS (by omega) hL h_s1 dL_law_1228 ?_
      refine y_wVi (As := [.int (zI (x))]) (rest := []) (fun (u1229 : Unit) => (LW cI cJ cS ss h0 p0 s0 l0 h1 m0 oa b r w o a bs f ps n F P N la cn fr ge gv gd gt sc gf op tb sb f cn 2 hs gp e2 v2 d2 t2 r2 f2 w2 go)) hx hb hml hown hts hl.1 hc2 (kX7_addPost_no2 l D cI cJ cS m0 a cn th hs f x ok hY h3) (cwV 1 hts gL_law_X7_addPost rfl rfl rfl jX7_addPost ⟨Nat.le_of_ble_eq_true rfl, Nat.le_of_ble_eq_true rfl⟩) hK [false, false, false, false, false, false, false, false, false, false, false, false, false, false, false, false, false, false, false, false, false, false, false, false, false, false, false, false, false, false, false, false, false, false, false, false, false, false, false, false, false, false, false, false, false, false, false, false, false, false, false, false, false, false, false, false, false, false, false, false, false, false, false, false, false, false, false, false, false, false, false, false, false, false, false, false, false, true, true] hP (zD hD rfl) hS rfl (fun _ => rfl) (fun _ => rfl) 7 0 rfl rfl rfl rfl rfl (Nat.le_of_ble_eq_true rfl) dL_law_1229 (fun r1229 u1229 H locs hu1229 hP hS => ?_)
      subst hu1229
      refine lv_istore (lv' := [(6, .int (zI (0))), (5, .int (zI (2))), (0, .ref b0), (1, .ref ss), (2, .ref m0), (3, .ref oa), (4, .int (zI (i)))]) hx hb dL_law_1232 hl (by decide) rfl (fun ls hl => ?_)
      refine lv_aload_n hx hb dL_law_1234 rfl (lv_at hl 4 rfl) ?_
      refine y_rV (v := 2) (As := []) (rest := []) hx hb hml hown hts hl.1 hc2 (kX7_thrown l D cI cJ cS m0 a cn 2 hs f ) (cwV 0 hts gL_law_X7_thrown rfl rfl rfl jX7_thrown ⟨Nat.le_of_ble_eq_true rfl, Nat.le_of_ble_eq_true rfl⟩) hK [false, false, false, false, false, false, false, false, false, false, false, false, false, false, false, false, false, false, false, false, false, false, false, false, false, false, false, false, false, false, false, false, false, false, false, false, false, false, false, false, false, false, false, false, false, false, false, false, false, false, false, false, false, false, false, false, false, false, false, false, false, false, false, false, false, false, false, false, false, false, false, false, false, false, false, false, false, true] hP (zD hD rfl) rfl 7 0 rfl rfl rfl rfl rfl (Nat.le_of_ble_eq_true rfl) dL_law_1235 ?_
      refine lv_iload hx hb dL_law_1238 (lv_at hl 1 rfl) ?_
      refine z_icmpR 1245 hx hb dL_law_1240 (by decide) ?_
      refine lv_iload hx hb dL_law_1245 (lv_at hl 1 rfl) ?_
      refine z_if_ne (tgt := 1262) hx hb dL_law_1247 (by decide) (by omega) (fun c1247 => ?_) (fun c1247 => ?_)
      · refine lv_goto (tgt := 1700) hx hb dL_law_1262 (by decide) ?_
        exact kk _ _ _ ⟨f, ps, n, F, P, N, la, cn, fr, ge, gv, gd, gt, sc, gf, op, tb, sb, 2, hs, gp, e2, v2, d2, t2, r2, f2, w2, go, ok, rep, hla, hcn, hfr0, hp, htr, hh, hP⟩ hS (lv_sub hl [2, 3, 4, 5, 6] rfl)
      · exfalso; omega
  · refine lv_aload_n hx hb dL_law_1209 rfl (lv_at hl 1 rfl) ?_
    refine lv_aload_n hx hb dL_law_1210 rfl (lv_at hl 0 rfl) ?_
    refine lv_iload hx hb dL_law_1211 (lv_at hl 4 rfl) ?_
    refine z_iconst hx hb dL_law_1213 ?_
    refine z_iadd hx hb dL_law_1214 ?_
    refine z_sld hx hb hX hbl hbA hS (by omega) hL h_s1 dL_law_1215 ?_
    refine lv_aload_n hx hb dL_law_1216 rfl (lv_at hl 3 rfl) ?_
    refine y_wSx (As := [.ref ss, .int (zI (x)), .ref oa]) (rest := []) (fun (u1217 : Unit) => (LW cI cJ cS ss h0 p0 s0 l0 h1 m0 oa b r w o a bs f ps n F P N la cn fr ge gv gd gt sc gf op tb sb f cn th hs gp e2 v2 d2 t2 r2 f2 w2 go)) hx hb hml hown hts hl.1 hc2 (nL_addPost_no1 l D cI cJ cS ss h0 p0 s0 l0 b f ps n x oa go ok hN hr_x hst) (vx_cwSW 3 hts gL_law_L_addPost rfl rfl rfl jL_addPost.2 ⟨Nat.le_of_ble_eq_true rfl, Nat.le_of_ble_eq_true rfl⟩) hK [true, false, false, false, false, false, false, false, false, false, false, false, false, false, false, false, false, false, false, false, false, false, false, false, false, false, false, false, false, false, false, false, false, false, false, false, false, false, false, false, false, false, false, false, false, false, false, false, false, false, false, false, false, false, false, false, false, false, false, false, false, false, false, false, false, false, true, true, true, true, true, true, true, true, true, true, true, false, false, false, false, false, false, false, false, false, false, true] hP (zD hD rfl) hS hZ hTx rfl (fun _ => rfl) (fun _ => rfl) rfl rfl (Nat.le_of_ble_eq_true rfl) dL_law_1217 (fun r1217 u1217 H locs hu1217 hP hS => ?_)
    subst hu1217
    refine lv_istore (lv' := [(5, .int (zI (1))), (0, .ref b0), (1, .ref ss), (2, .ref m0), (3, .ref oa), (4, .int (zI (i)))]) hx hb dL_law_1220 hl (by decide) rfl (fun ls hl => ?_)
    refine lv_aload_n hx hb dL_law_1222 rfl (lv_at hl 3 rfl) ?_
    refine lv_aload_n hx hb dL_law_1223 rfl (lv_at hl 1 rfl) ?_
    refine lv_iload hx hb dL_law_1224 (lv_at hl 5 rfl) ?_
    refine z_iconst hx hb dL_law_1226 ?_
    refine z_iadd hx hb dL_law_1227 ?_
    refine z_sld hx hb hX hbl hbA hS (by omega) hL h_s1 dL_law_1228 ?_
    refine y_wVi (As := [.int (zI (x))]) (rest := []) (fun (u1229 : Unit) => (LW cI cJ cS ss h0 p0 s0 l0 h1 m0 oa b r w o a bs f ps n F P N la cn fr ge gv gd gt sc gf op tb sb f cn 1 hs gp e2 v2 d2 t2 r2 f2 w2 go)) hx hb hml hown hts hl.1 hc2 (kX7_addPost_no1 l D cI cJ cS m0 a cn th hs f x ok hN hr_x) (cwV 1 hts gL_law_X7_addPost rfl rfl rfl jX7_addPost ⟨Nat.le_of_ble_eq_true rfl, Nat.le_of_ble_eq_true rfl⟩) hK [false, false, false, false, false, false, false, false, false, false, false, false, false, false, false, false, false, false, false, false, false, false, false, false, false, false, false, false, false, false, false, false, false, false, false, false, false, false, false, false, false, false, false, false, false, false, false, false, false, false, false, false, false, false, false, false, false, false, false, false, false, false, false, false, false, false, false, false, false, false, false, false, false, false, false, false, false, true, true] hP (zD hD rfl) hS rfl (fun _ => rfl) (fun _ => rfl) 7 0 rfl rfl rfl rfl rfl (Nat.le_of_ble_eq_true rfl) dL_law_1229 (fun r1229 u1229 H locs hu1229 hP hS => ?_)
    subst hu1229
    refine lv_istore (lv' := [(6, .int (zI (0))), (5, .int (zI (1))), (0, .ref b0), (1, .ref ss), (2, .ref m0), (3, .ref oa), (4, .int (zI (i)))]) hx hb dL_law_1232 hl (by decide) rfl (fun ls hl => ?_)
    refine lv_aload_n hx hb dL_law_1234 rfl (lv_at hl 4 rfl) ?_
    refine y_rV (v := 1) (As := []) (rest := []) hx hb hml hown hts hl.1 hc2 (kX7_thrown l D cI cJ cS m0 a cn 1 hs f ) (cwV 0 hts gL_law_X7_thrown rfl rfl rfl jX7_thrown ⟨Nat.le_of_ble_eq_true rfl, Nat.le_of_ble_eq_true rfl⟩) hK [false, false, false, false, false, false, false, false, false, false, false, false, false, false, false, false, false, false, false, false, false, false, false, false, false, false, false, false, false, false, false, false, false, false, false, false, false, false, false, false, false, false, false, false, false, false, false, false, false, false, false, false, false, false, false, false, false, false, false, false, false, false, false, false, false, false, false, false, false, false, false, false, false, false, false, false, false, true] hP (zD hD rfl) rfl 7 0 rfl rfl rfl rfl rfl (Nat.le_of_ble_eq_true rfl) dL_law_1235 ?_
    refine lv_iload hx hb dL_law_1238 (lv_at hl 1 rfl) ?_
    refine z_icmpR 1245 hx hb dL_law_1240 (by decide) ?_
    refine lv_iload hx hb dL_law_1245 (lv_at hl 1 rfl) ?_
    refine z_if_ne (tgt := 1262) hx hb dL_law_1247 (by decide) (by omega) (fun c1247 => ?_) (fun c1247 => ?_)
    · refine lv_goto (tgt := 1700) hx hb dL_law_1262 (by decide) ?_
      exact kk _ _ _ ⟨f, ps, n, F, P, N, la, cn, fr, ge, gv, gd, gt, sc, gf, op, tb, sb, 1, hs, gp, e2, v2, d2, t2, r2, f2, w2, go, ok, rep, hla, hcn, hfr0, hp, htr, hh, hP⟩ hS (lv_sub hl [2, 3, 4, 5, 6] rfl)
    · exfalso; omega

set_option maxHeartbeats 4000000 in
set_option maxRecDepth 100000 in
/-- removePost -/
theorem lc_16 {p : Program} {e : Env} {s : State} {m : MethodId} {args : Array Value} {below : List Frame} {meth : Method} {c : Code} {Q : State → Prop} {A : Nat → Prop} {H0 : Heap} (l : Launch) (hst : l.stackTraces = false) (D : va_G) (cI cJ cS : ClassId) (ss h0 p0 s0 l0 h1 m0 oa : Nat) (b r w o a : Nat → Nat) (bs : Nat → Nat → Nat) {b0 L : Nat} {xv : Nat → Int}
    (hx : p.tables.exec = Jvm.exec) (hb : c.code = cL_law) (hml : c.maxLocals = 8) (hown : s.vm.findClass RL = some m.cls) (hts : ∀ w ∈ wsL_law, w.before args s = true) (hK : va_K D vwCl (zT cI cJ cS) s) (hZ : xKs A s H0) (hTx : xTx s) (hX : va_X b0 L (fun j => zI (xv j)) s H0) (hbl : b0 < H0.size) (hbA : ¬ A b0) (hL : L < 2147483648) (hxv : ∀ j : Nat, -2147483648 ≤ xv j ∧ xv j < 2147483648) (hD : va_D A (LW cI cJ cS ss h0 p0 s0 l0 h1 m0 oa b r w o a bs (fun _ => 0) (fun _ => 0) 0 (fun _ _ => 0) (fun _ _ => 0) (fun _ => 0) 0 0 0 (fun _ => 0) (fun _ => 0) (fun _ => 0) (fun _ => 0) 0 (fun _ => 0) (fun _ => 0) (fun _ => 0) (fun _ => 0) (fun _ => 0) 0 0 0 (fun _ => 0) (fun _ => 0) (fun _ => 0) (fun _ => 0) (fun _ => 0) (fun _ => 0) (fun _ => 0) (fun _ => 0) (fun _ => 0))) {H : Heap} {locs : List Loc} {cells slots : Nat} {ls : Array Slot} (i : Int) (hi : 0 ≤ i ∧ i + 4 ≤ (L : Int)) (hI : LInv D cI cJ cS ss h0 p0 s0 l0 h1 m0 oa b r w o a bs H) (hS : va_S A H0 H locs) (hl : lv_has ls 8 [(0, .ref b0), (1, .ref ss), (2, .ref m0), (3, .ref oa), (4, .int (zI (i)))]) (hc2 : cells + 1 ≤ 601024 ∧ slots + 6 ≤ 7293034)
    (kk : ∀ (H1 : Heap) (locs1 : List Loc) (ls1 : Array Slot), LInv D cI cJ cS ss h0 p0 s0 l0 h1 m0 oa b r w o a bs H1 → va_S A H0 H1 locs1 → lv_has ls1 8 [(0, .ref b0), (1, .ref ss), (2, .ref m0), (3, .ref oa), (4, .int (zI (i)))] → W p l e room_1 s m args below meth c H1 locs1 (cells + 1) (slots + 6) Q (F0 m 1700 ls1 [])) : W p l e room_1 s m args below meth c H locs cells slots Q (F0 m 1265 ls []) := by
  obtain ⟨f, ps, n, F, P, N, la, cn, fr, ge, gv, gd, gt, sc, gf, op, tb, sb, th, hs, gp, e2, v2, d2, t2, r2, f2, w2, go, ok, rep, hla, hcn, hfr0, hp, htr, hh, hP⟩ := hI
  obtain ⟨o0, o1, o2, o3, o4, o5, o7, o8, olim, ogrd, obar, oneed, opost⟩ := id ok
  have hc1 : cells ≤ 601024 ∧ slots ≤ 7293034 := ⟨by omega, by omega⟩
  obtain ⟨x, h_s1⟩ : ∃ x : Int, xv (i + 1).toNat = x := ⟨_, rfl⟩
  have hr_x : -2147483648 ≤ x ∧ x < 2147483648 := by rw [← h_s1]; exact hxv _
  rcases Classical.em (0 ≤ x ∧ x ≤ f 0) with hY | hN
  · rcases opost x hY.1 (by omega) with h3 | h3
    · refine lv_aload_n hx hb dL_law_1265 rfl (lv_at hl 1 rfl) ?_
      refine lv_aload_n hx hb dL_law_1266 rfl (lv_at hl 0 rfl) ?_
      refine lv_iload hx hb dL_law_1267 (lv_at hl 4 rfl) ?_
      refine z_iconst hx hb dL_law_1269 ?_
      refine z_iadd hx hb dL_law_1270 ?_
      refine z_sld hx hb hX hbl hbA hS (by omega) hL h_s1 dL_law_1271 ?_
      refine lv_aload_n hx hb dL_law_1272 rfl (lv_at hl 3 rfl) ?_
      refine y_wSx (As := [.ref ss, .int (zI (x)), .ref oa]) (rest := []) (fun (u1273 : Unit) => (LW cI cJ cS ss h0 p0 s0 l0 h1 m0 oa b r w o a bs f ps n F P N la cn fr ge gv gd gt sc gf op tb sb f cn th hs gp e2 v2 d2 t2 r2 f2 w2 go)) hx hb hml hown hts hl.1 hc2 (nL_removePost_no2 l D cI cJ cS ss h0 p0 s0 l0 b f ps n x oa go ok hr_x rep hY h3 hst) (vx_cwSW 3 hts gL_law_L_removePost rfl rfl rfl jL_removePost.2 ⟨Nat.le_of_ble_eq_true rfl, Nat.le_of_ble_eq_true rfl⟩) hK [true, false, false, false, false, false, false, false, false, false, false, false, false, false, false, false, false, false, false, false, false, false, false, false, false, false, false, false, false, false, false, false, false, false, false, false, false, false, false, false, false, false, false, false, false, false, false, false, false, false, false, false, false, false, false, false, false, false, false, false, false, false, false, false, false, false, true, true, true, true, true, true, true, true, true, true, true, false, false, false, false, false, false, false, false, false, false, true] hP (zD hD rfl) hS hZ hTx rfl (fun _ => rfl) (fun _ => rfl) rfl rfl (Nat.le_of_ble_eq_true rfl) dL_law_1273 (fun r1273 u1273 H locs hu1273 hP hS => ?_)
      subst hu1273
      refine lv_istore (lv' := [(5, .int (zI (2))), (0, .ref b0), (1, .ref ss), (2, .ref m0), (3, .ref oa), (4, .int (zI (i)))]) hx hb dL_law_1276 hl (by decide) rfl (fun ls hl => ?_)
      refine lv_aload_n hx hb dL_law_1278 rfl (lv_at hl 3 rfl) ?_
      refine lv_aload_n hx hb dL_law_1279 rfl (lv_at hl 1 rfl) ?_
      refine lv_iload hx hb dL_law_1280 (lv_at hl 5 rfl) ?_
      refine z_iconst hx hb dL_law_1282 ?_
      refine z_iadd hx hb dL_law_1283 ?_
      refine z_sld hx hb hX hbl hbA hS (by omega) hL h_s1 dL_law_1284 ?_
      refine y_wVi (As := [.int (zI (x))]) (rest := []) (fun (u1285 : Unit) => (LW cI cJ cS ss h0 p0 s0 l0 h1 m0 oa b r w o a bs f ps n F P N la cn fr ge gv gd gt sc gf op tb sb f cn 2 hs gp e2 v2 d2 t2 r2 f2 w2 go)) hx hb hml hown hts hl.1 hc2 (kX7_removePost_no2 l D cI cJ cS m0 a cn th hs f x ok hY h3) (cwV 1 hts gL_law_X7_removePost rfl rfl rfl jX7_removePost ⟨Nat.le_of_ble_eq_true rfl, Nat.le_of_ble_eq_true rfl⟩) hK [false, false, false, false, false, false, false, false, false, false, false, false, false, false, false, false, false, false, false, false, false, false, false, false, false, false, false, false, false, false, false, false, false, false, false, false, false, false, false, false, false, false, false, false, false, false, false, false, false, false, false, false, false, false, false, false, false, false, false, false, false, false, false, false, false, false, false, false, false, false, false, false, false, false, false, false, false, true, true] hP (zD hD rfl) hS rfl (fun _ => rfl) (fun _ => rfl) 7 0 rfl rfl rfl rfl rfl (Nat.le_of_ble_eq_true rfl) dL_law_1285 (fun r1285 u1285 H locs hu1285 hP hS => ?_)
      subst hu1285
      refine lv_istore (lv' := [(6, .int (zI (0))), (5, .int (zI (2))), (0, .ref b0), (1, .ref ss), (2, .ref m0), (3, .ref oa), (4, .int (zI (i)))]) hx hb dL_law_1288 hl (by decide) rfl (fun ls hl => ?_)
      refine lv_aload_n hx hb dL_law_1290 rfl (lv_at hl 4 rfl) ?_
      refine y_rV (v := 2) (As := []) (rest := []) hx hb hml hown hts hl.1 hc2 (kX7_thrown l D cI cJ cS m0 a cn 2 hs f ) (cwV 0 hts gL_law_X7_thrown rfl rfl rfl jX7_thrown ⟨Nat.le_of_ble_eq_true rfl, Nat.le_of_ble_eq_true rfl⟩) hK [false, false, false, false, false, false, false, false, false, false, false, false, false, false, false, false, false, false, false, false, false, false, false, false, false, false, false, false, false, false, false, false, false, false, false, false, false, false, false, false, false, false, false, false, false, false, false, false, false, false, false, false, false, false, false, false, false, false, false, false, false, false, false, false, false, false, false, false, false, false, false, false, false, false, false, false, false, true] hP (zD hD rfl) rfl 7 0 rfl rfl rfl rfl rfl (Nat.le_of_ble_eq_true rfl) dL_law_1291 ?_
      refine lv_iload hx hb dL_law_1294 (lv_at hl 1 rfl) ?_
      refine z_icmpR 1301 hx hb dL_law_1296 (by decide) ?_
      refine lv_iload hx hb dL_law_1301 (lv_at hl 1 rfl) ?_
      refine z_if_ne (tgt := 1318) hx hb dL_law_1303 (by decide) (by omega) (fun c1303 => ?_) (fun c1303 => ?_)
      · refine lv_goto (tgt := 1700) hx hb dL_law_1318 (by decide) ?_
        exact kk _ _ _ ⟨f, ps, n, F, P, N, la, cn, fr, ge, gv, gd, gt, sc, gf, op, tb, sb, 2, hs, gp, e2, v2, d2, t2, r2, f2, w2, go, ok, rep, hla, hcn, hfr0, hp, htr, hh, hP⟩ hS (lv_sub hl [2, 3, 4, 5, 6] rfl)
      · exfalso; omega
    · have hq := rep_n ok rep
      refine lv_aload_n hx hb dL_law_1265 rfl (lv_at hl 1 rfl) ?_
      refine lv_aload_n hx hb dL_law_1266 rfl (lv_at hl 0 rfl) ?_
      refine lv_iload hx hb dL_law_1267 (lv_at hl 4 rfl) ?_
      refine z_iconst hx hb dL_law_1269 ?_
      refine z_iadd hx hb dL_law_1270 ?_
      refine z_sld hx hb hX hbl hbA hS (by omega) hL h_s1 dL_law_1271 ?_
      refine lv_aload_n hx hb dL_law_1272 rfl (lv_at hl 3 rfl) ?_
      refine y_wSi (As := [.ref ss, .int (zI (x)), .ref oa]) (rest := []) (fun (u1273 : Int → Int) => (LW cI cJ cS ss h0 p0 s0 l0 h1 m0 oa b r w o a bs (zup f (491 + x) 0) u1273 (n - 1) (upS F (nxS la) f) (upS P (nxS la) ps) (upS N (nxS la) n) (nxS la) (cnS cn) 0 ge gv gd gt sc gf op tb sb f cn th hs gp e2 v2 d2 t2 r2 f2 w2 (zup go 0 (n - 1)))) hx hb hml hown hts hl.1 hc1 (kL_removePost_ok l D cI cJ cS ss h0 p0 s0 l0 b f ps n h1 bs F P N la cn fr r x oa go ok hla hcn rep hY h3) (vx_cwSW 3 hts gL_law_L_removePost rfl rfl rfl jL_removePost.2 ⟨Nat.le_of_ble_eq_true rfl, Nat.le_of_ble_eq_true rfl⟩) hK [true, true, true, true, true, true, true, true, true, true, true, true, true, true, true, true, true, true, true, true, true, true, true, true, true, true, true, true, true, true, true, true, true, true, true, true, true, true, true, true, true, true, true, true, true, true, true, false, false, false, false, false, false, false, false, false, false, true, false, false, false, false, false, false, false, false, true, true, true, true, true, true, true, true, true, true, true, false, false, false, false, false, false, false, false, false, false, true] hP (zD hD rfl) hS rfl (fun _ => rfl) (fun _ => rfl) rfl rfl (Nat.le_of_ble_eq_true rfl) dL_law_1273 (fun r1273 u1273 H locs hu1273 hP hS => ?_)
      obtain ⟨rfl, q1273⟩ := hu1273
      refine lv_istore (lv' := [(5, .int (zI (0))), (0, .ref b0), (1, .ref ss), (2, .ref m0), (3, .ref oa), (4, .int (zI (i)))]) hx hb dL_law_1276 hl (by decide) rfl (fun ls hl => ?_)
      refine lv_aload_n hx hb dL_law_1278 rfl (lv_at hl 3 rfl) ?_
      refine lv_aload_n hx hb dL_law_1279 rfl (lv_at hl 1 rfl) ?_
      refine lv_iload hx hb dL_law_1280 (lv_at hl 5 rfl) ?_
      refine z_iconst hx hb dL_law_1282 ?_
      refine z_iadd hx hb dL_law_1283 ?_
      refine z_sld hx hb hX hbl hbA hS (by omega) hL h_s1 dL_law_1284 ?_
      refine y_wVi (As := [.int (zI (x))]) (rest := []) (fun (u1285 : Int → Int) => (LW cI cJ cS ss h0 p0 s0 l0 h1 m0 oa b r w o a bs (zup f (491 + x) 0) u1273 (n - 1) (upS F (nxS la) f) (upS P (nxS la) ps) (upS N (nxS la) n) (nxS la) (cnS cn) 0 ge gv gd gt sc gf op tb sb (zup f (491 + x) 0) (cnS cn) 0 hs (kpF gp f cn) e2 v2 d2 t2 u1285 f2 w2 (zup go 0 (n - 1)))) hx hb hml hown hts hl.1 hc1 (kX7_removePost_ok l D cI cJ cS m0 a cn th hs f gp r2 x ok hcn hY h3) (cwV 1 hts gL_law_X7_removePost rfl rfl rfl jX7_removePost ⟨Nat.le_of_ble_eq_true rfl, Nat.le_of_ble_eq_true rfl⟩) hK [false, false, false, false, false, false, false, false, false, false, false, false, false, false, false, false, false, false, false, false, false, false, false, false, false, false, false, false, false, false, false, false, false, false, false, false, false, false, false, false, false, false, false, false, false, false, false, false, false, false, false, false, false, false, false, false, false, false, false, false, false, false, false, false, false, false, false, false, false, false, false, false, false, false, false, false, false, true, true, true, false, false, false, false, true] hP (zD hD rfl) hS rfl (fun _ => rfl) (fun _ => rfl) 7 0 rfl rfl rfl rfl rfl (Nat.le_of_ble_eq_true rfl) dL_law_1285 (fun r1285 u1285 H locs hu1285 hP hS => ?_)
      subst hu1285
      refine z_top (n - 1) (by have q9 := q1273.1; rw [zup_ne (by omega)] at q9; exact q9.symm) ?_
      refine lv_istore (lv' := [(6, .int (zI (n - 1))), (5, .int (zI (0))), (0, .ref b0), (1, .ref ss), (2, .ref m0), (3, .ref oa), (4, .int (zI (i)))]) hx hb dL_law_1288 hl (by decide) rfl (fun ls hl => ?_)
      refine lv_aload_n hx hb dL_law_1290 rfl (lv_at hl 4 rfl) ?_
      refine y_rV (v := 0) (As := []) (rest := []) hx hb hml hown hts hl.1 hc1 (kX7_thrown l D cI cJ cS m0 a (cnS cn) 0 hs (zup f (491 + x) 0) ) (cwV 0 hts gL_law_X7_thrown rfl rfl rfl jX7_thrown ⟨Nat.le_of_ble_eq_true rfl, Nat.le_of_ble_eq_true rfl⟩) hK [false, false, false, false, false, false, false, false, false, false, false, false, false, false, false, false, false, false, false, false, false, false, false, false, false, false, false, false, false, false, false, false, false, false, false, false, false, false, false, false, false, false, false, false, false, false, false, false, false, false, false, false, false, false, false, false, false, false, false, false, false, false, false, false, false, false, false, false, false, false, false, false, false, false, false, false, false, true] hP (zD hD rfl) rfl 7 0 rfl rfl rfl rfl rfl (Nat.le_of_ble_eq_true rfl) dL_law_1291 ?_
      refine lv_iload hx hb dL_law_1294 (lv_at hl 1 rfl) ?_
      refine z_icmpR 1301 hx hb dL_law_1296 (by decide) ?_
      refine lv_iload hx hb dL_law_1301 (lv_at hl 1 rfl) ?_
      refine z_if_ne (tgt := 1318) hx hb dL_law_1303 (by decide) (by omega) (fun c1303 => ?_) (fun c1303 => ?_)
      · exfalso; omega
      · refine lv_aload_n hx hb dL_law_1306 rfl (lv_at hl 5 rfl) ?_
        refine z_iconst hx hb dL_law_1307 ?_
        refine z_lald hx hb hK hP 87 1 rfl rfl (by omega) (Nat.lt_of_succ_le (Nat.le_of_ble_eq_true rfl)) dL_law_1308 ?_
        refine z_topL (n - 1) (zup_at _ _ _) ?_
        refine lv_iload hx hb dL_law_1309 (lv_at hl 0 rfl) ?_
        refine z_i2l hx hb dL_law_1311 (by omega) ?_
        refine z_lcmpR hx hb dL_law_1312 ?_
        refine z_if_eq (tgt := 1318) hx hb dL_law_1313 (by decide) (by omega) (fun c1313 => ?_) (fun c1313 => ?_)
        · refine lv_goto (tgt := 1700) hx hb dL_law_1318 (by decide) ?_
          refine W.widen (k := cells + 1) (n := slots + 6) (Nat.le_add_right _ _) (Nat.le_add_right _ _) ?_
          exact kk _ _ _ ⟨(zup f (491 + x) 0), u1273, n - 1, upS F (nxS la) f, upS P (nxS la) ps, upS N (nxS la) n, nxS la, cnS cn, 0, ge, gv, gd, gt, sc, gf, op, tb, sb, 0, hs, (kpF gp f cn), e2, v2, d2, t2, u1285, f2, w2, (zup go 0 (n - 1)), (okF_post ok hY.1 (Or.inl rfl)), q1273, (nxS_b hla), (cnS_b hcn), (Or.inl rfl), (fun h9 => absurd h9 (by decide)), htr, (hst_push ok rep hla hcn hh), hP⟩ hS (lv_sub hl [2, 3, 4, 5, 6] rfl)
        · exfalso; omega
  · refine lv_aload_n hx hb dL_law_1265 rfl (lv_at hl 1 rfl) ?_
    refine lv_aload_n hx hb dL_law_1266 rfl (lv_at hl 0 rfl) ?_
    refine lv_iload hx hb dL_law_1267 (lv_at hl 4 rfl) ?_
    refine z_iconst hx hb dL_law_1269 ?_
    refine z_iadd hx hb dL_law_1270 ?_
    refine z_sld hx hb hX hbl hbA hS (by omega) hL h_s1 dL_law_1271 ?_
    refine lv_aload_n hx hb dL_law_1272 rfl (lv_at hl 3 rfl) ?_
    refine y_wSx (As := [.ref ss, .int (zI (x)), .ref oa]) (rest := []) (fun (u1273 : Unit) => (LW cI cJ cS ss h0 p0 s0 l0 h1 m0 oa b r w o a bs f ps n F P N la cn fr ge gv gd gt sc gf op tb sb f cn th hs gp e2 v2 d2 t2 r2 f2 w2 go)) hx hb hml hown hts hl.1 hc2 (nL_removePost_no1 l D cI cJ cS ss h0 p0 s0 l0 b f ps n x oa go ok hN hr_x hst) (vx_cwSW 3 hts gL_law_L_removePost rfl rfl rfl jL_removePost.2 ⟨Nat.le_of_ble_eq_true rfl, Nat.le_of_ble_eq_true rfl⟩) hK [true, false, false, false, false, false, false, false, false, false, false, false, false, false, false, false, false, false, false, false, false, false, false, false, false, false, false, false, false, false, false, false, false, false, false, false, false, false, false, false, false, false, false, false, false, false, false, false, false, false, false, false, false, false, false, false, false, false, false, false, false, false, false, false, false, false, true, true, true, true, true, true, true, true, true, true, true, false, false, false, false, false, false, false, false, false, false, true] hP (zD hD rfl) hS hZ hTx rfl (fun _ => rfl) (fun _ => rfl) rfl rfl (Nat.le_of_ble_eq_true rfl) dL_law_1273 (fun r1273 u1273 H locs hu1273 hP hS => ?_)
    subst hu1273
    refine lv_istore (lv' := [(5, .int (zI (1))), (0, .ref b0), (1, .ref ss), (2, .ref m0), (3, .ref oa), (4, .int (zI (i)))]) hx hb dL_law_1276 hl (by decide) rfl (fun ls hl => ?_)
    refine lv_aload_n hx hb dL_law_1278 rfl (lv_at hl 3 rfl) ?_
    refine lv_aload_n hx hb dL_law_1279 rfl (lv_at hl 1 rfl) ?_
    refine lv_iload hx hb dL_law_1280 (lv_at hl 5 rfl) ?_
    refine z_iconst hx hb dL_law_1282 ?_
    refine z_iadd hx hb dL_law_1283 ?_
    refine z_sld hx hb hX hbl hbA hS (by omega) hL h_s1 dL_law_1284 ?_
    refine y_wVi (As := [.int (zI (x))]) (rest := []) (fun (u1285 : Unit) => (LW cI cJ cS ss h0 p0 s0 l0 h1 m0 oa b r w o a bs f ps n F P N la cn fr ge gv gd gt sc gf op tb sb f cn 1 hs gp e2 v2 d2 t2 r2 f2 w2 go)) hx hb hml hown hts hl.1 hc2 (kX7_removePost_no1 l D cI cJ cS m0 a cn th hs f x ok hN hr_x) (cwV 1 hts gL_law_X7_removePost rfl rfl rfl jX7_removePost ⟨Nat.le_of_ble_eq_true rfl, Nat.le_of_ble_eq_true rfl⟩) hK [false, false, false, false, false, false, false, false, false, false, false, false, false, false, false, false, false, false, false, false, false, false, false, false, false, false, false, false, false, false, false, false, false, false, false, false, false, false, false, false, false, false, false, false, false, false, false, false, false, false, false, false, false, false, false, false, false, false, false, false, false, false, false, false, false, false, false, false, false, false, false, false, false, false, false, false, false, true, true] hP (zD hD rfl) hS rfl (fun _ => rfl) (fun _ => rfl) 7 0 rfl rfl rfl rfl rfl (Nat.le_of_ble_eq_true rfl) dL_law_1285 (fun r1285 u1285 H locs hu1285 hP hS => ?_)
    subst hu1285
    refine lv_istore (lv' := [(6, .int (zI (0))), (5, .int (zI (1))), (0, .ref b0), (1, .ref ss), (2, .ref m0), (3, .ref oa), (4, .int (zI (i)))]) hx hb dL_law_1288 hl (by decide) rfl (fun ls hl => ?_)
    refine lv_aload_n hx hb dL_law_1290 rfl (lv_at hl 4 rfl) ?_
    refine y_rV (v := 1) (As := []) (rest := []) hx hb hml hown hts hl.1 hc2 (kX7_thrown l D cI cJ cS m0 a cn 1 hs f ) (cwV 0 hts gL_law_X7_thrown rfl rfl rfl jX7_thrown ⟨Nat.le_of_ble_eq_true rfl, Nat.le_of_ble_eq_true rfl⟩) hK [false, false, false, false, false, false, false, false, false, false, false, false, false, false, false, false, false, false, false, false, false, false, false, false, false, false, false, false, false, false, false, false, false, false, false, false, false, false, false, false, false, false, false, false, false, false, false, false, false, false, false, false, false, false, false, false, false, false, false, false, false, false, false, false, false, false, false, false, false, false, false, false, false, false, false, false, false, true] hP (zD hD rfl) rfl 7 0 rfl rfl rfl rfl rfl (Nat.le_of_ble_eq_true rfl) dL_law_1291 ?_
    refine lv_iload hx hb dL_law_1294 (lv_at hl 1 rfl) ?_
    refine z_icmpR 1301 hx hb dL_law_1296 (by decide) ?_
    refine lv_iload hx hb dL_law_1301 (lv_at hl 1 rfl) ?_
    refine z_if_ne (tgt := 1318) hx hb dL_law_1303 (by decide) (by omega) (fun c1303 => ?_) (fun c1303 => ?_)
    · refine lv_goto (tgt := 1700) hx hb dL_law_1318 (by decide) ?_
      exact kk _ _ _ ⟨f, ps, n, F, P, N, la, cn, fr, ge, gv, gd, gt, sc, gf, op, tb, sb, 1, hs, gp, e2, v2, d2, t2, r2, f2, w2, go, ok, rep, hla, hcn, hfr0, hp, htr, hh, hP⟩ hS (lv_sub hl [2, 3, 4, 5, 6] rfl)
    · exfalso; omega
