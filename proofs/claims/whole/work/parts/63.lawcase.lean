set_option maxHeartbeats 4000000 in
set_option maxRecDepth 100000 in
/-- setLength -/
theorem lc_0 {p : Program} {e : Env} {s : State} {m : MethodId} {args : Array Value} {below : List Frame} {meth : Method} {c : Code} {Q : State → Prop} {A : Nat → Prop} {H0 : Heap} (l : Launch) (hst : l.stackTraces = false) (D : va_G) (cI cJ cS : ClassId) (ss h0 p0 s0 l0 h1 m0 oa : Nat) (b r w o a : Nat → Nat) (bs : Nat → Nat → Nat) {b0 L : Nat} {xv : Nat → Int}
    (hx : p.tables.exec = Jvm.exec) (hb : c.code = cL_law) (hml : c.maxLocals = 8) (hown : s.vm.findClass RL = some m.cls) (hts : ∀ w ∈ wsL_law, w.before args s = true) (hK : va_K D vwCl (zT cI cJ cS) s) (hZ : xKs A s H0) (hTx : xTx s) (hX : va_X b0 L (fun j => zI (xv j)) s H0) (hbl : b0 < H0.size) (hbA : ¬ A b0) (hL : L < 2147483648) (hxv : ∀ j : Nat, -2147483648 ≤ xv j ∧ xv j < 2147483648) (hD : va_D A (LW cI cJ cS ss h0 p0 s0 l0 h1 m0 oa b r w o a bs (fun _ => 0) (fun _ => 0) 0 (fun _ _ => 0) (fun _ _ => 0) (fun _ => 0) 0 0 0 (fun _ => 0) (fun _ => 0) (fun _ => 0) (fun _ => 0) 0 (fun _ => 0) (fun _ => 0) (fun _ => 0) (fun _ => 0) (fun _ => 0) 0 0 0 (fun _ => 0) (fun _ => 0) (fun _ => 0) (fun _ => 0) (fun _ => 0) (fun _ => 0) (fun _ => 0) (fun _ => 0) (fun _ => 0))) {H : Heap} {locs : List Loc} {cells slots : Nat} {ls : Array Slot} (i : Int) (hi : 0 ≤ i ∧ i + 4 ≤ (L : Int)) (hI : LInv D cI cJ cS ss h0 p0 s0 l0 h1 m0 oa b r w o a bs H) (hS : va_S A H0 H locs) (hl : lv_has ls 8 [(0, .ref b0), (1, .ref ss), (2, .ref m0), (3, .ref oa), (4, .int (zI (i)))]) (hc2 : cells + 1 ≤ 601024 ∧ slots + 6 ≤ 7293034)
    (kk : ∀ (H1 : Heap) (locs1 : List Loc) (ls1 : Array Slot), LInv D cI cJ cS ss h0 p0 s0 l0 h1 m0 oa b r w o a bs H1 → va_S A H0 H1 locs1 → lv_has ls1 8 [(0, .ref b0), (1, .ref ss), (2, .ref m0), (3, .ref oa), (4, .int (zI (i)))] → W p l e room_1 s m args below meth c H1 locs1 (cells + 1) (slots + 6) Q (F0 m 1700 ls1 [])) : W p l e room_1 s m args below meth c H locs cells slots Q (F0 m 168 ls []) := by
  obtain ⟨f, ps, n, F, P, N, la, cn, fr, ge, gv, gd, gt, sc, gf, op, tb, sb, th, hs, gp, e2, v2, d2, t2, r2, f2, w2, go, ok, rep, hla, hcn, hfr0, hp, htr, hh, hP⟩ := hI
  obtain ⟨o0, o1, o2, o3, o4, o5, o7, o8, olim, ogrd, obar, oneed, opost⟩ := id ok
  have hc1 : cells ≤ 601024 ∧ slots ≤ 7293034 := ⟨by omega, by omega⟩
  obtain ⟨cl, h_s1⟩ : ∃ cl : Int, xv (i + 1).toNat = cl := ⟨_, rfl⟩
  have hr_cl : -2147483648 ≤ cl ∧ cl < 2147483648 := by rw [← h_s1]; exact hxv _
  rcases Classical.em (10 ≤ cl ∧ cl ≤ 120) with hY | hN
  · refine lv_aload_n hx hb dL_law_168 rfl (lv_at hl 1 rfl) ?_
    refine lv_aload_n hx hb dL_law_169 rfl (lv_at hl 0 rfl) ?_
    refine lv_iload hx hb dL_law_170 (lv_at hl 4 rfl) ?_
    refine z_iconst hx hb dL_law_172 ?_
    refine z_iadd hx hb dL_law_173 ?_
    refine z_sld hx hb hX hbl hbA hS (by omega) hL h_s1 dL_law_174 ?_
    refine lv_aload_n hx hb dL_law_175 rfl (lv_at hl 3 rfl) ?_
    refine y_wSi (As := [.ref ss, .int (zI (cl)), .ref oa]) (rest := []) (fun (u176 : Unit) => (LW cI cJ cS ss h0 p0 s0 l0 h1 m0 oa b r w o a bs (newl f cl) ps 0 (upS F (nxS la) f) (upS P (nxS la) ps) (upS N (nxS la) n) (nxS la) (cnS cn) 0 ge gv gd gt sc gf op tb sb f cn th hs gp e2 v2 d2 t2 r2 f2 w2 (zup go 0 (f 0)))) hx hb hml hown hts hl.1 hc1 (kL_setLength_ok l D cI cJ cS ss h0 p0 s0 l0 b f ps n h1 bs F P N la cn fr r cl oa go ok hla hcn hY) (vx_cwSW 3 hts gL_law_L_setLength rfl rfl rfl jL_setLength.2 ⟨Nat.le_of_ble_eq_true rfl, Nat.le_of_ble_eq_true rfl⟩) hK [true, true, true, true, true, true, true, true, true, true, true, true, true, true, true, true, true, true, true, true, true, true, true, true, true, true, true, true, true, true, true, true, true, true, true, true, true, true, true, true, true, true, true, true, true, true, true, false, false, false, false, false, false, false, false, false, false, true, false, false, false, false, false, false, false, false, true, true, true, true, true, true, true, true, true, true, true, false, false, false, false, false, false, false, false, false, false, true] hP (zD hD rfl) hS rfl (fun _ => rfl) (fun _ => rfl) rfl rfl (Nat.le_of_ble_eq_true rfl) dL_law_176 (fun r176 u176 H locs hu176 hP hS => ?_)
    subst hu176
    refine lv_istore (lv' := [(5, .int (zI (0))), (0, .ref b0), (1, .ref ss), (2, .ref m0), (3, .ref oa), (4, .int (zI (i)))]) hx hb dL_law_179 hl (by decide) rfl (fun ls hl => ?_)
    refine lv_aload_n hx hb dL_law_181 rfl (lv_at hl 3 rfl) ?_
    refine lv_aload_n hx hb dL_law_182 rfl (lv_at hl 1 rfl) ?_
    refine lv_iload hx hb dL_law_183 (lv_at hl 5 rfl) ?_
    refine z_iconst hx hb dL_law_185 ?_
    refine z_iadd hx hb dL_law_186 ?_
    refine z_sld hx hb hX hbl hbA hS (by omega) hL h_s1 dL_law_187 ?_
    refine y_wVi (As := [.int (zI (cl))]) (rest := []) (fun (u188 : Unit) => (LW cI cJ cS ss h0 p0 s0 l0 h1 m0 oa b r w o a bs (newl f cl) ps 0 (upS F (nxS la) f) (upS P (nxS la) ps) (upS N (nxS la) n) (nxS la) (cnS cn) 0 ge gv gd gt sc gf op tb sb (newl f cl) (cnS cn) 0 hs (kpF gp f cn) e2 v2 d2 t2 r2 f2 w2 (zup go 0 (f 0)))) hx hb hml hown hts hl.1 hc1 (kX7_setLength_ok l D cI cJ cS m0 a cn th hs f gp cl ok hcn hY) (cwV 1 hts gL_law_X7_setLength rfl rfl rfl jX7_setLength ⟨Nat.le_of_ble_eq_true rfl, Nat.le_of_ble_eq_true rfl⟩) hK [false, false, false, false, false, false, false, false, false, false, false, false, false, false, false, false, false, false, false, false, false, false, false, false, false, false, false, false, false, false, false, false, false, false, false, false, false, false, false, false, false, false, false, false, false, false, false, false, false, false, false, false, false, false, false, false, false, false, false, false, false, false, false, false, false, false, false, false, false, false, false, false, false, false, false, false, false, true, true, true] hP (zD hD rfl) hS rfl (fun _ => rfl) (fun _ => rfl) 7 0 rfl rfl rfl rfl rfl (Nat.le_of_ble_eq_true rfl) dL_law_188 (fun r188 u188 H locs hu188 hP hS => ?_)
    subst hu188
    refine lv_istore (lv' := [(6, .int (zI (f 0))), (5, .int (zI (0))), (0, .ref b0), (1, .ref ss), (2, .ref m0), (3, .ref oa), (4, .int (zI (i)))]) hx hb dL_law_191 hl (by decide) rfl (fun ls hl => ?_)
    refine lv_aload_n hx hb dL_law_193 rfl (lv_at hl 4 rfl) ?_
    refine y_rV (v := 0) (As := []) (rest := []) hx hb hml hown hts hl.1 hc1 (kX7_thrown l D cI cJ cS m0 a (cnS cn) 0 hs (newl f cl) ) (cwV 0 hts gL_law_X7_thrown rfl rfl rfl jX7_thrown ⟨Nat.le_of_ble_eq_true rfl, Nat.le_of_ble_eq_true rfl⟩) hK [false, false, false, false, false, false, false, false, false, false, false, false, false, false, false, false, false, false, false, false, false, false, false, false, false, false, false, false, false, false, false, false, false, false, false, false, false, false, false, false, false, false, false, false, false, false, false, false, false, false, false, false, false, false, false, false, false, false, false, false, false, false, false, false, false, false, false, false, false, false, false, false, false, false, false, false, false, true] hP (zD hD rfl) rfl 7 0 rfl rfl rfl rfl rfl (Nat.le_of_ble_eq_true rfl) dL_law_194 ?_
    refine lv_iload hx hb dL_law_197 (lv_at hl 1 rfl) ?_
    refine z_icmpR 204 hx hb dL_law_199 (by decide) ?_
    refine lv_iload hx hb dL_law_204 (lv_at hl 1 rfl) ?_
    refine z_if_ne (tgt := 221) hx hb dL_law_206 (by decide) (by omega) (fun c206 => ?_) (fun c206 => ?_)
    · exfalso; omega
    · refine lv_aload_n hx hb dL_law_209 rfl (lv_at hl 5 rfl) ?_
      refine z_iconst hx hb dL_law_210 ?_
      refine z_lald hx hb hK hP 87 1 rfl rfl (by omega) (Nat.lt_of_succ_le (Nat.le_of_ble_eq_true rfl)) dL_law_211 ?_
      refine z_topL (f 0) (zup_at _ _ _) ?_
      refine lv_iload hx hb dL_law_212 (lv_at hl 0 rfl) ?_
      refine z_i2l hx hb dL_law_214 (by omega) ?_
      refine z_lcmpR hx hb dL_law_215 ?_
      refine z_if_eq (tgt := 221) hx hb dL_law_216 (by decide) (by omega) (fun c216 => ?_) (fun c216 => ?_)
      · refine lv_goto (tgt := 1700) hx hb dL_law_221 (by decide) ?_
        refine W.widen (k := cells + 1) (n := slots + 6) (Nat.le_add_right _ _) (Nat.le_add_right _ _) ?_
        exact kk _ _ _ ⟨(newl f cl), ps, 0, upS F (nxS la) f, upS P (nxS la) ps, upS N (nxS la) n, nxS la, cnS cn, 0, ge, gv, gd, gt, sc, gf, op, tb, sb, 0, hs, (kpF gp f cn), e2, v2, d2, t2, r2, f2, w2, (zup go 0 (f 0)), (okF_new ok hY), (rep_none (okF_new ok hY) (fun x9 a9 b9 => newl_hi (by omega))), (nxS_b hla), (cnS_b hcn), (Or.inl rfl), (fun h9 => absurd h9 (by decide)), htr, (hst_push ok rep hla hcn hh), hP⟩ hS (lv_sub hl [2, 3, 4, 5, 6] rfl)
      · exfalso; omega
  · refine lv_aload_n hx hb dL_law_168 rfl (lv_at hl 1 rfl) ?_
    refine lv_aload_n hx hb dL_law_169 rfl (lv_at hl 0 rfl) ?_
    refine lv_iload hx hb dL_law_170 (lv_at hl 4 rfl) ?_
    refine z_iconst hx hb dL_law_172 ?_
    refine z_iadd hx hb dL_law_173 ?_
    refine z_sld hx hb hX hbl hbA hS (by omega) hL h_s1 dL_law_174 ?_
    refine lv_aload_n hx hb dL_law_175 rfl (lv_at hl 3 rfl) ?_
    refine y_wSx (As := [.ref ss, .int (zI (cl)), .ref oa]) (rest := []) (fun (u176 : Unit) => (LW cI cJ cS ss h0 p0 s0 l0 h1 m0 oa b r w o a bs f ps n F P N la cn fr ge gv gd gt sc gf op tb sb f cn th hs gp e2 v2 d2 t2 r2 f2 w2 go)) hx hb hml hown hts hl.1 hc2 (nL_setLength l D cI cJ cS ss h0 p0 s0 l0 b f ps n cl oa go ok hN hr_cl hst) (vx_cwSW 3 hts gL_law_L_setLength rfl rfl rfl jL_setLength.2 ⟨Nat.le_of_ble_eq_true rfl, Nat.le_of_ble_eq_true rfl⟩) hK [true, false, false, false, false, false, false, false, false, false, false, false, false, false, false, false, false, false, false, false, false, false, false, false, false, false, false, false, false, false, false, false, false, false, false, false, false, false, false, false, false, false, false, false, false, false, false, false, false, false, false, false, false, false, false, false, false, false, false, false, false, false, false, false, false, false, true, true, true, true, true, true, true, true, true, true, true, false, false, false, false, false, false, false, false, false, false, true] hP (zD hD rfl) hS hZ hTx rfl (fun _ => rfl) (fun _ => rfl) rfl rfl (Nat.le_of_ble_eq_true rfl) dL_law_176 (fun r176 u176 H locs hu176 hP hS => ?_)
    subst hu176
    refine lv_istore (lv' := [(5, .int (zI (1))), (0, .ref b0), (1, .ref ss), (2, .ref m0), (3, .ref oa), (4, .int (zI (i)))]) hx hb dL_law_179 hl (by decide) rfl (fun ls hl => ?_)
    refine lv_aload_n hx hb dL_law_181 rfl (lv_at hl 3 rfl) ?_
    refine lv_aload_n hx hb dL_law_182 rfl (lv_at hl 1 rfl) ?_
    refine lv_iload hx hb dL_law_183 (lv_at hl 5 rfl) ?_
    refine z_iconst hx hb dL_law_185 ?_
    refine z_iadd hx hb dL_law_186 ?_
    refine z_sld hx hb hX hbl hbA hS (by omega) hL h_s1 dL_law_187 ?_
    refine y_wVi (As := [.int (zI (cl))]) (rest := []) (fun (u188 : Unit) => (LW cI cJ cS ss h0 p0 s0 l0 h1 m0 oa b r w o a bs f ps n F P N la cn fr ge gv gd gt sc gf op tb sb f cn 1 hs gp e2 v2 d2 t2 r2 f2 w2 go)) hx hb hml hown hts hl.1 hc2 (kX7_setLength_no l D cI cJ cS m0 a cn th hs f cl ok hN hr_cl) (cwV 1 hts gL_law_X7_setLength rfl rfl rfl jX7_setLength ⟨Nat.le_of_ble_eq_true rfl, Nat.le_of_ble_eq_true rfl⟩) hK [false, false, false, false, false, false, false, false, false, false, false, false, false, false, false, false, false, false, false, false, false, false, false, false, false, false, false, false, false, false, false, false, false, false, false, false, false, false, false, false, false, false, false, false, false, false, false, false, false, false, false, false, false, false, false, false, false, false, false, false, false, false, false, false, false, false, false, false, false, false, false, false, false, false, false, false, false, true, true] hP (zD hD rfl) hS rfl (fun _ => rfl) (fun _ => rfl) 7 0 rfl rfl rfl rfl rfl (Nat.le_of_ble_eq_true rfl) dL_law_188 (fun r188 u188 H locs hu188 hP hS => ?_)
    subst hu188
    refine lv_istore (lv' := [(6, .int (zI (0))), (5, .int (zI (1))), (0, .ref b0), (1, .ref ss), (2, .ref m0), (3, .ref oa), (4, .int (zI (i)))]) hx hb dL_law_191 hl (by decide) rfl (fun ls hl => ?_)
    refine lv_aload_n hx hb dL_law_193 rfl (lv_at hl 4 rfl) ?_
    refine y_rV (v := 1) (As := []) (rest := []) hx hb hml hown hts hl.1 hc2 (kX7_thrown l D cI cJ cS m0 a cn 1 hs f ) (cwV 0 hts gL_law_X7_thrown rfl rfl rfl jX7_thrown ⟨Nat.le_of_ble_eq_true rfl, Nat.le_of_ble_eq_true rfl⟩) hK [false, false, false, false, false, false, false, false, false, false, false, false, false, false, false, false, false, false, false, false, false, false, false, false, false, false, false, false, false, false, false, false, false, false, false, false, false, false, false, false, false, false, false, false, false, false, false, false, false, false, false, false, false, false, false, false, false, false, false, false, false, false, false, false, false, false, false, false, false, false, false, false, false, false, false, false, false, true] hP (zD hD rfl) rfl 7 0 rfl rfl rfl rfl rfl (Nat.le_of_ble_eq_true rfl) dL_law_194 ?_
    refine lv_iload hx hb dL_law_197 (lv_at hl 1 rfl) ?_
    refine z_icmpR 204 hx hb dL_law_199 (by decide) ?_
    refine lv_iload hx hb dL_law_204 (lv_at hl 1 rfl) ?_
    refine z_if_ne (tgt := 221) hx hb dL_law_206 (by decide) (by omega) (fun c206 => ?_) (fun c206 => ?_)
    · refine lv_goto (tgt := 1700) hx hb dL_law_221 (by decide) ?_
      exact kk _ _ _ ⟨f, ps, n, F, P, N, la, cn, fr, ge, gv, gd, gt, sc, gf, op, tb, sb, 1, hs, gp, e2, v2, d2, t2, r2, f2, w2, go, ok, rep, hla, hcn, hfr0, hp, htr, hh, hP⟩ hS (lv_sub hl [2, 3, 4, 5, 6] rfl)
    · exfalso; omega

set_option maxHeartbeats 4000000 in
set_option maxRecDepth 100000 in
/-- setLimit -/
theorem lc_1 {p : Program} {e : Env} {s : State} {m : MethodId} {args : Array Value} {below : List Frame} {meth : Method} {c : Code} {Q : State → Prop} {A : Nat → Prop} {H0 : Heap} (l : Launch) (hst : l.stackTraces = false) (D : va_G) (cI cJ cS : ClassId) (ss h0 p0 s0 l0 h1 m0 oa : Nat) (b r w o a : Nat → Nat) (bs : Nat → Nat → Nat) {b0 L : Nat} {xv : Nat → Int}
    (hx : p.tables.exec = Jvm.exec) (hb : c.code = cL_law) (hml : c.maxLocals = 8) (hown : s.vm.findClass RL = some m.cls) (hts : ∀ w ∈ wsL_law, w.before args s = true) (hK : va_K D vwCl (zT cI cJ cS) s) (hZ : xKs A s H0) (hTx : xTx s) (hX : va_X b0 L (fun j => zI (xv j)) s H0) (hbl : b0 < H0.size) (hbA : ¬ A b0) (hL : L < 2147483648) (hxv : ∀ j : Nat, -2147483648 ≤ xv j ∧ xv j < 2147483648) (hD : va_D A (LW cI cJ cS ss h0 p0 s0 l0 h1 m0 oa b r w o a bs (fun _ => 0) (fun _ => 0) 0 (fun _ _ => 0) (fun _ _ => 0) (fun _ => 0) 0 0 0 (fun _ => 0) (fun _ => 0) (fun _ => 0) (fun _ => 0) 0 (fun _ => 0) (fun _ => 0) (fun _ => 0) (fun _ => 0) (fun _ => 0) 0 0 0 (fun _ => 0) (fun _ => 0) (fun _ => 0) (fun _ => 0) (fun _ => 0) (fun _ => 0) (fun _ => 0) (fun _ => 0) (fun _ => 0))) {H : Heap} {locs : List Loc} {cells slots : Nat} {ls : Array Slot} (i : Int) (hi : 0 ≤ i ∧ i + 4 ≤ (L : Int)) (hI : LInv D cI cJ cS ss h0 p0 s0 l0 h1 m0 oa b r w o a bs H) (hS : va_S A H0 H locs) (hl : lv_has ls 8 [(0, .ref b0), (1, .ref ss), (2, .ref m0), (3, .ref oa), (4, .int (zI (i)))]) (hc2 : cells + 1 ≤ 601024 ∧ slots + 6 ≤ 7293034)
    (kk : ∀ (H1 : Heap) (locs1 : List Loc) (ls1 : Array Slot), LInv D cI cJ cS ss h0 p0 s0 l0 h1 m0 oa b r w o a bs H1 → va_S A H0 H1 locs1 → lv_has ls1 8 [(0, .ref b0), (1, .ref ss), (2, .ref m0), (3, .ref oa), (4, .int (zI (i)))] → W p l e room_1 s m args below meth c H1 locs1 (cells + 1) (slots + 6) Q (F0 m 1700 ls1 [])) : W p l e room_1 s m args below meth c H locs cells slots Q (F0 m 224 ls []) := by
  obtain ⟨f, ps, n, F, P, N, la, cn, fr, ge, gv, gd, gt, sc, gf, op, tb, sb, th, hs, gp, e2, v2, d2, t2, r2, f2, w2, go, ok, rep, hla, hcn, hfr0, hp, htr, hh, hP⟩ := hI
  obtain ⟨o0, o1, o2, o3, o4, o5, o7, o8, olim, ogrd, obar, oneed, opost⟩ := id ok
  have hc1 : cells ≤ 601024 ∧ slots ≤ 7293034 := ⟨by omega, by omega⟩
  obtain ⟨x, h_s1⟩ : ∃ x : Int, xv (i + 1).toNat = x := ⟨_, rfl⟩
  have hr_x : -2147483648 ≤ x ∧ x < 2147483648 := by rw [← h_s1]; exact hxv _
  obtain ⟨z, h_s2⟩ : ∃ z : Int, xv (i + 2).toNat = z := ⟨_, rfl⟩
  have hr_z : -2147483648 ≤ z ∧ z < 2147483648 := by rw [← h_s2]; exact hxv _
  obtain ⟨v, h_s3⟩ : ∃ v : Int, xv (i + 3).toNat = v := ⟨_, rfl⟩
  have hr_v : -2147483648 ≤ v ∧ v < 2147483648 := by rw [← h_s3]; exact hxv _
  rcases Classical.em (0 ≤ x ∧ x ≤ z ∧ z ≤ f 0 - 1 ∧ 20 ≤ v ∧ v ≤ 160) with hY | hN
  · have hzb := zcnt_b f v (9 + x) (z + 1 - x).toNat
    refine lv_aload_n hx hb dL_law_224 rfl (lv_at hl 1 rfl) ?_
    refine lv_aload_n hx hb dL_law_225 rfl (lv_at hl 0 rfl) ?_
    refine lv_iload hx hb dL_law_226 (lv_at hl 4 rfl) ?_
    refine z_iconst hx hb dL_law_228 ?_
    refine z_iadd hx hb dL_law_229 ?_
    refine z_sld hx hb hX hbl hbA hS (by omega) hL h_s1 dL_law_230 ?_
    refine lv_aload_n hx hb dL_law_231 rfl (lv_at hl 0 rfl) ?_
    refine lv_iload hx hb dL_law_232 (lv_at hl 4 rfl) ?_
    refine z_iconst hx hb dL_law_234 ?_
    refine z_iadd hx hb dL_law_235 ?_
    refine z_sld hx hb hX hbl hbA hS (by omega) hL h_s2 dL_law_236 ?_
    refine lv_aload_n hx hb dL_law_237 rfl (lv_at hl 0 rfl) ?_
    refine lv_iload hx hb dL_law_238 (lv_at hl 4 rfl) ?_
    refine z_iconst hx hb dL_law_240 ?_
    refine z_iadd hx hb dL_law_241 ?_
    refine z_sld hx hb hX hbl hbA hS (by omega) hL h_s3 dL_law_242 ?_
    refine lv_aload_n hx hb dL_law_243 rfl (lv_at hl 3 rfl) ?_
    refine y_wSi (As := [.ref ss, .int (zI (x)), .int (zI (z)), .int (zI (v)), .ref oa]) (rest := []) (fun (u244 : Unit) => (LW cI cJ cS ss h0 p0 s0 l0 h1 m0 oa b r w o a bs (zfill f (9 + x) (9 + z) v) ps n (upS F (nxS la) f) (upS P (nxS la) ps) (upS N (nxS la) n) (nxS la) (cnS cn) 0 ge gv gd gt sc gf op tb sb f cn th hs gp e2 v2 d2 t2 r2 f2 w2 (zup go 0 (zcnt f v (9 + x) (z + 1 - x).toNat)))) hx hb hml hown hts hl.1 hc1 (kL_setLimit_ok l D cI cJ cS ss h0 p0 s0 l0 b f ps n h1 bs F P N la cn fr r x z v oa go ok hla hcn hY) (vx_cwSW 5 hts gL_law_L_setLimit rfl rfl rfl jL_setLimit.2 ⟨Nat.le_of_ble_eq_true rfl, Nat.le_of_ble_eq_true rfl⟩) hK [true, true, true, true, true, true, true, true, true, true, true, true, true, true, true, true, true, true, true, true, true, true, true, true, true, true, true, true, true, true, true, true, true, true, true, true, true, true, true, true, true, true, true, true, true, true, true, false, false, false, false, false, false, false, false, false, false, true, false, false, false, false, false, false, false, false, true, true, true, true, true, true, true, true, true, true, true, false, false, false, false, false, false, false, false, false, false, true] hP (zD hD rfl) hS rfl (fun _ => rfl) (fun _ => rfl) rfl rfl (Nat.le_of_ble_eq_true rfl) dL_law_244 (fun r244 u244 H locs hu244 hP hS => ?_)
    subst hu244
    refine lv_istore (lv' := [(5, .int (zI (0))), (0, .ref b0), (1, .ref ss), (2, .ref m0), (3, .ref oa), (4, .int (zI (i)))]) hx hb dL_law_247 hl (by decide) rfl (fun ls hl => ?_)
    refine lv_aload_n hx hb dL_law_249 rfl (lv_at hl 3 rfl) ?_
    refine lv_aload_n hx hb dL_law_250 rfl (lv_at hl 1 rfl) ?_
    refine lv_iload hx hb dL_law_251 (lv_at hl 5 rfl) ?_
    refine z_iconst hx hb dL_law_253 ?_
    refine z_iadd hx hb dL_law_254 ?_
    refine z_sld hx hb hX hbl hbA hS (by omega) hL h_s1 dL_law_255 ?_
    refine lv_aload_n hx hb dL_law_256 rfl (lv_at hl 1 rfl) ?_
    refine lv_iload hx hb dL_law_257 (lv_at hl 5 rfl) ?_
    refine z_iconst hx hb dL_law_259 ?_
    refine z_iadd hx hb dL_law_260 ?_
    refine z_sld hx hb hX hbl hbA hS (by omega) hL h_s2 dL_law_261 ?_
    refine lv_aload_n hx hb dL_law_262 rfl (lv_at hl 1 rfl) ?_
    refine lv_iload hx hb dL_law_263 (lv_at hl 5 rfl) ?_
    refine z_iconst hx hb dL_law_265 ?_
    refine z_iadd hx hb dL_law_266 ?_
    refine z_sld hx hb hX hbl hbA hS (by omega) hL h_s3 dL_law_267 ?_
    refine y_wVi (As := [.int (zI (x)), .int (zI (z)), .int (zI (v))]) (rest := []) (fun (u268 : Unit) => (LW cI cJ cS ss h0 p0 s0 l0 h1 m0 oa b r w o a bs (zfill f (9 + x) (9 + z) v) ps n (upS F (nxS la) f) (upS P (nxS la) ps) (upS N (nxS la) n) (nxS la) (cnS cn) 0 ge gv gd gt sc gf op tb sb (zfill f (9 + x) (9 + z) v) (cnS cn) 0 hs (kpF gp f cn) e2 v2 d2 t2 r2 f2 w2 (zup go 0 (zcnt f v (9 + x) (z + 1 - x).toNat)))) hx hb hml hown hts hl.1 hc1 (kX7_setLimit_ok l D cI cJ cS m0 a cn th hs f gp x z v ok hcn hY) (cwV 3 hts gL_law_X7_setLimit rfl rfl rfl jX7_setLimit ⟨Nat.le_of_ble_eq_true rfl, Nat.le_of_ble_eq_true rfl⟩) hK [false, false, false, false, false, false, false, false, false, false, false, false, false, false, false, false, false, false, false, false, false, false, false, false, false, false, false, false, false, false, false, false, false, false, false, false, false, false, false, false, false, false, false, false, false, false, false, false, false, false, false, false, false, false, false, false, false, false, false, false, false, false, false, false, false, false, false, false, false, false, false, false, false, false, false, false, false, true, true, true] hP (zD hD rfl) hS rfl (fun _ => rfl) (fun _ => rfl) 7 0 rfl rfl rfl rfl rfl (Nat.le_of_ble_eq_true rfl) dL_law_268 (fun r268 u268 H locs hu268 hP hS => ?_)
    subst hu268
    refine lv_istore (lv' := [(6, .int (zI (zcnt f v (9 + x) (z + 1 - x).toNat))), (5, .int (zI (0))), (0, .ref b0), (1, .ref ss), (2, .ref m0), (3, .ref oa), (4, .int (zI (i)))]) hx hb dL_law_271 hl (by decide) rfl (fun ls hl => ?_)
    refine lv_aload_n hx hb dL_law_273 rfl (lv_at hl 4 rfl) ?_
    refine y_rV (v := 0) (As := []) (rest := []) hx hb hml hown hts hl.1 hc1 (kX7_thrown l D cI cJ cS m0 a (cnS cn) 0 hs (zfill f (9 + x) (9 + z) v) ) (cwV 0 hts gL_law_X7_thrown rfl rfl rfl jX7_thrown ⟨Nat.le_of_ble_eq_true rfl, Nat.le_of_ble_eq_true rfl⟩) hK [false, false, false, false, false, false, false, false, false, false, false, false, false, false, false, false, false, false, false, false, false, false, false, false, false, false, false, false, false, false, false, false, false, false, false, false, false, false, false, false, false, false, false, false, false, false, false, false, false, false, false, false, false, false, false, false, false, false, false, false, false, false, false, false, false, false, false, false, false, false, false, false, false, false, false, false, false, true] hP (zD hD rfl) rfl 7 0 rfl rfl rfl rfl rfl (Nat.le_of_ble_eq_true rfl) dL_law_274 ?_
    refine lv_iload hx hb dL_law_277 (lv_at hl 1 rfl) ?_
    refine z_icmpR 284 hx hb dL_law_279 (by decide) ?_
    refine lv_iload hx hb dL_law_284 (lv_at hl 1 rfl) ?_
    refine z_if_ne (tgt := 301) hx hb dL_law_286 (by decide) (by omega) (fun c286 => ?_) (fun c286 => ?_)
    · exfalso; omega
    · refine lv_aload_n hx hb dL_law_289 rfl (lv_at hl 5 rfl) ?_
      refine z_iconst hx hb dL_law_290 ?_
      refine z_lald hx hb hK hP 87 1 rfl rfl (by omega) (Nat.lt_of_succ_le (Nat.le_of_ble_eq_true rfl)) dL_law_291 ?_
      refine z_topL (zcnt f v (9 + x) (z + 1 - x).toNat) (zup_at _ _ _) ?_
      refine lv_iload hx hb dL_law_292 (lv_at hl 0 rfl) ?_
      refine z_i2l hx hb dL_law_294 (by omega) ?_
      refine z_lcmpR hx hb dL_law_295 ?_
      refine z_if_eq (tgt := 301) hx hb dL_law_296 (by decide) (by omega) (fun c296 => ?_) (fun c296 => ?_)
      · refine lv_goto (tgt := 1700) hx hb dL_law_301 (by decide) ?_
        refine W.widen (k := cells + 1) (n := slots + 6) (Nat.le_add_right _ _) (Nat.le_add_right _ _) ?_
        exact kk _ _ _ ⟨(zfill f (9 + x) (9 + z) v), ps, n, upS F (nxS la) f, upS P (nxS la) ps, upS N (nxS la) n, nxS la, cnS cn, 0, ge, gv, gd, gt, sc, gf, op, tb, sb, 0, hs, (kpF gp f cn), e2, v2, d2, t2, r2, f2, w2, (zup go 0 (zcnt f v (9 + x) (z + 1 - x).toNat)), (okF_fill ok (fun j a9 b9 => ⟨by omega, by omega, fun c9 => by omega, fun c9 d9 => by omega, fun c9 => by omega⟩)), (rep_ext ok rep (if_neg (by omega)) (fun x9 a9 b9 => if_neg (by omega))), (nxS_b hla), (cnS_b hcn), (Or.inl rfl), (fun h9 => absurd h9 (by decide)), htr, (hst_push ok rep hla hcn hh), hP⟩ hS (lv_sub hl [2, 3, 4, 5, 6] rfl)
      · exfalso; omega
  · refine lv_aload_n hx hb dL_law_224 rfl (lv_at hl 1 rfl) ?_
    refine lv_aload_n hx hb dL_law_225 rfl (lv_at hl 0 rfl) ?_
    refine lv_iload hx hb dL_law_226 (lv_at hl 4 rfl) ?_
    refine z_iconst hx hb dL_law_228 ?_
    refine z_iadd hx hb dL_law_229 ?_
    refine z_sld hx hb hX hbl hbA hS (by omega) hL h_s1 dL_law_230 ?_
    refine lv_aload_n hx hb dL_law_231 rfl (lv_at hl 0 rfl) ?_
    refine lv_iload hx hb dL_law_232 (lv_at hl 4 rfl) ?_
    refine z_iconst hx hb dL_law_234 ?_
    refine z_iadd hx hb dL_law_235 ?_
    refine z_sld hx hb hX hbl hbA hS (by omega) hL h_s2 dL_law_236 ?_
    refine lv_aload_n hx hb dL_law_237 rfl (lv_at hl 0 rfl) ?_
    refine lv_iload hx hb dL_law_238 (lv_at hl 4 rfl) ?_
    refine z_iconst hx hb dL_law_240 ?_
    refine z_iadd hx hb dL_law_241 ?_
    refine z_sld hx hb hX hbl hbA hS (by omega) hL h_s3 dL_law_242 ?_
    refine lv_aload_n hx hb dL_law_243 rfl (lv_at hl 3 rfl) ?_
    refine y_wSx (As := [.ref ss, .int (zI (x)), .int (zI (z)), .int (zI (v)), .ref oa]) (rest := []) (fun (u244 : Unit) => (LW cI cJ cS ss h0 p0 s0 l0 h1 m0 oa b r w o a bs f ps n F P N la cn fr ge gv gd gt sc gf op tb sb f cn th hs gp e2 v2 d2 t2 r2 f2 w2 go)) hx hb hml hown hts hl.1 hc2 (nL_setLimit l D cI cJ cS ss h0 p0 s0 l0 b f ps n x z v oa go ok hN hr_x hr_z hr_v hst) (vx_cwSW 5 hts gL_law_L_setLimit rfl rfl rfl jL_setLimit.2 ⟨Nat.le_of_ble_eq_true rfl, Nat.le_of_ble_eq_true rfl⟩) hK [true, false, false, false, false, false, false, false, false, false, false, false, false, false, false, false, false, false, false, false, false, false, false, false, false, false, false, false, false, false, false, false, false, false, false, false, false, false, false, false, false, false, false, false, false, false, false, false, false, false, false, false, false, false, false, false, false, false, false, false, false, false, false, false, false, false, true, true, true, true, true, true, true, true, true, true, true, false, false, false, false, false, false, false, false, false, false, true] hP (zD hD rfl) hS hZ hTx rfl (fun _ => rfl) (fun _ => rfl) rfl rfl (Nat.le_of_ble_eq_true rfl) dL_law_244 (fun r244 u244 H locs hu244 hP hS => ?_)
    subst hu244
    refine lv_istore (lv' := [(5, .int (zI (1))), (0, .ref b0), (1, .ref ss), (2, .ref m0), (3, .ref oa), (4, .int (zI (i)))]) hx hb dL_law_247 hl (by decide) rfl (fun ls hl => ?_)
    refine lv_aload_n hx hb dL_law_249 rfl (lv_at hl 3 rfl) ?_
    refine lv_aload_n hx hb dL_law_250 rfl (lv_at hl 1 rfl) ?_
    refine lv_iload hx hb dL_law_251 (lv_at hl 5 rfl) ?_
    refine z_iconst hx hb dL_law_253 ?_
    refine z_iadd hx hb dL_law_254 ?_
    refine z_sld hx hb hX hbl hbA hS (by omega) hL h_s1 dL_law_255 ?_
    refine lv_aload_n hx hb dL_law_256 rfl (lv_at hl 1 rfl) ?_
    refine lv_iload hx hb dL_law_257 (lv_at hl 5 rfl) ?_
    refine z_iconst hx hb dL_law_259 ?_
    refine z_iadd hx hb dL_law_260 ?_
    refine z_sld hx hb hX hbl hbA hS (by omega) hL h_s2 dL_law_261 ?_
    refine lv_aload_n hx hb dL_law_262 rfl (lv_at hl 1 rfl) ?_
    refine lv_iload hx hb dL_law_263 (lv_at hl 5 rfl) ?_
    refine z_iconst hx hb dL_law_265 ?_
    refine z_iadd hx hb dL_law_266 ?_
    refine z_sld hx hb hX hbl hbA hS (by omega) hL h_s3 dL_law_267 ?_
    refine y_wVi (As := [.int (zI (x)), .int (zI (z)), .int (zI (v))]) (rest := []) (fun (u268 : Unit) => (LW cI cJ cS ss h0 p0 s0 l0 h1 m0 oa b r w o a bs f ps n F P N la cn fr ge gv gd gt sc gf op tb sb f cn 1 hs gp e2 v2 d2 t2 r2 f2 w2 go)) hx hb hml hown hts hl.1 hc2 (kX7_setLimit_no l D cI cJ cS m0 a cn th hs f x z v ok hN hr_x hr_z hr_v) (cwV 3 hts gL_law_X7_setLimit rfl rfl rfl jX7_setLimit ⟨Nat.le_of_ble_eq_true rfl, Nat.le_of_ble_eq_true rfl⟩) hK [false, false, false, false, false, false, false, false, false, false, false, false, false, false, false, false, false, false, false, false, false, false, false, false, false, false, false, false, false, false, false, false, false, false, false, false, false, false, false, false, false, false, false, false, false, false, false, false, false, false, false, false, false, false, false, false, false, false, false, false, false, false, false, false, false, false, false, false, false, false, false, false, false, false, false, false, false, true, true] hP (zD hD rfl) hS rfl (fun _ => rfl) (fun _ => rfl) 7 0 rfl rfl rfl rfl rfl (Nat.le_of_ble_eq_true rfl) dL_law_268 (fun r268 u268 H locs hu268 hP hS => ?_)
    subst hu268
    refine lv_istore (lv' := [(6, .int (zI (0))), (5, .int (zI (1))), (0, .ref b0), (1, .ref ss), (2, .ref m0), (3, .ref oa), (4, .int (zI (i)))]) hx hb dL_law_271 hl (by decide) rfl (fun ls hl => ?_)
    refine lv_aload_n hx hb dL_law_273 rfl (lv_at hl 4 rfl) ?_
    refine y_rV (v := 1) (As := []) (rest := []) hx hb hml hown hts hl.1 hc2 (kX7_thrown l D cI cJ cS m0 a cn 1 hs f ) (cwV 0 hts gL_law_X7_thrown rfl rfl rfl jX7_thrown ⟨Nat.le_of_ble_eq_true rfl, Nat.le_of_ble_eq_true rfl⟩) hK [false, false, false, false, false, false, false, false, false, false, false, false, false, false, false, false, false, false, false, false, false, false, false, false, false, false, false, false, false, false, false, false, false, false, false, false, false, false, false, false, false, false, false, false, false, false, false, false, false, false, false, false, false, false, false, false, false, false, false, false, false, false, false, false, false, false, false, false, false, false, false, false, false, false, false, false, false, true] hP (zD hD rfl) rfl 7 0 rfl rfl rfl rfl rfl (Nat.le_of_ble_eq_true rfl) dL_law_274 ?_
    refine lv_iload hx hb dL_law_277 (lv_at hl 1 rfl) ?_
    refine z_icmpR 284 hx hb dL_law_279 (by decide) ?_
    refine lv_iload hx hb dL_law_284 (lv_at hl 1 rfl) ?_
    refine z_if_ne (tgt := 301) hx hb dL_law_286 (by decide) (by omega) (fun c286 => ?_) (fun c286 => ?_)
    · refine lv_goto (tgt := 1700) hx hb dL_law_301 (by decide) ?_
      exact kk _ _ _ ⟨f, ps, n, F, P, N, la, cn, fr, ge, gv, gd, gt, sc, gf, op, tb, sb, 1, hs, gp, e2, v2, d2, t2, r2, f2, w2, go, ok, rep, hla, hcn, hfr0, hp, htr, hh, hP⟩ hS (lv_sub hl [2, 3, 4, 5, 6] rfl)
    · exfalso; omega

set_option maxHeartbeats 4000000 in
set_option maxRecDepth 100000 in
/-- setGradient -/
theorem lc_2 {p : Program} {e : Env} {s : State} {m : MethodId} {args : Array Value} {below : List Frame} {meth : Method} {c : Code} {Q : State → Prop} {A : Nat → Prop} {H0 : Heap} (l : Launch) (hst : l.stackTraces = false) (D : va_G) (cI cJ cS : ClassId) (ss h0 p0 s0 l0 h1 m0 oa : Nat) (b r w o a : Nat → Nat) (bs : Nat → Nat → Nat) {b0 L : Nat} {xv : Nat → Int}
    (hx : p.tables.exec = Jvm.exec) (hb : c.code = cL_law) (hml : c.maxLocals = 8) (hown : s.vm.findClass RL = some m.cls) (hts : ∀ w ∈ wsL_law, w.before args s = true) (hK : va_K D vwCl (zT cI cJ cS) s) (hZ : xKs A s H0) (hTx : xTx s) (hX : va_X b0 L (fun j => zI (xv j)) s H0) (hbl : b0 < H0.size) (hbA : ¬ A b0) (hL : L < 2147483648) (hxv : ∀ j : Nat, -2147483648 ≤ xv j ∧ xv j < 2147483648) (hD : va_D A (LW cI cJ cS ss h0 p0 s0 l0 h1 m0 oa b r w o a bs (fun _ => 0) (fun _ => 0) 0 (fun _ _ => 0) (fun _ _ => 0) (fun _ => 0) 0 0 0 (fun _ => 0) (fun _ => 0) (fun _ => 0) (fun _ => 0) 0 (fun _ => 0) (fun _ => 0) (fun _ => 0) (fun _ => 0) (fun _ => 0) 0 0 0 (fun _ => 0) (fun _ => 0) (fun _ => 0) (fun _ => 0) (fun _ => 0) (fun _ => 0) (fun _ => 0) (fun _ => 0) (fun _ => 0))) {H : Heap} {locs : List Loc} {cells slots : Nat} {ls : Array Slot} (i : Int) (hi : 0 ≤ i ∧ i + 4 ≤ (L : Int)) (hI : LInv D cI cJ cS ss h0 p0 s0 l0 h1 m0 oa b r w o a bs H) (hS : va_S A H0 H locs) (hl : lv_has ls 8 [(0, .ref b0), (1, .ref ss), (2, .ref m0), (3, .ref oa), (4, .int (zI (i)))]) (hc2 : cells + 1 ≤ 601024 ∧ slots + 6 ≤ 7293034)
    (kk : ∀ (H1 : Heap) (locs1 : List Loc) (ls1 : Array Slot), LInv D cI cJ cS ss h0 p0 s0 l0 h1 m0 oa b r w o a bs H1 → va_S A H0 H1 locs1 → lv_has ls1 8 [(0, .ref b0), (1, .ref ss), (2, .ref m0), (3, .ref oa), (4, .int (zI (i)))] → W p l e room_1 s m args below meth c H1 locs1 (cells + 1) (slots + 6) Q (F0 m 1700 ls1 [])) : W p l e room_1 s m args below meth c H locs cells slots Q (F0 m 304 ls []) := by
  obtain ⟨f, ps, n, F, P, N, la, cn, fr, ge, gv, gd, gt, sc, gf, op, tb, sb, th, hs, gp, e2, v2, d2, t2, r2, f2, w2, go, ok, rep, hla, hcn, hfr0, hp, htr, hh, hP⟩ := hI
  obtain ⟨o0, o1, o2, o3, o4, o5, o7, o8, olim, ogrd, obar, oneed, opost⟩ := id ok
  have hc1 : cells ≤ 601024 ∧ slots ≤ 7293034 := ⟨by omega, by omega⟩
  obtain ⟨x, h_s1⟩ : ∃ x : Int, xv (i + 1).toNat = x := ⟨_, rfl⟩
  have hr_x : -2147483648 ≤ x ∧ x < 2147483648 := by rw [← h_s1]; exact hxv _
  obtain ⟨z, h_s2⟩ : ∃ z : Int, xv (i + 2).toNat = z := ⟨_, rfl⟩
  have hr_z : -2147483648 ≤ z ∧ z < 2147483648 := by rw [← h_s2]; exact hxv _
  obtain ⟨v, h_s3⟩ : ∃ v : Int, xv (i + 3).toNat = v := ⟨_, rfl⟩
  have hr_v : -2147483648 ≤ v ∧ v < 2147483648 := by rw [← h_s3]; exact hxv _
  rcases Classical.em (0 ≤ x ∧ x ≤ z ∧ z ≤ f 0 - 1 ∧ -40 ≤ v ∧ v ≤ 40) with hY | hN
  · have hzb := zcnt_b f v (129 + x) (z + 1 - x).toNat
    refine lv_aload_n hx hb dL_law_304 rfl (lv_at hl 1 rfl) ?_
    refine lv_aload_n hx hb dL_law_305 rfl (lv_at hl 0 rfl) ?_
    refine lv_iload hx hb dL_law_306 (lv_at hl 4 rfl) ?_
    refine z_iconst hx hb dL_law_308 ?_
    refine z_iadd hx hb dL_law_309 ?_
    refine z_sld hx hb hX hbl hbA hS (by omega) hL h_s1 dL_law_310 ?_
    refine lv_aload_n hx hb dL_law_311 rfl (lv_at hl 0 rfl) ?_
    refine lv_iload hx hb dL_law_312 (lv_at hl 4 rfl) ?_
    refine z_iconst hx hb dL_law_314 ?_
    refine z_iadd hx hb dL_law_315 ?_
    refine z_sld hx hb hX hbl hbA hS (by omega) hL h_s2 dL_law_316 ?_
    refine lv_aload_n hx hb dL_law_317 rfl (lv_at hl 0 rfl) ?_
    refine lv_iload hx hb dL_law_318 (lv_at hl 4 rfl) ?_
    refine z_iconst hx hb dL_law_320 ?_
    refine z_iadd hx hb dL_law_321 ?_
    refine z_sld hx hb hX hbl hbA hS (by omega) hL h_s3 dL_law_322 ?_
    refine lv_aload_n hx hb dL_law_323 rfl (lv_at hl 3 rfl) ?_
    refine y_wSi (As := [.ref ss, .int (zI (x)), .int (zI (z)), .int (zI (v)), .ref oa]) (rest := []) (fun (u324 : Unit) => (LW cI cJ cS ss h0 p0 s0 l0 h1 m0 oa b r w o a bs (zfill f (129 + x) (129 + z) v) ps n (upS F (nxS la) f) (upS P (nxS la) ps) (upS N (nxS la) n) (nxS la) (cnS cn) 0 ge gv gd gt sc gf op tb sb f cn th hs gp e2 v2 d2 t2 r2 f2 w2 (zup go 0 (zcnt f v (129 + x) (z + 1 - x).toNat)))) hx hb hml hown hts hl.1 hc1 (kL_setGradient_ok l D cI cJ cS ss h0 p0 s0 l0 b f ps n h1 bs F P N la cn fr r x z v oa go ok hla hcn hY) (vx_cwSW 5 hts gL_law_L_setGradient rfl rfl rfl jL_setGradient.2 ⟨Nat.le_of_ble_eq_true rfl, Nat.le_of_ble_eq_true rfl⟩) hK [true, true, true, true, true, true, true, true, true, true, true, true, true, true, true, true, true, true, true, true, true, true, true, true, true, true, true, true, true, true, true, true, true, true, true, true, true, true, true, true, true, true, true, true, true, true, true, false, false, false, false, false, false, false, false, false, false, true, false, false, false, false, false, false, false, false, true, true, true, true, true, true, true, true, true, true, true, false, false, false, false, false, false, false, false, false, false, true] hP (zD hD rfl) hS rfl (fun _ => rfl) (fun _ => rfl) rfl rfl (Nat.le_of_ble_eq_true rfl) dL_law_324 (fun r324 u324 H locs hu324 hP hS => ?_)
    subst hu324
    refine lv_istore (lv' := [(5, .int (zI (0))), (0, .ref b0), (1, .ref ss), (2, .ref m0), (3, .ref oa), (4, .int (zI (i)))]) hx hb dL_law_327 hl (by decide) rfl (fun ls hl => ?_)
    refine lv_aload_n hx hb dL_law_329 rfl (lv_at hl 3 rfl) ?_
    refine lv_aload_n hx hb dL_law_330 rfl (lv_at hl 1 rfl) ?_
    refine lv_iload hx hb dL_law_331 (lv_at hl 5 rfl) ?_
    refine z_iconst hx hb dL_law_333 ?_
    refine z_iadd hx hb dL_law_334 ?_
    refine z_sld hx hb hX hbl hbA hS (by omega) hL h_s1 dL_law_335 ?_
    refine lv_aload_n hx hb dL_law_336 rfl (lv_at hl 1 rfl) ?_
    refine lv_iload hx hb dL_law_337 (lv_at hl 5 rfl) ?_
    refine z_iconst hx hb dL_law_339 ?_
    refine z_iadd hx hb dL_law_340 ?_
    refine z_sld hx hb hX hbl hbA hS (by omega) hL h_s2 dL_law_341 ?_
    refine lv_aload_n hx hb dL_law_342 rfl (lv_at hl 1 rfl) ?_
    refine lv_iload hx hb dL_law_343 (lv_at hl 5 rfl) ?_
    refine z_iconst hx hb dL_law_345 ?_
    refine z_iadd hx hb dL_law_346 ?_
    refine z_sld hx hb hX hbl hbA hS (by omega) hL h_s3 dL_law_347 ?_
    refine y_wVi (As := [.int (zI (x)), .int (zI (z)), .int (zI (v))]) (rest := []) (fun (u348 : Unit) => (LW cI cJ cS ss h0 p0 s0 l0 h1 m0 oa b r w o a bs (zfill f (129 + x) (129 + z) v) ps n (upS F (nxS la) f) (upS P (nxS la) ps) (upS N (nxS la) n) (nxS la) (cnS cn) 0 ge gv gd gt sc gf op tb sb (zfill f (129 + x) (129 + z) v) (cnS cn) 0 hs (kpF gp f cn) e2 v2 d2 t2 r2 f2 w2 (zup go 0 (zcnt f v (129 + x) (z + 1 - x).toNat)))) hx hb hml hown hts hl.1 hc1 (kX7_setGradient_ok l D cI cJ cS m0 a cn th hs f gp x z v ok hcn hY) (cwV 3 hts gL_law_X7_setGradient rfl rfl rfl jX7_setGradient ⟨Nat.le_of_ble_eq_true rfl, Nat.le_of_ble_eq_true rfl⟩) hK [false, false, false, false, false, false, false, false, false, false, false, false, false, false, false, false, false, false, false, false, false, false, false, false, false, false, false, false, false, false, false, false, false, false, false, false, false, false, false, false, false, false, false, false, false, false, false, false, false, false, false, false, false, false, false, false, false, false, false, false, false, false, false, false, false, false, false, false, false, false, false, false, false, false, false, false, false, true, true, true] hP (zD hD rfl) hS rfl (fun _ => rfl) (fun _ => rfl) 7 0 rfl rfl rfl rfl rfl (Nat.le_of_ble_eq_true rfl) dL_law_348 (fun r348 u348 H locs hu348 hP hS => ?_)
    subst hu348
    refine lv_istore (lv' := [(6, .int (zI (zcnt f v (129 + x) (z + 1 - x).toNat))), (5, .int (zI (0))), (0, .ref b0), (1, .ref ss), (2, .ref m0), (3, .ref oa), (4, .int (zI (i)))]) hx hb dL_law_351 hl (by decide) rfl (fun ls hl => ?_)
    refine lv_aload_n hx hb dL_law_353 rfl (lv_at hl 4 rfl) ?_
    refine y_rV (v := 0) (As := []) (rest := []) hx hb hml hown hts hl.1 hc1 (kX7_thrown l D cI cJ cS m0 a (cnS cn) 0 hs (zfill f (129 + x) (129 + z) v) ) (cwV 0 hts gL_law_X7_thrown rfl rfl rfl jX7_thrown ⟨Nat.le_of_ble_eq_true rfl, Nat.le_of_ble_eq_true rfl⟩) hK [false, false, false, false, false, false, false, false, false, false, false, false, false, false, false, false, false, false, false, false, false, false, false, false, false, false, false, false, false, false, false, false, false, false, false, false, false, false, false, false, false, false, false, false, false, false, false, false, false, false, false, false, false, false, false, false, false, false, false, false, false, false, false, false, false, false, false, false, false, false, false, false, false, false, false, false, false, true] hP (zD hD rfl) rfl 7 0 rfl rfl rfl rfl rfl (Nat.le_of_ble_eq_true rfl) dL_law_354 ?_
    refine lv_iload hx hb dL_law_357 (lv_at hl 1 rfl) ?_
    refine z_icmpR 364 hx hb dL_law_359 (by decide) ?_
    refine lv_iload hx hb dL_law_364 (lv_at hl 1 rfl) ?_
    refine z_if_ne (tgt := 381) hx hb dL_law_366 (by decide) (by omega) (fun c366 => ?_) (fun c366 => ?_)
    · exfalso; omega
    · refine lv_aload_n hx hb dL_law_369 rfl (lv_at hl 5 rfl) ?_
      refine z_iconst hx hb dL_law_370 ?_
      refine z_lald hx hb hK hP 87 1 rfl rfl (by omega) (Nat.lt_of_succ_le (Nat.le_of_ble_eq_true rfl)) dL_law_371 ?_
      refine z_topL (zcnt f v (129 + x) (z + 1 - x).toNat) (zup_at _ _ _) ?_
      refine lv_iload hx hb dL_law_372 (lv_at hl 0 rfl) ?_
      refine z_i2l hx hb dL_law_374 (by omega) ?_
      refine z_lcmpR hx hb dL_law_375 ?_
      refine z_if_eq (tgt := 381) hx hb dL_law_376 (by decide) (by omega) (fun c376 => ?_) (fun c376 => ?_)
      · refine lv_goto (tgt := 1700) hx hb dL_law_381 (by decide) ?_
        refine W.widen (k := cells + 1) (n := slots + 6) (Nat.le_add_right _ _) (Nat.le_add_right _ _) ?_
        exact kk _ _ _ ⟨(zfill f (129 + x) (129 + z) v), ps, n, upS F (nxS la) f, upS P (nxS la) ps, upS N (nxS la) n, nxS la, cnS cn, 0, ge, gv, gd, gt, sc, gf, op, tb, sb, 0, hs, (kpF gp f cn), e2, v2, d2, t2, r2, f2, w2, (zup go 0 (zcnt f v (129 + x) (z + 1 - x).toNat)), (okF_fill ok (fun j a9 b9 => ⟨by omega, by omega, fun c9 => by omega, fun c9 d9 => by omega, fun c9 => by omega⟩)), (rep_ext ok rep (if_neg (by omega)) (fun x9 a9 b9 => if_neg (by omega))), (nxS_b hla), (cnS_b hcn), (Or.inl rfl), (fun h9 => absurd h9 (by decide)), htr, (hst_push ok rep hla hcn hh), hP⟩ hS (lv_sub hl [2, 3, 4, 5, 6] rfl)
      · exfalso; omega
  · refine lv_aload_n hx hb dL_law_304 rfl (lv_at hl 1 rfl) ?_
    refine lv_aload_n hx hb dL_law_305 rfl (lv_at hl 0 rfl) ?_
    refine lv_iload hx hb dL_law_306 (lv_at hl 4 rfl) ?_
    refine z_iconst hx hb dL_law_308 ?_
    refine z_iadd hx hb dL_law_309 ?_
    refine z_sld hx hb hX hbl hbA hS (by omega) hL h_s1 dL_law_310 ?_
    refine lv_aload_n hx hb dL_law_311 rfl (lv_at hl 0 rfl) ?_
    refine lv_iload hx hb dL_law_312 (lv_at hl 4 rfl) ?_
    refine z_iconst hx hb dL_law_314 ?_
    refine z_iadd hx hb dL_law_315 ?_
    refine z_sld hx hb hX hbl hbA hS (by omega) hL h_s2 dL_law_316 ?_
    refine lv_aload_n hx hb dL_law_317 rfl (lv_at hl 0 rfl) ?_
    refine lv_iload hx hb dL_law_318 (lv_at hl 4 rfl) ?_
    refine z_iconst hx hb dL_law_320 ?_
    refine z_iadd hx hb dL_law_321 ?_
    refine z_sld hx hb hX hbl hbA hS (by omega) hL h_s3 dL_law_322 ?_
    refine lv_aload_n hx hb dL_law_323 rfl (lv_at hl 3 rfl) ?_
    refine y_wSx (As := [.ref ss, .int (zI (x)), .int (zI (z)), .int (zI (v)), .ref oa]) (rest := []) (fun (u324 : Unit) => (LW cI cJ cS ss h0 p0 s0 l0 h1 m0 oa b r w o a bs f ps n F P N la cn fr ge gv gd gt sc gf op tb sb f cn th hs gp e2 v2 d2 t2 r2 f2 w2 go)) hx hb hml hown hts hl.1 hc2 (nL_setGradient l D cI cJ cS ss h0 p0 s0 l0 b f ps n x z v oa go ok hN hr_x hr_z hr_v hst) (vx_cwSW 5 hts gL_law_L_setGradient rfl rfl rfl jL_setGradient.2 ⟨Nat.le_of_ble_eq_true rfl, Nat.le_of_ble_eq_true rfl⟩) hK [true, false, false, false, false, false, false, false, false, false, false, false, false, false, false, false, false, false, false, false, false, false, false, false, false, false, false, false, false, false, false, false, false, false, false, false, false, false, false, false, false, false, false, false, false, false, false, false, false, false, false, false, false, false, false, false, false, false, false, false, false, false, false, false, false, false, true, true, true, true, true, true, true, true, true, true, true, false, false, false, false, false, false, false, false, false, false, true] hP (zD hD rfl) hS hZ hTx rfl (fun _ => rfl) (fun _ => rfl) rfl rfl (Nat.le_of_ble_eq_true rfl) dL_law_324 (fun r324 u324 H locs hu324 hP hS => ?_)
    subst hu324
    refine lv_istore (lv' := [(5, .int (zI (1))), (0, .ref b0), (1, .ref ss), (2, .ref m0), (3, .ref oa), (4, .int (zI (i)))]) hx hb dL_law_327 hl (by decide) rfl (fun ls hl => ?_)
    refine lv_aload_n hx hb dL_law_329 rfl (lv_at hl 3 rfl) ?_
    refine lv_aload_n hx hb dL_law_330 rfl (lv_at hl 1 rfl) ?_
    refine lv_iload hx hb dL_law_331 (lv_at hl 5 rfl) ?_
    refine z_iconst hx hb dL_law_333 ?_
    refine z_iadd hx hb dL_law_334 ?_
    refine z_sld hx hb hX hbl hbA hS (by omega) hL h_s1 dL_law_335 ?_
    refine lv_aload_n hx hb dL_law_336 rfl (lv_at hl 1 rfl) ?_
    refine lv_iload hx hb dL_law_337 (lv_at hl 5 rfl) ?_
    refine z_iconst hx hb dL_law_339 ?_
    refine z_iadd hx hb dL_law_340 ?_
    refine z_sld hx hb hX hbl hbA hS (by omega) hL h_s2 dL_law_341 ?_
    refine lv_aload_n hx hb dL_law_342 rfl (lv_at hl 1 rfl) ?_
    refine lv_iload hx hb dL_law_343 (lv_at hl 5 rfl) ?_
    refine z_iconst hx hb dL_law_345 ?_
    refine z_iadd hx hb dL_law_346 ?_
    refine z_sld hx hb hX hbl hbA hS (by omega) hL h_s3 dL_law_347 ?_
    refine y_wVi (As := [.int (zI (x)), .int (zI (z)), .int (zI (v))]) (rest := []) (fun (u348 : Unit) => (LW cI cJ cS ss h0 p0 s0 l0 h1 m0 oa b r w o a bs f ps n F P N la cn fr ge gv gd gt sc gf op tb sb f cn 1 hs gp e2 v2 d2 t2 r2 f2 w2 go)) hx hb hml hown hts hl.1 hc2 (kX7_setGradient_no l D cI cJ cS m0 a cn th hs f x z v ok hN hr_x hr_z hr_v) (cwV 3 hts gL_law_X7_setGradient rfl rfl rfl jX7_setGradient ⟨Nat.le_of_ble_eq_true rfl, Nat.le_of_ble_eq_true rfl⟩) hK [false, false, false, false, false, false, false, false, false, false, false, false, false, false, false, false, false, false, false, false, false, false, false, false, false, false, false, false, false, false, false, false, false, false, false, false, false, false, false, false, false, false, false, false, false, false, false, false, false, false, false, false, false, false, false, false, false, false, false, false, false, false, false, false, false, false, false, false, false, false, false, false, false, false, false, false, false, true, true] hP (zD hD rfl) hS rfl (fun _ => rfl) (fun _ => rfl) 7 0 rfl rfl rfl rfl rfl (Nat.le_of_ble_eq_true rfl) dL_law_348 (fun r348 u348 H locs hu348 hP hS => ?_)
    subst hu348
    refine lv_istore (lv' := [(6, .int (zI (0))), (5, .int (zI (1))), (0, .ref b0), (1, .ref ss), (2, .ref m0), (3, .ref oa), (4, .int (zI (i)))]) hx hb dL_law_351 hl (by decide) rfl (fun ls hl => ?_)
    refine lv_aload_n hx hb dL_law_353 rfl (lv_at hl 4 rfl) ?_
    refine y_rV (v := 1) (As := []) (rest := []) hx hb hml hown hts hl.1 hc2 (kX7_thrown l D cI cJ cS m0 a cn 1 hs f ) (cwV 0 hts gL_law_X7_thrown rfl rfl rfl jX7_thrown ⟨Nat.le_of_ble_eq_true rfl, Nat.le_of_ble_eq_true rfl⟩) hK [false, false, false, false, false, false, false, false, false, false, false, false, false, false, false, false, false, false, false, false, false, false, false, false, false, false, false, false, false, false, false, false, false, false, false, false, false, false, false, false, false, false, false, false, false, false, false, false, false, false, false, false, false, false, false, false, false, false, false, false, false, false, false, false, false, false, false, false, false, false, false, false, false, false, false, false, false, true] hP (zD hD rfl) rfl 7 0 rfl rfl rfl rfl rfl (Nat.le_of_ble_eq_true rfl) dL_law_354 ?_
    refine lv_iload hx hb dL_law_357 (lv_at hl 1 rfl) ?_
    refine z_icmpR 364 hx hb dL_law_359 (by decide) ?_
    refine lv_iload hx hb dL_law_364 (lv_at hl 1 rfl) ?_
    refine z_if_ne (tgt := 381) hx hb dL_law_366 (by decide) (by omega) (fun c366 => ?_) (fun c366 => ?_)
    · refine lv_goto (tgt := 1700) hx hb dL_law_381 (by decide) ?_
      exact kk _ _ _ ⟨f, ps, n, F, P, N, la, cn, fr, ge, gv, gd, gt, sc, gf, op, tb, sb, 1, hs, gp, e2, v2, d2, t2, r2, f2, w2, go, ok, rep, hla, hcn, hfr0, hp, htr, hh, hP⟩ hS (lv_sub hl [2, 3, 4, 5, 6] rfl)
    · exfalso; omega
