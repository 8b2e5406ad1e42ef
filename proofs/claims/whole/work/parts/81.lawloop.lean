set_option maxHeartbeats 4000000 in
set_option maxRecDepth 100000 in
theorem lc_switch {p : Program} {e : Env} {s : State} {m : MethodId} {args : Array Value} {below : List Frame} {meth : Method} {c : Code} {Q : State → Prop} {A : Nat → Prop} {H0 : Heap} (l : Launch) (hst : l.stackTraces = false) (D : va_G) (cI cJ cS : ClassId) (ss h0 p0 s0 l0 h1 m0 oa : Nat) (b r w o a : Nat → Nat) (bs : Nat → Nat → Nat) {b0 L : Nat} {xv : Nat → Int}
    (hx : p.tables.exec = Jvm.exec) (hb : c.code = cL_law) (hml : c.maxLocals = 8) (hown : s.vm.findClass RL = some m.cls) (hts : ∀ w ∈ wsL_law, w.before args s = true) (hK : va_K D vwCl (zT cI cJ cS) s) (hZ : xKs A s H0) (hTx : xTx s) (hX : va_X b0 L (fun j => zI (xv j)) s H0) (hbl : b0 < H0.size) (hbA : ¬ A b0) (hL : L < 2147483648) (hxv : ∀ j : Nat, -2147483648 ≤ xv j ∧ xv j < 2147483648) (hD : va_D A (LW cI cJ cS ss h0 p0 s0 l0 h1 m0 oa b r w o a bs (fun _ => 0) (fun _ => 0) 0 (fun _ _ => 0) (fun _ _ => 0) (fun _ => 0) 0 0 0 (fun _ => 0) (fun _ => 0) (fun _ => 0) (fun _ => 0) 0 (fun _ => 0) (fun _ => 0) (fun _ => 0) (fun _ => 0) (fun _ => 0) 0 0 0 (fun _ => 0) (fun _ => 0) (fun _ => 0) (fun _ => 0) (fun _ => 0) (fun _ => 0) (fun _ => 0) (fun _ => 0) (fun _ => 0))) {H : Heap} {locs : List Loc} {cells slots : Nat} {ls : Array Slot} (i : Int) (hi : 0 ≤ i ∧ i + 4 ≤ (L : Int)) (hI : LInv D cI cJ cS ss h0 p0 s0 l0 h1 m0 oa b r w o a bs H) (hS : va_S A H0 H locs) (hl : lv_has ls 8 [(0, .ref b0), (1, .ref ss), (2, .ref m0), (3, .ref oa), (4, .int (zI (i)))]) (hc2 : cells + 1 ≤ 601024 ∧ slots + 6 ≤ 7293034)
    (kk : ∀ (H1 : Heap) (locs1 : List Loc) (ls1 : Array Slot), LInv D cI cJ cS ss h0 p0 s0 l0 h1 m0 oa b r w o a bs H1 → va_S A H0 H1 locs1 → lv_has ls1 8 [(0, .ref b0), (1, .ref ss), (2, .ref m0), (3, .ref oa), (4, .int (zI (i)))] → W p l e room_1 s m args below meth c H1 locs1 (cells + 1) (slots + 6) Q (F0 m 1700 ls1 [])) (k : Int) (hk : 0 ≤ k ∧ k < 32) : W p l e room_1 s m args below meth c H locs cells slots Q (F0 m 39 ls [.int (zI k)]) := by
  rcases (show k = 0 ∨ k = 1 ∨ k = 2 ∨ k = 3 ∨ k = 4 ∨ k = 5 ∨ k = 6 ∨ k = 7 ∨ k = 8 ∨ k = 9 ∨ k = 10 ∨ k = 11 ∨ k = 12 ∨ k = 13 ∨ k = 14 ∨ k = 15 ∨ k = 16 ∨ k = 17 ∨ k = 18 ∨ k = 19 ∨ k = 20 ∨ k = 21 ∨ k = 22 ∨ k = 23 ∨ k = 24 ∨ k = 25 ∨ k = 26 ∨ k = 27 ∨ k = 28 ∨ 29 ≤ k by omega) with rfl | rfl | rfl | rfl | rfl | rfl | rfl | rfl | rfl | rfl | rfl | rfl | rfl | rfl | rfl | rfl | rfl | rfl | rfl | rfl | rfl | rfl | rfl | rfl | rfl | rfl | rfl | rfl | rfl | hk9
  · exact lv_tableIn (off := 129) (tgt := 168) hx hb dL_law_39 (by decide +kernel) (by decide +kernel) (by decide +kernel) (by decide) (lc_0 l hst D cI cJ cS ss h0 p0 s0 l0 h1 m0 oa b r w o a bs hx hb hml hown hts hK hZ hTx hX hbl hbA hL hxv hD i hi hI hS hl hc2 kk)
  · exact lv_tableIn (off := 185) (tgt := 224) hx hb dL_law_39 (by decide +kernel) (by decide +kernel) (by decide +kernel) (by decide) (lc_1 l hst D cI cJ cS ss h0 p0 s0 l0 h1 m0 oa b r w o a bs hx hb hml hown hts hK hZ hTx hX hbl hbA hL hxv hD i hi hI hS hl hc2 kk)
  · exact lv_tableIn (off := 265) (tgt := 304) hx hb dL_law_39 (by decide +kernel) (by decide +kernel) (by decide +kernel) (by decide) (lc_2 l hst D cI cJ cS ss h0 p0 s0 l0 h1 m0 oa b r w o a bs hx hb hml hown hts hK hZ hTx hX hbl hbA hL hxv hD i hi hI hS hl hc2 kk)
  · exact lv_tableIn (off := 345) (tgt := 384) hx hb dL_law_39 (by decide +kernel) (by decide +kernel) (by decide +kernel) (by decide) (lc_3 l hst D cI cJ cS ss h0 p0 s0 l0 h1 m0 oa b r w o a bs hx hb hml hown hts hK hZ hTx hX hbl hbA hL hxv hD i hi hI hS hl hc2 kk)
  · exact lv_tableIn (off := 441) (tgt := 480) hx hb dL_law_39 (by decide +kernel) (by decide +kernel) (by decide +kernel) (by decide) (lc_4 l hst D cI cJ cS ss h0 p0 s0 l0 h1 m0 oa b r w o a bs hx hb hml hown hts hK hZ hTx hX hbl hbA hL hxv hD i hi hI hS hl hc2 kk)
  · exact lv_tableIn (off := 532) (tgt := 571) hx hb dL_law_39 (by decide +kernel) (by decide +kernel) (by decide +kernel) (by decide) (lc_5 l hst D cI cJ cS ss h0 p0 s0 l0 h1 m0 oa b r w o a bs hx hb hml hown hts hK hZ hTx hX hbl hbA hL hxv hD i hi hI hS hl hc2 kk)
  · exact lv_tableIn (off := 612) (tgt := 651) hx hb dL_law_39 (by decide +kernel) (by decide +kernel) (by decide +kernel) (by decide) (lc_6 l hst D cI cJ cS ss h0 p0 s0 l0 h1 m0 oa b r w o a bs hx hb hml hown hts hK hZ hTx hX hbl hbA hL hxv hD i hi hI hS hl hc2 kk)
  · exact lv_tableIn (off := 692) (tgt := 731) hx hb dL_law_39 (by decide +kernel) (by decide +kernel) (by decide +kernel) (by decide) (lc_7 l hst D cI cJ cS ss h0 p0 s0 l0 h1 m0 oa b r w o a bs hx hb hml hown hts hK hZ hTx hX hbl hbA hL hxv hD i hi hI hS hl hc2 kk)
  · exact lv_tableIn (off := 760) (tgt := 799) hx hb dL_law_39 (by decide +kernel) (by decide +kernel) (by decide +kernel) (by decide) (lc_8 l hst D cI cJ cS ss h0 p0 s0 l0 h1 m0 oa b r w o a bs hx hb hml hown hts hK hZ hTx hX hbl hbA hL hxv hD i hi hI hS hl hc2 kk)
  · exact lv_tableIn (off := 816) (tgt := 855) hx hb dL_law_39 (by decide +kernel) (by decide +kernel) (by decide +kernel) (by decide) (lc_9 l hst D cI cJ cS ss h0 p0 s0 l0 h1 m0 oa b r w o a bs hx hb hml hown hts hK hZ hTx hX hbl hbA hL hxv hD i hi hI hS hl hc2 kk)
  · exact lv_tableIn (off := 872) (tgt := 911) hx hb dL_law_39 (by decide +kernel) (by decide +kernel) (by decide +kernel) (by decide) (lc_10 l hst D cI cJ cS ss h0 p0 s0 l0 h1 m0 oa b r w o a bs hx hb hml hown hts hK hZ hTx hX hbl hbA hL hxv hD i hi hI hS hl hc2 kk)
  · exact lv_tableIn (off := 935) (tgt := 974) hx hb dL_law_39 (by decide +kernel) (by decide +kernel) (by decide +kernel) (by decide) (lc_11 l hst D cI cJ cS ss h0 p0 s0 l0 h1 m0 oa b r w o a bs hx hb hml hown hts hK hZ hTx hX hbl hbA hL hxv hD i hi hI hS hl hc2 kk)
  · exact lv_tableIn (off := 990) (tgt := 1029) hx hb dL_law_39 (by decide +kernel) (by decide +kernel) (by decide +kernel) (by decide) (lc_12 l hst D cI cJ cS ss h0 p0 s0 l0 h1 m0 oa b r w o a bs hx hb hml hown hts hK hZ hTx hX hbl hbA hL hxv hD i hi hI hS hl hc2 kk)
  · exact lv_tableIn (off := 1046) (tgt := 1085) hx hb dL_law_39 (by decide +kernel) (by decide +kernel) (by decide +kernel) (by decide) (lc_13 l hst D cI cJ cS ss h0 p0 s0 l0 h1 m0 oa b r w o a bs hx hb hml hown hts hK hZ hTx hX hbl hbA hL hxv hD i hi hI hS hl hc2 kk)
  · exact lv_tableIn (off := 1102) (tgt := 1141) hx hb dL_law_39 (by decide +kernel) (by decide +kernel) (by decide +kernel) (by decide) (lc_14 l hst D cI cJ cS ss h0 p0 s0 l0 h1 m0 oa b r w o a bs hx hb hml hown hts hK hZ hTx hX hbl hbA hL hxv hD i hi hI hS hl hc2 kk)
  · exact lv_tableIn (off := 1170) (tgt := 1209) hx hb dL_law_39 (by decide +kernel) (by decide +kernel) (by decide +kernel) (by decide) (lc_15 l hst D cI cJ cS ss h0 p0 s0 l0 h1 m0 oa b r w o a bs hx hb hml hown hts hK hZ hTx hX hbl hbA hL hxv hD i hi hI hS hl hc2 kk)
  · exact lv_tableIn (off := 1226) (tgt := 1265) hx hb dL_law_39 (by decide +kernel) (by decide +kernel) (by decide +kernel) (by decide) (lc_16 l hst D cI cJ cS ss h0 p0 s0 l0 h1 m0 oa b r w o a bs hx hb hml hown hts hK hZ hTx hX hbl hbA hL hxv hD i hi hI hS hl hc2 kk)
  · exact lv_tableIn (off := 1282) (tgt := 1321) hx hb dL_law_39 (by decide +kernel) (by decide +kernel) (by decide +kernel) (by decide) (lc_17 l hst D cI cJ cS ss h0 p0 s0 l0 h1 m0 oa b r w o a bs hx hb hml hown hts hK hZ hTx hX hbl hbA hL hxv hD i hi hI hS hl hc2 kk)
  · exact lv_tableIn (off := 1295) (tgt := 1334) hx hb dL_law_39 (by decide +kernel) (by decide +kernel) (by decide +kernel) (by decide) (lc_18 l hst D cI cJ cS ss h0 p0 s0 l0 h1 m0 oa b r w o a bs hx hb hml hown hts hK hZ hTx hX hbl hbA hL hxv hD i hi hI hS hl hc2 kk)
  · exact lv_tableIn (off := 1308) (tgt := 1347) hx hb dL_law_39 (by decide +kernel) (by decide +kernel) (by decide +kernel) (by decide) (lc_19 l hst D cI cJ cS ss h0 p0 s0 l0 h1 m0 oa b r w o a bs hx hb hml hown hts hK hZ hTx hX hbl hbA hL hxv hD i hi hI hS hl hc2 kk)
  · exact lv_tableIn (off := 1364) (tgt := 1403) hx hb dL_law_39 (by decide +kernel) (by decide +kernel) (by decide +kernel) (by decide) (lc_20 l hst D cI cJ cS ss h0 p0 s0 l0 h1 m0 oa b r w o a bs hx hb hml hown hts hK hZ hTx hX hbl hbA hL hxv hD i hi hI hS hl hc2 kk)
  · exact lv_tableIn (off := 1377) (tgt := 1416) hx hb dL_law_39 (by decide +kernel) (by decide +kernel) (by decide +kernel) (by decide) (lc_21 l hst D cI cJ cS ss h0 p0 s0 l0 h1 m0 oa b r w o a bs hx hb hml hown hts hK hZ hTx hX hbl hbA hL hxv hD i hi hI hS hl hc2 kk)
  · exact lv_tableIn (off := 1433) (tgt := 1472) hx hb dL_law_39 (by decide +kernel) (by decide +kernel) (by decide +kernel) (by decide) (lc_22 l hst D cI cJ cS ss h0 p0 s0 l0 h1 m0 oa b r w o a bs hx hb hml hown hts hK hZ hTx hX hbl hbA hL hxv hD i hi hI hS hl hc2 kk)
  · exact lv_tableIn (off := 1446) (tgt := 1485) hx hb dL_law_39 (by decide +kernel) (by decide +kernel) (by decide +kernel) (by decide) (lc_23 l hst D cI cJ cS ss h0 p0 s0 l0 h1 m0 oa b r w o a bs hx hb hml hown hts hK hZ hTx hX hbl hbA hL hxv hD i hi hI hS hl hc2 kk)
  · exact lv_tableIn (off := 1490) (tgt := 1529) hx hb dL_law_39 (by decide +kernel) (by decide +kernel) (by decide +kernel) (by decide) (lc_24 l hst D cI cJ cS ss h0 p0 s0 l0 h1 m0 oa b r w o a bs hx hb hml hown hts hK hZ hTx hX hbl hbA hL hxv hD i hi hI hS hl hc2 kk)
  · exact lv_tableIn (off := 1546) (tgt := 1585) hx hb dL_law_39 (by decide +kernel) (by decide +kernel) (by decide +kernel) (by decide) (lc_25 l hst D cI cJ cS ss h0 p0 s0 l0 h1 m0 oa b r w o a bs hx hb hml hown hts hK hZ hTx hX hbl hbA hL hxv hD i hi hI hS hl hc2 kk)
  · exact lv_tableIn (off := 1559) (tgt := 1598) hx hb dL_law_39 (by decide +kernel) (by decide +kernel) (by decide +kernel) (by decide) (lc_26 l hst D cI cJ cS ss h0 p0 s0 l0 h1 m0 oa b r w o a bs hx hb hml hown hts hK hZ hTx hX hbl hbA hL hxv hD i hi hI hS hl hc2 kk)
  · exact lv_tableIn (off := 1603) (tgt := 1642) hx hb dL_law_39 (by decide +kernel) (by decide +kernel) (by decide +kernel) (by decide) (lc_27 l hst D cI cJ cS ss h0 p0 s0 l0 h1 m0 oa b r w o a bs hx hb hml hown hts hK hZ hTx hX hbl hbA hL hxv hD i hi hI hS hl hc2 kk)
  · exact lv_tableIn (off := 1647) (tgt := 1686) hx hb dL_law_39 (by decide +kernel) (by decide +kernel) (by decide +kernel) (by decide) (lc_28 l hst D cI cJ cS ss h0 p0 s0 l0 h1 m0 oa b r w o a bs hx hb hml hown hts hK hZ hTx hX hbl hbA hL hxv hD i hi hI hS hl hc2 kk)
  · refine lv_tableOut (tgt := 1700) hx hb dL_law_39 (Or.inr (by rw [zI_int ⟨by omega, by omega⟩]; omega)) (by decide) ?_
    refine W.widen (k := cells + 1) (n := slots + 6) (Nat.le_add_right _ _) (Nat.le_add_right _ _) ?_
    exact kk _ _ _ hI hS hl

set_option maxHeartbeats 4000000 in
set_option maxRecDepth 100000 in
theorem law_loop {p : Program} {e : Env} {s : State} {m : MethodId} {below : List Frame} {meth : Method} {c : Code} (l : Launch) (hst : l.stackTraces = false) (D : va_G) (cI cJ cS : ClassId) (ss h0 p0 s0 l0 h1 m0 oa : Nat) (b r w o a : Nat → Nat) (bs : Nat → Nat → Nat) {b0 L : Nat} {xv : Nat → Int}
    (hx : p.tables.exec = Jvm.exec) (hb : c.code = cL_law) (hml : c.maxLocals = 8) (hown : s.vm.findClass RL = some m.cls) (hts : ∀ w ∈ wsL_law, w.before #[Value.ref b0] s = true) (hK : va_K D vwCl (zT cI cJ cS) s) (hZ : xKs (fun q : Nat => s.heap.size ≤ q) s s.heap) (hTx : xTx s) (hX : va_X b0 L (fun j => zI (xv j)) s s.heap) (hbl : b0 < s.heap.size) (hbA : ¬ (fun q : Nat => s.heap.size ≤ q) b0) (hL : L < 2147483648) (hxv : ∀ j : Nat, -2147483648 ≤ xv j ∧ xv j < 2147483648) (hD : va_D (fun q : Nat => s.heap.size ≤ q) (LW cI cJ cS ss h0 p0 s0 l0 h1 m0 oa b r w o a bs (fun _ => 0) (fun _ => 0) 0 (fun _ _ => 0) (fun _ _ => 0) (fun _ => 0) 0 0 0 (fun _ => 0) (fun _ => 0) (fun _ => 0) (fun _ => 0) 0 (fun _ => 0) (fun _ => 0) (fun _ => 0) (fun _ => 0) (fun _ => 0) 0 0 0 (fun _ => 0) (fun _ => 0) (fun _ => 0) (fun _ => 0) (fun _ => 0) (fun _ => 0) (fun _ => 0) (fun _ => 0) (fun _ => 0))) (hr : meth.sig.returnType = ret) (hlocks : meth.locks = false) (hL2 : L ≤ 2048) : ∀ (fuel k : Nat), L ≤ 4 * (k + fuel) → k ≤ 512 → ∀ (H : Heap) (locs : List Loc) (ls : Array Slot), LInv D cI cJ cS ss h0 p0 s0 l0 h1 m0 oa b r w o a bs H → va_S (fun q : Nat => s.heap.size ≤ q) s.heap H locs → lv_has ls 8 [(0, .ref b0), (1, .ref ss), (2, .ref m0), (3, .ref oa), (4, .int (zI (4 * (k : Int))))] → W p l e room_1 s m #[Value.ref b0] below meth c H locs (88 + k) (37804 + 6 * k) (lw_Z below #[Value.ref b0] s) (F0 m 23 ls []) := by
  have hexit : ∀ (k : Nat), k ≤ 512 → (L : Int) - 4 < 4 * (k : Int) → ∀ (H : Heap) (locs : List Loc) (ls : Array Slot), va_S (fun q : Nat => s.heap.size ≤ q) s.heap H locs → lv_has ls 8 [(0, .ref b0), (1, .ref ss), (2, .ref m0), (3, .ref oa), (4, .int (zI (4 * (k : Int))))] → W p l e room_1 s m #[Value.ref b0] below meth c H locs (88 + k) (37804 + 6 * k) (lw_Z below #[Value.ref b0] s) (F0 m 23 ls []) := by
    intro k hk hE H locs ls hS hl
    refine lv_iload hx hb dL_law_23 (lv_at hl 4 rfl) ?_
    refine lv_aload_n hx hb dL_law_25 rfl (lv_at hl 0 rfl) ?_
    refine z_slen hx hb hX hbl hbA hS dL_law_26 ?_
    refine z_iconst hx hb dL_law_27 ?_
    refine z_isub hx hb dL_law_28 ?_
    refine z_icmp_gt (tgt := 1706) hx hb dL_law_29 (by decide) (by omega) (by omega) (fun c29 => ?_) (fun c29 => ?_)
    · refine z_iconst hx hb dL_law_1706 ?_
      refine va_forget (fun q hq => hS.2.2 q hq) ?_
      refine W.widen (k := 601024) (n := 7293034) (by omega) (by omega) ?_
      exact lw_ret hx hb hr hlocks dL_law_1707
    · exact absurd hE (by omega)
  intro fuel
  induction fuel with
  | zero =>
    intro k hf hk H locs ls hI hS hl
    exact hexit k hk (by omega) H locs ls hS hl
  | succ fuel ih =>
    intro k hf hk H locs ls hI hS hl
    rcases Classical.em ((L : Int) - 4 < 4 * (k : Int)) with hE | hE
    · exact hexit k hk hE H locs ls hS hl
    · refine lv_iload hx hb dL_law_23 (lv_at hl 4 rfl) ?_
      refine lv_aload_n hx hb dL_law_25 rfl (lv_at hl 0 rfl) ?_
      refine z_slen hx hb hX hbl hbA hS dL_law_26 ?_
      refine z_iconst hx hb dL_law_27 ?_
      refine z_isub hx hb dL_law_28 ?_
      refine z_icmp_gt (tgt := 1706) hx hb dL_law_29 (by decide) (by omega) (by omega) (fun c29 => ?_) (fun c29 => ?_)
      · exact absurd c29 (by omega)
      · refine lv_aload_n hx hb dL_law_32 rfl (lv_at hl 0 rfl) ?_
        refine lv_iload hx hb dL_law_33 (lv_at hl 4 rfl) ?_
        obtain ⟨v0, hv0⟩ : ∃ v0 : Int, xv (4 * (k : Int)).toNat = v0 := ⟨_, rfl⟩
        refine z_sld hx hb hX hbl hbA hS (by omega) hL hv0 dL_law_35 ?_
        refine z_bipush hx hb dL_law_36 (by decide +kernel) ?_
        refine lv_iand hx hb dL_law_38 ?_
        obtain ⟨k9, hk9, hk8⟩ := zI_and31 v0
        rw [show zI v0 &&& zI 31 = zI k9 from hk9]
        refine lc_switch l hst D cI cJ cS ss h0 p0 s0 l0 h1 m0 oa b r w o a bs hx hb hml hown hts hK hZ hTx hX hbl hbA hL hxv hD (4 * (k : Int)) ⟨by omega, by omega⟩ hI hS hl ⟨by omega, by omega⟩ (fun H1 locs1 ls1 hI1 hS1 hl1 => ?_) k9 hk8
        refine z_iinc (lv' := [(4, .int (zI (4 * ((k + 1 : Nat) : Int)))), (0, .ref b0), (1, .ref ss), (2, .ref m0), (3, .ref oa)]) hx hb 4 (4 * ((k + 1 : Nat) : Int)) dL_law_1700 hl1 rfl (by omega) (by decide) rfl (fun ls2 hl2 => ?_)
        refine lv_goto (tgt := 23) hx hb dL_law_1703 (by decide) ?_
        have e1 : 88 + k + 1 = 88 + (k + 1) := by omega
        have e2 : 37804 + 6 * k + 6 = 37804 + 6 * (k + 1) := by omega
        rw [e1, e2]
        exact ih (k + 1) (by omega) (by omega) H1 locs1 ls2 hI1 hS1 (lv_sub hl2 [1, 2, 3, 4, 0] rfl)
