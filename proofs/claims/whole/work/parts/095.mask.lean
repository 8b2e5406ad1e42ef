/-! ===== a part of a world by a mask, and putting it back ===== -/
def zpk : List Bool → va_W → va_W
  | [], _ => []
  | _ :: _, [] => []
  | true :: bs, a :: as => a :: zpk bs as
  | false :: bs, _ :: as => zpk bs as
def zmg : List Bool → va_W → va_W → va_W
  | [], ws, _ => ws
  | _ :: _, [], _ => []
  | false :: bs, a :: as, xs => a :: zmg bs as xs
  | true :: bs, a :: as, [] => a :: zmg bs as []
  | true :: bs, _ :: as, x :: xs => x :: zmg bs as xs
theorem zP_mem {D : va_G} {ws : va_W} {H : Heap} : va_P D vwCl ws H ↔ ∀ q ∈ ws, va_at D vwCl q H := by
  constructor
  · intro h q hq
    obtain ⟨k, hk⟩ := List.getElem?_of_mem hq
    exact h k q hk
  · intro h k q hk
    exact h q (List.mem_of_getElem? hk)
theorem zD_cons {A : Nat → Prop} {a : Nat × va_E} {as : va_W} (h : va_D A (a :: as)) : A a.1 ∧ (∀ q ∈ as, q.1 ≠ a.1) ∧ va_D A as := by
  refine ⟨h.2 0 a rfl, fun q hq e => ?_, fun i j p q hi hj e => ?_, fun k q hk => h.2 (k + 1) q hk⟩
  · obtain ⟨k, hk⟩ := List.getElem?_of_mem hq
    have := h.1 (k + 1) 0 q a hk rfl e
    omega
  · have := h.1 (i + 1) (j + 1) p q hi hj e
    omega
theorem zD_mk {A : Nat → Prop} {a : Nat × va_E} {as : va_W} (h1 : A a.1) (h2 : ∀ q ∈ as, q.1 ≠ a.1) (h3 : va_D A as) : va_D A (a :: as) := by
  refine ⟨fun i j p q hi hj e => ?_, fun k q hk => ?_⟩
  · cases i with
    | zero =>
      cases j with
      | zero => rfl
      | succ j =>
        cases hi
        exact absurd e.symm (h2 q (List.mem_of_getElem? hj))
    | succ i =>
      cases j with
      | zero =>
        cases hj
        exact absurd e (h2 p (List.mem_of_getElem? hi))
      | succ j => rw [h3.1 i j p q hi hj e]
  · cases k with
    | zero => cases hk; exact h1
    | succ k => exact h3.2 k q hk
theorem zpk_mem : ∀ (bs : List Bool) (ws : va_W) (q : Nat × va_E), q ∈ zpk bs ws → q ∈ ws
  | [], _, _, h => absurd h List.not_mem_nil
  | _ :: _, [], _, h => by simp [zpk] at h
  | true :: bs, a :: as, q, h => (List.mem_cons.mp h).elim (fun e => List.mem_cons.mpr (Or.inl e)) (fun h => List.mem_cons.mpr (Or.inr (zpk_mem bs as q h)))
  | false :: bs, _ :: as, q, h => List.mem_cons.mpr (Or.inr (zpk_mem bs as q h))
theorem zpk_D {A : Nat → Prop} : ∀ (bs : List Bool) (ws : va_W), va_D A ws → va_D A (zpk bs ws)
  | [], _, _ => ⟨fun i j p q h => by simp [zpk] at h, fun k q h => by simp [zpk] at h⟩
  | _ :: _, [], _ => ⟨fun i j p q h => by simp [zpk] at h, fun k q h => by simp [zpk] at h⟩
  | true :: bs, a :: as, h => by
    obtain ⟨h1, h2, h3⟩ := zD_cons h
    exact zD_mk h1 (fun q hq => h2 q (zpk_mem bs as q hq)) (zpk_D bs as h3)
  | false :: bs, _ :: as, h => zpk_D bs as (zD_cons h).2.2
theorem zmg_mem {A : Nat → Prop} : ∀ (bs : List Bool) (ws w1 : va_W) (q : Nat × va_E), va_D A ws → w1.length = (zpk bs ws).length → q ∈ zmg bs ws w1 → q ∈ w1 ∨ (q ∈ ws ∧ ∀ r ∈ zpk bs ws, r.1 ≠ q.1)
  | [], _, _, _, _, _, h => Or.inr ⟨h, fun r hr => absurd hr List.not_mem_nil⟩
  | _ :: _, [], _, _, _, _, h => by simp [zmg] at h
  | false :: bs, a :: as, xs, q, hD, hl, h => by
    obtain ⟨h1, h2, h3⟩ := zD_cons hD
    rcases List.mem_cons.mp h with e | h
    · subst e
      exact Or.inr ⟨List.mem_cons_self, fun r hr => h2 r (zpk_mem bs as r hr)⟩
    · rcases zmg_mem bs as xs q h3 hl h with g | ⟨g1, g2⟩
      · exact Or.inl g
      · exact Or.inr ⟨List.mem_cons_of_mem _ g1, g2⟩
  | true :: bs, a :: as, [], q, hD, hl, h => by simp [zpk] at hl
  | true :: bs, a :: as, x :: xs, q, hD, hl, h => by
    obtain ⟨h1, h2, h3⟩ := zD_cons hD
    rcases List.mem_cons.mp h with e | h
    · subst e
      exact Or.inl List.mem_cons_self
    · rcases zmg_mem bs as xs q h3 (by simpa [zpk] using hl) h with g | ⟨g1, g2⟩
      · exact Or.inl (List.mem_cons_of_mem _ g)
      · refine Or.inr ⟨List.mem_cons_of_mem _ g1, fun r hr => ?_⟩
        rcases List.mem_cons.mp hr with e | hr
        · subst e
          exact fun e2 => h2 q g1 e2.symm
        · exact g2 r hr
theorem zAd_mem {ws : va_W} {q : Nat} : zAd ws q ↔ ∃ e, (q, e) ∈ ws := by
  constructor
  · rintro ⟨k, e, h⟩
    exact ⟨e, List.mem_of_getElem? h⟩
  · rintro ⟨e, h⟩
    obtain ⟨k, hk⟩ := List.getElem?_of_mem h
    exact ⟨k, e, hk⟩
theorem ysub {D : va_G} {ws Wc : va_W} {H : Heap} (bs : List Bool) (hP : va_P D vwCl ws H) (hC : zpk bs ws = Wc) : va_P D vwCl Wc H := by
  subst hC
  exact zP_mem.mpr (fun q hq => zP_mem.mp hP q (zpk_mem bs ws q hq))
theorem ysubD {A : Nat → Prop} {ws Wc : va_W} (bs : List Bool) (hD : va_D A ws) (hC : zpk bs ws = Wc) : va_D A Wc := hC ▸ zpk_D bs ws hD
theorem ymg {D : va_G} {A : Nat → Prop} {ws Wc w1 : va_W} {H H1 : Heap} (bs : List Bool) (hP : va_P D vwCl ws H) (hD : va_D A ws) (hC : zpk bs ws = Wc) (hP1 : va_P D vwCl w1 H1) (hlen : w1.length = (zpk bs ws).length) (hk : ∀ q : Nat, q < H.size → ¬ zAd Wc q → H1[q]? = H[q]?) : va_P D vwCl (zmg bs ws w1) H1 := by
  subst hC
  refine zP_mem.mpr (fun q hq => ?_)
  rcases zmg_mem bs ws w1 q hD hlen hq with h | ⟨h1, h2⟩
  · exact zP_mem.mp hP1 q h
  · have hat := zP_mem.mp hP q h1
    refine hat.kept (hk q.1 hat.lt (fun ha => ?_))
    obtain ⟨e, he⟩ := zAd_mem.mp ha
    exact h2 _ he rfl
theorem yAd {A : Nat → Prop} {ws Wc : va_W} (bs : List Bool) (hD : va_D A ws) (hC : zpk bs ws = Wc) : ∀ q, zAd Wc q → A q := by
  intro q ha
  obtain ⟨k, e, h⟩ := ha
  exact (ysubD bs hD hC).2 k (q, e) h
section YC
variable {p : Program} {l : Launch} {e : Env} {R : Room} {s : State} {m : MethodId} {args : Array Value} {below : List Frame} {meth : Method} {c : Code} {H : Heap} {locs : List Loc} {cells slots : Nat} {Q : State → Prop}
  {Ts ws : List Cond} {cc bytes : ByteArray} {nL maxL index n pc : Nat} {own C : String} {y : MethodName} {ret : Option FieldType} {rm : Room} {b : Addr} {As rest st0 : List Value} {ls : Array Slot}
  {D : va_G} {T : List (ClassId × FieldType)} {W0 Wc : va_W} {A : Nat → Prop} {H0 : Heap}
theorem y_rV {v : Int} (hx : p.tables.exec = Jvm.exec) (hb : c.code = cc) (hml : c.maxLocals = nL) (hown : s.vm.findClass own = some m.cls) (hts : ∀ w ∈ Ts, w.before args s = true) (hsz : ls.size = nL) (hf : cells ≤ R.cells ∧ slots ≤ R.slots)
    (hM : Met l y ws rm (zPc D T (.ref b :: As) Wc) (vp_Si (fun r => r = zI v)) 0 0 (fun _ => False)) (cw : CallW R s args own C index y bytes maxL ret ws rm 0 0 n) (hK : va_K D vwCl T s) (bs : List Bool) (hP : va_P D vwCl W0 H) (hD : va_D A W0) (hC : zpk bs W0 = Wc) (ci q0 : Nat) {fs : List Value} {q : vw_C} (hcl : vwCl[ci]? = some q) (hq : q.1 = C) (he : Wc[q0]? = some (b, .inr (ci, fs)))
    (hn : As.length = n) (hst : st0 = As.reverse ++ .ref b :: rest) (hW : (rest.map fun v => v.category).sum ≤ 8) (hdg : decode cc pc = .ok (.invokevirtual index, 3))
    (kk : W p l e R s m args below meth c H locs cells slots Q (F0 m (pc + 3) ls (.int (zI v) :: rest))) : W p l e R s m args below meth c H locs cells slots Q (F0 m pc ls st0) := by
  have hPc := ysub bs hP hC
  have hDc := ysubD bs hD hC
  subst hq
  exact vp_callSi (W.runV ⟨hx, hb, hml, hown, hts⟩ hM cw (z_preV hK hPc hDc (va_recv hK hPc hcl he)) rfl hn hsz hst (lv_room hW) hdg hf) (fun r hr => by subst hr; exact kk)
theorem y_rVL {v : Int} (hx : p.tables.exec = Jvm.exec) (hb : c.code = cc) (hml : c.maxLocals = nL) (hown : s.vm.findClass own = some m.cls) (hts : ∀ w ∈ Ts, w.before args s = true) (hsz : ls.size = nL) (hf : cells ≤ R.cells ∧ slots ≤ R.slots)
    (hM : Met l y ws rm (zPc D T (.ref b :: As) Wc) (vp_Sl (fun r => r = zL v)) 0 0 (fun _ => False)) (cw : CallW R s args own C index y bytes maxL ret ws rm 0 0 n) (hK : va_K D vwCl T s) (bs : List Bool) (hP : va_P D vwCl W0 H) (hD : va_D A W0) (hC : zpk bs W0 = Wc) (ci q0 : Nat) {fs : List Value} {q : vw_C} (hcl : vwCl[ci]? = some q) (hq : q.1 = C) (he : Wc[q0]? = some (b, .inr (ci, fs)))
    (hn : As.length = n) (hst : st0 = As.reverse ++ .ref b :: rest) (hW : (rest.map fun v => v.category).sum ≤ 8) (hdg : decode cc pc = .ok (.invokevirtual index, 3))
    (kk : W p l e R s m args below meth c H locs cells slots Q (F0 m (pc + 3) ls (.long (zL v) :: rest))) : W p l e R s m args below meth c H locs cells slots Q (F0 m pc ls st0) := by
  have hPc := ysub bs hP hC
  have hDc := ysubD bs hD hC
  subst hq
  exact vp_callSl (W.runV ⟨hx, hb, hml, hown, hts⟩ hM cw (z_preV hK hPc hDc (va_recv hK hPc hcl he)) rfl hn hsz hst (lv_room hW) hdg hf) (fun r hr => by subst hr; exact kk)
theorem y_wBack {S : Type} {W1 wN : S → va_W} {H1 : Heap} {u : S} (hP : va_P D vwCl W0 H) (hD : va_D A W0) (bs : List Bool) (hC : zpk bs W0 = Wc) (hlen : ∀ u, (W1 u).length = (zpk bs W0).length) (hN : ∀ u, zmg bs W0 (W1 u) = wN u) (hB : va_P D vwCl (W1 u) H1) (hk : ∀ q : Nat, q < H.size → ¬ zAd Wc q → H1[q]? = H[q]?) : va_P D vwCl (wN u) H1 := by
  rw [← hN u]
  exact ymg bs hP hD hC hB (hlen u) hk
theorem y_wVi {S : Type} {post : Int32 → S → Prop} {W1 : S → va_W} (wN : S → va_W) (hx : p.tables.exec = Jvm.exec) (hb : c.code = cc) (hml : c.maxLocals = nL) (hown : s.vm.findClass own = some m.cls) (hts : ∀ w ∈ Ts, w.before args s = true) (hsz : ls.size = nL) (hf : cells ≤ R.cells ∧ slots ≤ R.slots)
    (hM : Met l y ws rm (zPc D T (.ref b :: As) Wc) (va_Qi post (fun u t => va_P D vwCl (W1 u) t.heap) (zAd Wc)) 0 0 (zAd Wc)) (cw : CallW R s args own C index y bytes maxL ret ws rm 0 0 n) (hK : va_K D vwCl T s) (bs : List Bool) (hP : va_P D vwCl W0 H) (hD : va_D A W0) (hS : va_S A H0 H locs) (hC : zpk bs W0 = Wc) (hlen : ∀ u, (W1 u).length = (zpk bs W0).length) (hN : ∀ u, zmg bs W0 (W1 u) = wN u) (ci q0 : Nat) {fs : List Value} {q : vw_C} (hcl : vwCl[ci]? = some q) (hq : q.1 = C) (he : Wc[q0]? = some (b, .inr (ci, fs)))
    (hn : As.length = n) (hst : st0 = As.reverse ++ .ref b :: rest) (hW : (rest.map fun v => v.category).sum ≤ 8) (hdg : decode cc pc = .ok (.invokevirtual index, 3))
    (kk : ∀ (r : Int32) (u : S) (H1 : Heap) (locs1 : List Loc), post r u → va_P D vwCl (wN u) H1 → va_S A H0 H1 locs1 → W p l e R s m args below meth c H1 locs1 cells slots Q (F0 m (pc + 3) ls (.int r :: rest))) : W p l e R s m args below meth c H locs cells slots Q (F0 m pc ls st0) := by
  have hPc := ysub bs hP hC
  have hDc := ysubD bs hD hC
  subst hq
  have hin := yAd bs hD hC
  exact va_calli (va_runV ⟨hx, hb, hml, hown, hts⟩ hM cw (z_preV hK hPc hDc (va_recv hK hPc hcl he)) rfl hn hsz hst (lv_room hW) hdg hf) hS (fun q _ h => hin q h) hin (fun r u t H1 locs1 ht hvm hp hB hz hk hS1 => kk r u H1 locs1 hp (y_wBack hP hD bs hC hlen hN (by rw [← ht]; exact hB) hk) hS1)
theorem y_wVl {S : Type} {post : Int64 → S → Prop} {W1 : S → va_W} (wN : S → va_W) (hx : p.tables.exec = Jvm.exec) (hb : c.code = cc) (hml : c.maxLocals = nL) (hown : s.vm.findClass own = some m.cls) (hts : ∀ w ∈ Ts, w.before args s = true) (hsz : ls.size = nL) (hf : cells ≤ R.cells ∧ slots ≤ R.slots)
    (hM : Met l y ws rm (zPc D T (.ref b :: As) Wc) (va_Ql post (fun u t => va_P D vwCl (W1 u) t.heap) (zAd Wc)) 0 0 (zAd Wc)) (cw : CallW R s args own C index y bytes maxL ret ws rm 0 0 n) (hK : va_K D vwCl T s) (bs : List Bool) (hP : va_P D vwCl W0 H) (hD : va_D A W0) (hS : va_S A H0 H locs) (hC : zpk bs W0 = Wc) (hlen : ∀ u, (W1 u).length = (zpk bs W0).length) (hN : ∀ u, zmg bs W0 (W1 u) = wN u) (ci q0 : Nat) {fs : List Value} {q : vw_C} (hcl : vwCl[ci]? = some q) (hq : q.1 = C) (he : Wc[q0]? = some (b, .inr (ci, fs)))
    (hn : As.length = n) (hst : st0 = As.reverse ++ .ref b :: rest) (hW : (rest.map fun v => v.category).sum ≤ 8) (hdg : decode cc pc = .ok (.invokevirtual index, 3))
    (kk : ∀ (r : Int64) (u : S) (H1 : Heap) (locs1 : List Loc), post r u → va_P D vwCl (wN u) H1 → va_S A H0 H1 locs1 → W p l e R s m args below meth c H1 locs1 cells slots Q (F0 m (pc + 3) ls (.long r :: rest))) : W p l e R s m args below meth c H locs cells slots Q (F0 m pc ls st0) := by
  have hPc := ysub bs hP hC
  have hDc := ysubD bs hD hC
  subst hq
  have hin := yAd bs hD hC
  exact va_calll (va_runV ⟨hx, hb, hml, hown, hts⟩ hM cw (z_preV hK hPc hDc (va_recv hK hPc hcl he)) rfl hn hsz hst (lv_room hW) hdg hf) hS (fun q _ h => hin q h) hin (fun r u t H1 locs1 ht hvm hp hB hz hk hS1 => kk r u H1 locs1 hp (y_wBack hP hD bs hC hlen hN (by rw [← ht]; exact hB) hk) hS1)
theorem y_wVv {S : Type} {post : S → Prop} {W1 : S → va_W} (wN : S → va_W) (hx : p.tables.exec = Jvm.exec) (hb : c.code = cc) (hml : c.maxLocals = nL) (hown : s.vm.findClass own = some m.cls) (hts : ∀ w ∈ Ts, w.before args s = true) (hsz : ls.size = nL) (hf : cells ≤ R.cells ∧ slots ≤ R.slots)
    (hM : Met l y ws rm (zPc D T (.ref b :: As) Wc) (va_Qv post (fun u t => va_P D vwCl (W1 u) t.heap) (zAd Wc)) 0 0 (zAd Wc)) (cw : CallW R s args own C index y bytes maxL ret ws rm 0 0 n) (hK : va_K D vwCl T s) (bs : List Bool) (hP : va_P D vwCl W0 H) (hD : va_D A W0) (hS : va_S A H0 H locs) (hC : zpk bs W0 = Wc) (hlen : ∀ u, (W1 u).length = (zpk bs W0).length) (hN : ∀ u, zmg bs W0 (W1 u) = wN u) (ci q0 : Nat) {fs : List Value} {q : vw_C} (hcl : vwCl[ci]? = some q) (hq : q.1 = C) (he : Wc[q0]? = some (b, .inr (ci, fs)))
    (hn : As.length = n) (hst : st0 = As.reverse ++ .ref b :: rest) (hW : (rest.map fun v => v.category).sum ≤ 8) (hdg : decode cc pc = .ok (.invokevirtual index, 3))
    (kk : ∀ (u : S) (H1 : Heap) (locs1 : List Loc), post u → va_P D vwCl (wN u) H1 → va_S A H0 H1 locs1 → W p l e R s m args below meth c H1 locs1 cells slots Q (F0 m (pc + 3) ls rest)) : W p l e R s m args below meth c H locs cells slots Q (F0 m pc ls st0) := by
  have hPc := ysub bs hP hC
  have hDc := ysubD bs hD hC
  subst hq
  have hin := yAd bs hD hC
  exact va_callv (va_runV ⟨hx, hb, hml, hown, hts⟩ hM cw (z_preV hK hPc hDc (va_recv hK hPc hcl he)) rfl hn hsz hst (lv_room hW) hdg hf) hS (fun q _ h => hin q h) hin (fun u t H1 locs1 ht hvm hp hB hz hk hS1 => kk u H1 locs1 hp (y_wBack hP hD bs hC hlen hN (by rw [← ht]; exact hB) hk) hS1)
end YC
