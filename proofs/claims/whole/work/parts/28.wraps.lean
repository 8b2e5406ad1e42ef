/-! ===== the law's wrappers: methods that catch ===== -/
section XWR
variable {p : Program} {l : Launch} {e : Env} {R : Room} {s : State} {m : MethodId} {args : Array Value} {below : List Frame} {meth : Method} {c : Code} {H : Heap} {locs : List Loc} {cells slots : Nat} {Q : State → Prop}
  {Ts ws ws' : List Cond} {cc bytes : ByteArray} {nL maxL index n pc : Nat} {own C : String} {y : MethodName} {ret : Option FieldType} {rm : Room} {b : Addr} {As rest st0 av : List Value} {ls : Array Slot}
  {D : va_G} {T : List (ClassId × FieldType)} {W0 Wc : va_W} {A : Nat → Prop} {H0 : Heap} {hh : List (Nat × Nat × Nat × Nat)}
/-- what never throws -/
theorem x_met {Pc : Array Value → State → Prop} {Qc : Array Value → State → Outcome → State → Prop} {mc ms : Nat} {free : Addr → Prop} (h : vx_Met l y ws rm Pc Qc (fun _ _ _ => False) mc ms free) : Met l y ws rm Pc Qc mc ms free :=
  MetFree.mono h (fun _ _ h => h) (fun _ _ _ _ _ h => h) (fun a s o t _ h => h.elim id (fun ⟨q, _, E, ce, L, hF, _⟩ => hF.elim))
theorem zLi_of {S : Type} {post : Int32 → S → Prop} {W1 : S → va_W} (hy : plainName y.cls = true) (hw : ws = Cond.codeWith y cc maxL ret hh :: ws') (hav : (lg_sl av).length ≤ maxL) (hret : ret = some .int)
    (body : ∀ (p : Program) (e : Env) (s : State) (m : MethodId) (args : Array Value) (below : List Frame) (meth : Method) (c : Code) (Q : State → Prop) (A : Nat → Prop) (ls : Array Slot), p.tables.exec = Jvm.exec → c.code = cc → c.maxLocals = maxL → (∀ w ∈ ws, w.before args s = true) → s.vm.findClass y.cls = some m.cls → va_K D vwCl T s → va_P D vwCl W0 s.heap → va_D A W0 → va_S A s.heap s.heap [] → lv_has ls maxL (lv_args 0 av) →
      (∀ {H : Heap} {locs : List Loc} {pc : Nat} {ls1 : Array Slot} {r : Int32} (u : S), post r u → va_P D vwCl (W1 u) H → va_S A s.heap H locs → decode cc pc = .ok (.ireturn, 1) → W p l e rm s m args below meth c H locs 0 0 Q (F0 m pc ls1 [.int r])) → W p l e rm s m args below meth c s.heap [] 0 0 Q (F0 m 0 ls [])) :
    Met l y ws rm (zPc D T av W0) (va_Qi post (fun u t => va_P D vwCl (W1 u) t.heap) (zAd W0)) 0 0 (zAd W0) := by
  refine x_met (vx_ofWH (cc := cc) (maxL := maxL) (ret := ret) (hh := hh) hy hw ?_)
  intro p e s m args below meth c s₁ B hml hv
  obtain ⟨rfl, hP, hK, hD⟩ := hv
  have hr := B.returns
  have hlocks := B.notSynchronized
  rw [lg_entry_eq]
  refine body p e s m _ below meth c _ (zAd W0) _ B.exec B.bytes hml (atoms_spec (ws := ws) B.pre) (findClass_of_methodNamed B.named) hK hP (zD_self hD) va_S.rf (lv_entry av hav) (fun u h1 h2 hS hdg => ?_)
  exact vx_ret (W.iret B.exec B.bytes (hr.trans hret) (fun t ht hW => ⟨⟨_, u, rfl, h1, by show va_P D vwCl (W1 u) t.heap; rw [ht]; exact h2⟩, hS.F ht⟩) hS.2.2 hdg)
theorem zLN_of {S : Type} {post : Int32 → S → Prop} {W1 : S → va_W} (hy : plainName y.cls = true) (hw : ws = Cond.codeWith y cc maxL ret hh :: ws') (hav : (lg_sl av).length ≤ maxL) (hret : ret = some .int)
    (body : ∀ (p : Program) (e : Env) (s : State) (m : MethodId) (args : Array Value) (below : List Frame) (meth : Method) (c : Code) (Q : State → Prop) (A : Nat → Prop) (ls : Array Slot), p.tables.exec = Jvm.exec → c.code = cc → c.maxLocals = maxL → (∀ w ∈ ws, w.before args s = true) → s.vm.findClass y.cls = some m.cls → va_K D vwCl T s → va_P D vwCl W0 s.heap → va_D A W0 → va_S A s.heap s.heap [] → lv_has ls maxL (lv_args 0 av) → xKs A s s.heap → xTx s → c.exceptionTable.toList = tableOf hh →
      (∀ {H : Heap} {locs : List Loc} {pc : Nat} {ls1 : Array Slot} {r : Int32} (u : S), post r u → va_P D vwCl (W1 u) H → va_S A s.heap H locs → decode cc pc = .ok (.ireturn, 1) → W p l e rm s m args below meth c H locs 1 6 Q (F0 m pc ls1 [.int r])) → W p l e rm s m args below meth c s.heap [] 0 0 Q (F0 m 0 ls [])) :
    Met l y ws rm (zPx D T av W0) (va_Qi post (fun u t => va_P D vwCl (W1 u) t.heap) (zAd W0)) 1 6 (zAd W0) := by
  refine x_met (vx_ofWH (cc := cc) (maxL := maxL) (ret := ret) (hh := hh) hy hw ?_)
  intro p e s m args below meth c s₁ B hml hv
  obtain ⟨⟨rfl, hP, hK, hD⟩, hZ, hT⟩ := hv
  have hr := B.returns
  have hlocks := B.notSynchronized
  have hws := atoms_spec (ws := ws) B.pre
  have htab := vx_table (x := y) B (hws (Cond.codeWith y cc maxL ret hh) (by rw [hw]; exact List.mem_cons_self))
  rw [lg_entry_eq]
  refine body p e s m _ below meth c _ (zAd W0) _ B.exec B.bytes hml hws (findClass_of_methodNamed B.named) hK hP (zD_self hD) va_S.rf (lv_entry av hav) hZ hT htab (fun u h1 h2 hS hdg => ?_)
  exact vx_ret (W.iret B.exec B.bytes (hr.trans hret) (fun t ht hW => ⟨⟨_, u, rfl, h1, by show va_P D vwCl (W1 u) t.heap; rw [ht]; exact h2⟩, hS.F ht⟩) hS.2.2 hdg)
/-- a call that throws -/
theorem x_call {S : Type} {E : String} {post : S → Prop} {W1 wN : S → va_W} (hx : p.tables.exec = Jvm.exec) (hb : c.code = cc) (hml : c.maxLocals = nL) (hown : s.vm.findClass own = some m.cls) (hts : ∀ w ∈ Ts, w.before args s = true) (hsz : ls.size = nL) (hf : cells + 1 ≤ R.cells ∧ slots + 6 ≤ R.slots)
    (hM : vx_Met l y ws rm (zPx D T (.ref b :: As) Wc) xNo (xXC E post W1 D Wc) 1 6 (zAd Wc)) (cw : CallW R s args own C index y bytes maxL ret ws rm 1 6 n) (hK : va_K D vwCl T s) (bs : List Bool) (hP : va_P D vwCl W0 H) (hD : va_D A W0) (hS : va_S A H0 H locs) (hZ : xKs A s H) (hT : xTx s) (hC : zpk bs W0 = Wc) (hlen : ∀ u, (W1 u).length = (zpk bs W0).length) (hN : ∀ u, zmg bs W0 (W1 u) = wN u) (ci q0 : Nat) {fs : List Value} {q : vw_C} (hcl : vwCl[ci]? = some q) (hq : q.1 = C) (he : Wc[q0]? = some (b, .inr (ci, fs)))
    (hn : As.length = n) (hst : st0 = As.reverse ++ .ref b :: rest) (hW : (rest.map fun v => v.category).sum ≤ 8) (hdg : decode cc pc = .ok (.invokevirtual index, 3))
    (kx : ∀ (u : S) (H1 : Heap) (locs1 : List Loc) (ce : Cell) (q9 : Addr), post u → va_P D vwCl (wN u) H1 → va_S A H0 H1 locs1 → H1[q9]? = some ce → ce.vm = .none → s.vm.findClass E = some ce.cls → vx_W p l e R s m args below meth c H1 locs1 (cells + 1) (slots + 6) Q (F0 m pc ls rest) q9) : W p l e R s m args below meth c H locs cells slots Q (F0 m pc ls st0) := by
  have hPc := ysub bs hP hC
  have hDc := ysubD bs hD hC
  subst hq
  have hin := yAd bs hD hC
  have hr : vx_Run p l e R s m args below meth c H locs cells slots 1 6 (F0 m pc ls st0) rest (xNo (Value.ref b :: As).toArray) (xXC E post W1 D Wc) (zAd Wc) := vx_runV ⟨hx, hb, hml, hown, hts⟩ hM cw (x_preV hK hPc hDc (va_recv hK hPc hcl he) hZ hT) (g := F0 m pc ls st0) rfl hn hsz hst (lv_room hW) hdg hf
  intro T1 hT1 X
  rcases hr T1 hT1 X with ⟨v, st₀, t, T', L, h0, X', hL, e1, e2, hq, st⟩ | ⟨q, st₀, t, T', L, E9, ce, h0, X', hL, e1, e2, ⟨u, hp, ⟨rfl, hB⟩, hF⟩, hce, hcv, hcl9, st⟩
  · exact hq.elim
  · obtain ⟨k1, k2, k3⟩ := vx_keep h0 e1 hS (fun q _ h => hin q h) hin hL hF
    obtain ⟨t2, a1, b1⟩ := kx u T'.heap (locs ++ L) ce q hp (y_wBack hP hD bs hC hlen hN (by rw [e1]; exact hB) k2) k3 (by rw [e1]; exact hce) hcv hcl9 T' rfl X'
    exact ⟨t2, st.trans a1, b1⟩
end XWR
