/-! ===== references read and handed back ===== -/
section ZR
variable {p : Program} {l : Launch} {e : Env} {R : Room} {s : State} {m : MethodId} {args : Array Value} {below : List Frame} {meth : Method} {c : Code} {H : Heap} {locs : List Loc} {cells slots : Nat} {Q : State → Prop}
  {Ts ws : List Cond} {cc bytes : ByteArray} {nL maxL index n pc : Nat} {own C : String} {y : MethodName} {ret : Option FieldType} {rm : Room} {b a : Addr} {As rest st0 : List Value} {ls : Array Slot}
  {D : va_G} {T : List (ClassId × FieldType)} {W0 Wc : va_W} {A : Nat → Prop} {H0 : Heap}
theorem z_aald (hx : p.tables.exec = Jvm.exec) (hb : c.code = cc) (hK : va_K D vwCl T s) (hP : va_P D vwCl W0 H) (q0 t0 : Nat) {cA : ClassId} {E : String} {nn : Nat} {f : Nat → Option Nat} (j : Nat) {a' : Nat} (ha : W0[q0]? = some (a, .inl (cA, nn, .inr (.inr (.inr (.inr f)))))) (ht : T[t0]? = some (cA, .object E)) (hj : j < nn) (hn : nn < 2147483648) (hf : f j = some a') (hdg : decode cc pc = .ok (.aaload, 1)) (kk : W p l e R s m args below meth c H locs cells slots Q (F0 m (pc + 1) ls (.ref a' :: rest))) : W p l e R s m args below meth c H locs cells slots Q (F0 m pc ls (.int (zI (j : Int)) :: .ref a :: rest)) := by
  have hc := zI_cl (i := (j : Int)) ⟨by omega, by omega⟩
  have hc2 : (zI (j : Int)).toNatClampNeg = j := by omega
  refine va_aldq hx hb hK hP q0 t0 ha ht (z_in ⟨by omega, by omega⟩ hn) hdg ?_
  rw [hc2, hf]
  exact kk
theorem y_rVr {v : Nat} (hx : p.tables.exec = Jvm.exec) (hb : c.code = cc) (hml : c.maxLocals = nL) (hown : s.vm.findClass own = some m.cls) (hts : ∀ w ∈ Ts, w.before args s = true) (hsz : ls.size = nL) (hf : cells ≤ R.cells ∧ slots ≤ R.slots)
    (hM : Met l y ws rm (zPc D T (.ref b :: As) Wc) (va_Sr (fun k => k = v) (fun k => Value.ref k)) 0 0 (fun _ => False)) (cw : CallW R s args own C index y bytes maxL ret ws rm 0 0 n) (hK : va_K D vwCl T s) (bs : List Bool) (hP : va_P D vwCl W0 H) (hD : va_D A W0) (hC : zpk bs W0 = Wc) (ci q0 : Nat) {fs : List Value} {q : vw_C} (hcl : vwCl[ci]? = some q) (hq : q.1 = C) (he : Wc[q0]? = some (b, .inr (ci, fs)))
    (hn : As.length = n) (hst : st0 = As.reverse ++ .ref b :: rest) (hW : (rest.map fun v => v.category).sum ≤ 8) (hdg : decode cc pc = .ok (.invokevirtual index, 3))
    (kk : W p l e R s m args below meth c H locs cells slots Q (F0 m (pc + 3) ls (.ref v :: rest))) : W p l e R s m args below meth c H locs cells slots Q (F0 m pc ls st0) := by
  have hPc := ysub bs hP hC
  have hDc := ysubD bs hD hC
  subst hq
  exact va_csr (W.runV ⟨hx, hb, hml, hown, hts⟩ hM cw (z_preV hK hPc hDc (va_recv hK hPc hcl he)) rfl hn hsz hst (lv_room hW) hdg hf) (fun r hr => by subst hr; exact kk)
end ZR
section ZRM
variable {l : Launch} {y : MethodName} {ws ws' : List Cond} {rm : Room} {cc : ByteArray} {maxL : Nat} {ret : Option FieldType} {D : va_G} {T : List (ClassId × FieldType)} {av : List Value} {W0 : va_W}
theorem zRr_of (v : Nat) {E : String} (hy : plainName y.cls = true) (hw : ws = Cond.code y cc maxL ret :: ws') (hav : (lg_sl av).length ≤ maxL) (hret : ret = some (.object E))
    (body : ∀ (p : Program) (e : Env) (s : State) (m : MethodId) (args : Array Value) (below : List Frame) (meth : Method) (c : Code) (Q : State → Prop) (ls : Array Slot), p.tables.exec = Jvm.exec → c.code = cc → c.maxLocals = maxL → (∀ w ∈ ws, w.before args s = true) → s.vm.findClass y.cls = some m.cls → va_K D vwCl T s → va_P D vwCl W0 s.heap → va_D (fun _ => True) W0 → lv_has ls maxL (lv_args 0 av) →
      (∀ {pc : Nat} {ls1 : Array Slot}, decode cc pc = .ok (.areturn, 1) → W p l e rm s m args below meth c s.heap [] 0 0 Q (F0 m pc ls1 [.ref v])) → W p l e rm s m args below meth c s.heap [] 0 0 Q (F0 m 0 ls [])) :
    Met l y ws rm (zPc D T av W0) (va_Sr (fun k => k = v) (fun k => Value.ref k)) 0 0 (fun _ => False) := by
  refine Met.ofW (cc := cc) (maxL := maxL) (ret := ret) hy hw ?_
  intro p e s m args below meth c s₁ B hml hv
  obtain ⟨rfl, hP, hK, hD⟩ := hv
  have hr := B.returns
  have hlocks := B.notSynchronized
  rw [lg_entry_eq]
  refine body p e s m _ below meth c _ _ B.exec B.bytes hml (atoms_spec (ws := ws) B.pre) (findClass_of_methodNamed B.named) hK hP hD (lv_entry av hav) (fun hdg => ?_)
  exact W.aret B.exec B.bytes (hr.trans hret) (Or.inl ⟨E, rfl⟩) (Or.inr ⟨v, rfl⟩) (fun t ht hW => ⟨v, rfl, rfl, ht⟩) (fun q h => by cases h) hdg
end ZRM
