/-! ===== constructors: what they stand on ===== -/
def zPi (D : va_G) (T : List (ClassId × FieldType)) (av : List Value) (ws : va_W) (sz : Nat) : Array Value → State → Prop := fun v U => v = av.toArray ∧ U.heap.size = sz ∧ va_P D vwCl ws U.heap ∧ va_K D vwCl T U ∧ va_D (fun _ => True) ws ∧ va_AO "SignalSpacing$State" U
theorem zPi_blind {D : va_G} {T : List (ClassId × FieldType)} {av : List Value} {ws : va_W} {sz : Nat} : FrameBlind (zPi D T av ws sz) := fun a U g mk q => ⟨q.1, q.2.1, q.2.2.1, va_K.moved (u := U) (U := U.calling g mk a) (Vm.Alike.refl U.vm) q.2.2.2.1, q.2.2.2.2.1, va_AO.moved (u := U) (U := U.calling g mk a) (Vm.Alike.refl U.vm) q.2.2.2.2.2⟩
/-- places out of a list -/
def zN (l : List Nat) (k : Nat) : Nat := l.getD k 0
theorem zcellR {cI : ClassId} {n : Nat} {g g' : Nat → Option Nat} (h : ∀ j : Nat, j < n → g j = g' j) : vp_cell cI (n, .inr (.inr (.inr (.inr g)))) = vp_cell cI (n, .inr (.inr (.inr (.inr g')))) := by
  rw [vp_cell_q, vp_cell_q]
  unfold arrV
  congr 1
  refine congrArg _ (funext fun j => ?_)
  show va_rf (g j.val) = va_rf (g' j.val)
  rw [h _ j.isLt]
theorem zreR {D : va_G} {ws : va_W} {H : Heap} (k : Nat) {a n : Nat} {cI : ClassId} {g g' : Nat → Option Nat} (hP : va_P D vwCl ws H) (hk : ws[k]? = some (a, .inl (cI, n, .inr (.inr (.inr (.inr g)))))) (h : ∀ j : Nat, j < n → g j = g' j) : va_P D vwCl (ws.set k (a, .inl (cI, n, .inr (.inr (.inr (.inr g')))))) H := by
  have hl := (List.getElem?_eq_some_iff.mp hk).1
  intro i q hq
  by_cases hi : i = k
  · subst hi
    rw [List.getElem?_set_self hl] at hq
    cases hq
    show H[a]? = some (vp_cell cI (n, .inr (.inr (.inr (.inr g')))))
    rw [← zcellR h]
    exact hP i _ hk
  · rw [List.getElem?_set_ne (Ne.symm hi)] at hq
    exact hP i q hq
theorem zclamp {n : Int} {N : Nat} (hn : (N : Int) = n) (hN : N < 100000) : ¬ zI n < 0 ∧ (zI n).toNatClampNeg = N := by
  have h := zI_cl (i := n) ⟨by omega, by omega⟩
  refine ⟨fun q => ?_, by omega⟩
  have := (zI_lt (a := n) (b := 0) ⟨by omega, by omega⟩ ⟨by omega, by omega⟩).mp q
  omega
section ZIB
variable {p : Program} {l : Launch} {e : Env} {R : Room} {s : State} {m : MethodId} {args : Array Value} {below : List Frame} {meth : Method} {c : Code} {H : Heap} {locs : List Loc} {cells slots : Nat} {Q : State → Prop}
  {Ts ws ws' : List Cond} {cc bytes : ByteArray} {nL maxL index n pc : Nat} {own C : String} {y : MethodName} {ret : Option FieldType} {rm : Room} {b : Addr} {As rest st0 av : List Value} {ls : Array Slot}
  {D : va_G} {T : List (ClassId × FieldType)} {W0 Wc ww : va_W} {A : Nat → Prop} {H0 : Heap} {cI cJ cS : ClassId} {k1 k2 : Nat}
theorem zI_of {S : Type} {post : S → Prop} {W1 : S → va_W} {sz mc ms : Nat} (hy : plainName y.cls = true) (hw : ws = Cond.code y cc maxL ret :: ws') (hav : (lg_sl av).length ≤ maxL) (hret : ret = none) (hyn : y.name = "<init>")
    (body : ∀ (p : Program) (e : Env) (s : State) (m : MethodId) (args : Array Value) (below : List Frame) (meth : Method) (c : Code) (Q : State → Prop) (A : Nat → Prop) (ls : Array Slot), p.tables.exec = Jvm.exec → c.code = cc → c.maxLocals = maxL → (∀ w ∈ ws, w.before args s = true) → s.vm.findClass y.cls = some m.cls → va_K D vwCl T s → va_P D vwCl W0 s.heap → va_D A W0 → va_S A s.heap s.heap [] → lv_has ls maxL (lv_args 0 av) → (∀ q : Nat, s.heap.size ≤ q → A q) → meth.name = "<init>" → va_AO "SignalSpacing$State" s →
      (∀ {H : Heap} {locs : List Loc} {pc : Nat} {ls1 : Array Slot} (u : S), post u → va_P D vwCl (W1 u) H → va_D A (W1 u) → va_S A s.heap H locs → decode cc pc = .ok (.return_, 1) → W p l e rm s m args below meth c H locs mc ms Q (F0 m pc ls1 [])) → W p l e rm s m args below meth c s.heap [] 0 0 Q (F0 m 0 ls [])) :
    Met l y ws rm (zPi D T av W0 sz) (va_Qv post (fun u t => va_P D vwCl (W1 u) t.heap ∧ va_D (va_A W0 sz) (W1 u)) (va_A W0 sz)) mc ms (va_A W0 sz) := by
  refine Met.ofW (cc := cc) (maxL := maxL) (ret := ret) hy hw ?_
  intro p e s m args below meth c s₁ B hml hv
  obtain ⟨rfl, rfl, hP, hK, hD, hAO⟩ := hv
  have hr := B.returns
  have hlocks := B.notSynchronized
  have hin : meth.name = "<init>" := (name_of_methodNamed B.named B.method).1.trans hyn
  rw [lg_entry_eq]
  refine body p e s m _ below meth c _ (va_A W0 s.heap.size) _ B.exec B.bytes hml (atoms_spec (ws := ws) B.pre) (findClass_of_methodNamed B.named) hK hP hD.self va_S.rf (lv_entry av hav) (fun q h => Or.inr h) hin hAO (fun u h1 h2 h3 hS hdg => ?_)
  exact W.vret B.exec B.bytes (hr.trans hret) (fun t ht hW => ⟨⟨u, rfl, h1, by show va_P D vwCl (W1 u) t.heap ∧ _; rw [ht]; exact ⟨h2, h3⟩⟩, hS.F ht⟩) hS.2.2 hdg
/-- a fresh object's constructor, the object being the last cell -/
theorem z_callI {S : Type} {post : S → Prop} {W1 : S → va_W} {o : va_E} {mc ms : Nat} (hx : p.tables.exec = Jvm.exec) (hb : c.code = cc) (hml : c.maxLocals = nL) (hown : s.vm.findClass own = some m.cls) (hts : ∀ w ∈ Ts, w.before args s = true) (hsz : ls.size = nL) (hk : cells + mc = k1 ∧ slots + ms = k2) (hf : k1 ≤ R.cells ∧ k2 ≤ R.slots)
    (hM : ∀ sz : Nat, Met l y ws rm (zPi D T (.ref b :: As) [(b, o)] sz) (va_Qv post (fun u t => va_P D vwCl (W1 u) t.heap ∧ va_D (va_A [(b, o)] sz) (W1 u)) (va_A [(b, o)] sz)) mc ms (va_A [(b, o)] sz)) (cw : CallB R s args own index y bytes maxL none ws rm mc ms n ∧ y.name = "<init>" ∧ (Cond.instanceMethod y).before args s = true) (hK : va_K D vwCl T s) (hAO : va_AO "SignalSpacing$State" s) (hP : va_P D vwCl (ww ++ [(b, o)]) H) (hD : va_D A (ww ++ [(b, o)])) (hS : va_S A H0 H locs) (hA : ∀ q : Nat, H0.size ≤ q → A q)
    (hn : As.length = n) (hst : st0 = As.reverse ++ .ref b :: rest) (hW : (rest.map fun v => v.category).sum ≤ 8) (hdg : decode cc pc = .ok (.invokespecial index, 3))
    (kk : ∀ (u : S) (H1 : Heap) (locs1 : List Loc), post u → va_P D vwCl (ww ++ W1 u) H1 → va_D A (ww ++ W1 u) → va_S A H0 H1 locs1 → W p l e R s m args below meth c H1 locs1 k1 k2 Q (F0 m (pc + 3) ls rest)) : W p l e R s m args below meth c H locs cells slots Q (F0 m pc ls st0) := by
  obtain ⟨rfl, rfl⟩ := hk
  have hg1 : ∀ (i : Nat) (q : Nat × va_E), ww[i]? = some q → (ww ++ [(b, o)])[i]? = some q := fun i q h => by rw [List.getElem?_append_left (List.getElem?_eq_some_iff.mp h).1]; exact h
  have hlast : (ww ++ [(b, o)])[ww.length]? = some (b, o) := by rw [List.getElem?_append_right (Nat.le_refl _), Nat.sub_self]; rfl
  have hPc : va_P D vwCl [(b, o)] H := fun k q h => by
    cases k with
    | zero => cases h; exact hP _ _ hlast
    | succ k => simp at h
  have hDc : va_D A [(b, o)] := ⟨fun i j p q h1 h2 _ => by
    have a1 := (List.getElem?_eq_some_iff.mp h1).1
    have a2 := (List.getElem?_eq_some_iff.mp h2).1
    simp at a1 a2; omega, fun k q h => by
    cases k with
    | zero => cases h; exact hD.2 _ _ hlast
    | succ k => simp at h⟩
  have hfree : ∀ q, va_A [(b, o)] H.size q → A q := fun q h => by
    rcases h with ⟨k, e9, h⟩ | h
    · exact hDc.2 k _ h
    · exact hA q (Nat.le_trans hS.1 h)
  refine va_callv (va_runI (As := As) (rest := rest) ⟨hx, hb, hml, hown, hts⟩ (hM H.size) cw ⟨zPi_blind, fun U hU hW => ⟨rfl, by rw [hU], by rw [hU]; exact hPc, va_K.moved hW.alike hK, hDc.weaken (fun _ _ _ _ => trivial), va_AO.moved hW.alike hAO⟩⟩ rfl hn hsz hst (lv_room hW) hdg hf) hS (fun q _ h => hfree q h) hfree (fun u t H1 locs1 ht hvm hp hB hz hk hS1 => ?_)
  obtain ⟨hP1, hD1⟩ := hB
  rw [ht] at hP1
  have hapart : ∀ (i : Nat) (q : Nat × va_E), ww[i]? = some q → q.1 < H.size ∧ ¬ va_A [(b, o)] H.size q.1 := fun i q h => by
    have h1 := hg1 i q h
    have hlt := (hP i q h1).lt
    refine ⟨hlt, fun hv => ?_⟩
    rcases hv with ⟨k, e9, hv⟩ | hv
    · cases k with
      | zero =>
        cases hv
        have := hD.1 i ww.length q _ h1 hlast rfl
        have := (List.getElem?_eq_some_iff.mp h).1
        omega
      | succ k => simp at hv
    · omega
  have hPw : va_P D vwCl ww H := fun i q h => hP i q (hg1 i q h)
  have hDw : va_D A ww := ⟨fun i j p q h1 h2 h3 => hD.1 i j p q (hg1 i p h1) (hg1 j q h2) h3, fun k q h => hD.2 k q (hg1 k q h)⟩
  refine kk u H1 locs1 hp ((hPw.kept (fun i q h => hk q.1 (hapart i q h).1 (hapart i q h).2)).app hP1) (hDw.app (hD1.weaken (fun k q _ h => hfree q.1 h)) (fun i j p q h1 h2 h3 => (hapart i p h1).2 (h3 ▸ hD1.2 j q h2))) hS1
/-- a new row of ints -/
theorem z_newI {N : Nat} {v : Int} (g : Int → Int) (hx : p.tables.exec = Jvm.exec) (hb : c.code = cc) (harr : (Cond.arrayClass .int).before args s = true) (hK : va_K D vwCl (zT cI cJ cS) s) (hP : va_P D vwCl ww H) (hD : va_D A ww) (hS : va_S A H0 H locs) (hA : ∀ q : Nat, H0.size ≤ q → A q) (hv : (N : Int) = v) (hN : N < 100000) (hg : ∀ j : Int, 0 ≤ j → j < v → g j = 0) (hk : cells + 1 = k1 ∧ slots + N = k2) (hf : k1 ≤ R.cells ∧ k2 ≤ R.slots) (hdg : decode cc pc = .ok (.newarray .int, 2))
    (kk : ∀ (q : Nat) (H1 : Heap), va_P D vwCl (ww ++ [(q, .inl (cI, N, .inl (zA g)))]) H1 → va_D A (ww ++ [(q, .inl (cI, N, .inl (zA g)))]) → va_S A H0 H1 locs → W p l e R s m args below meth c H1 locs k1 k2 Q (F0 m (pc + 2) ls (.ref q :: rest))) : W p l e R s m args below meth c H locs cells slots Q (F0 m pc ls (.int (zI v) :: rest)) := by
  obtain ⟨rfl, rfl⟩ := hk
  obtain ⟨h1, h2⟩ := zclamp hv hN
  refine va_newa (atype := .int) (N' := N) (a0 := (N, .inl (zA g))) hx hb harr rfl hK hP hD hS hA (fun cA => ?_) h1 h2 (by show N * 4 ≤ _; omega) hf.1 hf.2 hdg (fun q cA H1 hK1 hP1 hD1 hS1 => ?_)
  · rw [zcell (g' := fun _ => 0) (fun j a b9 => hg j a (by omega))]; rfl
  · have e1 : s.vm.findClass ("[" ++ FieldType.int.toString) = some cA := (hK1.2 3 (cA, .int) rfl).2
    have e2 : s.vm.findClass ("[" ++ FieldType.int.toString) = some cI := (hK.2 0 (cI, .int) rfl).2
    have e3 : cA = cI := Option.some.inj (e1.symm.trans e2)
    subst e3
    exact kk q H1 hP1 hD1 hS1
/-- a new row of longs -/
theorem z_newJ {N : Nat} {v : Int} (g : Int → Int) (hx : p.tables.exec = Jvm.exec) (hb : c.code = cc) (harr : (Cond.arrayClass .long).before args s = true) (hK : va_K D vwCl (zT cI cJ cS) s) (hP : va_P D vwCl ww H) (hD : va_D A ww) (hS : va_S A H0 H locs) (hA : ∀ q : Nat, H0.size ≤ q → A q) (hv : (N : Int) = v) (hN : N < 100000) (hg : ∀ j : Int, 0 ≤ j → j < v → g j = 0) (hk : cells + 1 = k1 ∧ slots + N = k2) (hf : k1 ≤ R.cells ∧ k2 ≤ R.slots) (hdg : decode cc pc = .ok (.newarray .long, 2))
    (kk : ∀ (q : Nat) (H1 : Heap), va_P D vwCl (ww ++ [(q, .inl (cJ, N, .inr (.inl (zAL g))))]) H1 → va_D A (ww ++ [(q, .inl (cJ, N, .inr (.inl (zAL g))))]) → va_S A H0 H1 locs → W p l e R s m args below meth c H1 locs k1 k2 Q (F0 m (pc + 2) ls (.ref q :: rest))) : W p l e R s m args below meth c H locs cells slots Q (F0 m pc ls (.int (zI v) :: rest)) := by
  obtain ⟨rfl, rfl⟩ := hk
  obtain ⟨h1, h2⟩ := zclamp hv hN
  refine va_newa (atype := .long) (N' := N) (a0 := (N, .inr (.inl (zAL g)))) hx hb harr rfl hK hP hD hS hA (fun cA => ?_) h1 h2 (by show N * 8 ≤ _; omega) hf.1 hf.2 hdg (fun q cA H1 hK1 hP1 hD1 hS1 => ?_)
  · rw [zcellL (g' := fun _ => 0) (fun j a b9 => hg j a (by omega))]; rfl
  · have e1 : s.vm.findClass ("[" ++ FieldType.long.toString) = some cA := (hK1.2 3 (cA, .long) rfl).2
    have e2 : s.vm.findClass ("[" ++ FieldType.long.toString) = some cJ := (hK.2 1 (cJ, .long) rfl).2
    have e3 : cA = cJ := Option.some.inj (e1.symm.trans e2)
    subst e3
    exact kk q H1 hP1 hD1 hS1
/-- a new row of States -/
theorem z_newS {N : Nat} {v : Int} (hx : p.tables.exec = Jvm.exec) (hb : c.code = cc) (hown : s.vm.findClass own = some m.cls) (hcl : (Cond.classLink own index "SignalSpacing$State").before args s = true) (hAO : va_AO "SignalSpacing$State" s) (hK : va_K D vwCl (zT cI cJ cS) s) (hP : va_P D vwCl ww H) (hD : va_D A ww) (hS : va_S A H0 H locs) (hA : ∀ q : Nat, H0.size ≤ q → A q) (hv : (N : Int) = v) (hN : N < 100000) (hk : cells + 1 = k1 ∧ slots + N = k2) (hf : k1 ≤ R.cells ∧ k2 ≤ R.slots) (hdg : decode cc pc = .ok (.anewarray index, 3))
    (kk : ∀ (q : Nat) (H1 : Heap), va_P D vwCl (ww ++ [(q, .inl (cS, N, .inr (.inr (.inr (.inr (fun _ => none))))))]) H1 → va_D A (ww ++ [(q, .inl (cS, N, .inr (.inr (.inr (.inr (fun _ => none))))))]) → va_S A H0 H1 locs → W p l e R s m args below meth c H1 locs k1 k2 Q (F0 m (pc + 3) ls (.ref q :: rest))) : W p l e R s m args below meth c H locs cells slots Q (F0 m pc ls (.int (zI v) :: rest)) := by
  obtain ⟨rfl, rfl⟩ := hk
  obtain ⟨h1, h2⟩ := zclamp hv hN
  refine va_newq (N' := N) hx hb hown hcl hAO hK hP hD hS hA h1 h2 (by omega) hf.1 hf.2 hdg (fun q cA H1 hK1 hP1 hD1 hS1 => ?_)
  obtain ⟨kA, comp, -, -, -, e1⟩ : va_RA s cA (.object "SignalSpacing$State") := (hK1.2 3 (cA, .object "SignalSpacing$State") rfl).2
  obtain ⟨kB, comp2, -, -, -, e2⟩ : va_RA s cS (.object "SignalSpacing$State") := (hK.2 2 (cS, .object "SignalSpacing$State") rfl).2
  have e3 : cA = cS := Option.some.inj (e1.symm.trans e2)
  subst e3
  exact kk q H1 hP1 hD1 hS1
theorem z_newO {T0 : u_T} {N ci : Nat} (hx : p.tables.exec = Jvm.exec) (hb : c.code = cc) (hts : ∀ w ∈ Ts, w.before args s = true) (hin : ∀ w ∈ u_ws C T0 N, w ∈ Ts) (ty : Nat → FieldType) (hty : ∀ k, k < N → parseFieldDescriptor (T0 k).2.2.1 = some (ty k)) (hown : s.vm.findClass own = some m.cls) (hcl : (Cond.classLink own index C).before args s = true) (hinst : (Cond.instantiable C N).before args s = true) (hini : (Cond.initialized C).before args s = true)
    (hK : va_K D vwCl T s) (hP : va_P D vwCl ww H) (hD : va_D A ww) (hS : va_S A H0 H locs) (hA : ∀ q : Nat, H0.size ≤ q → A q) (hc : vwCl[ci]? = some (C, T0, N)) {fs : List Value} (hfs : ∀ j, j < N → defaultValue (ty j) = vp_V fs j) (hk : cells + 1 = k1 ∧ slots + N = k2) (hf : k1 ≤ R.cells ∧ k2 ≤ R.slots) (hdg : decode cc pc = .ok (.new index, 3))
    (kk : ∀ (q : Nat) (H1 : Heap), va_P D vwCl (ww ++ [(q, .inr (ci, fs))]) H1 → va_D A (ww ++ [(q, .inr (ci, fs))]) → va_S A H0 H1 locs → W p l e R s m args below meth c H1 locs k1 k2 Q (F0 m (pc + 3) ls (.ref q :: rest))) : W p l e R s m args below meth c H locs cells slots Q (F0 m pc ls rest) := by
  obtain ⟨rfl, rfl⟩ := hk
  exact va_new hx hb hts hin ty hty hown hcl hinst hini hK hP hD hS hA hc hfs hf.1 hf.2 hdg kk
theorem z_putF {a : Nat} {ref : String} {F : u_T} {N ci : Nat} (hx : p.tables.exec = Jvm.exec) (hb : c.code = cc) (hts : ∀ w ∈ Ts, w.before args s = true) (hin : ∀ w ∈ u_ws C F N, w ∈ Ts) (ty0 : Nat → FieldType) (hty : ∀ k, k < N → parseFieldDescriptor (F k).2.2.1 = some (ty0 k)) (hnm : ∀ a, a < N → ∀ b, b < N → a ≠ b → (F a).2.1 ≠ (F b).2.1) (hown : s.vm.findClass own = some m.cls) (hK : va_K D vwCl T s) (hP : va_P D vwCl ww H) (hD : va_D A ww) (hS0 : va_S A H0 H locs) (q0 : Nat) {fs : List Value} (ww' : va_W) (he : ww[q0]? = some (a, .inr (ci, fs))) (hc : vwCl[ci]? = some (C, F, N)) (k : Nat) (hk : k < N) (hlink : (Cond.fieldLink own index ref (F k).2.1 (F k).2.2.1).before args s = true) (hsame : ∀ x, s.fieldFound? (F k).1 (F k).2.1 (F k).2.2.1 = some x → s.fieldFound? ref (F k).2.1 (F k).2.2.1 = some x) (hfin : (F k).2.2.2 = true) (hin2 : meth.name = "<init>") (hdecl : (F k).1 = own) {ty : FieldType} {v : Value} (hd : parseFieldDescriptor (F k).2.2.1 = some ty) (hn : narrow ty v = v) (hfit : fits ty v = true) (hl : k < fs.length) (hdg : decode cc pc = .ok (.putfield index, 3)) (hw : ww.set q0 (a, .inr (ci, fs.set k v)) = ww')
    (kk : ∀ (H1 : Heap) (locs1 : List Loc), va_P D vwCl ww' H1 → va_D A ww' → va_S A H0 H1 locs1 → W p l e R s m args below meth c H1 locs1 cells slots Q (F0 m (pc + 3) ls rest)) : W p l e R s m args below meth c H locs cells slots Q (F0 m pc ls (v :: .ref a :: rest)) :=
  va_putF hx hb hts hin ty0 hty hnm hown hK hP hD hS0 q0 he hc k hk hlink hsame hfin hin2 hdecl hd hn hfit hl hdg (fun H1 locs1 h1 h2 h3 => kk H1 locs1 (hw ▸ h1) (hw ▸ h2) h3)
theorem z_aast {a : Nat} {r : vw_C} {N v ci : Nat} {vs : List Value} {f : Nat → Option Nat} (hx : p.tables.exec = Jvm.exec) (hb : c.code = cc) (hK : va_K D vwCl T s) (hP : va_P D vwCl ww H) (hD : va_D A ww) (hS : va_S A H0 H locs) (q0 t0 qk : Nat) (ww' : va_W) {cA : ClassId} (ha : ww[q0]? = some (a, .inl (cA, N, .inr (.inr (.inr (.inr f)))))) (ht : T[t0]? = some (cA, .object r.1)) (hv : ww[qk]? = some (v, .inr (ci, vs))) (hc : vwCl[ci]? = some r) {i : Int} (hi : 0 ≤ i ∧ i < (N : Int)) (hN : N < 2147483648) (hdg : decode cc pc = .ok (.aastore, 1)) (hw : ww.set q0 (a, .inl (cA, N, .inr (.inr (.inr (.inr (va_up f i.toNat (some v))))))) = ww')
    (kk : ∀ (H1 : Heap) (locs1 : List Loc), va_P D vwCl ww' H1 → va_D A ww' → va_S A H0 H1 locs1 → W p l e R s m args below meth c H1 locs1 cells slots Q (F0 m (pc + 1) ls rest)) : W p l e R s m args below meth c H locs cells slots Q (F0 m pc ls (.ref v :: .int (zI i) :: .ref a :: rest)) := by
  have hcl := zI_cl (i := i) ⟨hi.1, by omega⟩
  have he : (zI i).toNatClampNeg = i.toNat := by omega
  exact va_astq hx hb hK hP hD hS q0 t0 qk ci ha ht hv hc (z_in hi hN) hdg (fun H1 locs1 h1 h2 h3 => kk H1 locs1 (by rw [he, hw] at h1; exact h1) (by rw [he, hw] at h2; exact h2) h3)
end ZIB
