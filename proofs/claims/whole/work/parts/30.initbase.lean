/-! ===== constructors: what they stand on ===== -/
def zPi (D : va_G) (T : List (ClassId × FieldType)) (av : List Value) (ws : va_W) (sz : Nat) : Array Value → State → Prop := fun v U => v = av.toArray ∧ U.heap.size = sz ∧ va_P D vwCl ws U.heap ∧ va_K D vwCl T U ∧ va_D (fun _ => True) ws
theorem zPi_blind {D : va_G} {T : List (ClassId × FieldType)} {av : List Value} {ws : va_W} {sz : Nat} : FrameBlind (zPi D T av ws sz) := fun a U g mk q => ⟨q.1, q.2.1, q.2.2.1, va_K.moved (u := U) (U := U.calling g mk a) (Vm.Alike.refl U.vm) q.2.2.2.1, q.2.2.2.2⟩
section ZIB
variable {p : Program} {l : Launch} {e : Env} {R : Room} {s : State} {m : MethodId} {args : Array Value} {below : List Frame} {meth : Method} {c : Code} {H : Heap} {locs : List Loc} {cells slots : Nat} {Q : State → Prop}
  {Ts ws ws' : List Cond} {cc bytes : ByteArray} {nL maxL index n pc : Nat} {own C : String} {y : MethodName} {ret : Option FieldType} {rm : Room} {b : Addr} {As rest st0 av : List Value} {ls : Array Slot}
  {D : va_G} {T : List (ClassId × FieldType)} {W0 Wc : va_W} {A : Nat → Prop} {H0 : Heap}
theorem zI_of {S : Type} {post : S → Prop} {W1 : S → va_W} {sz mc ms : Nat} (hy : plainName y.cls = true) (hw : ws = Cond.code y cc maxL ret :: ws') (hav : (lg_sl av).length ≤ maxL) (hret : ret = none) (hyn : y.name = "<init>")
    (body : ∀ (p : Program) (e : Env) (s : State) (m : MethodId) (args : Array Value) (below : List Frame) (meth : Method) (c : Code) (Q : State → Prop) (A : Nat → Prop) (ls : Array Slot), p.tables.exec = Jvm.exec → c.code = cc → c.maxLocals = maxL → (∀ w ∈ ws, w.before args s = true) → s.vm.findClass y.cls = some m.cls → va_K D vwCl T s → va_P D vwCl W0 s.heap → va_D A W0 → va_S A s.heap s.heap [] → lv_has ls maxL (lv_args 0 av) → (∀ q : Nat, s.heap.size ≤ q → A q) → meth.name = "<init>" →
      (∀ {H : Heap} {locs : List Loc} {pc : Nat} {ls1 : Array Slot} (u : S), post u → va_P D vwCl (W1 u) H → va_D A (W1 u) → va_S A s.heap H locs → decode cc pc = .ok (.return_, 1) → W p l e rm s m args below meth c H locs mc ms Q (F0 m pc ls1 [])) → W p l e rm s m args below meth c s.heap [] 0 0 Q (F0 m 0 ls [])) :
    Met l y ws rm (zPi D T av W0 sz) (va_Qv post (fun u t => va_P D vwCl (W1 u) t.heap ∧ va_D (va_A W0 sz) (W1 u)) (va_A W0 sz)) mc ms (va_A W0 sz) := by
  refine Met.ofW (cc := cc) (maxL := maxL) (ret := ret) hy hw ?_
  intro p e s m args below meth c s₁ B hml hv
  obtain ⟨rfl, rfl, hP, hK, hD⟩ := hv
  have hr := B.returns
  have hlocks := B.notSynchronized
  have hin : meth.name = "<init>" := (name_of_methodNamed B.named B.method).1.trans hyn
  rw [lg_entry_eq]
  refine body p e s m _ below meth c _ (va_A W0 s.heap.size) _ B.exec B.bytes hml (atoms_spec (ws := ws) B.pre) (findClass_of_methodNamed B.named) hK hP hD.self va_S.rf (lv_entry av hav) (fun q h => Or.inr h) hin (fun u h1 h2 h3 hS hdg => ?_)
  exact W.vret B.exec B.bytes (hr.trans hret) (fun t ht hW => ⟨⟨u, rfl, h1, by show va_P D vwCl (W1 u) t.heap ∧ _; rw [ht]; exact ⟨h2, h3⟩⟩, hS.F ht⟩) hS.2.2 hdg
/-- a fresh object's constructor, the object being the last cell -/
theorem z_callI {S : Type} {post : S → Prop} {W1 : S → va_W} {o : va_E} {ww : va_W} {mc ms k : Nat} (hx : p.tables.exec = Jvm.exec) (hb : c.code = cc) (hml : c.maxLocals = nL) (hown : s.vm.findClass own = some m.cls) (hts : ∀ w ∈ Ts, w.before args s = true) (hsz : ls.size = nL) (hf : cells + mc ≤ R.cells ∧ slots + ms ≤ R.slots)
    (hM : ∀ sz : Nat, Met l y ws rm (zPi D T (.ref b :: As) [(b, o)] sz) (va_Qv post (fun u t => va_P D vwCl (W1 u) t.heap ∧ va_D (va_A [(b, o)] sz) (W1 u)) (va_A [(b, o)] sz)) mc ms (va_A [(b, o)] sz)) (cw : CallB R s args own index y bytes maxL none ws rm mc ms n ∧ y.name = "<init>" ∧ (Cond.instanceMethod y).before args s = true) (hK : va_K D vwCl T s) (hP : va_P D vwCl (ww ++ [(b, o)]) H) (hD : va_D A (ww ++ [(b, o)])) (hS : va_S A H0 H locs) (hA : ∀ q : Nat, H0.size ≤ q → A q)
    (hn : As.length = n) (hst : st0 = As.reverse ++ .ref b :: rest) (hW : (rest.map fun v => v.category).sum ≤ 8) (hdg : decode cc pc = .ok (.invokespecial index, 3))
    (kk : ∀ (u : S) (H1 : Heap) (locs1 : List Loc), post u → va_P D vwCl (ww ++ W1 u) H1 → va_D A (ww ++ W1 u) → va_S A H0 H1 locs1 → W p l e R s m args below meth c H1 locs1 (cells + mc) (slots + ms) Q (F0 m (pc + 3) ls rest)) : W p l e R s m args below meth c H locs cells slots Q (F0 m pc ls st0) := by
  have hg1 : ∀ (i : Nat) (q : Nat × va_E), ww[i]? = some q → (ww ++ [(b, o)])[i]? = some q := fun i q h => by rw [List.getElem?_append_left (List.getElem?_eq_some_iff.mp h).1]; exact h
  have hlast : (ww ++ [(b, o)])[ww.length]? = some (b, o) := by rw [List.getElem?_append_right (Nat.le_refl _), Nat.sub_self]; rfl
  have hPc : va_P D vwCl [(b, o)] H := fun k q h => by
    cases k with
    | zero => cases h; exact hP _ _ hlast
    | succ k => simp at h
  have hDc : va_D A [(b, o)] := ⟨fun i j p q h1 h2 _ => by
    have a1 := (List.getElem?_eq_some_iff.mp h1).1
    have a2 := (List.getElem?_eq_some_iff.mp h2).1
    simp at a1 a2; omega, fun k q h => by
    cases k with
    | zero => cases h; exact hD.2 _ _ hlast
    | succ k => simp at h⟩
  have hfree : ∀ q, va_A [(b, o)] H.size q → A q := fun q h => by
    rcases h with ⟨k, e9, h⟩ | h
    · exact hDc.2 k _ h
    · exact hA q (Nat.le_trans hS.1 h)
  refine va_callv (va_runI (As := As) (rest := rest) ⟨hx, hb, hml, hown, hts⟩ (hM H.size) cw ⟨zPi_blind, fun U hU hW => ⟨rfl, by rw [hU], by rw [hU]; exact hPc, va_K.moved hW.alike hK, hDc.weaken (fun _ _ _ _ => trivial)⟩⟩ rfl hn hsz hst (lv_room hW) hdg hf) hS (fun q _ h => hfree q h) hfree (fun u t H1 locs1 ht hvm hp hB hz hk hS1 => ?_)
  obtain ⟨hP1, hD1⟩ := hB
  rw [ht] at hP1
  have hapart : ∀ (i : Nat) (q : Nat × va_E), ww[i]? = some q → q.1 < H.size ∧ ¬ va_A [(b, o)] H.size q.1 := fun i q h => by
    have h1 := hg1 i q h
    have hlt := (hP i q h1).lt
    refine ⟨hlt, fun hv => ?_⟩
    rcases hv with ⟨k, e9, hv⟩ | hv
    · cases k with
      | zero =>
        cases hv
        have := hD.1 i ww.length q (b, o) h1 hlast rfl
        have := (List.getElem?_eq_some_iff.mp h).1
        omega
      | succ k => simp at hv
    · omega
  have hPw : va_P D vwCl ww H := fun i q h => hP i q (hg1 i q h)
  have hDw : va_D A ww := ⟨fun i j p q h1 h2 h3 => hD.1 i j p q (hg1 i p h1) (hg1 j q h2) h3, fun k q h => hD.2 k q (hg1 k q h)⟩
  refine kk u H1 locs1 hp ((hPw.kept (fun i q h => hk q.1 (hapart i q h).1 (hapart i q h).2)).app hP1) (hDw.app (hD1.weaken (fun k q _ h => hfree q.1 h)) (fun i j p q h1 h2 h3 => (hapart i p h1).2 (h3 ▸ hD1.2 j q h2))) hS1
end ZIB
