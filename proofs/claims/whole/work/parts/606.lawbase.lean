/-! ===== the law: what its walk stands on ===== -/
/-- the slot that holds the state saved i calls ago -/
def sltI (la i : Int) : Int := if i ≤ la then la - i else la + 4 - i
/-- the saved states: the class's slots and the reference's rows -/
def Hst (la cn : Int) (F P : Nat → Int → Int) (N : Nat → Int) (gp : Int → Int) : Prop := ∀ i : Int, 0 ≤ i → i < cn → (∀ j : Int, 0 ≤ j → j < 491 → F (sltI la i).toNat j = gp (612 * (cn - 1 - i) + j)) ∧ OkF (fun j => gp (612 * (cn - 1 - i) + j)) ∧ Rep (fun j => gp (612 * (cn - 1 - i) + j)) (P (sltI la i).toNat) (N (sltI la i).toNat)
theorem okF_ext {f f' : Int → Int} (ok : OkF f) (e : ∀ j : Int, 0 ≤ j → j < 612 → f' j = f j) : OkF f' := by
  obtain ⟨o0, o1, o2, o3, o4, o5, o7, o8, olim, ogrd, obar, oneed, opost⟩ := ok
  refine ⟨?_, ?_, ?_, ?_, ?_, ?_, ?_, ?_, fun x a b => ?_, fun x a b => ?_, fun x a b => ?_, fun x a b => ?_, fun x a b => ?_⟩
  · rw [e 0 (by omega) (by omega)]; exact o0
  · rw [e 1 (by omega) (by omega)]; exact o1
  · rw [e 2 (by omega) (by omega)]; exact o2
  · rw [e 3 (by omega) (by omega)]; exact o3
  · rw [e 4 (by omega) (by omega)]; exact o4
  · rw [e 5 (by omega) (by omega), e 6 (by omega) (by omega)]; exact o5
  · rw [e 7 (by omega) (by omega)]; exact o7
  · rw [e 8 (by omega) (by omega)]; exact o8
  · rw [e (9 + x) (by omega) (by omega)]; exact olim x a b
  · rw [e (129 + x) (by omega) (by omega)]; exact ogrd x a b
  · rw [e (249 + x) (by omega) (by omega)]; exact obar x a b
  · rw [e (370 + x) (by omega) (by omega)]; exact oneed x a b
  · rw [e (491 + x) (by omega) (by omega)]; exact opost x a b
theorem zsm_ext {f f' : Int → Int} {o n : Int} (e : ∀ x : Int, 0 ≤ x → x < n → f' (o + x) = f (o + x)) : ∀ x : Int, 0 ≤ x → x ≤ n → zsm f' o x = zsm f o x := z_ind (by rw [zsm_0, zsm_0]) (fun x h1 h2 ih => by rw [zsm_s h1, zsm_s h1, ih, e x h1 h2])
/-- where length and posts stay -/
theorem rep_ext {f f' ps : Int → Int} {n : Int} (ok : OkF f) (r : Rep f ps n) (e0 : f' 0 = f 0) (e : ∀ x : Int, 0 ≤ x → x < 121 → f' (491 + x) = f (491 + x)) : Rep f' ps n := by
  have o0 := ok.1
  have er : ∀ y : Int, 0 ≤ y → y ≤ 121 → rank f' y = rank f y := zsm_ext e
  refine ⟨by rw [e0, er _ (by omega) (by omega)]; exact r.1, fun x h1 h2 h3 => ?_⟩
  rw [e0] at h2
  rw [er x h1 (by omega)]
  rw [e x h1 (by omega)] at h3
  exact r.2 x h1 h2 h3
theorem okF_new {f : Int → Int} (ok : OkF f) {k : Int} (h : 10 ≤ k ∧ k ≤ 120) : OkF (newl f k) := by
  obtain ⟨o0, o1, o2, o3, o4, o5, o7, o8, olim, ogrd, obar, oneed, opost⟩ := ok
  refine ⟨h, ?_, ?_, ?_, ?_, ?_, ?_, ?_, fun x a b => ?_, fun x a b => ?_, fun x a b => ?_, fun x a b => ?_, fun x a b => ?_⟩
  · rw [newl_lo (by omega)]; exact o1
  · rw [newl_lo (by omega)]; exact o2
  · rw [newl_lo (by omega)]; exact o3
  · rw [newl_lo (by omega)]; exact o4
  · rw [newl_lo (by omega), newl_lo (by omega)]; exact o5
  · rw [newl_lo (by omega)]; exact o7
  · rw [newl_lo (by omega)]; exact o8
  · rw [newl_lim (by omega)]; omega
  · rw [newl_hi (by omega)]; omega
  · exact Or.inl (newl_hi (by omega))
  · exact Or.inl (newl_hi (by omega))
  · exact Or.inl (newl_hi (by omega))
/-- where only the first nine numbers change -/
theorem okF_lo {f f' : Int → Int} (ok : OkF f) (e : ∀ j : Int, 9 ≤ j → f' j = f j) (h0 : f' 0 = f 0) (h1 : 50 ≤ f' 1 ∧ f' 1 ≤ 200) (h2 : 0 ≤ f' 2 ∧ f' 2 ≤ 100) (h3 : 1 ≤ f' 3 ∧ f' 3 ≤ 20) (h4 : 2 ≤ f' 4 ∧ f' 4 ≤ 4) (h5 : 1 ≤ f' 5 ∧ f' 5 ≤ f' 6 ∧ f' 6 ≤ 120) (h7 : 0 ≤ f' 7 ∧ f' 7 ≤ 40) (h8 : 0 ≤ f' 8 ∧ f' 8 ≤ 20) : OkF f' := by
  obtain ⟨o0, o1, o2, o3, o4, o5, o7, o8, olim, ogrd, obar, oneed, opost⟩ := ok
  refine ⟨by rw [h0]; exact o0, h1, h2, h3, h4, h5, h7, h8, fun x a b => ?_, fun x a b => ?_, fun x a b => ?_, fun x a b => ?_, fun x a b => ?_⟩
  · rw [e _ (by omega)]; exact olim x a b
  · rw [e _ (by omega)]; exact ogrd x a b
  · rw [e _ (by omega)]; exact obar x a b
  · rw [e _ (by omega)]; exact oneed x a b
  · rw [e _ (by omega)]; exact opost x a b
theorem okF_train {f : Int → Int} (ok : OkF f) {x y z : Int} (h : 50 ≤ x ∧ x ≤ 200 ∧ 0 ≤ y ∧ y ≤ 100 ∧ 1 ≤ z ∧ z ≤ 20) : OkF (zup (zup (zup f 1 x) 2 y) 3 z) := by
  obtain ⟨o0, o1, o2, o3, o4, o5, o7, o8, -⟩ := id ok
  refine okF_lo ok (fun j a => by rw [zup_ne (by omega), zup_ne (by omega), zup_ne (by omega)]) ?_ ?_ ?_ ?_ ?_ ?_ ?_ ?_
  · rw [zup_ne (by omega), zup_ne (by omega), zup_ne (by omega)]
  · rw [zup_ne (by omega), zup_ne (by omega), zup_at]; omega
  · rw [zup_ne (by omega), zup_at]; omega
  · rw [zup_at]; omega
  · rw [zup_ne (by omega), zup_ne (by omega), zup_ne (by omega)]; exact o4
  · rw [zup_ne (by omega), zup_ne (by omega), zup_ne (by omega), zup_ne (by omega), zup_ne (by omega), zup_ne (by omega)]; exact o5
  · rw [zup_ne (by omega), zup_ne (by omega), zup_ne (by omega)]; exact o7
  · rw [zup_ne (by omega), zup_ne (by omega), zup_ne (by omega)]; exact o8
theorem okF_rules {f : Int → Int} (ok : OkF f) {x y z : Int} (h : 2 ≤ x ∧ x ≤ 4 ∧ 1 ≤ y ∧ y ≤ z ∧ z ≤ 120) : OkF (zup (zup (zup f 4 x) 5 y) 6 z) := by
  obtain ⟨o0, o1, o2, o3, o4, o5, o7, o8, -⟩ := id ok
  have e5 : zup (zup (zup f 4 x) 5 y) 6 z 5 = y := by rw [zup_ne (by omega), zup_at]
  have e6 : zup (zup (zup f 4 x) 5 y) 6 z 6 = z := by rw [zup_at]
  refine okF_lo ok (fun j a => by rw [zup_ne (by omega), zup_ne (by omega), zup_ne (by omega)]) ?_ ?_ ?_ ?_ ?_ ?_ ?_ ?_
  · rw [zup_ne (by omega), zup_ne (by omega), zup_ne (by omega)]
  · rw [zup_ne (by omega), zup_ne (by omega), zup_ne (by omega)]; exact o1
  · rw [zup_ne (by omega), zup_ne (by omega), zup_ne (by omega)]; exact o2
  · rw [zup_ne (by omega), zup_ne (by omega), zup_ne (by omega)]; exact o3
  · rw [zup_ne (by omega), zup_ne (by omega), zup_at]; omega
  · rw [e5, e6]; omega
  · rw [zup_ne (by omega), zup_ne (by omega), zup_ne (by omega)]; exact o7
  · rw [zup_ne (by omega), zup_ne (by omega), zup_ne (by omega)]; exact o8
theorem okF_sight {f : Int → Int} (ok : OkF f) {x y : Int} (h : 0 ≤ x ∧ x ≤ 40 ∧ 0 ≤ y ∧ y ≤ 20) : OkF (zup (zup f 7 x) 8 y) := by
  obtain ⟨o0, o1, o2, o3, o4, o5, o7, o8, -⟩ := id ok
  refine okF_lo ok (fun j a => by rw [zup_ne (by omega), zup_ne (by omega)]) ?_ ?_ ?_ ?_ ?_ ?_ ?_ ?_
  · rw [zup_ne (by omega), zup_ne (by omega)]
  · rw [zup_ne (by omega), zup_ne (by omega)]; exact o1
  · rw [zup_ne (by omega), zup_ne (by omega)]; exact o2
  · rw [zup_ne (by omega), zup_ne (by omega)]; exact o3
  · rw [zup_ne (by omega), zup_ne (by omega)]; exact o4
  · rw [zup_ne (by omega), zup_ne (by omega), zup_ne (by omega), zup_ne (by omega)]; exact o5
  · rw [zup_ne (by omega), zup_at]; omega
  · rw [zup_at]; omega
theorem okF_00 : OkF f00 := by
  unfold f00
  refine ⟨by decide, by decide, by decide, by decide, by decide, by decide, by decide, by decide, fun x a b => ?_, fun x a b => ?_, fun x a b => ?_, fun x a b => ?_, fun x a b => ?_⟩
  · rw [newl_lim (by omega)]; omega
  · rw [newl_hi (by omega)]; omega
  · exact Or.inl (newl_hi (by omega))
  · exact Or.inl (newl_hi (by omega))
  · exact Or.inl (newl_hi (by omega))
theorem rep_00 : Rep f00 (fun _ => 0) 0 := rep_none okF_00 (fun x a b => newl_hi (by omega))
theorem upS_at {α : Type} (F : Nat → α) {j : Int} (v : α) (h : 0 ≤ j) : upS F j v j.toNat = v := if_pos (by omega)
theorem upS_ne {α : Type} (F : Nat → α) {j : Int} (v : α) {k : Nat} (h : (k : Int) ≠ j) : upS F j v k = F k := if_neg h
theorem hst_push {f ps : Int → Int} {n la cn : Int} {F P : Nat → Int → Int} {N : Nat → Int} {gp : Int → Int} (ok : OkF f) (rep : Rep f ps n) (hla : 0 ≤ la ∧ la < 4) (hcn : 0 ≤ cn ∧ cn ≤ 4) (hh : Hst la cn F P N gp) : Hst (nxS la) (cnS cn) (upS F (nxS la) f) (upS P (nxS la) ps) (upS N (nxS la) n) (kpF gp f cn) := by
  intro i h1 h2
  have hnx : 0 ≤ nxS la ∧ nxS la < 4 ∧ (nxS la = la + 1 ∨ (la = 3 ∧ nxS la = 0)) := by unfold nxS; split <;> omega
  have hcs : (cn < 4 ∧ cnS cn = cn + 1) ∨ (cn = 4 ∧ cnS cn = 4) := by unfold cnS; split <;> omega
  by_cases hi : i = 0
  · subst hi
    have hs : sltI (nxS la) 0 = nxS la := by unfold sltI; rw [if_pos hnx.1]; omega
    rw [hs, upS_at _ _ hnx.1, upS_at _ _ hnx.1, upS_at _ _ hnx.1]
    have e : ∀ j : Int, 0 ≤ j → j < 612 → kpF gp f cn (612 * (cnS cn - 1 - 0) + j) = f j := fun j a b => by
      unfold kpF
      rcases hcs with ⟨c1, c2⟩ | ⟨c1, c2⟩
      · rw [if_neg (by omega), if_pos (by omega), c2]; congr 1; omega
      · rw [if_pos c1, if_neg (by omega), c2]; congr 1; omega
    exact ⟨fun j a b => (e j a (by omega)).symm, okF_ext ok e, rep_ext ok rep (e 0 (by omega) (by omega)) (fun x a b => e _ (by omega) (by omega))⟩
  · have hs : sltI (nxS la) i = sltI la (i - 1) ∧ 0 ≤ sltI la (i - 1) ∧ sltI la (i - 1) ≠ nxS la := by
      unfold sltI
      split <;> split <;> omega
    obtain ⟨g1, g2, g3⟩ := hh (i - 1) (by omega) (by omega)
    have e : ∀ j : Int, 0 ≤ j → j < 612 → kpF gp f cn (612 * (cnS cn - 1 - i) + j) = gp (612 * (cn - 1 - (i - 1)) + j) := fun j a b => by
      unfold kpF
      rcases hcs with ⟨c1, c2⟩ | ⟨c1, c2⟩
      · rw [if_neg (by omega), if_neg (by omega), c2]; congr 1; omega
      · rw [if_pos c1, if_pos (by omega), c2]; congr 1; omega
    rw [hs.1, upS_ne _ _ (by omega), upS_ne _ _ (by omega), upS_ne _ _ (by omega)]
    exact ⟨fun j a b => (g1 j a b).trans (e j a (by omega)).symm, okF_ext g2 e, rep_ext g2 g3 (e 0 (by omega) (by omega)) (fun x a b => e _ (by omega) (by omega))⟩
theorem hst_undo {la cn : Int} {F P : Nat → Int → Int} {N : Nat → Int} {gp : Int → Int} (hla : 0 ≤ la ∧ la < 4) (hcn : 0 ≤ cn ∧ cn ≤ 4) (hh : Hst la cn F P N gp) : Hst (pvS la) (cn - 1) F P N gp := by
  intro i h1 h2
  have hs : sltI (pvS la) i = sltI la (i + 1) := by unfold sltI pvS; split <;> split <;> split <;> omega
  have g := hh (i + 1) (by omega) (by omega)
  rw [show cn - 1 - (i + 1) = cn - 1 - 1 - i by omega] at g
  rw [hs]
  exact g
theorem hst_top {la cn : Int} {F P : Nat → Int → Int} {N : Nat → Int} {gp : Int → Int} (hla : 0 ≤ la ∧ la < 4) (hY : 0 < cn) (hh : Hst la cn F P N gp) : (∀ j : Int, 0 ≤ j → j < 491 → gp (612 * (cn - 1) + j) = F la.toNat j) ∧ OkF (fun j => gp (612 * (cn - 1) + j)) ∧ Rep (fun j => gp (612 * (cn - 1) + j)) (P la.toNat) (N la.toNat) := by
  have g := hh 0 (by omega) hY
  have hs : sltI la 0 = la := by unfold sltI; rw [if_pos hla.1]; omega
  rw [hs, show cn - 1 - 0 = cn - 1 by omega] at g
  exact ⟨fun j a b => (g.1 j a b).symm, g.2⟩
theorem nxS_b {la : Int} (h : 0 ≤ la ∧ la < 4) : 0 ≤ nxS la ∧ nxS la < 4 := by unfold nxS; split <;> omega
theorem pvS_b {la : Int} (h : 0 ≤ la ∧ la < 4) : 0 ≤ pvS la ∧ pvS la < 4 := by unfold pvS; split <;> omega
theorem cnS_b {cn : Int} (h : 0 ≤ cn ∧ cn ≤ 4) : 0 ≤ cnS cn ∧ cnS cn ≤ 4 := by unfold cnS; split <;> omega
theorem zeq_lcmp {v : Int64} : lg_cmp v v = zI 0 := by unfold lg_cmp; rw [if_neg (fun h => absurd (Int64.lt_iff_toInt_lt.mp (show v < v from h)) (by omega)), if_pos rfl]; rfl
section ZLW
variable {p : Program} {l : Launch} {e : Env} {R : Room} {s : State} {m : MethodId} {args : Array Value} {below : List Frame} {meth : Method} {c : Code} {H : Heap} {locs : List Loc} {cells slots : Nat} {Q : State → Prop}
  {Ts ws ws' : List Cond} {cc bytes : ByteArray} {nL maxL index n pc : Nat} {own C : String} {y : MethodName} {ret : Option FieldType} {rm : Room} {b : Addr} {As rest st0 av : List Value} {ls : Array Slot}
  {D : va_G} {T : List (ClassId × FieldType)} {W0 Wc : va_W} {A : Nat → Prop} {H0 : Heap} {hh : List (Nat × Nat × Nat × Nat)}
theorem z_sld {b0 L : Nat} {xv : Nat → Int} {i v : Int} (hx : p.tables.exec = Jvm.exec) (hb : c.code = cc) (hX : va_X b0 L (fun j => zI (xv j)) s H0) (hbl : b0 < H0.size) (hbA : ¬ A b0) (hS : va_S A H0 H locs) (hi : 0 ≤ i ∧ i < (L : Int)) (hL : L < 2147483648) (hv : xv i.toNat = v) (hdg : decode cc pc = .ok (.iaload, 1))
    (kk : W p l e R s m args below meth c H locs cells slots Q (F0 m (pc + 1) ls (.int (zI v) :: rest))) : W p l e R s m args below meth c H locs cells slots Q (F0 m pc ls (.int (zI i) :: .ref b0 :: rest)) := by
  have hcl := zI_cl (i := i) ⟨hi.1, by omega⟩
  have h1 : (zI i).toNatClampNeg = i.toNat := by omega
  have h2 : xv (zI i).toNatClampNeg = v := by rw [h1]; exact hv
  refine va_sld hx hb hX hbl hbA hS (z_in hi hL) hdg ?_
  show W p l e R s m args below meth c H locs cells slots Q (F0 m (pc + 1) ls (.int (zI (xv (zI i).toNatClampNeg)) :: rest))
  rw [h2]
  exact kk
theorem z_slen {b0 L : Nat} {xs : Nat → Int32} (hx : p.tables.exec = Jvm.exec) (hb : c.code = cc) (hX : va_X b0 L xs s H0) (hbl : b0 < H0.size) (hbA : ¬ A b0) (hS : va_S A H0 H locs) (hdg : decode cc pc = .ok (.arraylength, 1))
    (kk : W p l e R s m args below meth c H locs cells slots Q (F0 m (pc + 1) ls (.int (zI (L : Int)) :: rest))) : W p l e R s m args below meth c H locs cells slots Q (F0 m pc ls (.ref b0 :: rest)) := by
  refine va_slen hx hb hX hbl hbA hS hdg ?_
  rw [show Int32.ofNat L = zI (L : Int) from Int32.ofInt_eq_ofNat.symm]
  exact kk
theorem z_lcmpR {v : Int64} (hx : p.tables.exec = Jvm.exec) (hb : c.code = cc) (hdg : decode cc pc = .ok (.lcmp, 1)) (k : W p l e R s m args below meth c H locs cells slots Q (F0 m (pc + 1) ls (.int (zI 0) :: rest))) : W p l e R s m args below meth c H locs cells slots Q (F0 m pc ls (.long v :: .long v :: rest)) := W.lcmp hx hb hdg (by rw [zeq_lcmp]; exact k)
theorem z_icmpR {v : Int32} {off : Int} (tgt : Nat) (hx : p.tables.exec = Jvm.exec) (hb : c.code = cc) (hdg : decode cc pc = .ok (.if_icmp .eq off, 3)) (ht : (pc : Int) + off = (tgt : Int)) (k : W p l e R s m args below meth c H locs cells slots Q (F0 m tgt ls rest)) : W p l e R s m args below meth c H locs cells slots Q (F0 m pc ls (.int v :: .int v :: rest)) := lv_icmp_eq hx hb hdg ht (fun _ => k) (fun h => absurd rfl h)
/-- a static call of a method that catches -/
theorem y_wSi {S : Type} {post : Int32 → S → Prop} {W1 : S → va_W} (wN : S → va_W) (hx : p.tables.exec = Jvm.exec) (hb : c.code = cc) (hml : c.maxLocals = nL) (hown : s.vm.findClass own = some m.cls) (hts : ∀ w ∈ Ts, w.before args s = true) (hsz : ls.size = nL) (hf : cells ≤ R.cells ∧ slots ≤ R.slots)
    (hM : Met l y ws rm (zPc D T As Wc) (va_Qi post (fun u t => va_P D vwCl (W1 u) t.heap) (zAd Wc)) 0 0 (zAd Wc)) (cw : vx_CSW R s args own index y bytes maxL ret hh ws rm 0 0 n) (hK : va_K D vwCl T s) (bs : List Bool) (hP : va_P D vwCl W0 H) (hD : va_D A W0) (hS : va_S A H0 H locs) (hC : zpk bs W0 = Wc) (hlen : ∀ u, (W1 u).length = (zpk bs W0).length) (hN : ∀ u, zmg bs W0 (W1 u) = wN u)
    (hn : As.length = n) (hst : st0 = As.reverse ++ rest) (hW : (rest.map fun v => v.category).sum ≤ 8) (hdg : decode cc pc = .ok (.invokestatic index, 3))
    (kk : ∀ (r : Int32) (u : S) (H1 : Heap) (locs1 : List Loc), post r u → va_P D vwCl (wN u) H1 → va_S A H0 H1 locs1 → W p l e R s m args below meth c H1 locs1 cells slots Q (F0 m (pc + 3) ls (.int r :: rest))) : W p l e R s m args below meth c H locs cells slots Q (F0 m pc ls st0) := by
  have hPc := ysub bs hP hC
  have hDc := ysubD bs hD hC
  have hin := yAd bs hD hC
  exact va_calli (vx_runSW ⟨hx, hb, hml, hown, hts⟩ hM cw (z_preS hK hPc hDc) rfl hn hsz hst (lv_room hW) hdg hf) hS (fun q _ h => hin q h) hin (fun r u t H1 locs1 ht hvm hp hB hz hk hS1 => kk r u H1 locs1 hp (y_wBack hP hD bs hC hlen hN (by rw [← ht]; exact hB) hk) hS1)
/-- the same, where the exception is made -/
theorem y_wSx {S : Type} {post : Int32 → S → Prop} {W1 : S → va_W} (wN : S → va_W) (hx : p.tables.exec = Jvm.exec) (hb : c.code = cc) (hml : c.maxLocals = nL) (hown : s.vm.findClass own = some m.cls) (hts : ∀ w ∈ Ts, w.before args s = true) (hsz : ls.size = nL) (hf : cells + 1 ≤ R.cells ∧ slots + 6 ≤ R.slots)
    (hM : Met l y ws rm (zPx D T As Wc) (va_Qi post (fun u t => va_P D vwCl (W1 u) t.heap) (zAd Wc)) 1 6 (zAd Wc)) (cw : vx_CSW R s args own index y bytes maxL ret hh ws rm 1 6 n) (hK : va_K D vwCl T s) (bs : List Bool) (hP : va_P D vwCl W0 H) (hD : va_D A W0) (hS : va_S A H0 H locs) (hZ : xKs A s H0) (hT : xTx s) (hC : zpk bs W0 = Wc) (hlen : ∀ u, (W1 u).length = (zpk bs W0).length) (hN : ∀ u, zmg bs W0 (W1 u) = wN u)
    (hn : As.length = n) (hst : st0 = As.reverse ++ rest) (hW : (rest.map fun v => v.category).sum ≤ 8) (hdg : decode cc pc = .ok (.invokestatic index, 3))
    (kk : ∀ (r : Int32) (u : S) (H1 : Heap) (locs1 : List Loc), post r u → va_P D vwCl (wN u) H1 → va_S A H0 H1 locs1 → W p l e R s m args below meth c H1 locs1 (cells + 1) (slots + 6) Q (F0 m (pc + 3) ls (.int r :: rest))) : W p l e R s m args below meth c H locs cells slots Q (F0 m pc ls st0) := by
  have hPc := ysub bs hP hC
  have hDc := ysubD bs hD hC
  have hin := yAd bs hD hC
  exact va_calli (vx_runSW ⟨hx, hb, hml, hown, hts⟩ hM cw (x_preS hK hPc hDc (hZ.kept hS.2.1) hT) rfl hn hsz hst (lv_room hW) hdg hf) hS (fun q _ h => hin q h) hin (fun r u t H1 locs1 ht hvm hp hB hz hk hS1 => kk r u H1 locs1 hp (y_wBack hP hD bs hC hlen hN (by rw [← ht]; exact hB) hk) hS1)
end ZLW

/-- all cells: SignalSpacing's, the reference's, the answer's row -/
abbrev LW (cI cJ cS : ClassId) (ss h0 p0 s0 l0 h1 m0 oa : Nat) (b r w o a : Nat → Nat) (bs : Nat → Nat → Nat) (f : Int → Int) (ps : Int → Int) (n : Int) (F : Nat → Int → Int) (P : Nat → Int → Int) (N : Nat → Int) (la : Int) (cn : Int) (fr : Int) (ge : Int → Int) (gv : Int → Int) (gd : Int → Int) (gt : Int → Int) (sc : Int) (gf : Int → Int) (op : Int → Int) (tb : Int → Int) (sb : Int → Int) (fm : Int → Int) (km : Int) (th : Int) (hs : Int) (gp : Int → Int) (e2 : Int → Int) (v2 : Int → Int) (d2 : Int → Int) (t2 : Int → Int) (r2 : Int → Int) (f2 : Int → Int) (w2 : Int → Int) (go : Int → Int) : va_W := ((ss, .inr (6, [.ref (b 0), .ref h0, .ref p0, .ref s0, .ref l0])) :: (h0, .inr (0, [.ref h1, .int (zI (la)), .int (zI (cn))])) :: (h1, .inl (cS, 4, .inr (.inr (.inr (.inr (fun k => some (bs k 0))))))) :: (bs 0 0, .inr (4, [.ref (bs 0 1), .ref (bs 0 2), .ref (bs 0 3), .ref (bs 0 4), .ref (bs 0 5), .int (zI (N 0)), .int (zI ((F 0) 0)), .int (zI ((F 0) 1)), .int (zI ((F 0) 2)), .int (zI ((F 0) 3)), .int (zI ((F 0) 4)), .int (zI ((F 0) 5)), .int (zI ((F 0) 6)), .int (zI ((F 0) 7)), .int (zI ((F 0) 8))])) :: (bs 0 1, .inr (3, [.ref (bs 0 6)])) :: (bs 0 2, .inr (3, [.ref (bs 0 7)])) :: (bs 0 3, .inr (3, [.ref (bs 0 8)])) :: (bs 0 4, .inr (3, [.ref (bs 0 9)])) :: (bs 0 5, .inr (3, [.ref (bs 0 10)])) :: (bs 0 6, .inl (cI, 120, .inl (zA (fun xx => (F 0) (9 + xx))))) :: (bs 0 7, .inl (cI, 120, .inl (zA (fun xx => (F 0) (129 + xx))))) :: (bs 0 8, .inl (cI, 121, .inl (zA (fun xx => (F 0) (249 + xx))))) :: (bs 0 9, .inl (cI, 121, .inl (zA (fun xx => (F 0) (370 + xx))))) :: (bs 0 10, .inl (cI, 121, .inl (zA (P 0)))) :: (bs 1 0, .inr (4, [.ref (bs 1 1), .ref (bs 1 2), .ref (bs 1 3), .ref (bs 1 4), .ref (bs 1 5), .int (zI (N 1)), .int (zI ((F 1) 0)), .int (zI ((F 1) 1)), .int (zI ((F 1) 2)), .int (zI ((F 1) 3)), .int (zI ((F 1) 4)), .int (zI ((F 1) 5)), .int (zI ((F 1) 6)), .int (zI ((F 1) 7)), .int (zI ((F 1) 8))])) :: (bs 1 1, .inr (3, [.ref (bs 1 6)])) :: (bs 1 2, .inr (3, [.ref (bs 1 7)])) :: (bs 1 3, .inr (3, [.ref (bs 1 8)])) :: (bs 1 4, .inr (3, [.ref (bs 1 9)])) :: (bs 1 5, .inr (3, [.ref (bs 1 10)])) :: (bs 1 6, .inl (cI, 120, .inl (zA (fun xx => (F 1) (9 + xx))))) :: (bs 1 7, .inl (cI, 120, .inl (zA (fun xx => (F 1) (129 + xx))))) :: (bs 1 8, .inl (cI, 121, .inl (zA (fun xx => (F 1) (249 + xx))))) :: (bs 1 9, .inl (cI, 121, .inl (zA (fun xx => (F 1) (370 + xx))))) :: (bs 1 10, .inl (cI, 121, .inl (zA (P 1)))) :: (bs 2 0, .inr (4, [.ref (bs 2 1), .ref (bs 2 2), .ref (bs 2 3), .ref (bs 2 4), .ref (bs 2 5), .int (zI (N 2)), .int (zI ((F 2) 0)), .int (zI ((F 2) 1)), .int (zI ((F 2) 2)), .int (zI ((F 2) 3)), .int (zI ((F 2) 4)), .int (zI ((F 2) 5)), .int (zI ((F 2) 6)), .int (zI ((F 2) 7)), .int (zI ((F 2) 8))])) :: (bs 2 1, .inr (3, [.ref (bs 2 6)])) :: (bs 2 2, .inr (3, [.ref (bs 2 7)])) :: (bs 2 3, .inr (3, [.ref (bs 2 8)])) :: (bs 2 4, .inr (3, [.ref (bs 2 9)])) :: (bs 2 5, .inr (3, [.ref (bs 2 10)])) :: (bs 2 6, .inl (cI, 120, .inl (zA (fun xx => (F 2) (9 + xx))))) :: (bs 2 7, .inl (cI, 120, .inl (zA (fun xx => (F 2) (129 + xx))))) :: (bs 2 8, .inl (cI, 121, .inl (zA (fun xx => (F 2) (249 + xx))))) :: (bs 2 9, .inl (cI, 121, .inl (zA (fun xx => (F 2) (370 + xx))))) :: (bs 2 10, .inl (cI, 121, .inl (zA (P 2)))) :: (bs 3 0, .inr (4, [.ref (bs 3 1), .ref (bs 3 2), .ref (bs 3 3), .ref (bs 3 4), .ref (bs 3 5), .int (zI (N 3)), .int (zI ((F 3) 0)), .int (zI ((F 3) 1)), .int (zI ((F 3) 2)), .int (zI ((F 3) 3)), .int (zI ((F 3) 4)), .int (zI ((F 3) 5)), .int (zI ((F 3) 6)), .int (zI ((F 3) 7)), .int (zI ((F 3) 8))])) :: (bs 3 1, .inr (3, [.ref (bs 3 6)])) :: (bs 3 2, .inr (3, [.ref (bs 3 7)])) :: (bs 3 3, .inr (3, [.ref (bs 3 8)])) :: (bs 3 4, .inr (3, [.ref (bs 3 9)])) :: (bs 3 5, .inr (3, [.ref (bs 3 10)])) :: (bs 3 6, .inl (cI, 120, .inl (zA (fun xx => (F 3) (9 + xx))))) :: (bs 3 7, .inl (cI, 120, .inl (zA (fun xx => (F 3) (129 + xx))))) :: (bs 3 8, .inl (cI, 121, .inl (zA (fun xx => (F 3) (249 + xx))))) :: (bs 3 9, .inl (cI, 121, .inl (zA (fun xx => (F 3) (370 + xx))))) :: (bs 3 10, .inl (cI, 121, .inl (zA (P 3)))) :: (s0, .inr (5, [.ref (b 0), .ref p0, .ref (w 0), .int (zI (sc))])) :: (w 0, .inr (3, [.ref (w 1)])) :: (w 1, .inl (cI, 363, .inl (zA gf))) :: (l0, .inr (1, [.ref (b 0), .ref p0, .ref (o 0), .ref (o 1), .ref (o 2)])) :: (o 0, .inr (3, [.ref (o 3)])) :: (o 3, .inl (cI, 121, .inl (zA op))) :: (o 1, .inr (3, [.ref (o 4)])) :: (o 4, .inl (cI, 14520, .inl (zA tb))) :: (o 2, .inr (3, [.ref (o 5)])) :: (o 5, .inl (cI, 121, .inl (zA sb))) :: (p0, .inr (2, [.ref (b 0), .ref (r 0), .ref (r 1), .ref (r 2), .ref (r 3), .int (zI (fr))])) :: (r 0, .inr (3, [.ref (r 4)])) :: (r 4, .inl (cI, 121, .inl (zA ge))) :: (r 1, .inr (3, [.ref (r 5)])) :: (r 5, .inl (cI, 121, .inl (zA gv))) :: (r 2, .inr (3, [.ref (r 6)])) :: (r 6, .inl (cI, 121, .inl (zA gd))) :: (r 3, .inr (3, [.ref (r 7)])) :: (r 7, .inl (cI, 121, .inl (zA gt))) :: (b 0, .inr (4, [.ref (b 1), .ref (b 2), .ref (b 3), .ref (b 4), .ref (b 5), .int (zI (n)), .int (zI (f 0)), .int (zI (f 1)), .int (zI (f 2)), .int (zI (f 3)), .int (zI (f 4)), .int (zI (f 5)), .int (zI (f 6)), .int (zI (f 7)), .int (zI (f 8))])) :: (b 1, .inr (3, [.ref (b 6)])) :: (b 2, .inr (3, [.ref (b 7)])) :: (b 3, .inr (3, [.ref (b 8)])) :: (b 4, .inr (3, [.ref (b 9)])) :: (b 5, .inr (3, [.ref (b 10)])) :: (b 6, .inl (cI, 120, .inl (zA (fun xx => f (9 + xx))))) :: (b 7, .inl (cI, 120, .inl (zA (fun xx => f (129 + xx))))) :: (b 8, .inl (cI, 121, .inl (zA (fun xx => f (249 + xx))))) :: (b 9, .inl (cI, 121, .inl (zA (fun xx => f (370 + xx))))) :: (b 10, .inl (cI, 121, .inl (zA ps))) :: (m0, .inr (7, [.ref (a 0), .ref (a 1), .int (zI (km)), .int (zI (th)), .ref (a 2), .ref (a 3), .ref (a 4), .ref (a 5), .ref (a 6), .ref (a 7), .ref (a 8), .long (zL (hs))])) :: (a 0, .inl (cI, 612, .inl (zA fm))) :: (a 1, .inl (cI, 2448, .inl (zA gp))) :: (a 2, .inl (cJ, 121, .inr (.inl (zAL e2)))) :: (a 3, .inl (cI, 121, .inl (zA v2))) :: (a 4, .inl (cI, 121, .inl (zA d2))) :: (a 5, .inl (cI, 121, .inl (zA t2))) :: (a 6, .inl (cI, 121, .inl (zA r2))) :: (a 7, .inl (cI, 605, .inl (zA f2))) :: (a 8, .inl (cI, 14762, .inl (zA w2))) :: (oa, .inl (cJ, 1, .inr (.inl (zAL go)))) :: [])
/-- what holds between two calls -/
def LInv (D : va_G) (cI cJ cS : ClassId) (ss h0 p0 s0 l0 h1 m0 oa : Nat) (b r w o a : Nat → Nat) (bs : Nat → Nat → Nat) (H : Heap) : Prop := ∃ (f : Int → Int) (ps : Int → Int) (n : Int) (F : Nat → Int → Int) (P : Nat → Int → Int) (N : Nat → Int) (la : Int) (cn : Int) (fr : Int) (ge : Int → Int) (gv : Int → Int) (gd : Int → Int) (gt : Int → Int) (sc : Int) (gf : Int → Int) (op : Int → Int) (tb : Int → Int) (sb : Int → Int) (th : Int) (hs : Int) (gp : Int → Int) (e2 : Int → Int) (v2 : Int → Int) (d2 : Int → Int) (t2 : Int → Int) (r2 : Int → Int) (f2 : Int → Int) (w2 : Int → Int) (go : Int → Int), (OkF f) ∧ (Rep f ps n) ∧ (0 ≤ la ∧ la < 4) ∧ (0 ≤ cn ∧ cn ≤ 4) ∧ (fr = 0 ∨ fr = 1) ∧ (fr = 1 → PrOk f ge gv gd gt) ∧ (∀ x : Int, 0 ≤ x → x < 14520 → 0 ≤ tb x ∧ tb x ≤ 1000) ∧ (Hst la cn F P N gp) ∧ va_P D vwCl (LW cI cJ cS ss h0 p0 s0 l0 h1 m0 oa b r w o a bs f ps n F P N la cn fr ge gv gd gt sc gf op tb sb f cn th hs gp e2 v2 d2 t2 r2 f2 w2 go) H
