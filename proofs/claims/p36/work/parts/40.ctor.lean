/-! constructors: a world that grows -/
theorem z_arr {ty : FieldType} {args : Array Value} {s : State} (h : (Cond.arrayClass ty).before args s = true) : ∃ cA : ClassId, ArrOfT s cA ty ∧ s.vm.findClass ("[" ++ ty.toString) = some cA := by
  obtain ⟨c, k, comp, h1, h2, h3⟩ := Cond.arrayClass_spec h
  exact ⟨c, fun n z => ⟨fun k h => (by cases h), k, h2, comp, h3⟩, h1⟩
theorem z_a0i (n : Nat) : ∀ cA : ClassId, vp_cell cA (n, .inl (fun _ => 0)) = arrV cA n (fun _ => defaultValue .int) := fun _ => rfl
theorem z_a0z (n : Nat) : ∀ cA : ClassId, vp_cell cA (n, .inl (fun _ => 0)) = arrV cA n (fun _ => defaultValue .boolean) := fun _ => rfl
theorem z_a0l (n : Nat) : ∀ cA : ClassId, vp_cell cA (n, .inr (.inl (fun _ => 0))) = arrV cA n (fun _ => defaultValue .long) := fun _ => rfl
def zN (D : va_G) (h0 : Nat) (s : State) (H : Heap) (locs : List Loc) (ws : va_W) : Prop := va_P D vwCl ws H ∧ va_D (zA (fun q => q = h0) s.heap.size) ws ∧ va_S (zA (fun q => q = h0) s.heap.size) s.heap H locs
def zMn (l : Launch) (y : MethodName) (ws : List Cond) (rm : Room) (h0 : Nat) (D : va_G) (tys : List (ClassId × FieldType)) (w0 : va_W) (post : va_W → Prop) (mc ms : Nat) : Prop :=
  ∀ sz, Met l y ws rm (zPc D tys (fun q => q = h0) (fun w : va_W => w) [.ref h0] w0 sz) (va_Qv post (fun (w1 : va_W) t => va_P D vwCl w1 t.heap ∧ va_K D vwCl tys t ∧ va_D (zA (fun q => q = h0) sz) w1) (zA (fun q => q = h0) sz)) mc ms (zA (fun q => q = h0) sz)
theorem va_D_fst {A : Nat → Prop} {ws ws' : va_W} (h : va_D A ws) (e : ws.map Prod.fst = ws'.map Prod.fst) : va_D A ws' := by
  have key : ∀ (k : Nat) (q : Nat × va_E), ws'[k]? = some q → ∃ q0, ws[k]? = some q0 ∧ q0.1 = q.1 := by
    intro k q hk
    have h1 : (ws'.map Prod.fst)[k]? = some q.1 := by rw [List.getElem?_map, hk]; rfl
    rw [← e, List.getElem?_map] at h1
    cases h2 : ws[k]? with
    | none => rw [h2] at h1; cases h1
    | some q0 => rw [h2] at h1; exact ⟨q0, rfl, Option.some.inj h1⟩
  refine ⟨fun i j p q hi hj hpq => ?_, fun k q hk => ?_⟩
  · obtain ⟨p0, a1, a2⟩ := key i p hi
    obtain ⟨q0, b1, b2⟩ := key j q hj
    exact h.1 i j p0 q0 a1 b1 (by rw [a2, b2, hpq])
  · obtain ⟨q0, a1, a2⟩ := key k q hk
    rw [← a2]
    exact h.2 k q0 a1
section ZN
theorem zMn_of {l : Launch} {y : MethodName} {ws ws' : List Cond} {rm : Room} {h0 : Nat} {D : va_G} {tys : List (ClassId × FieldType)} {w0 : va_W} {post : va_W → Prop} {mc ms : Nat} {cc : ByteArray} {maxL : Nat} (hy : plainName y.cls = true) (hw : ws = Cond.code y cc maxL none :: ws') (hav : (lg_sl [Value.ref h0]).length ≤ maxL) (hni : y.name = "<init>") (hone : w0.length = 1) (hfst : ∀ q, w0[0]? = some q → q.1 = h0)
    (body : ∀ (p : Program) (e : Env) (s : State) (m : MethodId) (below : List Frame) (meth : Method) (c : Code), p.tables.exec = Jvm.exec → c.code = cc → meth.sig.returnType = none → c.maxLocals = maxL → s.vm.findClass y.cls = some m.cls → (∀ w ∈ ws, w.before (#[Value.ref h0] : Array Value) s = true) → meth.locks = false → meth.name = "<init>" → va_K D vwCl tys s → zE (zA (fun q => q = h0) s.heap.size) s s.heap → zN D h0 s s.heap [] w0 → ∀ ls : Array Slot, lv_has ls maxL [(0, .ref h0)] → W p l e rm s m #[Value.ref h0] below meth c s.heap [] 0 0 (MQ below (va_Qv post (fun (w1 : va_W) t => va_P D vwCl w1 t.heap ∧ va_K D vwCl tys t ∧ va_D (zA (fun q => q = h0) s.heap.size) w1) (zA (fun q => q = h0) s.heap.size)) #[Value.ref h0] s mc ms (zA (fun q => q = h0) s.heap.size)) (F0 m 0 ls [])) : zMn l y ws rm h0 D tys w0 post mc ms := by
  intro sz
  refine Met.ofW (cc := cc) (maxL := maxL) (ret := none) hy hw ?_
  intro p e s m args below meth c s₁ Bd hml hv
  obtain ⟨rfl, hsz, hP, hK, hE⟩ := hv
  subst hsz
  have hl := lv_entry [Value.ref h0] (n := maxL) hav
  rw [lg_entry_eq]
  generalize (lg_sl [Value.ref h0] ++ List.replicate (maxL - (lg_sl [Value.ref h0]).length) Slot.unset).toArray = ls at hl ⊢
  have hn : meth.name = "<init>" := (name_of_methodNamed Bd.named Bd.method).1.trans hni
  have hD : va_D (zA (fun q => q = h0) s.heap.size) w0 := by
    refine ⟨fun i j a b h1 h2 _ => ?_, fun k q h => ?_⟩
    · have hi := (List.getElem?_eq_some_iff.mp h1).1
      have hj := (List.getElem?_eq_some_iff.mp h2).1
      omega
    · have hk := (List.getElem?_eq_some_iff.mp h).1
      have : k = 0 := by omega
      subst this
      exact Or.inl (hfst q h)
  exact body p e s m below meth c Bd.exec Bd.bytes Bd.returns hml (findClass_of_methodNamed Bd.named) (atoms_spec (ws := ws) Bd.pre) Bd.notSynchronized hn hK hE ⟨hP, hD, va_S.rf⟩ ls hl
variable {p : Program} {l : Launch} {e : Env} {R : Room} {s : State} {m : MethodId} {args : Array Value} {below : List Frame} {meth : Method} {c : Code} {H : Heap} {locs : List Loc} {cells slots : Nat} {Q : State → Prop}
variable {cc : ByteArray} {pc : Nat} {ls : Array Slot} {rest : List Value} {D : va_G} {tys : List (ClassId × FieldType)} {h0 : Nat} {ws : va_W}
theorem zN_in {q : Nat} (hS : va_S (zA (fun q => q = h0) s.heap.size) s.heap H locs) (h : s.heap.size ≤ q) : zA (fun q => q = h0) s.heap.size q := Or.inr h
theorem z_newa {atype : ArrayType} {ty : FieldType} {cA : ClassId} {n t0 : Nat} {a0 : vp_A} {Ts : List Cond} (hx : p.tables.exec = Jvm.exec) (hb : c.code = cc) (hts : ∀ w ∈ Ts, w.before args s = true) (harr : Cond.arrayClass (newarray.typeOf atype) ∈ Ts) (hty : newarray.typeOf atype = ty) (hK : va_K D vwCl tys s) (ht : tys[t0]? = some (cA, ty)) (hRA : va_RA s cA ty → s.vm.findClass ("[" ++ ty.toString) = some cA) (hR : zN D h0 s H locs ws) (ha : ∀ cA : ClassId, vp_cell cA a0 = arrV cA n (fun _ => defaultValue ty)) (hn : n ≤ 240) (hbytes : n * componentBytes ty ≤ 536870912) (hcells : cells + 1 ≤ R.cells) (hslots : slots + n ≤ R.slots) (hdg : decode cc pc = .ok (.newarray atype, 2))
    (kk : ∀ (q : Nat) (H1 : Heap), zN D h0 s H1 locs (ws ++ [(q, .inl (cA, a0))]) → W p l e R s m args below meth c H1 locs (cells + 1) (slots + n) Q (F0 m (pc + 2) ls (.ref q :: rest))) : W p l e R s m args below meth c H locs cells slots Q (F0 m pc ls (.int (nI n) :: rest)) := by
  refine va_newa hx hb (hts _ harr) hty hK hR.1 hR.2.1 hR.2.2 (fun q h => Or.inr h) ha (nI_pos (by omega)) (nI_clamp (by omega)) hbytes hcells hslots hdg (fun q cB H1 hK1 hP1 hD1 hS1 => ?_)
  have e1 := hRA (hK.2 t0 _ ht).2
  obtain ⟨cC, hC1, hC2⟩ := z_arr (hts _ harr)
  have h2 := (hK1.2 tys.length (cB, ty) (by rw [List.getElem?_append_right (Nat.le_refl _), Nat.sub_self]; rfl)).2
  have e2 : s.vm.findClass ("[" ++ ty.toString) = some cB := by
    cases atype <;> subst hty <;> exact h2
  cases Option.some.inj (e2.symm.trans e1)
  exact kk q H1 ⟨hP1, hD1, hS1⟩
theorem z_nputF {own ref C : String} {T : u_T} {N ci index q0 k a : Nat} {fs : List Value} {v : Value} {ty : FieldType} {Ts : List Cond} {W1 : va_W} (hx : p.tables.exec = Jvm.exec) (hb : c.code = cc) (hts : ∀ w ∈ Ts, w.before args s = true) (hin : ∀ w ∈ u_ws C T N, w ∈ Ts) (ty0 : Nat → FieldType) (hty : ∀ k, k < N → parseFieldDescriptor (T k).2.2.1 = some (ty0 k)) (hnm : ∀ a, a < N → ∀ b, b < N → a ≠ b → (T a).2.1 ≠ (T b).2.1) (hown : s.vm.findClass own = some m.cls) (hni : meth.name = "<init>") (hK : va_K D vwCl tys s) (hR : zN D h0 s H locs ws) (he : ws[q0]? = some (a, .inr (ci, fs))) (hc : vwCl[ci]? = some (C, T, N)) (hk : k < N) (hlink : (Cond.fieldLink own index ref (T k).2.1 (T k).2.2.1) ∈ Ts) (href : ref = (T k).1) (hfin : (T k).2.2.2 = true) (hdecl : (T k).1 = own) (hd : parseFieldDescriptor (T k).2.2.1 = some ty) (hn : narrow ty v = v) (hfit : fits ty v = true) (hl : k < fs.length) (hW1 : ws.set q0 (a, .inr (ci, fs.set k v)) = W1) (hdg : decode cc pc = .ok (.putfield index, 3))
    (kk : ∀ (H1 : Heap) (locs1 : List Loc), zN D h0 s H1 locs1 W1 → W p l e R s m args below meth c H1 locs1 cells slots Q (F0 m (pc + 3) ls rest)) : W p l e R s m args below meth c H locs cells slots Q (F0 m pc ls (v :: .ref a :: rest)) :=
  va_putF (D := D) (ci := ci) (v := v) (ty := ty) (C := C) (T := T) (N := N) hx hb hts hin ty0 hty hnm hown hK hR.1 hR.2.1 hR.2.2 q0 he hc k hk (hts _ hlink) (by subst href; exact fun _ h9 => h9) hfin hni hdecl hd hn hfit hl hdg (fun H1 locs1 hP hD hS => kk H1 locs1 (by rw [← hW1]; exact ⟨hP, hD, hS⟩))
theorem z_nput {own ref C : String} {T : u_T} {N ci index q0 k a : Nat} {fs : List Value} {v : Value} {ty : FieldType} {Ts : List Cond} {W1 : va_W} (hx : p.tables.exec = Jvm.exec) (hb : c.code = cc) (hts : ∀ w ∈ Ts, w.before args s = true) (hin : ∀ w ∈ u_ws C T N, w ∈ Ts) (ty0 : Nat → FieldType) (hty : ∀ k, k < N → parseFieldDescriptor (T k).2.2.1 = some (ty0 k)) (hnm : ∀ a, a < N → ∀ b, b < N → a ≠ b → (T a).2.1 ≠ (T b).2.1) (hown : s.vm.findClass own = some m.cls) (hK : va_K D vwCl tys s) (hR : zN D h0 s H locs ws) (he : ws[q0]? = some (a, .inr (ci, fs))) (hc : vwCl[ci]? = some (C, T, N)) (hk : k < N) (hlink : (Cond.fieldLink own index ref (T k).2.1 (T k).2.2.1) ∈ Ts) (href : ref = (T k).1) (hfin : (T k).2.2.2 = false) (hd : parseFieldDescriptor (T k).2.2.1 = some ty) (hn : narrow ty v = v) (hfit : fits ty v = true) (hl : k < fs.length) (hW1 : ws.set q0 (a, .inr (ci, fs.set k v)) = W1) (hdg : decode cc pc = .ok (.putfield index, 3))
    (kk : ∀ (H1 : Heap) (locs1 : List Loc), zN D h0 s H1 locs1 W1 → W p l e R s m args below meth c H1 locs1 cells slots Q (F0 m (pc + 3) ls rest)) : W p l e R s m args below meth c H locs cells slots Q (F0 m pc ls (v :: .ref a :: rest)) :=
  va_put (D := D) (ci := ci) (v := v) (ty := ty) (C := C) (T := T) (N := N) hx hb hts hin ty0 hty hnm hown hK hR.1 hR.2.1 hR.2.2 q0 he hc k hk (hts _ hlink) (by subst href; exact fun _ h9 => h9) hfin hd hn hfit hl hdg (fun H1 locs1 hP hD hS => kk H1 locs1 (by rw [← hW1]; exact ⟨hP, hD, hS⟩))
theorem z_nvret {post : va_W → Prop} {w1 : va_W} (hx : p.tables.exec = Jvm.exec) (hb : c.code = cc) (hr : meth.sig.returnType = none) (hlk : meth.locks = false) (hK : va_K D vwCl tys s) (hR : zN D h0 s H locs w1) (hdg : decode cc pc = .ok (.return_, 1)) (hp : post w1) : W p l e R s m args below meth c H locs cells slots (MQ below (va_Qv post (fun (w1 : va_W) t => va_P D vwCl w1 t.heap ∧ va_K D vwCl tys t ∧ va_D (zA (fun q => q = h0) s.heap.size) w1) (zA (fun q => q = h0) s.heap.size)) args s cells slots (zA (fun q => q = h0) s.heap.size)) (F0 m pc ls []) :=
  W.vret hx hb hr (fun t ht hW => ⟨⟨w1, rfl, hp, by rw [ht]; exact hR.1, va_K.moved hW.alike hK, hR.2.1⟩, hR.2.2.F ht⟩) hR.2.2.2.2 hdg hlk
/-- a nested constructor over the cell made last -/
theorem z_ninit {wr : va_W} {e0 : va_E} {q mc ms : Nat} {host : String} {post : va_W → Prop} {y : MethodName} {bytes : ByteArray} {maxL nL index : Nat} {ws1 Ts : List Cond} {rm : Room} {own : String} {st0 : List Value} {lv : List (Nat × Value)} (Sx : CallFix p m c cc nL s args Ts own) (hK : va_K D vwCl tys s) (hE : zE (zA (fun q => q = h0) s.heap.size) s s.heap) (hR : zN D h0 s H locs (wr ++ [(q, e0)])) (hq : s.heap.size ≤ q) (hM : zMn l y ws1 rm q D tys [(q, e0)] post mc ms) (cw : va_CN R s args own index y host bytes maxL none ws1 rm mc ms 0 ∧ y.name = "<init>" ∧ (Cond.instanceMethod y).before args s = true) (hl : lv_has ls nL lv) (hst : st0 = .ref q :: rest) (hrest : (rest.map fun v => v.category).sum ≤ 8) (hcs : cells + mc ≤ R.cells ∧ slots + ms ≤ R.slots) (hdg : decode cc pc = .ok (.invokespecial index, 3))
    (kk : ∀ (w1 : va_W) (H1 : Heap) (locs1 : List Loc), post w1 → zN D h0 s H1 locs1 (wr ++ w1) → W p l e R s m args below meth c H1 locs1 (cells + mc) (slots + ms) Q (F0 m (pc + 3) ls rest)) : W p l e R s m args below meth c H locs cells slots Q (F0 m pc ls st0) := by
  have hlast : (wr ++ [(q, e0)])[wr.length]? = some (q, e0) := by rw [List.getElem?_append_right (Nat.le_refl _), Nat.sub_self]; rfl
  have hPc : va_P D vwCl [(q, e0)] H := by
    intro k x hk
    match k, hk with
    | 0, hk => cases hk; exact hR.1 wr.length _ hlast
    | k + 1, hk => simp at hk
  have hPr : va_P D vwCl wr H := fun k x hk => hR.1 k x (by rw [List.getElem?_append_left (List.getElem?_eq_some_iff.mp hk).1]; exact hk)
  have hF : ∀ z, zA (fun x => x = q) H.size z → zA (fun x => x = h0) s.heap.size z := fun z h => h.elim (fun x => Or.inr (by rw [x]; exact hq)) (fun x => Or.inr (Nat.le_trans hR.2.2.1 x))
  have hne : ∀ (k : Nat) (x : Nat × va_E), wr[k]? = some x → x.1 ≠ q := by
    intro k x hk hxq
    have hkl := (List.getElem?_eq_some_iff.mp hk).1
    have := hR.2.1.1 k wr.length x (q, e0) (by rw [List.getElem?_append_left hkl]; exact hk) hlast hxq
    omega
  refine va_callv (va_runIN (As := []) (rest := rest) Sx (hM H.size) cw ⟨zPc_blind, z_pre2 (w := fun w : va_W => w) (u := [(q, e0)]) hK hE hPc hR.2.2 (fun z h => Or.inr (by rw [h]; exact hq)) (fun z h => Or.inr h) _⟩ rfl rfl hl.1 hst (lv_room hrest) hdg hcs) hR.2.2 (fun z _ h => hF z h) hF (fun w1 t H1 locs1 ht hvm hw hB hz1 hk1 hS => ?_)
  obtain ⟨hP1, -, hD1⟩ := hB
  rw [ht] at hP1
  refine kk w1 H1 locs1 hw ⟨(z_kept hPr (A := fun z => z ≠ q) (fun k x h => hne k x h) (fun z h => h) hk1).app hP1, va_D.app ⟨fun i j a b h1 h2 h3 => ?_, fun k x h => ?_⟩ (hD1.weaken (fun k x _ h => hF x.1 h)) (fun i j a b h1 h2 h3 => ?_), hS⟩
  · exact hR.2.1.1 i j a b (by rw [List.getElem?_append_left (List.getElem?_eq_some_iff.mp h1).1]; exact h1) (by rw [List.getElem?_append_left (List.getElem?_eq_some_iff.mp h2).1]; exact h2) h3
  · exact hR.2.1.2 k x (by rw [List.getElem?_append_left (List.getElem?_eq_some_iff.mp h).1]; exact h)
  · have h4 := hD1.2 j b h2
    rw [← h3] at h4
    exact h4.elim (hne i a h1) (fun z => absurd ((hPr i a h1).lt) (Nat.not_lt.mpr z))
theorem z_nnew {own C : String} {T : u_T} {N ci index : Nat} {fs : List Value} {Ts : List Cond} (hx : p.tables.exec = Jvm.exec) (hb : c.code = cc) (hts : ∀ w ∈ Ts, w.before args s = true) (hin : ∀ w ∈ u_ws C T N, w ∈ Ts) (ty : Nat → FieldType) (hty : ∀ k, k < N → parseFieldDescriptor (T k).2.2.1 = some (ty k)) (hown : s.vm.findClass own = some m.cls) (hcl : Cond.classLink own index C ∈ Ts) (hinst : Cond.instantiable C N ∈ Ts) (hini : Cond.initialized C ∈ Ts) (hK : va_K D vwCl tys s) (hR : zN D h0 s H locs ws) {e0 : va_E} (h00 : ws[0]? = some (h0, e0)) (hc : vwCl[ci]? = some (C, T, N)) (hfs : ∀ j, j < N → defaultValue (ty j) = vp_V fs j) (hcells : cells + 1 ≤ R.cells) (hslots : slots + N ≤ R.slots) (hdg : decode cc pc = .ok (.new index, 3))
    (kk : ∀ (q : Nat) (H1 : Heap), s.heap.size ≤ q → zN D h0 s H1 locs (ws ++ [(q, .inr (ci, fs))]) → W p l e R s m args below meth c H1 locs (cells + 1) (slots + N) Q (F0 m (pc + 3) ls (.ref q :: rest))) : W p l e R s m args below meth c H locs cells slots Q (F0 m pc ls rest) := by
  refine va_new (ci := ci) (fs := fs) (C := C) (T := T) (N := N) hx hb hts hin ty hty hown (hts _ hcl) (hts _ hinst) (hts _ hini) hK hR.1 hR.2.1 hR.2.2 (fun q h => Or.inr h) hc hfs hcells hslots hdg (fun q H1 hP hD hS => ?_)
  have hl0 := (List.getElem?_eq_some_iff.mp h00).1
  have hlast : (ws ++ [(q, (Sum.inr (ci, fs) : va_E))])[ws.length]? = some (q, .inr (ci, fs)) := by rw [List.getElem?_append_right (Nat.le_refl _), Nat.sub_self]; rfl
  refine kk q H1 ?_ ⟨hP, hD, hS⟩
  rcases hD.2 _ _ hlast with h | h
  · have := hD.1 0 ws.length (h0, e0) (q, .inr (ci, fs)) (by rw [List.getElem?_append_left hl0]; exact h00) hlast h.symm
    omega
  · exact h
end ZN
/-- a new object's state: of the class, of the model -/
def zS00 : zS := fun k => if k = 22 then upd (upd (upd (upd (fun _ => 0) 0 (nI 2)) 1 (nI 0)) 2 (-1)) 3 (-1) else fun _ => 0
def zS0 : zS := zU zS00 21 (sp_m1 (zS00 21) 4)
def zM00 : zS := fun k => if k = 22 then upd (upd (upd (fun _ => 0) 0 (nI 2)) 2 (-1)) 3 (-1) else fun _ => 0
def zM0 : zS := mo_uns zM00
