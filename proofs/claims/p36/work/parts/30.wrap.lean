/-! p36: the law's own methods over the class's world -/
/-- as zMi, with cells that it may make -/
def zMC {σ : Type} (mc ms : Nat) (l : Launch) (y : MethodName) (ws : List Cond) (rm : Room) (av : List Value) (D : va_G) (tys : List (ClassId × FieldType)) (B : Nat → Prop) (w : σ → va_W) (S : σ) (post : Int32 → σ → Prop) : Prop :=
  ∀ sz, Met l y ws rm (zPc D tys B w av S sz) (va_Qi post (zB D tys w) (zA B sz)) mc ms (zA B sz)
section ZO
/-- a method with rows for what it catches -/
theorem zMC_of {σ : Type} {mc ms : Nat} {l : Launch} {y : MethodName} {ws ws' : List Cond} {rm : Room} {av : List Value} {D : va_G} {tys : List (ClassId × FieldType)} {B : Nat → Prop} {w : σ → va_W} {S : σ} {post : Int32 → σ → Prop} {cc : ByteArray} {maxL : Nat} {ret : Option FieldType} {hh : List (Nat × Nat × Nat × Nat)} (hy : plainName y.cls = true) (hw : ws = Cond.codeWith y cc maxL ret hh :: ws') (hav : (lg_sl av).length ≤ maxL)
    (body : ∀ (p : Program) (e : Env) (s : State) (m : MethodId) (below : List Frame) (meth : Method) (c : Code), p.tables.exec = Jvm.exec → c.code = cc → meth.sig.returnType = ret → c.maxLocals = maxL → s.vm.findClass y.cls = some m.cls → (∀ w ∈ ws, w.before av.toArray s = true) → meth.locks = false → c.exceptionTable.toList = tableOf hh → zF D tys B s → zR D B (w S) s s.heap [] → ∀ ls : Array Slot, lv_has ls maxL (lv_args 0 av) → W p l e rm s m av.toArray below meth c s.heap [] 0 0 (MQ below (va_Qi post (zB D tys w) (zA B s.heap.size)) av.toArray s mc ms (zA B s.heap.size)) (F0 m 0 ls [])) : zMC mc ms l y ws rm av D tys B w S post := by
  intro sz
  refine va_MetW (cc := cc) (maxL := maxL) (ret := ret) (hh := hh) hy hw ?_
  intro p e s m args below meth c s₁ Bd hml hv
  obtain ⟨rfl, hsz, hP, hK, hE⟩ := hv
  subst hsz
  have hl := lv_entry av (n := maxL) hav
  have hts := atoms_spec (ws := ws) Bd.pre
  rw [lg_entry_eq]
  generalize (lg_sl av ++ List.replicate (maxL - (lg_sl av).length) Slot.unset).toArray = ls at hl ⊢
  exact body p e s m below meth c Bd.exec Bd.bytes Bd.returns hml (findClass_of_methodNamed Bd.named) hts Bd.notSynchronized (vx_table (x := y) Bd (hts _ (by rw [hw]; exact List.mem_cons_self))) ⟨hK, hE⟩ ⟨hP, va_S.rf⟩ ls hl
/-- .. without -/
theorem zMC_ofP {σ : Type} {mc ms : Nat} {l : Launch} {y : MethodName} {ws ws' : List Cond} {rm : Room} {av : List Value} {D : va_G} {tys : List (ClassId × FieldType)} {B : Nat → Prop} {w : σ → va_W} {S : σ} {post : Int32 → σ → Prop} {cc : ByteArray} {maxL : Nat} {ret : Option FieldType} (hy : plainName y.cls = true) (hw : ws = Cond.code y cc maxL ret :: ws') (hav : (lg_sl av).length ≤ maxL)
    (body : ∀ (p : Program) (e : Env) (s : State) (m : MethodId) (below : List Frame) (meth : Method) (c : Code), p.tables.exec = Jvm.exec → c.code = cc → meth.sig.returnType = ret → c.maxLocals = maxL → s.vm.findClass y.cls = some m.cls → (∀ w ∈ ws, w.before av.toArray s = true) → meth.locks = false → zF D tys B s → zR D B (w S) s s.heap [] → ∀ ls : Array Slot, lv_has ls maxL (lv_args 0 av) → W p l e rm s m av.toArray below meth c s.heap [] 0 0 (MQ below (va_Qi post (zB D tys w) (zA B s.heap.size)) av.toArray s mc ms (zA B s.heap.size)) (F0 m 0 ls [])) : zMC mc ms l y ws rm av D tys B w S post := by
  intro sz
  refine Met.ofW (cc := cc) (maxL := maxL) (ret := ret) hy hw ?_
  intro p e s m args below meth c s₁ Bd hml hv
  obtain ⟨rfl, hsz, hP, hK, hE⟩ := hv
  subst hsz
  have hl := lv_entry av (n := maxL) hav
  rw [lg_entry_eq]
  generalize (lg_sl av ++ List.replicate (maxL - (lg_sl av).length) Slot.unset).toArray = ls at hl ⊢
  exact body p e s m below meth c Bd.exec Bd.bytes Bd.returns hml (findClass_of_methodNamed Bd.named) (atoms_spec (ws := ws) Bd.pre) Bd.notSynchronized ⟨hK, hE⟩ ⟨hP, va_S.rf⟩ ls hl
variable {p : Program} {l : Launch} {e : Env} {R : Room} {s : State} {m : MethodId} {args : Array Value} {below : List Frame} {meth : Method} {c : Code} {H : Heap} {locs : List Loc} {cells slots : Nat} {Q : State → Prop}
variable {cc : ByteArray} {pc : Nat} {ls : Array Slot} {rest st0 : List Value} {D : va_G} {B : Nat → Prop} {tys : List (ClassId × FieldType)} {σ : Type} {w : σ → va_W} {S : σ}
variable {y : MethodName} {bytes : ByteArray} {maxL nL n index : Nat} {ret : Option FieldType} {ws Ts : List Cond} {rm : Room} {own C : String} {b : Addr} {As : List Value} {lv : List (Nat × Value)}
/-- what a callee finds, whose world is a part of the caller's -/
theorem z_pre2 {σ : Type} {w : σ → va_W} {u : σ} {A : Nat → Prop} (hK : va_K D vwCl tys s) (hE : zE A s s.heap) (hP : va_P D vwCl (w u) H) (hS : va_S A s.heap H locs) (hBA : ∀ q, B q → A q) (hA : ∀ q, s.heap.size ≤ q → A q) (av : List Value) : ∀ U : State, U.heap = H → s.WarmedH U.vm → zPc D tys B w av u H.size av.toArray U := fun U hU hW => ⟨rfl, by rw [hU], by rw [hU]; exact hP, va_K.moved hW.alike hK, by rw [hU]; exact zE.next hW (fun q h => h.elim (fun z => Or.inl (hBA q z)) (fun z => Or.inl (hA q (Nat.le_trans hS.1 z)))) (fun a hl hn => hS.2.1 a hl hn) hE⟩
/-- cells that a callee doesn't reach -/
theorem z_kept {ws : va_W} {A Bc : Nat → Prop} {H1 : Heap} (hP : va_P D vwCl ws H) (hD : ∀ (k : Nat) (q : Nat × va_E), ws[k]? = some q → A q.1) (hd : ∀ q, A q → ¬ Bc q) (hk : ∀ q : Nat, q < H.size → ¬ zA Bc H.size q → H1[q]? = H[q]?) : va_P D vwCl ws H1 :=
  hP.kept (fun k q h => hk q.1 ((hP k q h).lt) (fun z => z.elim (hd q.1 (hD k q h)) (fun z2 => absurd ((hP k q h).lt) (Nat.not_lt.mpr z2))))
/-- a callee that is known to throw: its throw comes to this frame -/
theorem z_wV_x {px : String → Prop} {q0 ci : Nat} {cv : vw_C} {fs : List Value} (Sx : CallFix p m c cc nL s args Ts own) (hF : zF D tys B s) (hR : zR D B (w S) s H locs) (hM : zMXi l y ws rm (.ref b :: As) D tys B w S (fun _ _ => False) px) (cw : CallW R s args own C index y bytes maxL ret ws rm 1 6 n) (hq : (w S)[q0]? = some (b, .inr (ci, fs))) (hc : vwCl[ci]? = some cv) (hC : cv.1 = C) (hn : As.length = n) (hl : lv_has ls nL lv) (hst : st0 = As.reverse ++ .ref b :: rest) (hrest : (rest.map fun v => v.category).sum ≤ 8) (hcs : cells + 1 ≤ R.cells ∧ slots + 6 ≤ R.slots) (hdg : decode cc pc = .ok (.invokevirtual index, 3))
    (kx : ∀ (E : String) (ce : Cell) (q9 : Addr) (H1 : Heap) (locs1 : List Loc), px E → zR D B (w S) s H1 locs1 → H1[q9]? = some ce → ce.vm = .none → s.vm.findClass E = some ce.cls → vx_W p l e R s m args below meth c H1 locs1 (cells + 1) (slots + 6) Q (F0 m pc ls rest) q9) : W p l e R s m args below meth c H locs cells slots Q (F0 m pc ls st0) := by
  subst hC
  refine vx_calli (vx_runV (As := As) (rest := rest) Sx (hM H.size) cw ⟨zPc_blind, va_recv hF.1 hR.1 hc hq, z_pre hF hR _⟩ rfl hn hl.1 hst (lv_room hrest) hdg hcs) hR.2 (fun q _ h => zA_in hR.2 q h) (zA_in hR.2) (fun q _ h => zA_in hR.2 q h) (fun E ce q9 u t H1 locs1 ht hvm hp hB hz hk hS h1 h2 h3 => ?_) (fun r u t H1 locs1 ht hvm hw hB hz1 hk1 hS => hw.elim)
  obtain ⟨rfl, hB1, -⟩ := hB
  exact kx _ ce q9 H1 locs1 hp ⟨by rw [← ht]; exact hB1, hS⟩ h1 h2 h3
/-- a call of a method of the law's that catches -/
theorem z_callSW_i {mc ms : Nat} {hh : List (Nat × Nat × Nat × Nat)} {post : Int32 → σ → Prop} (Sx : CallFix p m c cc nL s args Ts own) (hF : zF D tys B s) (hR : zR D B (w S) s H locs) (hM : zMC mc ms l y ws rm As D tys B w S post) (cw : vx_CSW R s args own index y bytes maxL ret hh ws rm mc ms n) (hn : As.length = n) (hl : lv_has ls nL lv) (hst : st0 = As.reverse ++ rest) (hrest : (rest.map fun v => v.category).sum ≤ 8) (hcs : cells + mc ≤ R.cells ∧ slots + ms ≤ R.slots) (hdg : decode cc pc = .ok (.invokestatic index, 3))
    (kk : ∀ (r : Int32) (S1 : σ) (H1 : Heap) (locs1 : List Loc), post r S1 → zR D B (w S1) s H1 locs1 → W p l e R s m args below meth c H1 locs1 (cells + mc) (slots + ms) Q (F0 m (pc + 3) ls (.int r :: rest))) : W p l e R s m args below meth c H locs cells slots Q (F0 m pc ls st0) :=
  va_calli (vx_runSW (As := As) (rest := rest) Sx (hM H.size) cw ⟨zPc_blind, z_pre hF hR _⟩ rfl hn hl.1 hst (lv_room hrest) hdg hcs) hR.2 (fun q _ h => zA_in hR.2 q h) (zA_in hR.2) (fun r u t H1 locs1 ht hvm hw hB hz1 hk1 hS => kk r u H1 locs1 hw ⟨by rw [← ht]; exact hB.1, hS⟩)
end ZO
/-! numbers that the law takes out of a cell -/
abbrev zsh (v : Int32) (k : Nat) : Int32 := v >>> (nI k &&& 31)
def zlow (v : Int32) (n : Nat) : Nat := v.toBitVec.toNat % 2 ^ 31 % n
theorem zlow_lt (v : Int32) {n : Nat} (h : 0 < n) : zlow v n < n := Nat.mod_lt _ h
theorem zlow_lt2 (v : Int32) (n : Nat) : zlow v n < 2 ^ 31 := Nat.lt_of_le_of_lt (Nat.mod_le _ _) (Nat.mod_lt _ (by decide))
