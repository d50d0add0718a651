/-! the law's own calls: the class's world beside the cell of the answers -/
def zT3 (cI cZ cJ : ClassId) : List (ClassId × FieldType) := [(cI, .int), (cZ, .boolean), (cJ, .long)]
def zBo (B : Nat → Prop) (o : Nat) : Nat → Prop := fun q => B q ∨ q = o
def wOut (cJ : ClassId) (o : Nat) (g : Nat → Int64) : va_W := [(o, .inl (cJ, 1, .inr (.inl g)))]
def wO (cI cZ cJ : ClassId) (ad : Nat → Nat) (o : Nat) (u : zS × (Nat → Int64)) : va_W := wX cI cZ ad u.1 ++ wOut cJ o u.2
/-- as zMi, with room for what a caught throw makes -/
def zMW {σ : Type} (l : Launch) (y : MethodName) (ws : List Cond) (rm : Room) (av : List Value) (D : va_G) (tys : List (ClassId × FieldType)) (B : Nat → Prop) (w : σ → va_W) (S : σ) (post : Int32 → σ → Prop) : Prop :=
  ∀ sz, Met l y ws rm (zPc D tys B w av S sz) (va_Qi post (zB D tys w) (zA B sz)) 1 6 (zA B sz)
section ZO
theorem zMW_of {σ : Type} {l : Launch} {y : MethodName} {ws ws' : List Cond} {rm : Room} {av : List Value} {D : va_G} {tys : List (ClassId × FieldType)} {B : Nat → Prop} {w : σ → va_W} {S : σ} {post : Int32 → σ → Prop} {cc : ByteArray} {maxL : Nat} {ret : Option FieldType} {hh : List (Nat × Nat × Nat × Nat)} (hy : plainName y.cls = true) (hw : ws = Cond.codeWith y cc maxL ret hh :: ws') (hav : (lg_sl av).length ≤ maxL)
    (body : ∀ (p : Program) (e : Env) (s : State) (m : MethodId) (below : List Frame) (meth : Method) (c : Code), p.tables.exec = Jvm.exec → c.code = cc → meth.sig.returnType = ret → c.maxLocals = maxL → s.vm.findClass y.cls = some m.cls → (∀ w ∈ ws, w.before av.toArray s = true) → meth.locks = false → c.exceptionTable.toList = tableOf hh → zF D tys B s → va_P D vwCl (w S) s.heap → ∀ ls : Array Slot, lv_has ls maxL (lv_args 0 av) → W p l e rm s m av.toArray below meth c s.heap [] 0 0 (MQ below (va_Qi post (zB D tys w) (zA B s.heap.size)) av.toArray s 1 6 (zA B s.heap.size)) (F0 m 0 ls [])) : zMW l y ws rm av D tys B w S post := by
  intro sz
  refine va_MetW (cc := cc) (maxL := maxL) (ret := ret) (hh := hh) hy hw ?_
  intro p e s m args below meth c s₁ Bd hml hv
  obtain ⟨rfl, hsz, hP, hK, hE⟩ := hv
  subst hsz
  have hl := lv_entry av (n := maxL) hav
  have hts := atoms_spec (ws := ws) Bd.pre
  rw [lg_entry_eq]
  generalize (lg_sl av ++ List.replicate (maxL - (lg_sl av).length) Slot.unset).toArray = ls at hl ⊢
  exact body p e s m below meth c Bd.exec Bd.bytes Bd.returns hml (findClass_of_methodNamed Bd.named) hts Bd.notSynchronized (vx_table (x := y) Bd (hts _ (by rw [hw]; exact List.mem_cons_self))) ⟨hK, hE⟩ hP ls hl
variable {p : Program} {l : Launch} {e : Env} {R : Room} {s : State} {m : MethodId} {args : Array Value} {below : List Frame} {meth : Method} {c : Code} {H : Heap} {locs : List Loc} {cells slots : Nat} {Q : State → Prop}
variable {cc : ByteArray} {pc : Nat} {ls : Array Slot} {rest st0 : List Value} {D : va_G} {cI cZ cJ : ClassId} {ad : Nat → Nat} {B : Nat → Prop} {o : Nat} {S : zS} {g : Nat → Int64} {tys : List (ClassId × FieldType)}
/-- what a callee finds, whose world is a part of the caller's -/
theorem z_pre2 {σ : Type} {w : σ → va_W} {u : σ} {A : Nat → Prop} (hK : va_K D vwCl tys s) (hE : zE A s s.heap) (hP : va_P D vwCl (w u) H) (hS : va_S A s.heap H locs) (hBA : ∀ q, B q → A q) (hA : ∀ q, s.heap.size ≤ q → A q) (av : List Value) : ∀ U : State, U.heap = H → s.WarmedH U.vm → zPc D tys B w av u H.size av.toArray U := fun U hU hW => ⟨rfl, by rw [hU], by rw [hU]; exact hP, va_K.moved hW.alike hK, by rw [hU]; exact zE.next hW (fun q h => h.elim (fun z => Or.inl (hBA q z)) (fun z => Or.inl (hA q (Nat.le_trans hS.1 z)))) (fun a hl hn => hS.2.1 a hl hn) hE⟩
/-- cells that a callee doesn't reach -/
theorem z_kept {ws : va_W} {A Bc : Nat → Prop} {H1 : Heap} (hP : va_P D vwCl ws H) (hD : ∀ (k : Nat) (q : Nat × va_E), ws[k]? = some q → A q.1) (hd : ∀ q, A q → ¬ Bc q) (hk : ∀ q : Nat, q < H.size → ¬ zA Bc H.size q → H1[q]? = H[q]?) : va_P D vwCl ws H1 :=
  hP.kept (fun k q h => hk q.1 ((hP k q h).lt) (fun z => z.elim (hd q.1 (hD k q h)) (fun z2 => absurd ((hP k q h).lt) (Nat.not_lt.mpr z2))))
/-- where a call of the law's stands -/
def zO (D : va_G) (cI cZ cJ : ClassId) (ad : Nat → Nat) (o : Nat) (B : Nat → Prop) (s : State) (H : Heap) (locs : List Loc) (S : zS) (g : Nat → Int64) : Prop := va_P D vwCl (wX cI cZ ad S) H ∧ va_P D vwCl (wOut cJ o g) H ∧ va_S (zA (zBo B o) s.heap.size) s.heap H locs
theorem zO_of (h : va_P D vwCl (wO cI cZ cJ ad o (S, g)) s.heap) : zO D cI cZ cJ ad o B s s.heap [] S g :=
  ⟨fun k q hk => h k q (by
    have hl := (List.getElem?_eq_some_iff.mp hk).1
    show (wX cI cZ ad S ++ wOut cJ o g)[k]? = some q
    rw [List.getElem?_append_left hl]; exact hk), fun k q hk => h ((wX cI cZ ad S).length + k) q (by
    show (wX cI cZ ad S ++ wOut cJ o g)[(wX cI cZ ad S).length + k]? = some q
    rw [List.getElem?_append_right (Nat.le_add_right _ _), Nat.add_sub_cancel_left]; exact hk), va_S.rf⟩
theorem zO_A (hS : va_S (zA (zBo B o) s.heap.size) s.heap H locs) : ∀ q, zA B H.size q → zA (zBo B o) s.heap.size q := fun q h => h.elim (fun z => Or.inl (Or.inl z)) (fun z => Or.inr (Nat.le_trans hS.1 z))
theorem wOut_in : ∀ (k : Nat) (q : Nat × va_E), (wOut cJ o g)[k]? = some q → q.1 = o := by
  intro k q h
  match k, h with
  | 0, h => cases h; rfl
  | k + 1, h => simp [wOut] at h
theorem z_oV_i {post : Int32 → zS → Prop} {y : MethodName} {bytes : ByteArray} {maxL nL n index : Nat} {ret : Option FieldType} {ws Ts : List Cond} {rm : Room} {own : String} {As : List Value} {lv : List (Nat × Value)} (Sx : CallFix p m c cc nL s args Ts own) (hF : zF D (zT3 cI cZ cJ) (zBo B o) s) (ho : ¬ B o) (hR : zO D cI cZ cJ ad o B s H locs S g) (hM : zMi l y ws rm (.ref (ad 0) :: As) D (zT cI cZ) B (wX cI cZ ad) S post) (cw : CallW R s args own RX4 index y bytes maxL ret ws rm 0 0 n) (hn : As.length = n) (hl : lv_has ls nL lv) (hst : st0 = As.reverse ++ .ref (ad 0) :: rest) (hrest : (rest.map fun v => v.category).sum ≤ 8) (hcs : cells + 0 ≤ R.cells ∧ slots + 0 ≤ R.slots) (hdg : decode cc pc = .ok (.invokevirtual index, 3))
    (kk : ∀ (r : Int32) (S1 : zS) (H1 : Heap) (locs1 : List Loc), post r S1 → zO D cI cZ cJ ad o B s H1 locs1 S1 g → W p l e R s m args below meth c H1 locs1 cells slots Q (F0 m (pc + 3) ls (.int r :: rest))) : W p l e R s m args below meth c H locs cells slots Q (F0 m pc ls st0) := by
  have hK : va_K D vwCl (zT cI cZ) s := hF.1.sub [0, 1] rfl
  refine va_calli (va_runV (As := As) (rest := rest) Sx (hM H.size) cw ⟨zPc_blind, va_recv hK hR.1 (ci := 4) (q0 := 0) rfl rfl, z_pre2 hK hF.2 hR.1 hR.2.2 (fun q h => Or.inl (Or.inl h)) (fun q h => Or.inr h) _⟩ rfl hn hl.1 hst (lv_room hrest) hdg hcs) hR.2.2 (fun q _ h => zO_A hR.2.2 q h) (zO_A hR.2.2) (fun r u t H1 locs1 ht hvm hw hB hz1 hk1 hS => kk r u H1 locs1 hw ⟨by rw [← ht]; exact hB.1, z_kept hR.2.1 (A := fun q => q = o) wOut_in (fun q h => by rw [h]; exact ho) hk1, hS⟩)
theorem z_oV_x {px : String → Prop} {y : MethodName} {bytes : ByteArray} {maxL nL n index : Nat} {ret : Option FieldType} {ws Ts : List Cond} {rm : Room} {own : String} {As : List Value} {lv : List (Nat × Value)} (Sx : CallFix p m c cc nL s args Ts own) (hF : zF D (zT3 cI cZ cJ) (zBo B o) s) (ho : ¬ B o) (hR : zO D cI cZ cJ ad o B s H locs S g) (hM : zMXi l y ws rm (.ref (ad 0) :: As) D (zT cI cZ) B (wX cI cZ ad) S (fun _ _ => False) px) (cw : CallW R s args own RX4 index y bytes maxL ret ws rm 1 6 n) (hn : As.length = n) (hl : lv_has ls nL lv) (hst : st0 = As.reverse ++ .ref (ad 0) :: rest) (hrest : (rest.map fun v => v.category).sum ≤ 8) (hcs : cells + 1 ≤ R.cells ∧ slots + 6 ≤ R.slots) (hdg : decode cc pc = .ok (.invokevirtual index, 3))
    (kx : ∀ (E : String) (ce : Cell) (q9 : Addr) (H1 : Heap) (locs1 : List Loc), px E → zO D cI cZ cJ ad o B s H1 locs1 S g → H1[q9]? = some ce → ce.vm = .none → s.vm.findClass E = some ce.cls → vx_W p l e R s m args below meth c H1 locs1 (cells + 1) (slots + 6) Q (F0 m pc ls rest) q9) : W p l e R s m args below meth c H locs cells slots Q (F0 m pc ls st0) := by
  have hK : va_K D vwCl (zT cI cZ) s := hF.1.sub [0, 1] rfl
  refine vx_calli (vx_runV (As := As) (rest := rest) Sx (hM H.size) cw ⟨zPc_blind, va_recv hK hR.1 (ci := 4) (q0 := 0) rfl rfl, z_pre2 hK hF.2 hR.1 hR.2.2 (fun q h => Or.inl (Or.inl h)) (fun q h => Or.inr h) _⟩ rfl hn hl.1 hst (lv_room hrest) hdg hcs) hR.2.2 (fun q _ h => zO_A hR.2.2 q h) (zO_A hR.2.2) (fun q _ h => zO_A hR.2.2 q h) (fun E ce q9 u t H1 locs1 ht hvm hp hB hz hk hS h1 h2 h3 => ?_) (fun r u t H1 locs1 ht hvm hw hB hz1 hk1 hS => hw.elim)
  obtain ⟨rfl, hB1, -⟩ := hB
  exact kx _ ce q9 H1 locs1 hp ⟨by rw [← ht]; exact hB1, z_kept hR.2.1 (A := fun q => q = o) wOut_in (fun q h => by rw [h]; exact ho) hk, hS⟩ h1 h2 h3
theorem z_o_last {x : Int64} (hx : p.tables.exec = Jvm.exec) (hb : c.code = cc) (hF : zF D (zT3 cI cZ cJ) (zBo B o) s) (hR : zO D cI cZ cJ ad o B s H locs S g) (hG : ∀ S : zS, va_D B (wX cI cZ ad S)) (ho : ¬ B o) (hdg : decode cc pc = .ok (.lastore, 1))
    (kk : ∀ (H1 : Heap) (locs1 : List Loc) (g1 : Nat → Int64), g1 0 = x → zO D cI cZ cJ ad o B s H1 locs1 S g1 → W p l e R s m args below meth c H1 locs1 cells slots Q (F0 m (pc + 1) ls rest)) : W p l e R s m args below meth c H locs cells slots Q (F0 m pc ls (.long x :: .int (nI 0) :: .ref o :: rest)) := by
  have hP : va_P D vwCl (wOut cJ o g ++ wX cI cZ ad S) H := hR.2.1.app hR.1
  have hD : va_D (zA (zBo B o) s.heap.size) (wOut cJ o g ++ wX cI cZ ad S) := by
    refine va_D.app (A := zA (zBo B o) s.heap.size) ⟨?_, fun k q h => Or.inl (Or.inr (wOut_in k q h))⟩ ((hG S).weaken (fun _ _ _ h => Or.inl (Or.inl h))) (fun i j x y h1 h2 h3 => ?_)
    · intro i j a b h1 h2 _
      have hi := (List.getElem?_eq_some_iff.mp h1).1
      have hj := (List.getElem?_eq_some_iff.mp h2).1
      have e1 : (wOut cJ o g).length = 1 := rfl
      omega
    · have e1 := wOut_in i x h1
      have e2 := (hG S).2 j y h2
      rw [← h3, e1] at e2
      exact ho e2
  refine va_last hx hb hF.1 hP hD hR.2.2 0 2 (n := 1) (f := g) rfl rfl (vp_in_nI (show 0 < 1 by decide) (by decide)) hdg (fun H1 locs1 hP1 _ hS1 => ?_)
  refine kk H1 locs1 (vp_updL g 0 x) pk_uLs ⟨fun k q hk => hP1 (k + 1) q hk, fun k q hk => ?_, hS1⟩
  match k, hk with
  | 0, hk => exact hP1 0 q hk
  | k + 1, hk => simp [wOut] at hk
theorem z_o_iret {post : Int32 → zS × (Nat → Int64) → Prop} {v : Int32} (hx : p.tables.exec = Jvm.exec) (hb : c.code = cc) (hr : meth.sig.returnType = some .int) (hlk : meth.locks = false) (hF : zF D (zT3 cI cZ cJ) (zBo B o) s) (hR : zO D cI cZ cJ ad o B s H locs S g) (hdg : decode cc pc = .ok (.ireturn, 1)) (hp : post v (S, g)) : W p l e R s m args below meth c H locs cells slots (MQ below (va_Qi post (zB D (zT3 cI cZ cJ) (wO cI cZ cJ ad o)) (zA (zBo B o) s.heap.size)) args s cells slots (zA (zBo B o) s.heap.size)) (F0 m pc ls [.int v]) :=
  W.iret hx hb hr (fun t ht hW => ⟨⟨v, (S, g), rfl, hp, by rw [ht]; exact hR.1.app hR.2.1, va_K.moved hW.alike hF.1⟩, hR.2.2.F ht⟩) hR.2.2.2.2 hdg hlk
end ZO
