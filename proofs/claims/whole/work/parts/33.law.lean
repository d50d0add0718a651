/-! the law's world: the class's, the model's, the cell of the answers -/
def zLA (s : State) : Nat → Prop := fun q => s.heap.size ≤ q
def zL (D : va_G) (cI cZ cJ : ClassId) (adx adm : Nat → Nat) (o : Nat) (s : State) (H : Heap) (locs : List Loc) (S M : zS) (g : Nat → Int64) : Prop := va_P D vwCl (wX cI cZ adx S) H ∧ va_P D vwCl (wM cI cZ adm M) H ∧ va_P D vwCl (wOut cJ o g) H ∧ va_S (zLA s) s.heap H locs
def zLC (D : va_G) (cI cZ cJ : ClassId) (adx adm : Nat → Nat) (o : Nat) (Bx Bm : Nat → Prop) (s : State) : Prop := va_K D vwCl (zT3 cI cZ cJ) s ∧ zE (zLA s) s s.heap ∧ (∀ S : zS, va_D Bx (wX cI cZ adx S)) ∧ (∀ S : zS, va_D Bm (wM cI cZ adm S)) ∧ ¬ Bx o ∧ ¬ Bm o ∧ (∀ q, Bx q → ¬ Bm q) ∧ (∀ q, Bx q → s.heap.size ≤ q) ∧ (∀ q, Bm q → s.heap.size ≤ q) ∧ s.heap.size ≤ o
theorem z_cmp_eq {x y : Int64} (h : x = y) : lg_cmp x y = nI 0 := by
  subst h
  unfold lg_cmp
  rw [if_neg (by exact Int64.lt_irrefl), if_pos rfl]
  rfl
theorem th_4 (M : zS) (i : Nat) : zth M i 22 4 = nI i := by
  unfold zth
  rw [zU_s, pk_us]
section ZLW
variable {p : Program} {l : Launch} {e : Env} {R : Room} {s : State} {m : MethodId} {args : Array Value} {below : List Frame} {meth : Method} {c : Code} {H : Heap} {locs : List Loc} {cells slots : Nat} {Q : State → Prop}
variable {cc : ByteArray} {pc : Nat} {ls : Array Slot} {rest st0 : List Value} {D : va_G} {cI cZ cJ : ClassId} {adx adm : Nat → Nat} {Bx Bm : Nat → Prop} {o : Nat} {S M : zS} {g : Nat → Int64}
variable {y : MethodName} {bytes : ByteArray} {maxL nL n index : Nat} {ret : Option FieldType} {ws Ts : List Cond} {rm : Room} {own : String} {As : List Value} {lv : List (Nat × Value)}
theorem z_lA {B : Nat → Prop} (hB : ∀ q, B q → s.heap.size ≤ q) (hS : va_S (zLA s) s.heap H locs) : ∀ q, zA B H.size q → zLA s q := fun q h => h.elim (hB q) (fun z => Nat.le_trans hS.1 z)
/-- a call through one of the law's static methods -/
theorem z_lW {hh : List (Nat × Nat × Nat × Nat)} {post : Int32 → zS × (Nat → Int64) → Prop} (Sx : CallFix p m c cc nL s args Ts own) (X0 : zLC D cI cZ cJ adx adm o Bx Bm s) (hR : zL D cI cZ cJ adx adm o s H locs S M g) (hM : zMW l y ws rm As D (zT3 cI cZ cJ) (zBo Bx o) (wO cI cZ cJ adx o) (S, g) post) (cw : vx_CSW R s args own index y bytes maxL ret hh ws rm 1 6 n) (hn : As.length = n) (hl : lv_has ls nL lv) (hst : st0 = As.reverse ++ rest) (hrest : (rest.map fun v => v.category).sum ≤ 8) (hcs : cells + 1 ≤ R.cells ∧ slots + 6 ≤ R.slots) (hdg : decode cc pc = .ok (.invokestatic index, 3))
    (kk : ∀ (r : Int32) (S1 : zS) (g1 : Nat → Int64) (H1 : Heap) (locs1 : List Loc), post r (S1, g1) → zL D cI cZ cJ adx adm o s H1 locs1 S1 M g1 → W p l e R s m args below meth c H1 locs1 (cells + 1) (slots + 6) Q (F0 m (pc + 3) ls (.int r :: rest))) : W p l e R s m args below meth c H locs cells slots Q (F0 m pc ls st0) := by
  obtain ⟨hK, hE, hGx, hGm, hox, hom, hxm, hBx, hBm, hoA⟩ := X0
  have hB : ∀ q, zBo Bx o q → s.heap.size ≤ q := fun q h => h.elim (hBx q) (fun z => by rw [z]; exact hoA)
  refine va_calli (vx_runSW (As := As) (rest := rest) Sx (hM H.size) cw ⟨zPc_blind, z_pre2 (w := wO cI cZ cJ adx o) (u := (S, g)) hK hE (hR.1.app hR.2.2.1) hR.2.2.2 hB (fun q h => h) _⟩ rfl hn hl.1 hst (lv_room hrest) hdg hcs) hR.2.2.2 (fun q _ h => z_lA hB hR.2.2.2 q h) (z_lA hB hR.2.2.2) (fun r u t H1 locs1 ht hvm hw hB1 hz1 hk1 hS => ?_)
  obtain ⟨S1, g1⟩ := u
  have h1 : zO D cI cZ cJ adx o Bx { s with heap := t.heap } t.heap [] S1 g1 := zO_of (s := { s with heap := t.heap }) hB1.1
  refine kk r S1 g1 H1 locs1 hw ⟨by rw [← ht]; exact h1.1, z_kept hR.2.1 (A := Bm) (hGm M).2 (fun q h z => z.elim (fun x => hxm q x h) (fun x => hom (by rw [← x]; exact h))) hk1, by rw [← ht]; exact h1.2.1, hS⟩
/-- a call of the model's -/
theorem z_lM_i {post : Int32 → zS → Prop} (Sx : CallFix p m c cc nL s args Ts own) (X0 : zLC D cI cZ cJ adx adm o Bx Bm s) (hR : zL D cI cZ cJ adx adm o s H locs S M g) (hM : zMi l y ws rm (.ref (adm 0) :: As) D (zT cI cZ) Bm (wM cI cZ adm) M post) (cw : CallW R s args own RX5 index y bytes maxL ret ws rm 0 0 n) (hn : As.length = n) (hl : lv_has ls nL lv) (hst : st0 = As.reverse ++ .ref (adm 0) :: rest) (hrest : (rest.map fun v => v.category).sum ≤ 8) (hcs : cells + 0 ≤ R.cells ∧ slots + 0 ≤ R.slots) (hdg : decode cc pc = .ok (.invokevirtual index, 3))
    (kk : ∀ (r : Int32) (M1 : zS) (H1 : Heap) (locs1 : List Loc), post r M1 → zL D cI cZ cJ adx adm o s H1 locs1 S M1 g → W p l e R s m args below meth c H1 locs1 cells slots Q (F0 m (pc + 3) ls (.int r :: rest))) : W p l e R s m args below meth c H locs cells slots Q (F0 m pc ls st0) := by
  obtain ⟨hK3, hE, hGx, hGm, hox, hom, hxm, hBx, hBm, hoA⟩ := X0
  have hK : va_K D vwCl (zT cI cZ) s := hK3.sub [0, 1] rfl
  refine va_calli (va_runV (As := As) (rest := rest) Sx (hM H.size) cw ⟨zPc_blind, va_recv hK hR.2.1 (ci := 5) (q0 := 0) rfl rfl, z_pre2 hK hE hR.2.1 hR.2.2.2 hBm (fun q h => h) _⟩ rfl hn hl.1 hst (lv_room hrest) hdg hcs) hR.2.2.2 (fun q _ h => z_lA hBm hR.2.2.2 q h) (z_lA hBm hR.2.2.2) (fun r u t H1 locs1 ht hvm hw hB1 hz1 hk1 hS => kk r u H1 locs1 hw ⟨z_kept hR.1 (A := Bx) (hGx S).2 hxm hk1, by rw [← ht]; exact hB1.1, z_kept hR.2.2.1 (A := fun q => q = o) wOut_in (fun q h => by rw [h]; exact hom) hk1, hS⟩)
/-- a call of the class's -/
theorem z_lX_i {post : Int32 → zS → Prop} (Sx : CallFix p m c cc nL s args Ts own) (X0 : zLC D cI cZ cJ adx adm o Bx Bm s) (hR : zL D cI cZ cJ adx adm o s H locs S M g) (hM : zMi l y ws rm (.ref (adx 0) :: As) D (zT cI cZ) Bx (wX cI cZ adx) S post) (cw : CallW R s args own RX4 index y bytes maxL ret ws rm 0 0 n) (hn : As.length = n) (hl : lv_has ls nL lv) (hst : st0 = As.reverse ++ .ref (adx 0) :: rest) (hrest : (rest.map fun v => v.category).sum ≤ 8) (hcs : cells + 0 ≤ R.cells ∧ slots + 0 ≤ R.slots) (hdg : decode cc pc = .ok (.invokevirtual index, 3))
    (kk : ∀ (r : Int32) (S1 : zS) (H1 : Heap) (locs1 : List Loc), post r S1 → zL D cI cZ cJ adx adm o s H1 locs1 S1 M g → W p l e R s m args below meth c H1 locs1 cells slots Q (F0 m (pc + 3) ls (.int r :: rest))) : W p l e R s m args below meth c H locs cells slots Q (F0 m pc ls st0) := by
  obtain ⟨hK3, hE, hGx, hGm, hox, hom, hxm, hBx, hBm, hoA⟩ := X0
  have hK : va_K D vwCl (zT cI cZ) s := hK3.sub [0, 1] rfl
  refine va_calli (va_runV (As := As) (rest := rest) Sx (hM H.size) cw ⟨zPc_blind, va_recv hK hR.1 (ci := 4) (q0 := 0) rfl rfl, z_pre2 hK hE hR.1 hR.2.2.2 hBx (fun q h => h) _⟩ rfl hn hl.1 hst (lv_room hrest) hdg hcs) hR.2.2.2 (fun q _ h => z_lA hBx hR.2.2.2 q h) (z_lA hBx hR.2.2.2) (fun r u t H1 locs1 ht hvm hw hB1 hz1 hk1 hS => kk r u H1 locs1 hw ⟨by rw [← ht]; exact hB1.1, z_kept hR.2.1 (A := Bm) (hGm M).2 (fun q h z => hxm q z h) hk1, z_kept hR.2.2.1 (A := fun q => q = o) wOut_in (fun q h => by rw [h]; exact hox) hk1, hS⟩)
theorem z_l_lald (hx : p.tables.exec = Jvm.exec) (hb : c.code = cc) (X0 : zLC D cI cZ cJ adx adm o Bx Bm s) (hR : zL D cI cZ cJ adx adm o s H locs S M g) (hdg : decode cc pc = .ok (.laload, 1))
    (kk : W p l e R s m args below meth c H locs cells slots Q (F0 m (pc + 1) ls (.long (g 0) :: rest))) : W p l e R s m args below meth c H locs cells slots Q (F0 m pc ls (.int (nI 0) :: .ref o :: rest)) := by
  refine va_lald hx hb X0.1 hR.2.2.1 0 2 (n := 1) (f := g) rfl rfl (vp_in_nI (show 0 < 1 by decide) (by decide)) hdg ?_
  rw [nI_clamp (show 0 < 2 ^ 31 by decide)]
  exact kk
theorem z_sld_n {b L j : Nat} {xs : Nat → Int32} {v : Int32} (hx : p.tables.exec = Jvm.exec) (hb : c.code = cc) (hX : va_X b L xs s s.heap) (hbl : b < s.heap.size) (hR : zL D cI cZ cJ adx adm o s H locs S M g) (hdg : decode cc pc = .ok (.iaload, 1)) (hj : j < L) (hL : L ≤ 2048) (hv : xs j = v)
    (kk : W p l e R s m args below meth c H locs cells slots Q (F0 m (pc + 1) ls (.int v :: rest))) : W p l e R s m args below meth c H locs cells slots Q (F0 m pc ls (.int (nI j) :: .ref b :: rest)) := by
  refine va_sld hx hb hX hbl (Nat.not_le.mpr hbl) hR.2.2.2 (vp_in_nI hj (by omega)) hdg ?_
  rw [nI_clamp (by omega), hv]
  exact kk
end ZLW
