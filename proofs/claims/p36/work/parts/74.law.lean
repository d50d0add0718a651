/-! the law's world: two objects of the class -/
def zLA (s : State) : Nat → Prop := fun q => s.heap.size ≤ q
def zL (D : va_G) (cI cZ : ClassId) (ad bd : Nat → Nat) (s : State) (H : Heap) (locs : List Loc) (S T : zS) : Prop := va_P D vwCl (wX cI cZ ad S) H ∧ va_P D vwCl (wX cI cZ bd T) H ∧ va_S (zLA s) s.heap H locs
def zLC (D : va_G) (cI cZ : ClassId) (ad bd : Nat → Nat) (Ba Bb : Nat → Prop) (s : State) : Prop := va_K D vwCl (zT cI cZ) s ∧ zE (zLA s) s s.heap ∧ (∀ S : zS, va_D Ba (wX cI cZ ad S)) ∧ (∀ S : zS, va_D Bb (wX cI cZ bd S)) ∧ (∀ q, Ba q → ¬ Bb q) ∧ (∀ q, Ba q → s.heap.size ≤ q) ∧ (∀ q, Bb q → s.heap.size ≤ q)
section ZLW
variable {p : Program} {l : Launch} {e : Env} {R : Room} {s : State} {m : MethodId} {args : Array Value} {below : List Frame} {meth : Method} {c : Code} {H : Heap} {locs : List Loc} {cells slots : Nat} {Q : State → Prop}
variable {cc : ByteArray} {pc : Nat} {ls : Array Slot} {rest st0 : List Value} {D : va_G} {cI cZ : ClassId} {ad bd : Nat → Nat} {Ba Bb : Nat → Prop} {S T : zS}
variable {y : MethodName} {bytes : ByteArray} {maxL nL n index mc ms : Nat} {ret : Option FieldType} {ws Ts : List Cond} {rm : Room} {own : String} {As : List Value} {lv : List (Nat × Value)}
theorem z_lA {B : Nat → Prop} (hB : ∀ q, B q → s.heap.size ≤ q) (hS : va_S (zLA s) s.heap H locs) : ∀ q, zA B H.size q → zLA s q := fun q h => h.elim (hB q) (fun z => Nat.le_trans hS.1 z)
/-- a method of the law's, of the first object -/
theorem z_l1 {post : Int32 → zS → Prop} (Sx : CallFix p m c cc nL s args Ts own) (X0 : zLC D cI cZ ad bd Ba Bb s) (hR : zL D cI cZ ad bd s H locs S T) (hM : zMC mc ms l y ws rm As D (zT cI cZ) Ba (wX cI cZ ad) S post) (cw : CallB R s args own index y bytes maxL ret ws rm mc ms n ∧ (Cond.static y).before args s = true) (hn : As.length = n) (hl : lv_has ls nL lv) (hst : st0 = As.reverse ++ rest) (hrest : (rest.map fun v => v.category).sum ≤ 8) (hcs : cells + mc ≤ R.cells ∧ slots + ms ≤ R.slots) (hdg : decode cc pc = .ok (.invokestatic index, 3))
    (kk : ∀ (r : Int32) (S1 : zS) (H1 : Heap) (locs1 : List Loc), post r S1 → zL D cI cZ ad bd s H1 locs1 S1 T → W p l e R s m args below meth c H1 locs1 (cells + mc) (slots + ms) Q (F0 m (pc + 3) ls (.int r :: rest))) : W p l e R s m args below meth c H locs cells slots Q (F0 m pc ls st0) := by
  obtain ⟨hK, hE, hGa, hGb, hab, hBa, hBb⟩ := X0
  exact va_calli (va_runS (As := As) (rest := rest) Sx (hM H.size) cw ⟨zPc_blind, z_pre2 hK hE hR.1 hR.2.2 hBa (fun q h => h) _⟩ rfl hn hl.1 hst (lv_room hrest) hdg hcs) hR.2.2 (fun q _ h => z_lA hBa hR.2.2 q h) (z_lA hBa hR.2.2) (fun r u t H1 locs1 ht hvm hw hB hz1 hk1 hS => kk r u H1 locs1 hw ⟨by rw [← ht]; exact hB.1, z_kept hR.2.1 (A := Bb) (hGb T).2 (fun q h z => hab q z h) hk1, hS⟩)
/-- .. of the second -/
theorem z_l2 {post : Int32 → zS → Prop} (Sx : CallFix p m c cc nL s args Ts own) (X0 : zLC D cI cZ ad bd Ba Bb s) (hR : zL D cI cZ ad bd s H locs S T) (hM : zMC mc ms l y ws rm As D (zT cI cZ) Bb (wX cI cZ bd) T post) (cw : CallB R s args own index y bytes maxL ret ws rm mc ms n ∧ (Cond.static y).before args s = true) (hn : As.length = n) (hl : lv_has ls nL lv) (hst : st0 = As.reverse ++ rest) (hrest : (rest.map fun v => v.category).sum ≤ 8) (hcs : cells + mc ≤ R.cells ∧ slots + ms ≤ R.slots) (hdg : decode cc pc = .ok (.invokestatic index, 3))
    (kk : ∀ (r : Int32) (T1 : zS) (H1 : Heap) (locs1 : List Loc), post r T1 → zL D cI cZ ad bd s H1 locs1 S T1 → W p l e R s m args below meth c H1 locs1 (cells + mc) (slots + ms) Q (F0 m (pc + 3) ls (.int r :: rest))) : W p l e R s m args below meth c H locs cells slots Q (F0 m pc ls st0) := by
  obtain ⟨hK, hE, hGa, hGb, hab, hBa, hBb⟩ := X0
  exact va_calli (va_runS (As := As) (rest := rest) Sx (hM H.size) cw ⟨zPc_blind, z_pre2 hK hE hR.2.1 hR.2.2 hBb (fun q h => h) _⟩ rfl hn hl.1 hst (lv_room hrest) hdg hcs) hR.2.2 (fun q _ h => z_lA hBb hR.2.2 q h) (z_lA hBb hR.2.2) (fun r u t H1 locs1 ht hvm hw hB hz1 hk1 hS => kk r u H1 locs1 hw ⟨z_kept hR.1 (A := Ba) (hGa S).2 (fun q h z => hab q h z) hk1, by rw [← ht]; exact hB.1, hS⟩)
/-- .. of both, that are alike -/
theorem z_l12 {post : Int32 → zS → Prop} (Sx : CallFix p m c cc nL s args Ts own) (X0 : zLC D cI cZ ad bd Ba Bb s) (hR : zL D cI cZ ad bd s H locs S S) (hM : zMC mc ms l y ws rm As D (zT cI cZ) (zBB Ba Bb) (wXX cI cZ ad bd) S post) (cw : CallB R s args own index y bytes maxL ret ws rm mc ms n ∧ (Cond.static y).before args s = true) (hn : As.length = n) (hl : lv_has ls nL lv) (hst : st0 = As.reverse ++ rest) (hrest : (rest.map fun v => v.category).sum ≤ 8) (hcs : cells + mc ≤ R.cells ∧ slots + ms ≤ R.slots) (hdg : decode cc pc = .ok (.invokestatic index, 3))
    (kk : ∀ (r : Int32) (S1 : zS) (H1 : Heap) (locs1 : List Loc), post r S1 → zL D cI cZ ad bd s H1 locs1 S1 S1 → W p l e R s m args below meth c H1 locs1 (cells + mc) (slots + ms) Q (F0 m (pc + 3) ls (.int r :: rest))) : W p l e R s m args below meth c H locs cells slots Q (F0 m pc ls st0) := by
  obtain ⟨hK, hE, hGa, hGb, hab, hBa, hBb⟩ := X0
  have hBB : ∀ q, zBB Ba Bb q → s.heap.size ≤ q := fun q h => h.elim (hBa q) (hBb q)
  exact va_calli (va_runS (As := As) (rest := rest) Sx (hM H.size) cw ⟨zPc_blind, z_pre2 (w := wXX cI cZ ad bd) (u := S) hK hE (hR.1.app hR.2.1) hR.2.2 hBB (fun q h => h) _⟩ rfl hn hl.1 hst (lv_room hrest) hdg hcs) hR.2.2 (fun q _ h => z_lA hBB hR.2.2 q h) (z_lA hBB hR.2.2) (fun r u t H1 locs1 ht hvm hw hB hz1 hk1 hS => kk r u H1 locs1 hw ⟨by rw [← ht]; exact z_Pfirst hB.1, by rw [← ht]; exact z_Psecond hB.1, hS⟩)
/-- the script's next cell -/
def zCPc (b L k : Nat) (xs : Nat → Int32) : Array Value → State → Prop := va_Pc [.ref b, .int (nI k)] (fun U => va_X b L xs U U.heap ∧ b < U.heap.size)
theorem zCPc_blind {b L k : Nat} {xs : Nat → Int32} : FrameBlind (zCPc b L k xs) := by
  intro a U g mk q
  obtain ⟨q0, q1, q2⟩ := q
  exact ⟨q0, va_X.moved (u := U) (U := U.calling g mk a) (Vm.Alike.refl U.vm) q1, q2⟩
set_option maxHeartbeats 4000000 in
set_option maxRecDepth 100000 in
theorem c_L_cell {l : Launch} (b L k : Nat) (xs : Nat → Int32) (hL : L ≤ 260) (hk : k < 140) : Met l yL_cell wsL_cell ({ frames := 0, cells := 0, slots := 0, locals := 0 } : Room) (zCPc b L k xs) (va_Qi (fun (_ : Int32) (_ : Unit) => True) (fun _ _ => True) (fun _ => False)) 0 0 (fun _ => False) := by
  refine Met.ofW (cc := cL_cell) (maxL := 2) (ret := some .int) (by decide) rfl ?_
  intro p e s m args below meth c s₁ Bd hml hv
  obtain ⟨rfl, hX, hbl⟩ := hv
  have hl := lv_entry [Value.ref b, .int (nI k)] (n := 2) (Nat.le_of_ble_eq_true rfl)
  rw [lg_entry_eq]
  generalize (lg_sl [Value.ref b, .int (nI k)] ++ List.replicate (2 - (lg_sl [Value.ref b, .int (nI k)]).length) Slot.unset).toArray = ls at hl ⊢
  have hl : lv_has ls 2 [(0, .ref b), (1, .int (nI k))] := hl
  have hx := Bd.exec
  have hb := Bd.bytes
  have hr := Bd.returns
  have hlk := Bd.notSynchronized
  have hS : va_S (fun _ => False) s.heap s.heap [] := va_S.rf
  refine lv_iload_n hx hb dL_cell_0 rfl (lv_at hl 1 rfl) ?_
  refine lv_aload_n hx hb dL_cell_1 rfl (lv_at hl 0 rfl) ?_
  refine va_slen hx hb hX hbl (fun h => h) hS dL_cell_2 ?_
  refine z_ge_n (x := k) (y := L) (tgt := 12) hx hb dL_cell_3 (by decide) (by omega) (by omega) (fun h => ?_) (fun h => ?_)
  · refine lv_sipush (v := nI 7919) hx hb dL_cell_12 (by decide) ?_
    refine lv_iload_n hx hb dL_cell_15 rfl (lv_at hl 1 rfl) ?_
    refine lv_sipush (v := nI 197) hx hb dL_cell_16 (by decide) ?_
    refine lv_iadd hx hb dL_cell_19 ?_
    refine lv_imul hx hb dL_cell_20 ?_
    refine lv_iload_n hx hb dL_cell_21 rfl (lv_at hl 1 rfl) ?_
    refine lv_sipush (v := nI 2399) hx hb dL_cell_22 (by decide) ?_
    refine lv_iadd hx hb dL_cell_25 ?_
    refine lv_imul hx hb dL_cell_26 ?_
    exact W.iret hx hb hr (fun t ht _ => ⟨⟨_, (), rfl, trivial, trivial⟩, hS.F ht⟩) hS.2.2 dL_cell_27 hlk
  · refine lv_aload_n hx hb dL_cell_6 rfl (lv_at hl 0 rfl) ?_
    refine lv_iload_n hx hb dL_cell_7 rfl (lv_at hl 1 rfl) ?_
    refine va_sld hx hb hX hbl (fun h => h) hS (vp_in_nI h (by omega)) dL_cell_8 ?_
    refine lv_goto (tgt := 27) hx hb dL_cell_9 (by decide) ?_
    exact W.iret hx hb hr (fun t ht _ => ⟨⟨_, (), rfl, trivial, trivial⟩, hS.F ht⟩) hS.2.2 dL_cell_27 hlk
theorem z_lcell {b L k : Nat} {xs : Nat → Int32} (Sx : CallFix p m c cc nL s args Ts own) (hX : va_X b L xs s s.heap) (hbl : b < s.heap.size) (hR : zL D cI cZ ad bd s H locs S T) (hL : L ≤ 260) (hk : k < 140) (cw : CallB R s args own index yL_cell bytes maxL ret wsL_cell ({ frames := 0, cells := 0, slots := 0, locals := 0 } : Room) 0 0 2 ∧ (Cond.static yL_cell).before args s = true) (hl : lv_has ls nL lv) (hrest : (rest.map fun v => v.category).sum ≤ 8) (hcs : cells + 0 ≤ R.cells ∧ slots + 0 ≤ R.slots) (hdg : decode cc pc = .ok (.invokestatic index, 3))
    (kk : ∀ (r : Int32) (H1 : Heap) (locs1 : List Loc), zL D cI cZ ad bd s H1 locs1 S T → W p l e R s m args below meth c H1 locs1 cells slots Q (F0 m (pc + 3) ls (.int r :: rest))) : W p l e R s m args below meth c H locs cells slots Q (F0 m pc ls (.int (nI k) :: .ref b :: rest)) := by
  have hbA : ¬ zLA s b := fun h => absurd hbl (Nat.not_lt.mpr h)
  refine va_calli (va_runS (As := [.ref b, .int (nI k)]) (rest := rest) Sx (c_L_cell b L k xs hL hk) cw ⟨zCPc_blind, fun U hU hW => ⟨rfl, ?_, ?_⟩⟩ rfl rfl hl.1 rfl (lv_room hrest) hdg hcs) hR.2.2 (fun _ _ h => h.elim) (fun _ h => h.elim) (fun r u t H1 locs1 ht hvm hw hB hz1 hk1 hS => kk r H1 locs1 ⟨hR.1.kept (fun k q h => hk1 q.1 ((hR.1 k q h).lt) (fun z => z)), hR.2.1.kept (fun k q h => hk1 q.1 ((hR.2.1 k q h).lt) (fun z => z)), hS⟩)
  · rw [hU]
    exact va_X.moved hW.alike (hX.kept (hR.2.2.2.1 b hbl hbA))
  · rw [hU]
    exact Nat.lt_of_lt_of_le hbl hR.2.2.1
end ZLW
