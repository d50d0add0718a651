/-! two objects of the class, alike -/
theorem z_first {A : Nat → Prop} {ws ws' : va_W} (h : va_D A (ws ++ ws')) : va_D (fun q => q ∈ ws.map Prod.fst) ws ∧ (∀ q, q ∈ ws.map Prod.fst → A q ∧ ∀ r ∈ ws', r.1 ≠ q) := by
  have hL : ∀ k x, ws[k]? = some x → (ws ++ ws')[k]? = some x := fun k x hk => by rw [List.getElem?_append_left (List.getElem?_eq_some_iff.mp hk).1]; exact hk
  refine ⟨⟨fun i j p q hi hj e => h.1 i j p q (hL i p hi) (hL j q hj) e, fun k q hk => List.mem_map.mpr ⟨q, List.mem_of_getElem? hk, rfl⟩⟩, fun q hq => ?_⟩
  obtain ⟨x, hx, rfl⟩ := List.mem_map.mp hq
  obtain ⟨i, hi⟩ := List.getElem?_of_mem hx
  refine ⟨h.2 i x (hL i x hi), fun r hr e => ?_⟩
  obtain ⟨j, hj⟩ := List.getElem?_of_mem hr
  have h1 := h.1 i (ws.length + j) x r (hL i x hi) (by rw [List.getElem?_append_right (Nat.le_add_right _ _), Nat.add_sub_cancel_left]; exact hj) e.symm
  have h2 := (List.getElem?_eq_some_iff.mp hi).1
  omega
theorem z_second {A : Nat → Prop} {ws ws' : va_W} (h : va_D A (ws ++ ws')) : va_D A ws' := by
  have hL : ∀ k x, ws'[k]? = some x → (ws ++ ws')[ws.length + k]? = some x := fun k x hk => by rw [List.getElem?_append_right (Nat.le_add_right _ _), Nat.add_sub_cancel_left]; exact hk
  refine ⟨fun i j p q hi hj e => ?_, fun k q hk => h.2 _ q (hL k q hk)⟩
  have := h.1 _ _ p q (hL i p hi) (hL j q hj) e
  omega
theorem z_Pfirst {D : va_G} {ws ws' : va_W} {H : Heap} (h : va_P D vwCl (ws ++ ws') H) : va_P D vwCl ws H := fun k x hk => h k x (by rw [List.getElem?_append_left (List.getElem?_eq_some_iff.mp hk).1]; exact hk)
theorem z_Psecond {D : va_G} {ws ws' : va_W} {H : Heap} (h : va_P D vwCl (ws ++ ws') H) : va_P D vwCl ws' H := fun k x hk => h (ws.length + k) x (by rw [List.getElem?_append_right (Nat.le_add_right _ _), Nat.add_sub_cancel_left]; exact hk)
def wXX (cI cZ : ClassId) (ad bd : Nat → Nat) (S : zS) : va_W := wX cI cZ ad S ++ wX cI cZ bd S
def zBB (Ba Bb : Nat → Prop) : Nat → Prop := fun q => Ba q ∨ Bb q
section ZTW
variable {p : Program} {l : Launch} {e : Env} {R : Room} {s : State} {m : MethodId} {args : Array Value} {below : List Frame} {meth : Method} {c : Code} {H : Heap} {locs : List Loc} {cells slots : Nat} {Q : State → Prop}
variable {cc : ByteArray} {pc : Nat} {ls : Array Slot} {rest st0 : List Value} {D : va_G} {B Ba Bb : Nat → Prop} {cI cZ : ClassId} {ad bd : Nat → Nat} {S : zS}
variable {y : MethodName} {bytes : ByteArray} {maxL nL n index : Nat} {ret : Option FieldType} {ws Ts : List Cond} {rm : Room} {own : String} {As : List Value} {lv : List (Nat × Value)}
/-- a look at the first -/
theorem z_call2a_i {post : Int32 → zS → Prop} (Sx : CallFix p m c cc nL s args Ts own) (hB : B = zBB Ba Bb) (hab : ∀ q, Ba q → ¬ Bb q) (hG : ∀ S : zS, va_D Bb (wX cI cZ bd S)) (hF : zF D (zT cI cZ) B s) (hR : zR D B (wXX cI cZ ad bd S) s H locs) (hM : zMi l y ws rm (.ref (ad 0) :: As) D (zT cI cZ) Ba (wX cI cZ ad) S post) (hpost : ∀ r S1, post r S1 → S1 = S) (cw : CallW R s args own RX4 index y bytes maxL ret ws rm 0 0 n) (hn : As.length = n) (hl : lv_has ls nL lv) (hst : st0 = As.reverse ++ .ref (ad 0) :: rest) (hrest : (rest.map fun v => v.category).sum ≤ 8) (hcs : cells + 0 ≤ R.cells ∧ slots + 0 ≤ R.slots) (hdg : decode cc pc = .ok (.invokevirtual index, 3))
    (kk : ∀ (r : Int32) (H1 : Heap) (locs1 : List Loc), post r S → zR D B (wXX cI cZ ad bd S) s H1 locs1 → W p l e R s m args below meth c H1 locs1 cells slots Q (F0 m (pc + 3) ls (.int r :: rest))) : W p l e R s m args below meth c H locs cells slots Q (F0 m pc ls st0) := by
  subst hB
  have hP1 : va_P D vwCl (wX cI cZ ad S) H := z_Pfirst hR.1
  have hP2 : va_P D vwCl (wX cI cZ bd S) H := z_Psecond hR.1
  have hA : ∀ q, zA Ba H.size q → zA (zBB Ba Bb) s.heap.size q := fun q h => h.elim (fun z => Or.inl (Or.inl z)) (fun z => Or.inr (Nat.le_trans hR.2.1 z))
  refine va_calli (va_runV (As := As) (rest := rest) Sx (hM H.size) cw ⟨zPc_blind, va_recv hF.1 hP1 (ci := 4) (q0 := 0) rfl rfl, z_pre2 hF.1 hF.2 hP1 hR.2 (fun q h => Or.inl (Or.inl h)) (fun q h => Or.inr h) _⟩ rfl hn hl.1 hst (lv_room hrest) hdg hcs) hR.2 (fun q _ h => hA q h) hA (fun r u t H1 locs1 ht hvm hw hB hz1 hk1 hS => ?_)
  have e := hpost r u hw
  subst e
  exact kk r H1 locs1 hw ⟨va_P.app (by rw [← ht]; exact hB.1) (z_kept hP2 (A := Bb) (hG _).2 (fun q h z => hab q z h) hk1), hS⟩
/-- .. at the second -/
theorem z_call2b_i {post : Int32 → zS → Prop} (Sx : CallFix p m c cc nL s args Ts own) (hB : B = zBB Ba Bb) (hab : ∀ q, Ba q → ¬ Bb q) (hG : ∀ S : zS, va_D Ba (wX cI cZ ad S)) (hF : zF D (zT cI cZ) B s) (hR : zR D B (wXX cI cZ ad bd S) s H locs) (hM : zMi l y ws rm (.ref (bd 0) :: As) D (zT cI cZ) Bb (wX cI cZ bd) S post) (hpost : ∀ r S1, post r S1 → S1 = S) (cw : CallW R s args own RX4 index y bytes maxL ret ws rm 0 0 n) (hn : As.length = n) (hl : lv_has ls nL lv) (hst : st0 = As.reverse ++ .ref (bd 0) :: rest) (hrest : (rest.map fun v => v.category).sum ≤ 8) (hcs : cells + 0 ≤ R.cells ∧ slots + 0 ≤ R.slots) (hdg : decode cc pc = .ok (.invokevirtual index, 3))
    (kk : ∀ (r : Int32) (H1 : Heap) (locs1 : List Loc), post r S → zR D B (wXX cI cZ ad bd S) s H1 locs1 → W p l e R s m args below meth c H1 locs1 cells slots Q (F0 m (pc + 3) ls (.int r :: rest))) : W p l e R s m args below meth c H locs cells slots Q (F0 m pc ls st0) := by
  subst hB
  have hP1 : va_P D vwCl (wX cI cZ ad S) H := z_Pfirst hR.1
  have hP2 : va_P D vwCl (wX cI cZ bd S) H := z_Psecond hR.1
  have hA : ∀ q, zA Bb H.size q → zA (zBB Ba Bb) s.heap.size q := fun q h => h.elim (fun z => Or.inl (Or.inr z)) (fun z => Or.inr (Nat.le_trans hR.2.1 z))
  refine va_calli (va_runV (As := As) (rest := rest) Sx (hM H.size) cw ⟨zPc_blind, va_recv hF.1 hP2 (ci := 4) (q0 := 0) rfl rfl, z_pre2 hF.1 hF.2 hP2 hR.2 (fun q h => Or.inl (Or.inr h)) (fun q h => Or.inr h) _⟩ rfl hn hl.1 hst (lv_room hrest) hdg hcs) hR.2 (fun q _ h => hA q h) hA (fun r u t H1 locs1 ht hvm hw hB hz1 hk1 hS => ?_)
  have e := hpost r u hw
  subst e
  exact kk r H1 locs1 hw ⟨va_P.app (z_kept hP1 (A := Ba) (hG _).2 (fun q h z => hab q h z) hk1) (by rw [← ht]; exact hB.1), hS⟩
end ZTW
