/-! my own kit: worlds as lists of cells at fixed addresses, a state as rows of numbers; contracts that keep the addresses -/
section ZK
abbrev zS : Type := Nat → Nat → Int32
def zU (S : zS) (k : Nat) (f : Nat → Int32) : zS := fun j => if j = k then f else S j
/-- one's own addresses, and new ones -/
def zA (B : Nat → Prop) (sz : Nat) : Nat → Prop := fun q => B q ∨ sz ≤ q
abbrev zIO : String := "java/lang/IndexOutOfBoundsException"
abbrev zIA : String := "java/lang/IllegalArgumentException"
abbrev zIS : String := "java/lang/IllegalStateException"
/-- the texts of the class's exceptions: place in its pool, text -/
def zStrs : List (Nat × String) := [(78, "a value is 1 to 100"), (88, "the partition has 60 events"), (99, "there is no event to read, or no room in its channel"), (109, "there is no barrier to send"), (114, "a channel of the partition has 8 items"), (130, "the channel has no item, or is blocked"), (135, "rounds are 1 to 20"), (147, "no sealed transaction of a complete checkpoint"), (156, "a checkpoint is under way, or a transaction is sealed"), (161, "no checkpoint is under way"), (173, "workers are 1 to 4"), (183, "there is no such offset"), (192, "there is no such item"), (217, "there is no such partition"), (219, "there is no such key"), (221, "there is no such worker")]
def zNws : List Cond := [.castable zIO zIO, .castable zIA zIA, .castable zIS zIS, .methodLinkNest RX4 9 yX1_init RX4, .methodLinkNest RX4 18 yX2_init RX4, .methodLinkNest RX4 25 yX0_init RX4, .methodLinkNest RX4 32 yX3_init RX4, .methodLinkNest RX1 22 yX4_keyOf RX4, .methodLinkNest RX1 26 yX4_valueOf RX4, .methodLinkNest RX0 33 yX4_keyOf RX4, .methodLinkNest RX0 37 yX4_valueOf RX4, .declares (Bundle.initS "java/lang/RuntimeException"), .declares (Bundle.initS "java/lang/Exception"), .declares (Bundle.initS Bundle.tN)]
def zNcs : List (String × String) := [(zIO, zIA), (zIO, zIS), (zIA, zIO), (zIA, zIS), (zIS, zIO), (zIS, zIA)]
/-- what throws, catches and nest mates need of the state -/
def zE (A : Nat → Prop) (U : State) (H : Heap) : Prop := vx_Zq Bundle.tN "UNASSIGNED_STACK" Bundle.steD A U H ∧ vx_Zq Bundle.tN "SUPPRESSED_SENTINEL" Bundle.listD A U H ∧ (∀ w ∈ zNws, va_Nw w U) ∧ (∀ q ∈ zNcs, va_Nc q.1 q.2 U) ∧ ∀ q ∈ zStrs, ∃ a, vk_R RX4 q.1 q.2 a U
theorem zNws_warm {s U : State} (hW : s.WarmedH U.vm) (h : ∀ w ∈ zNws, va_Nw w s) : ∀ w ∈ zNws, va_Nw w U := by
  intro w hw
  have h1 := h w hw
  unfold zNws at hw
  simp only [List.mem_cons, List.not_mem_nil, or_false] at hw
  rcases hw with rfl | rfl | rfl | rfl | rfl | rfl | rfl | rfl | rfl | rfl | rfl | rfl | rfl | rfl <;> first | exact va_Nw.warmC hW h1 | exact va_Nw.warmM hW h1 | exact va_Nw.warmD hW h1
theorem zNws_tab : ∀ w ∈ zNws, w.onTables = true := by decide +kernel
theorem zZ_wide {C n d : String} {v : Value} {A : Nat → Prop} {U : State} {H : Heap} (h : va_Z C n d v A U H) : va_Z C n d v (fun q => A q ∨ H.size ≤ q) U H := by
  obtain ⟨cf, kf, fi, f, a, cell, q1, q2, q3, q4, q5, q6, q7, q8⟩ := h
  exact ⟨cf, kf, fi, f, a, cell, q1, q2, q3, q4, q5, q6, q7, fun z => z.elim q8 (fun q => absurd (Array.getElem?_eq_some_iff.mp q5).1 (Nat.not_lt.mpr q))⟩
theorem zZq_wide {C n d : String} {A : Nat → Prop} {U : State} {H : Heap} (h : vx_Zq C n d A U H) : vx_Zq C n d (fun q => A q ∨ H.size ≤ q) U H := by
  obtain ⟨h1, c, k, i, f, a, cell, g1, g2, g3, g4, g5, g6, g7, g8, g9, g10⟩ := h
  refine ⟨?_, c, k, i, f, a, cell, g1, g2, g3, g4, g5, g6, g7, g8, g9, fun z => z.elim g10 (fun q => absurd (Array.getElem?_eq_some_iff.mp g5).1 (Nat.not_lt.mpr q))⟩
  rcases h1 with h1 | ⟨t, h1⟩
  · exact Or.inl (zZ_wide h1)
  · exact Or.inr ⟨t, zZ_wide h1⟩
theorem zE.next {A A' : Nat → Prop} {u U : State} {H H1 : Heap} (hW : u.WarmedH U.vm) (hAA : ∀ q, A' q → A q ∨ H.size ≤ q) (hq : ∀ a : Nat, a < H.size → ¬ A a → H1[a]? = H[a]?) (h : zE A u H) : zE A' U H1 := by
  obtain ⟨h1, h2, h3, h4, h6⟩ := h
  have nr : ∀ {C n d : String}, vx_Zq C n d A u H → vx_Zq C n d A' U H1 := fun h => vx_Zq.moved hW.alike (vx_Zq.narrow (vx_Zq.kept (zZq_wide h) (fun a hl hn => hq a hl (fun z => hn (Or.inl z)))) hAA)
  exact ⟨nr h1, nr h2, zNws_warm hW h3, fun q hq => (h4 q hq).moved hW.alike, fun q hq => by obtain ⟨a, h⟩ := h6 q hq; exact ⟨a, h.warm hW⟩⟩
/-- where a method stands: its world, and what it has written so far -/
def zR (D : va_G) (B : Nat → Prop) (w : va_W) (s : State) (H : Heap) (locs : List Loc) : Prop := va_P D vwCl w H ∧ va_S (zA B s.heap.size) s.heap H locs
/-- what stays over a method -/
def zF (D : va_G) (tys : List (ClassId × FieldType)) (B : Nat → Prop) (s : State) : Prop := va_K D vwCl tys s ∧ zE (zA B s.heap.size) s s.heap
def zPc {σ : Type} (D : va_G) (tys : List (ClassId × FieldType)) (B : Nat → Prop) (w : σ → va_W) (av : List Value) (S : σ) (sz : Nat) : Array Value → State → Prop := va_Pc av (fun U => U.heap.size = sz ∧ va_P D vwCl (w S) U.heap ∧ va_K D vwCl tys U ∧ zE (zA B sz) U U.heap)
def zB {σ : Type} (D : va_G) (tys : List (ClassId × FieldType)) (w : σ → va_W) (S : σ) (t : State) : Prop := va_P D vwCl (w S) t.heap ∧ va_K D vwCl tys t
def zMi {σ : Type} (l : Launch) (y : MethodName) (ws : List Cond) (rm : Room) (av : List Value) (D : va_G) (tys : List (ClassId × FieldType)) (B : Nat → Prop) (w : σ → va_W) (S : σ) (post : Int32 → σ → Prop) : Prop :=
  ∀ sz, Met l y ws rm (zPc D tys B w av S sz) (va_Qi post (zB D tys w) (zA B sz)) 0 0 (zA B sz)
def zMv {σ : Type} (l : Launch) (y : MethodName) (ws : List Cond) (rm : Room) (av : List Value) (D : va_G) (tys : List (ClassId × FieldType)) (B : Nat → Prop) (w : σ → va_W) (S : σ) (post : σ → Prop) : Prop :=
  ∀ sz, Met l y ws rm (zPc D tys B w av S sz) (va_Qv post (zB D tys w) (zA B sz)) 0 0 (zA B sz)
/-- .. and where it may throw: px says when, and what -/
def zMXi {σ : Type} (l : Launch) (y : MethodName) (ws : List Cond) (rm : Room) (av : List Value) (D : va_G) (tys : List (ClassId × FieldType)) (B : Nat → Prop) (w : σ → va_W) (S : σ) (post : Int32 → σ → Prop) (px : String → Prop) : Prop :=
  ∀ sz, vx_Met l y ws rm (zPc D tys B w av S sz) (va_Qi post (zB D tys w) (zA B sz)) (vx_X px (fun E u t => E = u ∧ zB D tys w S t) (zA B sz)) 1 6 (zA B sz)
def zMXv {σ : Type} (l : Launch) (y : MethodName) (ws : List Cond) (rm : Room) (av : List Value) (D : va_G) (tys : List (ClassId × FieldType)) (B : Nat → Prop) (w : σ → va_W) (S : σ) (post : σ → Prop) (px : String → Prop) : Prop :=
  ∀ sz, vx_Met l y ws rm (zPc D tys B w av S sz) (va_Qv post (zB D tys w) (zA B sz)) (vx_X px (fun E u t => E = u ∧ zB D tys w S t) (zA B sz)) 1 6 (zA B sz)
theorem zPc_blind {σ : Type} {D : va_G} {tys : List (ClassId × FieldType)} {B : Nat → Prop} {w : σ → va_W} {av : List Value} {S : σ} {sz : Nat} : FrameBlind (zPc D tys B w av S sz) := by
  intro a U g mk q
  obtain ⟨q0, q1, qP, qK, qE⟩ := q
  exact ⟨q0, q1, qP, va_K.moved (u := U) (U := U.calling g mk a) (Vm.Alike.refl U.vm) qK, zE.next (u := U) (U := U.calling g mk a) (State.WarmedH.refl U) (fun q h => Or.inl h) (fun _ _ _ => rfl) qE⟩
theorem zMi_of {σ : Type} {l : Launch} {y : MethodName} {ws ws' : List Cond} {rm : Room} {av : List Value} {D : va_G} {tys : List (ClassId × FieldType)} {B : Nat → Prop} {w : σ → va_W} {S : σ} {post : Int32 → σ → Prop} {cc : ByteArray} {maxL : Nat} {ret : Option FieldType} (hy : plainName y.cls = true) (hw : ws = Cond.code y cc maxL ret :: ws') (hav : (lg_sl av).length ≤ maxL)
    (body : ∀ (p : Program) (e : Env) (s : State) (m : MethodId) (below : List Frame) (meth : Method) (c : Code), p.tables.exec = Jvm.exec → c.code = cc → meth.sig.returnType = ret → c.maxLocals = maxL → s.vm.findClass y.cls = some m.cls → (∀ w ∈ ws, w.before av.toArray s = true) → meth.locks = false → zF D tys B s → zR D B (w S) s s.heap [] → ∀ ls : Array Slot, lv_has ls maxL (lv_args 0 av) → W p l e rm s m av.toArray below meth c s.heap [] 0 0 (MQ below (va_Qi post (zB D tys w) (zA B s.heap.size)) av.toArray s 0 0 (zA B s.heap.size)) (F0 m 0 ls [])) : zMi l y ws rm av D tys B w S post := by
  intro sz
  refine Met.ofW (cc := cc) (maxL := maxL) (ret := ret) hy hw ?_
  intro p e s m args below meth c s₁ Bd hml hv
  obtain ⟨rfl, hsz, hP, hK, hE⟩ := hv
  subst hsz
  have hl := lv_entry av (n := maxL) hav
  rw [lg_entry_eq]
  generalize (lg_sl av ++ List.replicate (maxL - (lg_sl av).length) Slot.unset).toArray = ls at hl ⊢
  exact body p e s m below meth c Bd.exec Bd.bytes Bd.returns hml (findClass_of_methodNamed Bd.named) (atoms_spec (ws := ws) Bd.pre) Bd.notSynchronized ⟨hK, hE⟩ ⟨hP, va_S.rf⟩ ls hl
theorem zMv_of {σ : Type} {l : Launch} {y : MethodName} {ws ws' : List Cond} {rm : Room} {av : List Value} {D : va_G} {tys : List (ClassId × FieldType)} {B : Nat → Prop} {w : σ → va_W} {S : σ} {post : σ → Prop} {cc : ByteArray} {maxL : Nat} {ret : Option FieldType} (hy : plainName y.cls = true) (hw : ws = Cond.code y cc maxL ret :: ws') (hav : (lg_sl av).length ≤ maxL)
    (body : ∀ (p : Program) (e : Env) (s : State) (m : MethodId) (below : List Frame) (meth : Method) (c : Code), p.tables.exec = Jvm.exec → c.code = cc → meth.sig.returnType = ret → c.maxLocals = maxL → s.vm.findClass y.cls = some m.cls → (∀ w ∈ ws, w.before av.toArray s = true) → meth.locks = false → zF D tys B s → zR D B (w S) s s.heap [] → ∀ ls : Array Slot, lv_has ls maxL (lv_args 0 av) → W p l e rm s m av.toArray below meth c s.heap [] 0 0 (MQ below (va_Qv post (zB D tys w) (zA B s.heap.size)) av.toArray s 0 0 (zA B s.heap.size)) (F0 m 0 ls [])) : zMv l y ws rm av D tys B w S post := by
  intro sz
  refine Met.ofW (cc := cc) (maxL := maxL) (ret := ret) hy hw ?_
  intro p e s m args below meth c s₁ Bd hml hv
  obtain ⟨rfl, hsz, hP, hK, hE⟩ := hv
  subst hsz
  have hl := lv_entry av (n := maxL) hav
  rw [lg_entry_eq]
  generalize (lg_sl av ++ List.replicate (maxL - (lg_sl av).length) Slot.unset).toArray = ls at hl ⊢
  exact body p e s m below meth c Bd.exec Bd.bytes Bd.returns hml (findClass_of_methodNamed Bd.named) (atoms_spec (ws := ws) Bd.pre) Bd.notSynchronized ⟨hK, hE⟩ ⟨hP, va_S.rf⟩ ls hl
theorem zMXi_of {σ : Type} {l : Launch} {y : MethodName} {ws ws' : List Cond} {rm : Room} {av : List Value} {D : va_G} {tys : List (ClassId × FieldType)} {B : Nat → Prop} {w : σ → va_W} {S : σ} {post : Int32 → σ → Prop} {px : String → Prop} {cc : ByteArray} {maxL : Nat} {ret : Option FieldType} (hy : plainName y.cls = true) (hw : ws = Cond.code y cc maxL ret :: ws') (hav : (lg_sl av).length ≤ maxL)
    (body : ∀ (p : Program) (e : Env) (s : State) (m : MethodId) (below : List Frame) (meth : Method) (c : Code), p.tables.exec = Jvm.exec → c.code = cc → meth.sig.returnType = ret → c.maxLocals = maxL → s.vm.findClass y.cls = some m.cls → (∀ w ∈ ws, w.before av.toArray s = true) → meth.locks = false → (∀ x ∈ c.exceptionTable.toList, False) → zF D tys B s → zR D B (w S) s s.heap [] → ∀ ls : Array Slot, lv_has ls maxL (lv_args 0 av) → W p l e rm s m av.toArray below meth c s.heap [] 0 0 (vx_MQ below (va_Qi post (zB D tys w) (zA B s.heap.size)) (vx_X px (fun E u t => E = u ∧ zB D tys w S t) (zA B s.heap.size)) av.toArray s 1 6 (zA B s.heap.size)) (F0 m 0 ls [])) : zMXi l y ws rm av D tys B w S post px := by
  intro sz
  refine vx_ofW (cc := cc) (maxL := maxL) (ret := ret) hy hw ?_
  intro p e s m args below meth c s₁ Bd hml hex hv
  obtain ⟨rfl, hsz, hP, hK, hE⟩ := hv
  subst hsz
  have hl := lv_entry av (n := maxL) hav
  rw [lg_entry_eq]
  generalize (lg_sl av ++ List.replicate (maxL - (lg_sl av).length) Slot.unset).toArray = ls at hl ⊢
  exact body p e s m below meth c Bd.exec Bd.bytes Bd.returns hml (findClass_of_methodNamed Bd.named) (atoms_spec (ws := ws) Bd.pre) Bd.notSynchronized hex ⟨hK, hE⟩ ⟨hP, va_S.rf⟩ ls hl
theorem zMXv_of {σ : Type} {l : Launch} {y : MethodName} {ws ws' : List Cond} {rm : Room} {av : List Value} {D : va_G} {tys : List (ClassId × FieldType)} {B : Nat → Prop} {w : σ → va_W} {S : σ} {post : σ → Prop} {px : String → Prop} {cc : ByteArray} {maxL : Nat} {ret : Option FieldType} (hy : plainName y.cls = true) (hw : ws = Cond.code y cc maxL ret :: ws') (hav : (lg_sl av).length ≤ maxL)
    (body : ∀ (p : Program) (e : Env) (s : State) (m : MethodId) (below : List Frame) (meth : Method) (c : Code), p.tables.exec = Jvm.exec → c.code = cc → meth.sig.returnType = ret → c.maxLocals = maxL → s.vm.findClass y.cls = some m.cls → (∀ w ∈ ws, w.before av.toArray s = true) → meth.locks = false → (∀ x ∈ c.exceptionTable.toList, False) → zF D tys B s → zR D B (w S) s s.heap [] → ∀ ls : Array Slot, lv_has ls maxL (lv_args 0 av) → W p l e rm s m av.toArray below meth c s.heap [] 0 0 (vx_MQ below (va_Qv post (zB D tys w) (zA B s.heap.size)) (vx_X px (fun E u t => E = u ∧ zB D tys w S t) (zA B s.heap.size)) av.toArray s 1 6 (zA B s.heap.size)) (F0 m 0 ls [])) : zMXv l y ws rm av D tys B w S post px := by
  intro sz
  refine vx_ofW (cc := cc) (maxL := maxL) (ret := ret) hy hw ?_
  intro p e s m args below meth c s₁ Bd hml hex hv
  obtain ⟨rfl, hsz, hP, hK, hE⟩ := hv
  subst hsz
  have hl := lv_entry av (n := maxL) hav
  rw [lg_entry_eq]
  generalize (lg_sl av ++ List.replicate (maxL - (lg_sl av).length) Slot.unset).toArray = ls at hl ⊢
  exact body p e s m below meth c Bd.exec Bd.bytes Bd.returns hml (findClass_of_methodNamed Bd.named) (atoms_spec (ws := ws) Bd.pre) Bd.notSynchronized hex ⟨hK, hE⟩ ⟨hP, va_S.rf⟩ ls hl
variable {p : Program} {l : Launch} {e : Env} {R : Room} {s : State} {m : MethodId} {args : Array Value} {below : List Frame} {meth : Method} {c : Code} {H : Heap} {locs : List Loc} {cells slots : Nat} {Q : State → Prop}
variable {cc : ByteArray} {pc : Nat} {ls : Array Slot} {rest : List Value} {D : va_G} {tys : List (ClassId × FieldType)} {B : Nat → Prop} {W0 : va_W}
/-! ends -/
theorem z_iret {σ : Type} {w : σ → va_W} {post : Int32 → σ → Prop} {S1 : σ} {v : Int32} (hx : p.tables.exec = Jvm.exec) (hb : c.code = cc) (hr : meth.sig.returnType = some .int) (hlk : meth.locks = false) (hF : zF D tys B s) (hR : zR D B (w S1) s H locs) (hdg : decode cc pc = .ok (.ireturn, 1)) (hp : post v S1) : W p l e R s m args below meth c H locs cells slots (MQ below (va_Qi post (zB D tys w) (zA B s.heap.size)) args s cells slots (zA B s.heap.size)) (F0 m pc ls [.int v]) :=
  W.iret hx hb hr (fun t ht hW => ⟨⟨v, S1, rfl, hp, by rw [ht]; exact hR.1, va_K.moved hW.alike hF.1⟩, hR.2.F ht⟩) hR.2.2.2 hdg hlk
theorem z_zret {σ : Type} {w : σ → va_W} {post : Int32 → σ → Prop} {S1 : σ} {v : Int32} (hx : p.tables.exec = Jvm.exec) (hb : c.code = cc) (hr : meth.sig.returnType = some .boolean) (hlk : meth.locks = false) (hF : zF D tys B s) (hR : zR D B (w S1) s H locs) (hdg : decode cc pc = .ok (.ireturn, 1)) (hv : v = nI 0 ∨ v = nI 1) (hp : post v S1) : W p l e R s m args below meth c H locs cells slots (MQ below (va_Qi post (zB D tys w) (zA B s.heap.size)) args s cells slots (zA B s.heap.size)) (F0 m pc ls [.int v]) :=
  W.zret hx hb hr (by rcases hv with rfl | rfl <;> rfl) (fun t ht hW => ⟨⟨v, S1, rfl, hp, by rw [ht]; exact hR.1, va_K.moved hW.alike hF.1⟩, hR.2.F ht⟩) hR.2.2.2 hdg hlk
theorem z_vret {σ : Type} {w : σ → va_W} {post : σ → Prop} {S1 : σ} (hx : p.tables.exec = Jvm.exec) (hb : c.code = cc) (hr : meth.sig.returnType = none) (hlk : meth.locks = false) (hF : zF D tys B s) (hR : zR D B (w S1) s H locs) (hdg : decode cc pc = .ok (.return_, 1)) (hp : post S1) : W p l e R s m args below meth c H locs cells slots (MQ below (va_Qv post (zB D tys w) (zA B s.heap.size)) args s cells slots (zA B s.heap.size)) (F0 m pc ls []) :=
  W.vret hx hb hr (fun t ht hW => ⟨⟨S1, rfl, hp, by rw [ht]; exact hR.1, va_K.moved hW.alike hF.1⟩, hR.2.F ht⟩) hR.2.2.2 hdg hlk
/-! numbers that are counts -/
theorem z_n31 {a b : Nat} (h : a ≤ b) (hb : b < 2147483648) : a < 2 ^ 31 := Nat.lt_of_le_of_lt h hb
theorem z_iald_n {q0 t0 : Nat} {a : Nat} {cA : ClassId} {n i : Nat} {f : Nat → Int32} (hx : p.tables.exec = Jvm.exec) (hb : c.code = cc) (hF : zF D tys B s) (hR : zR D B W0 s H locs) (ha : W0[q0]? = some (a, .inl (cA, n, .inl f))) (ht : tys[t0]? = some (cA, .int)) (hdg : decode cc pc = .ok (.iaload, 1)) (hn : n < 2 ^ 31) (hin : i < n)
    (kk : W p l e R s m args below meth c H locs cells slots Q (F0 m (pc + 1) ls (.int (f i) :: rest))) : W p l e R s m args below meth c H locs cells slots Q (F0 m pc ls (.int (nI i) :: .ref a :: rest)) := by
  refine va_iald hx hb hF.1 hR.1 q0 t0 ha ht (vp_in_nI hin hn) hdg ?_
  rw [nI_clamp (Nat.lt_trans hin hn)]
  exact kk
theorem z_zald_n {q0 t0 : Nat} {a : Nat} {cA : ClassId} {n i : Nat} {f : Nat → Int32} (hx : p.tables.exec = Jvm.exec) (hb : c.code = cc) (hF : zF D tys B s) (hR : zR D B W0 s H locs) (ha : W0[q0]? = some (a, .inl (cA, n, .inl f))) (ht : tys[t0]? = some (cA, .boolean)) (hdg : decode cc pc = .ok (.baload, 1)) (hn : n < 2 ^ 31) (hin : i < n)
    (kk : W p l e R s m args below meth c H locs cells slots Q (F0 m (pc + 1) ls (.int (f i) :: rest))) : W p l e R s m args below meth c H locs cells slots Q (F0 m pc ls (.int (nI i) :: .ref a :: rest)) := by
  refine va_zald hx hb hF.1 hR.1 q0 t0 ha ht (vp_in_nI hin hn) hdg ?_
  rw [nI_clamp (Nat.lt_trans hin hn)]
  exact kk
theorem z_iast_n {W1 : va_W} {q0 t0 : Nat} {a : Nat} {cA : ClassId} {n i : Nat} {f : Nat → Int32} {x : Int32} (hx : p.tables.exec = Jvm.exec) (hb : c.code = cc) (hF : zF D tys B s) (hG : va_D B W0) (hR : zR D B W0 s H locs) (ha : W0[q0]? = some (a, .inl (cA, n, .inl f))) (ht : tys[t0]? = some (cA, .int)) (hW1 : W0.set q0 (a, .inl (cA, n, .inl (upd f i x))) = W1) (hdg : decode cc pc = .ok (.iastore, 1)) (hn : n < 2 ^ 31) (hin : i < n)
    (kk : ∀ (H1 : Heap) (locs1 : List Loc), zR D B W1 s H1 locs1 → W p l e R s m args below meth c H1 locs1 cells slots Q (F0 m (pc + 1) ls rest)) : W p l e R s m args below meth c H locs cells slots Q (F0 m pc ls (.int x :: .int (nI i) :: .ref a :: rest)) := by
  refine va_iast hx hb hF.1 hR.1 (hG.weaken (fun _ _ _ h => Or.inl h)) hR.2 q0 t0 ha ht (vp_in_nI hin hn) hdg (fun H1 locs1 hP _ hS => ?_)
  rw [nI_clamp (Nat.lt_trans hin hn)] at hP
  exact kk H1 locs1 ⟨by rw [← hW1]; exact hP, hS⟩
theorem z_nar0 : vp_nar .boolean 0 = 0 := by decide +kernel
theorem z_nar1 : vp_nar .boolean 1 = 1 := by decide +kernel
theorem z_zast_n {W1 : va_W} {q0 t0 : Nat} {a : Nat} {cA : ClassId} {n i : Nat} {f : Nat → Int32} {x : Int32} (hx : p.tables.exec = Jvm.exec) (hb : c.code = cc) (hF : zF D tys B s) (hG : va_D B W0) (hR : zR D B W0 s H locs) (ha : W0[q0]? = some (a, .inl (cA, n, .inl f))) (ht : tys[t0]? = some (cA, .boolean)) (hW1 : W0.set q0 (a, .inl (cA, n, .inl (upd f i x))) = W1) (hdg : decode cc pc = .ok (.bastore, 1)) (hn : n < 2 ^ 31) (hin : i < n) (hv : vp_nar .boolean x = x)
    (kk : ∀ (H1 : Heap) (locs1 : List Loc), zR D B W1 s H1 locs1 → W p l e R s m args below meth c H1 locs1 cells slots Q (F0 m (pc + 1) ls rest)) : W p l e R s m args below meth c H locs cells slots Q (F0 m pc ls (.int x :: .int (nI i) :: .ref a :: rest)) := by
  refine va_zast hx hb hF.1 hR.1 (hG.weaken (fun _ _ _ h => Or.inl h)) hR.2 q0 t0 ha ht (vp_in_nI hin hn) hdg (fun H1 locs1 hP _ hS => ?_)
  rw [nI_clamp (Nat.lt_trans hin hn), hv] at hP
  exact kk H1 locs1 ⟨by rw [← hW1]; exact hP, hS⟩
theorem z_get {own ref C : String} {T : u_T} {N ci index q0 k a : Nat} {fs : List Value} {v : Value} {Ts : List Cond} (hx : p.tables.exec = Jvm.exec) (hb : c.code = cc) (hts : ∀ w ∈ Ts, w.before args s = true) (hin : ∀ w ∈ u_ws C T N, w ∈ Ts) (hown : s.vm.findClass own = some m.cls) (hF : zF D tys B s) (hR : zR D B W0 s H locs) (he : W0[q0]? = some (a, .inr (ci, fs))) (hc : vwCl[ci]? = some (C, T, N)) (hk : k < N) (hlink : (Cond.fieldLink own index ref (T k).2.1 (T k).2.2.1) ∈ Ts) (href : ref = (T k).1) (hv : fs[k]? = some v) (hdg : decode cc pc = .ok (.getfield index, 3))
    (kk : W p l e R s m args below meth c H locs cells slots Q (F0 m (pc + 3) ls (v :: rest))) : W p l e R s m args below meth c H locs cells slots Q (F0 m pc ls (.ref a :: rest)) :=
  va_get (D := D) (ci := ci) (v := v) (C := C) (T := T) (N := N) hx hb hts hin hown hF.1 hR.1 q0 he hc k hk (hts _ hlink) (by subst href; exact fun _ h9 => h9) hv hdg kk
theorem z_put {W1 : va_W} {own ref C : String} {T : u_T} {N ci index q0 k a : Nat} {fs : List Value} {v : Value} {ty : FieldType} {Ts : List Cond} (hx : p.tables.exec = Jvm.exec) (hb : c.code = cc) (hts : ∀ w ∈ Ts, w.before args s = true) (hin : ∀ w ∈ u_ws C T N, w ∈ Ts) (ty0 : Nat → FieldType) (hty : ∀ k, k < N → parseFieldDescriptor (T k).2.2.1 = some (ty0 k)) (hnm : ∀ a, a < N → ∀ b, b < N → a ≠ b → (T a).2.1 ≠ (T b).2.1) (hown : s.vm.findClass own = some m.cls) (hF : zF D tys B s) (hG : va_D B W0) (hR : zR D B W0 s H locs) (he : W0[q0]? = some (a, .inr (ci, fs))) (hc : vwCl[ci]? = some (C, T, N)) (hk : k < N) (hlink : (Cond.fieldLink own index ref (T k).2.1 (T k).2.2.1) ∈ Ts) (href : ref = (T k).1) (hfin : (T k).2.2.2 = false) (hd : parseFieldDescriptor (T k).2.2.1 = some ty) (hn : narrow ty v = v) (hfit : fits ty v = true) (hl : k < fs.length) (hW1 : W0.set q0 (a, .inr (ci, fs.set k v)) = W1) (hdg : decode cc pc = .ok (.putfield index, 3))
    (kk : ∀ (H1 : Heap) (locs1 : List Loc), zR D B W1 s H1 locs1 → W p l e R s m args below meth c H1 locs1 cells slots Q (F0 m (pc + 3) ls rest)) : W p l e R s m args below meth c H locs cells slots Q (F0 m pc ls (v :: .ref a :: rest)) :=
  va_put (D := D) (ci := ci) (v := v) (ty := ty) (C := C) (T := T) (N := N) hx hb hts hin ty0 hty hnm hown hF.1 hR.1 (hG.weaken (fun _ _ _ h => Or.inl h)) hR.2 q0 he hc k hk (hts _ hlink) (by subst href; exact fun _ h9 => h9) hfin hd hn hfit hl hdg (fun H1 locs1 hP _ hS => kk H1 locs1 ⟨by rw [← hW1]; exact hP, hS⟩)
/-! arithmetic on counts -/
theorem z_iadd_n {x y : Nat} (hx : p.tables.exec = Jvm.exec) (hb : c.code = cc) (hdg : decode cc pc = .ok (.iadd, 1)) (kk : W p l e R s m args below meth c H locs cells slots Q (F0 m (pc + 1) ls (.int (nI (x + y)) :: rest))) : W p l e R s m args below meth c H locs cells slots Q (F0 m pc ls (.int (nI y) :: .int (nI x) :: rest)) := by
  refine lv_iadd hx hb hdg ?_
  rw [nI_add]
  exact kk
theorem z_isub_n {x y : Nat} (hx : p.tables.exec = Jvm.exec) (hb : c.code = cc) (hdg : decode cc pc = .ok (.isub, 1)) (h : y ≤ x) (kk : W p l e R s m args below meth c H locs cells slots Q (F0 m (pc + 1) ls (.int (nI (x - y)) :: rest))) : W p l e R s m args below meth c H locs cells slots Q (F0 m pc ls (.int (nI y) :: .int (nI x) :: rest)) := by
  refine lv_isub hx hb hdg ?_
  rw [pk_sub h]
  exact kk
theorem z_imul_n {x y : Nat} (hx : p.tables.exec = Jvm.exec) (hb : c.code = cc) (hdg : decode cc pc = .ok (.imul, 1)) (kk : W p l e R s m args below meth c H locs cells slots Q (F0 m (pc + 1) ls (.int (nI (x * y)) :: rest))) : W p l e R s m args below meth c H locs cells slots Q (F0 m pc ls (.int (nI y) :: .int (nI x) :: rest)) := by
  refine lv_imul hx hb hdg ?_
  rw [pk_mul]
  exact kk
theorem z_idiv_n {x y : Nat} (hx : p.tables.exec = Jvm.exec) (hb : c.code = cc) (hdg : decode cc pc = .ok (.idiv, 1)) (h1 : x < 2 ^ 31) (h2 : 0 < y) (h3 : y < 2 ^ 31) (kk : W p l e R s m args below meth c H locs cells slots Q (F0 m (pc + 1) ls (.int (nI (x / y)) :: rest))) : W p l e R s m args below meth c H locs cells slots Q (F0 m pc ls (.int (nI y) :: .int (nI x) :: rest)) := by
  refine lv_idiv hx hb hdg (nI_ne0 h2 h3) ?_
  rw [pk_div h1 h2 h3]
  exact kk
theorem z_irem_n {x y : Nat} (hx : p.tables.exec = Jvm.exec) (hb : c.code = cc) (hdg : decode cc pc = .ok (.irem, 1)) (h1 : x < 2 ^ 31) (h2 : 0 < y) (h3 : y < 2 ^ 31) (kk : W p l e R s m args below meth c H locs cells slots Q (F0 m (pc + 1) ls (.int (nI (x % y)) :: rest))) : W p l e R s m args below meth c H locs cells slots Q (F0 m pc ls (.int (nI y) :: .int (nI x) :: rest)) := by
  refine lv_irem hx hb hdg (nI_ne0 h2 h3) ?_
  rw [pk_rem h1 h2 h3]
  exact kk
theorem z_lt_n {x y : Nat} {off : Int} {tgt : Nat} (hx : p.tables.exec = Jvm.exec) (hb : c.code = cc) (hdg : decode cc pc = .ok (.if_icmp .lt off, 3)) (ht : (pc : Int) + off = (tgt : Int)) (h1 : x < 2 ^ 31) (h2 : y < 2 ^ 31) (kt : x < y → W p l e R s m args below meth c H locs cells slots Q (F0 m tgt ls rest)) (kf : y ≤ x → W p l e R s m args below meth c H locs cells slots Q (F0 m (pc + 3) ls rest)) : W p l e R s m args below meth c H locs cells slots Q (F0 m pc ls (.int (nI y) :: .int (nI x) :: rest)) :=
  lv_icmp_lt hx hb hdg ht (fun h => kt ((nI_ltI h1 h2).mp h)) (fun h => kf (Nat.not_lt.mp (fun q => h ((nI_ltI h1 h2).mpr q))))
theorem z_ge_n {x y : Nat} {off : Int} {tgt : Nat} (hx : p.tables.exec = Jvm.exec) (hb : c.code = cc) (hdg : decode cc pc = .ok (.if_icmp .ge off, 3)) (ht : (pc : Int) + off = (tgt : Int)) (h1 : x < 2 ^ 31) (h2 : y < 2 ^ 31) (kt : y ≤ x → W p l e R s m args below meth c H locs cells slots Q (F0 m tgt ls rest)) (kf : x < y → W p l e R s m args below meth c H locs cells slots Q (F0 m (pc + 3) ls rest)) : W p l e R s m args below meth c H locs cells slots Q (F0 m pc ls (.int (nI y) :: .int (nI x) :: rest)) :=
  lv_icmp_ge hx hb hdg ht (fun h => kt ((nI_leI h2 h1).mp h)) (fun h => kf (Nat.not_le.mp (fun q => h ((nI_leI h2 h1).mpr q))))
theorem z_gt_n {x y : Nat} {off : Int} {tgt : Nat} (hx : p.tables.exec = Jvm.exec) (hb : c.code = cc) (hdg : decode cc pc = .ok (.if_icmp .gt off, 3)) (ht : (pc : Int) + off = (tgt : Int)) (h1 : x < 2 ^ 31) (h2 : y < 2 ^ 31) (kt : y < x → W p l e R s m args below meth c H locs cells slots Q (F0 m tgt ls rest)) (kf : x ≤ y → W p l e R s m args below meth c H locs cells slots Q (F0 m (pc + 3) ls rest)) : W p l e R s m args below meth c H locs cells slots Q (F0 m pc ls (.int (nI y) :: .int (nI x) :: rest)) :=
  lv_icmp_gt hx hb hdg ht (fun h => kt ((nI_ltI h2 h1).mp h)) (fun h => kf (Nat.not_lt.mp (fun q => h ((nI_ltI h2 h1).mpr q))))
theorem z_le_n {x y : Nat} {off : Int} {tgt : Nat} (hx : p.tables.exec = Jvm.exec) (hb : c.code = cc) (hdg : decode cc pc = .ok (.if_icmp .le off, 3)) (ht : (pc : Int) + off = (tgt : Int)) (h1 : x < 2 ^ 31) (h2 : y < 2 ^ 31) (kt : x ≤ y → W p l e R s m args below meth c H locs cells slots Q (F0 m tgt ls rest)) (kf : y < x → W p l e R s m args below meth c H locs cells slots Q (F0 m (pc + 3) ls rest)) : W p l e R s m args below meth c H locs cells slots Q (F0 m pc ls (.int (nI y) :: .int (nI x) :: rest)) :=
  lv_icmp_le hx hb hdg ht (fun h => kt ((nI_leI h1 h2).mp h)) (fun h => kf (Nat.not_le.mp (fun q => h ((nI_leI h1 h2).mpr q))))
theorem z_eq_n {x y : Nat} {off : Int} {tgt : Nat} (hx : p.tables.exec = Jvm.exec) (hb : c.code = cc) (hdg : decode cc pc = .ok (.if_icmp .eq off, 3)) (ht : (pc : Int) + off = (tgt : Int)) (h1 : x < 2 ^ 31) (h2 : y < 2 ^ 31) (kt : x = y → W p l e R s m args below meth c H locs cells slots Q (F0 m tgt ls rest)) (kf : ¬ x = y → W p l e R s m args below meth c H locs cells slots Q (F0 m (pc + 3) ls rest)) : W p l e R s m args below meth c H locs cells slots Q (F0 m pc ls (.int (nI y) :: .int (nI x) :: rest)) :=
  lv_icmp_eq hx hb hdg ht (fun h => kt ((nI_eq h1 h2).mp h)) (fun h => kf (fun q => h ((nI_eq h1 h2).mpr q)))
theorem z_ne_n {x y : Nat} {off : Int} {tgt : Nat} (hx : p.tables.exec = Jvm.exec) (hb : c.code = cc) (hdg : decode cc pc = .ok (.if_icmp .ne off, 3)) (ht : (pc : Int) + off = (tgt : Int)) (h1 : x < 2 ^ 31) (h2 : y < 2 ^ 31) (kt : ¬ x = y → W p l e R s m args below meth c H locs cells slots Q (F0 m tgt ls rest)) (kf : x = y → W p l e R s m args below meth c H locs cells slots Q (F0 m (pc + 3) ls rest)) : W p l e R s m args below meth c H locs cells slots Q (F0 m pc ls (.int (nI y) :: .int (nI x) :: rest)) :=
  lv_icmp_ne hx hb hdg ht (fun h => kt (fun q => h ((nI_eq h1 h2).mpr q))) (fun h => kf ((nI_eq h1 h2).mp h))
end ZK
