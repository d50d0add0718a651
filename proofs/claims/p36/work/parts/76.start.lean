/-! the law's entry -/
/-- what throws and nest mates need, at the law's entry -/
theorem z_E0 {A : Nat → Prop} {a : Array Value} {s : State} (hts : ∀ w ∈ lw_tbl, w.before a s = true) (hgv : (Jvm.Cond.and given_1 narrow_1).before a s = true) (hA : ∀ q : Nat, q < s.heap.size → ¬ A q) : zE A s s.heap := by
  have hs := flat_of_before _ hgv
  refine ⟨vx_Zqof (hts _ (by decide +kernel)) (hts _ (by decide +kernel)) (hs _ (by decide +kernel)) hA, vx_Zqof (hts _ (by decide +kernel)) (hts _ (by decide +kernel)) (hs _ (by decide +kernel)) hA, ?_, ?_, ?_⟩
  · have hin : ∀ w ∈ zNws, w ∈ lw_tbl := by decide +kernel
    exact fun w hw => va_Nw.of (zNws_tab w hw) (hts w (hin w hw))
  · intro q hq
    unfold zNcs at hq
    simp only [List.mem_cons, List.not_mem_nil, or_false] at hq
    rcases hq with rfl | rfl | rfl | rfl | rfl | rfl <;> exact va_Nc.of (hs _ (by decide +kernel))
  · have key : ∀ (k : Nat) (tx : String), (Cond.stringRef RX4 k tx).before a s = true → (Cond.exactly (.string RX4 k) "java/lang/String").before a s = true → ∃ b, vk_R RX4 k tx b s := by
      intro k tx h1 h2
      obtain ⟨b, c, cell, kk, h3, -⟩ := Cond.exactly_spec h2
      exact ⟨b, vk_R.of h1 h3⟩
    intro q hq
    unfold zStrs at hq
    simp only [List.mem_cons, List.not_mem_nil, or_false] at hq
    rcases hq with rfl | rfl | rfl | rfl | rfl | rfl | rfl | rfl | rfl | rfl | rfl | rfl | rfl | rfl | rfl | rfl <;> exact key _ _ (hts _ (by decide +kernel)) (hs _ (by decide +kernel))
/-- the classes and the arrays, at the law's entry -/
theorem z_K0 {a : Array Value} {s : State} (hts : ∀ w ∈ lw_tbl, w.before a s = true) : ∃ (D : va_G) (cI cZ : ClassId), va_K D vwCl (zT cI cZ) s := by
  have i0 : ∀ w ∈ wsX00, w ∈ lw_tbl := by decide +kernel
  have i1 : ∀ w ∈ wsX10, w ∈ lw_tbl := by decide +kernel
  have i2 : ∀ w ∈ wsX20, w ∈ lw_tbl := by decide +kernel
  have i3 : ∀ w ∈ wsX30, w ∈ lw_tbl := by decide +kernel
  have i4 : ∀ w ∈ wsX40, w ∈ lw_tbl := by decide +kernel
  obtain ⟨c0, f0, k0⟩ := u_known (C := RX0) (T := TX0) (N := 3) (n := 3) hts i0 (hts (.instantiable RX0 3) (by decide +kernel))
  obtain ⟨c1, f1, k1⟩ := u_known (C := RX1) (T := TX1) (N := 2) (n := 2) hts i1 (hts (.instantiable RX1 2) (by decide +kernel))
  obtain ⟨c2, f2, k2⟩ := u_known (C := RX2) (T := TX2) (N := 4) (n := 4) hts i2 (hts (.instantiable RX2 4) (by decide +kernel))
  obtain ⟨c3, f3, k3⟩ := u_known (C := RX3) (T := TX3) (N := 2) (n := 2) hts i3 (hts (.instantiable RX3 2) (by decide +kernel))
  obtain ⟨c4, f4, k4⟩ := u_known (C := RX4) (T := TX4) (N := 14) (n := 14) hts i4 (hts (.instantiable RX4 14) (by decide +kernel))
  obtain ⟨cI, hI1, hI2⟩ := z_arr (ty := .int) (hts (.arrayClass .int) (by decide +kernel))
  obtain ⟨cZ, hZ1, hZ2⟩ := z_arr (ty := .boolean) (hts (.arrayClass .boolean) (by decide +kernel))
  refine ⟨(fun k => if k = 0 then c0 else if k = 1 then c1 else if k = 2 then c2 else if k = 3 then c3 else c4, fun k => if k = 0 then f0 else if k = 1 then f1 else if k = 2 then f2 else if k = 3 then f3 else f4), cI, cZ, ?_, ?_⟩
  · intro k q hq
    match k, hq with
    | 0, hq => cases hq; exact k0
    | 1, hq => cases hq; exact k1
    | 2, hq => cases hq; exact k2
    | 3, hq => cases hq; exact k3
    | 4, hq => cases hq; exact k4
    | k + 5, hq => simp [vwCl] at hq
  · intro k q hq
    match k, hq with
    | 0, hq => cases hq; exact ⟨hI1, hI2⟩
    | 1, hq => cases hq; exact ⟨hZ1, hZ2⟩
    | k + 2, hq => simp [zT] at hq
section ZLI
variable {p : Program} {l : Launch} {e : Env} {R : Room} {s : State} {m : MethodId} {args : Array Value} {below : List Frame} {meth : Method} {c : Code} {H : Heap} {locs : List Loc} {cells slots : Nat} {Q : State → Prop}
variable {cc : ByteArray} {pc : Nat} {ls : Array Slot} {rest : List Value} {D : va_G} {tys : List (ClassId × FieldType)} {h0 : Nat} {ws : va_W}
/-- the law's own call of a constructor -/
theorem z_linit {wr : va_W} {e0 : va_E} {q mc ms : Nat} {post : va_W → Prop} {y : MethodName} {bytes : ByteArray} {maxL nL index : Nat} {ws1 Ts : List Cond} {rm : Room} {own : String} {st0 : List Value} {lv : List (Nat × Value)} (Sx : CallFix p m c cc nL s args Ts own) (hK : va_K D vwCl tys s) (hE : zE (zA (fun q => q = h0) s.heap.size) s s.heap) (hR : zN D h0 s H locs (wr ++ [(q, e0)])) (hq : s.heap.size ≤ q) (hM : zMn l y ws1 rm q D tys [(q, e0)] post mc ms) (cw : CallB R s args own index y bytes maxL none ws1 rm mc ms 0 ∧ y.name = "<init>" ∧ (Cond.instanceMethod y).before args s = true) (hl : lv_has ls nL lv) (hst : st0 = .ref q :: rest) (hrest : (rest.map fun v => v.category).sum ≤ 8) (hcs : cells + mc ≤ R.cells ∧ slots + ms ≤ R.slots) (hdg : decode cc pc = .ok (.invokespecial index, 3))
    (kk : ∀ (w1 : va_W) (H1 : Heap) (locs1 : List Loc), post w1 → zN D h0 s H1 locs1 (wr ++ w1) → W p l e R s m args below meth c H1 locs1 (cells + mc) (slots + ms) Q (F0 m (pc + 3) ls rest)) : W p l e R s m args below meth c H locs cells slots Q (F0 m pc ls st0) := by
  have hlast : (wr ++ [(q, e0)])[wr.length]? = some (q, e0) := by rw [List.getElem?_append_right (Nat.le_refl _), Nat.sub_self]; rfl
  have hPc : va_P D vwCl [(q, e0)] H := z_Psecond hR.1
  have hPr : va_P D vwCl wr H := z_Pfirst hR.1
  have hF : ∀ z, zA (fun x => x = q) H.size z → zA (fun x => x = h0) s.heap.size z := fun z h => h.elim (fun x => Or.inr (by rw [x]; exact hq)) (fun x => Or.inr (Nat.le_trans hR.2.2.1 x))
  have hne : ∀ (k : Nat) (x : Nat × va_E), wr[k]? = some x → x.1 ≠ q := by
    intro k x hk hxq
    have hkl := (List.getElem?_eq_some_iff.mp hk).1
    have := hR.2.1.1 k wr.length x (q, e0) (by rw [List.getElem?_append_left hkl]; exact hk) hlast hxq
    omega
  refine va_callv (va_runI (As := []) (rest := rest) Sx (hM H.size) cw ⟨zPc_blind, z_pre2 (w := fun w : va_W => w) (u := [(q, e0)]) hK hE hPc hR.2.2 (fun z h => Or.inr (by rw [h]; exact hq)) (fun z h => Or.inr h) _⟩ rfl rfl hl.1 hst (lv_room hrest) hdg hcs) hR.2.2 (fun z _ h => hF z h) hF (fun w1 t H1 locs1 ht hvm hw hB hz1 hk1 hS => ?_)
  obtain ⟨hP1, -, hD1⟩ := hB
  rw [ht] at hP1
  refine kk w1 H1 locs1 hw ⟨(z_kept hPr (A := fun z => z ≠ q) (fun k x h => hne k x h) (fun z h => h) hk1).app hP1, va_D.app ⟨fun i j a b h1 h2 h3 => ?_, fun k x h => ?_⟩ (hD1.weaken (fun k x _ h => hF x.1 h)) (fun i j a b h1 h2 h3 => ?_), hS⟩
  · exact hR.2.1.1 i j a b (by rw [List.getElem?_append_left (List.getElem?_eq_some_iff.mp h1).1]; exact h1) (by rw [List.getElem?_append_left (List.getElem?_eq_some_iff.mp h2).1]; exact h2) h3
  · exact hR.2.1.2 k x (by rw [List.getElem?_append_left (List.getElem?_eq_some_iff.mp h).1]; exact h)
  · have h4 := hD1.2 j b h2
    rw [← h3] at h4
    exact h4.elim (hne i a h1) (fun z => absurd ((hPr i a h1).lt) (Nat.not_lt.mpr z))
end ZLI
theorem zA_self (n : Nat) : zA (fun q => q = n) n = fun q => n ≤ q := by
  funext q
  exact propext ⟨fun h => h.elim (fun z => by omega) (fun z => z), fun h => Or.inr h⟩
theorem zno0 : ∀ c, zno zS0 c := fun c i hi => absurd hi (Nat.not_lt_zero i)
theorem iv_start : IV 0 zS0 zM0 := by
  have eS : ∀ j i, zS0 j i = if j = 22 ∧ i = 0 then nI 2 else if (j = 22 ∧ (i = 2 ∨ i = 3)) ∨ (j = 21 ∧ i < 4) then (-1) else 0 := fun j i => by
    unfold zS0 zS00
    simp only [zU_at, m1_at]
    by_cases h : j = 22
    · subst h
      rw [if_neg (by decide), if_pos rfl]
      simp only [up_at, nI_0]
      grind
    · rw [if_neg h]
      grind
  have eM : ∀ j i, zM0 j i = if j = 22 ∧ i = 0 then nI 2 else if (j = 22 ∧ (i = 2 ∨ i = 3)) ∨ (j = 21 ∧ i < 4) then (-1) else 0 := fun j i => by
    unfold zM0 zM00
    rw [uns_at]
    by_cases h : j = 22
    · subst h
      rw [if_neg (fun h => absurd h.1 (by decide)), if_pos rfl]
      simp only [up_at, nI_0]
      grind
    · rw [if_neg h]
      grind
  have hEq : zM0 = zS0 := by
    funext j i
    rw [eS, eM]
  have e0 : ∀ j i, j ≠ 22 → j ≠ 21 → zS0 j i = nI 0 := fun j i h1 h2 => by rw [eS, nI_0]; grind
  have en : ∀ j i, j ≠ 22 → j ≠ 21 → zn zS0 j i = 0 := fun j i h1 h2 => by
    show (zS0 j i).toNatClampNeg = 0
    rw [e0 j i h1 h2, nI_cl (by omega)]
  have ew : zS0 22 0 = nI 2 := by rw [eS]; exact if_pos ⟨rfl, rfl⟩
  have e1 : zS0 22 1 = nI 0 := by rw [eS, nI_0]; grind
  have e2 : zS0 22 2 = (-1) := by rw [eS]; grind
  have e3 : zS0 22 3 = (-1) := by rw [eS]; grind
  have zw : zn zS0 22 0 = 2 := by
    show (zS0 22 0).toNatClampNeg = 2
    rw [ew, nI_cl (by omega)]
  have z1 : zn zS0 22 1 = 0 := by
    show (zS0 22 1).toNatClampNeg = 0
    rw [e1, nI_cl (by omega)]
  have nb : ∀ j n, j ≠ 22 → j ≠ 21 → zNb (zS0 j) n := fun j n h1 h2 i => ⟨(e0 j i h1 h2).trans (congrArg nI (en j i h1 h2).symm), by have := en j i h1 h2; unfold zn at this; omega⟩
  have ok : zOK zS0 := ⟨nb 0 60 (by decide) (by decide), nb 1 31100 (by decide) (by decide), nb 2 60 (by decide) (by decide), nb 3 60 (by decide) (by decide), fun i => Or.inl (e0 4 i (by decide) (by decide)), nb 5 60 (by decide) (by decide), fun i => by rw [e0 6 i (by decide) (by decide), nI_toInt (by decide)]; decide, nb 7 8 (by decide) (by decide), fun i => Or.inl (e0 8 i (by decide) (by decide)), by rw [zw]; exact ⟨ew, by decide, by decide⟩⟩
  refine ⟨ok, by rw [hEq]; exact ok, ?_, ?_⟩
  · rw [hEq]
    exact ⟨fun _ _ _ _ _ => rfl, fun _ _ => rfl, fun _ _ _ => rfl, fun key _ => ⟨fun _ => ⟨rfl, rfl⟩, fun _ => ⟨e0 13 key (by decide) (by decide), e0 14 key (by decide) (by decide)⟩⟩⟩
  · refine ⟨⟨by rw [z1]; exact e1, by rw [z1]; exact Nat.le_refl 0⟩, Or.inl e2, Or.inl e3, fun h => absurd e2 h, fun w hw => Or.inl ?_, fun j hj => ?_, fun _ c => e0 8 c (by decide) (by decide), fun c hc => ?_, fun h => absurd e2 h, fun i => ?_⟩
    · rw [eS]; grind
    · rw [eS, nI_0]; grind
    · rw [e0 8 c (by decide) (by decide)] at hc
      exact absurd hc (by decide)
    · rw [z1, e0 6 i (by decide) (by decide), nI_toInt (by decide)]
      decide
theorem vJ_start : vJ 0 zS0 := by
  have eS : ∀ j i, zS0 j i = if j = 22 ∧ i = 0 then nI 2 else if (j = 22 ∧ (i = 2 ∨ i = 3)) ∨ (j = 21 ∧ i < 4) then (-1) else 0 := fun j i => by
    unfold zS0 zS00
    simp only [zU_at, m1_at]
    by_cases h : j = 22
    · subst h
      rw [if_neg (by decide), if_pos rfl]
      simp only [up_at, nI_0]
      grind
    · rw [if_neg h]
      grind
  have e0 : ∀ j i, j ≠ 22 → j ≠ 21 → zS0 j i = nI 0 := fun j i h1 h2 => by rw [eS, nI_0]; grind
  have en : ∀ j i, j ≠ 22 → j ≠ 21 → zn zS0 j i = 0 := fun j i h1 h2 => by
    show (zS0 j i).toNatClampNeg = 0
    rw [e0 j i h1 h2, nI_cl (by omega)]
  have e2 : zS0 22 2 = (-1) := by rw [eS]; grind
  have qt : ∀ key m, q_m (q_C zS0 key) m = 0 := fun key m => by
    induction m with
    | zero => rfl
    | succ m ih =>
      rw [q_m_s, ih]
      show 0 + q_s (zS0 6) key (8 * m) (zn zS0 7 m) = 0
      rw [en 7 m (by decide) (by decide)]
      rfl
  have qR : ∀ j key, j ≠ 22 → j ≠ 21 → q_R zS0 (zn zS0 j) key = 0 := fun j key h1 h2 => by
    have h : ∀ m, q_m (fun p => q_s (zS0 1) key (60 * p) (zn zS0 j p)) m = 0 := fun m => by
      induction m with
      | zero => rfl
      | succ m ih =>
        rw [q_m_s, ih]
        show 0 + q_s (zS0 1) key (60 * m) (zn zS0 j m) = 0
        rw [en j m h1 h2]
        rfl
    exact h 4
  refine ⟨⟨zM0, iv_start⟩, ⟨fun p hp => ?_, fun c hc => ⟨fun i hi => ?_, fun _ => 0, fun i hi => ?_⟩, fun key hk => ?_, fun h => absurd e2 h⟩, vA_zero (fun c _ => e0 8 c (by decide) (by decide))⟩
  · rw [en 2 p (by decide) (by decide), en 3 p (by decide) (by decide), en 5 p (by decide) (by decide)]
    refine ⟨Nat.zero_le _, Nat.zero_le _, Nat.zero_le _, fun o ho => ?_⟩
    rw [en 0 p (by decide) (by decide)] at ho
    exact absurd ho (Nat.not_lt_zero _)
  · rw [en 7 c (by decide) (by decide)] at hi
    exact absurd hi (Nat.not_lt_zero _)
  · rw [en 7 c (by decide) (by decide)] at hi
    exact absurd hi (Nat.not_lt_zero _)
  · have q := qt key 16
    have r2 := qR 2 key (by decide) (by decide)
    have r3 := qR 3 key (by decide) (by decide)
    unfold vT1 vL q_t
    rw [q, r2, r3, en 9 key (by decide) (by decide), en 10 key (by decide) (by decide), en 11 key (by decide) (by decide), en 12 key (by decide) (by decide), en 13 key (by decide) (by decide), en 14 key (by decide) (by decide), en 17 key (by decide) (by decide), en 18 key (by decide) (by decide), en 19 key (by decide) (by decide), en 20 key (by decide) (by decide)]
    exact ⟨fun j h1 h2 => by rw [e0 j key (by omega) (by omega), en j key (by omega) (by omega)], by omega, by omega, by omega, by omega, fun _ => by omega, fun h => absurd e2 h⟩
set_option maxHeartbeats 8000000 in
set_option maxRecDepth 100000 in
theorem whole_start {p : Program} {e : Env} {s : State} {m : MethodId} {below : List Frame} {meth : Method} {c : Code} (l : Launch) (hflags : l.flags = flags0) {b L : Nat} {xs : Nat → Int32} (hL : L ≤ 260) (C0 : lw_At p s m meth c b L xs) : W p l e room_1 s m #[Value.ref b] below meth c s.heap [] 0 0 (lw_Z below #[Value.ref b] s) (entryFrame m ([Value.ref b] : List Value).toArray 6) := by
  obtain ⟨hx, hb, hr, hml, hown, hts, hX, hbl, hlocks, hgv⟩ := id C0
  have hfl : l.stackTraces = false := by
    unfold Launch.stackTraces
    rw [hflags]
    decide +kernel
  obtain ⟨D, cI, cZ, hK⟩ := z_K0 hts
  have hE : zE (zA (fun q => q = s.heap.size) s.heap.size) s s.heap := z_E0 hts hgv (fun q hq h => by rw [zA_self] at h; exact absurd hq (Nat.not_lt.mpr h))
  have htl := fun w h => hts w (wsL_law_in w h)
  have hown : s.vm.findClass RL = some m.cls := hown
  have hb : c.code = cL_law := hb
  have inX4 : ∀ w ∈ wsX40, w ∈ lw_tbl := by decide +kernel
  have hA : ∀ q : Nat, s.heap.size ≤ q → zA (fun q => q = s.heap.size) s.heap.size q := fun _ h => Or.inr h
  have hR : zN D s.heap.size s s.heap [] [] := ⟨fun k q h => by simp at h, ⟨fun i j p q h => by simp at h, fun k q h => by simp at h⟩, va_S.rf⟩
  have hl := lv_entry ([.ref b]) (n := 6) (Nat.le_of_ble_eq_true rfl)
  rw [lg_entry_eq]
  generalize (lg_sl ([.ref b]) ++ List.replicate (6 - (lg_sl ([.ref b])).length) Slot.unset).toArray = ls at hl ⊢
  have hl : lv_has ls 6 [(0, .ref b)] := hl
  have hge : ∀ {H : Heap} {locs : List Loc} {ws : va_W}, zN D s.heap.size s H locs ws → ∀ (k : Nat) (x : Nat × va_E), ws[k]? = some x → s.heap.size ≤ x.1 := fun h k x hk => by
    have h1 := h.2.1.2 k x hk
    rw [zA_self] at h1
    exact h1
  refine va_new (ci := 4) (fs := [.null, .null, .null, .null, .null, .null, .null, .null, .null, .null, .int 0, .int 0, .int 0, .int 0]) (C := RX4) (T := TX4) (N := 14) hx hb hts inX4 tyX4 tyX4_ok hown (hts (.classLink RL 9 RX4) (by decide +kernel)) (hts (.instantiable RX4 14) (by decide +kernel)) (hts (.initialized RX4) (by decide +kernel)) hK hR.1 hR.2.1 hR.2.2 hA rfl (fun j hj => by rcases (show j = 0 ∨ j = 1 ∨ j = 2 ∨ j = 3 ∨ j = 4 ∨ j = 5 ∨ j = 6 ∨ j = 7 ∨ j = 8 ∨ j = 9 ∨ j = 10 ∨ j = 11 ∨ j = 12 ∨ j = 13 by omega) with rfl | rfl | rfl | rfl | rfl | rfl | rfl | rfl | rfl | rfl | rfl | rfl | rfl | rfl <;> rfl) (by decide) (by decide) dL_law_0 (fun qx H hP hD hS => ?_)
  have hR : zN D s.heap.size s H [] ([] ++ [(qx, .inr (4, [.null, .null, .null, .null, .null, .null, .null, .null, .null, .null, .int 0, .int 0, .int 0, .int 0]))]) := ⟨hP, hD, hS⟩
  refine lv_dup hx hb dL_law_3 rfl ?_
  refine z_linit (wr := []) (rest := [.ref qx]) ⟨hx, hb, hml, hown, htl⟩ hK hE hR (hge hR 0 _ rfl) (c_X4_init l qx) (cwI 0 htl gL_law_X4_init rfl rfl rfl (htl (.initialized RX4) (by decide +kernel)) (htl (.methodLink RL 137 yX4_init) (by decide +kernel)) (htl (.instanceMethod yX4_init) (by decide +kernel)) rfl (by decide +kernel) ⟨Nat.le_of_ble_eq_true rfl, Nat.le_of_ble_eq_true rfl⟩) hl rfl (Nat.le_of_ble_eq_true rfl) ⟨by decide, by decide⟩ dL_law_4 (fun w1 H locs hw hR1 => ?_)
  obtain ⟨adx, hax, rfl⟩ := hw
  subst hax
  clear hR
  have hR : zN D s.heap.size s H locs (wX cI cZ adx zS0) := hR1
  refine lv_astore_n (lv' := [(1, .ref (adx 0)), (0, .ref b)]) hx hb dL_law_7 rfl hl (by decide) rfl (fun ls hl => ?_)
  refine va_new (ci := 4) (fs := [.null, .null, .null, .null, .null, .null, .null, .null, .null, .null, .int 0, .int 0, .int 0, .int 0]) (C := RX4) (T := TX4) (N := 14) hx hb hts inX4 tyX4 tyX4_ok hown (hts (.classLink RL 9 RX4) (by decide +kernel)) (hts (.instantiable RX4 14) (by decide +kernel)) (hts (.initialized RX4) (by decide +kernel)) hK hR.1 hR.2.1 hR.2.2 hA rfl (fun j hj => by rcases (show j = 0 ∨ j = 1 ∨ j = 2 ∨ j = 3 ∨ j = 4 ∨ j = 5 ∨ j = 6 ∨ j = 7 ∨ j = 8 ∨ j = 9 ∨ j = 10 ∨ j = 11 ∨ j = 12 ∨ j = 13 by omega) with rfl | rfl | rfl | rfl | rfl | rfl | rfl | rfl | rfl | rfl | rfl | rfl | rfl | rfl <;> rfl) (by decide) (by decide) dL_law_8 (fun qm H hP hD hS => ?_)
  have hR : zN D s.heap.size s H locs (wX cI cZ adx zS0 ++ [(qm, .inr (4, [.null, .null, .null, .null, .null, .null, .null, .null, .null, .null, .int 0, .int 0, .int 0, .int 0]))]) := ⟨hP, hD, hS⟩
  refine lv_dup hx hb dL_law_11 rfl ?_
  refine z_linit (wr := wX cI cZ adx zS0) (rest := [.ref qm]) ⟨hx, hb, hml, hown, htl⟩ hK hE hR (hge hR (wX cI cZ adx zS0).length _ rfl) (c_X4_init l qm) (cwI 0 htl gL_law_X4_init rfl rfl rfl (htl (.initialized RX4) (by decide +kernel)) (htl (.methodLink RL 137 yX4_init) (by decide +kernel)) (htl (.instanceMethod yX4_init) (by decide +kernel)) rfl (by decide +kernel) ⟨Nat.le_of_ble_eq_true rfl, Nat.le_of_ble_eq_true rfl⟩) hl rfl (Nat.le_of_ble_eq_true rfl) ⟨by decide, by decide⟩ dL_law_12 (fun w1 H locs hw hR1 => ?_)
  obtain ⟨adm, ham, rfl⟩ := hw
  subst ham
  clear hR
  have hR : zN D s.heap.size s H locs (wX cI cZ adx zS0 ++ wX cI cZ adm zS0) := hR1
  refine lv_astore_n (lv' := [(2, .ref (adm 0)), (1, .ref (adx 0)), (0, .ref b)]) hx hb dL_law_15 rfl hl (by decide) rfl (fun ls hl => ?_)
  refine lv_iconst (v := (nI 0)) hx hb dL_law_16 (by decide) ?_
  refine lv_istore_n (lv' := [(3, .int (nI 0)), (2, .ref (adm 0)), (1, .ref (adx 0)), (0, .ref b)]) hx hb dL_law_17 rfl hl (by decide) rfl (fun ls hl => ?_)
  have hDx := z_first hR.2.1
  have hDm := z_second hR.2.1
  have X0 : zLC D cI cZ adx adm (fun q => q ∈ (wX cI cZ adx zS0).map Prod.fst) (fun q => q ∈ (wX cI cZ adm zS0).map Prod.fst) s := by
    refine ⟨hK, z_E0 hts hgv (fun q hq h => absurd hq (Nat.not_lt.mpr h)), fun S => va_D_fst hDx.1 rfl, fun S => ?_, fun q h1 h2 => ?_, fun q h => ?_, fun q h => ?_⟩
    · have h1 : va_D (fun q => q ∈ (wX cI cZ adm zS0).map Prod.fst) (wX cI cZ adm zS0) := ⟨hDm.1, fun k q hk => List.mem_map.mpr ⟨q, List.mem_of_getElem? hk, rfl⟩⟩
      exact va_D_fst h1 rfl
    · obtain ⟨r, hr1, hr2⟩ := List.mem_map.mp h2
      exact (hDx.2 q h1).2 r hr1 hr2
    · have h1 := (hDx.2 q h).1
      rw [zA_self] at h1
      exact h1
    · obtain ⟨r, hr1, hr2⟩ := List.mem_map.mp h
      obtain ⟨i, hi⟩ := List.getElem?_of_mem hr1
      have h1 := hDm.2 i r hi
      rw [zA_self] at h1
      rw [← hr2]
      exact h1
  have hS2 : va_S (zLA s) s.heap H locs := by
    have h1 := hR.2.2
    rw [zA_self] at h1
    exact h1
  refine W.widen (k := 64 + 0) (n := 1686 + 6 * 0) (by omega) (by omega) ?_
  exact law_loop C0 hfl X0 hL 141 0 (by omega) (by omega) zS0 H locs vJ_start ⟨z_Pfirst hR.1, z_Psecond hR.1, hS2⟩ ls (lv_sub hl [3, 2, 1, 0] rfl)
