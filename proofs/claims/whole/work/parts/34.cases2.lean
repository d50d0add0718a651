set_option maxHeartbeats 4000000 in
set_option maxRecDepth 100000 in
theorem lw_sealed_e1 {pg : Program} {l : Launch} {e : Env} {s : State} {m : MethodId} {below : List Frame} {meth : Method} {c : Code} {b L : Nat} {xs : Nat → Int32} {D : va_G} {cI cZ cJ : ClassId} {adx adm : Nat → Nat} {oo : Nat} {Bx Bm : Nat → Prop} (C0 : lw_At pg s m meth c b L xs) (hfl : l.stackTraces = false) (X0 : zLC D cI cZ cJ adx adm oo Bx Bm s) (S M : zS) (g : Nat → Int64) (i : Nat) (x : Int32) (hO : zOK S) (hOM : zOK M) (hxb : zbad x (zn S 22 0)) (hxb_m : zbad x (zn M 22 0)) (ha1 : xs (i + 1) = (x)) (hi : i + 4 ≤ L) (hL : L ≤ 2048) {H : Heap} {locs : List Loc} {cells slots : Nat} {ls : Array Slot} (hcc : cells + 1 ≤ 1096) (hss : slots + 6 ≤ 9967) (hR : zL D cI cZ cJ adx adm oo s H locs S M g) (hl : lv_has ls 7 [(0, .ref (b)), (1, .ref (adx 0)), (2, .ref (adm 0)), (3, .ref (oo)), (4, .int (nI (i)))]) (K : ∀ (g1 : Nat → Int64) (H1 : Heap) (locs1 : List Loc) (ls1 : Array Slot), zL D cI cZ cJ adx adm oo s H1 locs1 (S) (zth M 1) g1 → lv_has ls1 7 [(0, .ref (b)), (1, .ref (adx 0)), (2, .ref (adm 0)), (3, .ref (oo)), (4, .int (nI (i)))] → W pg l e room_1 s m #[Value.ref b] below meth c H1 locs1 (cells + 1) (slots + 6) (lw_Z below #[Value.ref b] s) (F0 m 1903 ls1 [])) : W pg l e room_1 s m #[Value.ref b] below meth c H locs cells slots (lw_Z below #[Value.ref b] s) (F0 m 1409 ls []) := by
  obtain ⟨hx, hb, hr, hml, hown, hts, hX, hbl, hlocks, hgv⟩ := C0
  have hts := fun w h => hts w (wsL_law_in w h)
  have hown : s.vm.findClass RL = some m.cls := hown
  have hb : c.code = cL_law := hb
  refine lv_aload_n hx hb dL_law_1409 rfl (lv_at hl 1 rfl) ?_
  refine lv_aload_n hx hb dL_law_1410 rfl (lv_at hl 0 rfl) ?_
  refine lv_iload hx hb dL_law_1411 (lv_at hl 4 rfl) ?_
  refine lv_iconst (v := (nI 1)) hx hb dL_law_1413 (by decide) ?_
  refine z_iadd_n hx hb dL_law_1414 ?_
  refine z_sld_n hx hb hX hbl hR dL_law_1415 (by omega) hL ha1 ?_
  refine lv_aload_n hx hb dL_law_1416 rfl (lv_at hl 3 rfl) ?_
  refine z_lW (As := [.ref (adx 0), .int (x), .ref (oo)]) (rest := []) ⟨hx, hb, hml, hown, hts⟩ X0 hR (o_sealed_e1 X0.2.2.1 X0.2.2.2.2.1 hfl S g x hO hxb) (vx_cwSW 3 hts gL_law_L_sealed rfl rfl rfl (by decide +kernel) ⟨Nat.le_of_ble_eq_true rfl, Nat.le_of_ble_eq_true rfl⟩) rfl hl rfl (Nat.le_of_ble_eq_true rfl) ⟨hcc, hss⟩ dL_law_1417 (fun r S1 g1 H locs hp hR => ?_)
  obtain ⟨hr1, hs1⟩ := hp
  subst r
  have hs1 : S1 = S := hs1
  subst S1
  refine lv_istore (lv' := [(5, .int (nI (1))), (0, .ref (b)), (1, .ref (adx 0)), (2, .ref (adm 0)), (3, .ref (oo)), (4, .int (nI (i)))]) hx hb dL_law_1420 hl (by decide) rfl (fun ls hl => ?_)
  refine lv_aload_n hx hb dL_law_1422 rfl (lv_at hl 3 rfl) ?_
  refine lv_aload_n hx hb dL_law_1423 rfl (lv_at hl 1 rfl) ?_
  refine lv_iload hx hb dL_law_1424 (lv_at hl 5 rfl) ?_
  refine lv_iconst (v := (nI 1)) hx hb dL_law_1426 (by decide) ?_
  refine z_iadd_n hx hb dL_law_1427 ?_
  refine z_sld_n hx hb hX hbl hR dL_law_1428 (by omega) hL ha1 ?_
  refine z_lM_i (As := [.int (x)]) (rest := []) ⟨hx, hb, hml, hown, hts⟩ X0 hR (c_X5_sealed_e1 X0.2.2.2.1 M x hOM hxb_m) (cwV 1 hts gL_law_X5_sealed rfl rfl rfl (by decide +kernel) ⟨Nat.le_of_ble_eq_true rfl, Nat.le_of_ble_eq_true rfl⟩) rfl hl rfl (Nat.le_of_ble_eq_true rfl) ⟨by show cells + 1 + 0 ≤ 1096; omega, by show slots + 6 + 0 ≤ 9967; omega⟩ dL_law_1429 (fun r T1 H locs hp hR => ?_)
  obtain ⟨hr1, hs1⟩ := hp
  subst r
  subst T1
  refine lv_istore (lv' := [(6, .int (nI (0))), (5, .int (nI (1))), (0, .ref (b)), (1, .ref (adx 0)), (2, .ref (adm 0)), (3, .ref (oo)), (4, .int (nI (i)))]) hx hb dL_law_1432 hl (by decide) rfl (fun ls hl => ?_)
  refine lv_aload_n hx hb dL_law_1434 rfl (lv_at hl 4 rfl) ?_
  refine z_lM_i (As := []) (rest := []) ⟨hx, hb, hml, hown, hts⟩ X0 hR (c_X5_thrown X0.2.2.2.1 (zth M 1)) (cwV 0 hts gL_law_X5_thrown rfl rfl rfl (by decide +kernel) ⟨Nat.le_of_ble_eq_true rfl, Nat.le_of_ble_eq_true rfl⟩) rfl hl rfl (Nat.le_of_ble_eq_true rfl) ⟨by show cells + 1 + 0 ≤ 1096; omega, by show slots + 6 + 0 ≤ 9967; omega⟩ dL_law_1435 (fun r M1 H locs hp hR => ?_)
  obtain ⟨hr1, hs1⟩ := hp
  subst M1
  obtain rfl : r = nI 1 := hr1.trans (th_4 _ _)
  refine lv_iload hx hb dL_law_1438 (lv_at hl 1 rfl) ?_
  refine z_eq_n (tgt := 1445) hx hb dL_law_1440 (by decide) (by decide) (by decide) (fun _ => ?_) (fun h => absurd rfl h)
  refine lv_iload hx hb dL_law_1445 (lv_at hl 1 rfl) ?_
  refine z_if_ne_n (tgt := 1462) hx hb dL_law_1447 (by decide) (by decide) (fun _ => ?_) (fun h => absurd h (by decide))
  refine lv_goto (tgt := 1903) hx hb dL_law_1462 (by decide) ?_
  exact K _ _ _ _ hR (lv_sub hl [2, 3, 4, 5, 6] rfl)
set_option maxHeartbeats 4000000 in
set_option maxRecDepth 100000 in
theorem lw_sealed_ok {pg : Program} {l : Launch} {e : Env} {s : State} {m : MethodId} {below : List Frame} {meth : Method} {c : Code} {b L : Nat} {xs : Nat → Int32} {D : va_G} {cI cZ cJ : ClassId} {adx adm : Nat → Nat} {oo : Nat} {Bx Bm : Nat → Prop} (C0 : lw_At pg s m meth c b L xs) (hfl : l.stackTraces = false) (X0 : zLC D cI cZ cJ adx adm oo Bx Bm s) (S M : zS) (g : Nat → Int64) (i : Nat) (w : Nat) (hO : zOK S) (hOM : zOK M) (hw : w < zn S 22 0) (hw_m : w < zn M 22 0) (hres : (S 21 w) = ((zth M 0) 21 w)) (ha1 : xs (i + 1) = (nI (w))) (hi : i + 4 ≤ L) (hL : L ≤ 2048) {H : Heap} {locs : List Loc} {cells slots : Nat} {ls : Array Slot} (hcc : cells + 1 ≤ 1096) (hss : slots + 6 ≤ 9967) (hR : zL D cI cZ cJ adx adm oo s H locs S M g) (hl : lv_has ls 7 [(0, .ref (b)), (1, .ref (adx 0)), (2, .ref (adm 0)), (3, .ref (oo)), (4, .int (nI (i)))]) (K : ∀ (g1 : Nat → Int64) (H1 : Heap) (locs1 : List Loc) (ls1 : Array Slot), zL D cI cZ cJ adx adm oo s H1 locs1 (S) (zth M 0) g1 → lv_has ls1 7 [(0, .ref (b)), (1, .ref (adx 0)), (2, .ref (adm 0)), (3, .ref (oo)), (4, .int (nI (i)))] → W pg l e room_1 s m #[Value.ref b] below meth c H1 locs1 (cells + 1) (slots + 6) (lw_Z below #[Value.ref b] s) (F0 m 1903 ls1 [])) : W pg l e room_1 s m #[Value.ref b] below meth c H locs cells slots (lw_Z below #[Value.ref b] s) (F0 m 1409 ls []) := by
  obtain ⟨hx, hb, hr, hml, hown, hts, hX, hbl, hlocks, hgv⟩ := C0
  have hts := fun w h => hts w (wsL_law_in w h)
  have hown : s.vm.findClass RL = some m.cls := hown
  have hb : c.code = cL_law := hb
  refine lv_aload_n hx hb dL_law_1409 rfl (lv_at hl 1 rfl) ?_
  refine lv_aload_n hx hb dL_law_1410 rfl (lv_at hl 0 rfl) ?_
  refine lv_iload hx hb dL_law_1411 (lv_at hl 4 rfl) ?_
  refine lv_iconst (v := (nI 1)) hx hb dL_law_1413 (by decide) ?_
  refine z_iadd_n hx hb dL_law_1414 ?_
  refine z_sld_n hx hb hX hbl hR dL_law_1415 (by omega) hL ha1 ?_
  refine lv_aload_n hx hb dL_law_1416 rfl (lv_at hl 3 rfl) ?_
  refine z_lW (As := [.ref (adx 0), .int (nI (w)), .ref (oo)]) (rest := []) ⟨hx, hb, hml, hown, hts⟩ X0 hR (o_sealed_ok X0.2.2.1 X0.2.2.2.2.1 hfl S g w hO hw) (vx_cwSW 3 hts gL_law_L_sealed rfl rfl rfl (by decide +kernel) ⟨Nat.le_of_ble_eq_true rfl, Nat.le_of_ble_eq_true rfl⟩) rfl hl rfl (Nat.le_of_ble_eq_true rfl) ⟨hcc, hss⟩ dL_law_1417 (fun r S1 g1 H locs hp hR => ?_)
  obtain ⟨hr1, hs1, hg⟩ := hp
  subst r
  have hs1 : S1 = S := hs1
  subst S1
  refine lv_istore (lv' := [(5, .int (nI (0))), (0, .ref (b)), (1, .ref (adx 0)), (2, .ref (adm 0)), (3, .ref (oo)), (4, .int (nI (i)))]) hx hb dL_law_1420 hl (by decide) rfl (fun ls hl => ?_)
  refine lv_aload_n hx hb dL_law_1422 rfl (lv_at hl 3 rfl) ?_
  refine lv_aload_n hx hb dL_law_1423 rfl (lv_at hl 1 rfl) ?_
  refine lv_iload hx hb dL_law_1424 (lv_at hl 5 rfl) ?_
  refine lv_iconst (v := (nI 1)) hx hb dL_law_1426 (by decide) ?_
  refine z_iadd_n hx hb dL_law_1427 ?_
  refine z_sld_n hx hb hX hbl hR dL_law_1428 (by omega) hL ha1 ?_
  refine z_lM_i (As := [.int (nI (w))]) (rest := []) ⟨hx, hb, hml, hown, hts⟩ X0 hR (c_X5_sealed_ok X0.2.2.2.1 M w hOM hw_m) (cwV 1 hts gL_law_X5_sealed rfl rfl rfl (by decide +kernel) ⟨Nat.le_of_ble_eq_true rfl, Nat.le_of_ble_eq_true rfl⟩) rfl hl rfl (Nat.le_of_ble_eq_true rfl) ⟨by show cells + 1 + 0 ≤ 1096; omega, by show slots + 6 + 0 ≤ 9967; omega⟩ dL_law_1429 (fun r T1 H locs hp hR => ?_)
  obtain ⟨hr1, hs1⟩ := hp
  subst r
  subst T1
  refine lv_istore (lv' := [(6, .int ((zth M 0) 21 w)), (5, .int (nI (0))), (0, .ref (b)), (1, .ref (adx 0)), (2, .ref (adm 0)), (3, .ref (oo)), (4, .int (nI (i)))]) hx hb dL_law_1432 hl (by decide) rfl (fun ls hl => ?_)
  refine lv_aload_n hx hb dL_law_1434 rfl (lv_at hl 4 rfl) ?_
  refine z_lM_i (As := []) (rest := []) ⟨hx, hb, hml, hown, hts⟩ X0 hR (c_X5_thrown X0.2.2.2.1 (zth M 0)) (cwV 0 hts gL_law_X5_thrown rfl rfl rfl (by decide +kernel) ⟨Nat.le_of_ble_eq_true rfl, Nat.le_of_ble_eq_true rfl⟩) rfl hl rfl (Nat.le_of_ble_eq_true rfl) ⟨by show cells + 1 + 0 ≤ 1096; omega, by show slots + 6 + 0 ≤ 9967; omega⟩ dL_law_1435 (fun r M1 H locs hp hR => ?_)
  obtain ⟨hr1, hs1⟩ := hp
  subst M1
  obtain rfl : r = nI 0 := hr1.trans (th_4 _ _)
  refine lv_iload hx hb dL_law_1438 (lv_at hl 1 rfl) ?_
  refine z_eq_n (tgt := 1445) hx hb dL_law_1440 (by decide) (by decide) (by decide) (fun _ => ?_) (fun h => absurd rfl h)
  refine lv_iload hx hb dL_law_1445 (lv_at hl 1 rfl) ?_
  refine z_if_ne_n (tgt := 1462) hx hb dL_law_1447 (by decide) (by decide) (fun h => absurd h (by decide)) (fun _ => ?_)
  refine lv_aload_n hx hb dL_law_1450 rfl (lv_at hl 5 rfl) ?_
  refine lv_iconst (v := (nI 0)) hx hb dL_law_1451 (by decide) ?_
  refine z_l_lald hx hb X0 hR dL_law_1452 ?_
  refine lv_iload hx hb dL_law_1453 (lv_at hl 0 rfl) ?_
  refine lv_i2l (v := (((zth M 0) 21 w)).toInt64) hx hb dL_law_1455 rfl ?_
  refine W.lcmp hx hb dL_law_1456 ?_
  refine lv_topi (fun v9 ev9 => ?_)
  obtain rfl : v9 = nI 0 := ev9.trans (z_cmp_eq (hg.trans (congrArg Int32.toInt64 hres)))
  refine z_if_eq_n (tgt := 1462) hx hb dL_law_1457 (by decide) (by decide) (fun _ => ?_) (fun h => absurd h (by decide))
  refine lv_goto (tgt := 1903) hx hb dL_law_1462 (by decide) ?_
  exact K _ _ _ _ hR (lv_sub hl [2, 3, 4, 5, 6] rfl)
set_option maxHeartbeats 4000000 in
set_option maxRecDepth 100000 in
theorem lw_underWay_ok {pg : Program} {l : Launch} {e : Env} {s : State} {m : MethodId} {below : List Frame} {meth : Method} {c : Code} {b L : Nat} {xs : Nat → Int32} {D : va_G} {cI cZ cJ : ClassId} {adx adm : Nat → Nat} {oo : Nat} {Bx Bm : Nat → Prop} (C0 : lw_At pg s m meth c b L xs) (hfl : l.stackTraces = false) (X0 : zLC D cI cZ cJ adx adm oo Bx Bm s) (S M : zS) (g : Nat → Int64) (i : Nat)  (hO : zOK S) (hOM : zOK M) (hres : (S 22 2) = ((zth M 0) 22 2))  (hi : i + 4 ≤ L) (hL : L ≤ 2048) {H : Heap} {locs : List Loc} {cells slots : Nat} {ls : Array Slot} (hcc : cells + 1 ≤ 1096) (hss : slots + 6 ≤ 9967) (hR : zL D cI cZ cJ adx adm oo s H locs S M g) (hl : lv_has ls 7 [(0, .ref (b)), (1, .ref (adx 0)), (2, .ref (adm 0)), (3, .ref (oo)), (4, .int (nI (i)))]) (K : ∀ (g1 : Nat → Int64) (H1 : Heap) (locs1 : List Loc) (ls1 : Array Slot), zL D cI cZ cJ adx adm oo s H1 locs1 (S) (zth M 0) g1 → lv_has ls1 7 [(0, .ref (b)), (1, .ref (adx 0)), (2, .ref (adm 0)), (3, .ref (oo)), (4, .int (nI (i)))] → W pg l e room_1 s m #[Value.ref b] below meth c H1 locs1 (cells + 1) (slots + 6) (lw_Z below #[Value.ref b] s) (F0 m 1903 ls1 [])) : W pg l e room_1 s m #[Value.ref b] below meth c H locs cells slots (lw_Z below #[Value.ref b] s) (F0 m 1465 ls []) := by
  obtain ⟨hx, hb, hr, hml, hown, hts, hX, hbl, hlocks, hgv⟩ := C0
  have hts := fun w h => hts w (wsL_law_in w h)
  have hown : s.vm.findClass RL = some m.cls := hown
  have hb : c.code = cL_law := hb
  refine lv_aload_n hx hb dL_law_1465 rfl (lv_at hl 1 rfl) ?_
  refine z_lX_i (As := []) (rest := []) ⟨hx, hb, hml, hown, hts⟩ X0 hR (c_X4_underWay X0.2.2.1 S hO) (cwV 0 hts gL_law_X4_underWay rfl rfl rfl (by decide +kernel) ⟨Nat.le_of_ble_eq_true rfl, Nat.le_of_ble_eq_true rfl⟩) rfl hl rfl (Nat.le_of_ble_eq_true rfl) ⟨by show cells + 0 ≤ 1096; omega, by show slots + 0 ≤ 9967; omega⟩ dL_law_1466 (fun r T1 H locs hp hR => ?_)
  obtain ⟨hr1, hs1⟩ := hp
  subst r
  subst T1
  refine lv_aload_n hx hb dL_law_1469 rfl (lv_at hl 2 rfl) ?_
  refine z_lM_i (As := []) (rest := [.int (S 22 2)]) ⟨hx, hb, hml, hown, hts⟩ X0 hR (c_X5_underWay X0.2.2.2.1 M hOM) (cwV 0 hts gL_law_X5_underWay rfl rfl rfl (by decide +kernel) ⟨Nat.le_of_ble_eq_true rfl, Nat.le_of_ble_eq_true rfl⟩) rfl hl rfl (Nat.le_of_ble_eq_true rfl) ⟨by show cells + 0 ≤ 1096; omega, by show slots + 0 ≤ 9967; omega⟩ dL_law_1470 (fun r T1 H locs hp hR => ?_)
  obtain ⟨hr1, hs1⟩ := hp
  subst r
  subst T1
  refine lv_icmp_eq (tgt := 1903) hx hb dL_law_1473 (by decide) (fun _ => ?_) (fun h => absurd hres h)
  refine W.widen (k := cells + 1) (n := slots + 6) (by omega) (by omega) ?_
  exact K _ _ _ _ hR (lv_sub hl [0, 1, 2, 3, 4] rfl)
set_option maxHeartbeats 4000000 in
set_option maxRecDepth 100000 in
theorem lw_complete_ok {pg : Program} {l : Launch} {e : Env} {s : State} {m : MethodId} {below : List Frame} {meth : Method} {c : Code} {b L : Nat} {xs : Nat → Int32} {D : va_G} {cI cZ cJ : ClassId} {adx adm : Nat → Nat} {oo : Nat} {Bx Bm : Nat → Prop} (C0 : lw_At pg s m meth c b L xs) (hfl : l.stackTraces = false) (X0 : zLC D cI cZ cJ adx adm oo Bx Bm s) (S M : zS) (g : Nat → Int64) (i : Nat)  (hO : zOK S) (hOM : zOK M) (hres : (S 22 3) = ((zth M 0) 22 3))  (hi : i + 4 ≤ L) (hL : L ≤ 2048) {H : Heap} {locs : List Loc} {cells slots : Nat} {ls : Array Slot} (hcc : cells + 1 ≤ 1096) (hss : slots + 6 ≤ 9967) (hR : zL D cI cZ cJ adx adm oo s H locs S M g) (hl : lv_has ls 7 [(0, .ref (b)), (1, .ref (adx 0)), (2, .ref (adm 0)), (3, .ref (oo)), (4, .int (nI (i)))]) (K : ∀ (g1 : Nat → Int64) (H1 : Heap) (locs1 : List Loc) (ls1 : Array Slot), zL D cI cZ cJ adx adm oo s H1 locs1 (S) (zth M 0) g1 → lv_has ls1 7 [(0, .ref (b)), (1, .ref (adx 0)), (2, .ref (adm 0)), (3, .ref (oo)), (4, .int (nI (i)))] → W pg l e room_1 s m #[Value.ref b] below meth c H1 locs1 (cells + 1) (slots + 6) (lw_Z below #[Value.ref b] s) (F0 m 1903 ls1 [])) : W pg l e room_1 s m #[Value.ref b] below meth c H locs cells slots (lw_Z below #[Value.ref b] s) (F0 m 1478 ls []) := by
  obtain ⟨hx, hb, hr, hml, hown, hts, hX, hbl, hlocks, hgv⟩ := C0
  have hts := fun w h => hts w (wsL_law_in w h)
  have hown : s.vm.findClass RL = some m.cls := hown
  have hb : c.code = cL_law := hb
  refine lv_aload_n hx hb dL_law_1478 rfl (lv_at hl 1 rfl) ?_
  refine z_lX_i (As := []) (rest := []) ⟨hx, hb, hml, hown, hts⟩ X0 hR (c_X4_complete X0.2.2.1 S hO) (cwV 0 hts gL_law_X4_complete rfl rfl rfl (by decide +kernel) ⟨Nat.le_of_ble_eq_true rfl, Nat.le_of_ble_eq_true rfl⟩) rfl hl rfl (Nat.le_of_ble_eq_true rfl) ⟨by show cells + 0 ≤ 1096; omega, by show slots + 0 ≤ 9967; omega⟩ dL_law_1479 (fun r T1 H locs hp hR => ?_)
  obtain ⟨hr1, hs1⟩ := hp
  subst r
  subst T1
  refine lv_aload_n hx hb dL_law_1482 rfl (lv_at hl 2 rfl) ?_
  refine z_lM_i (As := []) (rest := [.int (S 22 3)]) ⟨hx, hb, hml, hown, hts⟩ X0 hR (c_X5_complete X0.2.2.2.1 M hOM) (cwV 0 hts gL_law_X5_complete rfl rfl rfl (by decide +kernel) ⟨Nat.le_of_ble_eq_true rfl, Nat.le_of_ble_eq_true rfl⟩) rfl hl rfl (Nat.le_of_ble_eq_true rfl) ⟨by show cells + 0 ≤ 1096; omega, by show slots + 0 ≤ 9967; omega⟩ dL_law_1483 (fun r T1 H locs hp hR => ?_)
  obtain ⟨hr1, hs1⟩ := hp
  subst r
  subst T1
  refine lv_icmp_eq (tgt := 1903) hx hb dL_law_1486 (by decide) (fun _ => ?_) (fun h => absurd hres h)
  refine W.widen (k := cells + 1) (n := slots + 6) (by omega) (by omega) ?_
  exact K _ _ _ _ hR (lv_sub hl [0, 1, 2, 3, 4] rfl)
set_option maxHeartbeats 4000000 in
set_option maxRecDepth 100000 in
theorem lw_hasSent_e1 {pg : Program} {l : Launch} {e : Env} {s : State} {m : MethodId} {below : List Frame} {meth : Method} {c : Code} {b L : Nat} {xs : Nat → Int32} {D : va_G} {cI cZ cJ : ClassId} {adx adm : Nat → Nat} {oo : Nat} {Bx Bm : Nat → Prop} (C0 : lw_At pg s m meth c b L xs) (hfl : l.stackTraces = false) (X0 : zLC D cI cZ cJ adx adm oo Bx Bm s) (S M : zS) (g : Nat → Int64) (i : Nat) (x : Int32) (hO : zOK S) (hOM : zOK M) (hxb : zbad x 4) (hxb_m : zbad x 4) (ha1 : xs (i + 1) = (x)) (hi : i + 4 ≤ L) (hL : L ≤ 2048) {H : Heap} {locs : List Loc} {cells slots : Nat} {ls : Array Slot} (hcc : cells + 1 ≤ 1096) (hss : slots + 6 ≤ 9967) (hR : zL D cI cZ cJ adx adm oo s H locs S M g) (hl : lv_has ls 7 [(0, .ref (b)), (1, .ref (adx 0)), (2, .ref (adm 0)), (3, .ref (oo)), (4, .int (nI (i)))]) (K : ∀ (g1 : Nat → Int64) (H1 : Heap) (locs1 : List Loc) (ls1 : Array Slot), zL D cI cZ cJ adx adm oo s H1 locs1 (S) (zth M 1) g1 → lv_has ls1 7 [(0, .ref (b)), (1, .ref (adx 0)), (2, .ref (adm 0)), (3, .ref (oo)), (4, .int (nI (i)))] → W pg l e room_1 s m #[Value.ref b] below meth c H1 locs1 (cells + 1) (slots + 6) (lw_Z below #[Value.ref b] s) (F0 m 1903 ls1 [])) : W pg l e room_1 s m #[Value.ref b] below meth c H locs cells slots (lw_Z below #[Value.ref b] s) (F0 m 1491 ls []) := by
  obtain ⟨hx, hb, hr, hml, hown, hts, hX, hbl, hlocks, hgv⟩ := C0
  have hts := fun w h => hts w (wsL_law_in w h)
  have hown : s.vm.findClass RL = some m.cls := hown
  have hb : c.code = cL_law := hb
  refine lv_aload_n hx hb dL_law_1491 rfl (lv_at hl 1 rfl) ?_
  refine lv_aload_n hx hb dL_law_1492 rfl (lv_at hl 0 rfl) ?_
  refine lv_iload hx hb dL_law_1493 (lv_at hl 4 rfl) ?_
  refine lv_iconst (v := (nI 1)) hx hb dL_law_1495 (by decide) ?_
  refine z_iadd_n hx hb dL_law_1496 ?_
  refine z_sld_n hx hb hX hbl hR dL_law_1497 (by omega) hL ha1 ?_
  refine lv_aload_n hx hb dL_law_1498 rfl (lv_at hl 3 rfl) ?_
  refine z_lW (As := [.ref (adx 0), .int (x), .ref (oo)]) (rest := []) ⟨hx, hb, hml, hown, hts⟩ X0 hR (o_hasSent_e1 X0.2.2.1 X0.2.2.2.2.1 hfl S g x hO hxb) (vx_cwSW 3 hts gL_law_L_hasSent rfl rfl rfl (by decide +kernel) ⟨Nat.le_of_ble_eq_true rfl, Nat.le_of_ble_eq_true rfl⟩) rfl hl rfl (Nat.le_of_ble_eq_true rfl) ⟨hcc, hss⟩ dL_law_1499 (fun r S1 g1 H locs hp hR => ?_)
  obtain ⟨hr1, hs1⟩ := hp
  subst r
  have hs1 : S1 = S := hs1
  subst S1
  refine lv_istore (lv' := [(5, .int (nI (1))), (0, .ref (b)), (1, .ref (adx 0)), (2, .ref (adm 0)), (3, .ref (oo)), (4, .int (nI (i)))]) hx hb dL_law_1502 hl (by decide) rfl (fun ls hl => ?_)
  refine lv_aload_n hx hb dL_law_1504 rfl (lv_at hl 3 rfl) ?_
  refine lv_aload_n hx hb dL_law_1505 rfl (lv_at hl 1 rfl) ?_
  refine lv_iload hx hb dL_law_1506 (lv_at hl 5 rfl) ?_
  refine lv_iconst (v := (nI 1)) hx hb dL_law_1508 (by decide) ?_
  refine z_iadd_n hx hb dL_law_1509 ?_
  refine z_sld_n hx hb hX hbl hR dL_law_1510 (by omega) hL ha1 ?_
  refine z_lM_i (As := [.int (x)]) (rest := []) ⟨hx, hb, hml, hown, hts⟩ X0 hR (c_X5_hasSent_e1 X0.2.2.2.1 M x hOM hxb_m) (cwV 1 hts gL_law_X5_hasSent rfl rfl rfl (by decide +kernel) ⟨Nat.le_of_ble_eq_true rfl, Nat.le_of_ble_eq_true rfl⟩) rfl hl rfl (Nat.le_of_ble_eq_true rfl) ⟨by show cells + 1 + 0 ≤ 1096; omega, by show slots + 6 + 0 ≤ 9967; omega⟩ dL_law_1511 (fun r T1 H locs hp hR => ?_)
  obtain ⟨hr1, hs1⟩ := hp
  subst r
  subst T1
  refine lv_istore (lv' := [(6, .int (nI (0))), (5, .int (nI (1))), (0, .ref (b)), (1, .ref (adx 0)), (2, .ref (adm 0)), (3, .ref (oo)), (4, .int (nI (i)))]) hx hb dL_law_1514 hl (by decide) rfl (fun ls hl => ?_)
  refine lv_aload_n hx hb dL_law_1516 rfl (lv_at hl 4 rfl) ?_
  refine z_lM_i (As := []) (rest := []) ⟨hx, hb, hml, hown, hts⟩ X0 hR (c_X5_thrown X0.2.2.2.1 (zth M 1)) (cwV 0 hts gL_law_X5_thrown rfl rfl rfl (by decide +kernel) ⟨Nat.le_of_ble_eq_true rfl, Nat.le_of_ble_eq_true rfl⟩) rfl hl rfl (Nat.le_of_ble_eq_true rfl) ⟨by show cells + 1 + 0 ≤ 1096; omega, by show slots + 6 + 0 ≤ 9967; omega⟩ dL_law_1517 (fun r M1 H locs hp hR => ?_)
  obtain ⟨hr1, hs1⟩ := hp
  subst M1
  obtain rfl : r = nI 1 := hr1.trans (th_4 _ _)
  refine lv_iload hx hb dL_law_1520 (lv_at hl 1 rfl) ?_
  refine z_eq_n (tgt := 1527) hx hb dL_law_1522 (by decide) (by decide) (by decide) (fun _ => ?_) (fun h => absurd rfl h)
  refine lv_iload hx hb dL_law_1527 (lv_at hl 1 rfl) ?_
  refine z_if_ne_n (tgt := 1551) hx hb dL_law_1529 (by decide) (by decide) (fun _ => ?_) (fun h => absurd h (by decide))
  refine lv_goto (tgt := 1903) hx hb dL_law_1551 (by decide) ?_
  exact K _ _ _ _ hR (lv_sub hl [2, 3, 4, 5, 6] rfl)
set_option maxHeartbeats 4000000 in
set_option maxRecDepth 100000 in
theorem lw_hasSent_ok {pg : Program} {l : Launch} {e : Env} {s : State} {m : MethodId} {below : List Frame} {meth : Method} {c : Code} {b L : Nat} {xs : Nat → Int32} {D : va_G} {cI cZ cJ : ClassId} {adx adm : Nat → Nat} {oo : Nat} {Bx Bm : Nat → Prop} (C0 : lw_At pg s m meth c b L xs) (hfl : l.stackTraces = false) (X0 : zLC D cI cZ cJ adx adm oo Bx Bm s) (S M : zS) (g : Nat → Int64) (i : Nat) (p : Nat) (hO : zOK S) (hOM : zOK M) (hp : p < 4) (hp_m : p < 4) (hres : (¬ S 22 2 = (-1) ∧ S 4 p = nI 1) ↔ (¬ M 22 2 = (-1) ∧ M 4 p = nI 1)) (ha1 : xs (i + 1) = (nI (p))) (hi : i + 4 ≤ L) (hL : L ≤ 2048) {H : Heap} {locs : List Loc} {cells slots : Nat} {ls : Array Slot} (hcc : cells + 1 ≤ 1096) (hss : slots + 6 ≤ 9967) (hR : zL D cI cZ cJ adx adm oo s H locs S M g) (hl : lv_has ls 7 [(0, .ref (b)), (1, .ref (adx 0)), (2, .ref (adm 0)), (3, .ref (oo)), (4, .int (nI (i)))]) (K : ∀ (g1 : Nat → Int64) (H1 : Heap) (locs1 : List Loc) (ls1 : Array Slot), zL D cI cZ cJ adx adm oo s H1 locs1 (S) (zth M 0) g1 → lv_has ls1 7 [(0, .ref (b)), (1, .ref (adx 0)), (2, .ref (adm 0)), (3, .ref (oo)), (4, .int (nI (i)))] → W pg l e room_1 s m #[Value.ref b] below meth c H1 locs1 (cells + 1) (slots + 6) (lw_Z below #[Value.ref b] s) (F0 m 1903 ls1 [])) : W pg l e room_1 s m #[Value.ref b] below meth c H locs cells slots (lw_Z below #[Value.ref b] s) (F0 m 1491 ls []) := by
  obtain ⟨hx, hb, hr, hml, hown, hts, hX, hbl, hlocks, hgv⟩ := C0
  have hts := fun w h => hts w (wsL_law_in w h)
  have hown : s.vm.findClass RL = some m.cls := hown
  have hb : c.code = cL_law := hb
  refine lv_aload_n hx hb dL_law_1491 rfl (lv_at hl 1 rfl) ?_
  refine lv_aload_n hx hb dL_law_1492 rfl (lv_at hl 0 rfl) ?_
  refine lv_iload hx hb dL_law_1493 (lv_at hl 4 rfl) ?_
  refine lv_iconst (v := (nI 1)) hx hb dL_law_1495 (by decide) ?_
  refine z_iadd_n hx hb dL_law_1496 ?_
  refine z_sld_n hx hb hX hbl hR dL_law_1497 (by omega) hL ha1 ?_
  refine lv_aload_n hx hb dL_law_1498 rfl (lv_at hl 3 rfl) ?_
  refine z_lW (As := [.ref (adx 0), .int (nI (p)), .ref (oo)]) (rest := []) ⟨hx, hb, hml, hown, hts⟩ X0 hR (o_hasSent_ok X0.2.2.1 X0.2.2.2.2.1 hfl S g p hO hp) (vx_cwSW 3 hts gL_law_L_hasSent rfl rfl rfl (by decide +kernel) ⟨Nat.le_of_ble_eq_true rfl, Nat.le_of_ble_eq_true rfl⟩) rfl hl rfl (Nat.le_of_ble_eq_true rfl) ⟨hcc, hss⟩ dL_law_1499 (fun r S1 g1 H locs hp hR => ?_)
  obtain ⟨hr1, hs1, hg⟩ := hp
  subst r
  have hs1 : S1 = S := hs1
  subst S1
  rcases hg with ⟨hq, hg⟩ | ⟨hq, hg⟩
  · have hg : g1 0 = 1 := hg
    refine lv_istore (lv' := [(5, .int (nI (0))), (0, .ref (b)), (1, .ref (adx 0)), (2, .ref (adm 0)), (3, .ref (oo)), (4, .int (nI (i)))]) hx hb dL_law_1502 hl (by decide) rfl (fun ls hl => ?_)
    refine lv_aload_n hx hb dL_law_1504 rfl (lv_at hl 3 rfl) ?_
    refine lv_aload_n hx hb dL_law_1505 rfl (lv_at hl 1 rfl) ?_
    refine lv_iload hx hb dL_law_1506 (lv_at hl 5 rfl) ?_
    refine lv_iconst (v := (nI 1)) hx hb dL_law_1508 (by decide) ?_
    refine z_iadd_n hx hb dL_law_1509 ?_
    refine z_sld_n hx hb hX hbl hR dL_law_1510 (by omega) hL ha1 ?_
    refine z_lM_i (As := [.int (nI (p))]) (rest := []) ⟨hx, hb, hml, hown, hts⟩ X0 hR (c_X5_hasSent_ok X0.2.2.2.1 M p hOM hp_m) (cwV 1 hts gL_law_X5_hasSent rfl rfl rfl (by decide +kernel) ⟨Nat.le_of_ble_eq_true rfl, Nat.le_of_ble_eq_true rfl⟩) rfl hl rfl (Nat.le_of_ble_eq_true rfl) ⟨by show cells + 1 + 0 ≤ 1096; omega, by show slots + 6 + 0 ≤ 9967; omega⟩ dL_law_1511 (fun r T1 H locs hp hR => ?_)
    obtain ⟨hp, hs1⟩ := hp
    subst T1
    rcases hp with ⟨hq2, hr1⟩ | ⟨hq2, hr1⟩
    · subst r
      refine lv_istore (lv' := [(6, .int (nI (1))), (5, .int (nI (0))), (0, .ref (b)), (1, .ref (adx 0)), (2, .ref (adm 0)), (3, .ref (oo)), (4, .int (nI (i)))]) hx hb dL_law_1514 hl (by decide) rfl (fun ls hl => ?_)
      refine lv_aload_n hx hb dL_law_1516 rfl (lv_at hl 4 rfl) ?_
      refine z_lM_i (As := []) (rest := []) ⟨hx, hb, hml, hown, hts⟩ X0 hR (c_X5_thrown X0.2.2.2.1 (zth M 0)) (cwV 0 hts gL_law_X5_thrown rfl rfl rfl (by decide +kernel) ⟨Nat.le_of_ble_eq_true rfl, Nat.le_of_ble_eq_true rfl⟩) rfl hl rfl (Nat.le_of_ble_eq_true rfl) ⟨by show cells + 1 + 0 ≤ 1096; omega, by show slots + 6 + 0 ≤ 9967; omega⟩ dL_law_1517 (fun r M1 H locs hp hR => ?_)
      obtain ⟨hr1, hs1⟩ := hp
      subst M1
      obtain rfl : r = nI 0 := hr1.trans (th_4 _ _)
      refine lv_iload hx hb dL_law_1520 (lv_at hl 1 rfl) ?_
      refine z_eq_n (tgt := 1527) hx hb dL_law_1522 (by decide) (by decide) (by decide) (fun _ => ?_) (fun h => absurd rfl h)
      refine lv_iload hx hb dL_law_1527 (lv_at hl 1 rfl) ?_
      refine z_if_ne_n (tgt := 1551) hx hb dL_law_1529 (by decide) (by decide) (fun h => absurd h (by decide)) (fun _ => ?_)
      refine lv_aload_n hx hb dL_law_1532 rfl (lv_at hl 5 rfl) ?_
      refine lv_iconst (v := (nI 0)) hx hb dL_law_1533 (by decide) ?_
      refine z_l_lald hx hb X0 hR dL_law_1534 ?_
      refine lv_iload hx hb dL_law_1535 (lv_at hl 0 rfl) ?_
      refine z_if_eq_n (tgt := 1544) hx hb dL_law_1537 (by decide) (by decide) (fun h => absurd h (by decide)) (fun _ => ?_)
      refine lv_lconst (v := 1) hx hb dL_law_1540 (by decide) ?_
      refine lv_goto (tgt := 1545) hx hb dL_law_1541 (by decide) ?_
      refine W.lcmp hx hb dL_law_1545 ?_
      refine lv_topi (fun v9 ev9 => ?_)
      obtain rfl : v9 = nI 0 := ev9.trans (z_cmp_eq hg)
      refine z_if_eq_n (tgt := 1551) hx hb dL_law_1546 (by decide) (by decide) (fun _ => ?_) (fun h => absurd h (by decide))
      refine lv_goto (tgt := 1903) hx hb dL_law_1551 (by decide) ?_
      exact K _ _ _ _ hR (lv_sub hl [2, 3, 4, 5, 6] rfl)
    · exact absurd (hres.mp hq) hq2
  · have hg : g1 0 = 0 := hg
    refine lv_istore (lv' := [(5, .int (nI (0))), (0, .ref (b)), (1, .ref (adx 0)), (2, .ref (adm 0)), (3, .ref (oo)), (4, .int (nI (i)))]) hx hb dL_law_1502 hl (by decide) rfl (fun ls hl => ?_)
    refine lv_aload_n hx hb dL_law_1504 rfl (lv_at hl 3 rfl) ?_
    refine lv_aload_n hx hb dL_law_1505 rfl (lv_at hl 1 rfl) ?_
    refine lv_iload hx hb dL_law_1506 (lv_at hl 5 rfl) ?_
    refine lv_iconst (v := (nI 1)) hx hb dL_law_1508 (by decide) ?_
    refine z_iadd_n hx hb dL_law_1509 ?_
    refine z_sld_n hx hb hX hbl hR dL_law_1510 (by omega) hL ha1 ?_
    refine z_lM_i (As := [.int (nI (p))]) (rest := []) ⟨hx, hb, hml, hown, hts⟩ X0 hR (c_X5_hasSent_ok X0.2.2.2.1 M p hOM hp_m) (cwV 1 hts gL_law_X5_hasSent rfl rfl rfl (by decide +kernel) ⟨Nat.le_of_ble_eq_true rfl, Nat.le_of_ble_eq_true rfl⟩) rfl hl rfl (Nat.le_of_ble_eq_true rfl) ⟨by show cells + 1 + 0 ≤ 1096; omega, by show slots + 6 + 0 ≤ 9967; omega⟩ dL_law_1511 (fun r T1 H locs hp hR => ?_)
    obtain ⟨hp, hs1⟩ := hp
    subst T1
    rcases hp with ⟨hq2, hr1⟩ | ⟨hq2, hr1⟩
    · exact absurd (hres.mpr hq2) hq
    · subst r
      refine lv_istore (lv' := [(6, .int (nI (0))), (5, .int (nI (0))), (0, .ref (b)), (1, .ref (adx 0)), (2, .ref (adm 0)), (3, .ref (oo)), (4, .int (nI (i)))]) hx hb dL_law_1514 hl (by decide) rfl (fun ls hl => ?_)
      refine lv_aload_n hx hb dL_law_1516 rfl (lv_at hl 4 rfl) ?_
      refine z_lM_i (As := []) (rest := []) ⟨hx, hb, hml, hown, hts⟩ X0 hR (c_X5_thrown X0.2.2.2.1 (zth M 0)) (cwV 0 hts gL_law_X5_thrown rfl rfl rfl (by decide +kernel) ⟨Nat.le_of_ble_eq_true rfl, Nat.le_of_ble_eq_true rfl⟩) rfl hl rfl (Nat.le_of_ble_eq_true rfl) ⟨by show cells + 1 + 0 ≤ 1096; omega, by show slots + 6 + 0 ≤ 9967; omega⟩ dL_law_1517 (fun r M1 H locs hp hR => ?_)
      obtain ⟨hr1, hs1⟩ := hp
      subst M1
      obtain rfl : r = nI 0 := hr1.trans (th_4 _ _)
      refine lv_iload hx hb dL_law_1520 (lv_at hl 1 rfl) ?_
      refine z_eq_n (tgt := 1527) hx hb dL_law_1522 (by decide) (by decide) (by decide) (fun _ => ?_) (fun h => absurd rfl h)
      refine lv_iload hx hb dL_law_1527 (lv_at hl 1 rfl) ?_
      refine z_if_ne_n (tgt := 1551) hx hb dL_law_1529 (by decide) (by decide) (fun h => absurd h (by decide)) (fun _ => ?_)
      refine lv_aload_n hx hb dL_law_1532 rfl (lv_at hl 5 rfl) ?_
      refine lv_iconst (v := (nI 0)) hx hb dL_law_1533 (by decide) ?_
      refine z_l_lald hx hb X0 hR dL_law_1534 ?_
      refine lv_iload hx hb dL_law_1535 (lv_at hl 0 rfl) ?_
      refine z_if_eq_n (tgt := 1544) hx hb dL_law_1537 (by decide) (by decide) (fun _ => ?_) (fun h => absurd h (by decide))
      refine lv_lconst (v := 0) hx hb dL_law_1544 (by decide) ?_
      refine W.lcmp hx hb dL_law_1545 ?_
      refine lv_topi (fun v9 ev9 => ?_)
      obtain rfl : v9 = nI 0 := ev9.trans (z_cmp_eq hg)
      refine z_if_eq_n (tgt := 1551) hx hb dL_law_1546 (by decide) (by decide) (fun _ => ?_) (fun h => absurd h (by decide))
      refine lv_goto (tgt := 1903) hx hb dL_law_1551 (by decide) ?_
      exact K _ _ _ _ hR (lv_sub hl [2, 3, 4, 5, 6] rfl)
set_option maxHeartbeats 4000000 in
set_option maxRecDepth 100000 in
theorem lw_keptOffset_e1 {pg : Program} {l : Launch} {e : Env} {s : State} {m : MethodId} {below : List Frame} {meth : Method} {c : Code} {b L : Nat} {xs : Nat → Int32} {D : va_G} {cI cZ cJ : ClassId} {adx adm : Nat → Nat} {oo : Nat} {Bx Bm : Nat → Prop} (C0 : lw_At pg s m meth c b L xs) (hfl : l.stackTraces = false) (X0 : zLC D cI cZ cJ adx adm oo Bx Bm s) (S M : zS) (g : Nat → Int64) (i : Nat) (x : Int32) (hO : zOK S) (hOM : zOK M) (hxb : zbad x 4) (hxb_m : zbad x 4) (ha1 : xs (i + 1) = (x)) (hi : i + 4 ≤ L) (hL : L ≤ 2048) {H : Heap} {locs : List Loc} {cells slots : Nat} {ls : Array Slot} (hcc : cells + 1 ≤ 1096) (hss : slots + 6 ≤ 9967) (hR : zL D cI cZ cJ adx adm oo s H locs S M g) (hl : lv_has ls 7 [(0, .ref (b)), (1, .ref (adx 0)), (2, .ref (adm 0)), (3, .ref (oo)), (4, .int (nI (i)))]) (K : ∀ (g1 : Nat → Int64) (H1 : Heap) (locs1 : List Loc) (ls1 : Array Slot), zL D cI cZ cJ adx adm oo s H1 locs1 (S) (zth M 1) g1 → lv_has ls1 7 [(0, .ref (b)), (1, .ref (adx 0)), (2, .ref (adm 0)), (3, .ref (oo)), (4, .int (nI (i)))] → W pg l e room_1 s m #[Value.ref b] below meth c H1 locs1 (cells + 1) (slots + 6) (lw_Z below #[Value.ref b] s) (F0 m 1903 ls1 [])) : W pg l e room_1 s m #[Value.ref b] below meth c H locs cells slots (lw_Z below #[Value.ref b] s) (F0 m 1554 ls []) := by
  obtain ⟨hx, hb, hr, hml, hown, hts, hX, hbl, hlocks, hgv⟩ := C0
  have hts := fun w h => hts w (wsL_law_in w h)
  have hown : s.vm.findClass RL = some m.cls := hown
  have hb : c.code = cL_law := hb
  refine lv_aload_n hx hb dL_law_1554 rfl (lv_at hl 1 rfl) ?_
  refine lv_aload_n hx hb dL_law_1555 rfl (lv_at hl 0 rfl) ?_
  refine lv_iload hx hb dL_law_1556 (lv_at hl 4 rfl) ?_
  refine lv_iconst (v := (nI 1)) hx hb dL_law_1558 (by decide) ?_
  refine z_iadd_n hx hb dL_law_1559 ?_
  refine z_sld_n hx hb hX hbl hR dL_law_1560 (by omega) hL ha1 ?_
  refine lv_aload_n hx hb dL_law_1561 rfl (lv_at hl 3 rfl) ?_
  refine z_lW (As := [.ref (adx 0), .int (x), .ref (oo)]) (rest := []) ⟨hx, hb, hml, hown, hts⟩ X0 hR (o_keptOffset_e1 X0.2.2.1 X0.2.2.2.2.1 hfl S g x hO hxb) (vx_cwSW 3 hts gL_law_L_keptOffset rfl rfl rfl (by decide +kernel) ⟨Nat.le_of_ble_eq_true rfl, Nat.le_of_ble_eq_true rfl⟩) rfl hl rfl (Nat.le_of_ble_eq_true rfl) ⟨hcc, hss⟩ dL_law_1562 (fun r S1 g1 H locs hp hR => ?_)
  obtain ⟨hr1, hs1⟩ := hp
  subst r
  have hs1 : S1 = S := hs1
  subst S1
  refine lv_istore (lv' := [(5, .int (nI (1))), (0, .ref (b)), (1, .ref (adx 0)), (2, .ref (adm 0)), (3, .ref (oo)), (4, .int (nI (i)))]) hx hb dL_law_1565 hl (by decide) rfl (fun ls hl => ?_)
  refine lv_aload_n hx hb dL_law_1567 rfl (lv_at hl 3 rfl) ?_
  refine lv_aload_n hx hb dL_law_1568 rfl (lv_at hl 1 rfl) ?_
  refine lv_iload hx hb dL_law_1569 (lv_at hl 5 rfl) ?_
  refine lv_iconst (v := (nI 1)) hx hb dL_law_1571 (by decide) ?_
  refine z_iadd_n hx hb dL_law_1572 ?_
  refine z_sld_n hx hb hX hbl hR dL_law_1573 (by omega) hL ha1 ?_
  refine z_lM_i (As := [.int (x)]) (rest := []) ⟨hx, hb, hml, hown, hts⟩ X0 hR (c_X5_keptOffset_e1 X0.2.2.2.1 M x hOM hxb_m) (cwV 1 hts gL_law_X5_keptOffset rfl rfl rfl (by decide +kernel) ⟨Nat.le_of_ble_eq_true rfl, Nat.le_of_ble_eq_true rfl⟩) rfl hl rfl (Nat.le_of_ble_eq_true rfl) ⟨by show cells + 1 + 0 ≤ 1096; omega, by show slots + 6 + 0 ≤ 9967; omega⟩ dL_law_1574 (fun r T1 H locs hp hR => ?_)
  obtain ⟨hr1, hs1⟩ := hp
  subst r
  subst T1
  refine lv_istore (lv' := [(6, .int (nI (0))), (5, .int (nI (1))), (0, .ref (b)), (1, .ref (adx 0)), (2, .ref (adm 0)), (3, .ref (oo)), (4, .int (nI (i)))]) hx hb dL_law_1577 hl (by decide) rfl (fun ls hl => ?_)
  refine lv_aload_n hx hb dL_law_1579 rfl (lv_at hl 4 rfl) ?_
  refine z_lM_i (As := []) (rest := []) ⟨hx, hb, hml, hown, hts⟩ X0 hR (c_X5_thrown X0.2.2.2.1 (zth M 1)) (cwV 0 hts gL_law_X5_thrown rfl rfl rfl (by decide +kernel) ⟨Nat.le_of_ble_eq_true rfl, Nat.le_of_ble_eq_true rfl⟩) rfl hl rfl (Nat.le_of_ble_eq_true rfl) ⟨by show cells + 1 + 0 ≤ 1096; omega, by show slots + 6 + 0 ≤ 9967; omega⟩ dL_law_1580 (fun r M1 H locs hp hR => ?_)
  obtain ⟨hr1, hs1⟩ := hp
  subst M1
  obtain rfl : r = nI 1 := hr1.trans (th_4 _ _)
  refine lv_iload hx hb dL_law_1583 (lv_at hl 1 rfl) ?_
  refine z_eq_n (tgt := 1590) hx hb dL_law_1585 (by decide) (by decide) (by decide) (fun _ => ?_) (fun h => absurd rfl h)
  refine lv_iload hx hb dL_law_1590 (lv_at hl 1 rfl) ?_
  refine z_if_ne_n (tgt := 1607) hx hb dL_law_1592 (by decide) (by decide) (fun _ => ?_) (fun h => absurd h (by decide))
  refine lv_goto (tgt := 1903) hx hb dL_law_1607 (by decide) ?_
  exact K _ _ _ _ hR (lv_sub hl [2, 3, 4, 5, 6] rfl)
set_option maxHeartbeats 4000000 in
set_option maxRecDepth 100000 in
theorem lw_keptOffset_ok {pg : Program} {l : Launch} {e : Env} {s : State} {m : MethodId} {below : List Frame} {meth : Method} {c : Code} {b L : Nat} {xs : Nat → Int32} {D : va_G} {cI cZ cJ : ClassId} {adx adm : Nat → Nat} {oo : Nat} {Bx Bm : Nat → Prop} (C0 : lw_At pg s m meth c b L xs) (hfl : l.stackTraces = false) (X0 : zLC D cI cZ cJ adx adm oo Bx Bm s) (S M : zS) (g : Nat → Int64) (i : Nat) (p : Nat) (hO : zOK S) (hOM : zOK M) (hp : p < 4) (hp_m : p < 4) (hres : (nI (zn S 3 p)) = (nI (zn (zth M 0) 3 p))) (ha1 : xs (i + 1) = (nI (p))) (hi : i + 4 ≤ L) (hL : L ≤ 2048) {H : Heap} {locs : List Loc} {cells slots : Nat} {ls : Array Slot} (hcc : cells + 1 ≤ 1096) (hss : slots + 6 ≤ 9967) (hR : zL D cI cZ cJ adx adm oo s H locs S M g) (hl : lv_has ls 7 [(0, .ref (b)), (1, .ref (adx 0)), (2, .ref (adm 0)), (3, .ref (oo)), (4, .int (nI (i)))]) (K : ∀ (g1 : Nat → Int64) (H1 : Heap) (locs1 : List Loc) (ls1 : Array Slot), zL D cI cZ cJ adx adm oo s H1 locs1 (S) (zth M 0) g1 → lv_has ls1 7 [(0, .ref (b)), (1, .ref (adx 0)), (2, .ref (adm 0)), (3, .ref (oo)), (4, .int (nI (i)))] → W pg l e room_1 s m #[Value.ref b] below meth c H1 locs1 (cells + 1) (slots + 6) (lw_Z below #[Value.ref b] s) (F0 m 1903 ls1 [])) : W pg l e room_1 s m #[Value.ref b] below meth c H locs cells slots (lw_Z below #[Value.ref b] s) (F0 m 1554 ls []) := by
  obtain ⟨hx, hb, hr, hml, hown, hts, hX, hbl, hlocks, hgv⟩ := C0
  have hts := fun w h => hts w (wsL_law_in w h)
  have hown : s.vm.findClass RL = some m.cls := hown
  have hb : c.code = cL_law := hb
  refine lv_aload_n hx hb dL_law_1554 rfl (lv_at hl 1 rfl) ?_
  refine lv_aload_n hx hb dL_law_1555 rfl (lv_at hl 0 rfl) ?_
  refine lv_iload hx hb dL_law_1556 (lv_at hl 4 rfl) ?_
  refine lv_iconst (v := (nI 1)) hx hb dL_law_1558 (by decide) ?_
  refine z_iadd_n hx hb dL_law_1559 ?_
  refine z_sld_n hx hb hX hbl hR dL_law_1560 (by omega) hL ha1 ?_
  refine lv_aload_n hx hb dL_law_1561 rfl (lv_at hl 3 rfl) ?_
  refine z_lW (As := [.ref (adx 0), .int (nI (p)), .ref (oo)]) (rest := []) ⟨hx, hb, hml, hown, hts⟩ X0 hR (o_keptOffset_ok X0.2.2.1 X0.2.2.2.2.1 hfl S g p hO hp) (vx_cwSW 3 hts gL_law_L_keptOffset rfl rfl rfl (by decide +kernel) ⟨Nat.le_of_ble_eq_true rfl, Nat.le_of_ble_eq_true rfl⟩) rfl hl rfl (Nat.le_of_ble_eq_true rfl) ⟨hcc, hss⟩ dL_law_1562 (fun r S1 g1 H locs hp hR => ?_)
  obtain ⟨hr1, hs1, hg⟩ := hp
  subst r
  have hs1 : S1 = S := hs1
  subst S1
  refine lv_istore (lv' := [(5, .int (nI (0))), (0, .ref (b)), (1, .ref (adx 0)), (2, .ref (adm 0)), (3, .ref (oo)), (4, .int (nI (i)))]) hx hb dL_law_1565 hl (by decide) rfl (fun ls hl => ?_)
  refine lv_aload_n hx hb dL_law_1567 rfl (lv_at hl 3 rfl) ?_
  refine lv_aload_n hx hb dL_law_1568 rfl (lv_at hl 1 rfl) ?_
  refine lv_iload hx hb dL_law_1569 (lv_at hl 5 rfl) ?_
  refine lv_iconst (v := (nI 1)) hx hb dL_law_1571 (by decide) ?_
  refine z_iadd_n hx hb dL_law_1572 ?_
  refine z_sld_n hx hb hX hbl hR dL_law_1573 (by omega) hL ha1 ?_
  refine z_lM_i (As := [.int (nI (p))]) (rest := []) ⟨hx, hb, hml, hown, hts⟩ X0 hR (c_X5_keptOffset_ok X0.2.2.2.1 M p hOM hp_m) (cwV 1 hts gL_law_X5_keptOffset rfl rfl rfl (by decide +kernel) ⟨Nat.le_of_ble_eq_true rfl, Nat.le_of_ble_eq_true rfl⟩) rfl hl rfl (Nat.le_of_ble_eq_true rfl) ⟨by show cells + 1 + 0 ≤ 1096; omega, by show slots + 6 + 0 ≤ 9967; omega⟩ dL_law_1574 (fun r T1 H locs hp hR => ?_)
  obtain ⟨hr1, hs1⟩ := hp
  subst r
  subst T1
  refine lv_istore (lv' := [(6, .int (nI (zn (zth M 0) 3 p))), (5, .int (nI (0))), (0, .ref (b)), (1, .ref (adx 0)), (2, .ref (adm 0)), (3, .ref (oo)), (4, .int (nI (i)))]) hx hb dL_law_1577 hl (by decide) rfl (fun ls hl => ?_)
  refine lv_aload_n hx hb dL_law_1579 rfl (lv_at hl 4 rfl) ?_
  refine z_lM_i (As := []) (rest := []) ⟨hx, hb, hml, hown, hts⟩ X0 hR (c_X5_thrown X0.2.2.2.1 (zth M 0)) (cwV 0 hts gL_law_X5_thrown rfl rfl rfl (by decide +kernel) ⟨Nat.le_of_ble_eq_true rfl, Nat.le_of_ble_eq_true rfl⟩) rfl hl rfl (Nat.le_of_ble_eq_true rfl) ⟨by show cells + 1 + 0 ≤ 1096; omega, by show slots + 6 + 0 ≤ 9967; omega⟩ dL_law_1580 (fun r M1 H locs hp hR => ?_)
  obtain ⟨hr1, hs1⟩ := hp
  subst M1
  obtain rfl : r = nI 0 := hr1.trans (th_4 _ _)
  refine lv_iload hx hb dL_law_1583 (lv_at hl 1 rfl) ?_
  refine z_eq_n (tgt := 1590) hx hb dL_law_1585 (by decide) (by decide) (by decide) (fun _ => ?_) (fun h => absurd rfl h)
  refine lv_iload hx hb dL_law_1590 (lv_at hl 1 rfl) ?_
  refine z_if_ne_n (tgt := 1607) hx hb dL_law_1592 (by decide) (by decide) (fun h => absurd h (by decide)) (fun _ => ?_)
  refine lv_aload_n hx hb dL_law_1595 rfl (lv_at hl 5 rfl) ?_
  refine lv_iconst (v := (nI 0)) hx hb dL_law_1596 (by decide) ?_
  refine z_l_lald hx hb X0 hR dL_law_1597 ?_
  refine lv_iload hx hb dL_law_1598 (lv_at hl 0 rfl) ?_
  refine lv_i2l (v := ((nI (zn (zth M 0) 3 p))).toInt64) hx hb dL_law_1600 rfl ?_
  refine W.lcmp hx hb dL_law_1601 ?_
  refine lv_topi (fun v9 ev9 => ?_)
  obtain rfl : v9 = nI 0 := ev9.trans (z_cmp_eq (hg.trans (congrArg Int32.toInt64 hres)))
  refine z_if_eq_n (tgt := 1607) hx hb dL_law_1602 (by decide) (by decide) (fun _ => ?_) (fun h => absurd h (by decide))
  refine lv_goto (tgt := 1903) hx hb dL_law_1607 (by decide) ?_
  exact K _ _ _ _ hR (lv_sub hl [2, 3, 4, 5, 6] rfl)
set_option maxHeartbeats 4000000 in
set_option maxRecDepth 100000 in
theorem lw_keptSum_e1 {pg : Program} {l : Launch} {e : Env} {s : State} {m : MethodId} {below : List Frame} {meth : Method} {c : Code} {b L : Nat} {xs : Nat → Int32} {D : va_G} {cI cZ cJ : ClassId} {adx adm : Nat → Nat} {oo : Nat} {Bx Bm : Nat → Prop} (C0 : lw_At pg s m meth c b L xs) (hfl : l.stackTraces = false) (X0 : zLC D cI cZ cJ adx adm oo Bx Bm s) (S M : zS) (g : Nat → Int64) (i : Nat) (x : Int32) (hO : zOK S) (hOM : zOK M) (hxb : zbad x 32) (hxb_m : zbad x 32) (ha1 : xs (i + 1) = (x)) (hi : i + 4 ≤ L) (hL : L ≤ 2048) {H : Heap} {locs : List Loc} {cells slots : Nat} {ls : Array Slot} (hcc : cells + 1 ≤ 1096) (hss : slots + 6 ≤ 9967) (hR : zL D cI cZ cJ adx adm oo s H locs S M g) (hl : lv_has ls 7 [(0, .ref (b)), (1, .ref (adx 0)), (2, .ref (adm 0)), (3, .ref (oo)), (4, .int (nI (i)))]) (K : ∀ (g1 : Nat → Int64) (H1 : Heap) (locs1 : List Loc) (ls1 : Array Slot), zL D cI cZ cJ adx adm oo s H1 locs1 (S) (zth M 1) g1 → lv_has ls1 7 [(0, .ref (b)), (1, .ref (adx 0)), (2, .ref (adm 0)), (3, .ref (oo)), (4, .int (nI (i)))] → W pg l e room_1 s m #[Value.ref b] below meth c H1 locs1 (cells + 1) (slots + 6) (lw_Z below #[Value.ref b] s) (F0 m 1903 ls1 [])) : W pg l e room_1 s m #[Value.ref b] below meth c H locs cells slots (lw_Z below #[Value.ref b] s) (F0 m 1610 ls []) := by
  obtain ⟨hx, hb, hr, hml, hown, hts, hX, hbl, hlocks, hgv⟩ := C0
  have hts := fun w h => hts w (wsL_law_in w h)
  have hown : s.vm.findClass RL = some m.cls := hown
  have hb : c.code = cL_law := hb
  refine lv_aload_n hx hb dL_law_1610 rfl (lv_at hl 1 rfl) ?_
  refine lv_aload_n hx hb dL_law_1611 rfl (lv_at hl 0 rfl) ?_
  refine lv_iload hx hb dL_law_1612 (lv_at hl 4 rfl) ?_
  refine lv_iconst (v := (nI 1)) hx hb dL_law_1614 (by decide) ?_
  refine z_iadd_n hx hb dL_law_1615 ?_
  refine z_sld_n hx hb hX hbl hR dL_law_1616 (by omega) hL ha1 ?_
  refine lv_aload_n hx hb dL_law_1617 rfl (lv_at hl 3 rfl) ?_
  refine z_lW (As := [.ref (adx 0), .int (x), .ref (oo)]) (rest := []) ⟨hx, hb, hml, hown, hts⟩ X0 hR (o_keptSum_e1 X0.2.2.1 X0.2.2.2.2.1 hfl S g x hO hxb) (vx_cwSW 3 hts gL_law_L_keptSum rfl rfl rfl (by decide +kernel) ⟨Nat.le_of_ble_eq_true rfl, Nat.le_of_ble_eq_true rfl⟩) rfl hl rfl (Nat.le_of_ble_eq_true rfl) ⟨hcc, hss⟩ dL_law_1618 (fun r S1 g1 H locs hp hR => ?_)
  obtain ⟨hr1, hs1⟩ := hp
  subst r
  have hs1 : S1 = S := hs1
  subst S1
  refine lv_istore (lv' := [(5, .int (nI (1))), (0, .ref (b)), (1, .ref (adx 0)), (2, .ref (adm 0)), (3, .ref (oo)), (4, .int (nI (i)))]) hx hb dL_law_1621 hl (by decide) rfl (fun ls hl => ?_)
  refine lv_aload_n hx hb dL_law_1623 rfl (lv_at hl 3 rfl) ?_
  refine lv_aload_n hx hb dL_law_1624 rfl (lv_at hl 1 rfl) ?_
  refine lv_iload hx hb dL_law_1625 (lv_at hl 5 rfl) ?_
  refine lv_iconst (v := (nI 1)) hx hb dL_law_1627 (by decide) ?_
  refine z_iadd_n hx hb dL_law_1628 ?_
  refine z_sld_n hx hb hX hbl hR dL_law_1629 (by omega) hL ha1 ?_
  refine z_lM_i (As := [.int (x)]) (rest := []) ⟨hx, hb, hml, hown, hts⟩ X0 hR (c_X5_keptSum_e1 X0.2.2.2.1 M x hOM hxb_m) (cwV 1 hts gL_law_X5_keptSum rfl rfl rfl (by decide +kernel) ⟨Nat.le_of_ble_eq_true rfl, Nat.le_of_ble_eq_true rfl⟩) rfl hl rfl (Nat.le_of_ble_eq_true rfl) ⟨by show cells + 1 + 0 ≤ 1096; omega, by show slots + 6 + 0 ≤ 9967; omega⟩ dL_law_1630 (fun r T1 H locs hp hR => ?_)
  obtain ⟨hr1, hs1⟩ := hp
  subst r
  subst T1
  refine lv_istore (lv' := [(6, .int (nI (0))), (5, .int (nI (1))), (0, .ref (b)), (1, .ref (adx 0)), (2, .ref (adm 0)), (3, .ref (oo)), (4, .int (nI (i)))]) hx hb dL_law_1633 hl (by decide) rfl (fun ls hl => ?_)
  refine lv_aload_n hx hb dL_law_1635 rfl (lv_at hl 4 rfl) ?_
  refine z_lM_i (As := []) (rest := []) ⟨hx, hb, hml, hown, hts⟩ X0 hR (c_X5_thrown X0.2.2.2.1 (zth M 1)) (cwV 0 hts gL_law_X5_thrown rfl rfl rfl (by decide +kernel) ⟨Nat.le_of_ble_eq_true rfl, Nat.le_of_ble_eq_true rfl⟩) rfl hl rfl (Nat.le_of_ble_eq_true rfl) ⟨by show cells + 1 + 0 ≤ 1096; omega, by show slots + 6 + 0 ≤ 9967; omega⟩ dL_law_1636 (fun r M1 H locs hp hR => ?_)
  obtain ⟨hr1, hs1⟩ := hp
  subst M1
  obtain rfl : r = nI 1 := hr1.trans (th_4 _ _)
  refine lv_iload hx hb dL_law_1639 (lv_at hl 1 rfl) ?_
  refine z_eq_n (tgt := 1646) hx hb dL_law_1641 (by decide) (by decide) (by decide) (fun _ => ?_) (fun h => absurd rfl h)
  refine lv_iload hx hb dL_law_1646 (lv_at hl 1 rfl) ?_
  refine z_if_ne_n (tgt := 1663) hx hb dL_law_1648 (by decide) (by decide) (fun _ => ?_) (fun h => absurd h (by decide))
  refine lv_goto (tgt := 1903) hx hb dL_law_1663 (by decide) ?_
  exact K _ _ _ _ hR (lv_sub hl [2, 3, 4, 5, 6] rfl)
set_option maxHeartbeats 4000000 in
set_option maxRecDepth 100000 in
theorem lw_keptSum_ok {pg : Program} {l : Launch} {e : Env} {s : State} {m : MethodId} {below : List Frame} {meth : Method} {c : Code} {b L : Nat} {xs : Nat → Int32} {D : va_G} {cI cZ cJ : ClassId} {adx adm : Nat → Nat} {oo : Nat} {Bx Bm : Nat → Prop} (C0 : lw_At pg s m meth c b L xs) (hfl : l.stackTraces = false) (X0 : zLC D cI cZ cJ adx adm oo Bx Bm s) (S M : zS) (g : Nat → Int64) (i : Nat) (key : Nat) (hO : zOK S) (hOM : zOK M) (hk : key < 32) (hk_m : key < 32) (hres : (S 18 key) = ((zth M 0) 18 key)) (ha1 : xs (i + 1) = (nI (key))) (hi : i + 4 ≤ L) (hL : L ≤ 2048) {H : Heap} {locs : List Loc} {cells slots : Nat} {ls : Array Slot} (hcc : cells + 1 ≤ 1096) (hss : slots + 6 ≤ 9967) (hR : zL D cI cZ cJ adx adm oo s H locs S M g) (hl : lv_has ls 7 [(0, .ref (b)), (1, .ref (adx 0)), (2, .ref (adm 0)), (3, .ref (oo)), (4, .int (nI (i)))]) (K : ∀ (g1 : Nat → Int64) (H1 : Heap) (locs1 : List Loc) (ls1 : Array Slot), zL D cI cZ cJ adx adm oo s H1 locs1 (S) (zth M 0) g1 → lv_has ls1 7 [(0, .ref (b)), (1, .ref (adx 0)), (2, .ref (adm 0)), (3, .ref (oo)), (4, .int (nI (i)))] → W pg l e room_1 s m #[Value.ref b] below meth c H1 locs1 (cells + 1) (slots + 6) (lw_Z below #[Value.ref b] s) (F0 m 1903 ls1 [])) : W pg l e room_1 s m #[Value.ref b] below meth c H locs cells slots (lw_Z below #[Value.ref b] s) (F0 m 1610 ls []) := by
  obtain ⟨hx, hb, hr, hml, hown, hts, hX, hbl, hlocks, hgv⟩ := C0
  have hts := fun w h => hts w (wsL_law_in w h)
  have hown : s.vm.findClass RL = some m.cls := hown
  have hb : c.code = cL_law := hb
  refine lv_aload_n hx hb dL_law_1610 rfl (lv_at hl 1 rfl) ?_
  refine lv_aload_n hx hb dL_law_1611 rfl (lv_at hl 0 rfl) ?_
  refine lv_iload hx hb dL_law_1612 (lv_at hl 4 rfl) ?_
  refine lv_iconst (v := (nI 1)) hx hb dL_law_1614 (by decide) ?_
  refine z_iadd_n hx hb dL_law_1615 ?_
  refine z_sld_n hx hb hX hbl hR dL_law_1616 (by omega) hL ha1 ?_
  refine lv_aload_n hx hb dL_law_1617 rfl (lv_at hl 3 rfl) ?_
  refine z_lW (As := [.ref (adx 0), .int (nI (key)), .ref (oo)]) (rest := []) ⟨hx, hb, hml, hown, hts⟩ X0 hR (o_keptSum_ok X0.2.2.1 X0.2.2.2.2.1 hfl S g key hO hk) (vx_cwSW 3 hts gL_law_L_keptSum rfl rfl rfl (by decide +kernel) ⟨Nat.le_of_ble_eq_true rfl, Nat.le_of_ble_eq_true rfl⟩) rfl hl rfl (Nat.le_of_ble_eq_true rfl) ⟨hcc, hss⟩ dL_law_1618 (fun r S1 g1 H locs hp hR => ?_)
  obtain ⟨hr1, hs1, hg⟩ := hp
  subst r
  have hs1 : S1 = S := hs1
  subst S1
  refine lv_istore (lv' := [(5, .int (nI (0))), (0, .ref (b)), (1, .ref (adx 0)), (2, .ref (adm 0)), (3, .ref (oo)), (4, .int (nI (i)))]) hx hb dL_law_1621 hl (by decide) rfl (fun ls hl => ?_)
  refine lv_aload_n hx hb dL_law_1623 rfl (lv_at hl 3 rfl) ?_
  refine lv_aload_n hx hb dL_law_1624 rfl (lv_at hl 1 rfl) ?_
  refine lv_iload hx hb dL_law_1625 (lv_at hl 5 rfl) ?_
  refine lv_iconst (v := (nI 1)) hx hb dL_law_1627 (by decide) ?_
  refine z_iadd_n hx hb dL_law_1628 ?_
  refine z_sld_n hx hb hX hbl hR dL_law_1629 (by omega) hL ha1 ?_
  refine z_lM_i (As := [.int (nI (key))]) (rest := []) ⟨hx, hb, hml, hown, hts⟩ X0 hR (c_X5_keptSum_ok X0.2.2.2.1 M key hOM hk_m) (cwV 1 hts gL_law_X5_keptSum rfl rfl rfl (by decide +kernel) ⟨Nat.le_of_ble_eq_true rfl, Nat.le_of_ble_eq_true rfl⟩) rfl hl rfl (Nat.le_of_ble_eq_true rfl) ⟨by show cells + 1 + 0 ≤ 1096; omega, by show slots + 6 + 0 ≤ 9967; omega⟩ dL_law_1630 (fun r T1 H locs hp hR => ?_)
  obtain ⟨hr1, hs1⟩ := hp
  subst r
  subst T1
  refine lv_istore (lv' := [(6, .int ((zth M 0) 18 key)), (5, .int (nI (0))), (0, .ref (b)), (1, .ref (adx 0)), (2, .ref (adm 0)), (3, .ref (oo)), (4, .int (nI (i)))]) hx hb dL_law_1633 hl (by decide) rfl (fun ls hl => ?_)
  refine lv_aload_n hx hb dL_law_1635 rfl (lv_at hl 4 rfl) ?_
  refine z_lM_i (As := []) (rest := []) ⟨hx, hb, hml, hown, hts⟩ X0 hR (c_X5_thrown X0.2.2.2.1 (zth M 0)) (cwV 0 hts gL_law_X5_thrown rfl rfl rfl (by decide +kernel) ⟨Nat.le_of_ble_eq_true rfl, Nat.le_of_ble_eq_true rfl⟩) rfl hl rfl (Nat.le_of_ble_eq_true rfl) ⟨by show cells + 1 + 0 ≤ 1096; omega, by show slots + 6 + 0 ≤ 9967; omega⟩ dL_law_1636 (fun r M1 H locs hp hR => ?_)
  obtain ⟨hr1, hs1⟩ := hp
  subst M1
  obtain rfl : r = nI 0 := hr1.trans (th_4 _ _)
  refine lv_iload hx hb dL_law_1639 (lv_at hl 1 rfl) ?_
  refine z_eq_n (tgt := 1646) hx hb dL_law_1641 (by decide) (by decide) (by decide) (fun _ => ?_) (fun h => absurd rfl h)
  refine lv_iload hx hb dL_law_1646 (lv_at hl 1 rfl) ?_
  refine z_if_ne_n (tgt := 1663) hx hb dL_law_1648 (by decide) (by decide) (fun h => absurd h (by decide)) (fun _ => ?_)
  refine lv_aload_n hx hb dL_law_1651 rfl (lv_at hl 5 rfl) ?_
  refine lv_iconst (v := (nI 0)) hx hb dL_law_1652 (by decide) ?_
  refine z_l_lald hx hb X0 hR dL_law_1653 ?_
  refine lv_iload hx hb dL_law_1654 (lv_at hl 0 rfl) ?_
  refine lv_i2l (v := (((zth M 0) 18 key)).toInt64) hx hb dL_law_1656 rfl ?_
  refine W.lcmp hx hb dL_law_1657 ?_
  refine lv_topi (fun v9 ev9 => ?_)
  obtain rfl : v9 = nI 0 := ev9.trans (z_cmp_eq (hg.trans (congrArg Int32.toInt64 hres)))
  refine z_if_eq_n (tgt := 1663) hx hb dL_law_1658 (by decide) (by decide) (fun _ => ?_) (fun h => absurd h (by decide))
  refine lv_goto (tgt := 1903) hx hb dL_law_1663 (by decide) ?_
  exact K _ _ _ _ hR (lv_sub hl [2, 3, 4, 5, 6] rfl)
set_option maxHeartbeats 4000000 in
set_option maxRecDepth 100000 in
theorem lw_committedCount_e1 {pg : Program} {l : Launch} {e : Env} {s : State} {m : MethodId} {below : List Frame} {meth : Method} {c : Code} {b L : Nat} {xs : Nat → Int32} {D : va_G} {cI cZ cJ : ClassId} {adx adm : Nat → Nat} {oo : Nat} {Bx Bm : Nat → Prop} (C0 : lw_At pg s m meth c b L xs) (hfl : l.stackTraces = false) (X0 : zLC D cI cZ cJ adx adm oo Bx Bm s) (S M : zS) (g : Nat → Int64) (i : Nat) (x : Int32) (hO : zOK S) (hOM : zOK M) (hxb : zbad x 32) (hxb_m : zbad x 32) (ha1 : xs (i + 1) = (x)) (hi : i + 4 ≤ L) (hL : L ≤ 2048) {H : Heap} {locs : List Loc} {cells slots : Nat} {ls : Array Slot} (hcc : cells + 1 ≤ 1096) (hss : slots + 6 ≤ 9967) (hR : zL D cI cZ cJ adx adm oo s H locs S M g) (hl : lv_has ls 7 [(0, .ref (b)), (1, .ref (adx 0)), (2, .ref (adm 0)), (3, .ref (oo)), (4, .int (nI (i)))]) (K : ∀ (g1 : Nat → Int64) (H1 : Heap) (locs1 : List Loc) (ls1 : Array Slot), zL D cI cZ cJ adx adm oo s H1 locs1 (S) (zth M 1) g1 → lv_has ls1 7 [(0, .ref (b)), (1, .ref (adx 0)), (2, .ref (adm 0)), (3, .ref (oo)), (4, .int (nI (i)))] → W pg l e room_1 s m #[Value.ref b] below meth c H1 locs1 (cells + 1) (slots + 6) (lw_Z below #[Value.ref b] s) (F0 m 1903 ls1 [])) : W pg l e room_1 s m #[Value.ref b] below meth c H locs cells slots (lw_Z below #[Value.ref b] s) (F0 m 1666 ls []) := by
  obtain ⟨hx, hb, hr, hml, hown, hts, hX, hbl, hlocks, hgv⟩ := C0
  have hts := fun w h => hts w (wsL_law_in w h)
  have hown : s.vm.findClass RL = some m.cls := hown
  have hb : c.code = cL_law := hb
  refine lv_aload_n hx hb dL_law_1666 rfl (lv_at hl 1 rfl) ?_
  refine lv_aload_n hx hb dL_law_1667 rfl (lv_at hl 0 rfl) ?_
  refine lv_iload hx hb dL_law_1668 (lv_at hl 4 rfl) ?_
  refine lv_iconst (v := (nI 1)) hx hb dL_law_1670 (by decide) ?_
  refine z_iadd_n hx hb dL_law_1671 ?_
  refine z_sld_n hx hb hX hbl hR dL_law_1672 (by omega) hL ha1 ?_
  refine lv_aload_n hx hb dL_law_1673 rfl (lv_at hl 3 rfl) ?_
  refine z_lW (As := [.ref (adx 0), .int (x), .ref (oo)]) (rest := []) ⟨hx, hb, hml, hown, hts⟩ X0 hR (o_committedCount_e1 X0.2.2.1 X0.2.2.2.2.1 hfl S g x hO hxb) (vx_cwSW 3 hts gL_law_L_committedCount rfl rfl rfl (by decide +kernel) ⟨Nat.le_of_ble_eq_true rfl, Nat.le_of_ble_eq_true rfl⟩) rfl hl rfl (Nat.le_of_ble_eq_true rfl) ⟨hcc, hss⟩ dL_law_1674 (fun r S1 g1 H locs hp hR => ?_)
  obtain ⟨hr1, hs1⟩ := hp
  subst r
  have hs1 : S1 = S := hs1
  subst S1
  refine lv_istore (lv' := [(5, .int (nI (1))), (0, .ref (b)), (1, .ref (adx 0)), (2, .ref (adm 0)), (3, .ref (oo)), (4, .int (nI (i)))]) hx hb dL_law_1677 hl (by decide) rfl (fun ls hl => ?_)
  refine lv_aload_n hx hb dL_law_1679 rfl (lv_at hl 3 rfl) ?_
  refine lv_aload_n hx hb dL_law_1680 rfl (lv_at hl 1 rfl) ?_
  refine lv_iload hx hb dL_law_1681 (lv_at hl 5 rfl) ?_
  refine lv_iconst (v := (nI 1)) hx hb dL_law_1683 (by decide) ?_
  refine z_iadd_n hx hb dL_law_1684 ?_
  refine z_sld_n hx hb hX hbl hR dL_law_1685 (by omega) hL ha1 ?_
  refine z_lM_i (As := [.int (x)]) (rest := []) ⟨hx, hb, hml, hown, hts⟩ X0 hR (c_X5_committedCount_e1 X0.2.2.2.1 M x hOM hxb_m) (cwV 1 hts gL_law_X5_committedCount rfl rfl rfl (by decide +kernel) ⟨Nat.le_of_ble_eq_true rfl, Nat.le_of_ble_eq_true rfl⟩) rfl hl rfl (Nat.le_of_ble_eq_true rfl) ⟨by show cells + 1 + 0 ≤ 1096; omega, by show slots + 6 + 0 ≤ 9967; omega⟩ dL_law_1686 (fun r T1 H locs hp hR => ?_)
  obtain ⟨hr1, hs1⟩ := hp
  subst r
  subst T1
  refine lv_istore (lv' := [(6, .int (nI (0))), (5, .int (nI (1))), (0, .ref (b)), (1, .ref (adx 0)), (2, .ref (adm 0)), (3, .ref (oo)), (4, .int (nI (i)))]) hx hb dL_law_1689 hl (by decide) rfl (fun ls hl => ?_)
  refine lv_aload_n hx hb dL_law_1691 rfl (lv_at hl 4 rfl) ?_
  refine z_lM_i (As := []) (rest := []) ⟨hx, hb, hml, hown, hts⟩ X0 hR (c_X5_thrown X0.2.2.2.1 (zth M 1)) (cwV 0 hts gL_law_X5_thrown rfl rfl rfl (by decide +kernel) ⟨Nat.le_of_ble_eq_true rfl, Nat.le_of_ble_eq_true rfl⟩) rfl hl rfl (Nat.le_of_ble_eq_true rfl) ⟨by show cells + 1 + 0 ≤ 1096; omega, by show slots + 6 + 0 ≤ 9967; omega⟩ dL_law_1692 (fun r M1 H locs hp hR => ?_)
  obtain ⟨hr1, hs1⟩ := hp
  subst M1
  obtain rfl : r = nI 1 := hr1.trans (th_4 _ _)
  refine lv_iload hx hb dL_law_1695 (lv_at hl 1 rfl) ?_
  refine z_eq_n (tgt := 1702) hx hb dL_law_1697 (by decide) (by decide) (by decide) (fun _ => ?_) (fun h => absurd rfl h)
  refine lv_iload hx hb dL_law_1702 (lv_at hl 1 rfl) ?_
  refine z_if_ne_n (tgt := 1719) hx hb dL_law_1704 (by decide) (by decide) (fun _ => ?_) (fun h => absurd h (by decide))
  refine lv_goto (tgt := 1903) hx hb dL_law_1719 (by decide) ?_
  exact K _ _ _ _ hR (lv_sub hl [2, 3, 4, 5, 6] rfl)
set_option maxHeartbeats 4000000 in
set_option maxRecDepth 100000 in
theorem lw_committedCount_ok {pg : Program} {l : Launch} {e : Env} {s : State} {m : MethodId} {below : List Frame} {meth : Method} {c : Code} {b L : Nat} {xs : Nat → Int32} {D : va_G} {cI cZ cJ : ClassId} {adx adm : Nat → Nat} {oo : Nat} {Bx Bm : Nat → Prop} (C0 : lw_At pg s m meth c b L xs) (hfl : l.stackTraces = false) (X0 : zLC D cI cZ cJ adx adm oo Bx Bm s) (S M : zS) (g : Nat → Int64) (i : Nat) (key : Nat) (hO : zOK S) (hOM : zOK M) (hk : key < 32) (hk_m : key < 32) (hres : (S 19 key) = ((zth M 0) 19 key)) (ha1 : xs (i + 1) = (nI (key))) (hi : i + 4 ≤ L) (hL : L ≤ 2048) {H : Heap} {locs : List Loc} {cells slots : Nat} {ls : Array Slot} (hcc : cells + 1 ≤ 1096) (hss : slots + 6 ≤ 9967) (hR : zL D cI cZ cJ adx adm oo s H locs S M g) (hl : lv_has ls 7 [(0, .ref (b)), (1, .ref (adx 0)), (2, .ref (adm 0)), (3, .ref (oo)), (4, .int (nI (i)))]) (K : ∀ (g1 : Nat → Int64) (H1 : Heap) (locs1 : List Loc) (ls1 : Array Slot), zL D cI cZ cJ adx adm oo s H1 locs1 (S) (zth M 0) g1 → lv_has ls1 7 [(0, .ref (b)), (1, .ref (adx 0)), (2, .ref (adm 0)), (3, .ref (oo)), (4, .int (nI (i)))] → W pg l e room_1 s m #[Value.ref b] below meth c H1 locs1 (cells + 1) (slots + 6) (lw_Z below #[Value.ref b] s) (F0 m 1903 ls1 [])) : W pg l e room_1 s m #[Value.ref b] below meth c H locs cells slots (lw_Z below #[Value.ref b] s) (F0 m 1666 ls []) := by
  obtain ⟨hx, hb, hr, hml, hown, hts, hX, hbl, hlocks, hgv⟩ := C0
  have hts := fun w h => hts w (wsL_law_in w h)
  have hown : s.vm.findClass RL = some m.cls := hown
  have hb : c.code = cL_law := hb
  refine lv_aload_n hx hb dL_law_1666 rfl (lv_at hl 1 rfl) ?_
  refine lv_aload_n hx hb dL_law_1667 rfl (lv_at hl 0 rfl) ?_
  refine lv_iload hx hb dL_law_1668 (lv_at hl 4 rfl) ?_
  refine lv_iconst (v := (nI 1)) hx hb dL_law_1670 (by decide) ?_
  refine z_iadd_n hx hb dL_law_1671 ?_
  refine z_sld_n hx hb hX hbl hR dL_law_1672 (by omega) hL ha1 ?_
  refine lv_aload_n hx hb dL_law_1673 rfl (lv_at hl 3 rfl) ?_
  refine z_lW (As := [.ref (adx 0), .int (nI (key)), .ref (oo)]) (rest := []) ⟨hx, hb, hml, hown, hts⟩ X0 hR (o_committedCount_ok X0.2.2.1 X0.2.2.2.2.1 hfl S g key hO hk) (vx_cwSW 3 hts gL_law_L_committedCount rfl rfl rfl (by decide +kernel) ⟨Nat.le_of_ble_eq_true rfl, Nat.le_of_ble_eq_true rfl⟩) rfl hl rfl (Nat.le_of_ble_eq_true rfl) ⟨hcc, hss⟩ dL_law_1674 (fun r S1 g1 H locs hp hR => ?_)
  obtain ⟨hr1, hs1, hg⟩ := hp
  subst r
  have hs1 : S1 = S := hs1
  subst S1
  refine lv_istore (lv' := [(5, .int (nI (0))), (0, .ref (b)), (1, .ref (adx 0)), (2, .ref (adm 0)), (3, .ref (oo)), (4, .int (nI (i)))]) hx hb dL_law_1677 hl (by decide) rfl (fun ls hl => ?_)
  refine lv_aload_n hx hb dL_law_1679 rfl (lv_at hl 3 rfl) ?_
  refine lv_aload_n hx hb dL_law_1680 rfl (lv_at hl 1 rfl) ?_
  refine lv_iload hx hb dL_law_1681 (lv_at hl 5 rfl) ?_
  refine lv_iconst (v := (nI 1)) hx hb dL_law_1683 (by decide) ?_
  refine z_iadd_n hx hb dL_law_1684 ?_
  refine z_sld_n hx hb hX hbl hR dL_law_1685 (by omega) hL ha1 ?_
  refine z_lM_i (As := [.int (nI (key))]) (rest := []) ⟨hx, hb, hml, hown, hts⟩ X0 hR (c_X5_committedCount_ok X0.2.2.2.1 M key hOM hk_m) (cwV 1 hts gL_law_X5_committedCount rfl rfl rfl (by decide +kernel) ⟨Nat.le_of_ble_eq_true rfl, Nat.le_of_ble_eq_true rfl⟩) rfl hl rfl (Nat.le_of_ble_eq_true rfl) ⟨by show cells + 1 + 0 ≤ 1096; omega, by show slots + 6 + 0 ≤ 9967; omega⟩ dL_law_1686 (fun r T1 H locs hp hR => ?_)
  obtain ⟨hr1, hs1⟩ := hp
  subst r
  subst T1
  refine lv_istore (lv' := [(6, .int ((zth M 0) 19 key)), (5, .int (nI (0))), (0, .ref (b)), (1, .ref (adx 0)), (2, .ref (adm 0)), (3, .ref (oo)), (4, .int (nI (i)))]) hx hb dL_law_1689 hl (by decide) rfl (fun ls hl => ?_)
  refine lv_aload_n hx hb dL_law_1691 rfl (lv_at hl 4 rfl) ?_
  refine z_lM_i (As := []) (rest := []) ⟨hx, hb, hml, hown, hts⟩ X0 hR (c_X5_thrown X0.2.2.2.1 (zth M 0)) (cwV 0 hts gL_law_X5_thrown rfl rfl rfl (by decide +kernel) ⟨Nat.le_of_ble_eq_true rfl, Nat.le_of_ble_eq_true rfl⟩) rfl hl rfl (Nat.le_of_ble_eq_true rfl) ⟨by show cells + 1 + 0 ≤ 1096; omega, by show slots + 6 + 0 ≤ 9967; omega⟩ dL_law_1692 (fun r M1 H locs hp hR => ?_)
  obtain ⟨hr1, hs1⟩ := hp
  subst M1
  obtain rfl : r = nI 0 := hr1.trans (th_4 _ _)
  refine lv_iload hx hb dL_law_1695 (lv_at hl 1 rfl) ?_
  refine z_eq_n (tgt := 1702) hx hb dL_law_1697 (by decide) (by decide) (by decide) (fun _ => ?_) (fun h => absurd rfl h)
  refine lv_iload hx hb dL_law_1702 (lv_at hl 1 rfl) ?_
  refine z_if_ne_n (tgt := 1719) hx hb dL_law_1704 (by decide) (by decide) (fun h => absurd h (by decide)) (fun _ => ?_)
  refine lv_aload_n hx hb dL_law_1707 rfl (lv_at hl 5 rfl) ?_
  refine lv_iconst (v := (nI 0)) hx hb dL_law_1708 (by decide) ?_
  refine z_l_lald hx hb X0 hR dL_law_1709 ?_
  refine lv_iload hx hb dL_law_1710 (lv_at hl 0 rfl) ?_
  refine lv_i2l (v := (((zth M 0) 19 key)).toInt64) hx hb dL_law_1712 rfl ?_
  refine W.lcmp hx hb dL_law_1713 ?_
  refine lv_topi (fun v9 ev9 => ?_)
  obtain rfl : v9 = nI 0 := ev9.trans (z_cmp_eq (hg.trans (congrArg Int32.toInt64 hres)))
  refine z_if_eq_n (tgt := 1719) hx hb dL_law_1714 (by decide) (by decide) (fun _ => ?_) (fun h => absurd h (by decide))
  refine lv_goto (tgt := 1903) hx hb dL_law_1719 (by decide) ?_
  exact K _ _ _ _ hR (lv_sub hl [2, 3, 4, 5, 6] rfl)
set_option maxHeartbeats 4000000 in
set_option maxRecDepth 100000 in
theorem lw_committedSum_e1 {pg : Program} {l : Launch} {e : Env} {s : State} {m : MethodId} {below : List Frame} {meth : Method} {c : Code} {b L : Nat} {xs : Nat → Int32} {D : va_G} {cI cZ cJ : ClassId} {adx adm : Nat → Nat} {oo : Nat} {Bx Bm : Nat → Prop} (C0 : lw_At pg s m meth c b L xs) (hfl : l.stackTraces = false) (X0 : zLC D cI cZ cJ adx adm oo Bx Bm s) (S M : zS) (g : Nat → Int64) (i : Nat) (x : Int32) (hO : zOK S) (hOM : zOK M) (hxb : zbad x 32) (hxb_m : zbad x 32) (ha1 : xs (i + 1) = (x)) (hi : i + 4 ≤ L) (hL : L ≤ 2048) {H : Heap} {locs : List Loc} {cells slots : Nat} {ls : Array Slot} (hcc : cells + 1 ≤ 1096) (hss : slots + 6 ≤ 9967) (hR : zL D cI cZ cJ adx adm oo s H locs S M g) (hl : lv_has ls 7 [(0, .ref (b)), (1, .ref (adx 0)), (2, .ref (adm 0)), (3, .ref (oo)), (4, .int (nI (i)))]) (K : ∀ (g1 : Nat → Int64) (H1 : Heap) (locs1 : List Loc) (ls1 : Array Slot), zL D cI cZ cJ adx adm oo s H1 locs1 (S) (zth M 1) g1 → lv_has ls1 7 [(0, .ref (b)), (1, .ref (adx 0)), (2, .ref (adm 0)), (3, .ref (oo)), (4, .int (nI (i)))] → W pg l e room_1 s m #[Value.ref b] below meth c H1 locs1 (cells + 1) (slots + 6) (lw_Z below #[Value.ref b] s) (F0 m 1903 ls1 [])) : W pg l e room_1 s m #[Value.ref b] below meth c H locs cells slots (lw_Z below #[Value.ref b] s) (F0 m 1722 ls []) := by
  obtain ⟨hx, hb, hr, hml, hown, hts, hX, hbl, hlocks, hgv⟩ := C0
  have hts := fun w h => hts w (wsL_law_in w h)
  have hown : s.vm.findClass RL = some m.cls := hown
  have hb : c.code = cL_law := hb
  refine lv_aload_n hx hb dL_law_1722 rfl (lv_at hl 1 rfl) ?_
  refine lv_aload_n hx hb dL_law_1723 rfl (lv_at hl 0 rfl) ?_
  refine lv_iload hx hb dL_law_1724 (lv_at hl 4 rfl) ?_
  refine lv_iconst (v := (nI 1)) hx hb dL_law_1726 (by decide) ?_
  refine z_iadd_n hx hb dL_law_1727 ?_
  refine z_sld_n hx hb hX hbl hR dL_law_1728 (by omega) hL ha1 ?_
  refine lv_aload_n hx hb dL_law_1729 rfl (lv_at hl 3 rfl) ?_
  refine z_lW (As := [.ref (adx 0), .int (x), .ref (oo)]) (rest := []) ⟨hx, hb, hml, hown, hts⟩ X0 hR (o_committedSum_e1 X0.2.2.1 X0.2.2.2.2.1 hfl S g x hO hxb) (vx_cwSW 3 hts gL_law_L_committedSum rfl rfl rfl (by decide +kernel) ⟨Nat.le_of_ble_eq_true rfl, Nat.le_of_ble_eq_true rfl⟩) rfl hl rfl (Nat.le_of_ble_eq_true rfl) ⟨hcc, hss⟩ dL_law_1730 (fun r S1 g1 H locs hp hR => ?_)
  obtain ⟨hr1, hs1⟩ := hp
  subst r
  have hs1 : S1 = S := hs1
  subst S1
  refine lv_istore (lv' := [(5, .int (nI (1))), (0, .ref (b)), (1, .ref (adx 0)), (2, .ref (adm 0)), (3, .ref (oo)), (4, .int (nI (i)))]) hx hb dL_law_1733 hl (by decide) rfl (fun ls hl => ?_)
  refine lv_aload_n hx hb dL_law_1735 rfl (lv_at hl 3 rfl) ?_
  refine lv_aload_n hx hb dL_law_1736 rfl (lv_at hl 1 rfl) ?_
  refine lv_iload hx hb dL_law_1737 (lv_at hl 5 rfl) ?_
  refine lv_iconst (v := (nI 1)) hx hb dL_law_1739 (by decide) ?_
  refine z_iadd_n hx hb dL_law_1740 ?_
  refine z_sld_n hx hb hX hbl hR dL_law_1741 (by omega) hL ha1 ?_
  refine z_lM_i (As := [.int (x)]) (rest := []) ⟨hx, hb, hml, hown, hts⟩ X0 hR (c_X5_committedSum_e1 X0.2.2.2.1 M x hOM hxb_m) (cwV 1 hts gL_law_X5_committedSum rfl rfl rfl (by decide +kernel) ⟨Nat.le_of_ble_eq_true rfl, Nat.le_of_ble_eq_true rfl⟩) rfl hl rfl (Nat.le_of_ble_eq_true rfl) ⟨by show cells + 1 + 0 ≤ 1096; omega, by show slots + 6 + 0 ≤ 9967; omega⟩ dL_law_1742 (fun r T1 H locs hp hR => ?_)
  obtain ⟨hr1, hs1⟩ := hp
  subst r
  subst T1
  refine lv_istore (lv' := [(6, .int (nI (0))), (5, .int (nI (1))), (0, .ref (b)), (1, .ref (adx 0)), (2, .ref (adm 0)), (3, .ref (oo)), (4, .int (nI (i)))]) hx hb dL_law_1745 hl (by decide) rfl (fun ls hl => ?_)
  refine lv_aload_n hx hb dL_law_1747 rfl (lv_at hl 4 rfl) ?_
  refine z_lM_i (As := []) (rest := []) ⟨hx, hb, hml, hown, hts⟩ X0 hR (c_X5_thrown X0.2.2.2.1 (zth M 1)) (cwV 0 hts gL_law_X5_thrown rfl rfl rfl (by decide +kernel) ⟨Nat.le_of_ble_eq_true rfl, Nat.le_of_ble_eq_true rfl⟩) rfl hl rfl (Nat.le_of_ble_eq_true rfl) ⟨by show cells + 1 + 0 ≤ 1096; omega, by show slots + 6 + 0 ≤ 9967; omega⟩ dL_law_1748 (fun r M1 H locs hp hR => ?_)
  obtain ⟨hr1, hs1⟩ := hp
  subst M1
  obtain rfl : r = nI 1 := hr1.trans (th_4 _ _)
  refine lv_iload hx hb dL_law_1751 (lv_at hl 1 rfl) ?_
  refine z_eq_n (tgt := 1758) hx hb dL_law_1753 (by decide) (by decide) (by decide) (fun _ => ?_) (fun h => absurd rfl h)
  refine lv_iload hx hb dL_law_1758 (lv_at hl 1 rfl) ?_
  refine z_if_ne_n (tgt := 1775) hx hb dL_law_1760 (by decide) (by decide) (fun _ => ?_) (fun h => absurd h (by decide))
  refine lv_goto (tgt := 1903) hx hb dL_law_1775 (by decide) ?_
  exact K _ _ _ _ hR (lv_sub hl [2, 3, 4, 5, 6] rfl)
set_option maxHeartbeats 4000000 in
set_option maxRecDepth 100000 in
theorem lw_committedSum_ok {pg : Program} {l : Launch} {e : Env} {s : State} {m : MethodId} {below : List Frame} {meth : Method} {c : Code} {b L : Nat} {xs : Nat → Int32} {D : va_G} {cI cZ cJ : ClassId} {adx adm : Nat → Nat} {oo : Nat} {Bx Bm : Nat → Prop} (C0 : lw_At pg s m meth c b L xs) (hfl : l.stackTraces = false) (X0 : zLC D cI cZ cJ adx adm oo Bx Bm s) (S M : zS) (g : Nat → Int64) (i : Nat) (key : Nat) (hO : zOK S) (hOM : zOK M) (hk : key < 32) (hk_m : key < 32) (hres : (S 20 key) = ((zth M 0) 20 key)) (ha1 : xs (i + 1) = (nI (key))) (hi : i + 4 ≤ L) (hL : L ≤ 2048) {H : Heap} {locs : List Loc} {cells slots : Nat} {ls : Array Slot} (hcc : cells + 1 ≤ 1096) (hss : slots + 6 ≤ 9967) (hR : zL D cI cZ cJ adx adm oo s H locs S M g) (hl : lv_has ls 7 [(0, .ref (b)), (1, .ref (adx 0)), (2, .ref (adm 0)), (3, .ref (oo)), (4, .int (nI (i)))]) (K : ∀ (g1 : Nat → Int64) (H1 : Heap) (locs1 : List Loc) (ls1 : Array Slot), zL D cI cZ cJ adx adm oo s H1 locs1 (S) (zth M 0) g1 → lv_has ls1 7 [(0, .ref (b)), (1, .ref (adx 0)), (2, .ref (adm 0)), (3, .ref (oo)), (4, .int (nI (i)))] → W pg l e room_1 s m #[Value.ref b] below meth c H1 locs1 (cells + 1) (slots + 6) (lw_Z below #[Value.ref b] s) (F0 m 1903 ls1 [])) : W pg l e room_1 s m #[Value.ref b] below meth c H locs cells slots (lw_Z below #[Value.ref b] s) (F0 m 1722 ls []) := by
  obtain ⟨hx, hb, hr, hml, hown, hts, hX, hbl, hlocks, hgv⟩ := C0
  have hts := fun w h => hts w (wsL_law_in w h)
  have hown : s.vm.findClass RL = some m.cls := hown
  have hb : c.code = cL_law := hb
  refine lv_aload_n hx hb dL_law_1722 rfl (lv_at hl 1 rfl) ?_
  refine lv_aload_n hx hb dL_law_1723 rfl (lv_at hl 0 rfl) ?_
  refine lv_iload hx hb dL_law_1724 (lv_at hl 4 rfl) ?_
  refine lv_iconst (v := (nI 1)) hx hb dL_law_1726 (by decide) ?_
  refine z_iadd_n hx hb dL_law_1727 ?_
  refine z_sld_n hx hb hX hbl hR dL_law_1728 (by omega) hL ha1 ?_
  refine lv_aload_n hx hb dL_law_1729 rfl (lv_at hl 3 rfl) ?_
  refine z_lW (As := [.ref (adx 0), .int (nI (key)), .ref (oo)]) (rest := []) ⟨hx, hb, hml, hown, hts⟩ X0 hR (o_committedSum_ok X0.2.2.1 X0.2.2.2.2.1 hfl S g key hO hk) (vx_cwSW 3 hts gL_law_L_committedSum rfl rfl rfl (by decide +kernel) ⟨Nat.le_of_ble_eq_true rfl, Nat.le_of_ble_eq_true rfl⟩) rfl hl rfl (Nat.le_of_ble_eq_true rfl) ⟨hcc, hss⟩ dL_law_1730 (fun r S1 g1 H locs hp hR => ?_)
  obtain ⟨hr1, hs1, hg⟩ := hp
  subst r
  have hs1 : S1 = S := hs1
  subst S1
  refine lv_istore (lv' := [(5, .int (nI (0))), (0, .ref (b)), (1, .ref (adx 0)), (2, .ref (adm 0)), (3, .ref (oo)), (4, .int (nI (i)))]) hx hb dL_law_1733 hl (by decide) rfl (fun ls hl => ?_)
  refine lv_aload_n hx hb dL_law_1735 rfl (lv_at hl 3 rfl) ?_
  refine lv_aload_n hx hb dL_law_1736 rfl (lv_at hl 1 rfl) ?_
  refine lv_iload hx hb dL_law_1737 (lv_at hl 5 rfl) ?_
  refine lv_iconst (v := (nI 1)) hx hb dL_law_1739 (by decide) ?_
  refine z_iadd_n hx hb dL_law_1740 ?_
  refine z_sld_n hx hb hX hbl hR dL_law_1741 (by omega) hL ha1 ?_
  refine z_lM_i (As := [.int (nI (key))]) (rest := []) ⟨hx, hb, hml, hown, hts⟩ X0 hR (c_X5_committedSum_ok X0.2.2.2.1 M key hOM hk_m) (cwV 1 hts gL_law_X5_committedSum rfl rfl rfl (by decide +kernel) ⟨Nat.le_of_ble_eq_true rfl, Nat.le_of_ble_eq_true rfl⟩) rfl hl rfl (Nat.le_of_ble_eq_true rfl) ⟨by show cells + 1 + 0 ≤ 1096; omega, by show slots + 6 + 0 ≤ 9967; omega⟩ dL_law_1742 (fun r T1 H locs hp hR => ?_)
  obtain ⟨hr1, hs1⟩ := hp
  subst r
  subst T1
  refine lv_istore (lv' := [(6, .int ((zth M 0) 20 key)), (5, .int (nI (0))), (0, .ref (b)), (1, .ref (adx 0)), (2, .ref (adm 0)), (3, .ref (oo)), (4, .int (nI (i)))]) hx hb dL_law_1745 hl (by decide) rfl (fun ls hl => ?_)
  refine lv_aload_n hx hb dL_law_1747 rfl (lv_at hl 4 rfl) ?_
  refine z_lM_i (As := []) (rest := []) ⟨hx, hb, hml, hown, hts⟩ X0 hR (c_X5_thrown X0.2.2.2.1 (zth M 0)) (cwV 0 hts gL_law_X5_thrown rfl rfl rfl (by decide +kernel) ⟨Nat.le_of_ble_eq_true rfl, Nat.le_of_ble_eq_true rfl⟩) rfl hl rfl (Nat.le_of_ble_eq_true rfl) ⟨by show cells + 1 + 0 ≤ 1096; omega, by show slots + 6 + 0 ≤ 9967; omega⟩ dL_law_1748 (fun r M1 H locs hp hR => ?_)
  obtain ⟨hr1, hs1⟩ := hp
  subst M1
  obtain rfl : r = nI 0 := hr1.trans (th_4 _ _)
  refine lv_iload hx hb dL_law_1751 (lv_at hl 1 rfl) ?_
  refine z_eq_n (tgt := 1758) hx hb dL_law_1753 (by decide) (by decide) (by decide) (fun _ => ?_) (fun h => absurd rfl h)
  refine lv_iload hx hb dL_law_1758 (lv_at hl 1 rfl) ?_
  refine z_if_ne_n (tgt := 1775) hx hb dL_law_1760 (by decide) (by decide) (fun h => absurd h (by decide)) (fun _ => ?_)
  refine lv_aload_n hx hb dL_law_1763 rfl (lv_at hl 5 rfl) ?_
  refine lv_iconst (v := (nI 0)) hx hb dL_law_1764 (by decide) ?_
  refine z_l_lald hx hb X0 hR dL_law_1765 ?_
  refine lv_iload hx hb dL_law_1766 (lv_at hl 0 rfl) ?_
  refine lv_i2l (v := (((zth M 0) 20 key)).toInt64) hx hb dL_law_1768 rfl ?_
  refine W.lcmp hx hb dL_law_1769 ?_
  refine lv_topi (fun v9 ev9 => ?_)
  obtain rfl : v9 = nI 0 := ev9.trans (z_cmp_eq (hg.trans (congrArg Int32.toInt64 hres)))
  refine z_if_eq_n (tgt := 1775) hx hb dL_law_1770 (by decide) (by decide) (fun _ => ?_) (fun h => absurd h (by decide))
  refine lv_goto (tgt := 1903) hx hb dL_law_1775 (by decide) ?_
  exact K _ _ _ _ hR (lv_sub hl [2, 3, 4, 5, 6] rfl)
set_option maxHeartbeats 4000000 in
set_option maxRecDepth 100000 in
theorem lw_committed_ok {pg : Program} {l : Launch} {e : Env} {s : State} {m : MethodId} {below : List Frame} {meth : Method} {c : Code} {b L : Nat} {xs : Nat → Int32} {D : va_G} {cI cZ cJ : ClassId} {adx adm : Nat → Nat} {oo : Nat} {Bx Bm : Nat → Prop} (C0 : lw_At pg s m meth c b L xs) (hfl : l.stackTraces = false) (X0 : zLC D cI cZ cJ adx adm oo Bx Bm s) (S M : zS) (g : Nat → Int64) (i : Nat)  (hO : zOK S) (hOM : zOK M) (hres : (sp_cm S 32) = (sp_cm (zth M 0) 32))  (hi : i + 4 ≤ L) (hL : L ≤ 2048) {H : Heap} {locs : List Loc} {cells slots : Nat} {ls : Array Slot} (hcc : cells + 1 ≤ 1096) (hss : slots + 6 ≤ 9967) (hR : zL D cI cZ cJ adx adm oo s H locs S M g) (hl : lv_has ls 7 [(0, .ref (b)), (1, .ref (adx 0)), (2, .ref (adm 0)), (3, .ref (oo)), (4, .int (nI (i)))]) (K : ∀ (g1 : Nat → Int64) (H1 : Heap) (locs1 : List Loc) (ls1 : Array Slot), zL D cI cZ cJ adx adm oo s H1 locs1 (S) (zth M 0) g1 → lv_has ls1 7 [(0, .ref (b)), (1, .ref (adx 0)), (2, .ref (adm 0)), (3, .ref (oo)), (4, .int (nI (i)))] → W pg l e room_1 s m #[Value.ref b] below meth c H1 locs1 (cells + 1) (slots + 6) (lw_Z below #[Value.ref b] s) (F0 m 1903 ls1 [])) : W pg l e room_1 s m #[Value.ref b] below meth c H locs cells slots (lw_Z below #[Value.ref b] s) (F0 m 1778 ls []) := by
  obtain ⟨hx, hb, hr, hml, hown, hts, hX, hbl, hlocks, hgv⟩ := C0
  have hts := fun w h => hts w (wsL_law_in w h)
  have hown : s.vm.findClass RL = some m.cls := hown
  have hb : c.code = cL_law := hb
  refine lv_aload_n hx hb dL_law_1778 rfl (lv_at hl 1 rfl) ?_
  refine z_lX_i (As := []) (rest := []) ⟨hx, hb, hml, hown, hts⟩ X0 hR (c_X4_committed X0.2.2.1 S hO) (cwV 0 hts gL_law_X4_committed rfl rfl rfl (by decide +kernel) ⟨Nat.le_of_ble_eq_true rfl, Nat.le_of_ble_eq_true rfl⟩) rfl hl rfl (Nat.le_of_ble_eq_true rfl) ⟨by show cells + 0 ≤ 1096; omega, by show slots + 0 ≤ 9967; omega⟩ dL_law_1779 (fun r T1 H locs hp hR => ?_)
  obtain ⟨hr1, hs1⟩ := hp
  subst r
  subst T1
  refine lv_aload_n hx hb dL_law_1782 rfl (lv_at hl 2 rfl) ?_
  refine z_lM_i (As := []) (rest := [.int (sp_cm S 32)]) ⟨hx, hb, hml, hown, hts⟩ X0 hR (c_X5_committed X0.2.2.2.1 M hOM) (cwV 0 hts gL_law_X5_committed rfl rfl rfl (by decide +kernel) ⟨Nat.le_of_ble_eq_true rfl, Nat.le_of_ble_eq_true rfl⟩) rfl hl rfl (Nat.le_of_ble_eq_true rfl) ⟨by show cells + 0 ≤ 1096; omega, by show slots + 0 ≤ 9967; omega⟩ dL_law_1783 (fun r T1 H locs hp hR => ?_)
  obtain ⟨hr1, hs1⟩ := hp
  subst r
  subst T1
  refine lv_icmp_eq (tgt := 1903) hx hb dL_law_1786 (by decide) (fun _ => ?_) (fun h => absurd hres h)
  refine W.widen (k := cells + 1) (n := slots + 6) (by omega) (by omega) ?_
  exact K _ _ _ _ hR (lv_sub hl [0, 1, 2, 3, 4] rfl)
set_option maxHeartbeats 4000000 in
set_option maxRecDepth 100000 in
theorem lw_readSum_e1 {pg : Program} {l : Launch} {e : Env} {s : State} {m : MethodId} {below : List Frame} {meth : Method} {c : Code} {b L : Nat} {xs : Nat → Int32} {D : va_G} {cI cZ cJ : ClassId} {adx adm : Nat → Nat} {oo : Nat} {Bx Bm : Nat → Prop} (C0 : lw_At pg s m meth c b L xs) (hfl : l.stackTraces = false) (X0 : zLC D cI cZ cJ adx adm oo Bx Bm s) (S M : zS) (g : Nat → Int64) (i : Nat) (x : Int32) (hO : zOK S) (hOM : zOK M) (hxb : zbad x 32) (hxb_m : zbad x 32) (ha1 : xs (i + 1) = (x)) (hi : i + 4 ≤ L) (hL : L ≤ 2048) {H : Heap} {locs : List Loc} {cells slots : Nat} {ls : Array Slot} (hcc : cells + 1 ≤ 1096) (hss : slots + 6 ≤ 9967) (hR : zL D cI cZ cJ adx adm oo s H locs S M g) (hl : lv_has ls 7 [(0, .ref (b)), (1, .ref (adx 0)), (2, .ref (adm 0)), (3, .ref (oo)), (4, .int (nI (i)))]) (K : ∀ (g1 : Nat → Int64) (H1 : Heap) (locs1 : List Loc) (ls1 : Array Slot), zL D cI cZ cJ adx adm oo s H1 locs1 (S) (zth M 1) g1 → lv_has ls1 7 [(0, .ref (b)), (1, .ref (adx 0)), (2, .ref (adm 0)), (3, .ref (oo)), (4, .int (nI (i)))] → W pg l e room_1 s m #[Value.ref b] below meth c H1 locs1 (cells + 1) (slots + 6) (lw_Z below #[Value.ref b] s) (F0 m 1903 ls1 [])) : W pg l e room_1 s m #[Value.ref b] below meth c H locs cells slots (lw_Z below #[Value.ref b] s) (F0 m 1791 ls []) := by
  obtain ⟨hx, hb, hr, hml, hown, hts, hX, hbl, hlocks, hgv⟩ := C0
  have hts := fun w h => hts w (wsL_law_in w h)
  have hown : s.vm.findClass RL = some m.cls := hown
  have hb : c.code = cL_law := hb
  refine lv_aload_n hx hb dL_law_1791 rfl (lv_at hl 1 rfl) ?_
  refine lv_aload_n hx hb dL_law_1792 rfl (lv_at hl 0 rfl) ?_
  refine lv_iload hx hb dL_law_1793 (lv_at hl 4 rfl) ?_
  refine lv_iconst (v := (nI 1)) hx hb dL_law_1795 (by decide) ?_
  refine z_iadd_n hx hb dL_law_1796 ?_
  refine z_sld_n hx hb hX hbl hR dL_law_1797 (by omega) hL ha1 ?_
  refine lv_aload_n hx hb dL_law_1798 rfl (lv_at hl 3 rfl) ?_
  refine z_lW (As := [.ref (adx 0), .int (x), .ref (oo)]) (rest := []) ⟨hx, hb, hml, hown, hts⟩ X0 hR (o_readSum_e1 X0.2.2.1 X0.2.2.2.2.1 hfl S g x hO hxb) (vx_cwSW 3 hts gL_law_L_readSum rfl rfl rfl (by decide +kernel) ⟨Nat.le_of_ble_eq_true rfl, Nat.le_of_ble_eq_true rfl⟩) rfl hl rfl (Nat.le_of_ble_eq_true rfl) ⟨hcc, hss⟩ dL_law_1799 (fun r S1 g1 H locs hp hR => ?_)
  obtain ⟨hr1, hs1⟩ := hp
  subst r
  have hs1 : S1 = S := hs1
  subst S1
  refine lv_istore (lv' := [(5, .int (nI (1))), (0, .ref (b)), (1, .ref (adx 0)), (2, .ref (adm 0)), (3, .ref (oo)), (4, .int (nI (i)))]) hx hb dL_law_1802 hl (by decide) rfl (fun ls hl => ?_)
  refine lv_aload_n hx hb dL_law_1804 rfl (lv_at hl 3 rfl) ?_
  refine lv_aload_n hx hb dL_law_1805 rfl (lv_at hl 1 rfl) ?_
  refine lv_iload hx hb dL_law_1806 (lv_at hl 5 rfl) ?_
  refine lv_iconst (v := (nI 1)) hx hb dL_law_1808 (by decide) ?_
  refine z_iadd_n hx hb dL_law_1809 ?_
  refine z_sld_n hx hb hX hbl hR dL_law_1810 (by omega) hL ha1 ?_
  refine z_lM_i (As := [.int (x)]) (rest := []) ⟨hx, hb, hml, hown, hts⟩ X0 hR (c_X5_readSum_e1 X0.2.2.2.1 M x hOM hxb_m) (cwV 1 hts gL_law_X5_readSum rfl rfl rfl (by decide +kernel) ⟨Nat.le_of_ble_eq_true rfl, Nat.le_of_ble_eq_true rfl⟩) rfl hl rfl (Nat.le_of_ble_eq_true rfl) ⟨by show cells + 1 + 0 ≤ 1096; omega, by show slots + 6 + 0 ≤ 9967; omega⟩ dL_law_1811 (fun r T1 H locs hp hR => ?_)
  obtain ⟨hr1, hs1⟩ := hp
  subst r
  subst T1
  refine lv_istore (lv' := [(6, .int (nI (0))), (5, .int (nI (1))), (0, .ref (b)), (1, .ref (adx 0)), (2, .ref (adm 0)), (3, .ref (oo)), (4, .int (nI (i)))]) hx hb dL_law_1814 hl (by decide) rfl (fun ls hl => ?_)
  refine lv_aload_n hx hb dL_law_1816 rfl (lv_at hl 4 rfl) ?_
  refine z_lM_i (As := []) (rest := []) ⟨hx, hb, hml, hown, hts⟩ X0 hR (c_X5_thrown X0.2.2.2.1 (zth M 1)) (cwV 0 hts gL_law_X5_thrown rfl rfl rfl (by decide +kernel) ⟨Nat.le_of_ble_eq_true rfl, Nat.le_of_ble_eq_true rfl⟩) rfl hl rfl (Nat.le_of_ble_eq_true rfl) ⟨by show cells + 1 + 0 ≤ 1096; omega, by show slots + 6 + 0 ≤ 9967; omega⟩ dL_law_1817 (fun r M1 H locs hp hR => ?_)
  obtain ⟨hr1, hs1⟩ := hp
  subst M1
  obtain rfl : r = nI 1 := hr1.trans (th_4 _ _)
  refine lv_iload hx hb dL_law_1820 (lv_at hl 1 rfl) ?_
  refine z_eq_n (tgt := 1827) hx hb dL_law_1822 (by decide) (by decide) (by decide) (fun _ => ?_) (fun h => absurd rfl h)
  refine lv_iload hx hb dL_law_1827 (lv_at hl 1 rfl) ?_
  refine z_if_ne_n (tgt := 1844) hx hb dL_law_1829 (by decide) (by decide) (fun _ => ?_) (fun h => absurd h (by decide))
  refine lv_goto (tgt := 1903) hx hb dL_law_1844 (by decide) ?_
  exact K _ _ _ _ hR (lv_sub hl [2, 3, 4, 5, 6] rfl)
set_option maxHeartbeats 4000000 in
set_option maxRecDepth 100000 in
theorem lw_readSum_ok {pg : Program} {l : Launch} {e : Env} {s : State} {m : MethodId} {below : List Frame} {meth : Method} {c : Code} {b L : Nat} {xs : Nat → Int32} {D : va_G} {cI cZ cJ : ClassId} {adx adm : Nat → Nat} {oo : Nat} {Bx Bm : Nat → Prop} (C0 : lw_At pg s m meth c b L xs) (hfl : l.stackTraces = false) (X0 : zLC D cI cZ cJ adx adm oo Bx Bm s) (S M : zS) (g : Nat → Int64) (i : Nat) (key : Nat) (hO : zOK S) (hOM : zOK M) (hk : key < 32) (hk_m : key < 32) (hres : (sp_rs S key 4) = (mo_rs (zth M 0) key 4)) (ha1 : xs (i + 1) = (nI (key))) (hi : i + 4 ≤ L) (hL : L ≤ 2048) {H : Heap} {locs : List Loc} {cells slots : Nat} {ls : Array Slot} (hcc : cells + 1 ≤ 1096) (hss : slots + 6 ≤ 9967) (hR : zL D cI cZ cJ adx adm oo s H locs S M g) (hl : lv_has ls 7 [(0, .ref (b)), (1, .ref (adx 0)), (2, .ref (adm 0)), (3, .ref (oo)), (4, .int (nI (i)))]) (K : ∀ (g1 : Nat → Int64) (H1 : Heap) (locs1 : List Loc) (ls1 : Array Slot), zL D cI cZ cJ adx adm oo s H1 locs1 (S) (zth M 0) g1 → lv_has ls1 7 [(0, .ref (b)), (1, .ref (adx 0)), (2, .ref (adm 0)), (3, .ref (oo)), (4, .int (nI (i)))] → W pg l e room_1 s m #[Value.ref b] below meth c H1 locs1 (cells + 1) (slots + 6) (lw_Z below #[Value.ref b] s) (F0 m 1903 ls1 [])) : W pg l e room_1 s m #[Value.ref b] below meth c H locs cells slots (lw_Z below #[Value.ref b] s) (F0 m 1791 ls []) := by
  obtain ⟨hx, hb, hr, hml, hown, hts, hX, hbl, hlocks, hgv⟩ := C0
  have hts := fun w h => hts w (wsL_law_in w h)
  have hown : s.vm.findClass RL = some m.cls := hown
  have hb : c.code = cL_law := hb
  refine lv_aload_n hx hb dL_law_1791 rfl (lv_at hl 1 rfl) ?_
  refine lv_aload_n hx hb dL_law_1792 rfl (lv_at hl 0 rfl) ?_
  refine lv_iload hx hb dL_law_1793 (lv_at hl 4 rfl) ?_
  refine lv_iconst (v := (nI 1)) hx hb dL_law_1795 (by decide) ?_
  refine z_iadd_n hx hb dL_law_1796 ?_
  refine z_sld_n hx hb hX hbl hR dL_law_1797 (by omega) hL ha1 ?_
  refine lv_aload_n hx hb dL_law_1798 rfl (lv_at hl 3 rfl) ?_
  refine z_lW (As := [.ref (adx 0), .int (nI (key)), .ref (oo)]) (rest := []) ⟨hx, hb, hml, hown, hts⟩ X0 hR (o_readSum_ok X0.2.2.1 X0.2.2.2.2.1 hfl S g key hO hk) (vx_cwSW 3 hts gL_law_L_readSum rfl rfl rfl (by decide +kernel) ⟨Nat.le_of_ble_eq_true rfl, Nat.le_of_ble_eq_true rfl⟩) rfl hl rfl (Nat.le_of_ble_eq_true rfl) ⟨hcc, hss⟩ dL_law_1799 (fun r S1 g1 H locs hp hR => ?_)
  obtain ⟨hr1, hs1, hg⟩ := hp
  subst r
  have hs1 : S1 = S := hs1
  subst S1
  refine lv_istore (lv' := [(5, .int (nI (0))), (0, .ref (b)), (1, .ref (adx 0)), (2, .ref (adm 0)), (3, .ref (oo)), (4, .int (nI (i)))]) hx hb dL_law_1802 hl (by decide) rfl (fun ls hl => ?_)
  refine lv_aload_n hx hb dL_law_1804 rfl (lv_at hl 3 rfl) ?_
  refine lv_aload_n hx hb dL_law_1805 rfl (lv_at hl 1 rfl) ?_
  refine lv_iload hx hb dL_law_1806 (lv_at hl 5 rfl) ?_
  refine lv_iconst (v := (nI 1)) hx hb dL_law_1808 (by decide) ?_
  refine z_iadd_n hx hb dL_law_1809 ?_
  refine z_sld_n hx hb hX hbl hR dL_law_1810 (by omega) hL ha1 ?_
  refine z_lM_i (As := [.int (nI (key))]) (rest := []) ⟨hx, hb, hml, hown, hts⟩ X0 hR (c_X5_readSum_ok X0.2.2.2.1 M key hOM hk_m) (cwV 1 hts gL_law_X5_readSum rfl rfl rfl (by decide +kernel) ⟨Nat.le_of_ble_eq_true rfl, Nat.le_of_ble_eq_true rfl⟩) rfl hl rfl (Nat.le_of_ble_eq_true rfl) ⟨by show cells + 1 + 0 ≤ 1096; omega, by show slots + 6 + 0 ≤ 9967; omega⟩ dL_law_1811 (fun r T1 H locs hp hR => ?_)
  obtain ⟨hr1, hs1⟩ := hp
  subst r
  subst T1
  refine lv_istore (lv' := [(6, .int (mo_rs (zth M 0) key 4)), (5, .int (nI (0))), (0, .ref (b)), (1, .ref (adx 0)), (2, .ref (adm 0)), (3, .ref (oo)), (4, .int (nI (i)))]) hx hb dL_law_1814 hl (by decide) rfl (fun ls hl => ?_)
  refine lv_aload_n hx hb dL_law_1816 rfl (lv_at hl 4 rfl) ?_
  refine z_lM_i (As := []) (rest := []) ⟨hx, hb, hml, hown, hts⟩ X0 hR (c_X5_thrown X0.2.2.2.1 (zth M 0)) (cwV 0 hts gL_law_X5_thrown rfl rfl rfl (by decide +kernel) ⟨Nat.le_of_ble_eq_true rfl, Nat.le_of_ble_eq_true rfl⟩) rfl hl rfl (Nat.le_of_ble_eq_true rfl) ⟨by show cells + 1 + 0 ≤ 1096; omega, by show slots + 6 + 0 ≤ 9967; omega⟩ dL_law_1817 (fun r M1 H locs hp hR => ?_)
  obtain ⟨hr1, hs1⟩ := hp
  subst M1
  obtain rfl : r = nI 0 := hr1.trans (th_4 _ _)
  refine lv_iload hx hb dL_law_1820 (lv_at hl 1 rfl) ?_
  refine z_eq_n (tgt := 1827) hx hb dL_law_1822 (by decide) (by decide) (by decide) (fun _ => ?_) (fun h => absurd rfl h)
  refine lv_iload hx hb dL_law_1827 (lv_at hl 1 rfl) ?_
  refine z_if_ne_n (tgt := 1844) hx hb dL_law_1829 (by decide) (by decide) (fun h => absurd h (by decide)) (fun _ => ?_)
  refine lv_aload_n hx hb dL_law_1832 rfl (lv_at hl 5 rfl) ?_
  refine lv_iconst (v := (nI 0)) hx hb dL_law_1833 (by decide) ?_
  refine z_l_lald hx hb X0 hR dL_law_1834 ?_
  refine lv_iload hx hb dL_law_1835 (lv_at hl 0 rfl) ?_
  refine lv_i2l (v := ((mo_rs (zth M 0) key 4)).toInt64) hx hb dL_law_1837 rfl ?_
  refine W.lcmp hx hb dL_law_1838 ?_
  refine lv_topi (fun v9 ev9 => ?_)
  obtain rfl : v9 = nI 0 := ev9.trans (z_cmp_eq (hg.trans (congrArg Int32.toInt64 hres)))
  refine z_if_eq_n (tgt := 1844) hx hb dL_law_1839 (by decide) (by decide) (fun _ => ?_) (fun h => absurd h (by decide))
  refine lv_goto (tgt := 1903) hx hb dL_law_1844 (by decide) ?_
  exact K _ _ _ _ hR (lv_sub hl [2, 3, 4, 5, 6] rfl)
set_option maxHeartbeats 4000000 in
set_option maxRecDepth 100000 in
theorem lw_sumInChannels_e1 {pg : Program} {l : Launch} {e : Env} {s : State} {m : MethodId} {below : List Frame} {meth : Method} {c : Code} {b L : Nat} {xs : Nat → Int32} {D : va_G} {cI cZ cJ : ClassId} {adx adm : Nat → Nat} {oo : Nat} {Bx Bm : Nat → Prop} (C0 : lw_At pg s m meth c b L xs) (hfl : l.stackTraces = false) (X0 : zLC D cI cZ cJ adx adm oo Bx Bm s) (S M : zS) (g : Nat → Int64) (i : Nat) (x : Int32) (hO : zOK S) (hOM : zOK M) (hxb : zbad x 32) (hxb_m : zbad x 32) (ha1 : xs (i + 1) = (x)) (hi : i + 4 ≤ L) (hL : L ≤ 2048) {H : Heap} {locs : List Loc} {cells slots : Nat} {ls : Array Slot} (hcc : cells + 1 ≤ 1096) (hss : slots + 6 ≤ 9967) (hR : zL D cI cZ cJ adx adm oo s H locs S M g) (hl : lv_has ls 7 [(0, .ref (b)), (1, .ref (adx 0)), (2, .ref (adm 0)), (3, .ref (oo)), (4, .int (nI (i)))]) (K : ∀ (g1 : Nat → Int64) (H1 : Heap) (locs1 : List Loc) (ls1 : Array Slot), zL D cI cZ cJ adx adm oo s H1 locs1 (S) (zth M 1) g1 → lv_has ls1 7 [(0, .ref (b)), (1, .ref (adx 0)), (2, .ref (adm 0)), (3, .ref (oo)), (4, .int (nI (i)))] → W pg l e room_1 s m #[Value.ref b] below meth c H1 locs1 (cells + 1) (slots + 6) (lw_Z below #[Value.ref b] s) (F0 m 1903 ls1 [])) : W pg l e room_1 s m #[Value.ref b] below meth c H locs cells slots (lw_Z below #[Value.ref b] s) (F0 m 1847 ls []) := by
  obtain ⟨hx, hb, hr, hml, hown, hts, hX, hbl, hlocks, hgv⟩ := C0
  have hts := fun w h => hts w (wsL_law_in w h)
  have hown : s.vm.findClass RL = some m.cls := hown
  have hb : c.code = cL_law := hb
  refine lv_aload_n hx hb dL_law_1847 rfl (lv_at hl 1 rfl) ?_
  refine lv_aload_n hx hb dL_law_1848 rfl (lv_at hl 0 rfl) ?_
  refine lv_iload hx hb dL_law_1849 (lv_at hl 4 rfl) ?_
  refine lv_iconst (v := (nI 1)) hx hb dL_law_1851 (by decide) ?_
  refine z_iadd_n hx hb dL_law_1852 ?_
  refine z_sld_n hx hb hX hbl hR dL_law_1853 (by omega) hL ha1 ?_
  refine lv_aload_n hx hb dL_law_1854 rfl (lv_at hl 3 rfl) ?_
  refine z_lW (As := [.ref (adx 0), .int (x), .ref (oo)]) (rest := []) ⟨hx, hb, hml, hown, hts⟩ X0 hR (o_sumInChannels_e1 X0.2.2.1 X0.2.2.2.2.1 hfl S g x hO hxb) (vx_cwSW 3 hts gL_law_L_sumInChannels rfl rfl rfl (by decide +kernel) ⟨Nat.le_of_ble_eq_true rfl, Nat.le_of_ble_eq_true rfl⟩) rfl hl rfl (Nat.le_of_ble_eq_true rfl) ⟨hcc, hss⟩ dL_law_1855 (fun r S1 g1 H locs hp hR => ?_)
  obtain ⟨hr1, hs1⟩ := hp
  subst r
  have hs1 : S1 = S := hs1
  subst S1
  refine lv_istore (lv' := [(5, .int (nI (1))), (0, .ref (b)), (1, .ref (adx 0)), (2, .ref (adm 0)), (3, .ref (oo)), (4, .int (nI (i)))]) hx hb dL_law_1858 hl (by decide) rfl (fun ls hl => ?_)
  refine lv_aload_n hx hb dL_law_1860 rfl (lv_at hl 3 rfl) ?_
  refine lv_aload_n hx hb dL_law_1861 rfl (lv_at hl 1 rfl) ?_
  refine lv_iload hx hb dL_law_1862 (lv_at hl 5 rfl) ?_
  refine lv_iconst (v := (nI 1)) hx hb dL_law_1864 (by decide) ?_
  refine z_iadd_n hx hb dL_law_1865 ?_
  refine z_sld_n hx hb hX hbl hR dL_law_1866 (by omega) hL ha1 ?_
  refine z_lM_i (As := [.int (x)]) (rest := []) ⟨hx, hb, hml, hown, hts⟩ X0 hR (c_X5_sumInChannels_e1 X0.2.2.2.1 M x hOM hxb_m) (cwV 1 hts gL_law_X5_sumInChannels rfl rfl rfl (by decide +kernel) ⟨Nat.le_of_ble_eq_true rfl, Nat.le_of_ble_eq_true rfl⟩) rfl hl rfl (Nat.le_of_ble_eq_true rfl) ⟨by show cells + 1 + 0 ≤ 1096; omega, by show slots + 6 + 0 ≤ 9967; omega⟩ dL_law_1867 (fun r T1 H locs hp hR => ?_)
  obtain ⟨hr1, hs1⟩ := hp
  subst r
  subst T1
  refine lv_istore (lv' := [(6, .int (nI (0))), (5, .int (nI (1))), (0, .ref (b)), (1, .ref (adx 0)), (2, .ref (adm 0)), (3, .ref (oo)), (4, .int (nI (i)))]) hx hb dL_law_1870 hl (by decide) rfl (fun ls hl => ?_)
  refine lv_aload_n hx hb dL_law_1872 rfl (lv_at hl 4 rfl) ?_
  refine z_lM_i (As := []) (rest := []) ⟨hx, hb, hml, hown, hts⟩ X0 hR (c_X5_thrown X0.2.2.2.1 (zth M 1)) (cwV 0 hts gL_law_X5_thrown rfl rfl rfl (by decide +kernel) ⟨Nat.le_of_ble_eq_true rfl, Nat.le_of_ble_eq_true rfl⟩) rfl hl rfl (Nat.le_of_ble_eq_true rfl) ⟨by show cells + 1 + 0 ≤ 1096; omega, by show slots + 6 + 0 ≤ 9967; omega⟩ dL_law_1873 (fun r M1 H locs hp hR => ?_)
  obtain ⟨hr1, hs1⟩ := hp
  subst M1
  obtain rfl : r = nI 1 := hr1.trans (th_4 _ _)
  refine lv_iload hx hb dL_law_1876 (lv_at hl 1 rfl) ?_
  refine z_eq_n (tgt := 1883) hx hb dL_law_1878 (by decide) (by decide) (by decide) (fun _ => ?_) (fun h => absurd rfl h)
  refine lv_iload hx hb dL_law_1883 (lv_at hl 1 rfl) ?_
  refine z_if_ne_n (tgt := 1900) hx hb dL_law_1885 (by decide) (by decide) (fun _ => ?_) (fun h => absurd h (by decide))
  refine lv_goto (tgt := 1903) hx hb dL_law_1900 (by decide) ?_
  exact K _ _ _ _ hR (lv_sub hl [2, 3, 4, 5, 6] rfl)
set_option maxHeartbeats 4000000 in
set_option maxRecDepth 100000 in
theorem lw_sumInChannels_ok {pg : Program} {l : Launch} {e : Env} {s : State} {m : MethodId} {below : List Frame} {meth : Method} {c : Code} {b L : Nat} {xs : Nat → Int32} {D : va_G} {cI cZ cJ : ClassId} {adx adm : Nat → Nat} {oo : Nat} {Bx Bm : Nat → Prop} (C0 : lw_At pg s m meth c b L xs) (hfl : l.stackTraces = false) (X0 : zLC D cI cZ cJ adx adm oo Bx Bm s) (S M : zS) (g : Nat → Int64) (i : Nat) (key : Nat) (hO : zOK S) (hOM : zOK M) (hk : key < 32) (hk_m : key < 32) (hres : (sp_sc S key 16) = (mo_sc (zth M 0) key 16)) (ha1 : xs (i + 1) = (nI (key))) (hi : i + 4 ≤ L) (hL : L ≤ 2048) {H : Heap} {locs : List Loc} {cells slots : Nat} {ls : Array Slot} (hcc : cells + 1 ≤ 1096) (hss : slots + 6 ≤ 9967) (hR : zL D cI cZ cJ adx adm oo s H locs S M g) (hl : lv_has ls 7 [(0, .ref (b)), (1, .ref (adx 0)), (2, .ref (adm 0)), (3, .ref (oo)), (4, .int (nI (i)))]) (K : ∀ (g1 : Nat → Int64) (H1 : Heap) (locs1 : List Loc) (ls1 : Array Slot), zL D cI cZ cJ adx adm oo s H1 locs1 (S) (zth M 0) g1 → lv_has ls1 7 [(0, .ref (b)), (1, .ref (adx 0)), (2, .ref (adm 0)), (3, .ref (oo)), (4, .int (nI (i)))] → W pg l e room_1 s m #[Value.ref b] below meth c H1 locs1 (cells + 1) (slots + 6) (lw_Z below #[Value.ref b] s) (F0 m 1903 ls1 [])) : W pg l e room_1 s m #[Value.ref b] below meth c H locs cells slots (lw_Z below #[Value.ref b] s) (F0 m 1847 ls []) := by
  obtain ⟨hx, hb, hr, hml, hown, hts, hX, hbl, hlocks, hgv⟩ := C0
  have hts := fun w h => hts w (wsL_law_in w h)
  have hown : s.vm.findClass RL = some m.cls := hown
  have hb : c.code = cL_law := hb
  refine lv_aload_n hx hb dL_law_1847 rfl (lv_at hl 1 rfl) ?_
  refine lv_aload_n hx hb dL_law_1848 rfl (lv_at hl 0 rfl) ?_
  refine lv_iload hx hb dL_law_1849 (lv_at hl 4 rfl) ?_
  refine lv_iconst (v := (nI 1)) hx hb dL_law_1851 (by decide) ?_
  refine z_iadd_n hx hb dL_law_1852 ?_
  refine z_sld_n hx hb hX hbl hR dL_law_1853 (by omega) hL ha1 ?_
  refine lv_aload_n hx hb dL_law_1854 rfl (lv_at hl 3 rfl) ?_
  refine z_lW (As := [.ref (adx 0), .int (nI (key)), .ref (oo)]) (rest := []) ⟨hx, hb, hml, hown, hts⟩ X0 hR (o_sumInChannels_ok X0.2.2.1 X0.2.2.2.2.1 hfl S g key hO hk) (vx_cwSW 3 hts gL_law_L_sumInChannels rfl rfl rfl (by decide +kernel) ⟨Nat.le_of_ble_eq_true rfl, Nat.le_of_ble_eq_true rfl⟩) rfl hl rfl (Nat.le_of_ble_eq_true rfl) ⟨hcc, hss⟩ dL_law_1855 (fun r S1 g1 H locs hp hR => ?_)
  obtain ⟨hr1, hs1, hg⟩ := hp
  subst r
  have hs1 : S1 = S := hs1
  subst S1
  refine lv_istore (lv' := [(5, .int (nI (0))), (0, .ref (b)), (1, .ref (adx 0)), (2, .ref (adm 0)), (3, .ref (oo)), (4, .int (nI (i)))]) hx hb dL_law_1858 hl (by decide) rfl (fun ls hl => ?_)
  refine lv_aload_n hx hb dL_law_1860 rfl (lv_at hl 3 rfl) ?_
  refine lv_aload_n hx hb dL_law_1861 rfl (lv_at hl 1 rfl) ?_
  refine lv_iload hx hb dL_law_1862 (lv_at hl 5 rfl) ?_
  refine lv_iconst (v := (nI 1)) hx hb dL_law_1864 (by decide) ?_
  refine z_iadd_n hx hb dL_law_1865 ?_
  refine z_sld_n hx hb hX hbl hR dL_law_1866 (by omega) hL ha1 ?_
  refine z_lM_i (As := [.int (nI (key))]) (rest := []) ⟨hx, hb, hml, hown, hts⟩ X0 hR (c_X5_sumInChannels_ok X0.2.2.2.1 M key hOM hk_m) (cwV 1 hts gL_law_X5_sumInChannels rfl rfl rfl (by decide +kernel) ⟨Nat.le_of_ble_eq_true rfl, Nat.le_of_ble_eq_true rfl⟩) rfl hl rfl (Nat.le_of_ble_eq_true rfl) ⟨by show cells + 1 + 0 ≤ 1096; omega, by show slots + 6 + 0 ≤ 9967; omega⟩ dL_law_1867 (fun r T1 H locs hp hR => ?_)
  obtain ⟨hr1, hs1⟩ := hp
  subst r
  subst T1
  refine lv_istore (lv' := [(6, .int (mo_sc (zth M 0) key 16)), (5, .int (nI (0))), (0, .ref (b)), (1, .ref (adx 0)), (2, .ref (adm 0)), (3, .ref (oo)), (4, .int (nI (i)))]) hx hb dL_law_1870 hl (by decide) rfl (fun ls hl => ?_)
  refine lv_aload_n hx hb dL_law_1872 rfl (lv_at hl 4 rfl) ?_
  refine z_lM_i (As := []) (rest := []) ⟨hx, hb, hml, hown, hts⟩ X0 hR (c_X5_thrown X0.2.2.2.1 (zth M 0)) (cwV 0 hts gL_law_X5_thrown rfl rfl rfl (by decide +kernel) ⟨Nat.le_of_ble_eq_true rfl, Nat.le_of_ble_eq_true rfl⟩) rfl hl rfl (Nat.le_of_ble_eq_true rfl) ⟨by show cells + 1 + 0 ≤ 1096; omega, by show slots + 6 + 0 ≤ 9967; omega⟩ dL_law_1873 (fun r M1 H locs hp hR => ?_)
  obtain ⟨hr1, hs1⟩ := hp
  subst M1
  obtain rfl : r = nI 0 := hr1.trans (th_4 _ _)
  refine lv_iload hx hb dL_law_1876 (lv_at hl 1 rfl) ?_
  refine z_eq_n (tgt := 1883) hx hb dL_law_1878 (by decide) (by decide) (by decide) (fun _ => ?_) (fun h => absurd rfl h)
  refine lv_iload hx hb dL_law_1883 (lv_at hl 1 rfl) ?_
  refine z_if_ne_n (tgt := 1900) hx hb dL_law_1885 (by decide) (by decide) (fun h => absurd h (by decide)) (fun _ => ?_)
  refine lv_aload_n hx hb dL_law_1888 rfl (lv_at hl 5 rfl) ?_
  refine lv_iconst (v := (nI 0)) hx hb dL_law_1889 (by decide) ?_
  refine z_l_lald hx hb X0 hR dL_law_1890 ?_
  refine lv_iload hx hb dL_law_1891 (lv_at hl 0 rfl) ?_
  refine lv_i2l (v := ((mo_sc (zth M 0) key 16)).toInt64) hx hb dL_law_1893 rfl ?_
  refine W.lcmp hx hb dL_law_1894 ?_
  refine lv_topi (fun v9 ev9 => ?_)
  obtain rfl : v9 = nI 0 := ev9.trans (z_cmp_eq (hg.trans (congrArg Int32.toInt64 hres)))
  refine z_if_eq_n (tgt := 1900) hx hb dL_law_1895 (by decide) (by decide) (fun _ => ?_) (fun h => absurd h (by decide))
  refine lv_goto (tgt := 1903) hx hb dL_law_1900 (by decide) ?_
  exact K _ _ _ _ hR (lv_sub hl [2, 3, 4, 5, 6] rfl)
