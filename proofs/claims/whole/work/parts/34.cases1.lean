set_option maxHeartbeats 4000000 in
set_option maxRecDepth 100000 in
theorem lw_offset_e1 {pg : Program} {l : Launch} {e : Env} {s : State} {m : MethodId} {below : List Frame} {meth : Method} {c : Code} {b L : Nat} {xs : Nat → Int32} {D : va_G} {cI cZ cJ : ClassId} {adx adm : Nat → Nat} {oo : Nat} {Bx Bm : Nat → Prop} (C0 : lw_At pg s m meth c b L xs) (hfl : l.stackTraces = false) (X0 : zLC D cI cZ cJ adx adm oo Bx Bm s) (S M : zS) (g : Nat → Int64) (i : Nat) (x : Int32) (hO : zOK S) (hOM : zOK M) (hxb : zbad x 4) (hxb_m : zbad x 4) (ha1 : xs (i + 1) = (x)) (hi : i + 4 ≤ L) (hL : L ≤ 2048) {H : Heap} {locs : List Loc} {cells slots : Nat} {ls : Array Slot} (hcc : cells + 1 ≤ 1096) (hss : slots + 6 ≤ 9967) (hR : zL D cI cZ cJ adx adm oo s H locs S M g) (hl : lv_has ls 7 [(0, .ref (b)), (1, .ref (adx 0)), (2, .ref (adm 0)), (3, .ref (oo)), (4, .int (nI (i)))]) (K : ∀ (g1 : Nat → Int64) (H1 : Heap) (locs1 : List Loc) (ls1 : Array Slot), zL D cI cZ cJ adx adm oo s H1 locs1 (S) (zth M 1) g1 → lv_has ls1 7 [(0, .ref (b)), (1, .ref (adx 0)), (2, .ref (adm 0)), (3, .ref (oo)), (4, .int (nI (i)))] → W pg l e room_1 s m #[Value.ref b] below meth c H1 locs1 (cells + 1) (slots + 6) (lw_Z below #[Value.ref b] s) (F0 m 1903 ls1 [])) : W pg l e room_1 s m #[Value.ref b] below meth c H locs cells slots (lw_Z below #[Value.ref b] s) (F0 m 769 ls []) := by
  obtain ⟨hx, hb, hr, hml, hown, hts, hX, hbl, hlocks, hgv⟩ := C0
  have hts := fun w h => hts w (wsL_law_in w h)
  have hown : s.vm.findClass RL = some m.cls := hown
  have hb : c.code = cL_law := hb
  refine lv_aload_n hx hb dL_law_769 rfl (lv_at hl 1 rfl) ?_
  refine lv_aload_n hx hb dL_law_770 rfl (lv_at hl 0 rfl) ?_
  refine lv_iload hx hb dL_law_771 (lv_at hl 4 rfl) ?_
  refine lv_iconst (v := (nI 1)) hx hb dL_law_773 (by decide) ?_
  refine z_iadd_n hx hb dL_law_774 ?_
  refine z_sld_n hx hb hX hbl hR dL_law_775 (by omega) hL ha1 ?_
  refine lv_aload_n hx hb dL_law_776 rfl (lv_at hl 3 rfl) ?_
  refine z_lW (As := [.ref (adx 0), .int (x), .ref (oo)]) (rest := []) ⟨hx, hb, hml, hown, hts⟩ X0 hR (o_offset_e1 X0.2.2.1 X0.2.2.2.2.1 hfl S g x hO hxb) (vx_cwSW 3 hts gL_law_L_offset rfl rfl rfl (by decide +kernel) ⟨Nat.le_of_ble_eq_true rfl, Nat.le_of_ble_eq_true rfl⟩) rfl hl rfl (Nat.le_of_ble_eq_true rfl) ⟨hcc, hss⟩ dL_law_777 (fun r S1 g1 H locs hp hR => ?_)
  obtain ⟨hr1, hs1⟩ := hp
  subst r
  have hs1 : S1 = S := hs1
  subst S1
  refine lv_istore (lv' := [(5, .int (nI (1))), (0, .ref (b)), (1, .ref (adx 0)), (2, .ref (adm 0)), (3, .ref (oo)), (4, .int (nI (i)))]) hx hb dL_law_780 hl (by decide) rfl (fun ls hl => ?_)
  refine lv_aload_n hx hb dL_law_782 rfl (lv_at hl 3 rfl) ?_
  refine lv_aload_n hx hb dL_law_783 rfl (lv_at hl 1 rfl) ?_
  refine lv_iload hx hb dL_law_784 (lv_at hl 5 rfl) ?_
  refine lv_iconst (v := (nI 1)) hx hb dL_law_786 (by decide) ?_
  refine z_iadd_n hx hb dL_law_787 ?_
  refine z_sld_n hx hb hX hbl hR dL_law_788 (by omega) hL ha1 ?_
  refine z_lM_i (As := [.int (x)]) (rest := []) ⟨hx, hb, hml, hown, hts⟩ X0 hR (c_X5_offset_e1 X0.2.2.2.1 M x hOM hxb_m) (cwV 1 hts gL_law_X5_offset rfl rfl rfl (by decide +kernel) ⟨Nat.le_of_ble_eq_true rfl, Nat.le_of_ble_eq_true rfl⟩) rfl hl rfl (Nat.le_of_ble_eq_true rfl) ⟨by show cells + 1 + 0 ≤ 1096; omega, by show slots + 6 + 0 ≤ 9967; omega⟩ dL_law_789 (fun r T1 H locs hp hR => ?_)
  obtain ⟨hr1, hs1⟩ := hp
  subst r
  subst T1
  refine lv_istore (lv' := [(6, .int (nI (0))), (5, .int (nI (1))), (0, .ref (b)), (1, .ref (adx 0)), (2, .ref (adm 0)), (3, .ref (oo)), (4, .int (nI (i)))]) hx hb dL_law_792 hl (by decide) rfl (fun ls hl => ?_)
  refine lv_aload_n hx hb dL_law_794 rfl (lv_at hl 4 rfl) ?_
  refine z_lM_i (As := []) (rest := []) ⟨hx, hb, hml, hown, hts⟩ X0 hR (c_X5_thrown X0.2.2.2.1 (zth M 1)) (cwV 0 hts gL_law_X5_thrown rfl rfl rfl (by decide +kernel) ⟨Nat.le_of_ble_eq_true rfl, Nat.le_of_ble_eq_true rfl⟩) rfl hl rfl (Nat.le_of_ble_eq_true rfl) ⟨by show cells + 1 + 0 ≤ 1096; omega, by show slots + 6 + 0 ≤ 9967; omega⟩ dL_law_795 (fun r M1 H locs hp hR => ?_)
  obtain ⟨hr1, hs1⟩ := hp
  subst M1
  obtain rfl : r = nI 1 := hr1.trans (th_4 _ _)
  refine lv_iload hx hb dL_law_798 (lv_at hl 1 rfl) ?_
  refine z_eq_n (tgt := 805) hx hb dL_law_800 (by decide) (by decide) (by decide) (fun _ => ?_) (fun h => absurd rfl h)
  refine lv_iload hx hb dL_law_805 (lv_at hl 1 rfl) ?_
  refine z_if_ne_n (tgt := 822) hx hb dL_law_807 (by decide) (by decide) (fun _ => ?_) (fun h => absurd h (by decide))
  refine lv_goto (tgt := 1903) hx hb dL_law_822 (by decide) ?_
  exact K _ _ _ _ hR (lv_sub hl [2, 3, 4, 5, 6] rfl)
set_option maxHeartbeats 4000000 in
set_option maxRecDepth 100000 in
theorem lw_offset_ok {pg : Program} {l : Launch} {e : Env} {s : State} {m : MethodId} {below : List Frame} {meth : Method} {c : Code} {b L : Nat} {xs : Nat → Int32} {D : va_G} {cI cZ cJ : ClassId} {adx adm : Nat → Nat} {oo : Nat} {Bx Bm : Nat → Prop} (C0 : lw_At pg s m meth c b L xs) (hfl : l.stackTraces = false) (X0 : zLC D cI cZ cJ adx adm oo Bx Bm s) (S M : zS) (g : Nat → Int64) (i : Nat) (p : Nat) (hO : zOK S) (hOM : zOK M) (hp : p < 4) (hp_m : p < 4) (hres : (nI (zn S 2 p)) = (nI (zn (zth M 0) 2 p))) (ha1 : xs (i + 1) = (nI (p))) (hi : i + 4 ≤ L) (hL : L ≤ 2048) {H : Heap} {locs : List Loc} {cells slots : Nat} {ls : Array Slot} (hcc : cells + 1 ≤ 1096) (hss : slots + 6 ≤ 9967) (hR : zL D cI cZ cJ adx adm oo s H locs S M g) (hl : lv_has ls 7 [(0, .ref (b)), (1, .ref (adx 0)), (2, .ref (adm 0)), (3, .ref (oo)), (4, .int (nI (i)))]) (K : ∀ (g1 : Nat → Int64) (H1 : Heap) (locs1 : List Loc) (ls1 : Array Slot), zL D cI cZ cJ adx adm oo s H1 locs1 (S) (zth M 0) g1 → lv_has ls1 7 [(0, .ref (b)), (1, .ref (adx 0)), (2, .ref (adm 0)), (3, .ref (oo)), (4, .int (nI (i)))] → W pg l e room_1 s m #[Value.ref b] below meth c H1 locs1 (cells + 1) (slots + 6) (lw_Z below #[Value.ref b] s) (F0 m 1903 ls1 [])) : W pg l e room_1 s m #[Value.ref b] below meth c H locs cells slots (lw_Z below #[Value.ref b] s) (F0 m 769 ls []) := by
  obtain ⟨hx, hb, hr, hml, hown, hts, hX, hbl, hlocks, hgv⟩ := C0
  have hts := fun w h => hts w (wsL_law_in w h)
  have hown : s.vm.findClass RL = some m.cls := hown
  have hb : c.code = cL_law := hb
  refine lv_aload_n hx hb dL_law_769 rfl (lv_at hl 1 rfl) ?_
  refine lv_aload_n hx hb dL_law_770 rfl (lv_at hl 0 rfl) ?_
  refine lv_iload hx hb dL_law_771 (lv_at hl 4 rfl) ?_
  refine lv_iconst (v := (nI 1)) hx hb dL_law_773 (by decide) ?_
  refine z_iadd_n hx hb dL_law_774 ?_
  refine z_sld_n hx hb hX hbl hR dL_law_775 (by omega) hL ha1 ?_
  refine lv_aload_n hx hb dL_law_776 rfl (lv_at hl 3 rfl) ?_
  refine z_lW (As := [.ref (adx 0), .int (nI (p)), .ref (oo)]) (rest := []) ⟨hx, hb, hml, hown, hts⟩ X0 hR (o_offset_ok X0.2.2.1 X0.2.2.2.2.1 hfl S g p hO hp) (vx_cwSW 3 hts gL_law_L_offset rfl rfl rfl (by decide +kernel) ⟨Nat.le_of_ble_eq_true rfl, Nat.le_of_ble_eq_true rfl⟩) rfl hl rfl (Nat.le_of_ble_eq_true rfl) ⟨hcc, hss⟩ dL_law_777 (fun r S1 g1 H locs hp hR => ?_)
  obtain ⟨hr1, hs1, hg⟩ := hp
  subst r
  have hs1 : S1 = S := hs1
  subst S1
  refine lv_istore (lv' := [(5, .int (nI (0))), (0, .ref (b)), (1, .ref (adx 0)), (2, .ref (adm 0)), (3, .ref (oo)), (4, .int (nI (i)))]) hx hb dL_law_780 hl (by decide) rfl (fun ls hl => ?_)
  refine lv_aload_n hx hb dL_law_782 rfl (lv_at hl 3 rfl) ?_
  refine lv_aload_n hx hb dL_law_783 rfl (lv_at hl 1 rfl) ?_
  refine lv_iload hx hb dL_law_784 (lv_at hl 5 rfl) ?_
  refine lv_iconst (v := (nI 1)) hx hb dL_law_786 (by decide) ?_
  refine z_iadd_n hx hb dL_law_787 ?_
  refine z_sld_n hx hb hX hbl hR dL_law_788 (by omega) hL ha1 ?_
  refine z_lM_i (As := [.int (nI (p))]) (rest := []) ⟨hx, hb, hml, hown, hts⟩ X0 hR (c_X5_offset_ok X0.2.2.2.1 M p hOM hp_m) (cwV 1 hts gL_law_X5_offset rfl rfl rfl (by decide +kernel) ⟨Nat.le_of_ble_eq_true rfl, Nat.le_of_ble_eq_true rfl⟩) rfl hl rfl (Nat.le_of_ble_eq_true rfl) ⟨by show cells + 1 + 0 ≤ 1096; omega, by show slots + 6 + 0 ≤ 9967; omega⟩ dL_law_789 (fun r T1 H locs hp hR => ?_)
  obtain ⟨hr1, hs1⟩ := hp
  subst r
  subst T1
  refine lv_istore (lv' := [(6, .int (nI (zn (zth M 0) 2 p))), (5, .int (nI (0))), (0, .ref (b)), (1, .ref (adx 0)), (2, .ref (adm 0)), (3, .ref (oo)), (4, .int (nI (i)))]) hx hb dL_law_792 hl (by decide) rfl (fun ls hl => ?_)
  refine lv_aload_n hx hb dL_law_794 rfl (lv_at hl 4 rfl) ?_
  refine z_lM_i (As := []) (rest := []) ⟨hx, hb, hml, hown, hts⟩ X0 hR (c_X5_thrown X0.2.2.2.1 (zth M 0)) (cwV 0 hts gL_law_X5_thrown rfl rfl rfl (by decide +kernel) ⟨Nat.le_of_ble_eq_true rfl, Nat.le_of_ble_eq_true rfl⟩) rfl hl rfl (Nat.le_of_ble_eq_true rfl) ⟨by show cells + 1 + 0 ≤ 1096; omega, by show slots + 6 + 0 ≤ 9967; omega⟩ dL_law_795 (fun r M1 H locs hp hR => ?_)
  obtain ⟨hr1, hs1⟩ := hp
  subst M1
  obtain rfl : r = nI 0 := hr1.trans (th_4 _ _)
  refine lv_iload hx hb dL_law_798 (lv_at hl 1 rfl) ?_
  refine z_eq_n (tgt := 805) hx hb dL_law_800 (by decide) (by decide) (by decide) (fun _ => ?_) (fun h => absurd rfl h)
  refine lv_iload hx hb dL_law_805 (lv_at hl 1 rfl) ?_
  refine z_if_ne_n (tgt := 822) hx hb dL_law_807 (by decide) (by decide) (fun h => absurd h (by decide)) (fun _ => ?_)
  refine lv_aload_n hx hb dL_law_810 rfl (lv_at hl 5 rfl) ?_
  refine lv_iconst (v := (nI 0)) hx hb dL_law_811 (by decide) ?_
  refine z_l_lald hx hb X0 hR dL_law_812 ?_
  refine lv_iload hx hb dL_law_813 (lv_at hl 0 rfl) ?_
  refine lv_i2l (v := ((nI (zn (zth M 0) 2 p))).toInt64) hx hb dL_law_815 rfl ?_
  refine W.lcmp hx hb dL_law_816 ?_
  refine lv_topi (fun v9 ev9 => ?_)
  obtain rfl : v9 = nI 0 := ev9.trans (z_cmp_eq (hg.trans (congrArg Int32.toInt64 hres)))
  refine z_if_eq_n (tgt := 822) hx hb dL_law_817 (by decide) (by decide) (fun _ => ?_) (fun h => absurd h (by decide))
  refine lv_goto (tgt := 1903) hx hb dL_law_822 (by decide) ?_
  exact K _ _ _ _ hR (lv_sub hl [2, 3, 4, 5, 6] rfl)
set_option maxHeartbeats 4000000 in
set_option maxRecDepth 100000 in
theorem lw_eventAt_e1 {pg : Program} {l : Launch} {e : Env} {s : State} {m : MethodId} {below : List Frame} {meth : Method} {c : Code} {b L : Nat} {xs : Nat → Int32} {D : va_G} {cI cZ cJ : ClassId} {adx adm : Nat → Nat} {oo : Nat} {Bx Bm : Nat → Prop} (C0 : lw_At pg s m meth c b L xs) (hfl : l.stackTraces = false) (X0 : zLC D cI cZ cJ adx adm oo Bx Bm s) (S M : zS) (g : Nat → Int64) (i : Nat) (x : Int32) (y : Int32) (hO : zOK S) (hOM : zOK M) (hxb : zbad x 4) (hxb_m : zbad x 4) (ha1 : xs (i + 1) = (x)) (ha2 : xs (i + 2) = (y)) (hi : i + 4 ≤ L) (hL : L ≤ 2048) {H : Heap} {locs : List Loc} {cells slots : Nat} {ls : Array Slot} (hcc : cells + 1 ≤ 1096) (hss : slots + 6 ≤ 9967) (hR : zL D cI cZ cJ adx adm oo s H locs S M g) (hl : lv_has ls 7 [(0, .ref (b)), (1, .ref (adx 0)), (2, .ref (adm 0)), (3, .ref (oo)), (4, .int (nI (i)))]) (K : ∀ (g1 : Nat → Int64) (H1 : Heap) (locs1 : List Loc) (ls1 : Array Slot), zL D cI cZ cJ adx adm oo s H1 locs1 (S) (zth M 1) g1 → lv_has ls1 7 [(0, .ref (b)), (1, .ref (adx 0)), (2, .ref (adm 0)), (3, .ref (oo)), (4, .int (nI (i)))] → W pg l e room_1 s m #[Value.ref b] below meth c H1 locs1 (cells + 1) (slots + 6) (lw_Z below #[Value.ref b] s) (F0 m 1903 ls1 [])) : W pg l e room_1 s m #[Value.ref b] below meth c H locs cells slots (lw_Z below #[Value.ref b] s) (F0 m 825 ls []) := by
  obtain ⟨hx, hb, hr, hml, hown, hts, hX, hbl, hlocks, hgv⟩ := C0
  have hts := fun w h => hts w (wsL_law_in w h)
  have hown : s.vm.findClass RL = some m.cls := hown
  have hb : c.code = cL_law := hb
  refine lv_aload_n hx hb dL_law_825 rfl (lv_at hl 1 rfl) ?_
  refine lv_aload_n hx hb dL_law_826 rfl (lv_at hl 0 rfl) ?_
  refine lv_iload hx hb dL_law_827 (lv_at hl 4 rfl) ?_
  refine lv_iconst (v := (nI 1)) hx hb dL_law_829 (by decide) ?_
  refine z_iadd_n hx hb dL_law_830 ?_
  refine z_sld_n hx hb hX hbl hR dL_law_831 (by omega) hL ha1 ?_
  refine lv_aload_n hx hb dL_law_832 rfl (lv_at hl 0 rfl) ?_
  refine lv_iload hx hb dL_law_833 (lv_at hl 4 rfl) ?_
  refine lv_iconst (v := (nI 2)) hx hb dL_law_835 (by decide) ?_
  refine z_iadd_n hx hb dL_law_836 ?_
  refine z_sld_n hx hb hX hbl hR dL_law_837 (by omega) hL ha2 ?_
  refine lv_aload_n hx hb dL_law_838 rfl (lv_at hl 3 rfl) ?_
  refine z_lW (As := [.ref (adx 0), .int (x), .int (y), .ref (oo)]) (rest := []) ⟨hx, hb, hml, hown, hts⟩ X0 hR (o_eventAt_e1 X0.2.2.1 X0.2.2.2.2.1 hfl S g x y hO hxb) (vx_cwSW 4 hts gL_law_L_eventAt rfl rfl rfl (by decide +kernel) ⟨Nat.le_of_ble_eq_true rfl, Nat.le_of_ble_eq_true rfl⟩) rfl hl rfl (Nat.le_of_ble_eq_true rfl) ⟨hcc, hss⟩ dL_law_839 (fun r S1 g1 H locs hp hR => ?_)
  obtain ⟨hr1, hs1⟩ := hp
  subst r
  have hs1 : S1 = S := hs1
  subst S1
  refine lv_istore (lv' := [(5, .int (nI (1))), (0, .ref (b)), (1, .ref (adx 0)), (2, .ref (adm 0)), (3, .ref (oo)), (4, .int (nI (i)))]) hx hb dL_law_842 hl (by decide) rfl (fun ls hl => ?_)
  refine lv_aload_n hx hb dL_law_844 rfl (lv_at hl 3 rfl) ?_
  refine lv_aload_n hx hb dL_law_845 rfl (lv_at hl 1 rfl) ?_
  refine lv_iload hx hb dL_law_846 (lv_at hl 5 rfl) ?_
  refine lv_iconst (v := (nI 1)) hx hb dL_law_848 (by decide) ?_
  refine z_iadd_n hx hb dL_law_849 ?_
  refine z_sld_n hx hb hX hbl hR dL_law_850 (by omega) hL ha1 ?_
  refine lv_aload_n hx hb dL_law_851 rfl (lv_at hl 1 rfl) ?_
  refine lv_iload hx hb dL_law_852 (lv_at hl 5 rfl) ?_
  refine lv_iconst (v := (nI 2)) hx hb dL_law_854 (by decide) ?_
  refine z_iadd_n hx hb dL_law_855 ?_
  refine z_sld_n hx hb hX hbl hR dL_law_856 (by omega) hL ha2 ?_
  refine z_lM_i (As := [.int (x), .int (y)]) (rest := []) ⟨hx, hb, hml, hown, hts⟩ X0 hR (c_X5_eventAt_e1 X0.2.2.2.1 M x y hOM hxb_m) (cwV 2 hts gL_law_X5_eventAt rfl rfl rfl (by decide +kernel) ⟨Nat.le_of_ble_eq_true rfl, Nat.le_of_ble_eq_true rfl⟩) rfl hl rfl (Nat.le_of_ble_eq_true rfl) ⟨by show cells + 1 + 0 ≤ 1096; omega, by show slots + 6 + 0 ≤ 9967; omega⟩ dL_law_857 (fun r T1 H locs hp hR => ?_)
  obtain ⟨hr1, hs1⟩ := hp
  subst r
  subst T1
  refine lv_istore (lv' := [(6, .int (nI (0))), (5, .int (nI (1))), (0, .ref (b)), (1, .ref (adx 0)), (2, .ref (adm 0)), (3, .ref (oo)), (4, .int (nI (i)))]) hx hb dL_law_860 hl (by decide) rfl (fun ls hl => ?_)
  refine lv_aload_n hx hb dL_law_862 rfl (lv_at hl 4 rfl) ?_
  refine z_lM_i (As := []) (rest := []) ⟨hx, hb, hml, hown, hts⟩ X0 hR (c_X5_thrown X0.2.2.2.1 (zth M 1)) (cwV 0 hts gL_law_X5_thrown rfl rfl rfl (by decide +kernel) ⟨Nat.le_of_ble_eq_true rfl, Nat.le_of_ble_eq_true rfl⟩) rfl hl rfl (Nat.le_of_ble_eq_true rfl) ⟨by show cells + 1 + 0 ≤ 1096; omega, by show slots + 6 + 0 ≤ 9967; omega⟩ dL_law_863 (fun r M1 H locs hp hR => ?_)
  obtain ⟨hr1, hs1⟩ := hp
  subst M1
  obtain rfl : r = nI 1 := hr1.trans (th_4 _ _)
  refine lv_iload hx hb dL_law_866 (lv_at hl 1 rfl) ?_
  refine z_eq_n (tgt := 873) hx hb dL_law_868 (by decide) (by decide) (by decide) (fun _ => ?_) (fun h => absurd rfl h)
  refine lv_iload hx hb dL_law_873 (lv_at hl 1 rfl) ?_
  refine z_if_ne_n (tgt := 890) hx hb dL_law_875 (by decide) (by decide) (fun _ => ?_) (fun h => absurd h (by decide))
  refine lv_goto (tgt := 1903) hx hb dL_law_890 (by decide) ?_
  exact K _ _ _ _ hR (lv_sub hl [2, 3, 4, 5, 6] rfl)
set_option maxHeartbeats 4000000 in
set_option maxRecDepth 100000 in
theorem lw_eventAt_e2 {pg : Program} {l : Launch} {e : Env} {s : State} {m : MethodId} {below : List Frame} {meth : Method} {c : Code} {b L : Nat} {xs : Nat → Int32} {D : va_G} {cI cZ cJ : ClassId} {adx adm : Nat → Nat} {oo : Nat} {Bx Bm : Nat → Prop} (C0 : lw_At pg s m meth c b L xs) (hfl : l.stackTraces = false) (X0 : zLC D cI cZ cJ adx adm oo Bx Bm s) (S M : zS) (g : Nat → Int64) (i : Nat) (p : Nat) (y : Int32) (hO : zOK S) (hOM : zOK M) (hp : p < 4) (hxb : zbad y (zn S 0 p)) (hp_m : p < 4) (hx9_m : zbad y (zn M 0 p)) (ha1 : xs (i + 1) = (nI (p))) (ha2 : xs (i + 2) = (y)) (hi : i + 4 ≤ L) (hL : L ≤ 2048) {H : Heap} {locs : List Loc} {cells slots : Nat} {ls : Array Slot} (hcc : cells + 1 ≤ 1096) (hss : slots + 6 ≤ 9967) (hR : zL D cI cZ cJ adx adm oo s H locs S M g) (hl : lv_has ls 7 [(0, .ref (b)), (1, .ref (adx 0)), (2, .ref (adm 0)), (3, .ref (oo)), (4, .int (nI (i)))]) (K : ∀ (g1 : Nat → Int64) (H1 : Heap) (locs1 : List Loc) (ls1 : Array Slot), zL D cI cZ cJ adx adm oo s H1 locs1 (S) (zth M 1) g1 → lv_has ls1 7 [(0, .ref (b)), (1, .ref (adx 0)), (2, .ref (adm 0)), (3, .ref (oo)), (4, .int (nI (i)))] → W pg l e room_1 s m #[Value.ref b] below meth c H1 locs1 (cells + 1) (slots + 6) (lw_Z below #[Value.ref b] s) (F0 m 1903 ls1 [])) : W pg l e room_1 s m #[Value.ref b] below meth c H locs cells slots (lw_Z below #[Value.ref b] s) (F0 m 825 ls []) := by
  obtain ⟨hx, hb, hr, hml, hown, hts, hX, hbl, hlocks, hgv⟩ := C0
  have hts := fun w h => hts w (wsL_law_in w h)
  have hown : s.vm.findClass RL = some m.cls := hown
  have hb : c.code = cL_law := hb
  refine lv_aload_n hx hb dL_law_825 rfl (lv_at hl 1 rfl) ?_
  refine lv_aload_n hx hb dL_law_826 rfl (lv_at hl 0 rfl) ?_
  refine lv_iload hx hb dL_law_827 (lv_at hl 4 rfl) ?_
  refine lv_iconst (v := (nI 1)) hx hb dL_law_829 (by decide) ?_
  refine z_iadd_n hx hb dL_law_830 ?_
  refine z_sld_n hx hb hX hbl hR dL_law_831 (by omega) hL ha1 ?_
  refine lv_aload_n hx hb dL_law_832 rfl (lv_at hl 0 rfl) ?_
  refine lv_iload hx hb dL_law_833 (lv_at hl 4 rfl) ?_
  refine lv_iconst (v := (nI 2)) hx hb dL_law_835 (by decide) ?_
  refine z_iadd_n hx hb dL_law_836 ?_
  refine z_sld_n hx hb hX hbl hR dL_law_837 (by omega) hL ha2 ?_
  refine lv_aload_n hx hb dL_law_838 rfl (lv_at hl 3 rfl) ?_
  refine z_lW (As := [.ref (adx 0), .int (nI (p)), .int (y), .ref (oo)]) (rest := []) ⟨hx, hb, hml, hown, hts⟩ X0 hR (o_eventAt_e2 X0.2.2.1 X0.2.2.2.2.1 hfl S g p y hO hp hxb) (vx_cwSW 4 hts gL_law_L_eventAt rfl rfl rfl (by decide +kernel) ⟨Nat.le_of_ble_eq_true rfl, Nat.le_of_ble_eq_true rfl⟩) rfl hl rfl (Nat.le_of_ble_eq_true rfl) ⟨hcc, hss⟩ dL_law_839 (fun r S1 g1 H locs hp hR => ?_)
  obtain ⟨hr1, hs1⟩ := hp
  subst r
  have hs1 : S1 = S := hs1
  subst S1
  refine lv_istore (lv' := [(5, .int (nI (1))), (0, .ref (b)), (1, .ref (adx 0)), (2, .ref (adm 0)), (3, .ref (oo)), (4, .int (nI (i)))]) hx hb dL_law_842 hl (by decide) rfl (fun ls hl => ?_)
  refine lv_aload_n hx hb dL_law_844 rfl (lv_at hl 3 rfl) ?_
  refine lv_aload_n hx hb dL_law_845 rfl (lv_at hl 1 rfl) ?_
  refine lv_iload hx hb dL_law_846 (lv_at hl 5 rfl) ?_
  refine lv_iconst (v := (nI 1)) hx hb dL_law_848 (by decide) ?_
  refine z_iadd_n hx hb dL_law_849 ?_
  refine z_sld_n hx hb hX hbl hR dL_law_850 (by omega) hL ha1 ?_
  refine lv_aload_n hx hb dL_law_851 rfl (lv_at hl 1 rfl) ?_
  refine lv_iload hx hb dL_law_852 (lv_at hl 5 rfl) ?_
  refine lv_iconst (v := (nI 2)) hx hb dL_law_854 (by decide) ?_
  refine z_iadd_n hx hb dL_law_855 ?_
  refine z_sld_n hx hb hX hbl hR dL_law_856 (by omega) hL ha2 ?_
  refine z_lM_i (As := [.int (nI (p)), .int (y)]) (rest := []) ⟨hx, hb, hml, hown, hts⟩ X0 hR (c_X5_eventAt_e2 X0.2.2.2.1 M p y hOM hp_m hx9_m) (cwV 2 hts gL_law_X5_eventAt rfl rfl rfl (by decide +kernel) ⟨Nat.le_of_ble_eq_true rfl, Nat.le_of_ble_eq_true rfl⟩) rfl hl rfl (Nat.le_of_ble_eq_true rfl) ⟨by show cells + 1 + 0 ≤ 1096; omega, by show slots + 6 + 0 ≤ 9967; omega⟩ dL_law_857 (fun r T1 H locs hp hR => ?_)
  obtain ⟨hr1, hs1⟩ := hp
  subst r
  subst T1
  refine lv_istore (lv' := [(6, .int (nI (0))), (5, .int (nI (1))), (0, .ref (b)), (1, .ref (adx 0)), (2, .ref (adm 0)), (3, .ref (oo)), (4, .int (nI (i)))]) hx hb dL_law_860 hl (by decide) rfl (fun ls hl => ?_)
  refine lv_aload_n hx hb dL_law_862 rfl (lv_at hl 4 rfl) ?_
  refine z_lM_i (As := []) (rest := []) ⟨hx, hb, hml, hown, hts⟩ X0 hR (c_X5_thrown X0.2.2.2.1 (zth M 1)) (cwV 0 hts gL_law_X5_thrown rfl rfl rfl (by decide +kernel) ⟨Nat.le_of_ble_eq_true rfl, Nat.le_of_ble_eq_true rfl⟩) rfl hl rfl (Nat.le_of_ble_eq_true rfl) ⟨by show cells + 1 + 0 ≤ 1096; omega, by show slots + 6 + 0 ≤ 9967; omega⟩ dL_law_863 (fun r M1 H locs hp hR => ?_)
  obtain ⟨hr1, hs1⟩ := hp
  subst M1
  obtain rfl : r = nI 1 := hr1.trans (th_4 _ _)
  refine lv_iload hx hb dL_law_866 (lv_at hl 1 rfl) ?_
  refine z_eq_n (tgt := 873) hx hb dL_law_868 (by decide) (by decide) (by decide) (fun _ => ?_) (fun h => absurd rfl h)
  refine lv_iload hx hb dL_law_873 (lv_at hl 1 rfl) ?_
  refine z_if_ne_n (tgt := 890) hx hb dL_law_875 (by decide) (by decide) (fun _ => ?_) (fun h => absurd h (by decide))
  refine lv_goto (tgt := 1903) hx hb dL_law_890 (by decide) ?_
  exact K _ _ _ _ hR (lv_sub hl [2, 3, 4, 5, 6] rfl)
set_option maxHeartbeats 4000000 in
set_option maxRecDepth 100000 in
theorem lw_eventAt_ok {pg : Program} {l : Launch} {e : Env} {s : State} {m : MethodId} {below : List Frame} {meth : Method} {c : Code} {b L : Nat} {xs : Nat → Int32} {D : va_G} {cI cZ cJ : ClassId} {adx adm : Nat → Nat} {oo : Nat} {Bx Bm : Nat → Prop} (C0 : lw_At pg s m meth c b L xs) (hfl : l.stackTraces = false) (X0 : zLC D cI cZ cJ adx adm oo Bx Bm s) (S M : zS) (g : Nat → Int64) (i : Nat) (p : Nat) (o : Nat) (hO : zOK S) (hOM : zOK M) (hp : p < 4) (ho : o < zn S 0 p) (hp_m : p < 4) (ho_m : o < zn M 0 p) (hres : (nI (zn S 1 (60 * p + o))) = (nI (zn (zth M 0) 1 (60 * p + o)))) (ha1 : xs (i + 1) = (nI (p))) (ha2 : xs (i + 2) = (nI (o))) (hi : i + 4 ≤ L) (hL : L ≤ 2048) {H : Heap} {locs : List Loc} {cells slots : Nat} {ls : Array Slot} (hcc : cells + 1 ≤ 1096) (hss : slots + 6 ≤ 9967) (hR : zL D cI cZ cJ adx adm oo s H locs S M g) (hl : lv_has ls 7 [(0, .ref (b)), (1, .ref (adx 0)), (2, .ref (adm 0)), (3, .ref (oo)), (4, .int (nI (i)))]) (K : ∀ (g1 : Nat → Int64) (H1 : Heap) (locs1 : List Loc) (ls1 : Array Slot), zL D cI cZ cJ adx adm oo s H1 locs1 (S) (zth M 0) g1 → lv_has ls1 7 [(0, .ref (b)), (1, .ref (adx 0)), (2, .ref (adm 0)), (3, .ref (oo)), (4, .int (nI (i)))] → W pg l e room_1 s m #[Value.ref b] below meth c H1 locs1 (cells + 1) (slots + 6) (lw_Z below #[Value.ref b] s) (F0 m 1903 ls1 [])) : W pg l e room_1 s m #[Value.ref b] below meth c H locs cells slots (lw_Z below #[Value.ref b] s) (F0 m 825 ls []) := by
  obtain ⟨hx, hb, hr, hml, hown, hts, hX, hbl, hlocks, hgv⟩ := C0
  have hts := fun w h => hts w (wsL_law_in w h)
  have hown : s.vm.findClass RL = some m.cls := hown
  have hb : c.code = cL_law := hb
  refine lv_aload_n hx hb dL_law_825 rfl (lv_at hl 1 rfl) ?_
  refine lv_aload_n hx hb dL_law_826 rfl (lv_at hl 0 rfl) ?_
  refine lv_iload hx hb dL_law_827 (lv_at hl 4 rfl) ?_
  refine lv_iconst (v := (nI 1)) hx hb dL_law_829 (by decide) ?_
  refine z_iadd_n hx hb dL_law_830 ?_
  refine z_sld_n hx hb hX hbl hR dL_law_831 (by omega) hL ha1 ?_
  refine lv_aload_n hx hb dL_law_832 rfl (lv_at hl 0 rfl) ?_
  refine lv_iload hx hb dL_law_833 (lv_at hl 4 rfl) ?_
  refine lv_iconst (v := (nI 2)) hx hb dL_law_835 (by decide) ?_
  refine z_iadd_n hx hb dL_law_836 ?_
  refine z_sld_n hx hb hX hbl hR dL_law_837 (by omega) hL ha2 ?_
  refine lv_aload_n hx hb dL_law_838 rfl (lv_at hl 3 rfl) ?_
  refine z_lW (As := [.ref (adx 0), .int (nI (p)), .int (nI (o)), .ref (oo)]) (rest := []) ⟨hx, hb, hml, hown, hts⟩ X0 hR (o_eventAt_ok X0.2.2.1 X0.2.2.2.2.1 hfl S g p o hO hp ho) (vx_cwSW 4 hts gL_law_L_eventAt rfl rfl rfl (by decide +kernel) ⟨Nat.le_of_ble_eq_true rfl, Nat.le_of_ble_eq_true rfl⟩) rfl hl rfl (Nat.le_of_ble_eq_true rfl) ⟨hcc, hss⟩ dL_law_839 (fun r S1 g1 H locs hp hR => ?_)
  obtain ⟨hr1, hs1, hg⟩ := hp
  subst r
  have hs1 : S1 = S := hs1
  subst S1
  refine lv_istore (lv' := [(5, .int (nI (0))), (0, .ref (b)), (1, .ref (adx 0)), (2, .ref (adm 0)), (3, .ref (oo)), (4, .int (nI (i)))]) hx hb dL_law_842 hl (by decide) rfl (fun ls hl => ?_)
  refine lv_aload_n hx hb dL_law_844 rfl (lv_at hl 3 rfl) ?_
  refine lv_aload_n hx hb dL_law_845 rfl (lv_at hl 1 rfl) ?_
  refine lv_iload hx hb dL_law_846 (lv_at hl 5 rfl) ?_
  refine lv_iconst (v := (nI 1)) hx hb dL_law_848 (by decide) ?_
  refine z_iadd_n hx hb dL_law_849 ?_
  refine z_sld_n hx hb hX hbl hR dL_law_850 (by omega) hL ha1 ?_
  refine lv_aload_n hx hb dL_law_851 rfl (lv_at hl 1 rfl) ?_
  refine lv_iload hx hb dL_law_852 (lv_at hl 5 rfl) ?_
  refine lv_iconst (v := (nI 2)) hx hb dL_law_854 (by decide) ?_
  refine z_iadd_n hx hb dL_law_855 ?_
  refine z_sld_n hx hb hX hbl hR dL_law_856 (by omega) hL ha2 ?_
  refine z_lM_i (As := [.int (nI (p)), .int (nI (o))]) (rest := []) ⟨hx, hb, hml, hown, hts⟩ X0 hR (c_X5_eventAt_ok X0.2.2.2.1 M p o hOM hp_m ho_m) (cwV 2 hts gL_law_X5_eventAt rfl rfl rfl (by decide +kernel) ⟨Nat.le_of_ble_eq_true rfl, Nat.le_of_ble_eq_true rfl⟩) rfl hl rfl (Nat.le_of_ble_eq_true rfl) ⟨by show cells + 1 + 0 ≤ 1096; omega, by show slots + 6 + 0 ≤ 9967; omega⟩ dL_law_857 (fun r T1 H locs hp hR => ?_)
  obtain ⟨hr1, hs1⟩ := hp
  subst r
  subst T1
  refine lv_istore (lv' := [(6, .int (nI (zn (zth M 0) 1 (60 * p + o)))), (5, .int (nI (0))), (0, .ref (b)), (1, .ref (adx 0)), (2, .ref (adm 0)), (3, .ref (oo)), (4, .int (nI (i)))]) hx hb dL_law_860 hl (by decide) rfl (fun ls hl => ?_)
  refine lv_aload_n hx hb dL_law_862 rfl (lv_at hl 4 rfl) ?_
  refine z_lM_i (As := []) (rest := []) ⟨hx, hb, hml, hown, hts⟩ X0 hR (c_X5_thrown X0.2.2.2.1 (zth M 0)) (cwV 0 hts gL_law_X5_thrown rfl rfl rfl (by decide +kernel) ⟨Nat.le_of_ble_eq_true rfl, Nat.le_of_ble_eq_true rfl⟩) rfl hl rfl (Nat.le_of_ble_eq_true rfl) ⟨by show cells + 1 + 0 ≤ 1096; omega, by show slots + 6 + 0 ≤ 9967; omega⟩ dL_law_863 (fun r M1 H locs hp hR => ?_)
  obtain ⟨hr1, hs1⟩ := hp
  subst M1
  obtain rfl : r = nI 0 := hr1.trans (th_4 _ _)
  refine lv_iload hx hb dL_law_866 (lv_at hl 1 rfl) ?_
  refine z_eq_n (tgt := 873) hx hb dL_law_868 (by decide) (by decide) (by decide) (fun _ => ?_) (fun h => absurd rfl h)
  refine lv_iload hx hb dL_law_873 (lv_at hl 1 rfl) ?_
  refine z_if_ne_n (tgt := 890) hx hb dL_law_875 (by decide) (by decide) (fun h => absurd h (by decide)) (fun _ => ?_)
  refine lv_aload_n hx hb dL_law_878 rfl (lv_at hl 5 rfl) ?_
  refine lv_iconst (v := (nI 0)) hx hb dL_law_879 (by decide) ?_
  refine z_l_lald hx hb X0 hR dL_law_880 ?_
  refine lv_iload hx hb dL_law_881 (lv_at hl 0 rfl) ?_
  refine lv_i2l (v := ((nI (zn (zth M 0) 1 (60 * p + o)))).toInt64) hx hb dL_law_883 rfl ?_
  refine W.lcmp hx hb dL_law_884 ?_
  refine lv_topi (fun v9 ev9 => ?_)
  obtain rfl : v9 = nI 0 := ev9.trans (z_cmp_eq (hg.trans (congrArg Int32.toInt64 hres)))
  refine z_if_eq_n (tgt := 890) hx hb dL_law_885 (by decide) (by decide) (fun _ => ?_) (fun h => absurd h (by decide))
  refine lv_goto (tgt := 1903) hx hb dL_law_890 (by decide) ?_
  exact K _ _ _ _ hR (lv_sub hl [2, 3, 4, 5, 6] rfl)
set_option maxHeartbeats 4000000 in
set_option maxRecDepth 100000 in
theorem lw_queued_e1 {pg : Program} {l : Launch} {e : Env} {s : State} {m : MethodId} {below : List Frame} {meth : Method} {c : Code} {b L : Nat} {xs : Nat → Int32} {D : va_G} {cI cZ cJ : ClassId} {adx adm : Nat → Nat} {oo : Nat} {Bx Bm : Nat → Prop} (C0 : lw_At pg s m meth c b L xs) (hfl : l.stackTraces = false) (X0 : zLC D cI cZ cJ adx adm oo Bx Bm s) (S M : zS) (g : Nat → Int64) (i : Nat) (x : Int32) (y : Int32) (hO : zOK S) (hOM : zOK M) (hxb : zbad x 4) (hxb_m : zbad x 4) (ha1 : xs (i + 1) = (x)) (ha2 : xs (i + 2) = (y)) (hi : i + 4 ≤ L) (hL : L ≤ 2048) {H : Heap} {locs : List Loc} {cells slots : Nat} {ls : Array Slot} (hcc : cells + 1 ≤ 1096) (hss : slots + 6 ≤ 9967) (hR : zL D cI cZ cJ adx adm oo s H locs S M g) (hl : lv_has ls 7 [(0, .ref (b)), (1, .ref (adx 0)), (2, .ref (adm 0)), (3, .ref (oo)), (4, .int (nI (i)))]) (K : ∀ (g1 : Nat → Int64) (H1 : Heap) (locs1 : List Loc) (ls1 : Array Slot), zL D cI cZ cJ adx adm oo s H1 locs1 (S) (zth M 1) g1 → lv_has ls1 7 [(0, .ref (b)), (1, .ref (adx 0)), (2, .ref (adm 0)), (3, .ref (oo)), (4, .int (nI (i)))] → W pg l e room_1 s m #[Value.ref b] below meth c H1 locs1 (cells + 1) (slots + 6) (lw_Z below #[Value.ref b] s) (F0 m 1903 ls1 [])) : W pg l e room_1 s m #[Value.ref b] below meth c H locs cells slots (lw_Z below #[Value.ref b] s) (F0 m 893 ls []) := by
  obtain ⟨hx, hb, hr, hml, hown, hts, hX, hbl, hlocks, hgv⟩ := C0
  have hts := fun w h => hts w (wsL_law_in w h)
  have hown : s.vm.findClass RL = some m.cls := hown
  have hb : c.code = cL_law := hb
  refine lv_aload_n hx hb dL_law_893 rfl (lv_at hl 1 rfl) ?_
  refine lv_aload_n hx hb dL_law_894 rfl (lv_at hl 0 rfl) ?_
  refine lv_iload hx hb dL_law_895 (lv_at hl 4 rfl) ?_
  refine lv_iconst (v := (nI 1)) hx hb dL_law_897 (by decide) ?_
  refine z_iadd_n hx hb dL_law_898 ?_
  refine z_sld_n hx hb hX hbl hR dL_law_899 (by omega) hL ha1 ?_
  refine lv_aload_n hx hb dL_law_900 rfl (lv_at hl 0 rfl) ?_
  refine lv_iload hx hb dL_law_901 (lv_at hl 4 rfl) ?_
  refine lv_iconst (v := (nI 2)) hx hb dL_law_903 (by decide) ?_
  refine z_iadd_n hx hb dL_law_904 ?_
  refine z_sld_n hx hb hX hbl hR dL_law_905 (by omega) hL ha2 ?_
  refine lv_aload_n hx hb dL_law_906 rfl (lv_at hl 3 rfl) ?_
  refine z_lW (As := [.ref (adx 0), .int (x), .int (y), .ref (oo)]) (rest := []) ⟨hx, hb, hml, hown, hts⟩ X0 hR (o_queued_e1 X0.2.2.1 X0.2.2.2.2.1 hfl S g x y hO hxb) (vx_cwSW 4 hts gL_law_L_queued rfl rfl rfl (by decide +kernel) ⟨Nat.le_of_ble_eq_true rfl, Nat.le_of_ble_eq_true rfl⟩) rfl hl rfl (Nat.le_of_ble_eq_true rfl) ⟨hcc, hss⟩ dL_law_907 (fun r S1 g1 H locs hp hR => ?_)
  obtain ⟨hr1, hs1⟩ := hp
  subst r
  have hs1 : S1 = S := hs1
  subst S1
  refine lv_istore (lv' := [(5, .int (nI (1))), (0, .ref (b)), (1, .ref (adx 0)), (2, .ref (adm 0)), (3, .ref (oo)), (4, .int (nI (i)))]) hx hb dL_law_910 hl (by decide) rfl (fun ls hl => ?_)
  refine lv_aload_n hx hb dL_law_912 rfl (lv_at hl 3 rfl) ?_
  refine lv_aload_n hx hb dL_law_913 rfl (lv_at hl 1 rfl) ?_
  refine lv_iload hx hb dL_law_914 (lv_at hl 5 rfl) ?_
  refine lv_iconst (v := (nI 1)) hx hb dL_law_916 (by decide) ?_
  refine z_iadd_n hx hb dL_law_917 ?_
  refine z_sld_n hx hb hX hbl hR dL_law_918 (by omega) hL ha1 ?_
  refine lv_aload_n hx hb dL_law_919 rfl (lv_at hl 1 rfl) ?_
  refine lv_iload hx hb dL_law_920 (lv_at hl 5 rfl) ?_
  refine lv_iconst (v := (nI 2)) hx hb dL_law_922 (by decide) ?_
  refine z_iadd_n hx hb dL_law_923 ?_
  refine z_sld_n hx hb hX hbl hR dL_law_924 (by omega) hL ha2 ?_
  refine z_lM_i (As := [.int (x), .int (y)]) (rest := []) ⟨hx, hb, hml, hown, hts⟩ X0 hR (c_X5_queued_e1 X0.2.2.2.1 M x y hOM hxb_m) (cwV 2 hts gL_law_X5_queued rfl rfl rfl (by decide +kernel) ⟨Nat.le_of_ble_eq_true rfl, Nat.le_of_ble_eq_true rfl⟩) rfl hl rfl (Nat.le_of_ble_eq_true rfl) ⟨by show cells + 1 + 0 ≤ 1096; omega, by show slots + 6 + 0 ≤ 9967; omega⟩ dL_law_925 (fun r T1 H locs hp hR => ?_)
  obtain ⟨hr1, hs1⟩ := hp
  subst r
  subst T1
  refine lv_istore (lv' := [(6, .int (nI (0))), (5, .int (nI (1))), (0, .ref (b)), (1, .ref (adx 0)), (2, .ref (adm 0)), (3, .ref (oo)), (4, .int (nI (i)))]) hx hb dL_law_928 hl (by decide) rfl (fun ls hl => ?_)
  refine lv_aload_n hx hb dL_law_930 rfl (lv_at hl 4 rfl) ?_
  refine z_lM_i (As := []) (rest := []) ⟨hx, hb, hml, hown, hts⟩ X0 hR (c_X5_thrown X0.2.2.2.1 (zth M 1)) (cwV 0 hts gL_law_X5_thrown rfl rfl rfl (by decide +kernel) ⟨Nat.le_of_ble_eq_true rfl, Nat.le_of_ble_eq_true rfl⟩) rfl hl rfl (Nat.le_of_ble_eq_true rfl) ⟨by show cells + 1 + 0 ≤ 1096; omega, by show slots + 6 + 0 ≤ 9967; omega⟩ dL_law_931 (fun r M1 H locs hp hR => ?_)
  obtain ⟨hr1, hs1⟩ := hp
  subst M1
  obtain rfl : r = nI 1 := hr1.trans (th_4 _ _)
  refine lv_iload hx hb dL_law_934 (lv_at hl 1 rfl) ?_
  refine z_eq_n (tgt := 941) hx hb dL_law_936 (by decide) (by decide) (by decide) (fun _ => ?_) (fun h => absurd rfl h)
  refine lv_iload hx hb dL_law_941 (lv_at hl 1 rfl) ?_
  refine z_if_ne_n (tgt := 958) hx hb dL_law_943 (by decide) (by decide) (fun _ => ?_) (fun h => absurd h (by decide))
  refine lv_goto (tgt := 1903) hx hb dL_law_958 (by decide) ?_
  exact K _ _ _ _ hR (lv_sub hl [2, 3, 4, 5, 6] rfl)
set_option maxHeartbeats 4000000 in
set_option maxRecDepth 100000 in
theorem lw_queued_e2 {pg : Program} {l : Launch} {e : Env} {s : State} {m : MethodId} {below : List Frame} {meth : Method} {c : Code} {b L : Nat} {xs : Nat → Int32} {D : va_G} {cI cZ cJ : ClassId} {adx adm : Nat → Nat} {oo : Nat} {Bx Bm : Nat → Prop} (C0 : lw_At pg s m meth c b L xs) (hfl : l.stackTraces = false) (X0 : zLC D cI cZ cJ adx adm oo Bx Bm s) (S M : zS) (g : Nat → Int64) (i : Nat) (p : Nat) (y : Int32) (hO : zOK S) (hOM : zOK M) (hp : p < 4) (hxb : zbad y (zn S 22 0)) (hp_m : p < 4) (hxb_m : zbad y (zn M 22 0)) (ha1 : xs (i + 1) = (nI (p))) (ha2 : xs (i + 2) = (y)) (hi : i + 4 ≤ L) (hL : L ≤ 2048) {H : Heap} {locs : List Loc} {cells slots : Nat} {ls : Array Slot} (hcc : cells + 1 ≤ 1096) (hss : slots + 6 ≤ 9967) (hR : zL D cI cZ cJ adx adm oo s H locs S M g) (hl : lv_has ls 7 [(0, .ref (b)), (1, .ref (adx 0)), (2, .ref (adm 0)), (3, .ref (oo)), (4, .int (nI (i)))]) (K : ∀ (g1 : Nat → Int64) (H1 : Heap) (locs1 : List Loc) (ls1 : Array Slot), zL D cI cZ cJ adx adm oo s H1 locs1 (S) (zth M 1) g1 → lv_has ls1 7 [(0, .ref (b)), (1, .ref (adx 0)), (2, .ref (adm 0)), (3, .ref (oo)), (4, .int (nI (i)))] → W pg l e room_1 s m #[Value.ref b] below meth c H1 locs1 (cells + 1) (slots + 6) (lw_Z below #[Value.ref b] s) (F0 m 1903 ls1 [])) : W pg l e room_1 s m #[Value.ref b] below meth c H locs cells slots (lw_Z below #[Value.ref b] s) (F0 m 893 ls []) := by
  obtain ⟨hx, hb, hr, hml, hown, hts, hX, hbl, hlocks, hgv⟩ := C0
  have hts := fun w h => hts w (wsL_law_in w h)
  have hown : s.vm.findClass RL = some m.cls := hown
  have hb : c.code = cL_law := hb
  refine lv_aload_n hx hb dL_law_893 rfl (lv_at hl 1 rfl) ?_
  refine lv_aload_n hx hb dL_law_894 rfl (lv_at hl 0 rfl) ?_
  refine lv_iload hx hb dL_law_895 (lv_at hl 4 rfl) ?_
  refine lv_iconst (v := (nI 1)) hx hb dL_law_897 (by decide) ?_
  refine z_iadd_n hx hb dL_law_898 ?_
  refine z_sld_n hx hb hX hbl hR dL_law_899 (by omega) hL ha1 ?_
  refine lv_aload_n hx hb dL_law_900 rfl (lv_at hl 0 rfl) ?_
  refine lv_iload hx hb dL_law_901 (lv_at hl 4 rfl) ?_
  refine lv_iconst (v := (nI 2)) hx hb dL_law_903 (by decide) ?_
  refine z_iadd_n hx hb dL_law_904 ?_
  refine z_sld_n hx hb hX hbl hR dL_law_905 (by omega) hL ha2 ?_
  refine lv_aload_n hx hb dL_law_906 rfl (lv_at hl 3 rfl) ?_
  refine z_lW (As := [.ref (adx 0), .int (nI (p)), .int (y), .ref (oo)]) (rest := []) ⟨hx, hb, hml, hown, hts⟩ X0 hR (o_queued_e2 X0.2.2.1 X0.2.2.2.2.1 hfl S g p y hO hp hxb) (vx_cwSW 4 hts gL_law_L_queued rfl rfl rfl (by decide +kernel) ⟨Nat.le_of_ble_eq_true rfl, Nat.le_of_ble_eq_true rfl⟩) rfl hl rfl (Nat.le_of_ble_eq_true rfl) ⟨hcc, hss⟩ dL_law_907 (fun r S1 g1 H locs hp hR => ?_)
  obtain ⟨hr1, hs1⟩ := hp
  subst r
  have hs1 : S1 = S := hs1
  subst S1
  refine lv_istore (lv' := [(5, .int (nI (1))), (0, .ref (b)), (1, .ref (adx 0)), (2, .ref (adm 0)), (3, .ref (oo)), (4, .int (nI (i)))]) hx hb dL_law_910 hl (by decide) rfl (fun ls hl => ?_)
  refine lv_aload_n hx hb dL_law_912 rfl (lv_at hl 3 rfl) ?_
  refine lv_aload_n hx hb dL_law_913 rfl (lv_at hl 1 rfl) ?_
  refine lv_iload hx hb dL_law_914 (lv_at hl 5 rfl) ?_
  refine lv_iconst (v := (nI 1)) hx hb dL_law_916 (by decide) ?_
  refine z_iadd_n hx hb dL_law_917 ?_
  refine z_sld_n hx hb hX hbl hR dL_law_918 (by omega) hL ha1 ?_
  refine lv_aload_n hx hb dL_law_919 rfl (lv_at hl 1 rfl) ?_
  refine lv_iload hx hb dL_law_920 (lv_at hl 5 rfl) ?_
  refine lv_iconst (v := (nI 2)) hx hb dL_law_922 (by decide) ?_
  refine z_iadd_n hx hb dL_law_923 ?_
  refine z_sld_n hx hb hX hbl hR dL_law_924 (by omega) hL ha2 ?_
  refine z_lM_i (As := [.int (nI (p)), .int (y)]) (rest := []) ⟨hx, hb, hml, hown, hts⟩ X0 hR (c_X5_queued_e2 X0.2.2.2.1 M p y hOM hp_m hxb_m) (cwV 2 hts gL_law_X5_queued rfl rfl rfl (by decide +kernel) ⟨Nat.le_of_ble_eq_true rfl, Nat.le_of_ble_eq_true rfl⟩) rfl hl rfl (Nat.le_of_ble_eq_true rfl) ⟨by show cells + 1 + 0 ≤ 1096; omega, by show slots + 6 + 0 ≤ 9967; omega⟩ dL_law_925 (fun r T1 H locs hp hR => ?_)
  obtain ⟨hr1, hs1⟩ := hp
  subst r
  subst T1
  refine lv_istore (lv' := [(6, .int (nI (0))), (5, .int (nI (1))), (0, .ref (b)), (1, .ref (adx 0)), (2, .ref (adm 0)), (3, .ref (oo)), (4, .int (nI (i)))]) hx hb dL_law_928 hl (by decide) rfl (fun ls hl => ?_)
  refine lv_aload_n hx hb dL_law_930 rfl (lv_at hl 4 rfl) ?_
  refine z_lM_i (As := []) (rest := []) ⟨hx, hb, hml, hown, hts⟩ X0 hR (c_X5_thrown X0.2.2.2.1 (zth M 1)) (cwV 0 hts gL_law_X5_thrown rfl rfl rfl (by decide +kernel) ⟨Nat.le_of_ble_eq_true rfl, Nat.le_of_ble_eq_true rfl⟩) rfl hl rfl (Nat.le_of_ble_eq_true rfl) ⟨by show cells + 1 + 0 ≤ 1096; omega, by show slots + 6 + 0 ≤ 9967; omega⟩ dL_law_931 (fun r M1 H locs hp hR => ?_)
  obtain ⟨hr1, hs1⟩ := hp
  subst M1
  obtain rfl : r = nI 1 := hr1.trans (th_4 _ _)
  refine lv_iload hx hb dL_law_934 (lv_at hl 1 rfl) ?_
  refine z_eq_n (tgt := 941) hx hb dL_law_936 (by decide) (by decide) (by decide) (fun _ => ?_) (fun h => absurd rfl h)
  refine lv_iload hx hb dL_law_941 (lv_at hl 1 rfl) ?_
  refine z_if_ne_n (tgt := 958) hx hb dL_law_943 (by decide) (by decide) (fun _ => ?_) (fun h => absurd h (by decide))
  refine lv_goto (tgt := 1903) hx hb dL_law_958 (by decide) ?_
  exact K _ _ _ _ hR (lv_sub hl [2, 3, 4, 5, 6] rfl)
set_option maxHeartbeats 4000000 in
set_option maxRecDepth 100000 in
theorem lw_queued_ok {pg : Program} {l : Launch} {e : Env} {s : State} {m : MethodId} {below : List Frame} {meth : Method} {c : Code} {b L : Nat} {xs : Nat → Int32} {D : va_G} {cI cZ cJ : ClassId} {adx adm : Nat → Nat} {oo : Nat} {Bx Bm : Nat → Prop} (C0 : lw_At pg s m meth c b L xs) (hfl : l.stackTraces = false) (X0 : zLC D cI cZ cJ adx adm oo Bx Bm s) (S M : zS) (g : Nat → Int64) (i : Nat) (p : Nat) (w : Nat) (hO : zOK S) (hOM : zOK M) (hp : p < 4) (hw : w < zn S 22 0) (hp_m : p < 4) (hw_m : w < zn M 22 0) (hres : (nI (zn S 7 (4 * p + w))) = (nI (zn (zth M 0) 7 (4 * p + w)))) (ha1 : xs (i + 1) = (nI (p))) (ha2 : xs (i + 2) = (nI (w))) (hi : i + 4 ≤ L) (hL : L ≤ 2048) {H : Heap} {locs : List Loc} {cells slots : Nat} {ls : Array Slot} (hcc : cells + 1 ≤ 1096) (hss : slots + 6 ≤ 9967) (hR : zL D cI cZ cJ adx adm oo s H locs S M g) (hl : lv_has ls 7 [(0, .ref (b)), (1, .ref (adx 0)), (2, .ref (adm 0)), (3, .ref (oo)), (4, .int (nI (i)))]) (K : ∀ (g1 : Nat → Int64) (H1 : Heap) (locs1 : List Loc) (ls1 : Array Slot), zL D cI cZ cJ adx adm oo s H1 locs1 (S) (zth M 0) g1 → lv_has ls1 7 [(0, .ref (b)), (1, .ref (adx 0)), (2, .ref (adm 0)), (3, .ref (oo)), (4, .int (nI (i)))] → W pg l e room_1 s m #[Value.ref b] below meth c H1 locs1 (cells + 1) (slots + 6) (lw_Z below #[Value.ref b] s) (F0 m 1903 ls1 [])) : W pg l e room_1 s m #[Value.ref b] below meth c H locs cells slots (lw_Z below #[Value.ref b] s) (F0 m 893 ls []) := by
  obtain ⟨hx, hb, hr, hml, hown, hts, hX, hbl, hlocks, hgv⟩ := C0
  have hts := fun w h => hts w (wsL_law_in w h)
  have hown : s.vm.findClass RL = some m.cls := hown
  have hb : c.code = cL_law := hb
  refine lv_aload_n hx hb dL_law_893 rfl (lv_at hl 1 rfl) ?_
  refine lv_aload_n hx hb dL_law_894 rfl (lv_at hl 0 rfl) ?_
  refine lv_iload hx hb dL_law_895 (lv_at hl 4 rfl) ?_
  refine lv_iconst (v := (nI 1)) hx hb dL_law_897 (by decide) ?_
  refine z_iadd_n hx hb dL_law_898 ?_
  refine z_sld_n hx hb hX hbl hR dL_law_899 (by omega) hL ha1 ?_
  refine lv_aload_n hx hb dL_law_900 rfl (lv_at hl 0 rfl) ?_
  refine lv_iload hx hb dL_law_901 (lv_at hl 4 rfl) ?_
  refine lv_iconst (v := (nI 2)) hx hb dL_law_903 (by decide) ?_
  refine z_iadd_n hx hb dL_law_904 ?_
  refine z_sld_n hx hb hX hbl hR dL_law_905 (by omega) hL ha2 ?_
  refine lv_aload_n hx hb dL_law_906 rfl (lv_at hl 3 rfl) ?_
  refine z_lW (As := [.ref (adx 0), .int (nI (p)), .int (nI (w)), .ref (oo)]) (rest := []) ⟨hx, hb, hml, hown, hts⟩ X0 hR (o_queued_ok X0.2.2.1 X0.2.2.2.2.1 hfl S g p w hO hp hw) (vx_cwSW 4 hts gL_law_L_queued rfl rfl rfl (by decide +kernel) ⟨Nat.le_of_ble_eq_true rfl, Nat.le_of_ble_eq_true rfl⟩) rfl hl rfl (Nat.le_of_ble_eq_true rfl) ⟨hcc, hss⟩ dL_law_907 (fun r S1 g1 H locs hp hR => ?_)
  obtain ⟨hr1, hs1, hg⟩ := hp
  subst r
  have hs1 : S1 = S := hs1
  subst S1
  refine lv_istore (lv' := [(5, .int (nI (0))), (0, .ref (b)), (1, .ref (adx 0)), (2, .ref (adm 0)), (3, .ref (oo)), (4, .int (nI (i)))]) hx hb dL_law_910 hl (by decide) rfl (fun ls hl => ?_)
  refine lv_aload_n hx hb dL_law_912 rfl (lv_at hl 3 rfl) ?_
  refine lv_aload_n hx hb dL_law_913 rfl (lv_at hl 1 rfl) ?_
  refine lv_iload hx hb dL_law_914 (lv_at hl 5 rfl) ?_
  refine lv_iconst (v := (nI 1)) hx hb dL_law_916 (by decide) ?_
  refine z_iadd_n hx hb dL_law_917 ?_
  refine z_sld_n hx hb hX hbl hR dL_law_918 (by omega) hL ha1 ?_
  refine lv_aload_n hx hb dL_law_919 rfl (lv_at hl 1 rfl) ?_
  refine lv_iload hx hb dL_law_920 (lv_at hl 5 rfl) ?_
  refine lv_iconst (v := (nI 2)) hx hb dL_law_922 (by decide) ?_
  refine z_iadd_n hx hb dL_law_923 ?_
  refine z_sld_n hx hb hX hbl hR dL_law_924 (by omega) hL ha2 ?_
  refine z_lM_i (As := [.int (nI (p)), .int (nI (w))]) (rest := []) ⟨hx, hb, hml, hown, hts⟩ X0 hR (c_X5_queued_ok X0.2.2.2.1 M p w hOM hp_m hw_m) (cwV 2 hts gL_law_X5_queued rfl rfl rfl (by decide +kernel) ⟨Nat.le_of_ble_eq_true rfl, Nat.le_of_ble_eq_true rfl⟩) rfl hl rfl (Nat.le_of_ble_eq_true rfl) ⟨by show cells + 1 + 0 ≤ 1096; omega, by show slots + 6 + 0 ≤ 9967; omega⟩ dL_law_925 (fun r T1 H locs hp hR => ?_)
  obtain ⟨hr1, hs1⟩ := hp
  subst r
  subst T1
  refine lv_istore (lv' := [(6, .int (nI (zn (zth M 0) 7 (4 * p + w)))), (5, .int (nI (0))), (0, .ref (b)), (1, .ref (adx 0)), (2, .ref (adm 0)), (3, .ref (oo)), (4, .int (nI (i)))]) hx hb dL_law_928 hl (by decide) rfl (fun ls hl => ?_)
  refine lv_aload_n hx hb dL_law_930 rfl (lv_at hl 4 rfl) ?_
  refine z_lM_i (As := []) (rest := []) ⟨hx, hb, hml, hown, hts⟩ X0 hR (c_X5_thrown X0.2.2.2.1 (zth M 0)) (cwV 0 hts gL_law_X5_thrown rfl rfl rfl (by decide +kernel) ⟨Nat.le_of_ble_eq_true rfl, Nat.le_of_ble_eq_true rfl⟩) rfl hl rfl (Nat.le_of_ble_eq_true rfl) ⟨by show cells + 1 + 0 ≤ 1096; omega, by show slots + 6 + 0 ≤ 9967; omega⟩ dL_law_931 (fun r M1 H locs hp hR => ?_)
  obtain ⟨hr1, hs1⟩ := hp
  subst M1
  obtain rfl : r = nI 0 := hr1.trans (th_4 _ _)
  refine lv_iload hx hb dL_law_934 (lv_at hl 1 rfl) ?_
  refine z_eq_n (tgt := 941) hx hb dL_law_936 (by decide) (by decide) (by decide) (fun _ => ?_) (fun h => absurd rfl h)
  refine lv_iload hx hb dL_law_941 (lv_at hl 1 rfl) ?_
  refine z_if_ne_n (tgt := 958) hx hb dL_law_943 (by decide) (by decide) (fun h => absurd h (by decide)) (fun _ => ?_)
  refine lv_aload_n hx hb dL_law_946 rfl (lv_at hl 5 rfl) ?_
  refine lv_iconst (v := (nI 0)) hx hb dL_law_947 (by decide) ?_
  refine z_l_lald hx hb X0 hR dL_law_948 ?_
  refine lv_iload hx hb dL_law_949 (lv_at hl 0 rfl) ?_
  refine lv_i2l (v := ((nI (zn (zth M 0) 7 (4 * p + w)))).toInt64) hx hb dL_law_951 rfl ?_
  refine W.lcmp hx hb dL_law_952 ?_
  refine lv_topi (fun v9 ev9 => ?_)
  obtain rfl : v9 = nI 0 := ev9.trans (z_cmp_eq (hg.trans (congrArg Int32.toInt64 hres)))
  refine z_if_eq_n (tgt := 958) hx hb dL_law_953 (by decide) (by decide) (fun _ => ?_) (fun h => absurd h (by decide))
  refine lv_goto (tgt := 1903) hx hb dL_law_958 (by decide) ?_
  exact K _ _ _ _ hR (lv_sub hl [2, 3, 4, 5, 6] rfl)
set_option maxHeartbeats 4000000 in
set_option maxRecDepth 100000 in
theorem lw_itemAt_e1 {pg : Program} {l : Launch} {e : Env} {s : State} {m : MethodId} {below : List Frame} {meth : Method} {c : Code} {b L : Nat} {xs : Nat → Int32} {D : va_G} {cI cZ cJ : ClassId} {adx adm : Nat → Nat} {oo : Nat} {Bx Bm : Nat → Prop} (C0 : lw_At pg s m meth c b L xs) (hfl : l.stackTraces = false) (X0 : zLC D cI cZ cJ adx adm oo Bx Bm s) (S M : zS) (g : Nat → Int64) (i : Nat) (x : Int32) (y : Int32) (z : Int32) (hO : zOK S) (hOM : zOK M) (hxb : zbad x 4) (hxb_m : zbad x 4) (ha1 : xs (i + 1) = (x)) (ha2 : xs (i + 2) = (y)) (ha3 : xs (i + 3) = (z)) (hi : i + 4 ≤ L) (hL : L ≤ 2048) {H : Heap} {locs : List Loc} {cells slots : Nat} {ls : Array Slot} (hcc : cells + 1 ≤ 1096) (hss : slots + 6 ≤ 9967) (hR : zL D cI cZ cJ adx adm oo s H locs S M g) (hl : lv_has ls 7 [(0, .ref (b)), (1, .ref (adx 0)), (2, .ref (adm 0)), (3, .ref (oo)), (4, .int (nI (i)))]) (K : ∀ (g1 : Nat → Int64) (H1 : Heap) (locs1 : List Loc) (ls1 : Array Slot), zL D cI cZ cJ adx adm oo s H1 locs1 (S) (zth M 1) g1 → lv_has ls1 7 [(0, .ref (b)), (1, .ref (adx 0)), (2, .ref (adm 0)), (3, .ref (oo)), (4, .int (nI (i)))] → W pg l e room_1 s m #[Value.ref b] below meth c H1 locs1 (cells + 1) (slots + 6) (lw_Z below #[Value.ref b] s) (F0 m 1903 ls1 [])) : W pg l e room_1 s m #[Value.ref b] below meth c H locs cells slots (lw_Z below #[Value.ref b] s) (F0 m 961 ls []) := by
  obtain ⟨hx, hb, hr, hml, hown, hts, hX, hbl, hlocks, hgv⟩ := C0
  have hts := fun w h => hts w (wsL_law_in w h)
  have hown : s.vm.findClass RL = some m.cls := hown
  have hb : c.code = cL_law := hb
  refine lv_aload_n hx hb dL_law_961 rfl (lv_at hl 1 rfl) ?_
  refine lv_aload_n hx hb dL_law_962 rfl (lv_at hl 0 rfl) ?_
  refine lv_iload hx hb dL_law_963 (lv_at hl 4 rfl) ?_
  refine lv_iconst (v := (nI 1)) hx hb dL_law_965 (by decide) ?_
  refine z_iadd_n hx hb dL_law_966 ?_
  refine z_sld_n hx hb hX hbl hR dL_law_967 (by omega) hL ha1 ?_
  refine lv_aload_n hx hb dL_law_968 rfl (lv_at hl 0 rfl) ?_
  refine lv_iload hx hb dL_law_969 (lv_at hl 4 rfl) ?_
  refine lv_iconst (v := (nI 2)) hx hb dL_law_971 (by decide) ?_
  refine z_iadd_n hx hb dL_law_972 ?_
  refine z_sld_n hx hb hX hbl hR dL_law_973 (by omega) hL ha2 ?_
  refine lv_aload_n hx hb dL_law_974 rfl (lv_at hl 0 rfl) ?_
  refine lv_iload hx hb dL_law_975 (lv_at hl 4 rfl) ?_
  refine lv_iconst (v := (nI 3)) hx hb dL_law_977 (by decide) ?_
  refine z_iadd_n hx hb dL_law_978 ?_
  refine z_sld_n hx hb hX hbl hR dL_law_979 (by omega) hL ha3 ?_
  refine lv_aload_n hx hb dL_law_980 rfl (lv_at hl 3 rfl) ?_
  refine z_lW (As := [.ref (adx 0), .int (x), .int (y), .int (z), .ref (oo)]) (rest := []) ⟨hx, hb, hml, hown, hts⟩ X0 hR (o_itemAt_e1 X0.2.2.1 X0.2.2.2.2.1 hfl S g x y z hO hxb) (vx_cwSW 5 hts gL_law_L_itemAt rfl rfl rfl (by decide +kernel) ⟨Nat.le_of_ble_eq_true rfl, Nat.le_of_ble_eq_true rfl⟩) rfl hl rfl (Nat.le_of_ble_eq_true rfl) ⟨hcc, hss⟩ dL_law_981 (fun r S1 g1 H locs hp hR => ?_)
  obtain ⟨hr1, hs1⟩ := hp
  subst r
  have hs1 : S1 = S := hs1
  subst S1
  refine lv_istore (lv' := [(5, .int (nI (1))), (0, .ref (b)), (1, .ref (adx 0)), (2, .ref (adm 0)), (3, .ref (oo)), (4, .int (nI (i)))]) hx hb dL_law_984 hl (by decide) rfl (fun ls hl => ?_)
  refine lv_aload_n hx hb dL_law_986 rfl (lv_at hl 3 rfl) ?_
  refine lv_aload_n hx hb dL_law_987 rfl (lv_at hl 1 rfl) ?_
  refine lv_iload hx hb dL_law_988 (lv_at hl 5 rfl) ?_
  refine lv_iconst (v := (nI 1)) hx hb dL_law_990 (by decide) ?_
  refine z_iadd_n hx hb dL_law_991 ?_
  refine z_sld_n hx hb hX hbl hR dL_law_992 (by omega) hL ha1 ?_
  refine lv_aload_n hx hb dL_law_993 rfl (lv_at hl 1 rfl) ?_
  refine lv_iload hx hb dL_law_994 (lv_at hl 5 rfl) ?_
  refine lv_iconst (v := (nI 2)) hx hb dL_law_996 (by decide) ?_
  refine z_iadd_n hx hb dL_law_997 ?_
  refine z_sld_n hx hb hX hbl hR dL_law_998 (by omega) hL ha2 ?_
  refine lv_aload_n hx hb dL_law_999 rfl (lv_at hl 1 rfl) ?_
  refine lv_iload hx hb dL_law_1000 (lv_at hl 5 rfl) ?_
  refine lv_iconst (v := (nI 3)) hx hb dL_law_1002 (by decide) ?_
  refine z_iadd_n hx hb dL_law_1003 ?_
  refine z_sld_n hx hb hX hbl hR dL_law_1004 (by omega) hL ha3 ?_
  refine z_lM_i (As := [.int (x), .int (y), .int (z)]) (rest := []) ⟨hx, hb, hml, hown, hts⟩ X0 hR (c_X5_itemAt_e1 X0.2.2.2.1 M x y z hOM hxb_m) (cwV 3 hts gL_law_X5_itemAt rfl rfl rfl (by decide +kernel) ⟨Nat.le_of_ble_eq_true rfl, Nat.le_of_ble_eq_true rfl⟩) rfl hl rfl (Nat.le_of_ble_eq_true rfl) ⟨by show cells + 1 + 0 ≤ 1096; omega, by show slots + 6 + 0 ≤ 9967; omega⟩ dL_law_1005 (fun r T1 H locs hp hR => ?_)
  obtain ⟨hr1, hs1⟩ := hp
  subst r
  subst T1
  refine lv_istore (lv' := [(6, .int (nI (0))), (5, .int (nI (1))), (0, .ref (b)), (1, .ref (adx 0)), (2, .ref (adm 0)), (3, .ref (oo)), (4, .int (nI (i)))]) hx hb dL_law_1008 hl (by decide) rfl (fun ls hl => ?_)
  refine lv_aload_n hx hb dL_law_1010 rfl (lv_at hl 4 rfl) ?_
  refine z_lM_i (As := []) (rest := []) ⟨hx, hb, hml, hown, hts⟩ X0 hR (c_X5_thrown X0.2.2.2.1 (zth M 1)) (cwV 0 hts gL_law_X5_thrown rfl rfl rfl (by decide +kernel) ⟨Nat.le_of_ble_eq_true rfl, Nat.le_of_ble_eq_true rfl⟩) rfl hl rfl (Nat.le_of_ble_eq_true rfl) ⟨by show cells + 1 + 0 ≤ 1096; omega, by show slots + 6 + 0 ≤ 9967; omega⟩ dL_law_1011 (fun r M1 H locs hp hR => ?_)
  obtain ⟨hr1, hs1⟩ := hp
  subst M1
  obtain rfl : r = nI 1 := hr1.trans (th_4 _ _)
  refine lv_iload hx hb dL_law_1014 (lv_at hl 1 rfl) ?_
  refine z_eq_n (tgt := 1021) hx hb dL_law_1016 (by decide) (by decide) (by decide) (fun _ => ?_) (fun h => absurd rfl h)
  refine lv_iload hx hb dL_law_1021 (lv_at hl 1 rfl) ?_
  refine z_if_ne_n (tgt := 1038) hx hb dL_law_1023 (by decide) (by decide) (fun _ => ?_) (fun h => absurd h (by decide))
  refine lv_goto (tgt := 1903) hx hb dL_law_1038 (by decide) ?_
  exact K _ _ _ _ hR (lv_sub hl [2, 3, 4, 5, 6] rfl)
set_option maxHeartbeats 4000000 in
set_option maxRecDepth 100000 in
theorem lw_itemAt_e2 {pg : Program} {l : Launch} {e : Env} {s : State} {m : MethodId} {below : List Frame} {meth : Method} {c : Code} {b L : Nat} {xs : Nat → Int32} {D : va_G} {cI cZ cJ : ClassId} {adx adm : Nat → Nat} {oo : Nat} {Bx Bm : Nat → Prop} (C0 : lw_At pg s m meth c b L xs) (hfl : l.stackTraces = false) (X0 : zLC D cI cZ cJ adx adm oo Bx Bm s) (S M : zS) (g : Nat → Int64) (i : Nat) (p : Nat) (y : Int32) (z : Int32) (hO : zOK S) (hOM : zOK M) (hp : p < 4) (hxb : zbad y (zn S 22 0)) (hp_m : p < 4) (hxb_m : zbad y (zn M 22 0)) (ha1 : xs (i + 1) = (nI (p))) (ha2 : xs (i + 2) = (y)) (ha3 : xs (i + 3) = (z)) (hi : i + 4 ≤ L) (hL : L ≤ 2048) {H : Heap} {locs : List Loc} {cells slots : Nat} {ls : Array Slot} (hcc : cells + 1 ≤ 1096) (hss : slots + 6 ≤ 9967) (hR : zL D cI cZ cJ adx adm oo s H locs S M g) (hl : lv_has ls 7 [(0, .ref (b)), (1, .ref (adx 0)), (2, .ref (adm 0)), (3, .ref (oo)), (4, .int (nI (i)))]) (K : ∀ (g1 : Nat → Int64) (H1 : Heap) (locs1 : List Loc) (ls1 : Array Slot), zL D cI cZ cJ adx adm oo s H1 locs1 (S) (zth M 1) g1 → lv_has ls1 7 [(0, .ref (b)), (1, .ref (adx 0)), (2, .ref (adm 0)), (3, .ref (oo)), (4, .int (nI (i)))] → W pg l e room_1 s m #[Value.ref b] below meth c H1 locs1 (cells + 1) (slots + 6) (lw_Z below #[Value.ref b] s) (F0 m 1903 ls1 [])) : W pg l e room_1 s m #[Value.ref b] below meth c H locs cells slots (lw_Z below #[Value.ref b] s) (F0 m 961 ls []) := by
  obtain ⟨hx, hb, hr, hml, hown, hts, hX, hbl, hlocks, hgv⟩ := C0
  have hts := fun w h => hts w (wsL_law_in w h)
  have hown : s.vm.findClass RL = some m.cls := hown
  have hb : c.code = cL_law := hb
  refine lv_aload_n hx hb dL_law_961 rfl (lv_at hl 1 rfl) ?_
  refine lv_aload_n hx hb dL_law_962 rfl (lv_at hl 0 rfl) ?_
  refine lv_iload hx hb dL_law_963 (lv_at hl 4 rfl) ?_
  refine lv_iconst (v := (nI 1)) hx hb dL_law_965 (by decide) ?_
  refine z_iadd_n hx hb dL_law_966 ?_
  refine z_sld_n hx hb hX hbl hR dL_law_967 (by omega) hL ha1 ?_
  refine lv_aload_n hx hb dL_law_968 rfl (lv_at hl 0 rfl) ?_
  refine lv_iload hx hb dL_law_969 (lv_at hl 4 rfl) ?_
  refine lv_iconst (v := (nI 2)) hx hb dL_law_971 (by decide) ?_
  refine z_iadd_n hx hb dL_law_972 ?_
  refine z_sld_n hx hb hX hbl hR dL_law_973 (by omega) hL ha2 ?_
  refine lv_aload_n hx hb dL_law_974 rfl (lv_at hl 0 rfl) ?_
  refine lv_iload hx hb dL_law_975 (lv_at hl 4 rfl) ?_
  refine lv_iconst (v := (nI 3)) hx hb dL_law_977 (by decide) ?_
  refine z_iadd_n hx hb dL_law_978 ?_
  refine z_sld_n hx hb hX hbl hR dL_law_979 (by omega) hL ha3 ?_
  refine lv_aload_n hx hb dL_law_980 rfl (lv_at hl 3 rfl) ?_
  refine z_lW (As := [.ref (adx 0), .int (nI (p)), .int (y), .int (z), .ref (oo)]) (rest := []) ⟨hx, hb, hml, hown, hts⟩ X0 hR (o_itemAt_e2 X0.2.2.1 X0.2.2.2.2.1 hfl S g p y z hO hp hxb) (vx_cwSW 5 hts gL_law_L_itemAt rfl rfl rfl (by decide +kernel) ⟨Nat.le_of_ble_eq_true rfl, Nat.le_of_ble_eq_true rfl⟩) rfl hl rfl (Nat.le_of_ble_eq_true rfl) ⟨hcc, hss⟩ dL_law_981 (fun r S1 g1 H locs hp hR => ?_)
  obtain ⟨hr1, hs1⟩ := hp
  subst r
  have hs1 : S1 = S := hs1
  subst S1
  refine lv_istore (lv' := [(5, .int (nI (1))), (0, .ref (b)), (1, .ref (adx 0)), (2, .ref (adm 0)), (3, .ref (oo)), (4, .int (nI (i)))]) hx hb dL_law_984 hl (by decide) rfl (fun ls hl => ?_)
  refine lv_aload_n hx hb dL_law_986 rfl (lv_at hl 3 rfl) ?_
  refine lv_aload_n hx hb dL_law_987 rfl (lv_at hl 1 rfl) ?_
  refine lv_iload hx hb dL_law_988 (lv_at hl 5 rfl) ?_
  refine lv_iconst (v := (nI 1)) hx hb dL_law_990 (by decide) ?_
  refine z_iadd_n hx hb dL_law_991 ?_
  refine z_sld_n hx hb hX hbl hR dL_law_992 (by omega) hL ha1 ?_
  refine lv_aload_n hx hb dL_law_993 rfl (lv_at hl 1 rfl) ?_
  refine lv_iload hx hb dL_law_994 (lv_at hl 5 rfl) ?_
  refine lv_iconst (v := (nI 2)) hx hb dL_law_996 (by decide) ?_
  refine z_iadd_n hx hb dL_law_997 ?_
  refine z_sld_n hx hb hX hbl hR dL_law_998 (by omega) hL ha2 ?_
  refine lv_aload_n hx hb dL_law_999 rfl (lv_at hl 1 rfl) ?_
  refine lv_iload hx hb dL_law_1000 (lv_at hl 5 rfl) ?_
  refine lv_iconst (v := (nI 3)) hx hb dL_law_1002 (by decide) ?_
  refine z_iadd_n hx hb dL_law_1003 ?_
  refine z_sld_n hx hb hX hbl hR dL_law_1004 (by omega) hL ha3 ?_
  refine z_lM_i (As := [.int (nI (p)), .int (y), .int (z)]) (rest := []) ⟨hx, hb, hml, hown, hts⟩ X0 hR (c_X5_itemAt_e2 X0.2.2.2.1 M p y z hOM hp_m hxb_m) (cwV 3 hts gL_law_X5_itemAt rfl rfl rfl (by decide +kernel) ⟨Nat.le_of_ble_eq_true rfl, Nat.le_of_ble_eq_true rfl⟩) rfl hl rfl (Nat.le_of_ble_eq_true rfl) ⟨by show cells + 1 + 0 ≤ 1096; omega, by show slots + 6 + 0 ≤ 9967; omega⟩ dL_law_1005 (fun r T1 H locs hp hR => ?_)
  obtain ⟨hr1, hs1⟩ := hp
  subst r
  subst T1
  refine lv_istore (lv' := [(6, .int (nI (0))), (5, .int (nI (1))), (0, .ref (b)), (1, .ref (adx 0)), (2, .ref (adm 0)), (3, .ref (oo)), (4, .int (nI (i)))]) hx hb dL_law_1008 hl (by decide) rfl (fun ls hl => ?_)
  refine lv_aload_n hx hb dL_law_1010 rfl (lv_at hl 4 rfl) ?_
  refine z_lM_i (As := []) (rest := []) ⟨hx, hb, hml, hown, hts⟩ X0 hR (c_X5_thrown X0.2.2.2.1 (zth M 1)) (cwV 0 hts gL_law_X5_thrown rfl rfl rfl (by decide +kernel) ⟨Nat.le_of_ble_eq_true rfl, Nat.le_of_ble_eq_true rfl⟩) rfl hl rfl (Nat.le_of_ble_eq_true rfl) ⟨by show cells + 1 + 0 ≤ 1096; omega, by show slots + 6 + 0 ≤ 9967; omega⟩ dL_law_1011 (fun r M1 H locs hp hR => ?_)
  obtain ⟨hr1, hs1⟩ := hp
  subst M1
  obtain rfl : r = nI 1 := hr1.trans (th_4 _ _)
  refine lv_iload hx hb dL_law_1014 (lv_at hl 1 rfl) ?_
  refine z_eq_n (tgt := 1021) hx hb dL_law_1016 (by decide) (by decide) (by decide) (fun _ => ?_) (fun h => absurd rfl h)
  refine lv_iload hx hb dL_law_1021 (lv_at hl 1 rfl) ?_
  refine z_if_ne_n (tgt := 1038) hx hb dL_law_1023 (by decide) (by decide) (fun _ => ?_) (fun h => absurd h (by decide))
  refine lv_goto (tgt := 1903) hx hb dL_law_1038 (by decide) ?_
  exact K _ _ _ _ hR (lv_sub hl [2, 3, 4, 5, 6] rfl)
set_option maxHeartbeats 4000000 in
set_option maxRecDepth 100000 in
theorem lw_itemAt_e3 {pg : Program} {l : Launch} {e : Env} {s : State} {m : MethodId} {below : List Frame} {meth : Method} {c : Code} {b L : Nat} {xs : Nat → Int32} {D : va_G} {cI cZ cJ : ClassId} {adx adm : Nat → Nat} {oo : Nat} {Bx Bm : Nat → Prop} (C0 : lw_At pg s m meth c b L xs) (hfl : l.stackTraces = false) (X0 : zLC D cI cZ cJ adx adm oo Bx Bm s) (S M : zS) (g : Nat → Int64) (i : Nat) (p : Nat) (w : Nat) (z : Int32) (hO : zOK S) (hOM : zOK M) (hp : p < 4) (hw : w < zn S 22 0) (hxb : zbad z (zn S 7 (4 * p + w))) (hp_m : p < 4) (hw_m : w < zn M 22 0) (hx9_m : zbad z (zn M 7 (4 * p + w))) (ha1 : xs (i + 1) = (nI (p))) (ha2 : xs (i + 2) = (nI (w))) (ha3 : xs (i + 3) = (z)) (hi : i + 4 ≤ L) (hL : L ≤ 2048) {H : Heap} {locs : List Loc} {cells slots : Nat} {ls : Array Slot} (hcc : cells + 1 ≤ 1096) (hss : slots + 6 ≤ 9967) (hR : zL D cI cZ cJ adx adm oo s H locs S M g) (hl : lv_has ls 7 [(0, .ref (b)), (1, .ref (adx 0)), (2, .ref (adm 0)), (3, .ref (oo)), (4, .int (nI (i)))]) (K : ∀ (g1 : Nat → Int64) (H1 : Heap) (locs1 : List Loc) (ls1 : Array Slot), zL D cI cZ cJ adx adm oo s H1 locs1 (S) (zth M 1) g1 → lv_has ls1 7 [(0, .ref (b)), (1, .ref (adx 0)), (2, .ref (adm 0)), (3, .ref (oo)), (4, .int (nI (i)))] → W pg l e room_1 s m #[Value.ref b] below meth c H1 locs1 (cells + 1) (slots + 6) (lw_Z below #[Value.ref b] s) (F0 m 1903 ls1 [])) : W pg l e room_1 s m #[Value.ref b] below meth c H locs cells slots (lw_Z below #[Value.ref b] s) (F0 m 961 ls []) := by
  obtain ⟨hx, hb, hr, hml, hown, hts, hX, hbl, hlocks, hgv⟩ := C0
  have hts := fun w h => hts w (wsL_law_in w h)
  have hown : s.vm.findClass RL = some m.cls := hown
  have hb : c.code = cL_law := hb
  refine lv_aload_n hx hb dL_law_961 rfl (lv_at hl 1 rfl) ?_
  refine lv_aload_n hx hb dL_law_962 rfl (lv_at hl 0 rfl) ?_
  refine lv_iload hx hb dL_law_963 (lv_at hl 4 rfl) ?_
  refine lv_iconst (v := (nI 1)) hx hb dL_law_965 (by decide) ?_
  refine z_iadd_n hx hb dL_law_966 ?_
  refine z_sld_n hx hb hX hbl hR dL_law_967 (by omega) hL ha1 ?_
  refine lv_aload_n hx hb dL_law_968 rfl (lv_at hl 0 rfl) ?_
  refine lv_iload hx hb dL_law_969 (lv_at hl 4 rfl) ?_
  refine lv_iconst (v := (nI 2)) hx hb dL_law_971 (by decide) ?_
  refine z_iadd_n hx hb dL_law_972 ?_
  refine z_sld_n hx hb hX hbl hR dL_law_973 (by omega) hL ha2 ?_
  refine lv_aload_n hx hb dL_law_974 rfl (lv_at hl 0 rfl) ?_
  refine lv_iload hx hb dL_law_975 (lv_at hl 4 rfl) ?_
  refine lv_iconst (v := (nI 3)) hx hb dL_law_977 (by decide) ?_
  refine z_iadd_n hx hb dL_law_978 ?_
  refine z_sld_n hx hb hX hbl hR dL_law_979 (by omega) hL ha3 ?_
  refine lv_aload_n hx hb dL_law_980 rfl (lv_at hl 3 rfl) ?_
  refine z_lW (As := [.ref (adx 0), .int (nI (p)), .int (nI (w)), .int (z), .ref (oo)]) (rest := []) ⟨hx, hb, hml, hown, hts⟩ X0 hR (o_itemAt_e3 X0.2.2.1 X0.2.2.2.2.1 hfl S g p w z hO hp hw hxb) (vx_cwSW 5 hts gL_law_L_itemAt rfl rfl rfl (by decide +kernel) ⟨Nat.le_of_ble_eq_true rfl, Nat.le_of_ble_eq_true rfl⟩) rfl hl rfl (Nat.le_of_ble_eq_true rfl) ⟨hcc, hss⟩ dL_law_981 (fun r S1 g1 H locs hp hR => ?_)
  obtain ⟨hr1, hs1⟩ := hp
  subst r
  have hs1 : S1 = S := hs1
  subst S1
  refine lv_istore (lv' := [(5, .int (nI (1))), (0, .ref (b)), (1, .ref (adx 0)), (2, .ref (adm 0)), (3, .ref (oo)), (4, .int (nI (i)))]) hx hb dL_law_984 hl (by decide) rfl (fun ls hl => ?_)
  refine lv_aload_n hx hb dL_law_986 rfl (lv_at hl 3 rfl) ?_
  refine lv_aload_n hx hb dL_law_987 rfl (lv_at hl 1 rfl) ?_
  refine lv_iload hx hb dL_law_988 (lv_at hl 5 rfl) ?_
  refine lv_iconst (v := (nI 1)) hx hb dL_law_990 (by decide) ?_
  refine z_iadd_n hx hb dL_law_991 ?_
  refine z_sld_n hx hb hX hbl hR dL_law_992 (by omega) hL ha1 ?_
  refine lv_aload_n hx hb dL_law_993 rfl (lv_at hl 1 rfl) ?_
  refine lv_iload hx hb dL_law_994 (lv_at hl 5 rfl) ?_
  refine lv_iconst (v := (nI 2)) hx hb dL_law_996 (by decide) ?_
  refine z_iadd_n hx hb dL_law_997 ?_
  refine z_sld_n hx hb hX hbl hR dL_law_998 (by omega) hL ha2 ?_
  refine lv_aload_n hx hb dL_law_999 rfl (lv_at hl 1 rfl) ?_
  refine lv_iload hx hb dL_law_1000 (lv_at hl 5 rfl) ?_
  refine lv_iconst (v := (nI 3)) hx hb dL_law_1002 (by decide) ?_
  refine z_iadd_n hx hb dL_law_1003 ?_
  refine z_sld_n hx hb hX hbl hR dL_law_1004 (by omega) hL ha3 ?_
  refine z_lM_i (As := [.int (nI (p)), .int (nI (w)), .int (z)]) (rest := []) ⟨hx, hb, hml, hown, hts⟩ X0 hR (c_X5_itemAt_e3 X0.2.2.2.1 M p w z hOM hp_m hw_m hx9_m) (cwV 3 hts gL_law_X5_itemAt rfl rfl rfl (by decide +kernel) ⟨Nat.le_of_ble_eq_true rfl, Nat.le_of_ble_eq_true rfl⟩) rfl hl rfl (Nat.le_of_ble_eq_true rfl) ⟨by show cells + 1 + 0 ≤ 1096; omega, by show slots + 6 + 0 ≤ 9967; omega⟩ dL_law_1005 (fun r T1 H locs hp hR => ?_)
  obtain ⟨hr1, hs1⟩ := hp
  subst r
  subst T1
  refine lv_istore (lv' := [(6, .int (nI (0))), (5, .int (nI (1))), (0, .ref (b)), (1, .ref (adx 0)), (2, .ref (adm 0)), (3, .ref (oo)), (4, .int (nI (i)))]) hx hb dL_law_1008 hl (by decide) rfl (fun ls hl => ?_)
  refine lv_aload_n hx hb dL_law_1010 rfl (lv_at hl 4 rfl) ?_
  refine z_lM_i (As := []) (rest := []) ⟨hx, hb, hml, hown, hts⟩ X0 hR (c_X5_thrown X0.2.2.2.1 (zth M 1)) (cwV 0 hts gL_law_X5_thrown rfl rfl rfl (by decide +kernel) ⟨Nat.le_of_ble_eq_true rfl, Nat.le_of_ble_eq_true rfl⟩) rfl hl rfl (Nat.le_of_ble_eq_true rfl) ⟨by show cells + 1 + 0 ≤ 1096; omega, by show slots + 6 + 0 ≤ 9967; omega⟩ dL_law_1011 (fun r M1 H locs hp hR => ?_)
  obtain ⟨hr1, hs1⟩ := hp
  subst M1
  obtain rfl : r = nI 1 := hr1.trans (th_4 _ _)
  refine lv_iload hx hb dL_law_1014 (lv_at hl 1 rfl) ?_
  refine z_eq_n (tgt := 1021) hx hb dL_law_1016 (by decide) (by decide) (by decide) (fun _ => ?_) (fun h => absurd rfl h)
  refine lv_iload hx hb dL_law_1021 (lv_at hl 1 rfl) ?_
  refine z_if_ne_n (tgt := 1038) hx hb dL_law_1023 (by decide) (by decide) (fun _ => ?_) (fun h => absurd h (by decide))
  refine lv_goto (tgt := 1903) hx hb dL_law_1038 (by decide) ?_
  exact K _ _ _ _ hR (lv_sub hl [2, 3, 4, 5, 6] rfl)
set_option maxHeartbeats 4000000 in
set_option maxRecDepth 100000 in
theorem lw_itemAt_ok {pg : Program} {l : Launch} {e : Env} {s : State} {m : MethodId} {below : List Frame} {meth : Method} {c : Code} {b L : Nat} {xs : Nat → Int32} {D : va_G} {cI cZ cJ : ClassId} {adx adm : Nat → Nat} {oo : Nat} {Bx Bm : Nat → Prop} (C0 : lw_At pg s m meth c b L xs) (hfl : l.stackTraces = false) (X0 : zLC D cI cZ cJ adx adm oo Bx Bm s) (S M : zS) (g : Nat → Int64) (i : Nat) (p : Nat) (w : Nat) (o : Nat) (hO : zOK S) (hOM : zOK M) (hp : p < 4) (hw : w < zn S 22 0) (ho : o < zn S 7 (4 * p + w)) (hp_m : p < 4) (hw_m : w < zn M 22 0) (ho_m : o < zn M 7 (4 * p + w)) (hres : (S 6 (8 * (4 * p + w) + o)) = ((zth M 0) 6 (8 * (4 * p + w) + o))) (ha1 : xs (i + 1) = (nI (p))) (ha2 : xs (i + 2) = (nI (w))) (ha3 : xs (i + 3) = (nI (o))) (hi : i + 4 ≤ L) (hL : L ≤ 2048) {H : Heap} {locs : List Loc} {cells slots : Nat} {ls : Array Slot} (hcc : cells + 1 ≤ 1096) (hss : slots + 6 ≤ 9967) (hR : zL D cI cZ cJ adx adm oo s H locs S M g) (hl : lv_has ls 7 [(0, .ref (b)), (1, .ref (adx 0)), (2, .ref (adm 0)), (3, .ref (oo)), (4, .int (nI (i)))]) (K : ∀ (g1 : Nat → Int64) (H1 : Heap) (locs1 : List Loc) (ls1 : Array Slot), zL D cI cZ cJ adx adm oo s H1 locs1 (S) (zth M 0) g1 → lv_has ls1 7 [(0, .ref (b)), (1, .ref (adx 0)), (2, .ref (adm 0)), (3, .ref (oo)), (4, .int (nI (i)))] → W pg l e room_1 s m #[Value.ref b] below meth c H1 locs1 (cells + 1) (slots + 6) (lw_Z below #[Value.ref b] s) (F0 m 1903 ls1 [])) : W pg l e room_1 s m #[Value.ref b] below meth c H locs cells slots (lw_Z below #[Value.ref b] s) (F0 m 961 ls []) := by
  obtain ⟨hx, hb, hr, hml, hown, hts, hX, hbl, hlocks, hgv⟩ := C0
  have hts := fun w h => hts w (wsL_law_in w h)
  have hown : s.vm.findClass RL = some m.cls := hown
  have hb : c.code = cL_law := hb
  refine lv_aload_n hx hb dL_law_961 rfl (lv_at hl 1 rfl) ?_
  refine lv_aload_n hx hb dL_law_962 rfl (lv_at hl 0 rfl) ?_
  refine lv_iload hx hb dL_law_963 (lv_at hl 4 rfl) ?_
  refine lv_iconst (v := (nI 1)) hx hb dL_law_965 (by decide) ?_
  refine z_iadd_n hx hb dL_law_966 ?_
  refine z_sld_n hx hb hX hbl hR dL_law_967 (by omega) hL ha1 ?_
  refine lv_aload_n hx hb dL_law_968 rfl (lv_at hl 0 rfl) ?_
  refine lv_iload hx hb dL_law_969 (lv_at hl 4 rfl) ?_
  refine lv_iconst (v := (nI 2)) hx hb dL_law_971 (by decide) ?_
  refine z_iadd_n hx hb dL_law_972 ?_
  refine z_sld_n hx hb hX hbl hR dL_law_973 (by omega) hL ha2 ?_
  refine lv_aload_n hx hb dL_law_974 rfl (lv_at hl 0 rfl) ?_
  refine lv_iload hx hb dL_law_975 (lv_at hl 4 rfl) ?_
  refine lv_iconst (v := (nI 3)) hx hb dL_law_977 (by decide) ?_
  refine z_iadd_n hx hb dL_law_978 ?_
  refine z_sld_n hx hb hX hbl hR dL_law_979 (by omega) hL ha3 ?_
  refine lv_aload_n hx hb dL_law_980 rfl (lv_at hl 3 rfl) ?_
  refine z_lW (As := [.ref (adx 0), .int (nI (p)), .int (nI (w)), .int (nI (o)), .ref (oo)]) (rest := []) ⟨hx, hb, hml, hown, hts⟩ X0 hR (o_itemAt_ok X0.2.2.1 X0.2.2.2.2.1 hfl S g p w o hO hp hw ho) (vx_cwSW 5 hts gL_law_L_itemAt rfl rfl rfl (by decide +kernel) ⟨Nat.le_of_ble_eq_true rfl, Nat.le_of_ble_eq_true rfl⟩) rfl hl rfl (Nat.le_of_ble_eq_true rfl) ⟨hcc, hss⟩ dL_law_981 (fun r S1 g1 H locs hp hR => ?_)
  obtain ⟨hr1, hs1, hg⟩ := hp
  subst r
  have hs1 : S1 = S := hs1
  subst S1
  refine lv_istore (lv' := [(5, .int (nI (0))), (0, .ref (b)), (1, .ref (adx 0)), (2, .ref (adm 0)), (3, .ref (oo)), (4, .int (nI (i)))]) hx hb dL_law_984 hl (by decide) rfl (fun ls hl => ?_)
  refine lv_aload_n hx hb dL_law_986 rfl (lv_at hl 3 rfl) ?_
  refine lv_aload_n hx hb dL_law_987 rfl (lv_at hl 1 rfl) ?_
  refine lv_iload hx hb dL_law_988 (lv_at hl 5 rfl) ?_
  refine lv_iconst (v := (nI 1)) hx hb dL_law_990 (by decide) ?_
  refine z_iadd_n hx hb dL_law_991 ?_
  refine z_sld_n hx hb hX hbl hR dL_law_992 (by omega) hL ha1 ?_
  refine lv_aload_n hx hb dL_law_993 rfl (lv_at hl 1 rfl) ?_
  refine lv_iload hx hb dL_law_994 (lv_at hl 5 rfl) ?_
  refine lv_iconst (v := (nI 2)) hx hb dL_law_996 (by decide) ?_
  refine z_iadd_n hx hb dL_law_997 ?_
  refine z_sld_n hx hb hX hbl hR dL_law_998 (by omega) hL ha2 ?_
  refine lv_aload_n hx hb dL_law_999 rfl (lv_at hl 1 rfl) ?_
  refine lv_iload hx hb dL_law_1000 (lv_at hl 5 rfl) ?_
  refine lv_iconst (v := (nI 3)) hx hb dL_law_1002 (by decide) ?_
  refine z_iadd_n hx hb dL_law_1003 ?_
  refine z_sld_n hx hb hX hbl hR dL_law_1004 (by omega) hL ha3 ?_
  refine z_lM_i (As := [.int (nI (p)), .int (nI (w)), .int (nI (o))]) (rest := []) ⟨hx, hb, hml, hown, hts⟩ X0 hR (c_X5_itemAt_ok X0.2.2.2.1 M p w o hOM hp_m hw_m ho_m) (cwV 3 hts gL_law_X5_itemAt rfl rfl rfl (by decide +kernel) ⟨Nat.le_of_ble_eq_true rfl, Nat.le_of_ble_eq_true rfl⟩) rfl hl rfl (Nat.le_of_ble_eq_true rfl) ⟨by show cells + 1 + 0 ≤ 1096; omega, by show slots + 6 + 0 ≤ 9967; omega⟩ dL_law_1005 (fun r T1 H locs hp hR => ?_)
  obtain ⟨hr1, hs1⟩ := hp
  subst r
  subst T1
  refine lv_istore (lv' := [(6, .int ((zth M 0) 6 (8 * (4 * p + w) + o))), (5, .int (nI (0))), (0, .ref (b)), (1, .ref (adx 0)), (2, .ref (adm 0)), (3, .ref (oo)), (4, .int (nI (i)))]) hx hb dL_law_1008 hl (by decide) rfl (fun ls hl => ?_)
  refine lv_aload_n hx hb dL_law_1010 rfl (lv_at hl 4 rfl) ?_
  refine z_lM_i (As := []) (rest := []) ⟨hx, hb, hml, hown, hts⟩ X0 hR (c_X5_thrown X0.2.2.2.1 (zth M 0)) (cwV 0 hts gL_law_X5_thrown rfl rfl rfl (by decide +kernel) ⟨Nat.le_of_ble_eq_true rfl, Nat.le_of_ble_eq_true rfl⟩) rfl hl rfl (Nat.le_of_ble_eq_true rfl) ⟨by show cells + 1 + 0 ≤ 1096; omega, by show slots + 6 + 0 ≤ 9967; omega⟩ dL_law_1011 (fun r M1 H locs hp hR => ?_)
  obtain ⟨hr1, hs1⟩ := hp
  subst M1
  obtain rfl : r = nI 0 := hr1.trans (th_4 _ _)
  refine lv_iload hx hb dL_law_1014 (lv_at hl 1 rfl) ?_
  refine z_eq_n (tgt := 1021) hx hb dL_law_1016 (by decide) (by decide) (by decide) (fun _ => ?_) (fun h => absurd rfl h)
  refine lv_iload hx hb dL_law_1021 (lv_at hl 1 rfl) ?_
  refine z_if_ne_n (tgt := 1038) hx hb dL_law_1023 (by decide) (by decide) (fun h => absurd h (by decide)) (fun _ => ?_)
  refine lv_aload_n hx hb dL_law_1026 rfl (lv_at hl 5 rfl) ?_
  refine lv_iconst (v := (nI 0)) hx hb dL_law_1027 (by decide) ?_
  refine z_l_lald hx hb X0 hR dL_law_1028 ?_
  refine lv_iload hx hb dL_law_1029 (lv_at hl 0 rfl) ?_
  refine lv_i2l (v := (((zth M 0) 6 (8 * (4 * p + w) + o))).toInt64) hx hb dL_law_1031 rfl ?_
  refine W.lcmp hx hb dL_law_1032 ?_
  refine lv_topi (fun v9 ev9 => ?_)
  obtain rfl : v9 = nI 0 := ev9.trans (z_cmp_eq (hg.trans (congrArg Int32.toInt64 hres)))
  refine z_if_eq_n (tgt := 1038) hx hb dL_law_1033 (by decide) (by decide) (fun _ => ?_) (fun h => absurd h (by decide))
  refine lv_goto (tgt := 1903) hx hb dL_law_1038 (by decide) ?_
  exact K _ _ _ _ hR (lv_sub hl [2, 3, 4, 5, 6] rfl)
set_option maxHeartbeats 4000000 in
set_option maxRecDepth 100000 in
theorem lw_isBlocked_e1 {pg : Program} {l : Launch} {e : Env} {s : State} {m : MethodId} {below : List Frame} {meth : Method} {c : Code} {b L : Nat} {xs : Nat → Int32} {D : va_G} {cI cZ cJ : ClassId} {adx adm : Nat → Nat} {oo : Nat} {Bx Bm : Nat → Prop} (C0 : lw_At pg s m meth c b L xs) (hfl : l.stackTraces = false) (X0 : zLC D cI cZ cJ adx adm oo Bx Bm s) (S M : zS) (g : Nat → Int64) (i : Nat) (x : Int32) (y : Int32) (hO : zOK S) (hOM : zOK M) (hxb : zbad x 4) (hxb_m : zbad x 4) (ha1 : xs (i + 1) = (x)) (ha2 : xs (i + 2) = (y)) (hi : i + 4 ≤ L) (hL : L ≤ 2048) {H : Heap} {locs : List Loc} {cells slots : Nat} {ls : Array Slot} (hcc : cells + 1 ≤ 1096) (hss : slots + 6 ≤ 9967) (hR : zL D cI cZ cJ adx adm oo s H locs S M g) (hl : lv_has ls 7 [(0, .ref (b)), (1, .ref (adx 0)), (2, .ref (adm 0)), (3, .ref (oo)), (4, .int (nI (i)))]) (K : ∀ (g1 : Nat → Int64) (H1 : Heap) (locs1 : List Loc) (ls1 : Array Slot), zL D cI cZ cJ adx adm oo s H1 locs1 (S) (zth M 1) g1 → lv_has ls1 7 [(0, .ref (b)), (1, .ref (adx 0)), (2, .ref (adm 0)), (3, .ref (oo)), (4, .int (nI (i)))] → W pg l e room_1 s m #[Value.ref b] below meth c H1 locs1 (cells + 1) (slots + 6) (lw_Z below #[Value.ref b] s) (F0 m 1903 ls1 [])) : W pg l e room_1 s m #[Value.ref b] below meth c H locs cells slots (lw_Z below #[Value.ref b] s) (F0 m 1041 ls []) := by
  obtain ⟨hx, hb, hr, hml, hown, hts, hX, hbl, hlocks, hgv⟩ := C0
  have hts := fun w h => hts w (wsL_law_in w h)
  have hown : s.vm.findClass RL = some m.cls := hown
  have hb : c.code = cL_law := hb
  refine lv_aload_n hx hb dL_law_1041 rfl (lv_at hl 1 rfl) ?_
  refine lv_aload_n hx hb dL_law_1042 rfl (lv_at hl 0 rfl) ?_
  refine lv_iload hx hb dL_law_1043 (lv_at hl 4 rfl) ?_
  refine lv_iconst (v := (nI 1)) hx hb dL_law_1045 (by decide) ?_
  refine z_iadd_n hx hb dL_law_1046 ?_
  refine z_sld_n hx hb hX hbl hR dL_law_1047 (by omega) hL ha1 ?_
  refine lv_aload_n hx hb dL_law_1048 rfl (lv_at hl 0 rfl) ?_
  refine lv_iload hx hb dL_law_1049 (lv_at hl 4 rfl) ?_
  refine lv_iconst (v := (nI 2)) hx hb dL_law_1051 (by decide) ?_
  refine z_iadd_n hx hb dL_law_1052 ?_
  refine z_sld_n hx hb hX hbl hR dL_law_1053 (by omega) hL ha2 ?_
  refine lv_aload_n hx hb dL_law_1054 rfl (lv_at hl 3 rfl) ?_
  refine z_lW (As := [.ref (adx 0), .int (x), .int (y), .ref (oo)]) (rest := []) ⟨hx, hb, hml, hown, hts⟩ X0 hR (o_isBlocked_e1 X0.2.2.1 X0.2.2.2.2.1 hfl S g x y hO hxb) (vx_cwSW 4 hts gL_law_L_isBlocked rfl rfl rfl (by decide +kernel) ⟨Nat.le_of_ble_eq_true rfl, Nat.le_of_ble_eq_true rfl⟩) rfl hl rfl (Nat.le_of_ble_eq_true rfl) ⟨hcc, hss⟩ dL_law_1055 (fun r S1 g1 H locs hp hR => ?_)
  obtain ⟨hr1, hs1⟩ := hp
  subst r
  have hs1 : S1 = S := hs1
  subst S1
  refine lv_istore (lv' := [(5, .int (nI (1))), (0, .ref (b)), (1, .ref (adx 0)), (2, .ref (adm 0)), (3, .ref (oo)), (4, .int (nI (i)))]) hx hb dL_law_1058 hl (by decide) rfl (fun ls hl => ?_)
  refine lv_aload_n hx hb dL_law_1060 rfl (lv_at hl 3 rfl) ?_
  refine lv_aload_n hx hb dL_law_1061 rfl (lv_at hl 1 rfl) ?_
  refine lv_iload hx hb dL_law_1062 (lv_at hl 5 rfl) ?_
  refine lv_iconst (v := (nI 1)) hx hb dL_law_1064 (by decide) ?_
  refine z_iadd_n hx hb dL_law_1065 ?_
  refine z_sld_n hx hb hX hbl hR dL_law_1066 (by omega) hL ha1 ?_
  refine lv_aload_n hx hb dL_law_1067 rfl (lv_at hl 1 rfl) ?_
  refine lv_iload hx hb dL_law_1068 (lv_at hl 5 rfl) ?_
  refine lv_iconst (v := (nI 2)) hx hb dL_law_1070 (by decide) ?_
  refine z_iadd_n hx hb dL_law_1071 ?_
  refine z_sld_n hx hb hX hbl hR dL_law_1072 (by omega) hL ha2 ?_
  refine z_lM_i (As := [.int (x), .int (y)]) (rest := []) ⟨hx, hb, hml, hown, hts⟩ X0 hR (c_X5_isBlocked_e1 X0.2.2.2.1 M x y hOM hxb_m) (cwV 2 hts gL_law_X5_isBlocked rfl rfl rfl (by decide +kernel) ⟨Nat.le_of_ble_eq_true rfl, Nat.le_of_ble_eq_true rfl⟩) rfl hl rfl (Nat.le_of_ble_eq_true rfl) ⟨by show cells + 1 + 0 ≤ 1096; omega, by show slots + 6 + 0 ≤ 9967; omega⟩ dL_law_1073 (fun r T1 H locs hp hR => ?_)
  obtain ⟨hr1, hs1⟩ := hp
  subst r
  subst T1
  refine lv_istore (lv' := [(6, .int (nI (0))), (5, .int (nI (1))), (0, .ref (b)), (1, .ref (adx 0)), (2, .ref (adm 0)), (3, .ref (oo)), (4, .int (nI (i)))]) hx hb dL_law_1076 hl (by decide) rfl (fun ls hl => ?_)
  refine lv_aload_n hx hb dL_law_1078 rfl (lv_at hl 4 rfl) ?_
  refine z_lM_i (As := []) (rest := []) ⟨hx, hb, hml, hown, hts⟩ X0 hR (c_X5_thrown X0.2.2.2.1 (zth M 1)) (cwV 0 hts gL_law_X5_thrown rfl rfl rfl (by decide +kernel) ⟨Nat.le_of_ble_eq_true rfl, Nat.le_of_ble_eq_true rfl⟩) rfl hl rfl (Nat.le_of_ble_eq_true rfl) ⟨by show cells + 1 + 0 ≤ 1096; omega, by show slots + 6 + 0 ≤ 9967; omega⟩ dL_law_1079 (fun r M1 H locs hp hR => ?_)
  obtain ⟨hr1, hs1⟩ := hp
  subst M1
  obtain rfl : r = nI 1 := hr1.trans (th_4 _ _)
  refine lv_iload hx hb dL_law_1082 (lv_at hl 1 rfl) ?_
  refine z_eq_n (tgt := 1089) hx hb dL_law_1084 (by decide) (by decide) (by decide) (fun _ => ?_) (fun h => absurd rfl h)
  refine lv_iload hx hb dL_law_1089 (lv_at hl 1 rfl) ?_
  refine z_if_ne_n (tgt := 1113) hx hb dL_law_1091 (by decide) (by decide) (fun _ => ?_) (fun h => absurd h (by decide))
  refine lv_goto (tgt := 1903) hx hb dL_law_1113 (by decide) ?_
  exact K _ _ _ _ hR (lv_sub hl [2, 3, 4, 5, 6] rfl)
set_option maxHeartbeats 4000000 in
set_option maxRecDepth 100000 in
theorem lw_isBlocked_e2 {pg : Program} {l : Launch} {e : Env} {s : State} {m : MethodId} {below : List Frame} {meth : Method} {c : Code} {b L : Nat} {xs : Nat → Int32} {D : va_G} {cI cZ cJ : ClassId} {adx adm : Nat → Nat} {oo : Nat} {Bx Bm : Nat → Prop} (C0 : lw_At pg s m meth c b L xs) (hfl : l.stackTraces = false) (X0 : zLC D cI cZ cJ adx adm oo Bx Bm s) (S M : zS) (g : Nat → Int64) (i : Nat) (p : Nat) (y : Int32) (hO : zOK S) (hOM : zOK M) (hp : p < 4) (hxb : zbad y (zn S 22 0)) (hp_m : p < 4) (hxb_m : zbad y (zn M 22 0)) (ha1 : xs (i + 1) = (nI (p))) (ha2 : xs (i + 2) = (y)) (hi : i + 4 ≤ L) (hL : L ≤ 2048) {H : Heap} {locs : List Loc} {cells slots : Nat} {ls : Array Slot} (hcc : cells + 1 ≤ 1096) (hss : slots + 6 ≤ 9967) (hR : zL D cI cZ cJ adx adm oo s H locs S M g) (hl : lv_has ls 7 [(0, .ref (b)), (1, .ref (adx 0)), (2, .ref (adm 0)), (3, .ref (oo)), (4, .int (nI (i)))]) (K : ∀ (g1 : Nat → Int64) (H1 : Heap) (locs1 : List Loc) (ls1 : Array Slot), zL D cI cZ cJ adx adm oo s H1 locs1 (S) (zth M 1) g1 → lv_has ls1 7 [(0, .ref (b)), (1, .ref (adx 0)), (2, .ref (adm 0)), (3, .ref (oo)), (4, .int (nI (i)))] → W pg l e room_1 s m #[Value.ref b] below meth c H1 locs1 (cells + 1) (slots + 6) (lw_Z below #[Value.ref b] s) (F0 m 1903 ls1 [])) : W pg l e room_1 s m #[Value.ref b] below meth c H locs cells slots (lw_Z below #[Value.ref b] s) (F0 m 1041 ls []) := by
  obtain ⟨hx, hb, hr, hml, hown, hts, hX, hbl, hlocks, hgv⟩ := C0
  have hts := fun w h => hts w (wsL_law_in w h)
  have hown : s.vm.findClass RL = some m.cls := hown
  have hb : c.code = cL_law := hb
  refine lv_aload_n hx hb dL_law_1041 rfl (lv_at hl 1 rfl) ?_
  refine lv_aload_n hx hb dL_law_1042 rfl (lv_at hl 0 rfl) ?_
  refine lv_iload hx hb dL_law_1043 (lv_at hl 4 rfl) ?_
  refine lv_iconst (v := (nI 1)) hx hb dL_law_1045 (by decide) ?_
  refine z_iadd_n hx hb dL_law_1046 ?_
  refine z_sld_n hx hb hX hbl hR dL_law_1047 (by omega) hL ha1 ?_
  refine lv_aload_n hx hb dL_law_1048 rfl (lv_at hl 0 rfl) ?_
  refine lv_iload hx hb dL_law_1049 (lv_at hl 4 rfl) ?_
  refine lv_iconst (v := (nI 2)) hx hb dL_law_1051 (by decide) ?_
  refine z_iadd_n hx hb dL_law_1052 ?_
  refine z_sld_n hx hb hX hbl hR dL_law_1053 (by omega) hL ha2 ?_
  refine lv_aload_n hx hb dL_law_1054 rfl (lv_at hl 3 rfl) ?_
  refine z_lW (As := [.ref (adx 0), .int (nI (p)), .int (y), .ref (oo)]) (rest := []) ⟨hx, hb, hml, hown, hts⟩ X0 hR (o_isBlocked_e2 X0.2.2.1 X0.2.2.2.2.1 hfl S g p y hO hp hxb) (vx_cwSW 4 hts gL_law_L_isBlocked rfl rfl rfl (by decide +kernel) ⟨Nat.le_of_ble_eq_true rfl, Nat.le_of_ble_eq_true rfl⟩) rfl hl rfl (Nat.le_of_ble_eq_true rfl) ⟨hcc, hss⟩ dL_law_1055 (fun r S1 g1 H locs hp hR => ?_)
  obtain ⟨hr1, hs1⟩ := hp
  subst r
  have hs1 : S1 = S := hs1
  subst S1
  refine lv_istore (lv' := [(5, .int (nI (1))), (0, .ref (b)), (1, .ref (adx 0)), (2, .ref (adm 0)), (3, .ref (oo)), (4, .int (nI (i)))]) hx hb dL_law_1058 hl (by decide) rfl (fun ls hl => ?_)
  refine lv_aload_n hx hb dL_law_1060 rfl (lv_at hl 3 rfl) ?_
  refine lv_aload_n hx hb dL_law_1061 rfl (lv_at hl 1 rfl) ?_
  refine lv_iload hx hb dL_law_1062 (lv_at hl 5 rfl) ?_
  refine lv_iconst (v := (nI 1)) hx hb dL_law_1064 (by decide) ?_
  refine z_iadd_n hx hb dL_law_1065 ?_
  refine z_sld_n hx hb hX hbl hR dL_law_1066 (by omega) hL ha1 ?_
  refine lv_aload_n hx hb dL_law_1067 rfl (lv_at hl 1 rfl) ?_
  refine lv_iload hx hb dL_law_1068 (lv_at hl 5 rfl) ?_
  refine lv_iconst (v := (nI 2)) hx hb dL_law_1070 (by decide) ?_
  refine z_iadd_n hx hb dL_law_1071 ?_
  refine z_sld_n hx hb hX hbl hR dL_law_1072 (by omega) hL ha2 ?_
  refine z_lM_i (As := [.int (nI (p)), .int (y)]) (rest := []) ⟨hx, hb, hml, hown, hts⟩ X0 hR (c_X5_isBlocked_e2 X0.2.2.2.1 M p y hOM hp_m hxb_m) (cwV 2 hts gL_law_X5_isBlocked rfl rfl rfl (by decide +kernel) ⟨Nat.le_of_ble_eq_true rfl, Nat.le_of_ble_eq_true rfl⟩) rfl hl rfl (Nat.le_of_ble_eq_true rfl) ⟨by show cells + 1 + 0 ≤ 1096; omega, by show slots + 6 + 0 ≤ 9967; omega⟩ dL_law_1073 (fun r T1 H locs hp hR => ?_)
  obtain ⟨hr1, hs1⟩ := hp
  subst r
  subst T1
  refine lv_istore (lv' := [(6, .int (nI (0))), (5, .int (nI (1))), (0, .ref (b)), (1, .ref (adx 0)), (2, .ref (adm 0)), (3, .ref (oo)), (4, .int (nI (i)))]) hx hb dL_law_1076 hl (by decide) rfl (fun ls hl => ?_)
  refine lv_aload_n hx hb dL_law_1078 rfl (lv_at hl 4 rfl) ?_
  refine z_lM_i (As := []) (rest := []) ⟨hx, hb, hml, hown, hts⟩ X0 hR (c_X5_thrown X0.2.2.2.1 (zth M 1)) (cwV 0 hts gL_law_X5_thrown rfl rfl rfl (by decide +kernel) ⟨Nat.le_of_ble_eq_true rfl, Nat.le_of_ble_eq_true rfl⟩) rfl hl rfl (Nat.le_of_ble_eq_true rfl) ⟨by show cells + 1 + 0 ≤ 1096; omega, by show slots + 6 + 0 ≤ 9967; omega⟩ dL_law_1079 (fun r M1 H locs hp hR => ?_)
  obtain ⟨hr1, hs1⟩ := hp
  subst M1
  obtain rfl : r = nI 1 := hr1.trans (th_4 _ _)
  refine lv_iload hx hb dL_law_1082 (lv_at hl 1 rfl) ?_
  refine z_eq_n (tgt := 1089) hx hb dL_law_1084 (by decide) (by decide) (by decide) (fun _ => ?_) (fun h => absurd rfl h)
  refine lv_iload hx hb dL_law_1089 (lv_at hl 1 rfl) ?_
  refine z_if_ne_n (tgt := 1113) hx hb dL_law_1091 (by decide) (by decide) (fun _ => ?_) (fun h => absurd h (by decide))
  refine lv_goto (tgt := 1903) hx hb dL_law_1113 (by decide) ?_
  exact K _ _ _ _ hR (lv_sub hl [2, 3, 4, 5, 6] rfl)
set_option maxHeartbeats 4000000 in
set_option maxRecDepth 100000 in
theorem lw_isBlocked_ok {pg : Program} {l : Launch} {e : Env} {s : State} {m : MethodId} {below : List Frame} {meth : Method} {c : Code} {b L : Nat} {xs : Nat → Int32} {D : va_G} {cI cZ cJ : ClassId} {adx adm : Nat → Nat} {oo : Nat} {Bx Bm : Nat → Prop} (C0 : lw_At pg s m meth c b L xs) (hfl : l.stackTraces = false) (X0 : zLC D cI cZ cJ adx adm oo Bx Bm s) (S M : zS) (g : Nat → Int64) (i : Nat) (p : Nat) (w : Nat) (hO : zOK S) (hOM : zOK M) (hp : p < 4) (hw : w < zn S 22 0) (hp_m : p < 4) (hw_m : w < zn M 22 0) (hres : (S 8 (4 * p + w) = nI 1) ↔ (M 8 (4 * p + w) = nI 1)) (ha1 : xs (i + 1) = (nI (p))) (ha2 : xs (i + 2) = (nI (w))) (hi : i + 4 ≤ L) (hL : L ≤ 2048) {H : Heap} {locs : List Loc} {cells slots : Nat} {ls : Array Slot} (hcc : cells + 1 ≤ 1096) (hss : slots + 6 ≤ 9967) (hR : zL D cI cZ cJ adx adm oo s H locs S M g) (hl : lv_has ls 7 [(0, .ref (b)), (1, .ref (adx 0)), (2, .ref (adm 0)), (3, .ref (oo)), (4, .int (nI (i)))]) (K : ∀ (g1 : Nat → Int64) (H1 : Heap) (locs1 : List Loc) (ls1 : Array Slot), zL D cI cZ cJ adx adm oo s H1 locs1 (S) (zth M 0) g1 → lv_has ls1 7 [(0, .ref (b)), (1, .ref (adx 0)), (2, .ref (adm 0)), (3, .ref (oo)), (4, .int (nI (i)))] → W pg l e room_1 s m #[Value.ref b] below meth c H1 locs1 (cells + 1) (slots + 6) (lw_Z below #[Value.ref b] s) (F0 m 1903 ls1 [])) : W pg l e room_1 s m #[Value.ref b] below meth c H locs cells slots (lw_Z below #[Value.ref b] s) (F0 m 1041 ls []) := by
  obtain ⟨hx, hb, hr, hml, hown, hts, hX, hbl, hlocks, hgv⟩ := C0
  have hts := fun w h => hts w (wsL_law_in w h)
  have hown : s.vm.findClass RL = some m.cls := hown
  have hb : c.code = cL_law := hb
  refine lv_aload_n hx hb dL_law_1041 rfl (lv_at hl 1 rfl) ?_
  refine lv_aload_n hx hb dL_law_1042 rfl (lv_at hl 0 rfl) ?_
  refine lv_iload hx hb dL_law_1043 (lv_at hl 4 rfl) ?_
  refine lv_iconst (v := (nI 1)) hx hb dL_law_1045 (by decide) ?_
  refine z_iadd_n hx hb dL_law_1046 ?_
  refine z_sld_n hx hb hX hbl hR dL_law_1047 (by omega) hL ha1 ?_
  refine lv_aload_n hx hb dL_law_1048 rfl (lv_at hl 0 rfl) ?_
  refine lv_iload hx hb dL_law_1049 (lv_at hl 4 rfl) ?_
  refine lv_iconst (v := (nI 2)) hx hb dL_law_1051 (by decide) ?_
  refine z_iadd_n hx hb dL_law_1052 ?_
  refine z_sld_n hx hb hX hbl hR dL_law_1053 (by omega) hL ha2 ?_
  refine lv_aload_n hx hb dL_law_1054 rfl (lv_at hl 3 rfl) ?_
  refine z_lW (As := [.ref (adx 0), .int (nI (p)), .int (nI (w)), .ref (oo)]) (rest := []) ⟨hx, hb, hml, hown, hts⟩ X0 hR (o_isBlocked_ok X0.2.2.1 X0.2.2.2.2.1 hfl S g p w hO hp hw) (vx_cwSW 4 hts gL_law_L_isBlocked rfl rfl rfl (by decide +kernel) ⟨Nat.le_of_ble_eq_true rfl, Nat.le_of_ble_eq_true rfl⟩) rfl hl rfl (Nat.le_of_ble_eq_true rfl) ⟨hcc, hss⟩ dL_law_1055 (fun r S1 g1 H locs hp hR => ?_)
  obtain ⟨hr1, hs1, hg⟩ := hp
  subst r
  have hs1 : S1 = S := hs1
  subst S1
  rcases hg with ⟨hq, hg⟩ | ⟨hq, hg⟩
  · have hg : g1 0 = 1 := hg
    refine lv_istore (lv' := [(5, .int (nI (0))), (0, .ref (b)), (1, .ref (adx 0)), (2, .ref (adm 0)), (3, .ref (oo)), (4, .int (nI (i)))]) hx hb dL_law_1058 hl (by decide) rfl (fun ls hl => ?_)
    refine lv_aload_n hx hb dL_law_1060 rfl (lv_at hl 3 rfl) ?_
    refine lv_aload_n hx hb dL_law_1061 rfl (lv_at hl 1 rfl) ?_
    refine lv_iload hx hb dL_law_1062 (lv_at hl 5 rfl) ?_
    refine lv_iconst (v := (nI 1)) hx hb dL_law_1064 (by decide) ?_
    refine z_iadd_n hx hb dL_law_1065 ?_
    refine z_sld_n hx hb hX hbl hR dL_law_1066 (by omega) hL ha1 ?_
    refine lv_aload_n hx hb dL_law_1067 rfl (lv_at hl 1 rfl) ?_
    refine lv_iload hx hb dL_law_1068 (lv_at hl 5 rfl) ?_
    refine lv_iconst (v := (nI 2)) hx hb dL_law_1070 (by decide) ?_
    refine z_iadd_n hx hb dL_law_1071 ?_
    refine z_sld_n hx hb hX hbl hR dL_law_1072 (by omega) hL ha2 ?_
    refine z_lM_i (As := [.int (nI (p)), .int (nI (w))]) (rest := []) ⟨hx, hb, hml, hown, hts⟩ X0 hR (c_X5_isBlocked_ok X0.2.2.2.1 M p w hOM hp_m hw_m) (cwV 2 hts gL_law_X5_isBlocked rfl rfl rfl (by decide +kernel) ⟨Nat.le_of_ble_eq_true rfl, Nat.le_of_ble_eq_true rfl⟩) rfl hl rfl (Nat.le_of_ble_eq_true rfl) ⟨by show cells + 1 + 0 ≤ 1096; omega, by show slots + 6 + 0 ≤ 9967; omega⟩ dL_law_1073 (fun r T1 H locs hp hR => ?_)
    obtain ⟨hp, hs1⟩ := hp
    subst T1
    rcases hp with ⟨hq2, hr1⟩ | ⟨hq2, hr1⟩
    · subst r
      refine lv_istore (lv' := [(6, .int (nI (1))), (5, .int (nI (0))), (0, .ref (b)), (1, .ref (adx 0)), (2, .ref (adm 0)), (3, .ref (oo)), (4, .int (nI (i)))]) hx hb dL_law_1076 hl (by decide) rfl (fun ls hl => ?_)
      refine lv_aload_n hx hb dL_law_1078 rfl (lv_at hl 4 rfl) ?_
      refine z_lM_i (As := []) (rest := []) ⟨hx, hb, hml, hown, hts⟩ X0 hR (c_X5_thrown X0.2.2.2.1 (zth M 0)) (cwV 0 hts gL_law_X5_thrown rfl rfl rfl (by decide +kernel) ⟨Nat.le_of_ble_eq_true rfl, Nat.le_of_ble_eq_true rfl⟩) rfl hl rfl (Nat.le_of_ble_eq_true rfl) ⟨by show cells + 1 + 0 ≤ 1096; omega, by show slots + 6 + 0 ≤ 9967; omega⟩ dL_law_1079 (fun r M1 H locs hp hR => ?_)
      obtain ⟨hr1, hs1⟩ := hp
      subst M1
      obtain rfl : r = nI 0 := hr1.trans (th_4 _ _)
      refine lv_iload hx hb dL_law_1082 (lv_at hl 1 rfl) ?_
      refine z_eq_n (tgt := 1089) hx hb dL_law_1084 (by decide) (by decide) (by decide) (fun _ => ?_) (fun h => absurd rfl h)
      refine lv_iload hx hb dL_law_1089 (lv_at hl 1 rfl) ?_
      refine z_if_ne_n (tgt := 1113) hx hb dL_law_1091 (by decide) (by decide) (fun h => absurd h (by decide)) (fun _ => ?_)
      refine lv_aload_n hx hb dL_law_1094 rfl (lv_at hl 5 rfl) ?_
      refine lv_iconst (v := (nI 0)) hx hb dL_law_1095 (by decide) ?_
      refine z_l_lald hx hb X0 hR dL_law_1096 ?_
      refine lv_iload hx hb dL_law_1097 (lv_at hl 0 rfl) ?_
      refine z_if_eq_n (tgt := 1106) hx hb dL_law_1099 (by decide) (by decide) (fun h => absurd h (by decide)) (fun _ => ?_)
      refine lv_lconst (v := 1) hx hb dL_law_1102 (by decide) ?_
      refine lv_goto (tgt := 1107) hx hb dL_law_1103 (by decide) ?_
      refine W.lcmp hx hb dL_law_1107 ?_
      refine lv_topi (fun v9 ev9 => ?_)
      obtain rfl : v9 = nI 0 := ev9.trans (z_cmp_eq hg)
      refine z_if_eq_n (tgt := 1113) hx hb dL_law_1108 (by decide) (by decide) (fun _ => ?_) (fun h => absurd h (by decide))
      refine lv_goto (tgt := 1903) hx hb dL_law_1113 (by decide) ?_
      exact K _ _ _ _ hR (lv_sub hl [2, 3, 4, 5, 6] rfl)
    · exact absurd (hres.mp hq) hq2
  · have hg : g1 0 = 0 := hg
    refine lv_istore (lv' := [(5, .int (nI (0))), (0, .ref (b)), (1, .ref (adx 0)), (2, .ref (adm 0)), (3, .ref (oo)), (4, .int (nI (i)))]) hx hb dL_law_1058 hl (by decide) rfl (fun ls hl => ?_)
    refine lv_aload_n hx hb dL_law_1060 rfl (lv_at hl 3 rfl) ?_
    refine lv_aload_n hx hb dL_law_1061 rfl (lv_at hl 1 rfl) ?_
    refine lv_iload hx hb dL_law_1062 (lv_at hl 5 rfl) ?_
    refine lv_iconst (v := (nI 1)) hx hb dL_law_1064 (by decide) ?_
    refine z_iadd_n hx hb dL_law_1065 ?_
    refine z_sld_n hx hb hX hbl hR dL_law_1066 (by omega) hL ha1 ?_
    refine lv_aload_n hx hb dL_law_1067 rfl (lv_at hl 1 rfl) ?_
    refine lv_iload hx hb dL_law_1068 (lv_at hl 5 rfl) ?_
    refine lv_iconst (v := (nI 2)) hx hb dL_law_1070 (by decide) ?_
    refine z_iadd_n hx hb dL_law_1071 ?_
    refine z_sld_n hx hb hX hbl hR dL_law_1072 (by omega) hL ha2 ?_
    refine z_lM_i (As := [.int (nI (p)), .int (nI (w))]) (rest := []) ⟨hx, hb, hml, hown, hts⟩ X0 hR (c_X5_isBlocked_ok X0.2.2.2.1 M p w hOM hp_m hw_m) (cwV 2 hts gL_law_X5_isBlocked rfl rfl rfl (by decide +kernel) ⟨Nat.le_of_ble_eq_true rfl, Nat.le_of_ble_eq_true rfl⟩) rfl hl rfl (Nat.le_of_ble_eq_true rfl) ⟨by show cells + 1 + 0 ≤ 1096; omega, by show slots + 6 + 0 ≤ 9967; omega⟩ dL_law_1073 (fun r T1 H locs hp hR => ?_)
    obtain ⟨hp, hs1⟩ := hp
    subst T1
    rcases hp with ⟨hq2, hr1⟩ | ⟨hq2, hr1⟩
    · exact absurd (hres.mpr hq2) hq
    · subst r
      refine lv_istore (lv' := [(6, .int (nI (0))), (5, .int (nI (0))), (0, .ref (b)), (1, .ref (adx 0)), (2, .ref (adm 0)), (3, .ref (oo)), (4, .int (nI (i)))]) hx hb dL_law_1076 hl (by decide) rfl (fun ls hl => ?_)
      refine lv_aload_n hx hb dL_law_1078 rfl (lv_at hl 4 rfl) ?_
      refine z_lM_i (As := []) (rest := []) ⟨hx, hb, hml, hown, hts⟩ X0 hR (c_X5_thrown X0.2.2.2.1 (zth M 0)) (cwV 0 hts gL_law_X5_thrown rfl rfl rfl (by decide +kernel) ⟨Nat.le_of_ble_eq_true rfl, Nat.le_of_ble_eq_true rfl⟩) rfl hl rfl (Nat.le_of_ble_eq_true rfl) ⟨by show cells + 1 + 0 ≤ 1096; omega, by show slots + 6 + 0 ≤ 9967; omega⟩ dL_law_1079 (fun r M1 H locs hp hR => ?_)
      obtain ⟨hr1, hs1⟩ := hp
      subst M1
      obtain rfl : r = nI 0 := hr1.trans (th_4 _ _)
      refine lv_iload hx hb dL_law_1082 (lv_at hl 1 rfl) ?_
      refine z_eq_n (tgt := 1089) hx hb dL_law_1084 (by decide) (by decide) (by decide) (fun _ => ?_) (fun h => absurd rfl h)
      refine lv_iload hx hb dL_law_1089 (lv_at hl 1 rfl) ?_
      refine z_if_ne_n (tgt := 1113) hx hb dL_law_1091 (by decide) (by decide) (fun h => absurd h (by decide)) (fun _ => ?_)
      refine lv_aload_n hx hb dL_law_1094 rfl (lv_at hl 5 rfl) ?_
      refine lv_iconst (v := (nI 0)) hx hb dL_law_1095 (by decide) ?_
      refine z_l_lald hx hb X0 hR dL_law_1096 ?_
      refine lv_iload hx hb dL_law_1097 (lv_at hl 0 rfl) ?_
      refine z_if_eq_n (tgt := 1106) hx hb dL_law_1099 (by decide) (by decide) (fun _ => ?_) (fun h => absurd h (by decide))
      refine lv_lconst (v := 0) hx hb dL_law_1106 (by decide) ?_
      refine W.lcmp hx hb dL_law_1107 ?_
      refine lv_topi (fun v9 ev9 => ?_)
      obtain rfl : v9 = nI 0 := ev9.trans (z_cmp_eq hg)
      refine z_if_eq_n (tgt := 1113) hx hb dL_law_1108 (by decide) (by decide) (fun _ => ?_) (fun h => absurd h (by decide))
      refine lv_goto (tgt := 1903) hx hb dL_law_1113 (by decide) ?_
      exact K _ _ _ _ hR (lv_sub hl [2, 3, 4, 5, 6] rfl)
set_option maxHeartbeats 4000000 in
set_option maxRecDepth 100000 in
theorem lw_workers_ok {pg : Program} {l : Launch} {e : Env} {s : State} {m : MethodId} {below : List Frame} {meth : Method} {c : Code} {b L : Nat} {xs : Nat → Int32} {D : va_G} {cI cZ cJ : ClassId} {adx adm : Nat → Nat} {oo : Nat} {Bx Bm : Nat → Prop} (C0 : lw_At pg s m meth c b L xs) (hfl : l.stackTraces = false) (X0 : zLC D cI cZ cJ adx adm oo Bx Bm s) (S M : zS) (g : Nat → Int64) (i : Nat)  (hO : zOK S) (hOM : zOK M) (hres : (nI (zn S 22 0)) = (nI (zn M 22 0)))  (hi : i + 4 ≤ L) (hL : L ≤ 2048) {H : Heap} {locs : List Loc} {cells slots : Nat} {ls : Array Slot} (hcc : cells + 1 ≤ 1096) (hss : slots + 6 ≤ 9967) (hR : zL D cI cZ cJ adx adm oo s H locs S M g) (hl : lv_has ls 7 [(0, .ref (b)), (1, .ref (adx 0)), (2, .ref (adm 0)), (3, .ref (oo)), (4, .int (nI (i)))]) (K : ∀ (g1 : Nat → Int64) (H1 : Heap) (locs1 : List Loc) (ls1 : Array Slot), zL D cI cZ cJ adx adm oo s H1 locs1 (S) (zth M 0) g1 → lv_has ls1 7 [(0, .ref (b)), (1, .ref (adx 0)), (2, .ref (adm 0)), (3, .ref (oo)), (4, .int (nI (i)))] → W pg l e room_1 s m #[Value.ref b] below meth c H1 locs1 (cells + 1) (slots + 6) (lw_Z below #[Value.ref b] s) (F0 m 1903 ls1 [])) : W pg l e room_1 s m #[Value.ref b] below meth c H locs cells slots (lw_Z below #[Value.ref b] s) (F0 m 1116 ls []) := by
  obtain ⟨hx, hb, hr, hml, hown, hts, hX, hbl, hlocks, hgv⟩ := C0
  have hts := fun w h => hts w (wsL_law_in w h)
  have hown : s.vm.findClass RL = some m.cls := hown
  have hb : c.code = cL_law := hb
  refine lv_aload_n hx hb dL_law_1116 rfl (lv_at hl 1 rfl) ?_
  refine z_lX_i (As := []) (rest := []) ⟨hx, hb, hml, hown, hts⟩ X0 hR (c_X4_workers X0.2.2.1 S hO) (cwV 0 hts gL_law_X4_workers rfl rfl rfl (by decide +kernel) ⟨Nat.le_of_ble_eq_true rfl, Nat.le_of_ble_eq_true rfl⟩) rfl hl rfl (Nat.le_of_ble_eq_true rfl) ⟨by show cells + 0 ≤ 1096; omega, by show slots + 0 ≤ 9967; omega⟩ dL_law_1117 (fun r T1 H locs hp hR => ?_)
  obtain ⟨hr1, hs1⟩ := hp
  subst r
  subst T1
  refine lv_aload_n hx hb dL_law_1120 rfl (lv_at hl 2 rfl) ?_
  refine z_lM_i (As := []) (rest := [.int (nI (zn S 22 0))]) ⟨hx, hb, hml, hown, hts⟩ X0 hR (c_X5_workers X0.2.2.2.1 M hOM) (cwV 0 hts gL_law_X5_workers rfl rfl rfl (by decide +kernel) ⟨Nat.le_of_ble_eq_true rfl, Nat.le_of_ble_eq_true rfl⟩) rfl hl rfl (Nat.le_of_ble_eq_true rfl) ⟨by show cells + 0 ≤ 1096; omega, by show slots + 0 ≤ 9967; omega⟩ dL_law_1121 (fun r T1 H locs hp hR => ?_)
  obtain ⟨hr1, hs1⟩ := hp
  subst r
  subst T1
  refine lv_icmp_eq (tgt := 1903) hx hb dL_law_1124 (by decide) (fun _ => ?_) (fun h => absurd hres h)
  refine W.widen (k := cells + 1) (n := slots + 6) (by omega) (by omega) ?_
  exact K _ _ _ _ hR (lv_sub hl [0, 1, 2, 3, 4] rfl)
set_option maxHeartbeats 4000000 in
set_option maxRecDepth 100000 in
theorem lw_workerOf_e1 {pg : Program} {l : Launch} {e : Env} {s : State} {m : MethodId} {below : List Frame} {meth : Method} {c : Code} {b L : Nat} {xs : Nat → Int32} {D : va_G} {cI cZ cJ : ClassId} {adx adm : Nat → Nat} {oo : Nat} {Bx Bm : Nat → Prop} (C0 : lw_At pg s m meth c b L xs) (hfl : l.stackTraces = false) (X0 : zLC D cI cZ cJ adx adm oo Bx Bm s) (S M : zS) (g : Nat → Int64) (i : Nat) (x : Int32) (hO : zOK S) (hOM : zOK M) (hxb : zbad x 32) (hxb_m : zbad x 32) (ha1 : xs (i + 1) = (x)) (hi : i + 4 ≤ L) (hL : L ≤ 2048) {H : Heap} {locs : List Loc} {cells slots : Nat} {ls : Array Slot} (hcc : cells + 1 ≤ 1096) (hss : slots + 6 ≤ 9967) (hR : zL D cI cZ cJ adx adm oo s H locs S M g) (hl : lv_has ls 7 [(0, .ref (b)), (1, .ref (adx 0)), (2, .ref (adm 0)), (3, .ref (oo)), (4, .int (nI (i)))]) (K : ∀ (g1 : Nat → Int64) (H1 : Heap) (locs1 : List Loc) (ls1 : Array Slot), zL D cI cZ cJ adx adm oo s H1 locs1 (S) (zth M 1) g1 → lv_has ls1 7 [(0, .ref (b)), (1, .ref (adx 0)), (2, .ref (adm 0)), (3, .ref (oo)), (4, .int (nI (i)))] → W pg l e room_1 s m #[Value.ref b] below meth c H1 locs1 (cells + 1) (slots + 6) (lw_Z below #[Value.ref b] s) (F0 m 1903 ls1 [])) : W pg l e room_1 s m #[Value.ref b] below meth c H locs cells slots (lw_Z below #[Value.ref b] s) (F0 m 1129 ls []) := by
  obtain ⟨hx, hb, hr, hml, hown, hts, hX, hbl, hlocks, hgv⟩ := C0
  have hts := fun w h => hts w (wsL_law_in w h)
  have hown : s.vm.findClass RL = some m.cls := hown
  have hb : c.code = cL_law := hb
  refine lv_aload_n hx hb dL_law_1129 rfl (lv_at hl 1 rfl) ?_
  refine lv_aload_n hx hb dL_law_1130 rfl (lv_at hl 0 rfl) ?_
  refine lv_iload hx hb dL_law_1131 (lv_at hl 4 rfl) ?_
  refine lv_iconst (v := (nI 1)) hx hb dL_law_1133 (by decide) ?_
  refine z_iadd_n hx hb dL_law_1134 ?_
  refine z_sld_n hx hb hX hbl hR dL_law_1135 (by omega) hL ha1 ?_
  refine lv_aload_n hx hb dL_law_1136 rfl (lv_at hl 3 rfl) ?_
  refine z_lW (As := [.ref (adx 0), .int (x), .ref (oo)]) (rest := []) ⟨hx, hb, hml, hown, hts⟩ X0 hR (o_workerOf_e1 X0.2.2.1 X0.2.2.2.2.1 hfl S g x hO hxb) (vx_cwSW 3 hts gL_law_L_workerOf rfl rfl rfl (by decide +kernel) ⟨Nat.le_of_ble_eq_true rfl, Nat.le_of_ble_eq_true rfl⟩) rfl hl rfl (Nat.le_of_ble_eq_true rfl) ⟨hcc, hss⟩ dL_law_1137 (fun r S1 g1 H locs hp hR => ?_)
  obtain ⟨hr1, hs1⟩ := hp
  subst r
  have hs1 : S1 = S := hs1
  subst S1
  refine lv_istore (lv' := [(5, .int (nI (1))), (0, .ref (b)), (1, .ref (adx 0)), (2, .ref (adm 0)), (3, .ref (oo)), (4, .int (nI (i)))]) hx hb dL_law_1140 hl (by decide) rfl (fun ls hl => ?_)
  refine lv_aload_n hx hb dL_law_1142 rfl (lv_at hl 3 rfl) ?_
  refine lv_aload_n hx hb dL_law_1143 rfl (lv_at hl 1 rfl) ?_
  refine lv_iload hx hb dL_law_1144 (lv_at hl 5 rfl) ?_
  refine lv_iconst (v := (nI 1)) hx hb dL_law_1146 (by decide) ?_
  refine z_iadd_n hx hb dL_law_1147 ?_
  refine z_sld_n hx hb hX hbl hR dL_law_1148 (by omega) hL ha1 ?_
  refine z_lM_i (As := [.int (x)]) (rest := []) ⟨hx, hb, hml, hown, hts⟩ X0 hR (c_X5_workerOf_e1 X0.2.2.2.1 M x hOM hxb_m) (cwV 1 hts gL_law_X5_workerOf rfl rfl rfl (by decide +kernel) ⟨Nat.le_of_ble_eq_true rfl, Nat.le_of_ble_eq_true rfl⟩) rfl hl rfl (Nat.le_of_ble_eq_true rfl) ⟨by show cells + 1 + 0 ≤ 1096; omega, by show slots + 6 + 0 ≤ 9967; omega⟩ dL_law_1149 (fun r T1 H locs hp hR => ?_)
  obtain ⟨hr1, hs1⟩ := hp
  subst r
  subst T1
  refine lv_istore (lv' := [(6, .int (nI (0))), (5, .int (nI (1))), (0, .ref (b)), (1, .ref (adx 0)), (2, .ref (adm 0)), (3, .ref (oo)), (4, .int (nI (i)))]) hx hb dL_law_1152 hl (by decide) rfl (fun ls hl => ?_)
  refine lv_aload_n hx hb dL_law_1154 rfl (lv_at hl 4 rfl) ?_
  refine z_lM_i (As := []) (rest := []) ⟨hx, hb, hml, hown, hts⟩ X0 hR (c_X5_thrown X0.2.2.2.1 (zth M 1)) (cwV 0 hts gL_law_X5_thrown rfl rfl rfl (by decide +kernel) ⟨Nat.le_of_ble_eq_true rfl, Nat.le_of_ble_eq_true rfl⟩) rfl hl rfl (Nat.le_of_ble_eq_true rfl) ⟨by show cells + 1 + 0 ≤ 1096; omega, by show slots + 6 + 0 ≤ 9967; omega⟩ dL_law_1155 (fun r M1 H locs hp hR => ?_)
  obtain ⟨hr1, hs1⟩ := hp
  subst M1
  obtain rfl : r = nI 1 := hr1.trans (th_4 _ _)
  refine lv_iload hx hb dL_law_1158 (lv_at hl 1 rfl) ?_
  refine z_eq_n (tgt := 1165) hx hb dL_law_1160 (by decide) (by decide) (by decide) (fun _ => ?_) (fun h => absurd rfl h)
  refine lv_iload hx hb dL_law_1165 (lv_at hl 1 rfl) ?_
  refine z_if_ne_n (tgt := 1182) hx hb dL_law_1167 (by decide) (by decide) (fun _ => ?_) (fun h => absurd h (by decide))
  refine lv_goto (tgt := 1903) hx hb dL_law_1182 (by decide) ?_
  exact K _ _ _ _ hR (lv_sub hl [2, 3, 4, 5, 6] rfl)
set_option maxHeartbeats 4000000 in
set_option maxRecDepth 100000 in
theorem lw_workerOf_ok {pg : Program} {l : Launch} {e : Env} {s : State} {m : MethodId} {below : List Frame} {meth : Method} {c : Code} {b L : Nat} {xs : Nat → Int32} {D : va_G} {cI cZ cJ : ClassId} {adx adm : Nat → Nat} {oo : Nat} {Bx Bm : Nat → Prop} (C0 : lw_At pg s m meth c b L xs) (hfl : l.stackTraces = false) (X0 : zLC D cI cZ cJ adx adm oo Bx Bm s) (S M : zS) (g : Nat → Int64) (i : Nat) (key : Nat) (hO : zOK S) (hOM : zOK M) (hk : key < 32) (hk_m : key < 32) (hres : (nI (zown (zn S 22 0) key)) = (nI (zown (zn (zth M 0) 22 0) key))) (ha1 : xs (i + 1) = (nI (key))) (hi : i + 4 ≤ L) (hL : L ≤ 2048) {H : Heap} {locs : List Loc} {cells slots : Nat} {ls : Array Slot} (hcc : cells + 1 ≤ 1096) (hss : slots + 6 ≤ 9967) (hR : zL D cI cZ cJ adx adm oo s H locs S M g) (hl : lv_has ls 7 [(0, .ref (b)), (1, .ref (adx 0)), (2, .ref (adm 0)), (3, .ref (oo)), (4, .int (nI (i)))]) (K : ∀ (g1 : Nat → Int64) (H1 : Heap) (locs1 : List Loc) (ls1 : Array Slot), zL D cI cZ cJ adx adm oo s H1 locs1 (S) (zth M 0) g1 → lv_has ls1 7 [(0, .ref (b)), (1, .ref (adx 0)), (2, .ref (adm 0)), (3, .ref (oo)), (4, .int (nI (i)))] → W pg l e room_1 s m #[Value.ref b] below meth c H1 locs1 (cells + 1) (slots + 6) (lw_Z below #[Value.ref b] s) (F0 m 1903 ls1 [])) : W pg l e room_1 s m #[Value.ref b] below meth c H locs cells slots (lw_Z below #[Value.ref b] s) (F0 m 1129 ls []) := by
  obtain ⟨hx, hb, hr, hml, hown, hts, hX, hbl, hlocks, hgv⟩ := C0
  have hts := fun w h => hts w (wsL_law_in w h)
  have hown : s.vm.findClass RL = some m.cls := hown
  have hb : c.code = cL_law := hb
  refine lv_aload_n hx hb dL_law_1129 rfl (lv_at hl 1 rfl) ?_
  refine lv_aload_n hx hb dL_law_1130 rfl (lv_at hl 0 rfl) ?_
  refine lv_iload hx hb dL_law_1131 (lv_at hl 4 rfl) ?_
  refine lv_iconst (v := (nI 1)) hx hb dL_law_1133 (by decide) ?_
  refine z_iadd_n hx hb dL_law_1134 ?_
  refine z_sld_n hx hb hX hbl hR dL_law_1135 (by omega) hL ha1 ?_
  refine lv_aload_n hx hb dL_law_1136 rfl (lv_at hl 3 rfl) ?_
  refine z_lW (As := [.ref (adx 0), .int (nI (key)), .ref (oo)]) (rest := []) ⟨hx, hb, hml, hown, hts⟩ X0 hR (o_workerOf_ok X0.2.2.1 X0.2.2.2.2.1 hfl S g key hO hk) (vx_cwSW 3 hts gL_law_L_workerOf rfl rfl rfl (by decide +kernel) ⟨Nat.le_of_ble_eq_true rfl, Nat.le_of_ble_eq_true rfl⟩) rfl hl rfl (Nat.le_of_ble_eq_true rfl) ⟨hcc, hss⟩ dL_law_1137 (fun r S1 g1 H locs hp hR => ?_)
  obtain ⟨hr1, hs1, hg⟩ := hp
  subst r
  have hs1 : S1 = S := hs1
  subst S1
  refine lv_istore (lv' := [(5, .int (nI (0))), (0, .ref (b)), (1, .ref (adx 0)), (2, .ref (adm 0)), (3, .ref (oo)), (4, .int (nI (i)))]) hx hb dL_law_1140 hl (by decide) rfl (fun ls hl => ?_)
  refine lv_aload_n hx hb dL_law_1142 rfl (lv_at hl 3 rfl) ?_
  refine lv_aload_n hx hb dL_law_1143 rfl (lv_at hl 1 rfl) ?_
  refine lv_iload hx hb dL_law_1144 (lv_at hl 5 rfl) ?_
  refine lv_iconst (v := (nI 1)) hx hb dL_law_1146 (by decide) ?_
  refine z_iadd_n hx hb dL_law_1147 ?_
  refine z_sld_n hx hb hX hbl hR dL_law_1148 (by omega) hL ha1 ?_
  refine z_lM_i (As := [.int (nI (key))]) (rest := []) ⟨hx, hb, hml, hown, hts⟩ X0 hR (c_X5_workerOf_ok X0.2.2.2.1 M key hOM hk_m) (cwV 1 hts gL_law_X5_workerOf rfl rfl rfl (by decide +kernel) ⟨Nat.le_of_ble_eq_true rfl, Nat.le_of_ble_eq_true rfl⟩) rfl hl rfl (Nat.le_of_ble_eq_true rfl) ⟨by show cells + 1 + 0 ≤ 1096; omega, by show slots + 6 + 0 ≤ 9967; omega⟩ dL_law_1149 (fun r T1 H locs hp hR => ?_)
  obtain ⟨hr1, hs1⟩ := hp
  subst r
  subst T1
  refine lv_istore (lv' := [(6, .int (nI (zown (zn (zth M 0) 22 0) key))), (5, .int (nI (0))), (0, .ref (b)), (1, .ref (adx 0)), (2, .ref (adm 0)), (3, .ref (oo)), (4, .int (nI (i)))]) hx hb dL_law_1152 hl (by decide) rfl (fun ls hl => ?_)
  refine lv_aload_n hx hb dL_law_1154 rfl (lv_at hl 4 rfl) ?_
  refine z_lM_i (As := []) (rest := []) ⟨hx, hb, hml, hown, hts⟩ X0 hR (c_X5_thrown X0.2.2.2.1 (zth M 0)) (cwV 0 hts gL_law_X5_thrown rfl rfl rfl (by decide +kernel) ⟨Nat.le_of_ble_eq_true rfl, Nat.le_of_ble_eq_true rfl⟩) rfl hl rfl (Nat.le_of_ble_eq_true rfl) ⟨by show cells + 1 + 0 ≤ 1096; omega, by show slots + 6 + 0 ≤ 9967; omega⟩ dL_law_1155 (fun r M1 H locs hp hR => ?_)
  obtain ⟨hr1, hs1⟩ := hp
  subst M1
  obtain rfl : r = nI 0 := hr1.trans (th_4 _ _)
  refine lv_iload hx hb dL_law_1158 (lv_at hl 1 rfl) ?_
  refine z_eq_n (tgt := 1165) hx hb dL_law_1160 (by decide) (by decide) (by decide) (fun _ => ?_) (fun h => absurd rfl h)
  refine lv_iload hx hb dL_law_1165 (lv_at hl 1 rfl) ?_
  refine z_if_ne_n (tgt := 1182) hx hb dL_law_1167 (by decide) (by decide) (fun h => absurd h (by decide)) (fun _ => ?_)
  refine lv_aload_n hx hb dL_law_1170 rfl (lv_at hl 5 rfl) ?_
  refine lv_iconst (v := (nI 0)) hx hb dL_law_1171 (by decide) ?_
  refine z_l_lald hx hb X0 hR dL_law_1172 ?_
  refine lv_iload hx hb dL_law_1173 (lv_at hl 0 rfl) ?_
  refine lv_i2l (v := ((nI (zown (zn (zth M 0) 22 0) key))).toInt64) hx hb dL_law_1175 rfl ?_
  refine W.lcmp hx hb dL_law_1176 ?_
  refine lv_topi (fun v9 ev9 => ?_)
  obtain rfl : v9 = nI 0 := ev9.trans (z_cmp_eq (hg.trans (congrArg Int32.toInt64 hres)))
  refine z_if_eq_n (tgt := 1182) hx hb dL_law_1177 (by decide) (by decide) (fun _ => ?_) (fun h => absurd h (by decide))
  refine lv_goto (tgt := 1903) hx hb dL_law_1182 (by decide) ?_
  exact K _ _ _ _ hR (lv_sub hl [2, 3, 4, 5, 6] rfl)
set_option maxHeartbeats 4000000 in
set_option maxRecDepth 100000 in
theorem lw_groupsOf_e1 {pg : Program} {l : Launch} {e : Env} {s : State} {m : MethodId} {below : List Frame} {meth : Method} {c : Code} {b L : Nat} {xs : Nat → Int32} {D : va_G} {cI cZ cJ : ClassId} {adx adm : Nat → Nat} {oo : Nat} {Bx Bm : Nat → Prop} (C0 : lw_At pg s m meth c b L xs) (hfl : l.stackTraces = false) (X0 : zLC D cI cZ cJ adx adm oo Bx Bm s) (S M : zS) (g : Nat → Int64) (i : Nat) (x : Int32) (hO : zOK S) (hOM : zOK M) (hxb : zbad x (zn S 22 0)) (hxb_m : zbad x (zn M 22 0)) (ha1 : xs (i + 1) = (x)) (hi : i + 4 ≤ L) (hL : L ≤ 2048) {H : Heap} {locs : List Loc} {cells slots : Nat} {ls : Array Slot} (hcc : cells + 1 ≤ 1096) (hss : slots + 6 ≤ 9967) (hR : zL D cI cZ cJ adx adm oo s H locs S M g) (hl : lv_has ls 7 [(0, .ref (b)), (1, .ref (adx 0)), (2, .ref (adm 0)), (3, .ref (oo)), (4, .int (nI (i)))]) (K : ∀ (g1 : Nat → Int64) (H1 : Heap) (locs1 : List Loc) (ls1 : Array Slot), zL D cI cZ cJ adx adm oo s H1 locs1 (S) (zth M 1) g1 → lv_has ls1 7 [(0, .ref (b)), (1, .ref (adx 0)), (2, .ref (adm 0)), (3, .ref (oo)), (4, .int (nI (i)))] → W pg l e room_1 s m #[Value.ref b] below meth c H1 locs1 (cells + 1) (slots + 6) (lw_Z below #[Value.ref b] s) (F0 m 1903 ls1 [])) : W pg l e room_1 s m #[Value.ref b] below meth c H locs cells slots (lw_Z below #[Value.ref b] s) (F0 m 1185 ls []) := by
  obtain ⟨hx, hb, hr, hml, hown, hts, hX, hbl, hlocks, hgv⟩ := C0
  have hts := fun w h => hts w (wsL_law_in w h)
  have hown : s.vm.findClass RL = some m.cls := hown
  have hb : c.code = cL_law := hb
  refine lv_aload_n hx hb dL_law_1185 rfl (lv_at hl 1 rfl) ?_
  refine lv_aload_n hx hb dL_law_1186 rfl (lv_at hl 0 rfl) ?_
  refine lv_iload hx hb dL_law_1187 (lv_at hl 4 rfl) ?_
  refine lv_iconst (v := (nI 1)) hx hb dL_law_1189 (by decide) ?_
  refine z_iadd_n hx hb dL_law_1190 ?_
  refine z_sld_n hx hb hX hbl hR dL_law_1191 (by omega) hL ha1 ?_
  refine lv_aload_n hx hb dL_law_1192 rfl (lv_at hl 3 rfl) ?_
  refine z_lW (As := [.ref (adx 0), .int (x), .ref (oo)]) (rest := []) ⟨hx, hb, hml, hown, hts⟩ X0 hR (o_groupsOf_e1 X0.2.2.1 X0.2.2.2.2.1 hfl S g x hO hxb) (vx_cwSW 3 hts gL_law_L_groupsOf rfl rfl rfl (by decide +kernel) ⟨Nat.le_of_ble_eq_true rfl, Nat.le_of_ble_eq_true rfl⟩) rfl hl rfl (Nat.le_of_ble_eq_true rfl) ⟨hcc, hss⟩ dL_law_1193 (fun r S1 g1 H locs hp hR => ?_)
  obtain ⟨hr1, hs1⟩ := hp
  subst r
  have hs1 : S1 = S := hs1
  subst S1
  refine lv_istore (lv' := [(5, .int (nI (1))), (0, .ref (b)), (1, .ref (adx 0)), (2, .ref (adm 0)), (3, .ref (oo)), (4, .int (nI (i)))]) hx hb dL_law_1196 hl (by decide) rfl (fun ls hl => ?_)
  refine lv_aload_n hx hb dL_law_1198 rfl (lv_at hl 3 rfl) ?_
  refine lv_aload_n hx hb dL_law_1199 rfl (lv_at hl 1 rfl) ?_
  refine lv_iload hx hb dL_law_1200 (lv_at hl 5 rfl) ?_
  refine lv_iconst (v := (nI 1)) hx hb dL_law_1202 (by decide) ?_
  refine z_iadd_n hx hb dL_law_1203 ?_
  refine z_sld_n hx hb hX hbl hR dL_law_1204 (by omega) hL ha1 ?_
  refine z_lM_i (As := [.int (x)]) (rest := []) ⟨hx, hb, hml, hown, hts⟩ X0 hR (c_X5_groupsOf_e1 X0.2.2.2.1 M x hOM hxb_m) (cwV 1 hts gL_law_X5_groupsOf rfl rfl rfl (by decide +kernel) ⟨Nat.le_of_ble_eq_true rfl, Nat.le_of_ble_eq_true rfl⟩) rfl hl rfl (Nat.le_of_ble_eq_true rfl) ⟨by show cells + 1 + 0 ≤ 1096; omega, by show slots + 6 + 0 ≤ 9967; omega⟩ dL_law_1205 (fun r T1 H locs hp hR => ?_)
  obtain ⟨hr1, hs1⟩ := hp
  subst r
  subst T1
  refine lv_istore (lv' := [(6, .int (nI (0))), (5, .int (nI (1))), (0, .ref (b)), (1, .ref (adx 0)), (2, .ref (adm 0)), (3, .ref (oo)), (4, .int (nI (i)))]) hx hb dL_law_1208 hl (by decide) rfl (fun ls hl => ?_)
  refine lv_aload_n hx hb dL_law_1210 rfl (lv_at hl 4 rfl) ?_
  refine z_lM_i (As := []) (rest := []) ⟨hx, hb, hml, hown, hts⟩ X0 hR (c_X5_thrown X0.2.2.2.1 (zth M 1)) (cwV 0 hts gL_law_X5_thrown rfl rfl rfl (by decide +kernel) ⟨Nat.le_of_ble_eq_true rfl, Nat.le_of_ble_eq_true rfl⟩) rfl hl rfl (Nat.le_of_ble_eq_true rfl) ⟨by show cells + 1 + 0 ≤ 1096; omega, by show slots + 6 + 0 ≤ 9967; omega⟩ dL_law_1211 (fun r M1 H locs hp hR => ?_)
  obtain ⟨hr1, hs1⟩ := hp
  subst M1
  obtain rfl : r = nI 1 := hr1.trans (th_4 _ _)
  refine lv_iload hx hb dL_law_1214 (lv_at hl 1 rfl) ?_
  refine z_eq_n (tgt := 1221) hx hb dL_law_1216 (by decide) (by decide) (by decide) (fun _ => ?_) (fun h => absurd rfl h)
  refine lv_iload hx hb dL_law_1221 (lv_at hl 1 rfl) ?_
  refine z_if_ne_n (tgt := 1238) hx hb dL_law_1223 (by decide) (by decide) (fun _ => ?_) (fun h => absurd h (by decide))
  refine lv_goto (tgt := 1903) hx hb dL_law_1238 (by decide) ?_
  exact K _ _ _ _ hR (lv_sub hl [2, 3, 4, 5, 6] rfl)
set_option maxHeartbeats 4000000 in
set_option maxRecDepth 100000 in
theorem lw_groupsOf_ok {pg : Program} {l : Launch} {e : Env} {s : State} {m : MethodId} {below : List Frame} {meth : Method} {c : Code} {b L : Nat} {xs : Nat → Int32} {D : va_G} {cI cZ cJ : ClassId} {adx adm : Nat → Nat} {oo : Nat} {Bx Bm : Nat → Prop} (C0 : lw_At pg s m meth c b L xs) (hfl : l.stackTraces = false) (X0 : zLC D cI cZ cJ adx adm oo Bx Bm s) (S M : zS) (g : Nat → Int64) (i : Nat) (w : Nat) (hO : zOK S) (hOM : zOK M) (hw : w < zn S 22 0) (hw_m : w < zn M 22 0) (hres : (nI (10 * sp_gf (zn S 22 0) w 8 + sp_go (zn S 22 0) w 8)) = (nI (mo_gs (zn M 22 0) w 8))) (ha1 : xs (i + 1) = (nI (w))) (hi : i + 4 ≤ L) (hL : L ≤ 2048) {H : Heap} {locs : List Loc} {cells slots : Nat} {ls : Array Slot} (hcc : cells + 1 ≤ 1096) (hss : slots + 6 ≤ 9967) (hR : zL D cI cZ cJ adx adm oo s H locs S M g) (hl : lv_has ls 7 [(0, .ref (b)), (1, .ref (adx 0)), (2, .ref (adm 0)), (3, .ref (oo)), (4, .int (nI (i)))]) (K : ∀ (g1 : Nat → Int64) (H1 : Heap) (locs1 : List Loc) (ls1 : Array Slot), zL D cI cZ cJ adx adm oo s H1 locs1 (S) (zth M 0) g1 → lv_has ls1 7 [(0, .ref (b)), (1, .ref (adx 0)), (2, .ref (adm 0)), (3, .ref (oo)), (4, .int (nI (i)))] → W pg l e room_1 s m #[Value.ref b] below meth c H1 locs1 (cells + 1) (slots + 6) (lw_Z below #[Value.ref b] s) (F0 m 1903 ls1 [])) : W pg l e room_1 s m #[Value.ref b] below meth c H locs cells slots (lw_Z below #[Value.ref b] s) (F0 m 1185 ls []) := by
  obtain ⟨hx, hb, hr, hml, hown, hts, hX, hbl, hlocks, hgv⟩ := C0
  have hts := fun w h => hts w (wsL_law_in w h)
  have hown : s.vm.findClass RL = some m.cls := hown
  have hb : c.code = cL_law := hb
  refine lv_aload_n hx hb dL_law_1185 rfl (lv_at hl 1 rfl) ?_
  refine lv_aload_n hx hb dL_law_1186 rfl (lv_at hl 0 rfl) ?_
  refine lv_iload hx hb dL_law_1187 (lv_at hl 4 rfl) ?_
  refine lv_iconst (v := (nI 1)) hx hb dL_law_1189 (by decide) ?_
  refine z_iadd_n hx hb dL_law_1190 ?_
  refine z_sld_n hx hb hX hbl hR dL_law_1191 (by omega) hL ha1 ?_
  refine lv_aload_n hx hb dL_law_1192 rfl (lv_at hl 3 rfl) ?_
  refine z_lW (As := [.ref (adx 0), .int (nI (w)), .ref (oo)]) (rest := []) ⟨hx, hb, hml, hown, hts⟩ X0 hR (o_groupsOf_ok X0.2.2.1 X0.2.2.2.2.1 hfl S g w hO hw) (vx_cwSW 3 hts gL_law_L_groupsOf rfl rfl rfl (by decide +kernel) ⟨Nat.le_of_ble_eq_true rfl, Nat.le_of_ble_eq_true rfl⟩) rfl hl rfl (Nat.le_of_ble_eq_true rfl) ⟨hcc, hss⟩ dL_law_1193 (fun r S1 g1 H locs hp hR => ?_)
  obtain ⟨hr1, hs1, hg⟩ := hp
  subst r
  have hs1 : S1 = S := hs1
  subst S1
  refine lv_istore (lv' := [(5, .int (nI (0))), (0, .ref (b)), (1, .ref (adx 0)), (2, .ref (adm 0)), (3, .ref (oo)), (4, .int (nI (i)))]) hx hb dL_law_1196 hl (by decide) rfl (fun ls hl => ?_)
  refine lv_aload_n hx hb dL_law_1198 rfl (lv_at hl 3 rfl) ?_
  refine lv_aload_n hx hb dL_law_1199 rfl (lv_at hl 1 rfl) ?_
  refine lv_iload hx hb dL_law_1200 (lv_at hl 5 rfl) ?_
  refine lv_iconst (v := (nI 1)) hx hb dL_law_1202 (by decide) ?_
  refine z_iadd_n hx hb dL_law_1203 ?_
  refine z_sld_n hx hb hX hbl hR dL_law_1204 (by omega) hL ha1 ?_
  refine z_lM_i (As := [.int (nI (w))]) (rest := []) ⟨hx, hb, hml, hown, hts⟩ X0 hR (c_X5_groupsOf_ok X0.2.2.2.1 M w hOM hw_m) (cwV 1 hts gL_law_X5_groupsOf rfl rfl rfl (by decide +kernel) ⟨Nat.le_of_ble_eq_true rfl, Nat.le_of_ble_eq_true rfl⟩) rfl hl rfl (Nat.le_of_ble_eq_true rfl) ⟨by show cells + 1 + 0 ≤ 1096; omega, by show slots + 6 + 0 ≤ 9967; omega⟩ dL_law_1205 (fun r T1 H locs hp hR => ?_)
  obtain ⟨hr1, hs1⟩ := hp
  subst r
  subst T1
  refine lv_istore (lv' := [(6, .int (nI (mo_gs (zn M 22 0) w 8))), (5, .int (nI (0))), (0, .ref (b)), (1, .ref (adx 0)), (2, .ref (adm 0)), (3, .ref (oo)), (4, .int (nI (i)))]) hx hb dL_law_1208 hl (by decide) rfl (fun ls hl => ?_)
  refine lv_aload_n hx hb dL_law_1210 rfl (lv_at hl 4 rfl) ?_
  refine z_lM_i (As := []) (rest := []) ⟨hx, hb, hml, hown, hts⟩ X0 hR (c_X5_thrown X0.2.2.2.1 (zth M 0)) (cwV 0 hts gL_law_X5_thrown rfl rfl rfl (by decide +kernel) ⟨Nat.le_of_ble_eq_true rfl, Nat.le_of_ble_eq_true rfl⟩) rfl hl rfl (Nat.le_of_ble_eq_true rfl) ⟨by show cells + 1 + 0 ≤ 1096; omega, by show slots + 6 + 0 ≤ 9967; omega⟩ dL_law_1211 (fun r M1 H locs hp hR => ?_)
  obtain ⟨hr1, hs1⟩ := hp
  subst M1
  obtain rfl : r = nI 0 := hr1.trans (th_4 _ _)
  refine lv_iload hx hb dL_law_1214 (lv_at hl 1 rfl) ?_
  refine z_eq_n (tgt := 1221) hx hb dL_law_1216 (by decide) (by decide) (by decide) (fun _ => ?_) (fun h => absurd rfl h)
  refine lv_iload hx hb dL_law_1221 (lv_at hl 1 rfl) ?_
  refine z_if_ne_n (tgt := 1238) hx hb dL_law_1223 (by decide) (by decide) (fun h => absurd h (by decide)) (fun _ => ?_)
  refine lv_aload_n hx hb dL_law_1226 rfl (lv_at hl 5 rfl) ?_
  refine lv_iconst (v := (nI 0)) hx hb dL_law_1227 (by decide) ?_
  refine z_l_lald hx hb X0 hR dL_law_1228 ?_
  refine lv_iload hx hb dL_law_1229 (lv_at hl 0 rfl) ?_
  refine lv_i2l (v := ((nI (mo_gs (zn M 22 0) w 8))).toInt64) hx hb dL_law_1231 rfl ?_
  refine W.lcmp hx hb dL_law_1232 ?_
  refine lv_topi (fun v9 ev9 => ?_)
  obtain rfl : v9 = nI 0 := ev9.trans (z_cmp_eq (hg.trans (congrArg Int32.toInt64 hres)))
  refine z_if_eq_n (tgt := 1238) hx hb dL_law_1233 (by decide) (by decide) (fun _ => ?_) (fun h => absurd h (by decide))
  refine lv_goto (tgt := 1903) hx hb dL_law_1238 (by decide) ?_
  exact K _ _ _ _ hR (lv_sub hl [2, 3, 4, 5, 6] rfl)
set_option maxHeartbeats 4000000 in
set_option maxRecDepth 100000 in
theorem lw_count_e1 {pg : Program} {l : Launch} {e : Env} {s : State} {m : MethodId} {below : List Frame} {meth : Method} {c : Code} {b L : Nat} {xs : Nat → Int32} {D : va_G} {cI cZ cJ : ClassId} {adx adm : Nat → Nat} {oo : Nat} {Bx Bm : Nat → Prop} (C0 : lw_At pg s m meth c b L xs) (hfl : l.stackTraces = false) (X0 : zLC D cI cZ cJ adx adm oo Bx Bm s) (S M : zS) (g : Nat → Int64) (i : Nat) (x : Int32) (hO : zOK S) (hOM : zOK M) (hxb : zbad x 32) (hxb_m : zbad x 32) (ha1 : xs (i + 1) = (x)) (hi : i + 4 ≤ L) (hL : L ≤ 2048) {H : Heap} {locs : List Loc} {cells slots : Nat} {ls : Array Slot} (hcc : cells + 1 ≤ 1096) (hss : slots + 6 ≤ 9967) (hR : zL D cI cZ cJ adx adm oo s H locs S M g) (hl : lv_has ls 7 [(0, .ref (b)), (1, .ref (adx 0)), (2, .ref (adm 0)), (3, .ref (oo)), (4, .int (nI (i)))]) (K : ∀ (g1 : Nat → Int64) (H1 : Heap) (locs1 : List Loc) (ls1 : Array Slot), zL D cI cZ cJ adx adm oo s H1 locs1 (S) (zth M 1) g1 → lv_has ls1 7 [(0, .ref (b)), (1, .ref (adx 0)), (2, .ref (adm 0)), (3, .ref (oo)), (4, .int (nI (i)))] → W pg l e room_1 s m #[Value.ref b] below meth c H1 locs1 (cells + 1) (slots + 6) (lw_Z below #[Value.ref b] s) (F0 m 1903 ls1 [])) : W pg l e room_1 s m #[Value.ref b] below meth c H locs cells slots (lw_Z below #[Value.ref b] s) (F0 m 1241 ls []) := by
  obtain ⟨hx, hb, hr, hml, hown, hts, hX, hbl, hlocks, hgv⟩ := C0
  have hts := fun w h => hts w (wsL_law_in w h)
  have hown : s.vm.findClass RL = some m.cls := hown
  have hb : c.code = cL_law := hb
  refine lv_aload_n hx hb dL_law_1241 rfl (lv_at hl 1 rfl) ?_
  refine lv_aload_n hx hb dL_law_1242 rfl (lv_at hl 0 rfl) ?_
  refine lv_iload hx hb dL_law_1243 (lv_at hl 4 rfl) ?_
  refine lv_iconst (v := (nI 1)) hx hb dL_law_1245 (by decide) ?_
  refine z_iadd_n hx hb dL_law_1246 ?_
  refine z_sld_n hx hb hX hbl hR dL_law_1247 (by omega) hL ha1 ?_
  refine lv_aload_n hx hb dL_law_1248 rfl (lv_at hl 3 rfl) ?_
  refine z_lW (As := [.ref (adx 0), .int (x), .ref (oo)]) (rest := []) ⟨hx, hb, hml, hown, hts⟩ X0 hR (o_count_e1 X0.2.2.1 X0.2.2.2.2.1 hfl S g x hO hxb) (vx_cwSW 3 hts gL_law_L_count rfl rfl rfl (by decide +kernel) ⟨Nat.le_of_ble_eq_true rfl, Nat.le_of_ble_eq_true rfl⟩) rfl hl rfl (Nat.le_of_ble_eq_true rfl) ⟨hcc, hss⟩ dL_law_1249 (fun r S1 g1 H locs hp hR => ?_)
  obtain ⟨hr1, hs1⟩ := hp
  subst r
  have hs1 : S1 = S := hs1
  subst S1
  refine lv_istore (lv' := [(5, .int (nI (1))), (0, .ref (b)), (1, .ref (adx 0)), (2, .ref (adm 0)), (3, .ref (oo)), (4, .int (nI (i)))]) hx hb dL_law_1252 hl (by decide) rfl (fun ls hl => ?_)
  refine lv_aload_n hx hb dL_law_1254 rfl (lv_at hl 3 rfl) ?_
  refine lv_aload_n hx hb dL_law_1255 rfl (lv_at hl 1 rfl) ?_
  refine lv_iload hx hb dL_law_1256 (lv_at hl 5 rfl) ?_
  refine lv_iconst (v := (nI 1)) hx hb dL_law_1258 (by decide) ?_
  refine z_iadd_n hx hb dL_law_1259 ?_
  refine z_sld_n hx hb hX hbl hR dL_law_1260 (by omega) hL ha1 ?_
  refine z_lM_i (As := [.int (x)]) (rest := []) ⟨hx, hb, hml, hown, hts⟩ X0 hR (c_X5_count_e1 X0.2.2.2.1 M x hOM hxb_m) (cwV 1 hts gL_law_X5_count rfl rfl rfl (by decide +kernel) ⟨Nat.le_of_ble_eq_true rfl, Nat.le_of_ble_eq_true rfl⟩) rfl hl rfl (Nat.le_of_ble_eq_true rfl) ⟨by show cells + 1 + 0 ≤ 1096; omega, by show slots + 6 + 0 ≤ 9967; omega⟩ dL_law_1261 (fun r T1 H locs hp hR => ?_)
  obtain ⟨hr1, hs1⟩ := hp
  subst r
  subst T1
  refine lv_istore (lv' := [(6, .int (nI (0))), (5, .int (nI (1))), (0, .ref (b)), (1, .ref (adx 0)), (2, .ref (adm 0)), (3, .ref (oo)), (4, .int (nI (i)))]) hx hb dL_law_1264 hl (by decide) rfl (fun ls hl => ?_)
  refine lv_aload_n hx hb dL_law_1266 rfl (lv_at hl 4 rfl) ?_
  refine z_lM_i (As := []) (rest := []) ⟨hx, hb, hml, hown, hts⟩ X0 hR (c_X5_thrown X0.2.2.2.1 (zth M 1)) (cwV 0 hts gL_law_X5_thrown rfl rfl rfl (by decide +kernel) ⟨Nat.le_of_ble_eq_true rfl, Nat.le_of_ble_eq_true rfl⟩) rfl hl rfl (Nat.le_of_ble_eq_true rfl) ⟨by show cells + 1 + 0 ≤ 1096; omega, by show slots + 6 + 0 ≤ 9967; omega⟩ dL_law_1267 (fun r M1 H locs hp hR => ?_)
  obtain ⟨hr1, hs1⟩ := hp
  subst M1
  obtain rfl : r = nI 1 := hr1.trans (th_4 _ _)
  refine lv_iload hx hb dL_law_1270 (lv_at hl 1 rfl) ?_
  refine z_eq_n (tgt := 1277) hx hb dL_law_1272 (by decide) (by decide) (by decide) (fun _ => ?_) (fun h => absurd rfl h)
  refine lv_iload hx hb dL_law_1277 (lv_at hl 1 rfl) ?_
  refine z_if_ne_n (tgt := 1294) hx hb dL_law_1279 (by decide) (by decide) (fun _ => ?_) (fun h => absurd h (by decide))
  refine lv_goto (tgt := 1903) hx hb dL_law_1294 (by decide) ?_
  exact K _ _ _ _ hR (lv_sub hl [2, 3, 4, 5, 6] rfl)
set_option maxHeartbeats 4000000 in
set_option maxRecDepth 100000 in
theorem lw_count_ok {pg : Program} {l : Launch} {e : Env} {s : State} {m : MethodId} {below : List Frame} {meth : Method} {c : Code} {b L : Nat} {xs : Nat → Int32} {D : va_G} {cI cZ cJ : ClassId} {adx adm : Nat → Nat} {oo : Nat} {Bx Bm : Nat → Prop} (C0 : lw_At pg s m meth c b L xs) (hfl : l.stackTraces = false) (X0 : zLC D cI cZ cJ adx adm oo Bx Bm s) (S M : zS) (g : Nat → Int64) (i : Nat) (key : Nat) (hO : zOK S) (hOM : zOK M) (hk : key < 32) (hk_m : key < 32) (hres : (S 9 key) = ((zth M 0) 9 key)) (ha1 : xs (i + 1) = (nI (key))) (hi : i + 4 ≤ L) (hL : L ≤ 2048) {H : Heap} {locs : List Loc} {cells slots : Nat} {ls : Array Slot} (hcc : cells + 1 ≤ 1096) (hss : slots + 6 ≤ 9967) (hR : zL D cI cZ cJ adx adm oo s H locs S M g) (hl : lv_has ls 7 [(0, .ref (b)), (1, .ref (adx 0)), (2, .ref (adm 0)), (3, .ref (oo)), (4, .int (nI (i)))]) (K : ∀ (g1 : Nat → Int64) (H1 : Heap) (locs1 : List Loc) (ls1 : Array Slot), zL D cI cZ cJ adx adm oo s H1 locs1 (S) (zth M 0) g1 → lv_has ls1 7 [(0, .ref (b)), (1, .ref (adx 0)), (2, .ref (adm 0)), (3, .ref (oo)), (4, .int (nI (i)))] → W pg l e room_1 s m #[Value.ref b] below meth c H1 locs1 (cells + 1) (slots + 6) (lw_Z below #[Value.ref b] s) (F0 m 1903 ls1 [])) : W pg l e room_1 s m #[Value.ref b] below meth c H locs cells slots (lw_Z below #[Value.ref b] s) (F0 m 1241 ls []) := by
  obtain ⟨hx, hb, hr, hml, hown, hts, hX, hbl, hlocks, hgv⟩ := C0
  have hts := fun w h => hts w (wsL_law_in w h)
  have hown : s.vm.findClass RL = some m.cls := hown
  have hb : c.code = cL_law := hb
  refine lv_aload_n hx hb dL_law_1241 rfl (lv_at hl 1 rfl) ?_
  refine lv_aload_n hx hb dL_law_1242 rfl (lv_at hl 0 rfl) ?_
  refine lv_iload hx hb dL_law_1243 (lv_at hl 4 rfl) ?_
  refine lv_iconst (v := (nI 1)) hx hb dL_law_1245 (by decide) ?_
  refine z_iadd_n hx hb dL_law_1246 ?_
  refine z_sld_n hx hb hX hbl hR dL_law_1247 (by omega) hL ha1 ?_
  refine lv_aload_n hx hb dL_law_1248 rfl (lv_at hl 3 rfl) ?_
  refine z_lW (As := [.ref (adx 0), .int (nI (key)), .ref (oo)]) (rest := []) ⟨hx, hb, hml, hown, hts⟩ X0 hR (o_count_ok X0.2.2.1 X0.2.2.2.2.1 hfl S g key hO hk) (vx_cwSW 3 hts gL_law_L_count rfl rfl rfl (by decide +kernel) ⟨Nat.le_of_ble_eq_true rfl, Nat.le_of_ble_eq_true rfl⟩) rfl hl rfl (Nat.le_of_ble_eq_true rfl) ⟨hcc, hss⟩ dL_law_1249 (fun r S1 g1 H locs hp hR => ?_)
  obtain ⟨hr1, hs1, hg⟩ := hp
  subst r
  have hs1 : S1 = S := hs1
  subst S1
  refine lv_istore (lv' := [(5, .int (nI (0))), (0, .ref (b)), (1, .ref (adx 0)), (2, .ref (adm 0)), (3, .ref (oo)), (4, .int (nI (i)))]) hx hb dL_law_1252 hl (by decide) rfl (fun ls hl => ?_)
  refine lv_aload_n hx hb dL_law_1254 rfl (lv_at hl 3 rfl) ?_
  refine lv_aload_n hx hb dL_law_1255 rfl (lv_at hl 1 rfl) ?_
  refine lv_iload hx hb dL_law_1256 (lv_at hl 5 rfl) ?_
  refine lv_iconst (v := (nI 1)) hx hb dL_law_1258 (by decide) ?_
  refine z_iadd_n hx hb dL_law_1259 ?_
  refine z_sld_n hx hb hX hbl hR dL_law_1260 (by omega) hL ha1 ?_
  refine z_lM_i (As := [.int (nI (key))]) (rest := []) ⟨hx, hb, hml, hown, hts⟩ X0 hR (c_X5_count_ok X0.2.2.2.1 M key hOM hk_m) (cwV 1 hts gL_law_X5_count rfl rfl rfl (by decide +kernel) ⟨Nat.le_of_ble_eq_true rfl, Nat.le_of_ble_eq_true rfl⟩) rfl hl rfl (Nat.le_of_ble_eq_true rfl) ⟨by show cells + 1 + 0 ≤ 1096; omega, by show slots + 6 + 0 ≤ 9967; omega⟩ dL_law_1261 (fun r T1 H locs hp hR => ?_)
  obtain ⟨hr1, hs1⟩ := hp
  subst r
  subst T1
  refine lv_istore (lv' := [(6, .int ((zth M 0) 9 key)), (5, .int (nI (0))), (0, .ref (b)), (1, .ref (adx 0)), (2, .ref (adm 0)), (3, .ref (oo)), (4, .int (nI (i)))]) hx hb dL_law_1264 hl (by decide) rfl (fun ls hl => ?_)
  refine lv_aload_n hx hb dL_law_1266 rfl (lv_at hl 4 rfl) ?_
  refine z_lM_i (As := []) (rest := []) ⟨hx, hb, hml, hown, hts⟩ X0 hR (c_X5_thrown X0.2.2.2.1 (zth M 0)) (cwV 0 hts gL_law_X5_thrown rfl rfl rfl (by decide +kernel) ⟨Nat.le_of_ble_eq_true rfl, Nat.le_of_ble_eq_true rfl⟩) rfl hl rfl (Nat.le_of_ble_eq_true rfl) ⟨by show cells + 1 + 0 ≤ 1096; omega, by show slots + 6 + 0 ≤ 9967; omega⟩ dL_law_1267 (fun r M1 H locs hp hR => ?_)
  obtain ⟨hr1, hs1⟩ := hp
  subst M1
  obtain rfl : r = nI 0 := hr1.trans (th_4 _ _)
  refine lv_iload hx hb dL_law_1270 (lv_at hl 1 rfl) ?_
  refine z_eq_n (tgt := 1277) hx hb dL_law_1272 (by decide) (by decide) (by decide) (fun _ => ?_) (fun h => absurd rfl h)
  refine lv_iload hx hb dL_law_1277 (lv_at hl 1 rfl) ?_
  refine z_if_ne_n (tgt := 1294) hx hb dL_law_1279 (by decide) (by decide) (fun h => absurd h (by decide)) (fun _ => ?_)
  refine lv_aload_n hx hb dL_law_1282 rfl (lv_at hl 5 rfl) ?_
  refine lv_iconst (v := (nI 0)) hx hb dL_law_1283 (by decide) ?_
  refine z_l_lald hx hb X0 hR dL_law_1284 ?_
  refine lv_iload hx hb dL_law_1285 (lv_at hl 0 rfl) ?_
  refine lv_i2l (v := (((zth M 0) 9 key)).toInt64) hx hb dL_law_1287 rfl ?_
  refine W.lcmp hx hb dL_law_1288 ?_
  refine lv_topi (fun v9 ev9 => ?_)
  obtain rfl : v9 = nI 0 := ev9.trans (z_cmp_eq (hg.trans (congrArg Int32.toInt64 hres)))
  refine z_if_eq_n (tgt := 1294) hx hb dL_law_1289 (by decide) (by decide) (fun _ => ?_) (fun h => absurd h (by decide))
  refine lv_goto (tgt := 1903) hx hb dL_law_1294 (by decide) ?_
  exact K _ _ _ _ hR (lv_sub hl [2, 3, 4, 5, 6] rfl)
set_option maxHeartbeats 4000000 in
set_option maxRecDepth 100000 in
theorem lw_sum_e1 {pg : Program} {l : Launch} {e : Env} {s : State} {m : MethodId} {below : List Frame} {meth : Method} {c : Code} {b L : Nat} {xs : Nat → Int32} {D : va_G} {cI cZ cJ : ClassId} {adx adm : Nat → Nat} {oo : Nat} {Bx Bm : Nat → Prop} (C0 : lw_At pg s m meth c b L xs) (hfl : l.stackTraces = false) (X0 : zLC D cI cZ cJ adx adm oo Bx Bm s) (S M : zS) (g : Nat → Int64) (i : Nat) (x : Int32) (hO : zOK S) (hOM : zOK M) (hxb : zbad x 32) (hxb_m : zbad x 32) (ha1 : xs (i + 1) = (x)) (hi : i + 4 ≤ L) (hL : L ≤ 2048) {H : Heap} {locs : List Loc} {cells slots : Nat} {ls : Array Slot} (hcc : cells + 1 ≤ 1096) (hss : slots + 6 ≤ 9967) (hR : zL D cI cZ cJ adx adm oo s H locs S M g) (hl : lv_has ls 7 [(0, .ref (b)), (1, .ref (adx 0)), (2, .ref (adm 0)), (3, .ref (oo)), (4, .int (nI (i)))]) (K : ∀ (g1 : Nat → Int64) (H1 : Heap) (locs1 : List Loc) (ls1 : Array Slot), zL D cI cZ cJ adx adm oo s H1 locs1 (S) (zth M 1) g1 → lv_has ls1 7 [(0, .ref (b)), (1, .ref (adx 0)), (2, .ref (adm 0)), (3, .ref (oo)), (4, .int (nI (i)))] → W pg l e room_1 s m #[Value.ref b] below meth c H1 locs1 (cells + 1) (slots + 6) (lw_Z below #[Value.ref b] s) (F0 m 1903 ls1 [])) : W pg l e room_1 s m #[Value.ref b] below meth c H locs cells slots (lw_Z below #[Value.ref b] s) (F0 m 1297 ls []) := by
  obtain ⟨hx, hb, hr, hml, hown, hts, hX, hbl, hlocks, hgv⟩ := C0
  have hts := fun w h => hts w (wsL_law_in w h)
  have hown : s.vm.findClass RL = some m.cls := hown
  have hb : c.code = cL_law := hb
  refine lv_aload_n hx hb dL_law_1297 rfl (lv_at hl 1 rfl) ?_
  refine lv_aload_n hx hb dL_law_1298 rfl (lv_at hl 0 rfl) ?_
  refine lv_iload hx hb dL_law_1299 (lv_at hl 4 rfl) ?_
  refine lv_iconst (v := (nI 1)) hx hb dL_law_1301 (by decide) ?_
  refine z_iadd_n hx hb dL_law_1302 ?_
  refine z_sld_n hx hb hX hbl hR dL_law_1303 (by omega) hL ha1 ?_
  refine lv_aload_n hx hb dL_law_1304 rfl (lv_at hl 3 rfl) ?_
  refine z_lW (As := [.ref (adx 0), .int (x), .ref (oo)]) (rest := []) ⟨hx, hb, hml, hown, hts⟩ X0 hR (o_sum_e1 X0.2.2.1 X0.2.2.2.2.1 hfl S g x hO hxb) (vx_cwSW 3 hts gL_law_L_sum rfl rfl rfl (by decide +kernel) ⟨Nat.le_of_ble_eq_true rfl, Nat.le_of_ble_eq_true rfl⟩) rfl hl rfl (Nat.le_of_ble_eq_true rfl) ⟨hcc, hss⟩ dL_law_1305 (fun r S1 g1 H locs hp hR => ?_)
  obtain ⟨hr1, hs1⟩ := hp
  subst r
  have hs1 : S1 = S := hs1
  subst S1
  refine lv_istore (lv' := [(5, .int (nI (1))), (0, .ref (b)), (1, .ref (adx 0)), (2, .ref (adm 0)), (3, .ref (oo)), (4, .int (nI (i)))]) hx hb dL_law_1308 hl (by decide) rfl (fun ls hl => ?_)
  refine lv_aload_n hx hb dL_law_1310 rfl (lv_at hl 3 rfl) ?_
  refine lv_aload_n hx hb dL_law_1311 rfl (lv_at hl 1 rfl) ?_
  refine lv_iload hx hb dL_law_1312 (lv_at hl 5 rfl) ?_
  refine lv_iconst (v := (nI 1)) hx hb dL_law_1314 (by decide) ?_
  refine z_iadd_n hx hb dL_law_1315 ?_
  refine z_sld_n hx hb hX hbl hR dL_law_1316 (by omega) hL ha1 ?_
  refine z_lM_i (As := [.int (x)]) (rest := []) ⟨hx, hb, hml, hown, hts⟩ X0 hR (c_X5_sum_e1 X0.2.2.2.1 M x hOM hxb_m) (cwV 1 hts gL_law_X5_sum rfl rfl rfl (by decide +kernel) ⟨Nat.le_of_ble_eq_true rfl, Nat.le_of_ble_eq_true rfl⟩) rfl hl rfl (Nat.le_of_ble_eq_true rfl) ⟨by show cells + 1 + 0 ≤ 1096; omega, by show slots + 6 + 0 ≤ 9967; omega⟩ dL_law_1317 (fun r T1 H locs hp hR => ?_)
  obtain ⟨hr1, hs1⟩ := hp
  subst r
  subst T1
  refine lv_istore (lv' := [(6, .int (nI (0))), (5, .int (nI (1))), (0, .ref (b)), (1, .ref (adx 0)), (2, .ref (adm 0)), (3, .ref (oo)), (4, .int (nI (i)))]) hx hb dL_law_1320 hl (by decide) rfl (fun ls hl => ?_)
  refine lv_aload_n hx hb dL_law_1322 rfl (lv_at hl 4 rfl) ?_
  refine z_lM_i (As := []) (rest := []) ⟨hx, hb, hml, hown, hts⟩ X0 hR (c_X5_thrown X0.2.2.2.1 (zth M 1)) (cwV 0 hts gL_law_X5_thrown rfl rfl rfl (by decide +kernel) ⟨Nat.le_of_ble_eq_true rfl, Nat.le_of_ble_eq_true rfl⟩) rfl hl rfl (Nat.le_of_ble_eq_true rfl) ⟨by show cells + 1 + 0 ≤ 1096; omega, by show slots + 6 + 0 ≤ 9967; omega⟩ dL_law_1323 (fun r M1 H locs hp hR => ?_)
  obtain ⟨hr1, hs1⟩ := hp
  subst M1
  obtain rfl : r = nI 1 := hr1.trans (th_4 _ _)
  refine lv_iload hx hb dL_law_1326 (lv_at hl 1 rfl) ?_
  refine z_eq_n (tgt := 1333) hx hb dL_law_1328 (by decide) (by decide) (by decide) (fun _ => ?_) (fun h => absurd rfl h)
  refine lv_iload hx hb dL_law_1333 (lv_at hl 1 rfl) ?_
  refine z_if_ne_n (tgt := 1350) hx hb dL_law_1335 (by decide) (by decide) (fun _ => ?_) (fun h => absurd h (by decide))
  refine lv_goto (tgt := 1903) hx hb dL_law_1350 (by decide) ?_
  exact K _ _ _ _ hR (lv_sub hl [2, 3, 4, 5, 6] rfl)
set_option maxHeartbeats 4000000 in
set_option maxRecDepth 100000 in
theorem lw_sum_ok {pg : Program} {l : Launch} {e : Env} {s : State} {m : MethodId} {below : List Frame} {meth : Method} {c : Code} {b L : Nat} {xs : Nat → Int32} {D : va_G} {cI cZ cJ : ClassId} {adx adm : Nat → Nat} {oo : Nat} {Bx Bm : Nat → Prop} (C0 : lw_At pg s m meth c b L xs) (hfl : l.stackTraces = false) (X0 : zLC D cI cZ cJ adx adm oo Bx Bm s) (S M : zS) (g : Nat → Int64) (i : Nat) (key : Nat) (hO : zOK S) (hOM : zOK M) (hk : key < 32) (hk_m : key < 32) (hres : (S 10 key) = ((zth M 0) 10 key)) (ha1 : xs (i + 1) = (nI (key))) (hi : i + 4 ≤ L) (hL : L ≤ 2048) {H : Heap} {locs : List Loc} {cells slots : Nat} {ls : Array Slot} (hcc : cells + 1 ≤ 1096) (hss : slots + 6 ≤ 9967) (hR : zL D cI cZ cJ adx adm oo s H locs S M g) (hl : lv_has ls 7 [(0, .ref (b)), (1, .ref (adx 0)), (2, .ref (adm 0)), (3, .ref (oo)), (4, .int (nI (i)))]) (K : ∀ (g1 : Nat → Int64) (H1 : Heap) (locs1 : List Loc) (ls1 : Array Slot), zL D cI cZ cJ adx adm oo s H1 locs1 (S) (zth M 0) g1 → lv_has ls1 7 [(0, .ref (b)), (1, .ref (adx 0)), (2, .ref (adm 0)), (3, .ref (oo)), (4, .int (nI (i)))] → W pg l e room_1 s m #[Value.ref b] below meth c H1 locs1 (cells + 1) (slots + 6) (lw_Z below #[Value.ref b] s) (F0 m 1903 ls1 [])) : W pg l e room_1 s m #[Value.ref b] below meth c H locs cells slots (lw_Z below #[Value.ref b] s) (F0 m 1297 ls []) := by
  obtain ⟨hx, hb, hr, hml, hown, hts, hX, hbl, hlocks, hgv⟩ := C0
  have hts := fun w h => hts w (wsL_law_in w h)
  have hown : s.vm.findClass RL = some m.cls := hown
  have hb : c.code = cL_law := hb
  refine lv_aload_n hx hb dL_law_1297 rfl (lv_at hl 1 rfl) ?_
  refine lv_aload_n hx hb dL_law_1298 rfl (lv_at hl 0 rfl) ?_
  refine lv_iload hx hb dL_law_1299 (lv_at hl 4 rfl) ?_
  refine lv_iconst (v := (nI 1)) hx hb dL_law_1301 (by decide) ?_
  refine z_iadd_n hx hb dL_law_1302 ?_
  refine z_sld_n hx hb hX hbl hR dL_law_1303 (by omega) hL ha1 ?_
  refine lv_aload_n hx hb dL_law_1304 rfl (lv_at hl 3 rfl) ?_
  refine z_lW (As := [.ref (adx 0), .int (nI (key)), .ref (oo)]) (rest := []) ⟨hx, hb, hml, hown, hts⟩ X0 hR (o_sum_ok X0.2.2.1 X0.2.2.2.2.1 hfl S g key hO hk) (vx_cwSW 3 hts gL_law_L_sum rfl rfl rfl (by decide +kernel) ⟨Nat.le_of_ble_eq_true rfl, Nat.le_of_ble_eq_true rfl⟩) rfl hl rfl (Nat.le_of_ble_eq_true rfl) ⟨hcc, hss⟩ dL_law_1305 (fun r S1 g1 H locs hp hR => ?_)
  obtain ⟨hr1, hs1, hg⟩ := hp
  subst r
  have hs1 : S1 = S := hs1
  subst S1
  refine lv_istore (lv' := [(5, .int (nI (0))), (0, .ref (b)), (1, .ref (adx 0)), (2, .ref (adm 0)), (3, .ref (oo)), (4, .int (nI (i)))]) hx hb dL_law_1308 hl (by decide) rfl (fun ls hl => ?_)
  refine lv_aload_n hx hb dL_law_1310 rfl (lv_at hl 3 rfl) ?_
  refine lv_aload_n hx hb dL_law_1311 rfl (lv_at hl 1 rfl) ?_
  refine lv_iload hx hb dL_law_1312 (lv_at hl 5 rfl) ?_
  refine lv_iconst (v := (nI 1)) hx hb dL_law_1314 (by decide) ?_
  refine z_iadd_n hx hb dL_law_1315 ?_
  refine z_sld_n hx hb hX hbl hR dL_law_1316 (by omega) hL ha1 ?_
  refine z_lM_i (As := [.int (nI (key))]) (rest := []) ⟨hx, hb, hml, hown, hts⟩ X0 hR (c_X5_sum_ok X0.2.2.2.1 M key hOM hk_m) (cwV 1 hts gL_law_X5_sum rfl rfl rfl (by decide +kernel) ⟨Nat.le_of_ble_eq_true rfl, Nat.le_of_ble_eq_true rfl⟩) rfl hl rfl (Nat.le_of_ble_eq_true rfl) ⟨by show cells + 1 + 0 ≤ 1096; omega, by show slots + 6 + 0 ≤ 9967; omega⟩ dL_law_1317 (fun r T1 H locs hp hR => ?_)
  obtain ⟨hr1, hs1⟩ := hp
  subst r
  subst T1
  refine lv_istore (lv' := [(6, .int ((zth M 0) 10 key)), (5, .int (nI (0))), (0, .ref (b)), (1, .ref (adx 0)), (2, .ref (adm 0)), (3, .ref (oo)), (4, .int (nI (i)))]) hx hb dL_law_1320 hl (by decide) rfl (fun ls hl => ?_)
  refine lv_aload_n hx hb dL_law_1322 rfl (lv_at hl 4 rfl) ?_
  refine z_lM_i (As := []) (rest := []) ⟨hx, hb, hml, hown, hts⟩ X0 hR (c_X5_thrown X0.2.2.2.1 (zth M 0)) (cwV 0 hts gL_law_X5_thrown rfl rfl rfl (by decide +kernel) ⟨Nat.le_of_ble_eq_true rfl, Nat.le_of_ble_eq_true rfl⟩) rfl hl rfl (Nat.le_of_ble_eq_true rfl) ⟨by show cells + 1 + 0 ≤ 1096; omega, by show slots + 6 + 0 ≤ 9967; omega⟩ dL_law_1323 (fun r M1 H locs hp hR => ?_)
  obtain ⟨hr1, hs1⟩ := hp
  subst M1
  obtain rfl : r = nI 0 := hr1.trans (th_4 _ _)
  refine lv_iload hx hb dL_law_1326 (lv_at hl 1 rfl) ?_
  refine z_eq_n (tgt := 1333) hx hb dL_law_1328 (by decide) (by decide) (by decide) (fun _ => ?_) (fun h => absurd rfl h)
  refine lv_iload hx hb dL_law_1333 (lv_at hl 1 rfl) ?_
  refine z_if_ne_n (tgt := 1350) hx hb dL_law_1335 (by decide) (by decide) (fun h => absurd h (by decide)) (fun _ => ?_)
  refine lv_aload_n hx hb dL_law_1338 rfl (lv_at hl 5 rfl) ?_
  refine lv_iconst (v := (nI 0)) hx hb dL_law_1339 (by decide) ?_
  refine z_l_lald hx hb X0 hR dL_law_1340 ?_
  refine lv_iload hx hb dL_law_1341 (lv_at hl 0 rfl) ?_
  refine lv_i2l (v := (((zth M 0) 10 key)).toInt64) hx hb dL_law_1343 rfl ?_
  refine W.lcmp hx hb dL_law_1344 ?_
  refine lv_topi (fun v9 ev9 => ?_)
  obtain rfl : v9 = nI 0 := ev9.trans (z_cmp_eq (hg.trans (congrArg Int32.toInt64 hres)))
  refine z_if_eq_n (tgt := 1350) hx hb dL_law_1345 (by decide) (by decide) (fun _ => ?_) (fun h => absurd h (by decide))
  refine lv_goto (tgt := 1903) hx hb dL_law_1350 (by decide) ?_
  exact K _ _ _ _ hR (lv_sub hl [2, 3, 4, 5, 6] rfl)
set_option maxHeartbeats 4000000 in
set_option maxRecDepth 100000 in
theorem lw_open_e1 {pg : Program} {l : Launch} {e : Env} {s : State} {m : MethodId} {below : List Frame} {meth : Method} {c : Code} {b L : Nat} {xs : Nat → Int32} {D : va_G} {cI cZ cJ : ClassId} {adx adm : Nat → Nat} {oo : Nat} {Bx Bm : Nat → Prop} (C0 : lw_At pg s m meth c b L xs) (hfl : l.stackTraces = false) (X0 : zLC D cI cZ cJ adx adm oo Bx Bm s) (S M : zS) (g : Nat → Int64) (i : Nat) (x : Int32) (hO : zOK S) (hOM : zOK M) (hxb : zbad x (zn S 22 0)) (hxb_m : zbad x (zn M 22 0)) (ha1 : xs (i + 1) = (x)) (hi : i + 4 ≤ L) (hL : L ≤ 2048) {H : Heap} {locs : List Loc} {cells slots : Nat} {ls : Array Slot} (hcc : cells + 1 ≤ 1096) (hss : slots + 6 ≤ 9967) (hR : zL D cI cZ cJ adx adm oo s H locs S M g) (hl : lv_has ls 7 [(0, .ref (b)), (1, .ref (adx 0)), (2, .ref (adm 0)), (3, .ref (oo)), (4, .int (nI (i)))]) (K : ∀ (g1 : Nat → Int64) (H1 : Heap) (locs1 : List Loc) (ls1 : Array Slot), zL D cI cZ cJ adx adm oo s H1 locs1 (S) (zth M 1) g1 → lv_has ls1 7 [(0, .ref (b)), (1, .ref (adx 0)), (2, .ref (adm 0)), (3, .ref (oo)), (4, .int (nI (i)))] → W pg l e room_1 s m #[Value.ref b] below meth c H1 locs1 (cells + 1) (slots + 6) (lw_Z below #[Value.ref b] s) (F0 m 1903 ls1 [])) : W pg l e room_1 s m #[Value.ref b] below meth c H locs cells slots (lw_Z below #[Value.ref b] s) (F0 m 1353 ls []) := by
  obtain ⟨hx, hb, hr, hml, hown, hts, hX, hbl, hlocks, hgv⟩ := C0
  have hts := fun w h => hts w (wsL_law_in w h)
  have hown : s.vm.findClass RL = some m.cls := hown
  have hb : c.code = cL_law := hb
  refine lv_aload_n hx hb dL_law_1353 rfl (lv_at hl 1 rfl) ?_
  refine lv_aload_n hx hb dL_law_1354 rfl (lv_at hl 0 rfl) ?_
  refine lv_iload hx hb dL_law_1355 (lv_at hl 4 rfl) ?_
  refine lv_iconst (v := (nI 1)) hx hb dL_law_1357 (by decide) ?_
  refine z_iadd_n hx hb dL_law_1358 ?_
  refine z_sld_n hx hb hX hbl hR dL_law_1359 (by omega) hL ha1 ?_
  refine lv_aload_n hx hb dL_law_1360 rfl (lv_at hl 3 rfl) ?_
  refine z_lW (As := [.ref (adx 0), .int (x), .ref (oo)]) (rest := []) ⟨hx, hb, hml, hown, hts⟩ X0 hR (o_open_e1 X0.2.2.1 X0.2.2.2.2.1 hfl S g x hO hxb) (vx_cwSW 3 hts gL_law_L_open rfl rfl rfl (by decide +kernel) ⟨Nat.le_of_ble_eq_true rfl, Nat.le_of_ble_eq_true rfl⟩) rfl hl rfl (Nat.le_of_ble_eq_true rfl) ⟨hcc, hss⟩ dL_law_1361 (fun r S1 g1 H locs hp hR => ?_)
  obtain ⟨hr1, hs1⟩ := hp
  subst r
  have hs1 : S1 = S := hs1
  subst S1
  refine lv_istore (lv' := [(5, .int (nI (1))), (0, .ref (b)), (1, .ref (adx 0)), (2, .ref (adm 0)), (3, .ref (oo)), (4, .int (nI (i)))]) hx hb dL_law_1364 hl (by decide) rfl (fun ls hl => ?_)
  refine lv_aload_n hx hb dL_law_1366 rfl (lv_at hl 3 rfl) ?_
  refine lv_aload_n hx hb dL_law_1367 rfl (lv_at hl 1 rfl) ?_
  refine lv_iload hx hb dL_law_1368 (lv_at hl 5 rfl) ?_
  refine lv_iconst (v := (nI 1)) hx hb dL_law_1370 (by decide) ?_
  refine z_iadd_n hx hb dL_law_1371 ?_
  refine z_sld_n hx hb hX hbl hR dL_law_1372 (by omega) hL ha1 ?_
  refine z_lM_i (As := [.int (x)]) (rest := []) ⟨hx, hb, hml, hown, hts⟩ X0 hR (c_X5_open_e1 X0.2.2.2.1 M x hOM hxb_m) (cwV 1 hts gL_law_X5_open rfl rfl rfl (by decide +kernel) ⟨Nat.le_of_ble_eq_true rfl, Nat.le_of_ble_eq_true rfl⟩) rfl hl rfl (Nat.le_of_ble_eq_true rfl) ⟨by show cells + 1 + 0 ≤ 1096; omega, by show slots + 6 + 0 ≤ 9967; omega⟩ dL_law_1373 (fun r T1 H locs hp hR => ?_)
  obtain ⟨hr1, hs1⟩ := hp
  subst r
  subst T1
  refine lv_istore (lv' := [(6, .int (nI (0))), (5, .int (nI (1))), (0, .ref (b)), (1, .ref (adx 0)), (2, .ref (adm 0)), (3, .ref (oo)), (4, .int (nI (i)))]) hx hb dL_law_1376 hl (by decide) rfl (fun ls hl => ?_)
  refine lv_aload_n hx hb dL_law_1378 rfl (lv_at hl 4 rfl) ?_
  refine z_lM_i (As := []) (rest := []) ⟨hx, hb, hml, hown, hts⟩ X0 hR (c_X5_thrown X0.2.2.2.1 (zth M 1)) (cwV 0 hts gL_law_X5_thrown rfl rfl rfl (by decide +kernel) ⟨Nat.le_of_ble_eq_true rfl, Nat.le_of_ble_eq_true rfl⟩) rfl hl rfl (Nat.le_of_ble_eq_true rfl) ⟨by show cells + 1 + 0 ≤ 1096; omega, by show slots + 6 + 0 ≤ 9967; omega⟩ dL_law_1379 (fun r M1 H locs hp hR => ?_)
  obtain ⟨hr1, hs1⟩ := hp
  subst M1
  obtain rfl : r = nI 1 := hr1.trans (th_4 _ _)
  refine lv_iload hx hb dL_law_1382 (lv_at hl 1 rfl) ?_
  refine z_eq_n (tgt := 1389) hx hb dL_law_1384 (by decide) (by decide) (by decide) (fun _ => ?_) (fun h => absurd rfl h)
  refine lv_iload hx hb dL_law_1389 (lv_at hl 1 rfl) ?_
  refine z_if_ne_n (tgt := 1406) hx hb dL_law_1391 (by decide) (by decide) (fun _ => ?_) (fun h => absurd h (by decide))
  refine lv_goto (tgt := 1903) hx hb dL_law_1406 (by decide) ?_
  exact K _ _ _ _ hR (lv_sub hl [2, 3, 4, 5, 6] rfl)
set_option maxHeartbeats 4000000 in
set_option maxRecDepth 100000 in
theorem lw_open_ok {pg : Program} {l : Launch} {e : Env} {s : State} {m : MethodId} {below : List Frame} {meth : Method} {c : Code} {b L : Nat} {xs : Nat → Int32} {D : va_G} {cI cZ cJ : ClassId} {adx adm : Nat → Nat} {oo : Nat} {Bx Bm : Nat → Prop} (C0 : lw_At pg s m meth c b L xs) (hfl : l.stackTraces = false) (X0 : zLC D cI cZ cJ adx adm oo Bx Bm s) (S M : zS) (g : Nat → Int64) (i : Nat) (w : Nat) (hO : zOK S) (hOM : zOK M) (hw : w < zn S 22 0) (hw_m : w < zn M 22 0) (hres : (sp_op S w 32) = (mo_op (zth M 0) w 32)) (ha1 : xs (i + 1) = (nI (w))) (hi : i + 4 ≤ L) (hL : L ≤ 2048) {H : Heap} {locs : List Loc} {cells slots : Nat} {ls : Array Slot} (hcc : cells + 1 ≤ 1096) (hss : slots + 6 ≤ 9967) (hR : zL D cI cZ cJ adx adm oo s H locs S M g) (hl : lv_has ls 7 [(0, .ref (b)), (1, .ref (adx 0)), (2, .ref (adm 0)), (3, .ref (oo)), (4, .int (nI (i)))]) (K : ∀ (g1 : Nat → Int64) (H1 : Heap) (locs1 : List Loc) (ls1 : Array Slot), zL D cI cZ cJ adx adm oo s H1 locs1 (S) (zth M 0) g1 → lv_has ls1 7 [(0, .ref (b)), (1, .ref (adx 0)), (2, .ref (adm 0)), (3, .ref (oo)), (4, .int (nI (i)))] → W pg l e room_1 s m #[Value.ref b] below meth c H1 locs1 (cells + 1) (slots + 6) (lw_Z below #[Value.ref b] s) (F0 m 1903 ls1 [])) : W pg l e room_1 s m #[Value.ref b] below meth c H locs cells slots (lw_Z below #[Value.ref b] s) (F0 m 1353 ls []) := by
  obtain ⟨hx, hb, hr, hml, hown, hts, hX, hbl, hlocks, hgv⟩ := C0
  have hts := fun w h => hts w (wsL_law_in w h)
  have hown : s.vm.findClass RL = some m.cls := hown
  have hb : c.code = cL_law := hb
  refine lv_aload_n hx hb dL_law_1353 rfl (lv_at hl 1 rfl) ?_
  refine lv_aload_n hx hb dL_law_1354 rfl (lv_at hl 0 rfl) ?_
  refine lv_iload hx hb dL_law_1355 (lv_at hl 4 rfl) ?_
  refine lv_iconst (v := (nI 1)) hx hb dL_law_1357 (by decide) ?_
  refine z_iadd_n hx hb dL_law_1358 ?_
  refine z_sld_n hx hb hX hbl hR dL_law_1359 (by omega) hL ha1 ?_
  refine lv_aload_n hx hb dL_law_1360 rfl (lv_at hl 3 rfl) ?_
  refine z_lW (As := [.ref (adx 0), .int (nI (w)), .ref (oo)]) (rest := []) ⟨hx, hb, hml, hown, hts⟩ X0 hR (o_open_ok X0.2.2.1 X0.2.2.2.2.1 hfl S g w hO hw) (vx_cwSW 3 hts gL_law_L_open rfl rfl rfl (by decide +kernel) ⟨Nat.le_of_ble_eq_true rfl, Nat.le_of_ble_eq_true rfl⟩) rfl hl rfl (Nat.le_of_ble_eq_true rfl) ⟨hcc, hss⟩ dL_law_1361 (fun r S1 g1 H locs hp hR => ?_)
  obtain ⟨hr1, hs1, hg⟩ := hp
  subst r
  have hs1 : S1 = S := hs1
  subst S1
  refine lv_istore (lv' := [(5, .int (nI (0))), (0, .ref (b)), (1, .ref (adx 0)), (2, .ref (adm 0)), (3, .ref (oo)), (4, .int (nI (i)))]) hx hb dL_law_1364 hl (by decide) rfl (fun ls hl => ?_)
  refine lv_aload_n hx hb dL_law_1366 rfl (lv_at hl 3 rfl) ?_
  refine lv_aload_n hx hb dL_law_1367 rfl (lv_at hl 1 rfl) ?_
  refine lv_iload hx hb dL_law_1368 (lv_at hl 5 rfl) ?_
  refine lv_iconst (v := (nI 1)) hx hb dL_law_1370 (by decide) ?_
  refine z_iadd_n hx hb dL_law_1371 ?_
  refine z_sld_n hx hb hX hbl hR dL_law_1372 (by omega) hL ha1 ?_
  refine z_lM_i (As := [.int (nI (w))]) (rest := []) ⟨hx, hb, hml, hown, hts⟩ X0 hR (c_X5_open_ok X0.2.2.2.1 M w hOM hw_m) (cwV 1 hts gL_law_X5_open rfl rfl rfl (by decide +kernel) ⟨Nat.le_of_ble_eq_true rfl, Nat.le_of_ble_eq_true rfl⟩) rfl hl rfl (Nat.le_of_ble_eq_true rfl) ⟨by show cells + 1 + 0 ≤ 1096; omega, by show slots + 6 + 0 ≤ 9967; omega⟩ dL_law_1373 (fun r T1 H locs hp hR => ?_)
  obtain ⟨hr1, hs1⟩ := hp
  subst r
  subst T1
  refine lv_istore (lv' := [(6, .int (mo_op (zth M 0) w 32)), (5, .int (nI (0))), (0, .ref (b)), (1, .ref (adx 0)), (2, .ref (adm 0)), (3, .ref (oo)), (4, .int (nI (i)))]) hx hb dL_law_1376 hl (by decide) rfl (fun ls hl => ?_)
  refine lv_aload_n hx hb dL_law_1378 rfl (lv_at hl 4 rfl) ?_
  refine z_lM_i (As := []) (rest := []) ⟨hx, hb, hml, hown, hts⟩ X0 hR (c_X5_thrown X0.2.2.2.1 (zth M 0)) (cwV 0 hts gL_law_X5_thrown rfl rfl rfl (by decide +kernel) ⟨Nat.le_of_ble_eq_true rfl, Nat.le_of_ble_eq_true rfl⟩) rfl hl rfl (Nat.le_of_ble_eq_true rfl) ⟨by show cells + 1 + 0 ≤ 1096; omega, by show slots + 6 + 0 ≤ 9967; omega⟩ dL_law_1379 (fun r M1 H locs hp hR => ?_)
  obtain ⟨hr1, hs1⟩ := hp
  subst M1
  obtain rfl : r = nI 0 := hr1.trans (th_4 _ _)
  refine lv_iload hx hb dL_law_1382 (lv_at hl 1 rfl) ?_
  refine z_eq_n (tgt := 1389) hx hb dL_law_1384 (by decide) (by decide) (by decide) (fun _ => ?_) (fun h => absurd rfl h)
  refine lv_iload hx hb dL_law_1389 (lv_at hl 1 rfl) ?_
  refine z_if_ne_n (tgt := 1406) hx hb dL_law_1391 (by decide) (by decide) (fun h => absurd h (by decide)) (fun _ => ?_)
  refine lv_aload_n hx hb dL_law_1394 rfl (lv_at hl 5 rfl) ?_
  refine lv_iconst (v := (nI 0)) hx hb dL_law_1395 (by decide) ?_
  refine z_l_lald hx hb X0 hR dL_law_1396 ?_
  refine lv_iload hx hb dL_law_1397 (lv_at hl 0 rfl) ?_
  refine lv_i2l (v := ((mo_op (zth M 0) w 32)).toInt64) hx hb dL_law_1399 rfl ?_
  refine W.lcmp hx hb dL_law_1400 ?_
  refine lv_topi (fun v9 ev9 => ?_)
  obtain rfl : v9 = nI 0 := ev9.trans (z_cmp_eq (hg.trans (congrArg Int32.toInt64 hres)))
  refine z_if_eq_n (tgt := 1406) hx hb dL_law_1401 (by decide) (by decide) (fun _ => ?_) (fun h => absurd h (by decide))
  refine lv_goto (tgt := 1903) hx hb dL_law_1406 (by decide) ?_
  exact K _ _ _ _ hR (lv_sub hl [2, 3, 4, 5, 6] rfl)
