set_option maxHeartbeats 4000000 in
set_option maxRecDepth 100000 in
theorem lw_append_e1 {pg : Program} {l : Launch} {e : Env} {s : State} {m : MethodId} {below : List Frame} {meth : Method} {c : Code} {b L : Nat} {xs : Nat → Int32} {D : va_G} {cI cZ cJ : ClassId} {adx adm : Nat → Nat} {oo : Nat} {Bx Bm : Nat → Prop} (C0 : lw_At pg s m meth c b L xs) (hfl : l.stackTraces = false) (X0 : zLC D cI cZ cJ adx adm oo Bx Bm s) (S M : zS) (g : Nat → Int64) (i : Nat) (x : Int32) (y : Int32) (z : Int32) (hO : zOK S) (hOM : zOK M) (hxb : zbad x 4) (hxb_m : zbad x 4) (ha1 : xs (i + 1) = (x)) (ha2 : xs (i + 2) = (y)) (ha3 : xs (i + 3) = (z)) (hi : i + 4 ≤ L) (hL : L ≤ 2048) {H : Heap} {locs : List Loc} {cells slots : Nat} {ls : Array Slot} (hcc : cells + 1 ≤ 1096) (hss : slots + 6 ≤ 9967) (hR : zL D cI cZ cJ adx adm oo s H locs S M g) (hl : lv_has ls 7 [(0, .ref (b)), (1, .ref (adx 0)), (2, .ref (adm 0)), (3, .ref (oo)), (4, .int (nI (i)))]) (K : ∀ (g1 : Nat → Int64) (H1 : Heap) (locs1 : List Loc) (ls1 : Array Slot), zL D cI cZ cJ adx adm oo s H1 locs1 (S) (zth M 1) g1 → lv_has ls1 7 [(0, .ref (b)), (1, .ref (adx 0)), (2, .ref (adm 0)), (3, .ref (oo)), (4, .int (nI (i)))] → W pg l e room_1 s m #[Value.ref b] below meth c H1 locs1 (cells + 1) (slots + 6) (lw_Z below #[Value.ref b] s) (F0 m 1903 ls1 [])) : W pg l e room_1 s m #[Value.ref b] below meth c H locs cells slots (lw_Z below #[Value.ref b] s) (F0 m 184 ls []) := by
  obtain ⟨hx, hb, hr, hml, hown, hts, hX, hbl, hlocks, hgv⟩ := C0
  have hts := fun w h => hts w (wsL_law_in w h)
  have hown : s.vm.findClass RL = some m.cls := hown
  have hb : c.code = cL_law := hb
  refine lv_aload_n hx hb dL_law_184 rfl (lv_at hl 1 rfl) ?_
  refine lv_aload_n hx hb dL_law_185 rfl (lv_at hl 0 rfl) ?_
  refine lv_iload hx hb dL_law_186 (lv_at hl 4 rfl) ?_
  refine lv_iconst (v := (nI 1)) hx hb dL_law_188 (by decide) ?_
  refine z_iadd_n hx hb dL_law_189 ?_
  refine z_sld_n hx hb hX hbl hR dL_law_190 (by omega) hL ha1 ?_
  refine lv_aload_n hx hb dL_law_191 rfl (lv_at hl 0 rfl) ?_
  refine lv_iload hx hb dL_law_192 (lv_at hl 4 rfl) ?_
  refine lv_iconst (v := (nI 2)) hx hb dL_law_194 (by decide) ?_
  refine z_iadd_n hx hb dL_law_195 ?_
  refine z_sld_n hx hb hX hbl hR dL_law_196 (by omega) hL ha2 ?_
  refine lv_aload_n hx hb dL_law_197 rfl (lv_at hl 0 rfl) ?_
  refine lv_iload hx hb dL_law_198 (lv_at hl 4 rfl) ?_
  refine lv_iconst (v := (nI 3)) hx hb dL_law_200 (by decide) ?_
  refine z_iadd_n hx hb dL_law_201 ?_
  refine z_sld_n hx hb hX hbl hR dL_law_202 (by omega) hL ha3 ?_
  refine lv_aload_n hx hb dL_law_203 rfl (lv_at hl 3 rfl) ?_
  refine z_lW (As := [.ref (adx 0), .int (x), .int (y), .int (z), .ref (oo)]) (rest := []) ⟨hx, hb, hml, hown, hts⟩ X0 hR (o_append_e1 X0.2.2.1 X0.2.2.2.2.1 hfl S g x y z hO hxb) (vx_cwSW 5 hts gL_law_L_append rfl rfl rfl (by decide +kernel) ⟨Nat.le_of_ble_eq_true rfl, Nat.le_of_ble_eq_true rfl⟩) rfl hl rfl (Nat.le_of_ble_eq_true rfl) ⟨hcc, hss⟩ dL_law_204 (fun r S1 g1 H locs hp hR => ?_)
  obtain ⟨hr1, hs1⟩ := hp
  subst r
  have hs1 : S1 = S := hs1
  subst S1
  refine lv_istore (lv' := [(5, .int (nI (1))), (0, .ref (b)), (1, .ref (adx 0)), (2, .ref (adm 0)), (3, .ref (oo)), (4, .int (nI (i)))]) hx hb dL_law_207 hl (by decide) rfl (fun ls hl => ?_)
  refine lv_aload_n hx hb dL_law_209 rfl (lv_at hl 3 rfl) ?_
  refine lv_aload_n hx hb dL_law_210 rfl (lv_at hl 1 rfl) ?_
  refine lv_iload hx hb dL_law_211 (lv_at hl 5 rfl) ?_
  refine lv_iconst (v := (nI 1)) hx hb dL_law_213 (by decide) ?_
  refine z_iadd_n hx hb dL_law_214 ?_
  refine z_sld_n hx hb hX hbl hR dL_law_215 (by omega) hL ha1 ?_
  refine lv_aload_n hx hb dL_law_216 rfl (lv_at hl 1 rfl) ?_
  refine lv_iload hx hb dL_law_217 (lv_at hl 5 rfl) ?_
  refine lv_iconst (v := (nI 2)) hx hb dL_law_219 (by decide) ?_
  refine z_iadd_n hx hb dL_law_220 ?_
  refine z_sld_n hx hb hX hbl hR dL_law_221 (by omega) hL ha2 ?_
  refine lv_aload_n hx hb dL_law_222 rfl (lv_at hl 1 rfl) ?_
  refine lv_iload hx hb dL_law_223 (lv_at hl 5 rfl) ?_
  refine lv_iconst (v := (nI 3)) hx hb dL_law_225 (by decide) ?_
  refine z_iadd_n hx hb dL_law_226 ?_
  refine z_sld_n hx hb hX hbl hR dL_law_227 (by omega) hL ha3 ?_
  refine z_lM_i (As := [.int (x), .int (y), .int (z)]) (rest := []) ⟨hx, hb, hml, hown, hts⟩ X0 hR (c_X5_append_e1 X0.2.2.2.1 M x y z hOM hxb_m) (cwV 3 hts gL_law_X5_append rfl rfl rfl (by decide +kernel) ⟨Nat.le_of_ble_eq_true rfl, Nat.le_of_ble_eq_true rfl⟩) rfl hl rfl (Nat.le_of_ble_eq_true rfl) ⟨by show cells + 1 + 0 ≤ 1096; omega, by show slots + 6 + 0 ≤ 9967; omega⟩ dL_law_228 (fun r T1 H locs hp hR => ?_)
  obtain ⟨hr1, hs1⟩ := hp
  subst r
  subst T1
  refine lv_istore (lv' := [(6, .int (nI (0))), (5, .int (nI (1))), (0, .ref (b)), (1, .ref (adx 0)), (2, .ref (adm 0)), (3, .ref (oo)), (4, .int (nI (i)))]) hx hb dL_law_231 hl (by decide) rfl (fun ls hl => ?_)
  refine lv_aload_n hx hb dL_law_233 rfl (lv_at hl 4 rfl) ?_
  refine z_lM_i (As := []) (rest := []) ⟨hx, hb, hml, hown, hts⟩ X0 hR (c_X5_thrown X0.2.2.2.1 (zth M 1)) (cwV 0 hts gL_law_X5_thrown rfl rfl rfl (by decide +kernel) ⟨Nat.le_of_ble_eq_true rfl, Nat.le_of_ble_eq_true rfl⟩) rfl hl rfl (Nat.le_of_ble_eq_true rfl) ⟨by show cells + 1 + 0 ≤ 1096; omega, by show slots + 6 + 0 ≤ 9967; omega⟩ dL_law_234 (fun r M1 H locs hp hR => ?_)
  obtain ⟨hr1, hs1⟩ := hp
  subst M1
  obtain rfl : r = nI 1 := hr1.trans (th_4 _ _)
  refine lv_iload hx hb dL_law_237 (lv_at hl 1 rfl) ?_
  refine z_eq_n (tgt := 244) hx hb dL_law_239 (by decide) (by decide) (by decide) (fun _ => ?_) (fun h => absurd rfl h)
  refine lv_iload hx hb dL_law_244 (lv_at hl 1 rfl) ?_
  refine z_if_ne_n (tgt := 261) hx hb dL_law_246 (by decide) (by decide) (fun _ => ?_) (fun h => absurd h (by decide))
  refine lv_goto (tgt := 1903) hx hb dL_law_261 (by decide) ?_
  exact K _ _ _ _ hR (lv_sub hl [2, 3, 4, 5, 6] rfl)
set_option maxHeartbeats 4000000 in
set_option maxRecDepth 100000 in
theorem lw_append_e2 {pg : Program} {l : Launch} {e : Env} {s : State} {m : MethodId} {below : List Frame} {meth : Method} {c : Code} {b L : Nat} {xs : Nat → Int32} {D : va_G} {cI cZ cJ : ClassId} {adx adm : Nat → Nat} {oo : Nat} {Bx Bm : Nat → Prop} (C0 : lw_At pg s m meth c b L xs) (hfl : l.stackTraces = false) (X0 : zLC D cI cZ cJ adx adm oo Bx Bm s) (S M : zS) (g : Nat → Int64) (i : Nat) (p : Nat) (y : Int32) (z : Int32) (hO : zOK S) (hOM : zOK M) (hp : p < 4) (hxb : zbad y 32) (hp_m : p < 4) (hxb_m : zbad y 32) (ha1 : xs (i + 1) = (nI (p))) (ha2 : xs (i + 2) = (y)) (ha3 : xs (i + 3) = (z)) (hi : i + 4 ≤ L) (hL : L ≤ 2048) {H : Heap} {locs : List Loc} {cells slots : Nat} {ls : Array Slot} (hcc : cells + 1 ≤ 1096) (hss : slots + 6 ≤ 9967) (hR : zL D cI cZ cJ adx adm oo s H locs S M g) (hl : lv_has ls 7 [(0, .ref (b)), (1, .ref (adx 0)), (2, .ref (adm 0)), (3, .ref (oo)), (4, .int (nI (i)))]) (K : ∀ (g1 : Nat → Int64) (H1 : Heap) (locs1 : List Loc) (ls1 : Array Slot), zL D cI cZ cJ adx adm oo s H1 locs1 (S) (zth M 1) g1 → lv_has ls1 7 [(0, .ref (b)), (1, .ref (adx 0)), (2, .ref (adm 0)), (3, .ref (oo)), (4, .int (nI (i)))] → W pg l e room_1 s m #[Value.ref b] below meth c H1 locs1 (cells + 1) (slots + 6) (lw_Z below #[Value.ref b] s) (F0 m 1903 ls1 [])) : W pg l e room_1 s m #[Value.ref b] below meth c H locs cells slots (lw_Z below #[Value.ref b] s) (F0 m 184 ls []) := by
  obtain ⟨hx, hb, hr, hml, hown, hts, hX, hbl, hlocks, hgv⟩ := C0
  have hts := fun w h => hts w (wsL_law_in w h)
  have hown : s.vm.findClass RL = some m.cls := hown
  have hb : c.code = cL_law := hb
  refine lv_aload_n hx hb dL_law_184 rfl (lv_at hl 1 rfl) ?_
  refine lv_aload_n hx hb dL_law_185 rfl (lv_at hl 0 rfl) ?_
  refine lv_iload hx hb dL_law_186 (lv_at hl 4 rfl) ?_
  refine lv_iconst (v := (nI 1)) hx hb dL_law_188 (by decide) ?_
  refine z_iadd_n hx hb dL_law_189 ?_
  refine z_sld_n hx hb hX hbl hR dL_law_190 (by omega) hL ha1 ?_
  refine lv_aload_n hx hb dL_law_191 rfl (lv_at hl 0 rfl) ?_
  refine lv_iload hx hb dL_law_192 (lv_at hl 4 rfl) ?_
  refine lv_iconst (v := (nI 2)) hx hb dL_law_194 (by decide) ?_
  refine z_iadd_n hx hb dL_law_195 ?_
  refine z_sld_n hx hb hX hbl hR dL_law_196 (by omega) hL ha2 ?_
  refine lv_aload_n hx hb dL_law_197 rfl (lv_at hl 0 rfl) ?_
  refine lv_iload hx hb dL_law_198 (lv_at hl 4 rfl) ?_
  refine lv_iconst (v := (nI 3)) hx hb dL_law_200 (by decide) ?_
  refine z_iadd_n hx hb dL_law_201 ?_
  refine z_sld_n hx hb hX hbl hR dL_law_202 (by omega) hL ha3 ?_
  refine lv_aload_n hx hb dL_law_203 rfl (lv_at hl 3 rfl) ?_
  refine z_lW (As := [.ref (adx 0), .int (nI (p)), .int (y), .int (z), .ref (oo)]) (rest := []) ⟨hx, hb, hml, hown, hts⟩ X0 hR (o_append_e2 X0.2.2.1 X0.2.2.2.2.1 hfl S g p y z hO hp hxb) (vx_cwSW 5 hts gL_law_L_append rfl rfl rfl (by decide +kernel) ⟨Nat.le_of_ble_eq_true rfl, Nat.le_of_ble_eq_true rfl⟩) rfl hl rfl (Nat.le_of_ble_eq_true rfl) ⟨hcc, hss⟩ dL_law_204 (fun r S1 g1 H locs hp hR => ?_)
  obtain ⟨hr1, hs1⟩ := hp
  subst r
  have hs1 : S1 = S := hs1
  subst S1
  refine lv_istore (lv' := [(5, .int (nI (1))), (0, .ref (b)), (1, .ref (adx 0)), (2, .ref (adm 0)), (3, .ref (oo)), (4, .int (nI (i)))]) hx hb dL_law_207 hl (by decide) rfl (fun ls hl => ?_)
  refine lv_aload_n hx hb dL_law_209 rfl (lv_at hl 3 rfl) ?_
  refine lv_aload_n hx hb dL_law_210 rfl (lv_at hl 1 rfl) ?_
  refine lv_iload hx hb dL_law_211 (lv_at hl 5 rfl) ?_
  refine lv_iconst (v := (nI 1)) hx hb dL_law_213 (by decide) ?_
  refine z_iadd_n hx hb dL_law_214 ?_
  refine z_sld_n hx hb hX hbl hR dL_law_215 (by omega) hL ha1 ?_
  refine lv_aload_n hx hb dL_law_216 rfl (lv_at hl 1 rfl) ?_
  refine lv_iload hx hb dL_law_217 (lv_at hl 5 rfl) ?_
  refine lv_iconst (v := (nI 2)) hx hb dL_law_219 (by decide) ?_
  refine z_iadd_n hx hb dL_law_220 ?_
  refine z_sld_n hx hb hX hbl hR dL_law_221 (by omega) hL ha2 ?_
  refine lv_aload_n hx hb dL_law_222 rfl (lv_at hl 1 rfl) ?_
  refine lv_iload hx hb dL_law_223 (lv_at hl 5 rfl) ?_
  refine lv_iconst (v := (nI 3)) hx hb dL_law_225 (by decide) ?_
  refine z_iadd_n hx hb dL_law_226 ?_
  refine z_sld_n hx hb hX hbl hR dL_law_227 (by omega) hL ha3 ?_
  refine z_lM_i (As := [.int (nI (p)), .int (y), .int (z)]) (rest := []) ⟨hx, hb, hml, hown, hts⟩ X0 hR (c_X5_append_e2 X0.2.2.2.1 M p y z hOM hp_m hxb_m) (cwV 3 hts gL_law_X5_append rfl rfl rfl (by decide +kernel) ⟨Nat.le_of_ble_eq_true rfl, Nat.le_of_ble_eq_true rfl⟩) rfl hl rfl (Nat.le_of_ble_eq_true rfl) ⟨by show cells + 1 + 0 ≤ 1096; omega, by show slots + 6 + 0 ≤ 9967; omega⟩ dL_law_228 (fun r T1 H locs hp hR => ?_)
  obtain ⟨hr1, hs1⟩ := hp
  subst r
  subst T1
  refine lv_istore (lv' := [(6, .int (nI (0))), (5, .int (nI (1))), (0, .ref (b)), (1, .ref (adx 0)), (2, .ref (adm 0)), (3, .ref (oo)), (4, .int (nI (i)))]) hx hb dL_law_231 hl (by decide) rfl (fun ls hl => ?_)
  refine lv_aload_n hx hb dL_law_233 rfl (lv_at hl 4 rfl) ?_
  refine z_lM_i (As := []) (rest := []) ⟨hx, hb, hml, hown, hts⟩ X0 hR (c_X5_thrown X0.2.2.2.1 (zth M 1)) (cwV 0 hts gL_law_X5_thrown rfl rfl rfl (by decide +kernel) ⟨Nat.le_of_ble_eq_true rfl, Nat.le_of_ble_eq_true rfl⟩) rfl hl rfl (Nat.le_of_ble_eq_true rfl) ⟨by show cells + 1 + 0 ≤ 1096; omega, by show slots + 6 + 0 ≤ 9967; omega⟩ dL_law_234 (fun r M1 H locs hp hR => ?_)
  obtain ⟨hr1, hs1⟩ := hp
  subst M1
  obtain rfl : r = nI 1 := hr1.trans (th_4 _ _)
  refine lv_iload hx hb dL_law_237 (lv_at hl 1 rfl) ?_
  refine z_eq_n (tgt := 244) hx hb dL_law_239 (by decide) (by decide) (by decide) (fun _ => ?_) (fun h => absurd rfl h)
  refine lv_iload hx hb dL_law_244 (lv_at hl 1 rfl) ?_
  refine z_if_ne_n (tgt := 261) hx hb dL_law_246 (by decide) (by decide) (fun _ => ?_) (fun h => absurd h (by decide))
  refine lv_goto (tgt := 1903) hx hb dL_law_261 (by decide) ?_
  exact K _ _ _ _ hR (lv_sub hl [2, 3, 4, 5, 6] rfl)
set_option maxHeartbeats 4000000 in
set_option maxRecDepth 100000 in
theorem lw_append_e3 {pg : Program} {l : Launch} {e : Env} {s : State} {m : MethodId} {below : List Frame} {meth : Method} {c : Code} {b L : Nat} {xs : Nat → Int32} {D : va_G} {cI cZ cJ : ClassId} {adx adm : Nat → Nat} {oo : Nat} {Bx Bm : Nat → Prop} (C0 : lw_At pg s m meth c b L xs) (hfl : l.stackTraces = false) (X0 : zLC D cI cZ cJ adx adm oo Bx Bm s) (S M : zS) (g : Nat → Int64) (i : Nat) (p : Nat) (key : Nat) (z : Int32) (hO : zOK S) (hOM : zOK M) (hp : p < 4) (hk : key < 32) (hz : zbadv z 1 100) (hp_m : p < 4) (hk_m : key < 32) (hz9_m : zbadv z 1 100) (ha1 : xs (i + 1) = (nI (p))) (ha2 : xs (i + 2) = (nI (key))) (ha3 : xs (i + 3) = (z)) (hi : i + 4 ≤ L) (hL : L ≤ 2048) {H : Heap} {locs : List Loc} {cells slots : Nat} {ls : Array Slot} (hcc : cells + 1 ≤ 1096) (hss : slots + 6 ≤ 9967) (hR : zL D cI cZ cJ adx adm oo s H locs S M g) (hl : lv_has ls 7 [(0, .ref (b)), (1, .ref (adx 0)), (2, .ref (adm 0)), (3, .ref (oo)), (4, .int (nI (i)))]) (K : ∀ (g1 : Nat → Int64) (H1 : Heap) (locs1 : List Loc) (ls1 : Array Slot), zL D cI cZ cJ adx adm oo s H1 locs1 (S) (zth M 2) g1 → lv_has ls1 7 [(0, .ref (b)), (1, .ref (adx 0)), (2, .ref (adm 0)), (3, .ref (oo)), (4, .int (nI (i)))] → W pg l e room_1 s m #[Value.ref b] below meth c H1 locs1 (cells + 1) (slots + 6) (lw_Z below #[Value.ref b] s) (F0 m 1903 ls1 [])) : W pg l e room_1 s m #[Value.ref b] below meth c H locs cells slots (lw_Z below #[Value.ref b] s) (F0 m 184 ls []) := by
  obtain ⟨hx, hb, hr, hml, hown, hts, hX, hbl, hlocks, hgv⟩ := C0
  have hts := fun w h => hts w (wsL_law_in w h)
  have hown : s.vm.findClass RL = some m.cls := hown
  have hb : c.code = cL_law := hb
  refine lv_aload_n hx hb dL_law_184 rfl (lv_at hl 1 rfl) ?_
  refine lv_aload_n hx hb dL_law_185 rfl (lv_at hl 0 rfl) ?_
  refine lv_iload hx hb dL_law_186 (lv_at hl 4 rfl) ?_
  refine lv_iconst (v := (nI 1)) hx hb dL_law_188 (by decide) ?_
  refine z_iadd_n hx hb dL_law_189 ?_
  refine z_sld_n hx hb hX hbl hR dL_law_190 (by omega) hL ha1 ?_
  refine lv_aload_n hx hb dL_law_191 rfl (lv_at hl 0 rfl) ?_
  refine lv_iload hx hb dL_law_192 (lv_at hl 4 rfl) ?_
  refine lv_iconst (v := (nI 2)) hx hb dL_law_194 (by decide) ?_
  refine z_iadd_n hx hb dL_law_195 ?_
  refine z_sld_n hx hb hX hbl hR dL_law_196 (by omega) hL ha2 ?_
  refine lv_aload_n hx hb dL_law_197 rfl (lv_at hl 0 rfl) ?_
  refine lv_iload hx hb dL_law_198 (lv_at hl 4 rfl) ?_
  refine lv_iconst (v := (nI 3)) hx hb dL_law_200 (by decide) ?_
  refine z_iadd_n hx hb dL_law_201 ?_
  refine z_sld_n hx hb hX hbl hR dL_law_202 (by omega) hL ha3 ?_
  refine lv_aload_n hx hb dL_law_203 rfl (lv_at hl 3 rfl) ?_
  refine z_lW (As := [.ref (adx 0), .int (nI (p)), .int (nI (key)), .int (z), .ref (oo)]) (rest := []) ⟨hx, hb, hml, hown, hts⟩ X0 hR (o_append_e3 X0.2.2.1 X0.2.2.2.2.1 hfl S g p key z hO hp hk hz) (vx_cwSW 5 hts gL_law_L_append rfl rfl rfl (by decide +kernel) ⟨Nat.le_of_ble_eq_true rfl, Nat.le_of_ble_eq_true rfl⟩) rfl hl rfl (Nat.le_of_ble_eq_true rfl) ⟨hcc, hss⟩ dL_law_204 (fun r S1 g1 H locs hp hR => ?_)
  obtain ⟨hr1, hs1⟩ := hp
  subst r
  have hs1 : S1 = S := hs1
  subst S1
  refine lv_istore (lv' := [(5, .int (nI (2))), (0, .ref (b)), (1, .ref (adx 0)), (2, .ref (adm 0)), (3, .ref (oo)), (4, .int (nI (i)))]) hx hb dL_law_207 hl (by decide) rfl (fun ls hl => ?_)
  refine lv_aload_n hx hb dL_law_209 rfl (lv_at hl 3 rfl) ?_
  refine lv_aload_n hx hb dL_law_210 rfl (lv_at hl 1 rfl) ?_
  refine lv_iload hx hb dL_law_211 (lv_at hl 5 rfl) ?_
  refine lv_iconst (v := (nI 1)) hx hb dL_law_213 (by decide) ?_
  refine z_iadd_n hx hb dL_law_214 ?_
  refine z_sld_n hx hb hX hbl hR dL_law_215 (by omega) hL ha1 ?_
  refine lv_aload_n hx hb dL_law_216 rfl (lv_at hl 1 rfl) ?_
  refine lv_iload hx hb dL_law_217 (lv_at hl 5 rfl) ?_
  refine lv_iconst (v := (nI 2)) hx hb dL_law_219 (by decide) ?_
  refine z_iadd_n hx hb dL_law_220 ?_
  refine z_sld_n hx hb hX hbl hR dL_law_221 (by omega) hL ha2 ?_
  refine lv_aload_n hx hb dL_law_222 rfl (lv_at hl 1 rfl) ?_
  refine lv_iload hx hb dL_law_223 (lv_at hl 5 rfl) ?_
  refine lv_iconst (v := (nI 3)) hx hb dL_law_225 (by decide) ?_
  refine z_iadd_n hx hb dL_law_226 ?_
  refine z_sld_n hx hb hX hbl hR dL_law_227 (by omega) hL ha3 ?_
  refine z_lM_i (As := [.int (nI (p)), .int (nI (key)), .int (z)]) (rest := []) ⟨hx, hb, hml, hown, hts⟩ X0 hR (c_X5_append_e3 X0.2.2.2.1 M p key z hOM hp_m hk_m hz9_m) (cwV 3 hts gL_law_X5_append rfl rfl rfl (by decide +kernel) ⟨Nat.le_of_ble_eq_true rfl, Nat.le_of_ble_eq_true rfl⟩) rfl hl rfl (Nat.le_of_ble_eq_true rfl) ⟨by show cells + 1 + 0 ≤ 1096; omega, by show slots + 6 + 0 ≤ 9967; omega⟩ dL_law_228 (fun r T1 H locs hp hR => ?_)
  obtain ⟨hr1, hs1⟩ := hp
  subst r
  subst T1
  refine lv_istore (lv' := [(6, .int (nI (0))), (5, .int (nI (2))), (0, .ref (b)), (1, .ref (adx 0)), (2, .ref (adm 0)), (3, .ref (oo)), (4, .int (nI (i)))]) hx hb dL_law_231 hl (by decide) rfl (fun ls hl => ?_)
  refine lv_aload_n hx hb dL_law_233 rfl (lv_at hl 4 rfl) ?_
  refine z_lM_i (As := []) (rest := []) ⟨hx, hb, hml, hown, hts⟩ X0 hR (c_X5_thrown X0.2.2.2.1 (zth M 2)) (cwV 0 hts gL_law_X5_thrown rfl rfl rfl (by decide +kernel) ⟨Nat.le_of_ble_eq_true rfl, Nat.le_of_ble_eq_true rfl⟩) rfl hl rfl (Nat.le_of_ble_eq_true rfl) ⟨by show cells + 1 + 0 ≤ 1096; omega, by show slots + 6 + 0 ≤ 9967; omega⟩ dL_law_234 (fun r M1 H locs hp hR => ?_)
  obtain ⟨hr1, hs1⟩ := hp
  subst M1
  obtain rfl : r = nI 2 := hr1.trans (th_4 _ _)
  refine lv_iload hx hb dL_law_237 (lv_at hl 1 rfl) ?_
  refine z_eq_n (tgt := 244) hx hb dL_law_239 (by decide) (by decide) (by decide) (fun _ => ?_) (fun h => absurd rfl h)
  refine lv_iload hx hb dL_law_244 (lv_at hl 1 rfl) ?_
  refine z_if_ne_n (tgt := 261) hx hb dL_law_246 (by decide) (by decide) (fun _ => ?_) (fun h => absurd h (by decide))
  refine lv_goto (tgt := 1903) hx hb dL_law_261 (by decide) ?_
  exact K _ _ _ _ hR (lv_sub hl [2, 3, 4, 5, 6] rfl)
set_option maxHeartbeats 4000000 in
set_option maxRecDepth 100000 in
theorem lw_append_e4 {pg : Program} {l : Launch} {e : Env} {s : State} {m : MethodId} {below : List Frame} {meth : Method} {c : Code} {b L : Nat} {xs : Nat → Int32} {D : va_G} {cI cZ cJ : ClassId} {adx adm : Nat → Nat} {oo : Nat} {Bx Bm : Nat → Prop} (C0 : lw_At pg s m meth c b L xs) (hfl : l.stackTraces = false) (X0 : zLC D cI cZ cJ adx adm oo Bx Bm s) (S M : zS) (g : Nat → Int64) (i : Nat) (p : Nat) (key : Nat) (v : Nat) (hO : zOK S) (hOM : zOK M) (hp : p < 4) (hk : key < 32) (hv : 1 ≤ v) (hv2 : v ≤ 100) (hn : ¬ zn S 0 p < 60) (hp_m : p < 4) (hk_m : key < 32) (hv_m : 1 ≤ v) (hv2_m : v ≤ 100) (hn_m : ¬ zn M 0 p < 60) (ha1 : xs (i + 1) = (nI (p))) (ha2 : xs (i + 2) = (nI (key))) (ha3 : xs (i + 3) = (nI (v))) (hi : i + 4 ≤ L) (hL : L ≤ 2048) {H : Heap} {locs : List Loc} {cells slots : Nat} {ls : Array Slot} (hcc : cells + 1 ≤ 1096) (hss : slots + 6 ≤ 9967) (hR : zL D cI cZ cJ adx adm oo s H locs S M g) (hl : lv_has ls 7 [(0, .ref (b)), (1, .ref (adx 0)), (2, .ref (adm 0)), (3, .ref (oo)), (4, .int (nI (i)))]) (K : ∀ (g1 : Nat → Int64) (H1 : Heap) (locs1 : List Loc) (ls1 : Array Slot), zL D cI cZ cJ adx adm oo s H1 locs1 (S) (zth M 3) g1 → lv_has ls1 7 [(0, .ref (b)), (1, .ref (adx 0)), (2, .ref (adm 0)), (3, .ref (oo)), (4, .int (nI (i)))] → W pg l e room_1 s m #[Value.ref b] below meth c H1 locs1 (cells + 1) (slots + 6) (lw_Z below #[Value.ref b] s) (F0 m 1903 ls1 [])) : W pg l e room_1 s m #[Value.ref b] below meth c H locs cells slots (lw_Z below #[Value.ref b] s) (F0 m 184 ls []) := by
  obtain ⟨hx, hb, hr, hml, hown, hts, hX, hbl, hlocks, hgv⟩ := C0
  have hts := fun w h => hts w (wsL_law_in w h)
  have hown : s.vm.findClass RL = some m.cls := hown
  have hb : c.code = cL_law := hb
  refine lv_aload_n hx hb dL_law_184 rfl (lv_at hl 1 rfl) ?_
  refine lv_aload_n hx hb dL_law_185 rfl (lv_at hl 0 rfl) ?_
  refine lv_iload hx hb dL_law_186 (lv_at hl 4 rfl) ?_
  refine lv_iconst (v := (nI 1)) hx hb dL_law_188 (by decide) ?_
  refine z_iadd_n hx hb dL_law_189 ?_
  refine z_sld_n hx hb hX hbl hR dL_law_190 (by omega) hL ha1 ?_
  refine lv_aload_n hx hb dL_law_191 rfl (lv_at hl 0 rfl) ?_
  refine lv_iload hx hb dL_law_192 (lv_at hl 4 rfl) ?_
  refine lv_iconst (v := (nI 2)) hx hb dL_law_194 (by decide) ?_
  refine z_iadd_n hx hb dL_law_195 ?_
  refine z_sld_n hx hb hX hbl hR dL_law_196 (by omega) hL ha2 ?_
  refine lv_aload_n hx hb dL_law_197 rfl (lv_at hl 0 rfl) ?_
  refine lv_iload hx hb dL_law_198 (lv_at hl 4 rfl) ?_
  refine lv_iconst (v := (nI 3)) hx hb dL_law_200 (by decide) ?_
  refine z_iadd_n hx hb dL_law_201 ?_
  refine z_sld_n hx hb hX hbl hR dL_law_202 (by omega) hL ha3 ?_
  refine lv_aload_n hx hb dL_law_203 rfl (lv_at hl 3 rfl) ?_
  refine z_lW (As := [.ref (adx 0), .int (nI (p)), .int (nI (key)), .int (nI (v)), .ref (oo)]) (rest := []) ⟨hx, hb, hml, hown, hts⟩ X0 hR (o_append_e4 X0.2.2.1 X0.2.2.2.2.1 hfl S g p key v hO hp hk hv hv2 hn) (vx_cwSW 5 hts gL_law_L_append rfl rfl rfl (by decide +kernel) ⟨Nat.le_of_ble_eq_true rfl, Nat.le_of_ble_eq_true rfl⟩) rfl hl rfl (Nat.le_of_ble_eq_true rfl) ⟨hcc, hss⟩ dL_law_204 (fun r S1 g1 H locs hp hR => ?_)
  obtain ⟨hr1, hs1⟩ := hp
  subst r
  have hs1 : S1 = S := hs1
  subst S1
  refine lv_istore (lv' := [(5, .int (nI (3))), (0, .ref (b)), (1, .ref (adx 0)), (2, .ref (adm 0)), (3, .ref (oo)), (4, .int (nI (i)))]) hx hb dL_law_207 hl (by decide) rfl (fun ls hl => ?_)
  refine lv_aload_n hx hb dL_law_209 rfl (lv_at hl 3 rfl) ?_
  refine lv_aload_n hx hb dL_law_210 rfl (lv_at hl 1 rfl) ?_
  refine lv_iload hx hb dL_law_211 (lv_at hl 5 rfl) ?_
  refine lv_iconst (v := (nI 1)) hx hb dL_law_213 (by decide) ?_
  refine z_iadd_n hx hb dL_law_214 ?_
  refine z_sld_n hx hb hX hbl hR dL_law_215 (by omega) hL ha1 ?_
  refine lv_aload_n hx hb dL_law_216 rfl (lv_at hl 1 rfl) ?_
  refine lv_iload hx hb dL_law_217 (lv_at hl 5 rfl) ?_
  refine lv_iconst (v := (nI 2)) hx hb dL_law_219 (by decide) ?_
  refine z_iadd_n hx hb dL_law_220 ?_
  refine z_sld_n hx hb hX hbl hR dL_law_221 (by omega) hL ha2 ?_
  refine lv_aload_n hx hb dL_law_222 rfl (lv_at hl 1 rfl) ?_
  refine lv_iload hx hb dL_law_223 (lv_at hl 5 rfl) ?_
  refine lv_iconst (v := (nI 3)) hx hb dL_law_225 (by decide) ?_
  refine z_iadd_n hx hb dL_law_226 ?_
  refine z_sld_n hx hb hX hbl hR dL_law_227 (by omega) hL ha3 ?_
  refine z_lM_i (As := [.int (nI (p)), .int (nI (key)), .int (nI (v))]) (rest := []) ⟨hx, hb, hml, hown, hts⟩ X0 hR (c_X5_append_e4 X0.2.2.2.1 M p key v hOM hp_m hk_m hv_m hv2_m hn_m) (cwV 3 hts gL_law_X5_append rfl rfl rfl (by decide +kernel) ⟨Nat.le_of_ble_eq_true rfl, Nat.le_of_ble_eq_true rfl⟩) rfl hl rfl (Nat.le_of_ble_eq_true rfl) ⟨by show cells + 1 + 0 ≤ 1096; omega, by show slots + 6 + 0 ≤ 9967; omega⟩ dL_law_228 (fun r T1 H locs hp hR => ?_)
  obtain ⟨hr1, hs1⟩ := hp
  subst r
  subst T1
  refine lv_istore (lv' := [(6, .int (nI (0))), (5, .int (nI (3))), (0, .ref (b)), (1, .ref (adx 0)), (2, .ref (adm 0)), (3, .ref (oo)), (4, .int (nI (i)))]) hx hb dL_law_231 hl (by decide) rfl (fun ls hl => ?_)
  refine lv_aload_n hx hb dL_law_233 rfl (lv_at hl 4 rfl) ?_
  refine z_lM_i (As := []) (rest := []) ⟨hx, hb, hml, hown, hts⟩ X0 hR (c_X5_thrown X0.2.2.2.1 (zth M 3)) (cwV 0 hts gL_law_X5_thrown rfl rfl rfl (by decide +kernel) ⟨Nat.le_of_ble_eq_true rfl, Nat.le_of_ble_eq_true rfl⟩) rfl hl rfl (Nat.le_of_ble_eq_true rfl) ⟨by show cells + 1 + 0 ≤ 1096; omega, by show slots + 6 + 0 ≤ 9967; omega⟩ dL_law_234 (fun r M1 H locs hp hR => ?_)
  obtain ⟨hr1, hs1⟩ := hp
  subst M1
  obtain rfl : r = nI 3 := hr1.trans (th_4 _ _)
  refine lv_iload hx hb dL_law_237 (lv_at hl 1 rfl) ?_
  refine z_eq_n (tgt := 244) hx hb dL_law_239 (by decide) (by decide) (by decide) (fun _ => ?_) (fun h => absurd rfl h)
  refine lv_iload hx hb dL_law_244 (lv_at hl 1 rfl) ?_
  refine z_if_ne_n (tgt := 261) hx hb dL_law_246 (by decide) (by decide) (fun _ => ?_) (fun h => absurd h (by decide))
  refine lv_goto (tgt := 1903) hx hb dL_law_261 (by decide) ?_
  exact K _ _ _ _ hR (lv_sub hl [2, 3, 4, 5, 6] rfl)
set_option maxHeartbeats 4000000 in
set_option maxRecDepth 100000 in
theorem lw_append_ok {pg : Program} {l : Launch} {e : Env} {s : State} {m : MethodId} {below : List Frame} {meth : Method} {c : Code} {b L : Nat} {xs : Nat → Int32} {D : va_G} {cI cZ cJ : ClassId} {adx adm : Nat → Nat} {oo : Nat} {Bx Bm : Nat → Prop} (C0 : lw_At pg s m meth c b L xs) (hfl : l.stackTraces = false) (X0 : zLC D cI cZ cJ adx adm oo Bx Bm s) (S M : zS) (g : Nat → Int64) (i : Nat) (p : Nat) (key : Nat) (v : Nat) (hO : zOK S) (hOM : zOK M) (hp : p < 4) (hk : key < 32) (hv : 1 ≤ v) (hv2 : v ≤ 100) (hn : zn S 0 p < 60) (hp_m : p < 4) (hk_m : key < 32) (hv_m : 1 ≤ v) (hv2_m : v ≤ 100) (hn_m : zn M 0 p < 60) (hth : (sp_app (zth M 0) p (nI (1000 * key + v))) 22 4 = nI 0) (hres : (nI (zn S 0 p)) = (nI (zn M 0 p))) (ha1 : xs (i + 1) = (nI (p))) (ha2 : xs (i + 2) = (nI (key))) (ha3 : xs (i + 3) = (nI (v))) (hi : i + 4 ≤ L) (hL : L ≤ 2048) {H : Heap} {locs : List Loc} {cells slots : Nat} {ls : Array Slot} (hcc : cells + 1 ≤ 1096) (hss : slots + 6 ≤ 9967) (hR : zL D cI cZ cJ adx adm oo s H locs S M g) (hl : lv_has ls 7 [(0, .ref (b)), (1, .ref (adx 0)), (2, .ref (adm 0)), (3, .ref (oo)), (4, .int (nI (i)))]) (K : ∀ (g1 : Nat → Int64) (H1 : Heap) (locs1 : List Loc) (ls1 : Array Slot), zL D cI cZ cJ adx adm oo s H1 locs1 (sp_app S p (nI (1000 * key + v))) (sp_app (zth M 0) p (nI (1000 * key + v))) g1 → lv_has ls1 7 [(0, .ref (b)), (1, .ref (adx 0)), (2, .ref (adm 0)), (3, .ref (oo)), (4, .int (nI (i)))] → W pg l e room_1 s m #[Value.ref b] below meth c H1 locs1 (cells + 1) (slots + 6) (lw_Z below #[Value.ref b] s) (F0 m 1903 ls1 [])) : W pg l e room_1 s m #[Value.ref b] below meth c H locs cells slots (lw_Z below #[Value.ref b] s) (F0 m 184 ls []) := by
  obtain ⟨hx, hb, hr, hml, hown, hts, hX, hbl, hlocks, hgv⟩ := C0
  have hts := fun w h => hts w (wsL_law_in w h)
  have hown : s.vm.findClass RL = some m.cls := hown
  have hb : c.code = cL_law := hb
  refine lv_aload_n hx hb dL_law_184 rfl (lv_at hl 1 rfl) ?_
  refine lv_aload_n hx hb dL_law_185 rfl (lv_at hl 0 rfl) ?_
  refine lv_iload hx hb dL_law_186 (lv_at hl 4 rfl) ?_
  refine lv_iconst (v := (nI 1)) hx hb dL_law_188 (by decide) ?_
  refine z_iadd_n hx hb dL_law_189 ?_
  refine z_sld_n hx hb hX hbl hR dL_law_190 (by omega) hL ha1 ?_
  refine lv_aload_n hx hb dL_law_191 rfl (lv_at hl 0 rfl) ?_
  refine lv_iload hx hb dL_law_192 (lv_at hl 4 rfl) ?_
  refine lv_iconst (v := (nI 2)) hx hb dL_law_194 (by decide) ?_
  refine z_iadd_n hx hb dL_law_195 ?_
  refine z_sld_n hx hb hX hbl hR dL_law_196 (by omega) hL ha2 ?_
  refine lv_aload_n hx hb dL_law_197 rfl (lv_at hl 0 rfl) ?_
  refine lv_iload hx hb dL_law_198 (lv_at hl 4 rfl) ?_
  refine lv_iconst (v := (nI 3)) hx hb dL_law_200 (by decide) ?_
  refine z_iadd_n hx hb dL_law_201 ?_
  refine z_sld_n hx hb hX hbl hR dL_law_202 (by omega) hL ha3 ?_
  refine lv_aload_n hx hb dL_law_203 rfl (lv_at hl 3 rfl) ?_
  refine z_lW (As := [.ref (adx 0), .int (nI (p)), .int (nI (key)), .int (nI (v)), .ref (oo)]) (rest := []) ⟨hx, hb, hml, hown, hts⟩ X0 hR (o_append_ok X0.2.2.1 X0.2.2.2.2.1 hfl S g p key v hO hp hk hv hv2 hn) (vx_cwSW 5 hts gL_law_L_append rfl rfl rfl (by decide +kernel) ⟨Nat.le_of_ble_eq_true rfl, Nat.le_of_ble_eq_true rfl⟩) rfl hl rfl (Nat.le_of_ble_eq_true rfl) ⟨hcc, hss⟩ dL_law_204 (fun r S1 g1 H locs hp hR => ?_)
  obtain ⟨hr1, hs1, hg⟩ := hp
  subst r
  have hs1 : S1 = sp_app S p (nI (1000 * key + v)) := hs1
  subst S1
  refine lv_istore (lv' := [(5, .int (nI (0))), (0, .ref (b)), (1, .ref (adx 0)), (2, .ref (adm 0)), (3, .ref (oo)), (4, .int (nI (i)))]) hx hb dL_law_207 hl (by decide) rfl (fun ls hl => ?_)
  refine lv_aload_n hx hb dL_law_209 rfl (lv_at hl 3 rfl) ?_
  refine lv_aload_n hx hb dL_law_210 rfl (lv_at hl 1 rfl) ?_
  refine lv_iload hx hb dL_law_211 (lv_at hl 5 rfl) ?_
  refine lv_iconst (v := (nI 1)) hx hb dL_law_213 (by decide) ?_
  refine z_iadd_n hx hb dL_law_214 ?_
  refine z_sld_n hx hb hX hbl hR dL_law_215 (by omega) hL ha1 ?_
  refine lv_aload_n hx hb dL_law_216 rfl (lv_at hl 1 rfl) ?_
  refine lv_iload hx hb dL_law_217 (lv_at hl 5 rfl) ?_
  refine lv_iconst (v := (nI 2)) hx hb dL_law_219 (by decide) ?_
  refine z_iadd_n hx hb dL_law_220 ?_
  refine z_sld_n hx hb hX hbl hR dL_law_221 (by omega) hL ha2 ?_
  refine lv_aload_n hx hb dL_law_222 rfl (lv_at hl 1 rfl) ?_
  refine lv_iload hx hb dL_law_223 (lv_at hl 5 rfl) ?_
  refine lv_iconst (v := (nI 3)) hx hb dL_law_225 (by decide) ?_
  refine z_iadd_n hx hb dL_law_226 ?_
  refine z_sld_n hx hb hX hbl hR dL_law_227 (by omega) hL ha3 ?_
  refine z_lM_i (As := [.int (nI (p)), .int (nI (key)), .int (nI (v))]) (rest := []) ⟨hx, hb, hml, hown, hts⟩ X0 hR (c_X5_append_ok X0.2.2.2.1 M p key v hOM hp_m hk_m hv_m hv2_m hn_m) (cwV 3 hts gL_law_X5_append rfl rfl rfl (by decide +kernel) ⟨Nat.le_of_ble_eq_true rfl, Nat.le_of_ble_eq_true rfl⟩) rfl hl rfl (Nat.le_of_ble_eq_true rfl) ⟨by show cells + 1 + 0 ≤ 1096; omega, by show slots + 6 + 0 ≤ 9967; omega⟩ dL_law_228 (fun r T1 H locs hp hR => ?_)
  obtain ⟨hr1, hs1⟩ := hp
  subst r
  subst T1
  refine lv_istore (lv' := [(6, .int (nI (zn M 0 p))), (5, .int (nI (0))), (0, .ref (b)), (1, .ref (adx 0)), (2, .ref (adm 0)), (3, .ref (oo)), (4, .int (nI (i)))]) hx hb dL_law_231 hl (by decide) rfl (fun ls hl => ?_)
  refine lv_aload_n hx hb dL_law_233 rfl (lv_at hl 4 rfl) ?_
  refine z_lM_i (As := []) (rest := []) ⟨hx, hb, hml, hown, hts⟩ X0 hR (c_X5_thrown X0.2.2.2.1 (sp_app (zth M 0) p (nI (1000 * key + v)))) (cwV 0 hts gL_law_X5_thrown rfl rfl rfl (by decide +kernel) ⟨Nat.le_of_ble_eq_true rfl, Nat.le_of_ble_eq_true rfl⟩) rfl hl rfl (Nat.le_of_ble_eq_true rfl) ⟨by show cells + 1 + 0 ≤ 1096; omega, by show slots + 6 + 0 ≤ 9967; omega⟩ dL_law_234 (fun r M1 H locs hp hR => ?_)
  obtain ⟨hr1, hs1⟩ := hp
  subst M1
  obtain rfl : r = nI 0 := hr1.trans hth
  refine lv_iload hx hb dL_law_237 (lv_at hl 1 rfl) ?_
  refine z_eq_n (tgt := 244) hx hb dL_law_239 (by decide) (by decide) (by decide) (fun _ => ?_) (fun h => absurd rfl h)
  refine lv_iload hx hb dL_law_244 (lv_at hl 1 rfl) ?_
  refine z_if_ne_n (tgt := 261) hx hb dL_law_246 (by decide) (by decide) (fun h => absurd h (by decide)) (fun _ => ?_)
  refine lv_aload_n hx hb dL_law_249 rfl (lv_at hl 5 rfl) ?_
  refine lv_iconst (v := (nI 0)) hx hb dL_law_250 (by decide) ?_
  refine z_l_lald hx hb X0 hR dL_law_251 ?_
  refine lv_iload hx hb dL_law_252 (lv_at hl 0 rfl) ?_
  refine lv_i2l (v := ((nI (zn M 0 p))).toInt64) hx hb dL_law_254 rfl ?_
  refine W.lcmp hx hb dL_law_255 ?_
  refine lv_topi (fun v9 ev9 => ?_)
  obtain rfl : v9 = nI 0 := ev9.trans (z_cmp_eq (hg.trans (congrArg Int32.toInt64 hres)))
  refine z_if_eq_n (tgt := 261) hx hb dL_law_256 (by decide) (by decide) (fun _ => ?_) (fun h => absurd h (by decide))
  refine lv_goto (tgt := 1903) hx hb dL_law_261 (by decide) ?_
  exact K _ _ _ _ hR (lv_sub hl [2, 3, 4, 5, 6] rfl)
set_option maxHeartbeats 4000000 in
set_option maxRecDepth 100000 in
theorem lw_read_e1 {pg : Program} {l : Launch} {e : Env} {s : State} {m : MethodId} {below : List Frame} {meth : Method} {c : Code} {b L : Nat} {xs : Nat → Int32} {D : va_G} {cI cZ cJ : ClassId} {adx adm : Nat → Nat} {oo : Nat} {Bx Bm : Nat → Prop} (C0 : lw_At pg s m meth c b L xs) (hfl : l.stackTraces = false) (X0 : zLC D cI cZ cJ adx adm oo Bx Bm s) (S M : zS) (g : Nat → Int64) (i : Nat) (x : Int32) (hO : zOK S) (hOM : zOK M) (hxb : zbad x 4) (hxb_m : zbad x 4) (ha1 : xs (i + 1) = (x)) (hi : i + 4 ≤ L) (hL : L ≤ 2048) {H : Heap} {locs : List Loc} {cells slots : Nat} {ls : Array Slot} (hcc : cells + 1 ≤ 1096) (hss : slots + 6 ≤ 9967) (hR : zL D cI cZ cJ adx adm oo s H locs S M g) (hl : lv_has ls 7 [(0, .ref (b)), (1, .ref (adx 0)), (2, .ref (adm 0)), (3, .ref (oo)), (4, .int (nI (i)))]) (K : ∀ (g1 : Nat → Int64) (H1 : Heap) (locs1 : List Loc) (ls1 : Array Slot), zL D cI cZ cJ adx adm oo s H1 locs1 (S) (zth M 1) g1 → lv_has ls1 7 [(0, .ref (b)), (1, .ref (adx 0)), (2, .ref (adm 0)), (3, .ref (oo)), (4, .int (nI (i)))] → W pg l e room_1 s m #[Value.ref b] below meth c H1 locs1 (cells + 1) (slots + 6) (lw_Z below #[Value.ref b] s) (F0 m 1903 ls1 [])) : W pg l e room_1 s m #[Value.ref b] below meth c H locs cells slots (lw_Z below #[Value.ref b] s) (F0 m 264 ls []) := by
  obtain ⟨hx, hb, hr, hml, hown, hts, hX, hbl, hlocks, hgv⟩ := C0
  have hts := fun w h => hts w (wsL_law_in w h)
  have hown : s.vm.findClass RL = some m.cls := hown
  have hb : c.code = cL_law := hb
  refine lv_aload_n hx hb dL_law_264 rfl (lv_at hl 1 rfl) ?_
  refine lv_aload_n hx hb dL_law_265 rfl (lv_at hl 0 rfl) ?_
  refine lv_iload hx hb dL_law_266 (lv_at hl 4 rfl) ?_
  refine lv_iconst (v := (nI 1)) hx hb dL_law_268 (by decide) ?_
  refine z_iadd_n hx hb dL_law_269 ?_
  refine z_sld_n hx hb hX hbl hR dL_law_270 (by omega) hL ha1 ?_
  refine lv_aload_n hx hb dL_law_271 rfl (lv_at hl 3 rfl) ?_
  refine z_lW (As := [.ref (adx 0), .int (x), .ref (oo)]) (rest := []) ⟨hx, hb, hml, hown, hts⟩ X0 hR (o_read_e1 X0.2.2.1 X0.2.2.2.2.1 hfl S g x hO hxb) (vx_cwSW 3 hts gL_law_L_read rfl rfl rfl (by decide +kernel) ⟨Nat.le_of_ble_eq_true rfl, Nat.le_of_ble_eq_true rfl⟩) rfl hl rfl (Nat.le_of_ble_eq_true rfl) ⟨hcc, hss⟩ dL_law_272 (fun r S1 g1 H locs hp hR => ?_)
  obtain ⟨hr1, hs1⟩ := hp
  subst r
  have hs1 : S1 = S := hs1
  subst S1
  refine lv_istore (lv' := [(5, .int (nI (1))), (0, .ref (b)), (1, .ref (adx 0)), (2, .ref (adm 0)), (3, .ref (oo)), (4, .int (nI (i)))]) hx hb dL_law_275 hl (by decide) rfl (fun ls hl => ?_)
  refine lv_aload_n hx hb dL_law_277 rfl (lv_at hl 3 rfl) ?_
  refine lv_aload_n hx hb dL_law_278 rfl (lv_at hl 1 rfl) ?_
  refine lv_iload hx hb dL_law_279 (lv_at hl 5 rfl) ?_
  refine lv_iconst (v := (nI 1)) hx hb dL_law_281 (by decide) ?_
  refine z_iadd_n hx hb dL_law_282 ?_
  refine z_sld_n hx hb hX hbl hR dL_law_283 (by omega) hL ha1 ?_
  refine z_lM_i (As := [.int (x)]) (rest := []) ⟨hx, hb, hml, hown, hts⟩ X0 hR (c_X5_read_e1 X0.2.2.2.1 M x hOM hxb_m) (cwV 1 hts gL_law_X5_read rfl rfl rfl (by decide +kernel) ⟨Nat.le_of_ble_eq_true rfl, Nat.le_of_ble_eq_true rfl⟩) rfl hl rfl (Nat.le_of_ble_eq_true rfl) ⟨by show cells + 1 + 0 ≤ 1096; omega, by show slots + 6 + 0 ≤ 9967; omega⟩ dL_law_284 (fun r T1 H locs hp hR => ?_)
  obtain ⟨hr1, hs1⟩ := hp
  subst r
  subst T1
  refine lv_istore (lv' := [(6, .int (nI (0))), (5, .int (nI (1))), (0, .ref (b)), (1, .ref (adx 0)), (2, .ref (adm 0)), (3, .ref (oo)), (4, .int (nI (i)))]) hx hb dL_law_287 hl (by decide) rfl (fun ls hl => ?_)
  refine lv_aload_n hx hb dL_law_289 rfl (lv_at hl 4 rfl) ?_
  refine z_lM_i (As := []) (rest := []) ⟨hx, hb, hml, hown, hts⟩ X0 hR (c_X5_thrown X0.2.2.2.1 (zth M 1)) (cwV 0 hts gL_law_X5_thrown rfl rfl rfl (by decide +kernel) ⟨Nat.le_of_ble_eq_true rfl, Nat.le_of_ble_eq_true rfl⟩) rfl hl rfl (Nat.le_of_ble_eq_true rfl) ⟨by show cells + 1 + 0 ≤ 1096; omega, by show slots + 6 + 0 ≤ 9967; omega⟩ dL_law_290 (fun r M1 H locs hp hR => ?_)
  obtain ⟨hr1, hs1⟩ := hp
  subst M1
  obtain rfl : r = nI 1 := hr1.trans (th_4 _ _)
  refine lv_iload hx hb dL_law_293 (lv_at hl 1 rfl) ?_
  refine z_eq_n (tgt := 300) hx hb dL_law_295 (by decide) (by decide) (by decide) (fun _ => ?_) (fun h => absurd rfl h)
  refine lv_iload hx hb dL_law_300 (lv_at hl 1 rfl) ?_
  refine z_if_ne_n (tgt := 317) hx hb dL_law_302 (by decide) (by decide) (fun _ => ?_) (fun h => absurd h (by decide))
  refine lv_goto (tgt := 1903) hx hb dL_law_317 (by decide) ?_
  exact K _ _ _ _ hR (lv_sub hl [2, 3, 4, 5, 6] rfl)
set_option maxHeartbeats 4000000 in
set_option maxRecDepth 100000 in
theorem lw_read_e2 {pg : Program} {l : Launch} {e : Env} {s : State} {m : MethodId} {below : List Frame} {meth : Method} {c : Code} {b L : Nat} {xs : Nat → Int32} {D : va_G} {cI cZ cJ : ClassId} {adx adm : Nat → Nat} {oo : Nat} {Bx Bm : Nat → Prop} (C0 : lw_At pg s m meth c b L xs) (hfl : l.stackTraces = false) (X0 : zLC D cI cZ cJ adx adm oo Bx Bm s) (S M : zS) (g : Nat → Int64) (i : Nat) (p : Nat) (hO : zOK S) (hOM : zOK M) (hp : p < 4) (hc : ¬ zcanR S p) (hp_m : p < 4) (hc_m : ¬ zcanR M p) (ha1 : xs (i + 1) = (nI (p))) (hi : i + 4 ≤ L) (hL : L ≤ 2048) {H : Heap} {locs : List Loc} {cells slots : Nat} {ls : Array Slot} (hcc : cells + 1 ≤ 1096) (hss : slots + 6 ≤ 9967) (hR : zL D cI cZ cJ adx adm oo s H locs S M g) (hl : lv_has ls 7 [(0, .ref (b)), (1, .ref (adx 0)), (2, .ref (adm 0)), (3, .ref (oo)), (4, .int (nI (i)))]) (K : ∀ (g1 : Nat → Int64) (H1 : Heap) (locs1 : List Loc) (ls1 : Array Slot), zL D cI cZ cJ adx adm oo s H1 locs1 (S) (zth M 2) g1 → lv_has ls1 7 [(0, .ref (b)), (1, .ref (adx 0)), (2, .ref (adm 0)), (3, .ref (oo)), (4, .int (nI (i)))] → W pg l e room_1 s m #[Value.ref b] below meth c H1 locs1 (cells + 1) (slots + 6) (lw_Z below #[Value.ref b] s) (F0 m 1903 ls1 [])) : W pg l e room_1 s m #[Value.ref b] below meth c H locs cells slots (lw_Z below #[Value.ref b] s) (F0 m 264 ls []) := by
  obtain ⟨hx, hb, hr, hml, hown, hts, hX, hbl, hlocks, hgv⟩ := C0
  have hts := fun w h => hts w (wsL_law_in w h)
  have hown : s.vm.findClass RL = some m.cls := hown
  have hb : c.code = cL_law := hb
  refine lv_aload_n hx hb dL_law_264 rfl (lv_at hl 1 rfl) ?_
  refine lv_aload_n hx hb dL_law_265 rfl (lv_at hl 0 rfl) ?_
  refine lv_iload hx hb dL_law_266 (lv_at hl 4 rfl) ?_
  refine lv_iconst (v := (nI 1)) hx hb dL_law_268 (by decide) ?_
  refine z_iadd_n hx hb dL_law_269 ?_
  refine z_sld_n hx hb hX hbl hR dL_law_270 (by omega) hL ha1 ?_
  refine lv_aload_n hx hb dL_law_271 rfl (lv_at hl 3 rfl) ?_
  refine z_lW (As := [.ref (adx 0), .int (nI (p)), .ref (oo)]) (rest := []) ⟨hx, hb, hml, hown, hts⟩ X0 hR (o_read_e2 X0.2.2.1 X0.2.2.2.2.1 hfl S g p hO hp hc) (vx_cwSW 3 hts gL_law_L_read rfl rfl rfl (by decide +kernel) ⟨Nat.le_of_ble_eq_true rfl, Nat.le_of_ble_eq_true rfl⟩) rfl hl rfl (Nat.le_of_ble_eq_true rfl) ⟨hcc, hss⟩ dL_law_272 (fun r S1 g1 H locs hp hR => ?_)
  obtain ⟨hr1, hs1⟩ := hp
  subst r
  have hs1 : S1 = S := hs1
  subst S1
  refine lv_istore (lv' := [(5, .int (nI (2))), (0, .ref (b)), (1, .ref (adx 0)), (2, .ref (adm 0)), (3, .ref (oo)), (4, .int (nI (i)))]) hx hb dL_law_275 hl (by decide) rfl (fun ls hl => ?_)
  refine lv_aload_n hx hb dL_law_277 rfl (lv_at hl 3 rfl) ?_
  refine lv_aload_n hx hb dL_law_278 rfl (lv_at hl 1 rfl) ?_
  refine lv_iload hx hb dL_law_279 (lv_at hl 5 rfl) ?_
  refine lv_iconst (v := (nI 1)) hx hb dL_law_281 (by decide) ?_
  refine z_iadd_n hx hb dL_law_282 ?_
  refine z_sld_n hx hb hX hbl hR dL_law_283 (by omega) hL ha1 ?_
  refine z_lM_i (As := [.int (nI (p))]) (rest := []) ⟨hx, hb, hml, hown, hts⟩ X0 hR (c_X5_read_e2 X0.2.2.2.1 M p hOM hp_m hc_m) (cwV 1 hts gL_law_X5_read rfl rfl rfl (by decide +kernel) ⟨Nat.le_of_ble_eq_true rfl, Nat.le_of_ble_eq_true rfl⟩) rfl hl rfl (Nat.le_of_ble_eq_true rfl) ⟨by show cells + 1 + 0 ≤ 1096; omega, by show slots + 6 + 0 ≤ 9967; omega⟩ dL_law_284 (fun r T1 H locs hp hR => ?_)
  obtain ⟨hr1, hs1⟩ := hp
  subst r
  subst T1
  refine lv_istore (lv' := [(6, .int (nI (0))), (5, .int (nI (2))), (0, .ref (b)), (1, .ref (adx 0)), (2, .ref (adm 0)), (3, .ref (oo)), (4, .int (nI (i)))]) hx hb dL_law_287 hl (by decide) rfl (fun ls hl => ?_)
  refine lv_aload_n hx hb dL_law_289 rfl (lv_at hl 4 rfl) ?_
  refine z_lM_i (As := []) (rest := []) ⟨hx, hb, hml, hown, hts⟩ X0 hR (c_X5_thrown X0.2.2.2.1 (zth M 2)) (cwV 0 hts gL_law_X5_thrown rfl rfl rfl (by decide +kernel) ⟨Nat.le_of_ble_eq_true rfl, Nat.le_of_ble_eq_true rfl⟩) rfl hl rfl (Nat.le_of_ble_eq_true rfl) ⟨by show cells + 1 + 0 ≤ 1096; omega, by show slots + 6 + 0 ≤ 9967; omega⟩ dL_law_290 (fun r M1 H locs hp hR => ?_)
  obtain ⟨hr1, hs1⟩ := hp
  subst M1
  obtain rfl : r = nI 2 := hr1.trans (th_4 _ _)
  refine lv_iload hx hb dL_law_293 (lv_at hl 1 rfl) ?_
  refine z_eq_n (tgt := 300) hx hb dL_law_295 (by decide) (by decide) (by decide) (fun _ => ?_) (fun h => absurd rfl h)
  refine lv_iload hx hb dL_law_300 (lv_at hl 1 rfl) ?_
  refine z_if_ne_n (tgt := 317) hx hb dL_law_302 (by decide) (by decide) (fun _ => ?_) (fun h => absurd h (by decide))
  refine lv_goto (tgt := 1903) hx hb dL_law_317 (by decide) ?_
  exact K _ _ _ _ hR (lv_sub hl [2, 3, 4, 5, 6] rfl)
set_option maxHeartbeats 4000000 in
set_option maxRecDepth 100000 in
theorem lw_read_ok {pg : Program} {l : Launch} {e : Env} {s : State} {m : MethodId} {below : List Frame} {meth : Method} {c : Code} {b L : Nat} {xs : Nat → Int32} {D : va_G} {cI cZ cJ : ClassId} {adx adm : Nat → Nat} {oo : Nat} {Bx Bm : Nat → Prop} (C0 : lw_At pg s m meth c b L xs) (hfl : l.stackTraces = false) (X0 : zLC D cI cZ cJ adx adm oo Bx Bm s) (S M : zS) (g : Nat → Int64) (i : Nat) (p : Nat) (hO : zOK S) (hOM : zOK M) (hp : p < 4) (hc : zcanR S p) (hp_m : p < 4) (hc_m : zcanR M p) (hth : (sp_read (zth M 0) p) 22 4 = nI 0) (hres : (nI (zrw S p)) = (nI (zrw M p))) (ha1 : xs (i + 1) = (nI (p))) (hi : i + 4 ≤ L) (hL : L ≤ 2048) {H : Heap} {locs : List Loc} {cells slots : Nat} {ls : Array Slot} (hcc : cells + 1 ≤ 1096) (hss : slots + 6 ≤ 9967) (hR : zL D cI cZ cJ adx adm oo s H locs S M g) (hl : lv_has ls 7 [(0, .ref (b)), (1, .ref (adx 0)), (2, .ref (adm 0)), (3, .ref (oo)), (4, .int (nI (i)))]) (K : ∀ (g1 : Nat → Int64) (H1 : Heap) (locs1 : List Loc) (ls1 : Array Slot), zL D cI cZ cJ adx adm oo s H1 locs1 (sp_read S p) (sp_read (zth M 0) p) g1 → lv_has ls1 7 [(0, .ref (b)), (1, .ref (adx 0)), (2, .ref (adm 0)), (3, .ref (oo)), (4, .int (nI (i)))] → W pg l e room_1 s m #[Value.ref b] below meth c H1 locs1 (cells + 1) (slots + 6) (lw_Z below #[Value.ref b] s) (F0 m 1903 ls1 [])) : W pg l e room_1 s m #[Value.ref b] below meth c H locs cells slots (lw_Z below #[Value.ref b] s) (F0 m 264 ls []) := by
  obtain ⟨hx, hb, hr, hml, hown, hts, hX, hbl, hlocks, hgv⟩ := C0
  have hts := fun w h => hts w (wsL_law_in w h)
  have hown : s.vm.findClass RL = some m.cls := hown
  have hb : c.code = cL_law := hb
  refine lv_aload_n hx hb dL_law_264 rfl (lv_at hl 1 rfl) ?_
  refine lv_aload_n hx hb dL_law_265 rfl (lv_at hl 0 rfl) ?_
  refine lv_iload hx hb dL_law_266 (lv_at hl 4 rfl) ?_
  refine lv_iconst (v := (nI 1)) hx hb dL_law_268 (by decide) ?_
  refine z_iadd_n hx hb dL_law_269 ?_
  refine z_sld_n hx hb hX hbl hR dL_law_270 (by omega) hL ha1 ?_
  refine lv_aload_n hx hb dL_law_271 rfl (lv_at hl 3 rfl) ?_
  refine z_lW (As := [.ref (adx 0), .int (nI (p)), .ref (oo)]) (rest := []) ⟨hx, hb, hml, hown, hts⟩ X0 hR (o_read_ok X0.2.2.1 X0.2.2.2.2.1 hfl S g p hO hp hc) (vx_cwSW 3 hts gL_law_L_read rfl rfl rfl (by decide +kernel) ⟨Nat.le_of_ble_eq_true rfl, Nat.le_of_ble_eq_true rfl⟩) rfl hl rfl (Nat.le_of_ble_eq_true rfl) ⟨hcc, hss⟩ dL_law_272 (fun r S1 g1 H locs hp hR => ?_)
  obtain ⟨hr1, hs1, hg⟩ := hp
  subst r
  have hs1 : S1 = sp_read S p := hs1
  subst S1
  refine lv_istore (lv' := [(5, .int (nI (0))), (0, .ref (b)), (1, .ref (adx 0)), (2, .ref (adm 0)), (3, .ref (oo)), (4, .int (nI (i)))]) hx hb dL_law_275 hl (by decide) rfl (fun ls hl => ?_)
  refine lv_aload_n hx hb dL_law_277 rfl (lv_at hl 3 rfl) ?_
  refine lv_aload_n hx hb dL_law_278 rfl (lv_at hl 1 rfl) ?_
  refine lv_iload hx hb dL_law_279 (lv_at hl 5 rfl) ?_
  refine lv_iconst (v := (nI 1)) hx hb dL_law_281 (by decide) ?_
  refine z_iadd_n hx hb dL_law_282 ?_
  refine z_sld_n hx hb hX hbl hR dL_law_283 (by omega) hL ha1 ?_
  refine z_lM_i (As := [.int (nI (p))]) (rest := []) ⟨hx, hb, hml, hown, hts⟩ X0 hR (c_X5_read_ok X0.2.2.2.1 M p hOM hp_m hc_m) (cwV 1 hts gL_law_X5_read rfl rfl rfl (by decide +kernel) ⟨Nat.le_of_ble_eq_true rfl, Nat.le_of_ble_eq_true rfl⟩) rfl hl rfl (Nat.le_of_ble_eq_true rfl) ⟨by show cells + 1 + 0 ≤ 1096; omega, by show slots + 6 + 0 ≤ 9967; omega⟩ dL_law_284 (fun r T1 H locs hp hR => ?_)
  obtain ⟨hr1, hs1⟩ := hp
  subst r
  subst T1
  refine lv_istore (lv' := [(6, .int (nI (zrw M p))), (5, .int (nI (0))), (0, .ref (b)), (1, .ref (adx 0)), (2, .ref (adm 0)), (3, .ref (oo)), (4, .int (nI (i)))]) hx hb dL_law_287 hl (by decide) rfl (fun ls hl => ?_)
  refine lv_aload_n hx hb dL_law_289 rfl (lv_at hl 4 rfl) ?_
  refine z_lM_i (As := []) (rest := []) ⟨hx, hb, hml, hown, hts⟩ X0 hR (c_X5_thrown X0.2.2.2.1 (sp_read (zth M 0) p)) (cwV 0 hts gL_law_X5_thrown rfl rfl rfl (by decide +kernel) ⟨Nat.le_of_ble_eq_true rfl, Nat.le_of_ble_eq_true rfl⟩) rfl hl rfl (Nat.le_of_ble_eq_true rfl) ⟨by show cells + 1 + 0 ≤ 1096; omega, by show slots + 6 + 0 ≤ 9967; omega⟩ dL_law_290 (fun r M1 H locs hp hR => ?_)
  obtain ⟨hr1, hs1⟩ := hp
  subst M1
  obtain rfl : r = nI 0 := hr1.trans hth
  refine lv_iload hx hb dL_law_293 (lv_at hl 1 rfl) ?_
  refine z_eq_n (tgt := 300) hx hb dL_law_295 (by decide) (by decide) (by decide) (fun _ => ?_) (fun h => absurd rfl h)
  refine lv_iload hx hb dL_law_300 (lv_at hl 1 rfl) ?_
  refine z_if_ne_n (tgt := 317) hx hb dL_law_302 (by decide) (by decide) (fun h => absurd h (by decide)) (fun _ => ?_)
  refine lv_aload_n hx hb dL_law_305 rfl (lv_at hl 5 rfl) ?_
  refine lv_iconst (v := (nI 0)) hx hb dL_law_306 (by decide) ?_
  refine z_l_lald hx hb X0 hR dL_law_307 ?_
  refine lv_iload hx hb dL_law_308 (lv_at hl 0 rfl) ?_
  refine lv_i2l (v := ((nI (zrw M p))).toInt64) hx hb dL_law_310 rfl ?_
  refine W.lcmp hx hb dL_law_311 ?_
  refine lv_topi (fun v9 ev9 => ?_)
  obtain rfl : v9 = nI 0 := ev9.trans (z_cmp_eq (hg.trans (congrArg Int32.toInt64 hres)))
  refine z_if_eq_n (tgt := 317) hx hb dL_law_312 (by decide) (by decide) (fun _ => ?_) (fun h => absurd h (by decide))
  refine lv_goto (tgt := 1903) hx hb dL_law_317 (by decide) ?_
  exact K _ _ _ _ hR (lv_sub hl [2, 3, 4, 5, 6] rfl)
set_option maxHeartbeats 4000000 in
set_option maxRecDepth 100000 in
theorem lw_sendBarrier_e1 {pg : Program} {l : Launch} {e : Env} {s : State} {m : MethodId} {below : List Frame} {meth : Method} {c : Code} {b L : Nat} {xs : Nat → Int32} {D : va_G} {cI cZ cJ : ClassId} {adx adm : Nat → Nat} {oo : Nat} {Bx Bm : Nat → Prop} (C0 : lw_At pg s m meth c b L xs) (hfl : l.stackTraces = false) (X0 : zLC D cI cZ cJ adx adm oo Bx Bm s) (S M : zS) (g : Nat → Int64) (i : Nat) (x : Int32) (hO : zOK S) (hOM : zOK M) (hxb : zbad x 4) (hxb_m : zbad x 4) (ha1 : xs (i + 1) = (x)) (hi : i + 4 ≤ L) (hL : L ≤ 2048) {H : Heap} {locs : List Loc} {cells slots : Nat} {ls : Array Slot} (hcc : cells + 1 ≤ 1096) (hss : slots + 6 ≤ 9967) (hR : zL D cI cZ cJ adx adm oo s H locs S M g) (hl : lv_has ls 7 [(0, .ref (b)), (1, .ref (adx 0)), (2, .ref (adm 0)), (3, .ref (oo)), (4, .int (nI (i)))]) (K : ∀ (g1 : Nat → Int64) (H1 : Heap) (locs1 : List Loc) (ls1 : Array Slot), zL D cI cZ cJ adx adm oo s H1 locs1 (S) (zth M 1) g1 → lv_has ls1 7 [(0, .ref (b)), (1, .ref (adx 0)), (2, .ref (adm 0)), (3, .ref (oo)), (4, .int (nI (i)))] → W pg l e room_1 s m #[Value.ref b] below meth c H1 locs1 (cells + 1) (slots + 6) (lw_Z below #[Value.ref b] s) (F0 m 1903 ls1 [])) : W pg l e room_1 s m #[Value.ref b] below meth c H locs cells slots (lw_Z below #[Value.ref b] s) (F0 m 320 ls []) := by
  obtain ⟨hx, hb, hr, hml, hown, hts, hX, hbl, hlocks, hgv⟩ := C0
  have hts := fun w h => hts w (wsL_law_in w h)
  have hown : s.vm.findClass RL = some m.cls := hown
  have hb : c.code = cL_law := hb
  refine lv_aload_n hx hb dL_law_320 rfl (lv_at hl 1 rfl) ?_
  refine lv_aload_n hx hb dL_law_321 rfl (lv_at hl 0 rfl) ?_
  refine lv_iload hx hb dL_law_322 (lv_at hl 4 rfl) ?_
  refine lv_iconst (v := (nI 1)) hx hb dL_law_324 (by decide) ?_
  refine z_iadd_n hx hb dL_law_325 ?_
  refine z_sld_n hx hb hX hbl hR dL_law_326 (by omega) hL ha1 ?_
  refine lv_aload_n hx hb dL_law_327 rfl (lv_at hl 3 rfl) ?_
  refine z_lW (As := [.ref (adx 0), .int (x), .ref (oo)]) (rest := []) ⟨hx, hb, hml, hown, hts⟩ X0 hR (o_sendBarrier_e1 X0.2.2.1 X0.2.2.2.2.1 hfl S g x hO hxb) (vx_cwSW 3 hts gL_law_L_sendBarrier rfl rfl rfl (by decide +kernel) ⟨Nat.le_of_ble_eq_true rfl, Nat.le_of_ble_eq_true rfl⟩) rfl hl rfl (Nat.le_of_ble_eq_true rfl) ⟨hcc, hss⟩ dL_law_328 (fun r S1 g1 H locs hp hR => ?_)
  obtain ⟨hr1, hs1⟩ := hp
  subst r
  have hs1 : S1 = S := hs1
  subst S1
  refine lv_istore (lv' := [(5, .int (nI (1))), (0, .ref (b)), (1, .ref (adx 0)), (2, .ref (adm 0)), (3, .ref (oo)), (4, .int (nI (i)))]) hx hb dL_law_331 hl (by decide) rfl (fun ls hl => ?_)
  refine lv_aload_n hx hb dL_law_333 rfl (lv_at hl 3 rfl) ?_
  refine lv_aload_n hx hb dL_law_334 rfl (lv_at hl 1 rfl) ?_
  refine lv_iload hx hb dL_law_335 (lv_at hl 5 rfl) ?_
  refine lv_iconst (v := (nI 1)) hx hb dL_law_337 (by decide) ?_
  refine z_iadd_n hx hb dL_law_338 ?_
  refine z_sld_n hx hb hX hbl hR dL_law_339 (by omega) hL ha1 ?_
  refine z_lM_i (As := [.int (x)]) (rest := []) ⟨hx, hb, hml, hown, hts⟩ X0 hR (c_X5_sendBarrier_e1 X0.2.2.2.1 M x hOM hxb_m) (cwV 1 hts gL_law_X5_sendBarrier rfl rfl rfl (by decide +kernel) ⟨Nat.le_of_ble_eq_true rfl, Nat.le_of_ble_eq_true rfl⟩) rfl hl rfl (Nat.le_of_ble_eq_true rfl) ⟨by show cells + 1 + 0 ≤ 1096; omega, by show slots + 6 + 0 ≤ 9967; omega⟩ dL_law_340 (fun r T1 H locs hp hR => ?_)
  obtain ⟨hr1, hs1⟩ := hp
  subst r
  subst T1
  refine lv_istore (lv' := [(6, .int (nI (0))), (5, .int (nI (1))), (0, .ref (b)), (1, .ref (adx 0)), (2, .ref (adm 0)), (3, .ref (oo)), (4, .int (nI (i)))]) hx hb dL_law_343 hl (by decide) rfl (fun ls hl => ?_)
  refine lv_aload_n hx hb dL_law_345 rfl (lv_at hl 4 rfl) ?_
  refine z_lM_i (As := []) (rest := []) ⟨hx, hb, hml, hown, hts⟩ X0 hR (c_X5_thrown X0.2.2.2.1 (zth M 1)) (cwV 0 hts gL_law_X5_thrown rfl rfl rfl (by decide +kernel) ⟨Nat.le_of_ble_eq_true rfl, Nat.le_of_ble_eq_true rfl⟩) rfl hl rfl (Nat.le_of_ble_eq_true rfl) ⟨by show cells + 1 + 0 ≤ 1096; omega, by show slots + 6 + 0 ≤ 9967; omega⟩ dL_law_346 (fun r M1 H locs hp hR => ?_)
  obtain ⟨hr1, hs1⟩ := hp
  subst M1
  obtain rfl : r = nI 1 := hr1.trans (th_4 _ _)
  refine lv_iload hx hb dL_law_349 (lv_at hl 1 rfl) ?_
  refine z_eq_n (tgt := 356) hx hb dL_law_351 (by decide) (by decide) (by decide) (fun _ => ?_) (fun h => absurd rfl h)
  refine lv_iload hx hb dL_law_356 (lv_at hl 1 rfl) ?_
  refine z_if_ne_n (tgt := 373) hx hb dL_law_358 (by decide) (by decide) (fun _ => ?_) (fun h => absurd h (by decide))
  refine lv_goto (tgt := 1903) hx hb dL_law_373 (by decide) ?_
  exact K _ _ _ _ hR (lv_sub hl [2, 3, 4, 5, 6] rfl)
set_option maxHeartbeats 4000000 in
set_option maxRecDepth 100000 in
theorem lw_sendBarrier_e2 {pg : Program} {l : Launch} {e : Env} {s : State} {m : MethodId} {below : List Frame} {meth : Method} {c : Code} {b L : Nat} {xs : Nat → Int32} {D : va_G} {cI cZ cJ : ClassId} {adx adm : Nat → Nat} {oo : Nat} {Bx Bm : Nat → Prop} (C0 : lw_At pg s m meth c b L xs) (hfl : l.stackTraces = false) (X0 : zLC D cI cZ cJ adx adm oo Bx Bm s) (S M : zS) (g : Nat → Int64) (i : Nat) (p : Nat) (hO : zOK S) (hOM : zOK M) (hp : p < 4) (hc : S 22 2 = (-1) ∨ S 4 p = nI 1) (hp_m : p < 4) (hc_m : ¬ ((¬ M 22 2 = (-1) ∧ M 4 p = nI 0) ∧ ∀ w, w < zn M 22 0 → zn M 7 (4 * p + w) < 8)) (ha1 : xs (i + 1) = (nI (p))) (hi : i + 4 ≤ L) (hL : L ≤ 2048) {H : Heap} {locs : List Loc} {cells slots : Nat} {ls : Array Slot} (hcc : cells + 1 ≤ 1096) (hss : slots + 6 ≤ 9967) (hR : zL D cI cZ cJ adx adm oo s H locs S M g) (hl : lv_has ls 7 [(0, .ref (b)), (1, .ref (adx 0)), (2, .ref (adm 0)), (3, .ref (oo)), (4, .int (nI (i)))]) (K : ∀ (g1 : Nat → Int64) (H1 : Heap) (locs1 : List Loc) (ls1 : Array Slot), zL D cI cZ cJ adx adm oo s H1 locs1 (S) (zth M 2) g1 → lv_has ls1 7 [(0, .ref (b)), (1, .ref (adx 0)), (2, .ref (adm 0)), (3, .ref (oo)), (4, .int (nI (i)))] → W pg l e room_1 s m #[Value.ref b] below meth c H1 locs1 (cells + 1) (slots + 6) (lw_Z below #[Value.ref b] s) (F0 m 1903 ls1 [])) : W pg l e room_1 s m #[Value.ref b] below meth c H locs cells slots (lw_Z below #[Value.ref b] s) (F0 m 320 ls []) := by
  obtain ⟨hx, hb, hr, hml, hown, hts, hX, hbl, hlocks, hgv⟩ := C0
  have hts := fun w h => hts w (wsL_law_in w h)
  have hown : s.vm.findClass RL = some m.cls := hown
  have hb : c.code = cL_law := hb
  refine lv_aload_n hx hb dL_law_320 rfl (lv_at hl 1 rfl) ?_
  refine lv_aload_n hx hb dL_law_321 rfl (lv_at hl 0 rfl) ?_
  refine lv_iload hx hb dL_law_322 (lv_at hl 4 rfl) ?_
  refine lv_iconst (v := (nI 1)) hx hb dL_law_324 (by decide) ?_
  refine z_iadd_n hx hb dL_law_325 ?_
  refine z_sld_n hx hb hX hbl hR dL_law_326 (by omega) hL ha1 ?_
  refine lv_aload_n hx hb dL_law_327 rfl (lv_at hl 3 rfl) ?_
  refine z_lW (As := [.ref (adx 0), .int (nI (p)), .ref (oo)]) (rest := []) ⟨hx, hb, hml, hown, hts⟩ X0 hR (o_sendBarrier_e2 X0.2.2.1 X0.2.2.2.2.1 hfl S g p hO hp hc) (vx_cwSW 3 hts gL_law_L_sendBarrier rfl rfl rfl (by decide +kernel) ⟨Nat.le_of_ble_eq_true rfl, Nat.le_of_ble_eq_true rfl⟩) rfl hl rfl (Nat.le_of_ble_eq_true rfl) ⟨hcc, hss⟩ dL_law_328 (fun r S1 g1 H locs hp hR => ?_)
  obtain ⟨hr1, hs1⟩ := hp
  subst r
  have hs1 : S1 = S := hs1
  subst S1
  refine lv_istore (lv' := [(5, .int (nI (2))), (0, .ref (b)), (1, .ref (adx 0)), (2, .ref (adm 0)), (3, .ref (oo)), (4, .int (nI (i)))]) hx hb dL_law_331 hl (by decide) rfl (fun ls hl => ?_)
  refine lv_aload_n hx hb dL_law_333 rfl (lv_at hl 3 rfl) ?_
  refine lv_aload_n hx hb dL_law_334 rfl (lv_at hl 1 rfl) ?_
  refine lv_iload hx hb dL_law_335 (lv_at hl 5 rfl) ?_
  refine lv_iconst (v := (nI 1)) hx hb dL_law_337 (by decide) ?_
  refine z_iadd_n hx hb dL_law_338 ?_
  refine z_sld_n hx hb hX hbl hR dL_law_339 (by omega) hL ha1 ?_
  refine z_lM_i (As := [.int (nI (p))]) (rest := []) ⟨hx, hb, hml, hown, hts⟩ X0 hR (c_X5_sendBarrier_e2 X0.2.2.2.1 M p hOM hp_m hc_m) (cwV 1 hts gL_law_X5_sendBarrier rfl rfl rfl (by decide +kernel) ⟨Nat.le_of_ble_eq_true rfl, Nat.le_of_ble_eq_true rfl⟩) rfl hl rfl (Nat.le_of_ble_eq_true rfl) ⟨by show cells + 1 + 0 ≤ 1096; omega, by show slots + 6 + 0 ≤ 9967; omega⟩ dL_law_340 (fun r T1 H locs hp hR => ?_)
  obtain ⟨hr1, hs1⟩ := hp
  subst r
  subst T1
  refine lv_istore (lv' := [(6, .int (nI (0))), (5, .int (nI (2))), (0, .ref (b)), (1, .ref (adx 0)), (2, .ref (adm 0)), (3, .ref (oo)), (4, .int (nI (i)))]) hx hb dL_law_343 hl (by decide) rfl (fun ls hl => ?_)
  refine lv_aload_n hx hb dL_law_345 rfl (lv_at hl 4 rfl) ?_
  refine z_lM_i (As := []) (rest := []) ⟨hx, hb, hml, hown, hts⟩ X0 hR (c_X5_thrown X0.2.2.2.1 (zth M 2)) (cwV 0 hts gL_law_X5_thrown rfl rfl rfl (by decide +kernel) ⟨Nat.le_of_ble_eq_true rfl, Nat.le_of_ble_eq_true rfl⟩) rfl hl rfl (Nat.le_of_ble_eq_true rfl) ⟨by show cells + 1 + 0 ≤ 1096; omega, by show slots + 6 + 0 ≤ 9967; omega⟩ dL_law_346 (fun r M1 H locs hp hR => ?_)
  obtain ⟨hr1, hs1⟩ := hp
  subst M1
  obtain rfl : r = nI 2 := hr1.trans (th_4 _ _)
  refine lv_iload hx hb dL_law_349 (lv_at hl 1 rfl) ?_
  refine z_eq_n (tgt := 356) hx hb dL_law_351 (by decide) (by decide) (by decide) (fun _ => ?_) (fun h => absurd rfl h)
  refine lv_iload hx hb dL_law_356 (lv_at hl 1 rfl) ?_
  refine z_if_ne_n (tgt := 373) hx hb dL_law_358 (by decide) (by decide) (fun _ => ?_) (fun h => absurd h (by decide))
  refine lv_goto (tgt := 1903) hx hb dL_law_373 (by decide) ?_
  exact K _ _ _ _ hR (lv_sub hl [2, 3, 4, 5, 6] rfl)
set_option maxHeartbeats 4000000 in
set_option maxRecDepth 100000 in
theorem lw_sendBarrier_e3 {pg : Program} {l : Launch} {e : Env} {s : State} {m : MethodId} {below : List Frame} {meth : Method} {c : Code} {b L : Nat} {xs : Nat → Int32} {D : va_G} {cI cZ cJ : ClassId} {adx adm : Nat → Nat} {oo : Nat} {Bx Bm : Nat → Prop} (C0 : lw_At pg s m meth c b L xs) (hfl : l.stackTraces = false) (X0 : zLC D cI cZ cJ adx adm oo Bx Bm s) (S M : zS) (g : Nat → Int64) (i : Nat) (p : Nat) (hO : zOK S) (hOM : zOK M) (hp : p < 4) (hc1 : ¬ S 22 2 = (-1)) (hc2 : S 4 p = nI 0) (hc : ¬ ∀ w, w < zn S 22 0 → zn S 7 (4 * p + w) < 8) (hp_m : p < 4) (hc_m : ¬ ((¬ M 22 2 = (-1) ∧ M 4 p = nI 0) ∧ ∀ w, w < zn M 22 0 → zn M 7 (4 * p + w) < 8)) (ha1 : xs (i + 1) = (nI (p))) (hi : i + 4 ≤ L) (hL : L ≤ 2048) {H : Heap} {locs : List Loc} {cells slots : Nat} {ls : Array Slot} (hcc : cells + 1 ≤ 1096) (hss : slots + 6 ≤ 9967) (hR : zL D cI cZ cJ adx adm oo s H locs S M g) (hl : lv_has ls 7 [(0, .ref (b)), (1, .ref (adx 0)), (2, .ref (adm 0)), (3, .ref (oo)), (4, .int (nI (i)))]) (K : ∀ (g1 : Nat → Int64) (H1 : Heap) (locs1 : List Loc) (ls1 : Array Slot), zL D cI cZ cJ adx adm oo s H1 locs1 (S) (zth M 2) g1 → lv_has ls1 7 [(0, .ref (b)), (1, .ref (adx 0)), (2, .ref (adm 0)), (3, .ref (oo)), (4, .int (nI (i)))] → W pg l e room_1 s m #[Value.ref b] below meth c H1 locs1 (cells + 1) (slots + 6) (lw_Z below #[Value.ref b] s) (F0 m 1903 ls1 [])) : W pg l e room_1 s m #[Value.ref b] below meth c H locs cells slots (lw_Z below #[Value.ref b] s) (F0 m 320 ls []) := by
  obtain ⟨hx, hb, hr, hml, hown, hts, hX, hbl, hlocks, hgv⟩ := C0
  have hts := fun w h => hts w (wsL_law_in w h)
  have hown : s.vm.findClass RL = some m.cls := hown
  have hb : c.code = cL_law := hb
  refine lv_aload_n hx hb dL_law_320 rfl (lv_at hl 1 rfl) ?_
  refine lv_aload_n hx hb dL_law_321 rfl (lv_at hl 0 rfl) ?_
  refine lv_iload hx hb dL_law_322 (lv_at hl 4 rfl) ?_
  refine lv_iconst (v := (nI 1)) hx hb dL_law_324 (by decide) ?_
  refine z_iadd_n hx hb dL_law_325 ?_
  refine z_sld_n hx hb hX hbl hR dL_law_326 (by omega) hL ha1 ?_
  refine lv_aload_n hx hb dL_law_327 rfl (lv_at hl 3 rfl) ?_
  refine z_lW (As := [.ref (adx 0), .int (nI (p)), .ref (oo)]) (rest := []) ⟨hx, hb, hml, hown, hts⟩ X0 hR (o_sendBarrier_e3 X0.2.2.1 X0.2.2.2.2.1 hfl S g p hO hp hc1 hc2 hc) (vx_cwSW 3 hts gL_law_L_sendBarrier rfl rfl rfl (by decide +kernel) ⟨Nat.le_of_ble_eq_true rfl, Nat.le_of_ble_eq_true rfl⟩) rfl hl rfl (Nat.le_of_ble_eq_true rfl) ⟨hcc, hss⟩ dL_law_328 (fun r S1 g1 H locs hp hR => ?_)
  obtain ⟨hr1, hs1⟩ := hp
  subst r
  have hs1 : S1 = S := hs1
  subst S1
  refine lv_istore (lv' := [(5, .int (nI (2))), (0, .ref (b)), (1, .ref (adx 0)), (2, .ref (adm 0)), (3, .ref (oo)), (4, .int (nI (i)))]) hx hb dL_law_331 hl (by decide) rfl (fun ls hl => ?_)
  refine lv_aload_n hx hb dL_law_333 rfl (lv_at hl 3 rfl) ?_
  refine lv_aload_n hx hb dL_law_334 rfl (lv_at hl 1 rfl) ?_
  refine lv_iload hx hb dL_law_335 (lv_at hl 5 rfl) ?_
  refine lv_iconst (v := (nI 1)) hx hb dL_law_337 (by decide) ?_
  refine z_iadd_n hx hb dL_law_338 ?_
  refine z_sld_n hx hb hX hbl hR dL_law_339 (by omega) hL ha1 ?_
  refine z_lM_i (As := [.int (nI (p))]) (rest := []) ⟨hx, hb, hml, hown, hts⟩ X0 hR (c_X5_sendBarrier_e2 X0.2.2.2.1 M p hOM hp_m hc_m) (cwV 1 hts gL_law_X5_sendBarrier rfl rfl rfl (by decide +kernel) ⟨Nat.le_of_ble_eq_true rfl, Nat.le_of_ble_eq_true rfl⟩) rfl hl rfl (Nat.le_of_ble_eq_true rfl) ⟨by show cells + 1 + 0 ≤ 1096; omega, by show slots + 6 + 0 ≤ 9967; omega⟩ dL_law_340 (fun r T1 H locs hp hR => ?_)
  obtain ⟨hr1, hs1⟩ := hp
  subst r
  subst T1
  refine lv_istore (lv' := [(6, .int (nI (0))), (5, .int (nI (2))), (0, .ref (b)), (1, .ref (adx 0)), (2, .ref (adm 0)), (3, .ref (oo)), (4, .int (nI (i)))]) hx hb dL_law_343 hl (by decide) rfl (fun ls hl => ?_)
  refine lv_aload_n hx hb dL_law_345 rfl (lv_at hl 4 rfl) ?_
  refine z_lM_i (As := []) (rest := []) ⟨hx, hb, hml, hown, hts⟩ X0 hR (c_X5_thrown X0.2.2.2.1 (zth M 2)) (cwV 0 hts gL_law_X5_thrown rfl rfl rfl (by decide +kernel) ⟨Nat.le_of_ble_eq_true rfl, Nat.le_of_ble_eq_true rfl⟩) rfl hl rfl (Nat.le_of_ble_eq_true rfl) ⟨by show cells + 1 + 0 ≤ 1096; omega, by show slots + 6 + 0 ≤ 9967; omega⟩ dL_law_346 (fun r M1 H locs hp hR => ?_)
  obtain ⟨hr1, hs1⟩ := hp
  subst M1
  obtain rfl : r = nI 2 := hr1.trans (th_4 _ _)
  refine lv_iload hx hb dL_law_349 (lv_at hl 1 rfl) ?_
  refine z_eq_n (tgt := 356) hx hb dL_law_351 (by decide) (by decide) (by decide) (fun _ => ?_) (fun h => absurd rfl h)
  refine lv_iload hx hb dL_law_356 (lv_at hl 1 rfl) ?_
  refine z_if_ne_n (tgt := 373) hx hb dL_law_358 (by decide) (by decide) (fun _ => ?_) (fun h => absurd h (by decide))
  refine lv_goto (tgt := 1903) hx hb dL_law_373 (by decide) ?_
  exact K _ _ _ _ hR (lv_sub hl [2, 3, 4, 5, 6] rfl)
set_option maxHeartbeats 4000000 in
set_option maxRecDepth 100000 in
theorem lw_sendBarrier_ok {pg : Program} {l : Launch} {e : Env} {s : State} {m : MethodId} {below : List Frame} {meth : Method} {c : Code} {b L : Nat} {xs : Nat → Int32} {D : va_G} {cI cZ cJ : ClassId} {adx adm : Nat → Nat} {oo : Nat} {Bx Bm : Nat → Prop} (C0 : lw_At pg s m meth c b L xs) (hfl : l.stackTraces = false) (X0 : zLC D cI cZ cJ adx adm oo Bx Bm s) (S M : zS) (g : Nat → Int64) (i : Nat) (p : Nat) (hO : zOK S) (hOM : zOK M) (hp : p < 4) (hc1 : ¬ S 22 2 = (-1)) (hc2 : S 4 p = nI 0) (hc : ∀ w, w < zn S 22 0 → zn S 7 (4 * p + w) < 8) (hxb : (-(S 22 2)).toInt ≤ 31100) (hp_m : p < 4) (hc_m : (¬ M 22 2 = (-1) ∧ M 4 p = nI 0) ∧ ∀ w, w < zn M 22 0 → zn M 7 (4 * p + w) < 8) (hxb_m : (-(M 22 2)).toInt ≤ 31100) (hth : (mo_send (zth M 0) p) 22 4 = nI 0) (hres : (nI (zn (sp_sb S p (zn S 22 0)) 2 p)) = (nI (zn (mo_send (zth M 0) p) 2 p))) (ha1 : xs (i + 1) = (nI (p))) (hi : i + 4 ≤ L) (hL : L ≤ 2048) {H : Heap} {locs : List Loc} {cells slots : Nat} {ls : Array Slot} (hcc : cells + 1 ≤ 1096) (hss : slots + 6 ≤ 9967) (hR : zL D cI cZ cJ adx adm oo s H locs S M g) (hl : lv_has ls 7 [(0, .ref (b)), (1, .ref (adx 0)), (2, .ref (adm 0)), (3, .ref (oo)), (4, .int (nI (i)))]) (K : ∀ (g1 : Nat → Int64) (H1 : Heap) (locs1 : List Loc) (ls1 : Array Slot), zL D cI cZ cJ adx adm oo s H1 locs1 (sp_send S p) (mo_send (zth M 0) p) g1 → lv_has ls1 7 [(0, .ref (b)), (1, .ref (adx 0)), (2, .ref (adm 0)), (3, .ref (oo)), (4, .int (nI (i)))] → W pg l e room_1 s m #[Value.ref b] below meth c H1 locs1 (cells + 1) (slots + 6) (lw_Z below #[Value.ref b] s) (F0 m 1903 ls1 [])) : W pg l e room_1 s m #[Value.ref b] below meth c H locs cells slots (lw_Z below #[Value.ref b] s) (F0 m 320 ls []) := by
  obtain ⟨hx, hb, hr, hml, hown, hts, hX, hbl, hlocks, hgv⟩ := C0
  have hts := fun w h => hts w (wsL_law_in w h)
  have hown : s.vm.findClass RL = some m.cls := hown
  have hb : c.code = cL_law := hb
  refine lv_aload_n hx hb dL_law_320 rfl (lv_at hl 1 rfl) ?_
  refine lv_aload_n hx hb dL_law_321 rfl (lv_at hl 0 rfl) ?_
  refine lv_iload hx hb dL_law_322 (lv_at hl 4 rfl) ?_
  refine lv_iconst (v := (nI 1)) hx hb dL_law_324 (by decide) ?_
  refine z_iadd_n hx hb dL_law_325 ?_
  refine z_sld_n hx hb hX hbl hR dL_law_326 (by omega) hL ha1 ?_
  refine lv_aload_n hx hb dL_law_327 rfl (lv_at hl 3 rfl) ?_
  refine z_lW (As := [.ref (adx 0), .int (nI (p)), .ref (oo)]) (rest := []) ⟨hx, hb, hml, hown, hts⟩ X0 hR (o_sendBarrier_ok X0.2.2.1 X0.2.2.2.2.1 hfl S g p hO hp hc1 hc2 hc hxb) (vx_cwSW 3 hts gL_law_L_sendBarrier rfl rfl rfl (by decide +kernel) ⟨Nat.le_of_ble_eq_true rfl, Nat.le_of_ble_eq_true rfl⟩) rfl hl rfl (Nat.le_of_ble_eq_true rfl) ⟨hcc, hss⟩ dL_law_328 (fun r S1 g1 H locs hp hR => ?_)
  obtain ⟨hr1, hs1, hg⟩ := hp
  subst r
  have hs1 : S1 = sp_send S p := hs1
  subst S1
  refine lv_istore (lv' := [(5, .int (nI (0))), (0, .ref (b)), (1, .ref (adx 0)), (2, .ref (adm 0)), (3, .ref (oo)), (4, .int (nI (i)))]) hx hb dL_law_331 hl (by decide) rfl (fun ls hl => ?_)
  refine lv_aload_n hx hb dL_law_333 rfl (lv_at hl 3 rfl) ?_
  refine lv_aload_n hx hb dL_law_334 rfl (lv_at hl 1 rfl) ?_
  refine lv_iload hx hb dL_law_335 (lv_at hl 5 rfl) ?_
  refine lv_iconst (v := (nI 1)) hx hb dL_law_337 (by decide) ?_
  refine z_iadd_n hx hb dL_law_338 ?_
  refine z_sld_n hx hb hX hbl hR dL_law_339 (by omega) hL ha1 ?_
  refine z_lM_i (As := [.int (nI (p))]) (rest := []) ⟨hx, hb, hml, hown, hts⟩ X0 hR (c_X5_sendBarrier_ok X0.2.2.2.1 M p hOM hp_m hc_m hxb_m) (cwV 1 hts gL_law_X5_sendBarrier rfl rfl rfl (by decide +kernel) ⟨Nat.le_of_ble_eq_true rfl, Nat.le_of_ble_eq_true rfl⟩) rfl hl rfl (Nat.le_of_ble_eq_true rfl) ⟨by show cells + 1 + 0 ≤ 1096; omega, by show slots + 6 + 0 ≤ 9967; omega⟩ dL_law_340 (fun r T1 H locs hp hR => ?_)
  obtain ⟨hr1, hs1⟩ := hp
  subst r
  subst T1
  refine lv_istore (lv' := [(6, .int (nI (zn (mo_send (zth M 0) p) 2 p))), (5, .int (nI (0))), (0, .ref (b)), (1, .ref (adx 0)), (2, .ref (adm 0)), (3, .ref (oo)), (4, .int (nI (i)))]) hx hb dL_law_343 hl (by decide) rfl (fun ls hl => ?_)
  refine lv_aload_n hx hb dL_law_345 rfl (lv_at hl 4 rfl) ?_
  refine z_lM_i (As := []) (rest := []) ⟨hx, hb, hml, hown, hts⟩ X0 hR (c_X5_thrown X0.2.2.2.1 (mo_send (zth M 0) p)) (cwV 0 hts gL_law_X5_thrown rfl rfl rfl (by decide +kernel) ⟨Nat.le_of_ble_eq_true rfl, Nat.le_of_ble_eq_true rfl⟩) rfl hl rfl (Nat.le_of_ble_eq_true rfl) ⟨by show cells + 1 + 0 ≤ 1096; omega, by show slots + 6 + 0 ≤ 9967; omega⟩ dL_law_346 (fun r M1 H locs hp hR => ?_)
  obtain ⟨hr1, hs1⟩ := hp
  subst M1
  obtain rfl : r = nI 0 := hr1.trans hth
  refine lv_iload hx hb dL_law_349 (lv_at hl 1 rfl) ?_
  refine z_eq_n (tgt := 356) hx hb dL_law_351 (by decide) (by decide) (by decide) (fun _ => ?_) (fun h => absurd rfl h)
  refine lv_iload hx hb dL_law_356 (lv_at hl 1 rfl) ?_
  refine z_if_ne_n (tgt := 373) hx hb dL_law_358 (by decide) (by decide) (fun h => absurd h (by decide)) (fun _ => ?_)
  refine lv_aload_n hx hb dL_law_361 rfl (lv_at hl 5 rfl) ?_
  refine lv_iconst (v := (nI 0)) hx hb dL_law_362 (by decide) ?_
  refine z_l_lald hx hb X0 hR dL_law_363 ?_
  refine lv_iload hx hb dL_law_364 (lv_at hl 0 rfl) ?_
  refine lv_i2l (v := ((nI (zn (mo_send (zth M 0) p) 2 p))).toInt64) hx hb dL_law_366 rfl ?_
  refine W.lcmp hx hb dL_law_367 ?_
  refine lv_topi (fun v9 ev9 => ?_)
  obtain rfl : v9 = nI 0 := ev9.trans (z_cmp_eq (hg.trans (congrArg Int32.toInt64 hres)))
  refine z_if_eq_n (tgt := 373) hx hb dL_law_368 (by decide) (by decide) (fun _ => ?_) (fun h => absurd h (by decide))
  refine lv_goto (tgt := 1903) hx hb dL_law_373 (by decide) ?_
  exact K _ _ _ _ hR (lv_sub hl [2, 3, 4, 5, 6] rfl)
set_option maxHeartbeats 4000000 in
set_option maxRecDepth 100000 in
theorem lw_take_e1 {pg : Program} {l : Launch} {e : Env} {s : State} {m : MethodId} {below : List Frame} {meth : Method} {c : Code} {b L : Nat} {xs : Nat → Int32} {D : va_G} {cI cZ cJ : ClassId} {adx adm : Nat → Nat} {oo : Nat} {Bx Bm : Nat → Prop} (C0 : lw_At pg s m meth c b L xs) (hfl : l.stackTraces = false) (X0 : zLC D cI cZ cJ adx adm oo Bx Bm s) (S M : zS) (g : Nat → Int64) (i : Nat) (x : Int32) (y : Int32) (hO : zOK S) (hOM : zOK M) (hxb : zbad x (zn S 22 0)) (hxb_m : zbad x (zn M 22 0)) (ha1 : xs (i + 1) = (x)) (ha2 : xs (i + 2) = (y)) (hi : i + 4 ≤ L) (hL : L ≤ 2048) {H : Heap} {locs : List Loc} {cells slots : Nat} {ls : Array Slot} (hcc : cells + 1 ≤ 1096) (hss : slots + 6 ≤ 9967) (hR : zL D cI cZ cJ adx adm oo s H locs S M g) (hl : lv_has ls 7 [(0, .ref (b)), (1, .ref (adx 0)), (2, .ref (adm 0)), (3, .ref (oo)), (4, .int (nI (i)))]) (K : ∀ (g1 : Nat → Int64) (H1 : Heap) (locs1 : List Loc) (ls1 : Array Slot), zL D cI cZ cJ adx adm oo s H1 locs1 (S) (zth M 1) g1 → lv_has ls1 7 [(0, .ref (b)), (1, .ref (adx 0)), (2, .ref (adm 0)), (3, .ref (oo)), (4, .int (nI (i)))] → W pg l e room_1 s m #[Value.ref b] below meth c H1 locs1 (cells + 1) (slots + 6) (lw_Z below #[Value.ref b] s) (F0 m 1903 ls1 [])) : W pg l e room_1 s m #[Value.ref b] below meth c H locs cells slots (lw_Z below #[Value.ref b] s) (F0 m 376 ls []) := by
  obtain ⟨hx, hb, hr, hml, hown, hts, hX, hbl, hlocks, hgv⟩ := C0
  have hts := fun w h => hts w (wsL_law_in w h)
  have hown : s.vm.findClass RL = some m.cls := hown
  have hb : c.code = cL_law := hb
  refine lv_aload_n hx hb dL_law_376 rfl (lv_at hl 1 rfl) ?_
  refine lv_aload_n hx hb dL_law_377 rfl (lv_at hl 0 rfl) ?_
  refine lv_iload hx hb dL_law_378 (lv_at hl 4 rfl) ?_
  refine lv_iconst (v := (nI 1)) hx hb dL_law_380 (by decide) ?_
  refine z_iadd_n hx hb dL_law_381 ?_
  refine z_sld_n hx hb hX hbl hR dL_law_382 (by omega) hL ha1 ?_
  refine lv_aload_n hx hb dL_law_383 rfl (lv_at hl 0 rfl) ?_
  refine lv_iload hx hb dL_law_384 (lv_at hl 4 rfl) ?_
  refine lv_iconst (v := (nI 2)) hx hb dL_law_386 (by decide) ?_
  refine z_iadd_n hx hb dL_law_387 ?_
  refine z_sld_n hx hb hX hbl hR dL_law_388 (by omega) hL ha2 ?_
  refine lv_aload_n hx hb dL_law_389 rfl (lv_at hl 3 rfl) ?_
  refine z_lW (As := [.ref (adx 0), .int (x), .int (y), .ref (oo)]) (rest := []) ⟨hx, hb, hml, hown, hts⟩ X0 hR (o_take_e1 X0.2.2.1 X0.2.2.2.2.1 hfl S g x y hO hxb) (vx_cwSW 4 hts gL_law_L_take rfl rfl rfl (by decide +kernel) ⟨Nat.le_of_ble_eq_true rfl, Nat.le_of_ble_eq_true rfl⟩) rfl hl rfl (Nat.le_of_ble_eq_true rfl) ⟨hcc, hss⟩ dL_law_390 (fun r S1 g1 H locs hp hR => ?_)
  obtain ⟨hr1, hs1⟩ := hp
  subst r
  have hs1 : S1 = S := hs1
  subst S1
  refine lv_istore (lv' := [(5, .int (nI (1))), (0, .ref (b)), (1, .ref (adx 0)), (2, .ref (adm 0)), (3, .ref (oo)), (4, .int (nI (i)))]) hx hb dL_law_393 hl (by decide) rfl (fun ls hl => ?_)
  refine lv_aload_n hx hb dL_law_395 rfl (lv_at hl 3 rfl) ?_
  refine lv_aload_n hx hb dL_law_396 rfl (lv_at hl 1 rfl) ?_
  refine lv_iload hx hb dL_law_397 (lv_at hl 5 rfl) ?_
  refine lv_iconst (v := (nI 1)) hx hb dL_law_399 (by decide) ?_
  refine z_iadd_n hx hb dL_law_400 ?_
  refine z_sld_n hx hb hX hbl hR dL_law_401 (by omega) hL ha1 ?_
  refine lv_aload_n hx hb dL_law_402 rfl (lv_at hl 1 rfl) ?_
  refine lv_iload hx hb dL_law_403 (lv_at hl 5 rfl) ?_
  refine lv_iconst (v := (nI 2)) hx hb dL_law_405 (by decide) ?_
  refine z_iadd_n hx hb dL_law_406 ?_
  refine z_sld_n hx hb hX hbl hR dL_law_407 (by omega) hL ha2 ?_
  refine z_lM_i (As := [.int (x), .int (y)]) (rest := []) ⟨hx, hb, hml, hown, hts⟩ X0 hR (c_X5_take_e1 X0.2.2.2.1 M x y hOM hxb_m) (cwV 2 hts gL_law_X5_take rfl rfl rfl (by decide +kernel) ⟨Nat.le_of_ble_eq_true rfl, Nat.le_of_ble_eq_true rfl⟩) rfl hl rfl (Nat.le_of_ble_eq_true rfl) ⟨by show cells + 1 + 0 ≤ 1096; omega, by show slots + 6 + 0 ≤ 9967; omega⟩ dL_law_408 (fun r T1 H locs hp hR => ?_)
  obtain ⟨hr1, hs1⟩ := hp
  subst r
  subst T1
  refine lv_istore (lv' := [(6, .int (nI (0))), (5, .int (nI (1))), (0, .ref (b)), (1, .ref (adx 0)), (2, .ref (adm 0)), (3, .ref (oo)), (4, .int (nI (i)))]) hx hb dL_law_411 hl (by decide) rfl (fun ls hl => ?_)
  refine lv_aload_n hx hb dL_law_413 rfl (lv_at hl 4 rfl) ?_
  refine z_lM_i (As := []) (rest := []) ⟨hx, hb, hml, hown, hts⟩ X0 hR (c_X5_thrown X0.2.2.2.1 (zth M 1)) (cwV 0 hts gL_law_X5_thrown rfl rfl rfl (by decide +kernel) ⟨Nat.le_of_ble_eq_true rfl, Nat.le_of_ble_eq_true rfl⟩) rfl hl rfl (Nat.le_of_ble_eq_true rfl) ⟨by show cells + 1 + 0 ≤ 1096; omega, by show slots + 6 + 0 ≤ 9967; omega⟩ dL_law_414 (fun r M1 H locs hp hR => ?_)
  obtain ⟨hr1, hs1⟩ := hp
  subst M1
  obtain rfl : r = nI 1 := hr1.trans (th_4 _ _)
  refine lv_iload hx hb dL_law_417 (lv_at hl 1 rfl) ?_
  refine z_eq_n (tgt := 424) hx hb dL_law_419 (by decide) (by decide) (by decide) (fun _ => ?_) (fun h => absurd rfl h)
  refine lv_iload hx hb dL_law_424 (lv_at hl 1 rfl) ?_
  refine z_if_ne_n (tgt := 441) hx hb dL_law_426 (by decide) (by decide) (fun _ => ?_) (fun h => absurd h (by decide))
  refine lv_goto (tgt := 1903) hx hb dL_law_441 (by decide) ?_
  exact K _ _ _ _ hR (lv_sub hl [2, 3, 4, 5, 6] rfl)
set_option maxHeartbeats 4000000 in
set_option maxRecDepth 100000 in
theorem lw_take_e2 {pg : Program} {l : Launch} {e : Env} {s : State} {m : MethodId} {below : List Frame} {meth : Method} {c : Code} {b L : Nat} {xs : Nat → Int32} {D : va_G} {cI cZ cJ : ClassId} {adx adm : Nat → Nat} {oo : Nat} {Bx Bm : Nat → Prop} (C0 : lw_At pg s m meth c b L xs) (hfl : l.stackTraces = false) (X0 : zLC D cI cZ cJ adx adm oo Bx Bm s) (S M : zS) (g : Nat → Int64) (i : Nat) (w : Nat) (y : Int32) (hO : zOK S) (hOM : zOK M) (hw : w < zn S 22 0) (hxb : zbad y 4) (hw_m : w < zn M 22 0) (hxb_m : zbad y 4) (ha1 : xs (i + 1) = (nI (w))) (ha2 : xs (i + 2) = (y)) (hi : i + 4 ≤ L) (hL : L ≤ 2048) {H : Heap} {locs : List Loc} {cells slots : Nat} {ls : Array Slot} (hcc : cells + 1 ≤ 1096) (hss : slots + 6 ≤ 9967) (hR : zL D cI cZ cJ adx adm oo s H locs S M g) (hl : lv_has ls 7 [(0, .ref (b)), (1, .ref (adx 0)), (2, .ref (adm 0)), (3, .ref (oo)), (4, .int (nI (i)))]) (K : ∀ (g1 : Nat → Int64) (H1 : Heap) (locs1 : List Loc) (ls1 : Array Slot), zL D cI cZ cJ adx adm oo s H1 locs1 (S) (zth M 1) g1 → lv_has ls1 7 [(0, .ref (b)), (1, .ref (adx 0)), (2, .ref (adm 0)), (3, .ref (oo)), (4, .int (nI (i)))] → W pg l e room_1 s m #[Value.ref b] below meth c H1 locs1 (cells + 1) (slots + 6) (lw_Z below #[Value.ref b] s) (F0 m 1903 ls1 [])) : W pg l e room_1 s m #[Value.ref b] below meth c H locs cells slots (lw_Z below #[Value.ref b] s) (F0 m 376 ls []) := by
  obtain ⟨hx, hb, hr, hml, hown, hts, hX, hbl, hlocks, hgv⟩ := C0
  have hts := fun w h => hts w (wsL_law_in w h)
  have hown : s.vm.findClass RL = some m.cls := hown
  have hb : c.code = cL_law := hb
  refine lv_aload_n hx hb dL_law_376 rfl (lv_at hl 1 rfl) ?_
  refine lv_aload_n hx hb dL_law_377 rfl (lv_at hl 0 rfl) ?_
  refine lv_iload hx hb dL_law_378 (lv_at hl 4 rfl) ?_
  refine lv_iconst (v := (nI 1)) hx hb dL_law_380 (by decide) ?_
  refine z_iadd_n hx hb dL_law_381 ?_
  refine z_sld_n hx hb hX hbl hR dL_law_382 (by omega) hL ha1 ?_
  refine lv_aload_n hx hb dL_law_383 rfl (lv_at hl 0 rfl) ?_
  refine lv_iload hx hb dL_law_384 (lv_at hl 4 rfl) ?_
  refine lv_iconst (v := (nI 2)) hx hb dL_law_386 (by decide) ?_
  refine z_iadd_n hx hb dL_law_387 ?_
  refine z_sld_n hx hb hX hbl hR dL_law_388 (by omega) hL ha2 ?_
  refine lv_aload_n hx hb dL_law_389 rfl (lv_at hl 3 rfl) ?_
  refine z_lW (As := [.ref (adx 0), .int (nI (w)), .int (y), .ref (oo)]) (rest := []) ⟨hx, hb, hml, hown, hts⟩ X0 hR (o_take_e2 X0.2.2.1 X0.2.2.2.2.1 hfl S g w y hO hw hxb) (vx_cwSW 4 hts gL_law_L_take rfl rfl rfl (by decide +kernel) ⟨Nat.le_of_ble_eq_true rfl, Nat.le_of_ble_eq_true rfl⟩) rfl hl rfl (Nat.le_of_ble_eq_true rfl) ⟨hcc, hss⟩ dL_law_390 (fun r S1 g1 H locs hp hR => ?_)
  obtain ⟨hr1, hs1⟩ := hp
  subst r
  have hs1 : S1 = S := hs1
  subst S1
  refine lv_istore (lv' := [(5, .int (nI (1))), (0, .ref (b)), (1, .ref (adx 0)), (2, .ref (adm 0)), (3, .ref (oo)), (4, .int (nI (i)))]) hx hb dL_law_393 hl (by decide) rfl (fun ls hl => ?_)
  refine lv_aload_n hx hb dL_law_395 rfl (lv_at hl 3 rfl) ?_
  refine lv_aload_n hx hb dL_law_396 rfl (lv_at hl 1 rfl) ?_
  refine lv_iload hx hb dL_law_397 (lv_at hl 5 rfl) ?_
  refine lv_iconst (v := (nI 1)) hx hb dL_law_399 (by decide) ?_
  refine z_iadd_n hx hb dL_law_400 ?_
  refine z_sld_n hx hb hX hbl hR dL_law_401 (by omega) hL ha1 ?_
  refine lv_aload_n hx hb dL_law_402 rfl (lv_at hl 1 rfl) ?_
  refine lv_iload hx hb dL_law_403 (lv_at hl 5 rfl) ?_
  refine lv_iconst (v := (nI 2)) hx hb dL_law_405 (by decide) ?_
  refine z_iadd_n hx hb dL_law_406 ?_
  refine z_sld_n hx hb hX hbl hR dL_law_407 (by omega) hL ha2 ?_
  refine z_lM_i (As := [.int (nI (w)), .int (y)]) (rest := []) ⟨hx, hb, hml, hown, hts⟩ X0 hR (c_X5_take_e2 X0.2.2.2.1 M w y hOM hw_m hxb_m) (cwV 2 hts gL_law_X5_take rfl rfl rfl (by decide +kernel) ⟨Nat.le_of_ble_eq_true rfl, Nat.le_of_ble_eq_true rfl⟩) rfl hl rfl (Nat.le_of_ble_eq_true rfl) ⟨by show cells + 1 + 0 ≤ 1096; omega, by show slots + 6 + 0 ≤ 9967; omega⟩ dL_law_408 (fun r T1 H locs hp hR => ?_)
  obtain ⟨hr1, hs1⟩ := hp
  subst r
  subst T1
  refine lv_istore (lv' := [(6, .int (nI (0))), (5, .int (nI (1))), (0, .ref (b)), (1, .ref (adx 0)), (2, .ref (adm 0)), (3, .ref (oo)), (4, .int (nI (i)))]) hx hb dL_law_411 hl (by decide) rfl (fun ls hl => ?_)
  refine lv_aload_n hx hb dL_law_413 rfl (lv_at hl 4 rfl) ?_
  refine z_lM_i (As := []) (rest := []) ⟨hx, hb, hml, hown, hts⟩ X0 hR (c_X5_thrown X0.2.2.2.1 (zth M 1)) (cwV 0 hts gL_law_X5_thrown rfl rfl rfl (by decide +kernel) ⟨Nat.le_of_ble_eq_true rfl, Nat.le_of_ble_eq_true rfl⟩) rfl hl rfl (Nat.le_of_ble_eq_true rfl) ⟨by show cells + 1 + 0 ≤ 1096; omega, by show slots + 6 + 0 ≤ 9967; omega⟩ dL_law_414 (fun r M1 H locs hp hR => ?_)
  obtain ⟨hr1, hs1⟩ := hp
  subst M1
  obtain rfl : r = nI 1 := hr1.trans (th_4 _ _)
  refine lv_iload hx hb dL_law_417 (lv_at hl 1 rfl) ?_
  refine z_eq_n (tgt := 424) hx hb dL_law_419 (by decide) (by decide) (by decide) (fun _ => ?_) (fun h => absurd rfl h)
  refine lv_iload hx hb dL_law_424 (lv_at hl 1 rfl) ?_
  refine z_if_ne_n (tgt := 441) hx hb dL_law_426 (by decide) (by decide) (fun _ => ?_) (fun h => absurd h (by decide))
  refine lv_goto (tgt := 1903) hx hb dL_law_441 (by decide) ?_
  exact K _ _ _ _ hR (lv_sub hl [2, 3, 4, 5, 6] rfl)
set_option maxHeartbeats 4000000 in
set_option maxRecDepth 100000 in
theorem lw_take_e3 {pg : Program} {l : Launch} {e : Env} {s : State} {m : MethodId} {below : List Frame} {meth : Method} {c : Code} {b L : Nat} {xs : Nat → Int32} {D : va_G} {cI cZ cJ : ClassId} {adx adm : Nat → Nat} {oo : Nat} {Bx Bm : Nat → Prop} (C0 : lw_At pg s m meth c b L xs) (hfl : l.stackTraces = false) (X0 : zLC D cI cZ cJ adx adm oo Bx Bm s) (S M : zS) (g : Nat → Int64) (i : Nat) (w : Nat) (p : Nat) (hO : zOK S) (hOM : zOK M) (hw : w < zn S 22 0) (hp : p < 4) (hc : ¬ zcanT S p w) (hw_m : w < zn M 22 0) (hp_m : p < 4) (hc_m : ¬ zcanT M p w) (ha1 : xs (i + 1) = (nI (w))) (ha2 : xs (i + 2) = (nI (p))) (hi : i + 4 ≤ L) (hL : L ≤ 2048) {H : Heap} {locs : List Loc} {cells slots : Nat} {ls : Array Slot} (hcc : cells + 1 ≤ 1096) (hss : slots + 6 ≤ 9967) (hR : zL D cI cZ cJ adx adm oo s H locs S M g) (hl : lv_has ls 7 [(0, .ref (b)), (1, .ref (adx 0)), (2, .ref (adm 0)), (3, .ref (oo)), (4, .int (nI (i)))]) (K : ∀ (g1 : Nat → Int64) (H1 : Heap) (locs1 : List Loc) (ls1 : Array Slot), zL D cI cZ cJ adx adm oo s H1 locs1 (S) (zth M 2) g1 → lv_has ls1 7 [(0, .ref (b)), (1, .ref (adx 0)), (2, .ref (adm 0)), (3, .ref (oo)), (4, .int (nI (i)))] → W pg l e room_1 s m #[Value.ref b] below meth c H1 locs1 (cells + 1) (slots + 6) (lw_Z below #[Value.ref b] s) (F0 m 1903 ls1 [])) : W pg l e room_1 s m #[Value.ref b] below meth c H locs cells slots (lw_Z below #[Value.ref b] s) (F0 m 376 ls []) := by
  obtain ⟨hx, hb, hr, hml, hown, hts, hX, hbl, hlocks, hgv⟩ := C0
  have hts := fun w h => hts w (wsL_law_in w h)
  have hown : s.vm.findClass RL = some m.cls := hown
  have hb : c.code = cL_law := hb
  refine lv_aload_n hx hb dL_law_376 rfl (lv_at hl 1 rfl) ?_
  refine lv_aload_n hx hb dL_law_377 rfl (lv_at hl 0 rfl) ?_
  refine lv_iload hx hb dL_law_378 (lv_at hl 4 rfl) ?_
  refine lv_iconst (v := (nI 1)) hx hb dL_law_380 (by decide) ?_
  refine z_iadd_n hx hb dL_law_381 ?_
  refine z_sld_n hx hb hX hbl hR dL_law_382 (by omega) hL ha1 ?_
  refine lv_aload_n hx hb dL_law_383 rfl (lv_at hl 0 rfl) ?_
  refine lv_iload hx hb dL_law_384 (lv_at hl 4 rfl) ?_
  refine lv_iconst (v := (nI 2)) hx hb dL_law_386 (by decide) ?_
  refine z_iadd_n hx hb dL_law_387 ?_
  refine z_sld_n hx hb hX hbl hR dL_law_388 (by omega) hL ha2 ?_
  refine lv_aload_n hx hb dL_law_389 rfl (lv_at hl 3 rfl) ?_
  refine z_lW (As := [.ref (adx 0), .int (nI (w)), .int (nI (p)), .ref (oo)]) (rest := []) ⟨hx, hb, hml, hown, hts⟩ X0 hR (o_take_e3 X0.2.2.1 X0.2.2.2.2.1 hfl S g w p hO hw hp hc) (vx_cwSW 4 hts gL_law_L_take rfl rfl rfl (by decide +kernel) ⟨Nat.le_of_ble_eq_true rfl, Nat.le_of_ble_eq_true rfl⟩) rfl hl rfl (Nat.le_of_ble_eq_true rfl) ⟨hcc, hss⟩ dL_law_390 (fun r S1 g1 H locs hp hR => ?_)
  obtain ⟨hr1, hs1⟩ := hp
  subst r
  have hs1 : S1 = S := hs1
  subst S1
  refine lv_istore (lv' := [(5, .int (nI (2))), (0, .ref (b)), (1, .ref (adx 0)), (2, .ref (adm 0)), (3, .ref (oo)), (4, .int (nI (i)))]) hx hb dL_law_393 hl (by decide) rfl (fun ls hl => ?_)
  refine lv_aload_n hx hb dL_law_395 rfl (lv_at hl 3 rfl) ?_
  refine lv_aload_n hx hb dL_law_396 rfl (lv_at hl 1 rfl) ?_
  refine lv_iload hx hb dL_law_397 (lv_at hl 5 rfl) ?_
  refine lv_iconst (v := (nI 1)) hx hb dL_law_399 (by decide) ?_
  refine z_iadd_n hx hb dL_law_400 ?_
  refine z_sld_n hx hb hX hbl hR dL_law_401 (by omega) hL ha1 ?_
  refine lv_aload_n hx hb dL_law_402 rfl (lv_at hl 1 rfl) ?_
  refine lv_iload hx hb dL_law_403 (lv_at hl 5 rfl) ?_
  refine lv_iconst (v := (nI 2)) hx hb dL_law_405 (by decide) ?_
  refine z_iadd_n hx hb dL_law_406 ?_
  refine z_sld_n hx hb hX hbl hR dL_law_407 (by omega) hL ha2 ?_
  refine z_lM_i (As := [.int (nI (w)), .int (nI (p))]) (rest := []) ⟨hx, hb, hml, hown, hts⟩ X0 hR (c_X5_take_e3 X0.2.2.2.1 M w p hOM hw_m hp_m hc_m) (cwV 2 hts gL_law_X5_take rfl rfl rfl (by decide +kernel) ⟨Nat.le_of_ble_eq_true rfl, Nat.le_of_ble_eq_true rfl⟩) rfl hl rfl (Nat.le_of_ble_eq_true rfl) ⟨by show cells + 1 + 0 ≤ 1096; omega, by show slots + 6 + 0 ≤ 9967; omega⟩ dL_law_408 (fun r T1 H locs hp hR => ?_)
  obtain ⟨hr1, hs1⟩ := hp
  subst r
  subst T1
  refine lv_istore (lv' := [(6, .int (nI (0))), (5, .int (nI (2))), (0, .ref (b)), (1, .ref (adx 0)), (2, .ref (adm 0)), (3, .ref (oo)), (4, .int (nI (i)))]) hx hb dL_law_411 hl (by decide) rfl (fun ls hl => ?_)
  refine lv_aload_n hx hb dL_law_413 rfl (lv_at hl 4 rfl) ?_
  refine z_lM_i (As := []) (rest := []) ⟨hx, hb, hml, hown, hts⟩ X0 hR (c_X5_thrown X0.2.2.2.1 (zth M 2)) (cwV 0 hts gL_law_X5_thrown rfl rfl rfl (by decide +kernel) ⟨Nat.le_of_ble_eq_true rfl, Nat.le_of_ble_eq_true rfl⟩) rfl hl rfl (Nat.le_of_ble_eq_true rfl) ⟨by show cells + 1 + 0 ≤ 1096; omega, by show slots + 6 + 0 ≤ 9967; omega⟩ dL_law_414 (fun r M1 H locs hp hR => ?_)
  obtain ⟨hr1, hs1⟩ := hp
  subst M1
  obtain rfl : r = nI 2 := hr1.trans (th_4 _ _)
  refine lv_iload hx hb dL_law_417 (lv_at hl 1 rfl) ?_
  refine z_eq_n (tgt := 424) hx hb dL_law_419 (by decide) (by decide) (by decide) (fun _ => ?_) (fun h => absurd rfl h)
  refine lv_iload hx hb dL_law_424 (lv_at hl 1 rfl) ?_
  refine z_if_ne_n (tgt := 441) hx hb dL_law_426 (by decide) (by decide) (fun _ => ?_) (fun h => absurd h (by decide))
  refine lv_goto (tgt := 1903) hx hb dL_law_441 (by decide) ?_
  exact K _ _ _ _ hR (lv_sub hl [2, 3, 4, 5, 6] rfl)
set_option maxHeartbeats 4000000 in
set_option maxRecDepth 100000 in
theorem lw_take_ok {pg : Program} {l : Launch} {e : Env} {s : State} {m : MethodId} {below : List Frame} {meth : Method} {c : Code} {b L : Nat} {xs : Nat → Int32} {D : va_G} {cI cZ cJ : ClassId} {adx adm : Nat → Nat} {oo : Nat} {Bx Bm : Nat → Prop} (C0 : lw_At pg s m meth c b L xs) (hfl : l.stackTraces = false) (X0 : zLC D cI cZ cJ adx adm oo Bx Bm s) (S M : zS) (g : Nat → Int64) (i : Nat) (w : Nat) (p : Nat) (hO : zOK S) (hOM : zOK M) (hw : w < zn S 22 0) (hp : p < 4) (hc : zcanT S p w) (hw_m : w < zn M 22 0) (hp_m : p < 4) (hc_m : zcanT M p w) (hth : (mo_tf (zth M 0) p w) 22 4 = nI 0) (hres : (sp_tfr S p w) = (mo_tfr (zth M 0) p w)) (ha1 : xs (i + 1) = (nI (w))) (ha2 : xs (i + 2) = (nI (p))) (hi : i + 4 ≤ L) (hL : L ≤ 2048) {H : Heap} {locs : List Loc} {cells slots : Nat} {ls : Array Slot} (hcc : cells + 1 ≤ 1096) (hss : slots + 6 ≤ 9967) (hR : zL D cI cZ cJ adx adm oo s H locs S M g) (hl : lv_has ls 7 [(0, .ref (b)), (1, .ref (adx 0)), (2, .ref (adm 0)), (3, .ref (oo)), (4, .int (nI (i)))]) (K : ∀ (g1 : Nat → Int64) (H1 : Heap) (locs1 : List Loc) (ls1 : Array Slot), zL D cI cZ cJ adx adm oo s H1 locs1 (sp_tf S p w) (mo_tf (zth M 0) p w) g1 → lv_has ls1 7 [(0, .ref (b)), (1, .ref (adx 0)), (2, .ref (adm 0)), (3, .ref (oo)), (4, .int (nI (i)))] → W pg l e room_1 s m #[Value.ref b] below meth c H1 locs1 (cells + 1) (slots + 6) (lw_Z below #[Value.ref b] s) (F0 m 1903 ls1 [])) : W pg l e room_1 s m #[Value.ref b] below meth c H locs cells slots (lw_Z below #[Value.ref b] s) (F0 m 376 ls []) := by
  obtain ⟨hx, hb, hr, hml, hown, hts, hX, hbl, hlocks, hgv⟩ := C0
  have hts := fun w h => hts w (wsL_law_in w h)
  have hown : s.vm.findClass RL = some m.cls := hown
  have hb : c.code = cL_law := hb
  refine lv_aload_n hx hb dL_law_376 rfl (lv_at hl 1 rfl) ?_
  refine lv_aload_n hx hb dL_law_377 rfl (lv_at hl 0 rfl) ?_
  refine lv_iload hx hb dL_law_378 (lv_at hl 4 rfl) ?_
  refine lv_iconst (v := (nI 1)) hx hb dL_law_380 (by decide) ?_
  refine z_iadd_n hx hb dL_law_381 ?_
  refine z_sld_n hx hb hX hbl hR dL_law_382 (by omega) hL ha1 ?_
  refine lv_aload_n hx hb dL_law_383 rfl (lv_at hl 0 rfl) ?_
  refine lv_iload hx hb dL_law_384 (lv_at hl 4 rfl) ?_
  refine lv_iconst (v := (nI 2)) hx hb dL_law_386 (by decide) ?_
  refine z_iadd_n hx hb dL_law_387 ?_
  refine z_sld_n hx hb hX hbl hR dL_law_388 (by omega) hL ha2 ?_
  refine lv_aload_n hx hb dL_law_389 rfl (lv_at hl 3 rfl) ?_
  refine z_lW (As := [.ref (adx 0), .int (nI (w)), .int (nI (p)), .ref (oo)]) (rest := []) ⟨hx, hb, hml, hown, hts⟩ X0 hR (o_take_ok X0.2.2.1 X0.2.2.2.2.1 hfl S g w p hO hw hp hc) (vx_cwSW 4 hts gL_law_L_take rfl rfl rfl (by decide +kernel) ⟨Nat.le_of_ble_eq_true rfl, Nat.le_of_ble_eq_true rfl⟩) rfl hl rfl (Nat.le_of_ble_eq_true rfl) ⟨hcc, hss⟩ dL_law_390 (fun r S1 g1 H locs hp hR => ?_)
  obtain ⟨hr1, hs1, hg⟩ := hp
  subst r
  have hs1 : S1 = sp_tf S p w := hs1
  subst S1
  refine lv_istore (lv' := [(5, .int (nI (0))), (0, .ref (b)), (1, .ref (adx 0)), (2, .ref (adm 0)), (3, .ref (oo)), (4, .int (nI (i)))]) hx hb dL_law_393 hl (by decide) rfl (fun ls hl => ?_)
  refine lv_aload_n hx hb dL_law_395 rfl (lv_at hl 3 rfl) ?_
  refine lv_aload_n hx hb dL_law_396 rfl (lv_at hl 1 rfl) ?_
  refine lv_iload hx hb dL_law_397 (lv_at hl 5 rfl) ?_
  refine lv_iconst (v := (nI 1)) hx hb dL_law_399 (by decide) ?_
  refine z_iadd_n hx hb dL_law_400 ?_
  refine z_sld_n hx hb hX hbl hR dL_law_401 (by omega) hL ha1 ?_
  refine lv_aload_n hx hb dL_law_402 rfl (lv_at hl 1 rfl) ?_
  refine lv_iload hx hb dL_law_403 (lv_at hl 5 rfl) ?_
  refine lv_iconst (v := (nI 2)) hx hb dL_law_405 (by decide) ?_
  refine z_iadd_n hx hb dL_law_406 ?_
  refine z_sld_n hx hb hX hbl hR dL_law_407 (by omega) hL ha2 ?_
  refine z_lM_i (As := [.int (nI (w)), .int (nI (p))]) (rest := []) ⟨hx, hb, hml, hown, hts⟩ X0 hR (c_X5_take_ok X0.2.2.2.1 M w p hOM hw_m hp_m hc_m) (cwV 2 hts gL_law_X5_take rfl rfl rfl (by decide +kernel) ⟨Nat.le_of_ble_eq_true rfl, Nat.le_of_ble_eq_true rfl⟩) rfl hl rfl (Nat.le_of_ble_eq_true rfl) ⟨by show cells + 1 + 0 ≤ 1096; omega, by show slots + 6 + 0 ≤ 9967; omega⟩ dL_law_408 (fun r T1 H locs hp hR => ?_)
  obtain ⟨hr1, hs1⟩ := hp
  subst r
  subst T1
  refine lv_istore (lv' := [(6, .int (mo_tfr (zth M 0) p w)), (5, .int (nI (0))), (0, .ref (b)), (1, .ref (adx 0)), (2, .ref (adm 0)), (3, .ref (oo)), (4, .int (nI (i)))]) hx hb dL_law_411 hl (by decide) rfl (fun ls hl => ?_)
  refine lv_aload_n hx hb dL_law_413 rfl (lv_at hl 4 rfl) ?_
  refine z_lM_i (As := []) (rest := []) ⟨hx, hb, hml, hown, hts⟩ X0 hR (c_X5_thrown X0.2.2.2.1 (mo_tf (zth M 0) p w)) (cwV 0 hts gL_law_X5_thrown rfl rfl rfl (by decide +kernel) ⟨Nat.le_of_ble_eq_true rfl, Nat.le_of_ble_eq_true rfl⟩) rfl hl rfl (Nat.le_of_ble_eq_true rfl) ⟨by show cells + 1 + 0 ≤ 1096; omega, by show slots + 6 + 0 ≤ 9967; omega⟩ dL_law_414 (fun r M1 H locs hp hR => ?_)
  obtain ⟨hr1, hs1⟩ := hp
  subst M1
  obtain rfl : r = nI 0 := hr1.trans hth
  refine lv_iload hx hb dL_law_417 (lv_at hl 1 rfl) ?_
  refine z_eq_n (tgt := 424) hx hb dL_law_419 (by decide) (by decide) (by decide) (fun _ => ?_) (fun h => absurd rfl h)
  refine lv_iload hx hb dL_law_424 (lv_at hl 1 rfl) ?_
  refine z_if_ne_n (tgt := 441) hx hb dL_law_426 (by decide) (by decide) (fun h => absurd h (by decide)) (fun _ => ?_)
  refine lv_aload_n hx hb dL_law_429 rfl (lv_at hl 5 rfl) ?_
  refine lv_iconst (v := (nI 0)) hx hb dL_law_430 (by decide) ?_
  refine z_l_lald hx hb X0 hR dL_law_431 ?_
  refine lv_iload hx hb dL_law_432 (lv_at hl 0 rfl) ?_
  refine lv_i2l (v := ((mo_tfr (zth M 0) p w)).toInt64) hx hb dL_law_434 rfl ?_
  refine W.lcmp hx hb dL_law_435 ?_
  refine lv_topi (fun v9 ev9 => ?_)
  obtain rfl : v9 = nI 0 := ev9.trans (z_cmp_eq (hg.trans (congrArg Int32.toInt64 hres)))
  refine z_if_eq_n (tgt := 441) hx hb dL_law_436 (by decide) (by decide) (fun _ => ?_) (fun h => absurd h (by decide))
  refine lv_goto (tgt := 1903) hx hb dL_law_441 (by decide) ?_
  exact K _ _ _ _ hR (lv_sub hl [2, 3, 4, 5, 6] rfl)
set_option maxHeartbeats 4000000 in
set_option maxRecDepth 100000 in
theorem lw_pump_e1 {pg : Program} {l : Launch} {e : Env} {s : State} {m : MethodId} {below : List Frame} {meth : Method} {c : Code} {b L : Nat} {xs : Nat → Int32} {D : va_G} {cI cZ cJ : ClassId} {adx adm : Nat → Nat} {oo : Nat} {Bx Bm : Nat → Prop} (C0 : lw_At pg s m meth c b L xs) (hfl : l.stackTraces = false) (X0 : zLC D cI cZ cJ adx adm oo Bx Bm s) (S M : zS) (g : Nat → Int64) (i : Nat) (z : Int32) (hO : zOK S) (hOM : zOK M) (hz : zbadv z 1 20) (hz9_m : zbadv z 1 20) (ha1 : xs (i + 1) = (z)) (hi : i + 4 ≤ L) (hL : L ≤ 2048) {H : Heap} {locs : List Loc} {cells slots : Nat} {ls : Array Slot} (hcc : cells + 1 ≤ 1096) (hss : slots + 6 ≤ 9967) (hR : zL D cI cZ cJ adx adm oo s H locs S M g) (hl : lv_has ls 7 [(0, .ref (b)), (1, .ref (adx 0)), (2, .ref (adm 0)), (3, .ref (oo)), (4, .int (nI (i)))]) (K : ∀ (g1 : Nat → Int64) (H1 : Heap) (locs1 : List Loc) (ls1 : Array Slot), zL D cI cZ cJ adx adm oo s H1 locs1 (S) (zth M 1) g1 → lv_has ls1 7 [(0, .ref (b)), (1, .ref (adx 0)), (2, .ref (adm 0)), (3, .ref (oo)), (4, .int (nI (i)))] → W pg l e room_1 s m #[Value.ref b] below meth c H1 locs1 (cells + 1) (slots + 6) (lw_Z below #[Value.ref b] s) (F0 m 1903 ls1 [])) : W pg l e room_1 s m #[Value.ref b] below meth c H locs cells slots (lw_Z below #[Value.ref b] s) (F0 m 444 ls []) := by
  obtain ⟨hx, hb, hr, hml, hown, hts, hX, hbl, hlocks, hgv⟩ := C0
  have hts := fun w h => hts w (wsL_law_in w h)
  have hown : s.vm.findClass RL = some m.cls := hown
  have hb : c.code = cL_law := hb
  refine lv_aload_n hx hb dL_law_444 rfl (lv_at hl 1 rfl) ?_
  refine lv_aload_n hx hb dL_law_445 rfl (lv_at hl 0 rfl) ?_
  refine lv_iload hx hb dL_law_446 (lv_at hl 4 rfl) ?_
  refine lv_iconst (v := (nI 1)) hx hb dL_law_448 (by decide) ?_
  refine z_iadd_n hx hb dL_law_449 ?_
  refine z_sld_n hx hb hX hbl hR dL_law_450 (by omega) hL ha1 ?_
  refine lv_aload_n hx hb dL_law_451 rfl (lv_at hl 3 rfl) ?_
  refine z_lW (As := [.ref (adx 0), .int (z), .ref (oo)]) (rest := []) ⟨hx, hb, hml, hown, hts⟩ X0 hR (o_pump_e1 X0.2.2.1 X0.2.2.2.2.1 hfl S g z hO hz) (vx_cwSW 3 hts gL_law_L_pump rfl rfl rfl (by decide +kernel) ⟨Nat.le_of_ble_eq_true rfl, Nat.le_of_ble_eq_true rfl⟩) rfl hl rfl (Nat.le_of_ble_eq_true rfl) ⟨hcc, hss⟩ dL_law_452 (fun r S1 g1 H locs hp hR => ?_)
  obtain ⟨hr1, hs1⟩ := hp
  subst r
  have hs1 : S1 = S := hs1
  subst S1
  refine lv_istore (lv' := [(5, .int (nI (1))), (0, .ref (b)), (1, .ref (adx 0)), (2, .ref (adm 0)), (3, .ref (oo)), (4, .int (nI (i)))]) hx hb dL_law_455 hl (by decide) rfl (fun ls hl => ?_)
  refine lv_aload_n hx hb dL_law_457 rfl (lv_at hl 3 rfl) ?_
  refine lv_aload_n hx hb dL_law_458 rfl (lv_at hl 1 rfl) ?_
  refine lv_iload hx hb dL_law_459 (lv_at hl 5 rfl) ?_
  refine lv_iconst (v := (nI 1)) hx hb dL_law_461 (by decide) ?_
  refine z_iadd_n hx hb dL_law_462 ?_
  refine z_sld_n hx hb hX hbl hR dL_law_463 (by omega) hL ha1 ?_
  refine z_lM_i (As := [.int (z)]) (rest := []) ⟨hx, hb, hml, hown, hts⟩ X0 hR (c_X5_pump_e1 X0.2.2.2.1 M z hOM hz9_m) (cwV 1 hts gL_law_X5_pump rfl rfl rfl (by decide +kernel) ⟨Nat.le_of_ble_eq_true rfl, Nat.le_of_ble_eq_true rfl⟩) rfl hl rfl (Nat.le_of_ble_eq_true rfl) ⟨by show cells + 1 + 0 ≤ 1096; omega, by show slots + 6 + 0 ≤ 9967; omega⟩ dL_law_464 (fun r T1 H locs hp hR => ?_)
  obtain ⟨hr1, hs1⟩ := hp
  subst r
  subst T1
  refine lv_istore (lv' := [(6, .int (nI (0))), (5, .int (nI (1))), (0, .ref (b)), (1, .ref (adx 0)), (2, .ref (adm 0)), (3, .ref (oo)), (4, .int (nI (i)))]) hx hb dL_law_467 hl (by decide) rfl (fun ls hl => ?_)
  refine lv_aload_n hx hb dL_law_469 rfl (lv_at hl 4 rfl) ?_
  refine z_lM_i (As := []) (rest := []) ⟨hx, hb, hml, hown, hts⟩ X0 hR (c_X5_thrown X0.2.2.2.1 (zth M 1)) (cwV 0 hts gL_law_X5_thrown rfl rfl rfl (by decide +kernel) ⟨Nat.le_of_ble_eq_true rfl, Nat.le_of_ble_eq_true rfl⟩) rfl hl rfl (Nat.le_of_ble_eq_true rfl) ⟨by show cells + 1 + 0 ≤ 1096; omega, by show slots + 6 + 0 ≤ 9967; omega⟩ dL_law_470 (fun r M1 H locs hp hR => ?_)
  obtain ⟨hr1, hs1⟩ := hp
  subst M1
  obtain rfl : r = nI 1 := hr1.trans (th_4 _ _)
  refine lv_iload hx hb dL_law_473 (lv_at hl 1 rfl) ?_
  refine z_eq_n (tgt := 480) hx hb dL_law_475 (by decide) (by decide) (by decide) (fun _ => ?_) (fun h => absurd rfl h)
  refine lv_iload hx hb dL_law_480 (lv_at hl 1 rfl) ?_
  refine z_if_ne_n (tgt := 497) hx hb dL_law_482 (by decide) (by decide) (fun _ => ?_) (fun h => absurd h (by decide))
  refine lv_goto (tgt := 1903) hx hb dL_law_497 (by decide) ?_
  exact K _ _ _ _ hR (lv_sub hl [2, 3, 4, 5, 6] rfl)
set_option maxHeartbeats 4000000 in
set_option maxRecDepth 100000 in
theorem lw_pump_ok {pg : Program} {l : Launch} {e : Env} {s : State} {m : MethodId} {below : List Frame} {meth : Method} {c : Code} {b L : Nat} {xs : Nat → Int32} {D : va_G} {cI cZ cJ : ClassId} {adx adm : Nat → Nat} {oo : Nat} {Bx Bm : Nat → Prop} (C0 : lw_At pg s m meth c b L xs) (hfl : l.stackTraces = false) (X0 : zLC D cI cZ cJ adx adm oo Bx Bm s) (S M : zS) (g : Nat → Int64) (i : Nat) (t : Nat) (hO : zOK S) (hOM : zOK M) (hv : 1 ≤ t) (hv2 : t ≤ 20) (hv_m : 1 ≤ t) (hv2_m : t ≤ 20) (hth : (mo_ps (zth M 0) (t * 4 * (zn M 22 0 + 1))) 22 4 = nI 0) (hres : (nI (sp_pmc S t)) = (nI (mo_psc (zth M 0) (t * 4 * (zn M 22 0 + 1))))) (ha1 : xs (i + 1) = (nI (t))) (hi : i + 4 ≤ L) (hL : L ≤ 2048) {H : Heap} {locs : List Loc} {cells slots : Nat} {ls : Array Slot} (hcc : cells + 1 ≤ 1096) (hss : slots + 6 ≤ 9967) (hR : zL D cI cZ cJ adx adm oo s H locs S M g) (hl : lv_has ls 7 [(0, .ref (b)), (1, .ref (adx 0)), (2, .ref (adm 0)), (3, .ref (oo)), (4, .int (nI (i)))]) (K : ∀ (g1 : Nat → Int64) (H1 : Heap) (locs1 : List Loc) (ls1 : Array Slot), zL D cI cZ cJ adx adm oo s H1 locs1 (sp_pm S t) (mo_ps (zth M 0) (t * 4 * (zn M 22 0 + 1))) g1 → lv_has ls1 7 [(0, .ref (b)), (1, .ref (adx 0)), (2, .ref (adm 0)), (3, .ref (oo)), (4, .int (nI (i)))] → W pg l e room_1 s m #[Value.ref b] below meth c H1 locs1 (cells + 1) (slots + 6) (lw_Z below #[Value.ref b] s) (F0 m 1903 ls1 [])) : W pg l e room_1 s m #[Value.ref b] below meth c H locs cells slots (lw_Z below #[Value.ref b] s) (F0 m 444 ls []) := by
  obtain ⟨hx, hb, hr, hml, hown, hts, hX, hbl, hlocks, hgv⟩ := C0
  have hts := fun w h => hts w (wsL_law_in w h)
  have hown : s.vm.findClass RL = some m.cls := hown
  have hb : c.code = cL_law := hb
  refine lv_aload_n hx hb dL_law_444 rfl (lv_at hl 1 rfl) ?_
  refine lv_aload_n hx hb dL_law_445 rfl (lv_at hl 0 rfl) ?_
  refine lv_iload hx hb dL_law_446 (lv_at hl 4 rfl) ?_
  refine lv_iconst (v := (nI 1)) hx hb dL_law_448 (by decide) ?_
  refine z_iadd_n hx hb dL_law_449 ?_
  refine z_sld_n hx hb hX hbl hR dL_law_450 (by omega) hL ha1 ?_
  refine lv_aload_n hx hb dL_law_451 rfl (lv_at hl 3 rfl) ?_
  refine z_lW (As := [.ref (adx 0), .int (nI (t)), .ref (oo)]) (rest := []) ⟨hx, hb, hml, hown, hts⟩ X0 hR (o_pump_ok X0.2.2.1 X0.2.2.2.2.1 hfl S g t hO hv hv2) (vx_cwSW 3 hts gL_law_L_pump rfl rfl rfl (by decide +kernel) ⟨Nat.le_of_ble_eq_true rfl, Nat.le_of_ble_eq_true rfl⟩) rfl hl rfl (Nat.le_of_ble_eq_true rfl) ⟨hcc, hss⟩ dL_law_452 (fun r S1 g1 H locs hp hR => ?_)
  obtain ⟨hr1, hs1, hg⟩ := hp
  subst r
  have hs1 : S1 = sp_pm S t := hs1
  subst S1
  refine lv_istore (lv' := [(5, .int (nI (0))), (0, .ref (b)), (1, .ref (adx 0)), (2, .ref (adm 0)), (3, .ref (oo)), (4, .int (nI (i)))]) hx hb dL_law_455 hl (by decide) rfl (fun ls hl => ?_)
  refine lv_aload_n hx hb dL_law_457 rfl (lv_at hl 3 rfl) ?_
  refine lv_aload_n hx hb dL_law_458 rfl (lv_at hl 1 rfl) ?_
  refine lv_iload hx hb dL_law_459 (lv_at hl 5 rfl) ?_
  refine lv_iconst (v := (nI 1)) hx hb dL_law_461 (by decide) ?_
  refine z_iadd_n hx hb dL_law_462 ?_
  refine z_sld_n hx hb hX hbl hR dL_law_463 (by omega) hL ha1 ?_
  refine z_lM_i (As := [.int (nI (t))]) (rest := []) ⟨hx, hb, hml, hown, hts⟩ X0 hR (c_X5_pump_ok X0.2.2.2.1 M t hOM hv_m hv2_m) (cwV 1 hts gL_law_X5_pump rfl rfl rfl (by decide +kernel) ⟨Nat.le_of_ble_eq_true rfl, Nat.le_of_ble_eq_true rfl⟩) rfl hl rfl (Nat.le_of_ble_eq_true rfl) ⟨by show cells + 1 + 0 ≤ 1096; omega, by show slots + 6 + 0 ≤ 9967; omega⟩ dL_law_464 (fun r T1 H locs hp hR => ?_)
  obtain ⟨hr1, hs1⟩ := hp
  subst r
  subst T1
  refine lv_istore (lv' := [(6, .int (nI (mo_psc (zth M 0) (t * 4 * (zn M 22 0 + 1))))), (5, .int (nI (0))), (0, .ref (b)), (1, .ref (adx 0)), (2, .ref (adm 0)), (3, .ref (oo)), (4, .int (nI (i)))]) hx hb dL_law_467 hl (by decide) rfl (fun ls hl => ?_)
  refine lv_aload_n hx hb dL_law_469 rfl (lv_at hl 4 rfl) ?_
  refine z_lM_i (As := []) (rest := []) ⟨hx, hb, hml, hown, hts⟩ X0 hR (c_X5_thrown X0.2.2.2.1 (mo_ps (zth M 0) (t * 4 * (zn M 22 0 + 1)))) (cwV 0 hts gL_law_X5_thrown rfl rfl rfl (by decide +kernel) ⟨Nat.le_of_ble_eq_true rfl, Nat.le_of_ble_eq_true rfl⟩) rfl hl rfl (Nat.le_of_ble_eq_true rfl) ⟨by show cells + 1 + 0 ≤ 1096; omega, by show slots + 6 + 0 ≤ 9967; omega⟩ dL_law_470 (fun r M1 H locs hp hR => ?_)
  obtain ⟨hr1, hs1⟩ := hp
  subst M1
  obtain rfl : r = nI 0 := hr1.trans hth
  refine lv_iload hx hb dL_law_473 (lv_at hl 1 rfl) ?_
  refine z_eq_n (tgt := 480) hx hb dL_law_475 (by decide) (by decide) (by decide) (fun _ => ?_) (fun h => absurd rfl h)
  refine lv_iload hx hb dL_law_480 (lv_at hl 1 rfl) ?_
  refine z_if_ne_n (tgt := 497) hx hb dL_law_482 (by decide) (by decide) (fun h => absurd h (by decide)) (fun _ => ?_)
  refine lv_aload_n hx hb dL_law_485 rfl (lv_at hl 5 rfl) ?_
  refine lv_iconst (v := (nI 0)) hx hb dL_law_486 (by decide) ?_
  refine z_l_lald hx hb X0 hR dL_law_487 ?_
  refine lv_iload hx hb dL_law_488 (lv_at hl 0 rfl) ?_
  refine lv_i2l (v := ((nI (mo_psc (zth M 0) (t * 4 * (zn M 22 0 + 1))))).toInt64) hx hb dL_law_490 rfl ?_
  refine W.lcmp hx hb dL_law_491 ?_
  refine lv_topi (fun v9 ev9 => ?_)
  obtain rfl : v9 = nI 0 := ev9.trans (z_cmp_eq (hg.trans (congrArg Int32.toInt64 hres)))
  refine z_if_eq_n (tgt := 497) hx hb dL_law_492 (by decide) (by decide) (fun _ => ?_) (fun h => absurd h (by decide))
  refine lv_goto (tgt := 1903) hx hb dL_law_497 (by decide) ?_
  exact K _ _ _ _ hR (lv_sub hl [2, 3, 4, 5, 6] rfl)
set_option maxHeartbeats 4000000 in
set_option maxRecDepth 100000 in
theorem lw_commit_e1 {pg : Program} {l : Launch} {e : Env} {s : State} {m : MethodId} {below : List Frame} {meth : Method} {c : Code} {b L : Nat} {xs : Nat → Int32} {D : va_G} {cI cZ cJ : ClassId} {adx adm : Nat → Nat} {oo : Nat} {Bx Bm : Nat → Prop} (C0 : lw_At pg s m meth c b L xs) (hfl : l.stackTraces = false) (X0 : zLC D cI cZ cJ adx adm oo Bx Bm s) (S M : zS) (g : Nat → Int64) (i : Nat) (x : Int32) (hO : zOK S) (hOM : zOK M) (hxb : zbad x (zn S 22 0)) (hxb_m : zbad x (zn M 22 0)) (ha1 : xs (i + 1) = (x)) (hi : i + 4 ≤ L) (hL : L ≤ 2048) {H : Heap} {locs : List Loc} {cells slots : Nat} {ls : Array Slot} (hcc : cells + 1 ≤ 1096) (hss : slots + 6 ≤ 9967) (hR : zL D cI cZ cJ adx adm oo s H locs S M g) (hl : lv_has ls 7 [(0, .ref (b)), (1, .ref (adx 0)), (2, .ref (adm 0)), (3, .ref (oo)), (4, .int (nI (i)))]) (K : ∀ (g1 : Nat → Int64) (H1 : Heap) (locs1 : List Loc) (ls1 : Array Slot), zL D cI cZ cJ adx adm oo s H1 locs1 (S) (zth M 1) g1 → lv_has ls1 7 [(0, .ref (b)), (1, .ref (adx 0)), (2, .ref (adm 0)), (3, .ref (oo)), (4, .int (nI (i)))] → W pg l e room_1 s m #[Value.ref b] below meth c H1 locs1 (cells + 1) (slots + 6) (lw_Z below #[Value.ref b] s) (F0 m 1903 ls1 [])) : W pg l e room_1 s m #[Value.ref b] below meth c H locs cells slots (lw_Z below #[Value.ref b] s) (F0 m 500 ls []) := by
  obtain ⟨hx, hb, hr, hml, hown, hts, hX, hbl, hlocks, hgv⟩ := C0
  have hts := fun w h => hts w (wsL_law_in w h)
  have hown : s.vm.findClass RL = some m.cls := hown
  have hb : c.code = cL_law := hb
  refine lv_aload_n hx hb dL_law_500 rfl (lv_at hl 1 rfl) ?_
  refine lv_aload_n hx hb dL_law_501 rfl (lv_at hl 0 rfl) ?_
  refine lv_iload hx hb dL_law_502 (lv_at hl 4 rfl) ?_
  refine lv_iconst (v := (nI 1)) hx hb dL_law_504 (by decide) ?_
  refine z_iadd_n hx hb dL_law_505 ?_
  refine z_sld_n hx hb hX hbl hR dL_law_506 (by omega) hL ha1 ?_
  refine lv_aload_n hx hb dL_law_507 rfl (lv_at hl 3 rfl) ?_
  refine z_lW (As := [.ref (adx 0), .int (x), .ref (oo)]) (rest := []) ⟨hx, hb, hml, hown, hts⟩ X0 hR (o_commit_e1 X0.2.2.1 X0.2.2.2.2.1 hfl S g x hO hxb) (vx_cwSW 3 hts gL_law_L_commit rfl rfl rfl (by decide +kernel) ⟨Nat.le_of_ble_eq_true rfl, Nat.le_of_ble_eq_true rfl⟩) rfl hl rfl (Nat.le_of_ble_eq_true rfl) ⟨hcc, hss⟩ dL_law_508 (fun r S1 g1 H locs hp hR => ?_)
  obtain ⟨hr1, hs1⟩ := hp
  subst r
  have hs1 : S1 = S := hs1
  subst S1
  refine lv_istore (lv' := [(5, .int (nI (1))), (0, .ref (b)), (1, .ref (adx 0)), (2, .ref (adm 0)), (3, .ref (oo)), (4, .int (nI (i)))]) hx hb dL_law_511 hl (by decide) rfl (fun ls hl => ?_)
  refine lv_aload_n hx hb dL_law_513 rfl (lv_at hl 3 rfl) ?_
  refine lv_aload_n hx hb dL_law_514 rfl (lv_at hl 1 rfl) ?_
  refine lv_iload hx hb dL_law_515 (lv_at hl 5 rfl) ?_
  refine lv_iconst (v := (nI 1)) hx hb dL_law_517 (by decide) ?_
  refine z_iadd_n hx hb dL_law_518 ?_
  refine z_sld_n hx hb hX hbl hR dL_law_519 (by omega) hL ha1 ?_
  refine z_lM_i (As := [.int (x)]) (rest := []) ⟨hx, hb, hml, hown, hts⟩ X0 hR (c_X5_commit_e1 X0.2.2.2.1 M x hOM hxb_m) (cwV 1 hts gL_law_X5_commit rfl rfl rfl (by decide +kernel) ⟨Nat.le_of_ble_eq_true rfl, Nat.le_of_ble_eq_true rfl⟩) rfl hl rfl (Nat.le_of_ble_eq_true rfl) ⟨by show cells + 1 + 0 ≤ 1096; omega, by show slots + 6 + 0 ≤ 9967; omega⟩ dL_law_520 (fun r T1 H locs hp hR => ?_)
  obtain ⟨hr1, hs1⟩ := hp
  subst r
  subst T1
  refine lv_istore (lv' := [(6, .int (nI (0))), (5, .int (nI (1))), (0, .ref (b)), (1, .ref (adx 0)), (2, .ref (adm 0)), (3, .ref (oo)), (4, .int (nI (i)))]) hx hb dL_law_523 hl (by decide) rfl (fun ls hl => ?_)
  refine lv_aload_n hx hb dL_law_525 rfl (lv_at hl 4 rfl) ?_
  refine z_lM_i (As := []) (rest := []) ⟨hx, hb, hml, hown, hts⟩ X0 hR (c_X5_thrown X0.2.2.2.1 (zth M 1)) (cwV 0 hts gL_law_X5_thrown rfl rfl rfl (by decide +kernel) ⟨Nat.le_of_ble_eq_true rfl, Nat.le_of_ble_eq_true rfl⟩) rfl hl rfl (Nat.le_of_ble_eq_true rfl) ⟨by show cells + 1 + 0 ≤ 1096; omega, by show slots + 6 + 0 ≤ 9967; omega⟩ dL_law_526 (fun r M1 H locs hp hR => ?_)
  obtain ⟨hr1, hs1⟩ := hp
  subst M1
  obtain rfl : r = nI 1 := hr1.trans (th_4 _ _)
  refine lv_iload hx hb dL_law_529 (lv_at hl 1 rfl) ?_
  refine z_eq_n (tgt := 536) hx hb dL_law_531 (by decide) (by decide) (by decide) (fun _ => ?_) (fun h => absurd rfl h)
  refine lv_iload hx hb dL_law_536 (lv_at hl 1 rfl) ?_
  refine z_if_ne_n (tgt := 553) hx hb dL_law_538 (by decide) (by decide) (fun _ => ?_) (fun h => absurd h (by decide))
  refine lv_goto (tgt := 1903) hx hb dL_law_553 (by decide) ?_
  exact K _ _ _ _ hR (lv_sub hl [2, 3, 4, 5, 6] rfl)
set_option maxHeartbeats 4000000 in
set_option maxRecDepth 100000 in
theorem lw_commit_e2 {pg : Program} {l : Launch} {e : Env} {s : State} {m : MethodId} {below : List Frame} {meth : Method} {c : Code} {b L : Nat} {xs : Nat → Int32} {D : va_G} {cI cZ cJ : ClassId} {adx adm : Nat → Nat} {oo : Nat} {Bx Bm : Nat → Prop} (C0 : lw_At pg s m meth c b L xs) (hfl : l.stackTraces = false) (X0 : zLC D cI cZ cJ adx adm oo Bx Bm s) (S M : zS) (g : Nat → Int64) (i : Nat) (w : Nat) (hO : zOK S) (hOM : zOK M) (hw : w < zn S 22 0) (hc : ¬ zrdy S w) (hw_m : w < zn M 22 0) (hc_m : ¬ zmay M w) (ha1 : xs (i + 1) = (nI (w))) (hi : i + 4 ≤ L) (hL : L ≤ 2048) {H : Heap} {locs : List Loc} {cells slots : Nat} {ls : Array Slot} (hcc : cells + 1 ≤ 1096) (hss : slots + 6 ≤ 9967) (hR : zL D cI cZ cJ adx adm oo s H locs S M g) (hl : lv_has ls 7 [(0, .ref (b)), (1, .ref (adx 0)), (2, .ref (adm 0)), (3, .ref (oo)), (4, .int (nI (i)))]) (K : ∀ (g1 : Nat → Int64) (H1 : Heap) (locs1 : List Loc) (ls1 : Array Slot), zL D cI cZ cJ adx adm oo s H1 locs1 (S) (zth M 2) g1 → lv_has ls1 7 [(0, .ref (b)), (1, .ref (adx 0)), (2, .ref (adm 0)), (3, .ref (oo)), (4, .int (nI (i)))] → W pg l e room_1 s m #[Value.ref b] below meth c H1 locs1 (cells + 1) (slots + 6) (lw_Z below #[Value.ref b] s) (F0 m 1903 ls1 [])) : W pg l e room_1 s m #[Value.ref b] below meth c H locs cells slots (lw_Z below #[Value.ref b] s) (F0 m 500 ls []) := by
  obtain ⟨hx, hb, hr, hml, hown, hts, hX, hbl, hlocks, hgv⟩ := C0
  have hts := fun w h => hts w (wsL_law_in w h)
  have hown : s.vm.findClass RL = some m.cls := hown
  have hb : c.code = cL_law := hb
  refine lv_aload_n hx hb dL_law_500 rfl (lv_at hl 1 rfl) ?_
  refine lv_aload_n hx hb dL_law_501 rfl (lv_at hl 0 rfl) ?_
  refine lv_iload hx hb dL_law_502 (lv_at hl 4 rfl) ?_
  refine lv_iconst (v := (nI 1)) hx hb dL_law_504 (by decide) ?_
  refine z_iadd_n hx hb dL_law_505 ?_
  refine z_sld_n hx hb hX hbl hR dL_law_506 (by omega) hL ha1 ?_
  refine lv_aload_n hx hb dL_law_507 rfl (lv_at hl 3 rfl) ?_
  refine z_lW (As := [.ref (adx 0), .int (nI (w)), .ref (oo)]) (rest := []) ⟨hx, hb, hml, hown, hts⟩ X0 hR (o_commit_e2 X0.2.2.1 X0.2.2.2.2.1 hfl S g w hO hw hc) (vx_cwSW 3 hts gL_law_L_commit rfl rfl rfl (by decide +kernel) ⟨Nat.le_of_ble_eq_true rfl, Nat.le_of_ble_eq_true rfl⟩) rfl hl rfl (Nat.le_of_ble_eq_true rfl) ⟨hcc, hss⟩ dL_law_508 (fun r S1 g1 H locs hp hR => ?_)
  obtain ⟨hr1, hs1⟩ := hp
  subst r
  have hs1 : S1 = S := hs1
  subst S1
  refine lv_istore (lv' := [(5, .int (nI (2))), (0, .ref (b)), (1, .ref (adx 0)), (2, .ref (adm 0)), (3, .ref (oo)), (4, .int (nI (i)))]) hx hb dL_law_511 hl (by decide) rfl (fun ls hl => ?_)
  refine lv_aload_n hx hb dL_law_513 rfl (lv_at hl 3 rfl) ?_
  refine lv_aload_n hx hb dL_law_514 rfl (lv_at hl 1 rfl) ?_
  refine lv_iload hx hb dL_law_515 (lv_at hl 5 rfl) ?_
  refine lv_iconst (v := (nI 1)) hx hb dL_law_517 (by decide) ?_
  refine z_iadd_n hx hb dL_law_518 ?_
  refine z_sld_n hx hb hX hbl hR dL_law_519 (by omega) hL ha1 ?_
  refine z_lM_i (As := [.int (nI (w))]) (rest := []) ⟨hx, hb, hml, hown, hts⟩ X0 hR (c_X5_commit_e2 X0.2.2.2.1 M w hOM hw_m hc_m) (cwV 1 hts gL_law_X5_commit rfl rfl rfl (by decide +kernel) ⟨Nat.le_of_ble_eq_true rfl, Nat.le_of_ble_eq_true rfl⟩) rfl hl rfl (Nat.le_of_ble_eq_true rfl) ⟨by show cells + 1 + 0 ≤ 1096; omega, by show slots + 6 + 0 ≤ 9967; omega⟩ dL_law_520 (fun r T1 H locs hp hR => ?_)
  obtain ⟨hr1, hs1⟩ := hp
  subst r
  subst T1
  refine lv_istore (lv' := [(6, .int (nI (0))), (5, .int (nI (2))), (0, .ref (b)), (1, .ref (adx 0)), (2, .ref (adm 0)), (3, .ref (oo)), (4, .int (nI (i)))]) hx hb dL_law_523 hl (by decide) rfl (fun ls hl => ?_)
  refine lv_aload_n hx hb dL_law_525 rfl (lv_at hl 4 rfl) ?_
  refine z_lM_i (As := []) (rest := []) ⟨hx, hb, hml, hown, hts⟩ X0 hR (c_X5_thrown X0.2.2.2.1 (zth M 2)) (cwV 0 hts gL_law_X5_thrown rfl rfl rfl (by decide +kernel) ⟨Nat.le_of_ble_eq_true rfl, Nat.le_of_ble_eq_true rfl⟩) rfl hl rfl (Nat.le_of_ble_eq_true rfl) ⟨by show cells + 1 + 0 ≤ 1096; omega, by show slots + 6 + 0 ≤ 9967; omega⟩ dL_law_526 (fun r M1 H locs hp hR => ?_)
  obtain ⟨hr1, hs1⟩ := hp
  subst M1
  obtain rfl : r = nI 2 := hr1.trans (th_4 _ _)
  refine lv_iload hx hb dL_law_529 (lv_at hl 1 rfl) ?_
  refine z_eq_n (tgt := 536) hx hb dL_law_531 (by decide) (by decide) (by decide) (fun _ => ?_) (fun h => absurd rfl h)
  refine lv_iload hx hb dL_law_536 (lv_at hl 1 rfl) ?_
  refine z_if_ne_n (tgt := 553) hx hb dL_law_538 (by decide) (by decide) (fun _ => ?_) (fun h => absurd h (by decide))
  refine lv_goto (tgt := 1903) hx hb dL_law_553 (by decide) ?_
  exact K _ _ _ _ hR (lv_sub hl [2, 3, 4, 5, 6] rfl)
set_option maxHeartbeats 4000000 in
set_option maxRecDepth 100000 in
theorem lw_commit_ok {pg : Program} {l : Launch} {e : Env} {s : State} {m : MethodId} {below : List Frame} {meth : Method} {c : Code} {b L : Nat} {xs : Nat → Int32} {D : va_G} {cI cZ cJ : ClassId} {adx adm : Nat → Nat} {oo : Nat} {Bx Bm : Nat → Prop} (C0 : lw_At pg s m meth c b L xs) (hfl : l.stackTraces = false) (X0 : zLC D cI cZ cJ adx adm oo Bx Bm s) (S M : zS) (g : Nat → Int64) (i : Nat) (w : Nat) (hO : zOK S) (hOM : zOK M) (hw : w < zn S 22 0) (hc : zrdy S w) (hw_m : w < zn M 22 0) (hc_m : zmay M w) (hth : (mo_com (zth M 0) w) 22 4 = nI 0) (hres : (sp_comr S w) = (mo_comc (zth M 0) w 32)) (ha1 : xs (i + 1) = (nI (w))) (hi : i + 4 ≤ L) (hL : L ≤ 2048) {H : Heap} {locs : List Loc} {cells slots : Nat} {ls : Array Slot} (hcc : cells + 1 ≤ 1096) (hss : slots + 6 ≤ 9967) (hR : zL D cI cZ cJ adx adm oo s H locs S M g) (hl : lv_has ls 7 [(0, .ref (b)), (1, .ref (adx 0)), (2, .ref (adm 0)), (3, .ref (oo)), (4, .int (nI (i)))]) (K : ∀ (g1 : Nat → Int64) (H1 : Heap) (locs1 : List Loc) (ls1 : Array Slot), zL D cI cZ cJ adx adm oo s H1 locs1 (sp_com S w) (mo_com (zth M 0) w) g1 → lv_has ls1 7 [(0, .ref (b)), (1, .ref (adx 0)), (2, .ref (adm 0)), (3, .ref (oo)), (4, .int (nI (i)))] → W pg l e room_1 s m #[Value.ref b] below meth c H1 locs1 (cells + 1) (slots + 6) (lw_Z below #[Value.ref b] s) (F0 m 1903 ls1 [])) : W pg l e room_1 s m #[Value.ref b] below meth c H locs cells slots (lw_Z below #[Value.ref b] s) (F0 m 500 ls []) := by
  obtain ⟨hx, hb, hr, hml, hown, hts, hX, hbl, hlocks, hgv⟩ := C0
  have hts := fun w h => hts w (wsL_law_in w h)
  have hown : s.vm.findClass RL = some m.cls := hown
  have hb : c.code = cL_law := hb
  refine lv_aload_n hx hb dL_law_500 rfl (lv_at hl 1 rfl) ?_
  refine lv_aload_n hx hb dL_law_501 rfl (lv_at hl 0 rfl) ?_
  refine lv_iload hx hb dL_law_502 (lv_at hl 4 rfl) ?_
  refine lv_iconst (v := (nI 1)) hx hb dL_law_504 (by decide) ?_
  refine z_iadd_n hx hb dL_law_505 ?_
  refine z_sld_n hx hb hX hbl hR dL_law_506 (by omega) hL ha1 ?_
  refine lv_aload_n hx hb dL_law_507 rfl (lv_at hl 3 rfl) ?_
  refine z_lW (As := [.ref (adx 0), .int (nI (w)), .ref (oo)]) (rest := []) ⟨hx, hb, hml, hown, hts⟩ X0 hR (o_commit_ok X0.2.2.1 X0.2.2.2.2.1 hfl S g w hO hw hc) (vx_cwSW 3 hts gL_law_L_commit rfl rfl rfl (by decide +kernel) ⟨Nat.le_of_ble_eq_true rfl, Nat.le_of_ble_eq_true rfl⟩) rfl hl rfl (Nat.le_of_ble_eq_true rfl) ⟨hcc, hss⟩ dL_law_508 (fun r S1 g1 H locs hp hR => ?_)
  obtain ⟨hr1, hs1, hg⟩ := hp
  subst r
  have hs1 : S1 = sp_com S w := hs1
  subst S1
  refine lv_istore (lv' := [(5, .int (nI (0))), (0, .ref (b)), (1, .ref (adx 0)), (2, .ref (adm 0)), (3, .ref (oo)), (4, .int (nI (i)))]) hx hb dL_law_511 hl (by decide) rfl (fun ls hl => ?_)
  refine lv_aload_n hx hb dL_law_513 rfl (lv_at hl 3 rfl) ?_
  refine lv_aload_n hx hb dL_law_514 rfl (lv_at hl 1 rfl) ?_
  refine lv_iload hx hb dL_law_515 (lv_at hl 5 rfl) ?_
  refine lv_iconst (v := (nI 1)) hx hb dL_law_517 (by decide) ?_
  refine z_iadd_n hx hb dL_law_518 ?_
  refine z_sld_n hx hb hX hbl hR dL_law_519 (by omega) hL ha1 ?_
  refine z_lM_i (As := [.int (nI (w))]) (rest := []) ⟨hx, hb, hml, hown, hts⟩ X0 hR (c_X5_commit_ok X0.2.2.2.1 M w hOM hw_m hc_m) (cwV 1 hts gL_law_X5_commit rfl rfl rfl (by decide +kernel) ⟨Nat.le_of_ble_eq_true rfl, Nat.le_of_ble_eq_true rfl⟩) rfl hl rfl (Nat.le_of_ble_eq_true rfl) ⟨by show cells + 1 + 0 ≤ 1096; omega, by show slots + 6 + 0 ≤ 9967; omega⟩ dL_law_520 (fun r T1 H locs hp hR => ?_)
  obtain ⟨hr1, hs1⟩ := hp
  subst r
  subst T1
  refine lv_istore (lv' := [(6, .int (mo_comc (zth M 0) w 32)), (5, .int (nI (0))), (0, .ref (b)), (1, .ref (adx 0)), (2, .ref (adm 0)), (3, .ref (oo)), (4, .int (nI (i)))]) hx hb dL_law_523 hl (by decide) rfl (fun ls hl => ?_)
  refine lv_aload_n hx hb dL_law_525 rfl (lv_at hl 4 rfl) ?_
  refine z_lM_i (As := []) (rest := []) ⟨hx, hb, hml, hown, hts⟩ X0 hR (c_X5_thrown X0.2.2.2.1 (mo_com (zth M 0) w)) (cwV 0 hts gL_law_X5_thrown rfl rfl rfl (by decide +kernel) ⟨Nat.le_of_ble_eq_true rfl, Nat.le_of_ble_eq_true rfl⟩) rfl hl rfl (Nat.le_of_ble_eq_true rfl) ⟨by show cells + 1 + 0 ≤ 1096; omega, by show slots + 6 + 0 ≤ 9967; omega⟩ dL_law_526 (fun r M1 H locs hp hR => ?_)
  obtain ⟨hr1, hs1⟩ := hp
  subst M1
  obtain rfl : r = nI 0 := hr1.trans hth
  refine lv_iload hx hb dL_law_529 (lv_at hl 1 rfl) ?_
  refine z_eq_n (tgt := 536) hx hb dL_law_531 (by decide) (by decide) (by decide) (fun _ => ?_) (fun h => absurd rfl h)
  refine lv_iload hx hb dL_law_536 (lv_at hl 1 rfl) ?_
  refine z_if_ne_n (tgt := 553) hx hb dL_law_538 (by decide) (by decide) (fun h => absurd h (by decide)) (fun _ => ?_)
  refine lv_aload_n hx hb dL_law_541 rfl (lv_at hl 5 rfl) ?_
  refine lv_iconst (v := (nI 0)) hx hb dL_law_542 (by decide) ?_
  refine z_l_lald hx hb X0 hR dL_law_543 ?_
  refine lv_iload hx hb dL_law_544 (lv_at hl 0 rfl) ?_
  refine lv_i2l (v := ((mo_comc (zth M 0) w 32)).toInt64) hx hb dL_law_546 rfl ?_
  refine W.lcmp hx hb dL_law_547 ?_
  refine lv_topi (fun v9 ev9 => ?_)
  obtain rfl : v9 = nI 0 := ev9.trans (z_cmp_eq (hg.trans (congrArg Int32.toInt64 hres)))
  refine z_if_eq_n (tgt := 553) hx hb dL_law_548 (by decide) (by decide) (fun _ => ?_) (fun h => absurd h (by decide))
  refine lv_goto (tgt := 1903) hx hb dL_law_553 (by decide) ?_
  exact K _ _ _ _ hR (lv_sub hl [2, 3, 4, 5, 6] rfl)
set_option maxHeartbeats 4000000 in
set_option maxRecDepth 100000 in
theorem lw_beginCheckpoint_e1 {pg : Program} {l : Launch} {e : Env} {s : State} {m : MethodId} {below : List Frame} {meth : Method} {c : Code} {b L : Nat} {xs : Nat → Int32} {D : va_G} {cI cZ cJ : ClassId} {adx adm : Nat → Nat} {oo : Nat} {Bx Bm : Nat → Prop} (C0 : lw_At pg s m meth c b L xs) (hfl : l.stackTraces = false) (X0 : zLC D cI cZ cJ adx adm oo Bx Bm s) (S M : zS) (g : Nat → Int64) (i : Nat)  (hO : zOK S) (hOM : zOK M) (hc : ¬ S 22 2 = (-1) ∨ ¬ ∀ w, w < zn S 22 0 → S 21 w = (-1)) (hc_m : ¬ M 22 2 = (-1) ∨ ¬ (M 21 0 = (-1) ∧ M 21 1 = (-1) ∧ M 21 2 = (-1) ∧ M 21 3 = (-1)))  (hi : i + 4 ≤ L) (hL : L ≤ 2048) {H : Heap} {locs : List Loc} {cells slots : Nat} {ls : Array Slot} (hcc : cells + 1 ≤ 1096) (hss : slots + 6 ≤ 9967) (hR : zL D cI cZ cJ adx adm oo s H locs S M g) (hl : lv_has ls 7 [(0, .ref (b)), (1, .ref (adx 0)), (2, .ref (adm 0)), (3, .ref (oo)), (4, .int (nI (i)))]) (K : ∀ (g1 : Nat → Int64) (H1 : Heap) (locs1 : List Loc) (ls1 : Array Slot), zL D cI cZ cJ adx adm oo s H1 locs1 (S) (zth M 1) g1 → lv_has ls1 7 [(0, .ref (b)), (1, .ref (adx 0)), (2, .ref (adm 0)), (3, .ref (oo)), (4, .int (nI (i)))] → W pg l e room_1 s m #[Value.ref b] below meth c H1 locs1 (cells + 1) (slots + 6) (lw_Z below #[Value.ref b] s) (F0 m 1903 ls1 [])) : W pg l e room_1 s m #[Value.ref b] below meth c H locs cells slots (lw_Z below #[Value.ref b] s) (F0 m 556 ls []) := by
  obtain ⟨hx, hb, hr, hml, hown, hts, hX, hbl, hlocks, hgv⟩ := C0
  have hts := fun w h => hts w (wsL_law_in w h)
  have hown : s.vm.findClass RL = some m.cls := hown
  have hb : c.code = cL_law := hb
  refine lv_aload_n hx hb dL_law_556 rfl (lv_at hl 1 rfl) ?_
  refine lv_aload_n hx hb dL_law_557 rfl (lv_at hl 3 rfl) ?_
  refine z_lW (As := [.ref (adx 0), .ref (oo)]) (rest := []) ⟨hx, hb, hml, hown, hts⟩ X0 hR (o_beginCheckpoint_e1 X0.2.2.1 X0.2.2.2.2.1 hfl S g hO hc) (vx_cwSW 2 hts gL_law_L_beginCheckpoint rfl rfl rfl (by decide +kernel) ⟨Nat.le_of_ble_eq_true rfl, Nat.le_of_ble_eq_true rfl⟩) rfl hl rfl (Nat.le_of_ble_eq_true rfl) ⟨hcc, hss⟩ dL_law_558 (fun r S1 g1 H locs hp hR => ?_)
  obtain ⟨hr1, hs1⟩ := hp
  subst r
  have hs1 : S1 = S := hs1
  subst S1
  refine lv_istore (lv' := [(5, .int (nI (1))), (0, .ref (b)), (1, .ref (adx 0)), (2, .ref (adm 0)), (3, .ref (oo)), (4, .int (nI (i)))]) hx hb dL_law_561 hl (by decide) rfl (fun ls hl => ?_)
  refine lv_aload_n hx hb dL_law_563 rfl (lv_at hl 3 rfl) ?_
  refine z_lM_i (As := []) (rest := []) ⟨hx, hb, hml, hown, hts⟩ X0 hR (c_X5_beginCheckpoint_e1 X0.2.2.2.1 M hOM hc_m) (cwV 0 hts gL_law_X5_beginCheckpoint rfl rfl rfl (by decide +kernel) ⟨Nat.le_of_ble_eq_true rfl, Nat.le_of_ble_eq_true rfl⟩) rfl hl rfl (Nat.le_of_ble_eq_true rfl) ⟨by show cells + 1 + 0 ≤ 1096; omega, by show slots + 6 + 0 ≤ 9967; omega⟩ dL_law_564 (fun r T1 H locs hp hR => ?_)
  obtain ⟨hr1, hs1⟩ := hp
  subst r
  subst T1
  refine lv_istore (lv' := [(6, .int (nI (0))), (5, .int (nI (1))), (0, .ref (b)), (1, .ref (adx 0)), (2, .ref (adm 0)), (3, .ref (oo)), (4, .int (nI (i)))]) hx hb dL_law_567 hl (by decide) rfl (fun ls hl => ?_)
  refine lv_aload_n hx hb dL_law_569 rfl (lv_at hl 4 rfl) ?_
  refine z_lM_i (As := []) (rest := []) ⟨hx, hb, hml, hown, hts⟩ X0 hR (c_X5_thrown X0.2.2.2.1 (zth M 1)) (cwV 0 hts gL_law_X5_thrown rfl rfl rfl (by decide +kernel) ⟨Nat.le_of_ble_eq_true rfl, Nat.le_of_ble_eq_true rfl⟩) rfl hl rfl (Nat.le_of_ble_eq_true rfl) ⟨by show cells + 1 + 0 ≤ 1096; omega, by show slots + 6 + 0 ≤ 9967; omega⟩ dL_law_570 (fun r M1 H locs hp hR => ?_)
  obtain ⟨hr1, hs1⟩ := hp
  subst M1
  obtain rfl : r = nI 1 := hr1.trans (th_4 _ _)
  refine lv_iload hx hb dL_law_573 (lv_at hl 1 rfl) ?_
  refine z_eq_n (tgt := 580) hx hb dL_law_575 (by decide) (by decide) (by decide) (fun _ => ?_) (fun h => absurd rfl h)
  refine lv_iload hx hb dL_law_580 (lv_at hl 1 rfl) ?_
  refine z_if_ne_n (tgt := 597) hx hb dL_law_582 (by decide) (by decide) (fun _ => ?_) (fun h => absurd h (by decide))
  refine lv_goto (tgt := 1903) hx hb dL_law_597 (by decide) ?_
  exact K _ _ _ _ hR (lv_sub hl [2, 3, 4, 5, 6] rfl)
set_option maxHeartbeats 4000000 in
set_option maxRecDepth 100000 in
theorem lw_beginCheckpoint_ok {pg : Program} {l : Launch} {e : Env} {s : State} {m : MethodId} {below : List Frame} {meth : Method} {c : Code} {b L : Nat} {xs : Nat → Int32} {D : va_G} {cI cZ cJ : ClassId} {adx adm : Nat → Nat} {oo : Nat} {Bx Bm : Nat → Prop} (C0 : lw_At pg s m meth c b L xs) (hfl : l.stackTraces = false) (X0 : zLC D cI cZ cJ adx adm oo Bx Bm s) (S M : zS) (g : Nat → Int64) (i : Nat)  (hO : zOK S) (hOM : zOK M) (hc1 : S 22 2 = (-1)) (hc : ∀ w, w < zn S 22 0 → S 21 w = (-1)) (hc1_m : M 22 2 = (-1)) (hc_m : (M 21 0 = (-1) ∧ M 21 1 = (-1) ∧ M 21 2 = (-1) ∧ M 21 3 = (-1))) (hth : (mo_beg (zth M 0)) 22 4 = nI 0) (hres : (S 22 1 + nI 1) = ((zth M 0) 22 1 + nI 1))  (hi : i + 4 ≤ L) (hL : L ≤ 2048) {H : Heap} {locs : List Loc} {cells slots : Nat} {ls : Array Slot} (hcc : cells + 1 ≤ 1096) (hss : slots + 6 ≤ 9967) (hR : zL D cI cZ cJ adx adm oo s H locs S M g) (hl : lv_has ls 7 [(0, .ref (b)), (1, .ref (adx 0)), (2, .ref (adm 0)), (3, .ref (oo)), (4, .int (nI (i)))]) (K : ∀ (g1 : Nat → Int64) (H1 : Heap) (locs1 : List Loc) (ls1 : Array Slot), zL D cI cZ cJ adx adm oo s H1 locs1 (sp_beg S) (mo_beg (zth M 0)) g1 → lv_has ls1 7 [(0, .ref (b)), (1, .ref (adx 0)), (2, .ref (adm 0)), (3, .ref (oo)), (4, .int (nI (i)))] → W pg l e room_1 s m #[Value.ref b] below meth c H1 locs1 (cells + 1) (slots + 6) (lw_Z below #[Value.ref b] s) (F0 m 1903 ls1 [])) : W pg l e room_1 s m #[Value.ref b] below meth c H locs cells slots (lw_Z below #[Value.ref b] s) (F0 m 556 ls []) := by
  obtain ⟨hx, hb, hr, hml, hown, hts, hX, hbl, hlocks, hgv⟩ := C0
  have hts := fun w h => hts w (wsL_law_in w h)
  have hown : s.vm.findClass RL = some m.cls := hown
  have hb : c.code = cL_law := hb
  refine lv_aload_n hx hb dL_law_556 rfl (lv_at hl 1 rfl) ?_
  refine lv_aload_n hx hb dL_law_557 rfl (lv_at hl 3 rfl) ?_
  refine z_lW (As := [.ref (adx 0), .ref (oo)]) (rest := []) ⟨hx, hb, hml, hown, hts⟩ X0 hR (o_beginCheckpoint_ok X0.2.2.1 X0.2.2.2.2.1 hfl S g hO hc1 hc) (vx_cwSW 2 hts gL_law_L_beginCheckpoint rfl rfl rfl (by decide +kernel) ⟨Nat.le_of_ble_eq_true rfl, Nat.le_of_ble_eq_true rfl⟩) rfl hl rfl (Nat.le_of_ble_eq_true rfl) ⟨hcc, hss⟩ dL_law_558 (fun r S1 g1 H locs hp hR => ?_)
  obtain ⟨hr1, hs1, hg⟩ := hp
  subst r
  have hs1 : S1 = sp_beg S := hs1
  subst S1
  refine lv_istore (lv' := [(5, .int (nI (0))), (0, .ref (b)), (1, .ref (adx 0)), (2, .ref (adm 0)), (3, .ref (oo)), (4, .int (nI (i)))]) hx hb dL_law_561 hl (by decide) rfl (fun ls hl => ?_)
  refine lv_aload_n hx hb dL_law_563 rfl (lv_at hl 3 rfl) ?_
  refine z_lM_i (As := []) (rest := []) ⟨hx, hb, hml, hown, hts⟩ X0 hR (c_X5_beginCheckpoint_ok X0.2.2.2.1 M hOM hc1_m hc_m) (cwV 0 hts gL_law_X5_beginCheckpoint rfl rfl rfl (by decide +kernel) ⟨Nat.le_of_ble_eq_true rfl, Nat.le_of_ble_eq_true rfl⟩) rfl hl rfl (Nat.le_of_ble_eq_true rfl) ⟨by show cells + 1 + 0 ≤ 1096; omega, by show slots + 6 + 0 ≤ 9967; omega⟩ dL_law_564 (fun r T1 H locs hp hR => ?_)
  obtain ⟨hr1, hs1⟩ := hp
  subst r
  subst T1
  refine lv_istore (lv' := [(6, .int ((zth M 0) 22 1 + nI 1)), (5, .int (nI (0))), (0, .ref (b)), (1, .ref (adx 0)), (2, .ref (adm 0)), (3, .ref (oo)), (4, .int (nI (i)))]) hx hb dL_law_567 hl (by decide) rfl (fun ls hl => ?_)
  refine lv_aload_n hx hb dL_law_569 rfl (lv_at hl 4 rfl) ?_
  refine z_lM_i (As := []) (rest := []) ⟨hx, hb, hml, hown, hts⟩ X0 hR (c_X5_thrown X0.2.2.2.1 (mo_beg (zth M 0))) (cwV 0 hts gL_law_X5_thrown rfl rfl rfl (by decide +kernel) ⟨Nat.le_of_ble_eq_true rfl, Nat.le_of_ble_eq_true rfl⟩) rfl hl rfl (Nat.le_of_ble_eq_true rfl) ⟨by show cells + 1 + 0 ≤ 1096; omega, by show slots + 6 + 0 ≤ 9967; omega⟩ dL_law_570 (fun r M1 H locs hp hR => ?_)
  obtain ⟨hr1, hs1⟩ := hp
  subst M1
  obtain rfl : r = nI 0 := hr1.trans hth
  refine lv_iload hx hb dL_law_573 (lv_at hl 1 rfl) ?_
  refine z_eq_n (tgt := 580) hx hb dL_law_575 (by decide) (by decide) (by decide) (fun _ => ?_) (fun h => absurd rfl h)
  refine lv_iload hx hb dL_law_580 (lv_at hl 1 rfl) ?_
  refine z_if_ne_n (tgt := 597) hx hb dL_law_582 (by decide) (by decide) (fun h => absurd h (by decide)) (fun _ => ?_)
  refine lv_aload_n hx hb dL_law_585 rfl (lv_at hl 5 rfl) ?_
  refine lv_iconst (v := (nI 0)) hx hb dL_law_586 (by decide) ?_
  refine z_l_lald hx hb X0 hR dL_law_587 ?_
  refine lv_iload hx hb dL_law_588 (lv_at hl 0 rfl) ?_
  refine lv_i2l (v := (((zth M 0) 22 1 + nI 1)).toInt64) hx hb dL_law_590 rfl ?_
  refine W.lcmp hx hb dL_law_591 ?_
  refine lv_topi (fun v9 ev9 => ?_)
  obtain rfl : v9 = nI 0 := ev9.trans (z_cmp_eq (hg.trans (congrArg Int32.toInt64 hres)))
  refine z_if_eq_n (tgt := 597) hx hb dL_law_592 (by decide) (by decide) (fun _ => ?_) (fun h => absurd h (by decide))
  refine lv_goto (tgt := 1903) hx hb dL_law_597 (by decide) ?_
  exact K _ _ _ _ hR (lv_sub hl [2, 3, 4, 5, 6] rfl)
set_option maxHeartbeats 4000000 in
set_option maxRecDepth 100000 in
theorem lw_abandon_e1 {pg : Program} {l : Launch} {e : Env} {s : State} {m : MethodId} {below : List Frame} {meth : Method} {c : Code} {b L : Nat} {xs : Nat → Int32} {D : va_G} {cI cZ cJ : ClassId} {adx adm : Nat → Nat} {oo : Nat} {Bx Bm : Nat → Prop} (C0 : lw_At pg s m meth c b L xs) (hfl : l.stackTraces = false) (X0 : zLC D cI cZ cJ adx adm oo Bx Bm s) (S M : zS) (g : Nat → Int64) (i : Nat)  (hO : zOK S) (hOM : zOK M) (hc : S 22 2 = (-1)) (hc_m : M 22 2 = (-1))  (hi : i + 4 ≤ L) (hL : L ≤ 2048) {H : Heap} {locs : List Loc} {cells slots : Nat} {ls : Array Slot} (hcc : cells + 1 ≤ 1096) (hss : slots + 6 ≤ 9967) (hR : zL D cI cZ cJ adx adm oo s H locs S M g) (hl : lv_has ls 7 [(0, .ref (b)), (1, .ref (adx 0)), (2, .ref (adm 0)), (3, .ref (oo)), (4, .int (nI (i)))]) (K : ∀ (g1 : Nat → Int64) (H1 : Heap) (locs1 : List Loc) (ls1 : Array Slot), zL D cI cZ cJ adx adm oo s H1 locs1 (S) (zth M 1) g1 → lv_has ls1 7 [(0, .ref (b)), (1, .ref (adx 0)), (2, .ref (adm 0)), (3, .ref (oo)), (4, .int (nI (i)))] → W pg l e room_1 s m #[Value.ref b] below meth c H1 locs1 (cells + 1) (slots + 6) (lw_Z below #[Value.ref b] s) (F0 m 1903 ls1 [])) : W pg l e room_1 s m #[Value.ref b] below meth c H locs cells slots (lw_Z below #[Value.ref b] s) (F0 m 600 ls []) := by
  obtain ⟨hx, hb, hr, hml, hown, hts, hX, hbl, hlocks, hgv⟩ := C0
  have hts := fun w h => hts w (wsL_law_in w h)
  have hown : s.vm.findClass RL = some m.cls := hown
  have hb : c.code = cL_law := hb
  refine lv_aload_n hx hb dL_law_600 rfl (lv_at hl 1 rfl) ?_
  refine lv_aload_n hx hb dL_law_601 rfl (lv_at hl 3 rfl) ?_
  refine z_lW (As := [.ref (adx 0), .ref (oo)]) (rest := []) ⟨hx, hb, hml, hown, hts⟩ X0 hR (o_abandon_e1 X0.2.2.1 X0.2.2.2.2.1 hfl S g hO hc) (vx_cwSW 2 hts gL_law_L_abandon rfl rfl rfl (by decide +kernel) ⟨Nat.le_of_ble_eq_true rfl, Nat.le_of_ble_eq_true rfl⟩) rfl hl rfl (Nat.le_of_ble_eq_true rfl) ⟨hcc, hss⟩ dL_law_602 (fun r S1 g1 H locs hp hR => ?_)
  obtain ⟨hr1, hs1⟩ := hp
  subst r
  have hs1 : S1 = S := hs1
  subst S1
  refine lv_istore (lv' := [(5, .int (nI (1))), (0, .ref (b)), (1, .ref (adx 0)), (2, .ref (adm 0)), (3, .ref (oo)), (4, .int (nI (i)))]) hx hb dL_law_605 hl (by decide) rfl (fun ls hl => ?_)
  refine lv_aload_n hx hb dL_law_607 rfl (lv_at hl 3 rfl) ?_
  refine z_lM_i (As := []) (rest := []) ⟨hx, hb, hml, hown, hts⟩ X0 hR (c_X5_abandon_e1 X0.2.2.2.1 M hOM hc_m) (cwV 0 hts gL_law_X5_abandon rfl rfl rfl (by decide +kernel) ⟨Nat.le_of_ble_eq_true rfl, Nat.le_of_ble_eq_true rfl⟩) rfl hl rfl (Nat.le_of_ble_eq_true rfl) ⟨by show cells + 1 + 0 ≤ 1096; omega, by show slots + 6 + 0 ≤ 9967; omega⟩ dL_law_608 (fun r T1 H locs hp hR => ?_)
  obtain ⟨hr1, hs1⟩ := hp
  subst r
  subst T1
  refine lv_istore (lv' := [(6, .int (nI (0))), (5, .int (nI (1))), (0, .ref (b)), (1, .ref (adx 0)), (2, .ref (adm 0)), (3, .ref (oo)), (4, .int (nI (i)))]) hx hb dL_law_611 hl (by decide) rfl (fun ls hl => ?_)
  refine lv_aload_n hx hb dL_law_613 rfl (lv_at hl 4 rfl) ?_
  refine z_lM_i (As := []) (rest := []) ⟨hx, hb, hml, hown, hts⟩ X0 hR (c_X5_thrown X0.2.2.2.1 (zth M 1)) (cwV 0 hts gL_law_X5_thrown rfl rfl rfl (by decide +kernel) ⟨Nat.le_of_ble_eq_true rfl, Nat.le_of_ble_eq_true rfl⟩) rfl hl rfl (Nat.le_of_ble_eq_true rfl) ⟨by show cells + 1 + 0 ≤ 1096; omega, by show slots + 6 + 0 ≤ 9967; omega⟩ dL_law_614 (fun r M1 H locs hp hR => ?_)
  obtain ⟨hr1, hs1⟩ := hp
  subst M1
  obtain rfl : r = nI 1 := hr1.trans (th_4 _ _)
  refine lv_iload hx hb dL_law_617 (lv_at hl 1 rfl) ?_
  refine z_eq_n (tgt := 624) hx hb dL_law_619 (by decide) (by decide) (by decide) (fun _ => ?_) (fun h => absurd rfl h)
  refine lv_iload hx hb dL_law_624 (lv_at hl 1 rfl) ?_
  refine z_if_ne_n (tgt := 641) hx hb dL_law_626 (by decide) (by decide) (fun _ => ?_) (fun h => absurd h (by decide))
  refine lv_goto (tgt := 1903) hx hb dL_law_641 (by decide) ?_
  exact K _ _ _ _ hR (lv_sub hl [2, 3, 4, 5, 6] rfl)
set_option maxHeartbeats 4000000 in
set_option maxRecDepth 100000 in
theorem lw_abandon_ok {pg : Program} {l : Launch} {e : Env} {s : State} {m : MethodId} {below : List Frame} {meth : Method} {c : Code} {b L : Nat} {xs : Nat → Int32} {D : va_G} {cI cZ cJ : ClassId} {adx adm : Nat → Nat} {oo : Nat} {Bx Bm : Nat → Prop} (C0 : lw_At pg s m meth c b L xs) (hfl : l.stackTraces = false) (X0 : zLC D cI cZ cJ adx adm oo Bx Bm s) (S M : zS) (g : Nat → Int64) (i : Nat)  (hO : zOK S) (hOM : zOK M) (hc : ¬ S 22 2 = (-1)) (hc_m : ¬ M 22 2 = (-1)) (hth : (mo_ab (zth M 0)) 22 4 = nI 0) (hres : (S 22 2) = ((mo_ab1 (zth M 0) 32) 22 2))  (hi : i + 4 ≤ L) (hL : L ≤ 2048) {H : Heap} {locs : List Loc} {cells slots : Nat} {ls : Array Slot} (hcc : cells + 1 ≤ 1096) (hss : slots + 6 ≤ 9967) (hR : zL D cI cZ cJ adx adm oo s H locs S M g) (hl : lv_has ls 7 [(0, .ref (b)), (1, .ref (adx 0)), (2, .ref (adm 0)), (3, .ref (oo)), (4, .int (nI (i)))]) (K : ∀ (g1 : Nat → Int64) (H1 : Heap) (locs1 : List Loc) (ls1 : Array Slot), zL D cI cZ cJ adx adm oo s H1 locs1 (sp_ab S) (mo_ab (zth M 0)) g1 → lv_has ls1 7 [(0, .ref (b)), (1, .ref (adx 0)), (2, .ref (adm 0)), (3, .ref (oo)), (4, .int (nI (i)))] → W pg l e room_1 s m #[Value.ref b] below meth c H1 locs1 (cells + 1) (slots + 6) (lw_Z below #[Value.ref b] s) (F0 m 1903 ls1 [])) : W pg l e room_1 s m #[Value.ref b] below meth c H locs cells slots (lw_Z below #[Value.ref b] s) (F0 m 600 ls []) := by
  obtain ⟨hx, hb, hr, hml, hown, hts, hX, hbl, hlocks, hgv⟩ := C0
  have hts := fun w h => hts w (wsL_law_in w h)
  have hown : s.vm.findClass RL = some m.cls := hown
  have hb : c.code = cL_law := hb
  refine lv_aload_n hx hb dL_law_600 rfl (lv_at hl 1 rfl) ?_
  refine lv_aload_n hx hb dL_law_601 rfl (lv_at hl 3 rfl) ?_
  refine z_lW (As := [.ref (adx 0), .ref (oo)]) (rest := []) ⟨hx, hb, hml, hown, hts⟩ X0 hR (o_abandon_ok X0.2.2.1 X0.2.2.2.2.1 hfl S g hO hc) (vx_cwSW 2 hts gL_law_L_abandon rfl rfl rfl (by decide +kernel) ⟨Nat.le_of_ble_eq_true rfl, Nat.le_of_ble_eq_true rfl⟩) rfl hl rfl (Nat.le_of_ble_eq_true rfl) ⟨hcc, hss⟩ dL_law_602 (fun r S1 g1 H locs hp hR => ?_)
  obtain ⟨hr1, hs1, hg⟩ := hp
  subst r
  have hs1 : S1 = sp_ab S := hs1
  subst S1
  refine lv_istore (lv' := [(5, .int (nI (0))), (0, .ref (b)), (1, .ref (adx 0)), (2, .ref (adm 0)), (3, .ref (oo)), (4, .int (nI (i)))]) hx hb dL_law_605 hl (by decide) rfl (fun ls hl => ?_)
  refine lv_aload_n hx hb dL_law_607 rfl (lv_at hl 3 rfl) ?_
  refine z_lM_i (As := []) (rest := []) ⟨hx, hb, hml, hown, hts⟩ X0 hR (c_X5_abandon_ok X0.2.2.2.1 M hOM hc_m) (cwV 0 hts gL_law_X5_abandon rfl rfl rfl (by decide +kernel) ⟨Nat.le_of_ble_eq_true rfl, Nat.le_of_ble_eq_true rfl⟩) rfl hl rfl (Nat.le_of_ble_eq_true rfl) ⟨by show cells + 1 + 0 ≤ 1096; omega, by show slots + 6 + 0 ≤ 9967; omega⟩ dL_law_608 (fun r T1 H locs hp hR => ?_)
  obtain ⟨hr1, hs1⟩ := hp
  subst r
  subst T1
  refine lv_istore (lv' := [(6, .int ((mo_ab1 (zth M 0) 32) 22 2)), (5, .int (nI (0))), (0, .ref (b)), (1, .ref (adx 0)), (2, .ref (adm 0)), (3, .ref (oo)), (4, .int (nI (i)))]) hx hb dL_law_611 hl (by decide) rfl (fun ls hl => ?_)
  refine lv_aload_n hx hb dL_law_613 rfl (lv_at hl 4 rfl) ?_
  refine z_lM_i (As := []) (rest := []) ⟨hx, hb, hml, hown, hts⟩ X0 hR (c_X5_thrown X0.2.2.2.1 (mo_ab (zth M 0))) (cwV 0 hts gL_law_X5_thrown rfl rfl rfl (by decide +kernel) ⟨Nat.le_of_ble_eq_true rfl, Nat.le_of_ble_eq_true rfl⟩) rfl hl rfl (Nat.le_of_ble_eq_true rfl) ⟨by show cells + 1 + 0 ≤ 1096; omega, by show slots + 6 + 0 ≤ 9967; omega⟩ dL_law_614 (fun r M1 H locs hp hR => ?_)
  obtain ⟨hr1, hs1⟩ := hp
  subst M1
  obtain rfl : r = nI 0 := hr1.trans hth
  refine lv_iload hx hb dL_law_617 (lv_at hl 1 rfl) ?_
  refine z_eq_n (tgt := 624) hx hb dL_law_619 (by decide) (by decide) (by decide) (fun _ => ?_) (fun h => absurd rfl h)
  refine lv_iload hx hb dL_law_624 (lv_at hl 1 rfl) ?_
  refine z_if_ne_n (tgt := 641) hx hb dL_law_626 (by decide) (by decide) (fun h => absurd h (by decide)) (fun _ => ?_)
  refine lv_aload_n hx hb dL_law_629 rfl (lv_at hl 5 rfl) ?_
  refine lv_iconst (v := (nI 0)) hx hb dL_law_630 (by decide) ?_
  refine z_l_lald hx hb X0 hR dL_law_631 ?_
  refine lv_iload hx hb dL_law_632 (lv_at hl 0 rfl) ?_
  refine lv_i2l (v := (((mo_ab1 (zth M 0) 32) 22 2)).toInt64) hx hb dL_law_634 rfl ?_
  refine W.lcmp hx hb dL_law_635 ?_
  refine lv_topi (fun v9 ev9 => ?_)
  obtain rfl : v9 = nI 0 := ev9.trans (z_cmp_eq (hg.trans (congrArg Int32.toInt64 hres)))
  refine z_if_eq_n (tgt := 641) hx hb dL_law_636 (by decide) (by decide) (fun _ => ?_) (fun h => absurd h (by decide))
  refine lv_goto (tgt := 1903) hx hb dL_law_641 (by decide) ?_
  exact K _ _ _ _ hR (lv_sub hl [2, 3, 4, 5, 6] rfl)
set_option maxHeartbeats 4000000 in
set_option maxRecDepth 100000 in
theorem lw_crash_ok {pg : Program} {l : Launch} {e : Env} {s : State} {m : MethodId} {below : List Frame} {meth : Method} {c : Code} {b L : Nat} {xs : Nat → Int32} {D : va_G} {cI cZ cJ : ClassId} {adx adm : Nat → Nat} {oo : Nat} {Bx Bm : Nat → Prop} (C0 : lw_At pg s m meth c b L xs) (hfl : l.stackTraces = false) (X0 : zLC D cI cZ cJ adx adm oo Bx Bm s) (S M : zS) (g : Nat → Int64) (i : Nat)  (hO : zOK S) (hOM : zOK M) (hres : (sp_cr S) = (mo_cr (zth M 0)))  (hi : i + 4 ≤ L) (hL : L ≤ 2048) {H : Heap} {locs : List Loc} {cells slots : Nat} {ls : Array Slot} (hcc : cells + 1 ≤ 1096) (hss : slots + 6 ≤ 9967) (hR : zL D cI cZ cJ adx adm oo s H locs S M g) (hl : lv_has ls 7 [(0, .ref (b)), (1, .ref (adx 0)), (2, .ref (adm 0)), (3, .ref (oo)), (4, .int (nI (i)))]) (K : ∀ (g1 : Nat → Int64) (H1 : Heap) (locs1 : List Loc) (ls1 : Array Slot), zL D cI cZ cJ adx adm oo s H1 locs1 (sp_sa S (zn S 22 0)) (mo_sa (zth M 0) (zn M 22 0)) g1 → lv_has ls1 7 [(0, .ref (b)), (1, .ref (adx 0)), (2, .ref (adm 0)), (3, .ref (oo)), (4, .int (nI (i)))] → W pg l e room_1 s m #[Value.ref b] below meth c H1 locs1 (cells + 1) (slots + 6) (lw_Z below #[Value.ref b] s) (F0 m 1903 ls1 [])) : W pg l e room_1 s m #[Value.ref b] below meth c H locs cells slots (lw_Z below #[Value.ref b] s) (F0 m 644 ls []) := by
  obtain ⟨hx, hb, hr, hml, hown, hts, hX, hbl, hlocks, hgv⟩ := C0
  have hts := fun w h => hts w (wsL_law_in w h)
  have hown : s.vm.findClass RL = some m.cls := hown
  have hb : c.code = cL_law := hb
  refine lv_aload_n hx hb dL_law_644 rfl (lv_at hl 1 rfl) ?_
  refine z_lX_i (As := []) (rest := []) ⟨hx, hb, hml, hown, hts⟩ X0 hR (c_X4_crash X0.2.2.1 S hO) (cwV 0 hts gL_law_X4_crash rfl rfl rfl (by decide +kernel) ⟨Nat.le_of_ble_eq_true rfl, Nat.le_of_ble_eq_true rfl⟩) rfl hl rfl (Nat.le_of_ble_eq_true rfl) ⟨by show cells + 0 ≤ 1096; omega, by show slots + 0 ≤ 9967; omega⟩ dL_law_645 (fun r T1 H locs hp hR => ?_)
  obtain ⟨hr1, hs1⟩ := hp
  subst r
  subst T1
  refine lv_aload_n hx hb dL_law_648 rfl (lv_at hl 2 rfl) ?_
  refine z_lM_i (As := []) (rest := [.int (sp_cr S)]) ⟨hx, hb, hml, hown, hts⟩ X0 hR (c_X5_crash X0.2.2.2.1 M hOM) (cwV 0 hts gL_law_X5_crash rfl rfl rfl (by decide +kernel) ⟨Nat.le_of_ble_eq_true rfl, Nat.le_of_ble_eq_true rfl⟩) rfl hl rfl (Nat.le_of_ble_eq_true rfl) ⟨by show cells + 0 ≤ 1096; omega, by show slots + 0 ≤ 9967; omega⟩ dL_law_649 (fun r T1 H locs hp hR => ?_)
  obtain ⟨hr1, hs1⟩ := hp
  subst r
  subst T1
  refine lv_icmp_eq (tgt := 1903) hx hb dL_law_652 (by decide) (fun _ => ?_) (fun h => absurd hres h)
  refine W.widen (k := cells + 1) (n := slots + 6) (by omega) (by omega) ?_
  exact K _ _ _ _ hR (lv_sub hl [0, 1, 2, 3, 4] rfl)
set_option maxHeartbeats 4000000 in
set_option maxRecDepth 100000 in
theorem lw_rescale_e1 {pg : Program} {l : Launch} {e : Env} {s : State} {m : MethodId} {below : List Frame} {meth : Method} {c : Code} {b L : Nat} {xs : Nat → Int32} {D : va_G} {cI cZ cJ : ClassId} {adx adm : Nat → Nat} {oo : Nat} {Bx Bm : Nat → Prop} (C0 : lw_At pg s m meth c b L xs) (hfl : l.stackTraces = false) (X0 : zLC D cI cZ cJ adx adm oo Bx Bm s) (S M : zS) (g : Nat → Int64) (i : Nat) (z : Int32) (hO : zOK S) (hOM : zOK M) (hz : zbadv z 1 4) (hz9_m : zbadv z 1 4) (ha1 : xs (i + 1) = (z)) (hi : i + 4 ≤ L) (hL : L ≤ 2048) {H : Heap} {locs : List Loc} {cells slots : Nat} {ls : Array Slot} (hcc : cells + 1 ≤ 1096) (hss : slots + 6 ≤ 9967) (hR : zL D cI cZ cJ adx adm oo s H locs S M g) (hl : lv_has ls 7 [(0, .ref (b)), (1, .ref (adx 0)), (2, .ref (adm 0)), (3, .ref (oo)), (4, .int (nI (i)))]) (K : ∀ (g1 : Nat → Int64) (H1 : Heap) (locs1 : List Loc) (ls1 : Array Slot), zL D cI cZ cJ adx adm oo s H1 locs1 (S) (zth M 1) g1 → lv_has ls1 7 [(0, .ref (b)), (1, .ref (adx 0)), (2, .ref (adm 0)), (3, .ref (oo)), (4, .int (nI (i)))] → W pg l e room_1 s m #[Value.ref b] below meth c H1 locs1 (cells + 1) (slots + 6) (lw_Z below #[Value.ref b] s) (F0 m 1903 ls1 [])) : W pg l e room_1 s m #[Value.ref b] below meth c H locs cells slots (lw_Z below #[Value.ref b] s) (F0 m 657 ls []) := by
  obtain ⟨hx, hb, hr, hml, hown, hts, hX, hbl, hlocks, hgv⟩ := C0
  have hts := fun w h => hts w (wsL_law_in w h)
  have hown : s.vm.findClass RL = some m.cls := hown
  have hb : c.code = cL_law := hb
  refine lv_aload_n hx hb dL_law_657 rfl (lv_at hl 1 rfl) ?_
  refine lv_aload_n hx hb dL_law_658 rfl (lv_at hl 0 rfl) ?_
  refine lv_iload hx hb dL_law_659 (lv_at hl 4 rfl) ?_
  refine lv_iconst (v := (nI 1)) hx hb dL_law_661 (by decide) ?_
  refine z_iadd_n hx hb dL_law_662 ?_
  refine z_sld_n hx hb hX hbl hR dL_law_663 (by omega) hL ha1 ?_
  refine lv_aload_n hx hb dL_law_664 rfl (lv_at hl 3 rfl) ?_
  refine z_lW (As := [.ref (adx 0), .int (z), .ref (oo)]) (rest := []) ⟨hx, hb, hml, hown, hts⟩ X0 hR (o_rescale_e1 X0.2.2.1 X0.2.2.2.2.1 hfl S g z hO hz) (vx_cwSW 3 hts gL_law_L_rescale rfl rfl rfl (by decide +kernel) ⟨Nat.le_of_ble_eq_true rfl, Nat.le_of_ble_eq_true rfl⟩) rfl hl rfl (Nat.le_of_ble_eq_true rfl) ⟨hcc, hss⟩ dL_law_665 (fun r S1 g1 H locs hp hR => ?_)
  obtain ⟨hr1, hs1⟩ := hp
  subst r
  have hs1 : S1 = S := hs1
  subst S1
  refine lv_istore (lv' := [(5, .int (nI (1))), (0, .ref (b)), (1, .ref (adx 0)), (2, .ref (adm 0)), (3, .ref (oo)), (4, .int (nI (i)))]) hx hb dL_law_668 hl (by decide) rfl (fun ls hl => ?_)
  refine lv_aload_n hx hb dL_law_670 rfl (lv_at hl 3 rfl) ?_
  refine lv_aload_n hx hb dL_law_671 rfl (lv_at hl 1 rfl) ?_
  refine lv_iload hx hb dL_law_672 (lv_at hl 5 rfl) ?_
  refine lv_iconst (v := (nI 1)) hx hb dL_law_674 (by decide) ?_
  refine z_iadd_n hx hb dL_law_675 ?_
  refine z_sld_n hx hb hX hbl hR dL_law_676 (by omega) hL ha1 ?_
  refine z_lM_i (As := [.int (z)]) (rest := []) ⟨hx, hb, hml, hown, hts⟩ X0 hR (c_X5_rescale_e1 X0.2.2.2.1 M z hOM hz9_m) (cwV 1 hts gL_law_X5_rescale rfl rfl rfl (by decide +kernel) ⟨Nat.le_of_ble_eq_true rfl, Nat.le_of_ble_eq_true rfl⟩) rfl hl rfl (Nat.le_of_ble_eq_true rfl) ⟨by show cells + 1 + 0 ≤ 1096; omega, by show slots + 6 + 0 ≤ 9967; omega⟩ dL_law_677 (fun r T1 H locs hp hR => ?_)
  obtain ⟨hr1, hs1⟩ := hp
  subst r
  subst T1
  refine lv_istore (lv' := [(6, .int (nI (0))), (5, .int (nI (1))), (0, .ref (b)), (1, .ref (adx 0)), (2, .ref (adm 0)), (3, .ref (oo)), (4, .int (nI (i)))]) hx hb dL_law_680 hl (by decide) rfl (fun ls hl => ?_)
  refine lv_aload_n hx hb dL_law_682 rfl (lv_at hl 4 rfl) ?_
  refine z_lM_i (As := []) (rest := []) ⟨hx, hb, hml, hown, hts⟩ X0 hR (c_X5_thrown X0.2.2.2.1 (zth M 1)) (cwV 0 hts gL_law_X5_thrown rfl rfl rfl (by decide +kernel) ⟨Nat.le_of_ble_eq_true rfl, Nat.le_of_ble_eq_true rfl⟩) rfl hl rfl (Nat.le_of_ble_eq_true rfl) ⟨by show cells + 1 + 0 ≤ 1096; omega, by show slots + 6 + 0 ≤ 9967; omega⟩ dL_law_683 (fun r M1 H locs hp hR => ?_)
  obtain ⟨hr1, hs1⟩ := hp
  subst M1
  obtain rfl : r = nI 1 := hr1.trans (th_4 _ _)
  refine lv_iload hx hb dL_law_686 (lv_at hl 1 rfl) ?_
  refine z_eq_n (tgt := 693) hx hb dL_law_688 (by decide) (by decide) (by decide) (fun _ => ?_) (fun h => absurd rfl h)
  refine lv_iload hx hb dL_law_693 (lv_at hl 1 rfl) ?_
  refine z_if_ne_n (tgt := 710) hx hb dL_law_695 (by decide) (by decide) (fun _ => ?_) (fun h => absurd h (by decide))
  refine lv_goto (tgt := 1903) hx hb dL_law_710 (by decide) ?_
  exact K _ _ _ _ hR (lv_sub hl [2, 3, 4, 5, 6] rfl)
set_option maxHeartbeats 4000000 in
set_option maxRecDepth 100000 in
theorem lw_rescale_ok {pg : Program} {l : Launch} {e : Env} {s : State} {m : MethodId} {below : List Frame} {meth : Method} {c : Code} {b L : Nat} {xs : Nat → Int32} {D : va_G} {cI cZ cJ : ClassId} {adx adm : Nat → Nat} {oo : Nat} {Bx Bm : Nat → Prop} (C0 : lw_At pg s m meth c b L xs) (hfl : l.stackTraces = false) (X0 : zLC D cI cZ cJ adx adm oo Bx Bm s) (S M : zS) (g : Nat → Int64) (i : Nat) (v : Nat) (hO : zOK S) (hOM : zOK M) (hv : 1 ≤ v) (hv2 : v ≤ 4) (hv_m : 1 ≤ v) (hv2_m : v ≤ 4) (hth : (mo_sa (zth M 0) v) 22 4 = nI 0) (hres : (nI (sp_mg v (zn S 22 0) 8)) = (nI (mo_mg v (zn M 22 0) 8))) (ha1 : xs (i + 1) = (nI (v))) (hi : i + 4 ≤ L) (hL : L ≤ 2048) {H : Heap} {locs : List Loc} {cells slots : Nat} {ls : Array Slot} (hcc : cells + 1 ≤ 1096) (hss : slots + 6 ≤ 9967) (hR : zL D cI cZ cJ adx adm oo s H locs S M g) (hl : lv_has ls 7 [(0, .ref (b)), (1, .ref (adx 0)), (2, .ref (adm 0)), (3, .ref (oo)), (4, .int (nI (i)))]) (K : ∀ (g1 : Nat → Int64) (H1 : Heap) (locs1 : List Loc) (ls1 : Array Slot), zL D cI cZ cJ adx adm oo s H1 locs1 (sp_sa S v) (mo_sa (zth M 0) v) g1 → lv_has ls1 7 [(0, .ref (b)), (1, .ref (adx 0)), (2, .ref (adm 0)), (3, .ref (oo)), (4, .int (nI (i)))] → W pg l e room_1 s m #[Value.ref b] below meth c H1 locs1 (cells + 1) (slots + 6) (lw_Z below #[Value.ref b] s) (F0 m 1903 ls1 [])) : W pg l e room_1 s m #[Value.ref b] below meth c H locs cells slots (lw_Z below #[Value.ref b] s) (F0 m 657 ls []) := by
  obtain ⟨hx, hb, hr, hml, hown, hts, hX, hbl, hlocks, hgv⟩ := C0
  have hts := fun w h => hts w (wsL_law_in w h)
  have hown : s.vm.findClass RL = some m.cls := hown
  have hb : c.code = cL_law := hb
  refine lv_aload_n hx hb dL_law_657 rfl (lv_at hl 1 rfl) ?_
  refine lv_aload_n hx hb dL_law_658 rfl (lv_at hl 0 rfl) ?_
  refine lv_iload hx hb dL_law_659 (lv_at hl 4 rfl) ?_
  refine lv_iconst (v := (nI 1)) hx hb dL_law_661 (by decide) ?_
  refine z_iadd_n hx hb dL_law_662 ?_
  refine z_sld_n hx hb hX hbl hR dL_law_663 (by omega) hL ha1 ?_
  refine lv_aload_n hx hb dL_law_664 rfl (lv_at hl 3 rfl) ?_
  refine z_lW (As := [.ref (adx 0), .int (nI (v)), .ref (oo)]) (rest := []) ⟨hx, hb, hml, hown, hts⟩ X0 hR (o_rescale_ok X0.2.2.1 X0.2.2.2.2.1 hfl S g v hO hv hv2) (vx_cwSW 3 hts gL_law_L_rescale rfl rfl rfl (by decide +kernel) ⟨Nat.le_of_ble_eq_true rfl, Nat.le_of_ble_eq_true rfl⟩) rfl hl rfl (Nat.le_of_ble_eq_true rfl) ⟨hcc, hss⟩ dL_law_665 (fun r S1 g1 H locs hp hR => ?_)
  obtain ⟨hr1, hs1, hg⟩ := hp
  subst r
  have hs1 : S1 = sp_sa S v := hs1
  subst S1
  refine lv_istore (lv' := [(5, .int (nI (0))), (0, .ref (b)), (1, .ref (adx 0)), (2, .ref (adm 0)), (3, .ref (oo)), (4, .int (nI (i)))]) hx hb dL_law_668 hl (by decide) rfl (fun ls hl => ?_)
  refine lv_aload_n hx hb dL_law_670 rfl (lv_at hl 3 rfl) ?_
  refine lv_aload_n hx hb dL_law_671 rfl (lv_at hl 1 rfl) ?_
  refine lv_iload hx hb dL_law_672 (lv_at hl 5 rfl) ?_
  refine lv_iconst (v := (nI 1)) hx hb dL_law_674 (by decide) ?_
  refine z_iadd_n hx hb dL_law_675 ?_
  refine z_sld_n hx hb hX hbl hR dL_law_676 (by omega) hL ha1 ?_
  refine z_lM_i (As := [.int (nI (v))]) (rest := []) ⟨hx, hb, hml, hown, hts⟩ X0 hR (c_X5_rescale_ok X0.2.2.2.1 M v hOM hv_m hv2_m) (cwV 1 hts gL_law_X5_rescale rfl rfl rfl (by decide +kernel) ⟨Nat.le_of_ble_eq_true rfl, Nat.le_of_ble_eq_true rfl⟩) rfl hl rfl (Nat.le_of_ble_eq_true rfl) ⟨by show cells + 1 + 0 ≤ 1096; omega, by show slots + 6 + 0 ≤ 9967; omega⟩ dL_law_677 (fun r T1 H locs hp hR => ?_)
  obtain ⟨hr1, hs1⟩ := hp
  subst r
  subst T1
  refine lv_istore (lv' := [(6, .int (nI (mo_mg v (zn M 22 0) 8))), (5, .int (nI (0))), (0, .ref (b)), (1, .ref (adx 0)), (2, .ref (adm 0)), (3, .ref (oo)), (4, .int (nI (i)))]) hx hb dL_law_680 hl (by decide) rfl (fun ls hl => ?_)
  refine lv_aload_n hx hb dL_law_682 rfl (lv_at hl 4 rfl) ?_
  refine z_lM_i (As := []) (rest := []) ⟨hx, hb, hml, hown, hts⟩ X0 hR (c_X5_thrown X0.2.2.2.1 (mo_sa (zth M 0) v)) (cwV 0 hts gL_law_X5_thrown rfl rfl rfl (by decide +kernel) ⟨Nat.le_of_ble_eq_true rfl, Nat.le_of_ble_eq_true rfl⟩) rfl hl rfl (Nat.le_of_ble_eq_true rfl) ⟨by show cells + 1 + 0 ≤ 1096; omega, by show slots + 6 + 0 ≤ 9967; omega⟩ dL_law_683 (fun r M1 H locs hp hR => ?_)
  obtain ⟨hr1, hs1⟩ := hp
  subst M1
  obtain rfl : r = nI 0 := hr1.trans hth
  refine lv_iload hx hb dL_law_686 (lv_at hl 1 rfl) ?_
  refine z_eq_n (tgt := 693) hx hb dL_law_688 (by decide) (by decide) (by decide) (fun _ => ?_) (fun h => absurd rfl h)
  refine lv_iload hx hb dL_law_693 (lv_at hl 1 rfl) ?_
  refine z_if_ne_n (tgt := 710) hx hb dL_law_695 (by decide) (by decide) (fun h => absurd h (by decide)) (fun _ => ?_)
  refine lv_aload_n hx hb dL_law_698 rfl (lv_at hl 5 rfl) ?_
  refine lv_iconst (v := (nI 0)) hx hb dL_law_699 (by decide) ?_
  refine z_l_lald hx hb X0 hR dL_law_700 ?_
  refine lv_iload hx hb dL_law_701 (lv_at hl 0 rfl) ?_
  refine lv_i2l (v := ((nI (mo_mg v (zn M 22 0) 8))).toInt64) hx hb dL_law_703 rfl ?_
  refine W.lcmp hx hb dL_law_704 ?_
  refine lv_topi (fun v9 ev9 => ?_)
  obtain rfl : v9 = nI 0 := ev9.trans (z_cmp_eq (hg.trans (congrArg Int32.toInt64 hres)))
  refine z_if_eq_n (tgt := 710) hx hb dL_law_705 (by decide) (by decide) (fun _ => ?_) (fun h => absurd h (by decide))
  refine lv_goto (tgt := 1903) hx hb dL_law_710 (by decide) ?_
  exact K _ _ _ _ hR (lv_sub hl [2, 3, 4, 5, 6] rfl)
set_option maxHeartbeats 4000000 in
set_option maxRecDepth 100000 in
theorem lw_events_e1 {pg : Program} {l : Launch} {e : Env} {s : State} {m : MethodId} {below : List Frame} {meth : Method} {c : Code} {b L : Nat} {xs : Nat → Int32} {D : va_G} {cI cZ cJ : ClassId} {adx adm : Nat → Nat} {oo : Nat} {Bx Bm : Nat → Prop} (C0 : lw_At pg s m meth c b L xs) (hfl : l.stackTraces = false) (X0 : zLC D cI cZ cJ adx adm oo Bx Bm s) (S M : zS) (g : Nat → Int64) (i : Nat) (x : Int32) (hO : zOK S) (hOM : zOK M) (hxb : zbad x 4) (hxb_m : zbad x 4) (ha1 : xs (i + 1) = (x)) (hi : i + 4 ≤ L) (hL : L ≤ 2048) {H : Heap} {locs : List Loc} {cells slots : Nat} {ls : Array Slot} (hcc : cells + 1 ≤ 1096) (hss : slots + 6 ≤ 9967) (hR : zL D cI cZ cJ adx adm oo s H locs S M g) (hl : lv_has ls 7 [(0, .ref (b)), (1, .ref (adx 0)), (2, .ref (adm 0)), (3, .ref (oo)), (4, .int (nI (i)))]) (K : ∀ (g1 : Nat → Int64) (H1 : Heap) (locs1 : List Loc) (ls1 : Array Slot), zL D cI cZ cJ adx adm oo s H1 locs1 (S) (zth M 1) g1 → lv_has ls1 7 [(0, .ref (b)), (1, .ref (adx 0)), (2, .ref (adm 0)), (3, .ref (oo)), (4, .int (nI (i)))] → W pg l e room_1 s m #[Value.ref b] below meth c H1 locs1 (cells + 1) (slots + 6) (lw_Z below #[Value.ref b] s) (F0 m 1903 ls1 [])) : W pg l e room_1 s m #[Value.ref b] below meth c H locs cells slots (lw_Z below #[Value.ref b] s) (F0 m 713 ls []) := by
  obtain ⟨hx, hb, hr, hml, hown, hts, hX, hbl, hlocks, hgv⟩ := C0
  have hts := fun w h => hts w (wsL_law_in w h)
  have hown : s.vm.findClass RL = some m.cls := hown
  have hb : c.code = cL_law := hb
  refine lv_aload_n hx hb dL_law_713 rfl (lv_at hl 1 rfl) ?_
  refine lv_aload_n hx hb dL_law_714 rfl (lv_at hl 0 rfl) ?_
  refine lv_iload hx hb dL_law_715 (lv_at hl 4 rfl) ?_
  refine lv_iconst (v := (nI 1)) hx hb dL_law_717 (by decide) ?_
  refine z_iadd_n hx hb dL_law_718 ?_
  refine z_sld_n hx hb hX hbl hR dL_law_719 (by omega) hL ha1 ?_
  refine lv_aload_n hx hb dL_law_720 rfl (lv_at hl 3 rfl) ?_
  refine z_lW (As := [.ref (adx 0), .int (x), .ref (oo)]) (rest := []) ⟨hx, hb, hml, hown, hts⟩ X0 hR (o_events_e1 X0.2.2.1 X0.2.2.2.2.1 hfl S g x hO hxb) (vx_cwSW 3 hts gL_law_L_events rfl rfl rfl (by decide +kernel) ⟨Nat.le_of_ble_eq_true rfl, Nat.le_of_ble_eq_true rfl⟩) rfl hl rfl (Nat.le_of_ble_eq_true rfl) ⟨hcc, hss⟩ dL_law_721 (fun r S1 g1 H locs hp hR => ?_)
  obtain ⟨hr1, hs1⟩ := hp
  subst r
  have hs1 : S1 = S := hs1
  subst S1
  refine lv_istore (lv' := [(5, .int (nI (1))), (0, .ref (b)), (1, .ref (adx 0)), (2, .ref (adm 0)), (3, .ref (oo)), (4, .int (nI (i)))]) hx hb dL_law_724 hl (by decide) rfl (fun ls hl => ?_)
  refine lv_aload_n hx hb dL_law_726 rfl (lv_at hl 3 rfl) ?_
  refine lv_aload_n hx hb dL_law_727 rfl (lv_at hl 1 rfl) ?_
  refine lv_iload hx hb dL_law_728 (lv_at hl 5 rfl) ?_
  refine lv_iconst (v := (nI 1)) hx hb dL_law_730 (by decide) ?_
  refine z_iadd_n hx hb dL_law_731 ?_
  refine z_sld_n hx hb hX hbl hR dL_law_732 (by omega) hL ha1 ?_
  refine z_lM_i (As := [.int (x)]) (rest := []) ⟨hx, hb, hml, hown, hts⟩ X0 hR (c_X5_events_e1 X0.2.2.2.1 M x hOM hxb_m) (cwV 1 hts gL_law_X5_events rfl rfl rfl (by decide +kernel) ⟨Nat.le_of_ble_eq_true rfl, Nat.le_of_ble_eq_true rfl⟩) rfl hl rfl (Nat.le_of_ble_eq_true rfl) ⟨by show cells + 1 + 0 ≤ 1096; omega, by show slots + 6 + 0 ≤ 9967; omega⟩ dL_law_733 (fun r T1 H locs hp hR => ?_)
  obtain ⟨hr1, hs1⟩ := hp
  subst r
  subst T1
  refine lv_istore (lv' := [(6, .int (nI (0))), (5, .int (nI (1))), (0, .ref (b)), (1, .ref (adx 0)), (2, .ref (adm 0)), (3, .ref (oo)), (4, .int (nI (i)))]) hx hb dL_law_736 hl (by decide) rfl (fun ls hl => ?_)
  refine lv_aload_n hx hb dL_law_738 rfl (lv_at hl 4 rfl) ?_
  refine z_lM_i (As := []) (rest := []) ⟨hx, hb, hml, hown, hts⟩ X0 hR (c_X5_thrown X0.2.2.2.1 (zth M 1)) (cwV 0 hts gL_law_X5_thrown rfl rfl rfl (by decide +kernel) ⟨Nat.le_of_ble_eq_true rfl, Nat.le_of_ble_eq_true rfl⟩) rfl hl rfl (Nat.le_of_ble_eq_true rfl) ⟨by show cells + 1 + 0 ≤ 1096; omega, by show slots + 6 + 0 ≤ 9967; omega⟩ dL_law_739 (fun r M1 H locs hp hR => ?_)
  obtain ⟨hr1, hs1⟩ := hp
  subst M1
  obtain rfl : r = nI 1 := hr1.trans (th_4 _ _)
  refine lv_iload hx hb dL_law_742 (lv_at hl 1 rfl) ?_
  refine z_eq_n (tgt := 749) hx hb dL_law_744 (by decide) (by decide) (by decide) (fun _ => ?_) (fun h => absurd rfl h)
  refine lv_iload hx hb dL_law_749 (lv_at hl 1 rfl) ?_
  refine z_if_ne_n (tgt := 766) hx hb dL_law_751 (by decide) (by decide) (fun _ => ?_) (fun h => absurd h (by decide))
  refine lv_goto (tgt := 1903) hx hb dL_law_766 (by decide) ?_
  exact K _ _ _ _ hR (lv_sub hl [2, 3, 4, 5, 6] rfl)
set_option maxHeartbeats 4000000 in
set_option maxRecDepth 100000 in
theorem lw_events_ok {pg : Program} {l : Launch} {e : Env} {s : State} {m : MethodId} {below : List Frame} {meth : Method} {c : Code} {b L : Nat} {xs : Nat → Int32} {D : va_G} {cI cZ cJ : ClassId} {adx adm : Nat → Nat} {oo : Nat} {Bx Bm : Nat → Prop} (C0 : lw_At pg s m meth c b L xs) (hfl : l.stackTraces = false) (X0 : zLC D cI cZ cJ adx adm oo Bx Bm s) (S M : zS) (g : Nat → Int64) (i : Nat) (p : Nat) (hO : zOK S) (hOM : zOK M) (hp : p < 4) (hp_m : p < 4) (hres : (nI (zn S 0 p)) = (nI (zn (zth M 0) 0 p))) (ha1 : xs (i + 1) = (nI (p))) (hi : i + 4 ≤ L) (hL : L ≤ 2048) {H : Heap} {locs : List Loc} {cells slots : Nat} {ls : Array Slot} (hcc : cells + 1 ≤ 1096) (hss : slots + 6 ≤ 9967) (hR : zL D cI cZ cJ adx adm oo s H locs S M g) (hl : lv_has ls 7 [(0, .ref (b)), (1, .ref (adx 0)), (2, .ref (adm 0)), (3, .ref (oo)), (4, .int (nI (i)))]) (K : ∀ (g1 : Nat → Int64) (H1 : Heap) (locs1 : List Loc) (ls1 : Array Slot), zL D cI cZ cJ adx adm oo s H1 locs1 (S) (zth M 0) g1 → lv_has ls1 7 [(0, .ref (b)), (1, .ref (adx 0)), (2, .ref (adm 0)), (3, .ref (oo)), (4, .int (nI (i)))] → W pg l e room_1 s m #[Value.ref b] below meth c H1 locs1 (cells + 1) (slots + 6) (lw_Z below #[Value.ref b] s) (F0 m 1903 ls1 [])) : W pg l e room_1 s m #[Value.ref b] below meth c H locs cells slots (lw_Z below #[Value.ref b] s) (F0 m 713 ls []) := by
  obtain ⟨hx, hb, hr, hml, hown, hts, hX, hbl, hlocks, hgv⟩ := C0
  have hts := fun w h => hts w (wsL_law_in w h)
  have hown : s.vm.findClass RL = some m.cls := hown
  have hb : c.code = cL_law := hb
  refine lv_aload_n hx hb dL_law_713 rfl (lv_at hl 1 rfl) ?_
  refine lv_aload_n hx hb dL_law_714 rfl (lv_at hl 0 rfl) ?_
  refine lv_iload hx hb dL_law_715 (lv_at hl 4 rfl) ?_
  refine lv_iconst (v := (nI 1)) hx hb dL_law_717 (by decide) ?_
  refine z_iadd_n hx hb dL_law_718 ?_
  refine z_sld_n hx hb hX hbl hR dL_law_719 (by omega) hL ha1 ?_
  refine lv_aload_n hx hb dL_law_720 rfl (lv_at hl 3 rfl) ?_
  refine z_lW (As := [.ref (adx 0), .int (nI (p)), .ref (oo)]) (rest := []) ⟨hx, hb, hml, hown, hts⟩ X0 hR (o_events_ok X0.2.2.1 X0.2.2.2.2.1 hfl S g p hO hp) (vx_cwSW 3 hts gL_law_L_events rfl rfl rfl (by decide +kernel) ⟨Nat.le_of_ble_eq_true rfl, Nat.le_of_ble_eq_true rfl⟩) rfl hl rfl (Nat.le_of_ble_eq_true rfl) ⟨hcc, hss⟩ dL_law_721 (fun r S1 g1 H locs hp hR => ?_)
  obtain ⟨hr1, hs1, hg⟩ := hp
  subst r
  have hs1 : S1 = S := hs1
  subst S1
  refine lv_istore (lv' := [(5, .int (nI (0))), (0, .ref (b)), (1, .ref (adx 0)), (2, .ref (adm 0)), (3, .ref (oo)), (4, .int (nI (i)))]) hx hb dL_law_724 hl (by decide) rfl (fun ls hl => ?_)
  refine lv_aload_n hx hb dL_law_726 rfl (lv_at hl 3 rfl) ?_
  refine lv_aload_n hx hb dL_law_727 rfl (lv_at hl 1 rfl) ?_
  refine lv_iload hx hb dL_law_728 (lv_at hl 5 rfl) ?_
  refine lv_iconst (v := (nI 1)) hx hb dL_law_730 (by decide) ?_
  refine z_iadd_n hx hb dL_law_731 ?_
  refine z_sld_n hx hb hX hbl hR dL_law_732 (by omega) hL ha1 ?_
  refine z_lM_i (As := [.int (nI (p))]) (rest := []) ⟨hx, hb, hml, hown, hts⟩ X0 hR (c_X5_events_ok X0.2.2.2.1 M p hOM hp_m) (cwV 1 hts gL_law_X5_events rfl rfl rfl (by decide +kernel) ⟨Nat.le_of_ble_eq_true rfl, Nat.le_of_ble_eq_true rfl⟩) rfl hl rfl (Nat.le_of_ble_eq_true rfl) ⟨by show cells + 1 + 0 ≤ 1096; omega, by show slots + 6 + 0 ≤ 9967; omega⟩ dL_law_733 (fun r T1 H locs hp hR => ?_)
  obtain ⟨hr1, hs1⟩ := hp
  subst r
  subst T1
  refine lv_istore (lv' := [(6, .int (nI (zn (zth M 0) 0 p))), (5, .int (nI (0))), (0, .ref (b)), (1, .ref (adx 0)), (2, .ref (adm 0)), (3, .ref (oo)), (4, .int (nI (i)))]) hx hb dL_law_736 hl (by decide) rfl (fun ls hl => ?_)
  refine lv_aload_n hx hb dL_law_738 rfl (lv_at hl 4 rfl) ?_
  refine z_lM_i (As := []) (rest := []) ⟨hx, hb, hml, hown, hts⟩ X0 hR (c_X5_thrown X0.2.2.2.1 (zth M 0)) (cwV 0 hts gL_law_X5_thrown rfl rfl rfl (by decide +kernel) ⟨Nat.le_of_ble_eq_true rfl, Nat.le_of_ble_eq_true rfl⟩) rfl hl rfl (Nat.le_of_ble_eq_true rfl) ⟨by show cells + 1 + 0 ≤ 1096; omega, by show slots + 6 + 0 ≤ 9967; omega⟩ dL_law_739 (fun r M1 H locs hp hR => ?_)
  obtain ⟨hr1, hs1⟩ := hp
  subst M1
  obtain rfl : r = nI 0 := hr1.trans (th_4 _ _)
  refine lv_iload hx hb dL_law_742 (lv_at hl 1 rfl) ?_
  refine z_eq_n (tgt := 749) hx hb dL_law_744 (by decide) (by decide) (by decide) (fun _ => ?_) (fun h => absurd rfl h)
  refine lv_iload hx hb dL_law_749 (lv_at hl 1 rfl) ?_
  refine z_if_ne_n (tgt := 766) hx hb dL_law_751 (by decide) (by decide) (fun h => absurd h (by decide)) (fun _ => ?_)
  refine lv_aload_n hx hb dL_law_754 rfl (lv_at hl 5 rfl) ?_
  refine lv_iconst (v := (nI 0)) hx hb dL_law_755 (by decide) ?_
  refine z_l_lald hx hb X0 hR dL_law_756 ?_
  refine lv_iload hx hb dL_law_757 (lv_at hl 0 rfl) ?_
  refine lv_i2l (v := ((nI (zn (zth M 0) 0 p))).toInt64) hx hb dL_law_759 rfl ?_
  refine W.lcmp hx hb dL_law_760 ?_
  refine lv_topi (fun v9 ev9 => ?_)
  obtain rfl : v9 = nI 0 := ev9.trans (z_cmp_eq (hg.trans (congrArg Int32.toInt64 hres)))
  refine z_if_eq_n (tgt := 766) hx hb dL_law_761 (by decide) (by decide) (fun _ => ?_) (fun h => absurd h (by decide))
  refine lv_goto (tgt := 1903) hx hb dL_law_766 (by decide) ?_
  exact K _ _ _ _ hR (lv_sub hl [2, 3, 4, 5, 6] rfl)
