/-! the check of sums -/
set_option maxHeartbeats 4000000 in
set_option maxRecDepth 100000 in
theorem c_L_areSumsSo {l : Launch} {D : va_G} {cI cZ : ClassId} {ad : Nat → Nat} {B : Nat → Prop} (hG : ∀ S : zS, va_D B (wX cI cZ ad S)) (hfl : l.stackTraces = false) (S : zS) (k : Nat) (hk0 : k ≤ 2000) (J : vJ k S) : zMC 0 0 l yL_areSumsSo wsL_areSumsSo ({ frames := 8, cells := 0, slots := 0, locals := 126 } : Room) [.ref (ad 0)] D (zT cI cZ) B (wX cI cZ ad) S (fun (r : Int32) (S1 : zS) => r = (nI (1)) ∧ S1 = S) := by
  refine zMC_ofP (cc := cL_areSumsSo) (maxL := 8) (ret := (some .boolean)) (by decide) rfl (Nat.le_of_ble_eq_true rfl) ?_
  intro pg en s mm below meth cd hx hb hr hml hown hts hlk hF hR ls hl
  have hl : lv_has ls 8 [(0, .ref (ad 0))] := hl
  have hO := vJ_ok J
  have hI := J.2.1
  have hW := (zOK.w hO).2
  have hDz : zDeep k S ∧ ∀ key, key < 32 → S 21 (zown (zn S 22 0) key) = (-1) → S 13 key = nI 0 ∧ S 14 key = nI 0 := by
    obtain ⟨⟨M, I⟩, -⟩ := J
    exact ⟨I.2.2.2, vJ.z13 I⟩
  obtain ⟨hD, hz0⟩ := hDz
  refine lv_iconst (v := (nI (0))) hx hb dL_areSumsSo_0 (by decide) ?_
  refine lv_istore_n (lv' := [(1, .int (nI (0))), (0, .ref (ad 0))]) hx hb dL_areSumsSo_1 rfl hl (by decide) rfl (fun ls hl => ?_)
  refine lv_iconst (v := (nI (0))) hx hb dL_areSumsSo_2 (by decide) ?_
  refine lv_istore_n (lv' := [(2, .int (nI (0))), (1, .int (nI (0))), (0, .ref (ad 0))]) hx hb dL_areSumsSo_3 rfl hl (by decide) rfl (fun ls hl => ?_)
  refine lv_iconst (v := (nI (0))) hx hb dL_areSumsSo_4 (by decide) ?_
  refine lv_istore_n (lv' := [(3, .int (nI (0))), (2, .int (nI (0))), (1, .int (nI (0))), (0, .ref (ad 0))]) hx hb dL_areSumsSo_5 rfl hl (by decide) rfl (fun ls hl => ?_)
  refine lv_iconst (v := (nI (0))) hx hb dL_areSumsSo_6 (by decide) ?_
  refine lv_istore (lv' := [(4, .int (nI (0))), (3, .int (nI (0))), (2, .int (nI (0))), (1, .int (nI (0))), (0, .ref (ad 0))]) hx hb dL_areSumsSo_7 hl (by decide) rfl (fun ls hl => ?_)
  have loop9 : ∀ (nf9 : Nat) (key : Nat), (key ≤ 32) → 32 - key < nf9 → ∀ (H : Heap) (locs : List Loc), zR D B (wX cI cZ ad S) s H locs → ∀ ls : Array Slot, lv_has ls 8 [(0, .ref (ad 0)), (1, .int (nI (q_m (zn S 9) key))), (2, .int (nI (0))), (3, .int (nI (0))), (4, .int (nI (key)))] → W pg l en ({ frames := 8, cells := 0, slots := 0, locals := 126 } : Room) s mm ([.ref (ad 0)] : List Value).toArray below meth cd H locs 0 0 (MQ below (va_Qi (fun (r : Int32) (S1 : zS) => r = (nI (1)) ∧ S1 = S) (zB D (zT cI cZ) (wX cI cZ ad)) (zA B s.heap.size)) ([.ref (ad 0)] : List Value).toArray s 0 0 (zA B s.heap.size)) (F0 mm 9 ls []) := by
    intro nf9
    induction nf9 with
    | zero => intro key hk32 hn; exact absurd hn (Nat.not_lt_zero _)
    | succ nf9 ih9 =>
      intro key hk32 hn H locs hR ls hl
      refine lv_iload hx hb dL_areSumsSo_9 (lv_at hl 4 rfl) ?_
      refine lv_bipush (v := (nI (32))) hx hb dL_areSumsSo_11 (by decide) ?_
      refine z_ge_n (tgt := 223) hx hb dL_areSumsSo_13 (by decide) (by omega) (by omega) (fun h13_1 => ?_) (fun h13_1 => ?_)
      · skip
        have hl : lv_has ls 8 [(0, .ref (ad 0)), (1, .int (nI (q_m (zn S 9) 32))), (2, .int (nI (0))), (3, .int (nI (0))), (4, .int (nI (key)))] := (by have e : key = 32 := (by omega); subst e; exact hl)
        refine lv_iconst (v := (nI (0))) hx hb dL_areSumsSo_223 (by decide) ?_
        refine lv_istore (lv' := [(4, .int (nI (0))), (0, .ref (ad 0)), (1, .int (nI (q_m (zn S 9) 32))), (2, .int (nI (0))), (3, .int (nI (0)))]) hx hb dL_areSumsSo_224 hl (by decide) rfl (fun ls hl => ?_)
        have loop226 : ∀ (nf226 : Nat) (u : Nat) (z : Nat), (u ≤ zn S 22 0) → (z ≤ 1) → (z = 0 → ∀ v, v < u → S 21 v < 0) → zn S 22 0 - u < nf226 → ∀ (H : Heap) (locs : List Loc), zR D B (wX cI cZ ad S) s H locs → ∀ ls : Array Slot, lv_has ls 8 [(0, .ref (ad 0)), (1, .int (nI (q_m (zn S 9) 32))), (2, .int (nI (s_o S u))), (3, .int (nI (z))), (4, .int (nI (u)))] → W pg l en ({ frames := 8, cells := 0, slots := 0, locals := 126 } : Room) s mm ([.ref (ad 0)] : List Value).toArray below meth cd H locs 0 0 (MQ below (va_Qi (fun (r : Int32) (S1 : zS) => r = (nI (1)) ∧ S1 = S) (zB D (zT cI cZ) (wX cI cZ ad)) (zA B s.heap.size)) ([.ref (ad 0)] : List Value).toArray s 0 0 (zA B s.heap.size)) (F0 mm 226 ls []) := by
          intro nf226
          induction nf226 with
          | zero => intro u z hu hz1 hz hn; exact absurd hn (Nat.not_lt_zero _)
          | succ nf226 ih226 =>
            intro u z hu hz1 hz hn H locs hR ls hl
            refine lv_iload hx hb dL_areSumsSo_226 (lv_at hl 4 rfl) ?_
            refine lv_aload_n hx hb dL_areSumsSo_228 rfl (lv_at hl 0 rfl) ?_
            refine z_callV_i (As := []) (rest := [.int (nI (u))]) (w := wX cI cZ ad) ⟨hx, hb, hml, hown, hts⟩ hF hR (c_X4_workers hG S hO) (cwV 0 hts gL_areSumsSo_X4_workers rfl rfl rfl (by decide +kernel) ⟨Nat.le_of_ble_eq_true rfl, Nat.le_of_ble_eq_true rfl⟩) (wX_c0 S) rfl rfl rfl hl rfl (Nat.le_of_ble_eq_true rfl) (by decide) dL_areSumsSo_229 (fun r2 S2 H locs hp2 hR => ?_)
            obtain ⟨hr2, hs2⟩ := hp2
            subst r2
            subst S2
            refine z_ge_n (tgt := 269) hx hb dL_areSumsSo_232 (by decide) (by omega) (by omega) (fun h232_3 => ?_) (fun h232_3 => ?_)
            · skip
              obtain ⟨e1, e2⟩ := vT_all hO hI
              have eu : u = zn S 22 0 := by omega
              rw [← eu] at e1
              refine lv_aload_n hx hb dL_areSumsSo_269 rfl (lv_at hl 0 rfl) ?_
              refine z_callV_i (As := []) (rest := []) (w := wX cI cZ ad) ⟨hx, hb, hml, hown, hts⟩ hF hR (c_X4_committed hG S hO) (cwV 0 hts gL_areSumsSo_X4_committed rfl rfl rfl (by decide +kernel) ⟨Nat.le_of_ble_eq_true rfl, Nat.le_of_ble_eq_true rfl⟩) (wX_c0 S) rfl rfl rfl hl rfl (Nat.le_of_ble_eq_true rfl) (by decide) dL_areSumsSo_270 (fun r4 S4 H locs hp4 hR => ?_)
              obtain ⟨hr4, hs4⟩ := hp4
              subst r4
              subst S4
              refine lv_topi (fun v5 ev5 => ?_)
              obtain rfl : v5 = (nI (q_m (zn S 19) 32)) := ev5.trans (cm_q (fun key hk => (hI.2.2.1 key hk).1 19 (by decide) (by decide)) 32 (Nat.le_refl _))
              refine lv_iload_n hx hb dL_areSumsSo_273 rfl (lv_at hl 2 rfl) ?_
              refine z_iadd_n hx hb dL_areSumsSo_274 ?_
              refine lv_iload_n hx hb dL_areSumsSo_275 rfl (lv_at hl 1 rfl) ?_
              refine z_gt_n (tgt := 297) hx hb dL_areSumsSo_276 (by decide) (by omega) (by omega) (fun h276_6 => by omega) (fun h276_6 => ?_)
              refine lv_iload_n hx hb dL_areSumsSo_279 rfl (lv_at hl 3 rfl) ?_
              refine z_if_ne_n (tgt := 293) hx hb dL_areSumsSo_280 (by decide) (by omega) (fun h280_7 => ?_) (fun h280_7 => ?_)
              · skip
                refine lv_iconst (v := (nI (1))) hx hb dL_areSumsSo_293 (by decide) ?_
                refine lv_goto (tgt := 298) hx hb dL_areSumsSo_294 (by decide) ?_
                exact z_zret (w := wX cI cZ ad) (S1 := S) hx hb hr hlk hF hR dL_areSumsSo_298 (by decide) (⟨rfl, rfl⟩)
              · skip
                have q280 := h280_7
                have e3 := vT_all_eq hO hI hz0 (fun w hw => vD_neg hD hk0 (by omega) (hz q280 w (by omega)))
                rw [← eu] at e3
                refine lv_aload_n hx hb dL_areSumsSo_283 rfl (lv_at hl 0 rfl) ?_
                refine z_callV_i (As := []) (rest := []) (w := wX cI cZ ad) ⟨hx, hb, hml, hown, hts⟩ hF hR (c_X4_committed hG S hO) (cwV 0 hts gL_areSumsSo_X4_committed rfl rfl rfl (by decide +kernel) ⟨Nat.le_of_ble_eq_true rfl, Nat.le_of_ble_eq_true rfl⟩) (wX_c0 S) rfl rfl rfl hl rfl (Nat.le_of_ble_eq_true rfl) (by decide) dL_areSumsSo_284 (fun r8 S8 H locs hp8 hR => ?_)
                obtain ⟨hr8, hs8⟩ := hp8
                subst r8
                subst S8
                refine lv_topi (fun v9 ev9 => ?_)
                obtain rfl : v9 = (nI (q_m (zn S 19) 32)) := ev9.trans (cm_q (fun key hk => (hI.2.2.1 key hk).1 19 (by decide) (by decide)) 32 (Nat.le_refl _))
                refine lv_iload_n hx hb dL_areSumsSo_287 rfl (lv_at hl 2 rfl) ?_
                refine z_iadd_n hx hb dL_areSumsSo_288 ?_
                refine lv_iload_n hx hb dL_areSumsSo_289 rfl (lv_at hl 1 rfl) ?_
                refine z_ne_n (tgt := 297) hx hb dL_areSumsSo_290 (by decide) (by omega) (by omega) (fun h290_10 => absurd e3 h290_10) (fun h290_10 => ?_)
                refine lv_iconst (v := (nI (1))) hx hb dL_areSumsSo_293 (by decide) ?_
                refine lv_goto (tgt := 298) hx hb dL_areSumsSo_294 (by decide) ?_
                exact z_zret (w := wX cI cZ ad) (S1 := S) hx hb hr hlk hF hR dL_areSumsSo_298 (by decide) (⟨rfl, rfl⟩)
            · skip
              refine lv_iload_n hx hb dL_areSumsSo_235 rfl (lv_at hl 2 rfl) ?_
              refine lv_aload_n hx hb dL_areSumsSo_236 rfl (lv_at hl 0 rfl) ?_
              refine lv_iload hx hb dL_areSumsSo_237 (lv_at hl 4 rfl) ?_
              refine z_callV_i (As := [.int (nI (u))]) (rest := [.int (nI (s_o S u))]) (w := wX cI cZ ad) ⟨hx, hb, hml, hown, hts⟩ hF hR (c_X4_open_ok hG S (u) hO (by omega)) (cwV 1 hts gL_areSumsSo_X4_open rfl rfl rfl (by decide +kernel) ⟨Nat.le_of_ble_eq_true rfl, Nat.le_of_ble_eq_true rfl⟩) (wX_c0 S) rfl rfl rfl hl rfl (Nat.le_of_ble_eq_true rfl) (by decide) dL_areSumsSo_239 (fun r11 S11 H locs hp11 hR => ?_)
              obtain ⟨hr11, hs11⟩ := hp11
              subst r11
              subst S11
              refine lv_topi (fun v12 ev12 => ?_)
              obtain rfl : v12 = (nI (s_op S u)) := ev12.trans (op_q u (fun key hk => (hI.2.2.1 key hk).1 11 (by decide) (by decide)) 32 (Nat.le_refl _))
              refine z_iadd_n hx hb dL_areSumsSo_242 ?_
              refine lv_istore_n (lv' := [(2, .int (nI ((s_o S u) + (s_op S u)))), (0, .ref (ad 0)), (1, .int (nI (q_m (zn S 9) 32))), (3, .int (nI (z))), (4, .int (nI (u)))]) hx hb dL_areSumsSo_243 rfl hl (by decide) rfl (fun ls hl => ?_)
              refine lv_iload_n hx hb dL_areSumsSo_244 rfl (lv_at hl 3 rfl) ?_
              refine z_if_ne_n (tgt := 257) hx hb dL_areSumsSo_245 (by decide) (by omega) (fun h245_13 => ?_) (fun h245_13 => ?_)
              · skip
                refine lv_iconst (v := (nI (1))) hx hb dL_areSumsSo_257 (by decide) ?_
                refine lv_goto (tgt := 262) hx hb dL_areSumsSo_258 (by decide) ?_
                refine lv_istore_n (lv' := [(3, .int (nI (1))), (2, .int (nI ((s_o S u) + (s_op S u)))), (0, .ref (ad 0)), (1, .int (nI (q_m (zn S 9) 32))), (4, .int (nI (u)))]) hx hb dL_areSumsSo_262 rfl hl (by decide) rfl (fun ls hl => ?_)
                have hl : lv_has ls 8 [(3, .int (nI (1))), (2, .int (nI (s_o S (u + 1)))), (0, .ref (ad 0)), (1, .int (nI (q_m (zn S 9) 32))), (4, .int (nI (u)))] := hl
                refine lv_iinc (v := (nI (u + 1))) (lv' := [(4, .int (nI (u + 1))), (3, .int (nI (1))), (2, .int (nI (s_o S (u + 1)))), (0, .ref (ad 0)), (1, .int (nI (q_m (zn S 9) 32)))]) hx hb dL_areSumsSo_263 hl (k := 4) rfl (z_inc _) (by decide) rfl (fun ls hl => ?_)
                refine lv_goto (tgt := 226) hx hb dL_areSumsSo_266 (by decide) ?_
                exact ih226 (u + 1) 1 (by omega) (by omega) (fun h => absurd h (by decide)) (by omega) _ _ hR ls (lv_sub hl [3, 4, 2, 1, 0] rfl)
              · skip
                have q245 := h245_13
                refine lv_aload_n hx hb dL_areSumsSo_248 rfl (lv_at hl 1 rfl) ?_
                refine lv_iload hx hb dL_areSumsSo_249 (lv_at hl 4 rfl) ?_
                refine z_callV_i (As := [.int (nI (u))]) (rest := []) (w := wX cI cZ ad) ⟨hx, hb, hml, hown, hts⟩ hF hR (c_X4_sealed_ok hG S (u) hO (by omega)) (cwV 1 hts gL_areSumsSo_X4_sealed rfl rfl rfl (by decide +kernel) ⟨Nat.le_of_ble_eq_true rfl, Nat.le_of_ble_eq_true rfl⟩) (wX_c0 S) rfl rfl rfl hl rfl (Nat.le_of_ble_eq_true rfl) (by decide) dL_areSumsSo_251 (fun r14 S14 H locs hp14 hR => ?_)
                obtain ⟨hr14, hs14⟩ := hp14
                subst r14
                subst S14
                refine lv_if_lt (tgt := 261) hx hb dL_areSumsSo_254 (by decide) (fun h254_15 => ?_) (fun h254_15 => ?_)
                · skip
                  have q254 := h254_15
                  refine lv_iconst (v := (nI (0))) hx hb dL_areSumsSo_261 (by decide) ?_
                  refine lv_istore_n (lv' := [(3, .int (nI (0))), (2, .int (nI ((s_o S u) + (s_op S u)))), (0, .ref (ad 0)), (1, .int (nI (q_m (zn S 9) 32))), (4, .int (nI (u)))]) hx hb dL_areSumsSo_262 rfl hl (by decide) rfl (fun ls hl => ?_)
                  have hl : lv_has ls 8 [(3, .int (nI (0))), (2, .int (nI (s_o S (u + 1)))), (0, .ref (ad 0)), (1, .int (nI (q_m (zn S 9) 32))), (4, .int (nI (u)))] := hl
                  refine lv_iinc (v := (nI (u + 1))) (lv' := [(4, .int (nI (u + 1))), (3, .int (nI (0))), (2, .int (nI (s_o S (u + 1)))), (0, .ref (ad 0)), (1, .int (nI (q_m (zn S 9) 32)))]) hx hb dL_areSumsSo_263 hl (k := 4) rfl (z_inc _) (by decide) rfl (fun ls hl => ?_)
                  refine lv_goto (tgt := 226) hx hb dL_areSumsSo_266 (by decide) ?_
                  exact ih226 (u + 1) 0 (by omega) (by omega) (fun _ v hv => (Nat.lt_or_eq_of_le (Nat.le_of_lt_succ hv)).elim (fun h => hz q245 v h) (fun h => by rw [h]; exact q254)) (by omega) _ _ hR ls (lv_sub hl [3, 4, 2, 1, 0] rfl)
                · skip
                  refine lv_iconst (v := (nI (1))) hx hb dL_areSumsSo_257 (by decide) ?_
                  refine lv_goto (tgt := 262) hx hb dL_areSumsSo_258 (by decide) ?_
                  refine lv_istore_n (lv' := [(3, .int (nI (1))), (2, .int (nI ((s_o S u) + (s_op S u)))), (0, .ref (ad 0)), (1, .int (nI (q_m (zn S 9) 32))), (4, .int (nI (u)))]) hx hb dL_areSumsSo_262 rfl hl (by decide) rfl (fun ls hl => ?_)
                  have hl : lv_has ls 8 [(3, .int (nI (1))), (2, .int (nI (s_o S (u + 1)))), (0, .ref (ad 0)), (1, .int (nI (q_m (zn S 9) 32))), (4, .int (nI (u)))] := hl
                  refine lv_iinc (v := (nI (u + 1))) (lv' := [(4, .int (nI (u + 1))), (3, .int (nI (1))), (2, .int (nI (s_o S (u + 1)))), (0, .ref (ad 0)), (1, .int (nI (q_m (zn S 9) 32)))]) hx hb dL_areSumsSo_263 hl (k := 4) rfl (z_inc _) (by decide) rfl (fun ls hl => ?_)
                  refine lv_goto (tgt := 226) hx hb dL_areSumsSo_266 (by decide) ?_
                  exact ih226 (u + 1) 1 (by omega) (by omega) (fun h => absurd h (by decide)) (by omega) _ _ hR ls (lv_sub hl [3, 4, 2, 1, 0] rfl)
        exact loop226 _ 0 0 (Nat.zero_le _) (by omega) (fun _ v hv => absurd hv (Nat.not_lt_zero v)) (Nat.lt_succ_self _) _ _ hR ls (lv_sub hl [1, 2, 3, 4, 0] rfl)
      · skip
        have hk : key < 32 := by omega
        refine lv_iconst (v := (nI (0))) hx hb dL_areSumsSo_16 (by decide) ?_
        refine lv_istore (lv' := [(5, .int (nI (0))), (0, .ref (ad 0)), (1, .int (nI (q_m (zn S 9) key))), (2, .int (nI (0))), (3, .int (nI (0))), (4, .int (nI (key)))]) hx hb dL_areSumsSo_17 hl (by decide) rfl (fun ls hl => ?_)
        refine lv_iconst (v := (nI (0))) hx hb dL_areSumsSo_19 (by decide) ?_
        refine lv_istore (lv' := [(6, .int (nI (0))), (5, .int (nI (0))), (0, .ref (ad 0)), (1, .int (nI (q_m (zn S 9) key))), (2, .int (nI (0))), (3, .int (nI (0))), (4, .int (nI (key)))]) hx hb dL_areSumsSo_20 hl (by decide) rfl (fun ls hl => ?_)
        have loop22 : ∀ (nf22 : Nat) (p : Nat), (p ≤ 4) → 4 - p < nf22 → ∀ (H : Heap) (locs : List Loc), zR D B (wX cI cZ ad S) s H locs → ∀ ls : Array Slot, lv_has ls 8 [(0, .ref (ad 0)), (1, .int (nI (q_m (zn S 9) key))), (2, .int (nI (0))), (3, .int (nI (0))), (4, .int (nI (key))), (5, .int (nI (s_k S key p))), (6, .int (nI (p)))] → W pg l en ({ frames := 8, cells := 0, slots := 0, locals := 126 } : Room) s mm ([.ref (ad 0)] : List Value).toArray below meth cd H locs 0 0 (MQ below (va_Qi (fun (r : Int32) (S1 : zS) => r = (nI (1)) ∧ S1 = S) (zB D (zT cI cZ) (wX cI cZ ad)) (zA B s.heap.size)) ([.ref (ad 0)] : List Value).toArray s 0 0 (zA B s.heap.size)) (F0 mm 22 ls []) := by
          intro nf22
          induction nf22 with
          | zero => intro p hp4 hn; exact absurd hn (Nat.not_lt_zero _)
          | succ nf22 ih22 =>
            intro p hp4 hn H locs hR ls hl
            refine lv_iload hx hb dL_areSumsSo_22 (lv_at hl 6 rfl) ?_
            refine lv_iconst (v := (nI (4))) hx hb dL_areSumsSo_24 (by decide) ?_
            refine z_ge_n (tgt := 92) hx hb dL_areSumsSo_25 (by decide) (by omega) (by omega) (fun h25_16 => ?_) (fun h25_16 => ?_)
            · skip
              obtain ⟨c1, c2, c3, c4, c5, c6, c7, c8⟩ := vT_cmp hO hI.1 (hI.2.2.1 key hk)
              have hN : vN S key := (hI.2.2.1 key hk).1
              have ho8 := (hO.own key).2
              have ho9 := (hO.own (key % 8)).2
              have hl : lv_has ls 8 [(0, .ref (ad 0)), (1, .int (nI (q_m (zn S 9) key))), (2, .int (nI (0))), (3, .int (nI (0))), (4, .int (nI (key))), (5, .int (nI (s_k S key 4))), (6, .int (nI (p)))] := (by have e : p = 4 := (by omega); subst e; exact hl)
              refine lv_iload_n hx hb dL_areSumsSo_92 rfl (lv_at hl 1 rfl) ?_
              refine lv_aload_n hx hb dL_areSumsSo_93 rfl (lv_at hl 0 rfl) ?_
              refine lv_iload hx hb dL_areSumsSo_94 (lv_at hl 4 rfl) ?_
              refine z_callV_i (As := [.int (nI (key))]) (rest := [.int (nI (q_m (zn S 9) key))]) (w := wX cI cZ ad) ⟨hx, hb, hml, hown, hts⟩ hF hR (c_X4_count_ok hG S (key) hO (by omega)) (cwV 1 hts gL_areSumsSo_X4_count rfl rfl rfl (by decide +kernel) ⟨Nat.le_of_ble_eq_true rfl, Nat.le_of_ble_eq_true rfl⟩) (wX_c0 S) rfl rfl rfl hl rfl (Nat.le_of_ble_eq_true rfl) (by decide) dL_areSumsSo_96 (fun r17 S17 H locs hp17 hR => ?_)
              obtain ⟨hr17, hs17⟩ := hp17
              subst r17
              subst S17
              refine lv_topi (fun v18 ev18 => ?_)
              obtain rfl : v18 = (nI (zn S 9 key)) := ev18.trans (hN 9 (by decide) (by decide))
              refine z_iadd_n hx hb dL_areSumsSo_99 ?_
              refine lv_istore_n (lv' := [(1, .int (nI ((q_m (zn S 9) key) + (zn S 9 key)))), (0, .ref (ad 0)), (2, .int (nI (0))), (3, .int (nI (0))), (4, .int (nI (key))), (5, .int (nI (s_k S key 4))), (6, .int (nI (p)))]) hx hb dL_areSumsSo_100 rfl hl (by decide) rfl (fun ls hl => ?_)
              refine lv_aload_n hx hb dL_areSumsSo_101 rfl (lv_at hl 1 rfl) ?_
              refine lv_iload hx hb dL_areSumsSo_102 (lv_at hl 4 rfl) ?_
              refine z_callV_i (As := [.int (nI (key))]) (rest := []) (w := wX cI cZ ad) ⟨hx, hb, hml, hown, hts⟩ hF hR (c_X4_sum_ok hG S (key) hO (by omega)) (cwV 1 hts gL_areSumsSo_X4_sum rfl rfl rfl (by decide +kernel) ⟨Nat.le_of_ble_eq_true rfl, Nat.le_of_ble_eq_true rfl⟩) (wX_c0 S) rfl rfl rfl hl rfl (Nat.le_of_ble_eq_true rfl) (by decide) dL_areSumsSo_104 (fun r19 S19 H locs hp19 hR => ?_)
              obtain ⟨hr19, hs19⟩ := hp19
              subst r19
              subst S19
              refine lv_topi (fun v20 ev20 => ?_)
              obtain rfl : v20 = (nI (zn S 10 key)) := ev20.trans (hN 10 (by decide) (by decide))
              refine lv_aload_n hx hb dL_areSumsSo_107 rfl (lv_at hl 1 rfl) ?_
              refine lv_iload hx hb dL_areSumsSo_108 (lv_at hl 4 rfl) ?_
              refine z_callV_i (As := [.int (nI (key))]) (rest := [.int (nI (zn S 10 key))]) (w := wX cI cZ ad) ⟨hx, hb, hml, hown, hts⟩ hF hR (c_X4_sumInChannels_ok hG S (key) hO (by omega)) (cwV 1 hts gL_areSumsSo_X4_sumInChannels rfl rfl rfl (by decide +kernel) ⟨Nat.le_of_ble_eq_true rfl, Nat.le_of_ble_eq_true rfl⟩) (wX_c0 S) rfl rfl rfl hl rfl (Nat.le_of_ble_eq_true rfl) (by decide) dL_areSumsSo_110 (fun r21 S21 H locs hp21 hR => ?_)
              obtain ⟨hr21, hs21⟩ := hp21
              subst r21
              subst S21
              refine lv_topi (fun v22 ev22 => ?_)
              obtain rfl : v22 = (nI (q_t S key)) := ev22.trans (sc_q S key 16)
              refine z_iadd_n hx hb dL_areSumsSo_113 ?_
              refine lv_aload_n hx hb dL_areSumsSo_114 rfl (lv_at hl 1 rfl) ?_
              refine lv_iload hx hb dL_areSumsSo_115 (lv_at hl 4 rfl) ?_
              refine z_callV_i (As := [.int (nI (key))]) (rest := [.int (nI ((zn S 10 key) + (q_t S key)))]) (w := wX cI cZ ad) ⟨hx, hb, hml, hown, hts⟩ hF hR (c_X4_readSum_ok hG S (key) hO (by omega)) (cwV 1 hts gL_areSumsSo_X4_readSum rfl rfl rfl (by decide +kernel) ⟨Nat.le_of_ble_eq_true rfl, Nat.le_of_ble_eq_true rfl⟩) (wX_c0 S) rfl rfl rfl hl rfl (Nat.le_of_ble_eq_true rfl) (by decide) dL_areSumsSo_117 (fun r23 S23 H locs hp23 hR => ?_)
              obtain ⟨hr23, hs23⟩ := hp23
              subst r23
              subst S23
              refine lv_topi (fun v24 ev24 => ?_)
              obtain rfl : v24 = (nI (q_R S (zn S 2) key)) := ev24.trans (rs_q S key 4)
              refine z_ne_n (tgt := 215) hx hb dL_areSumsSo_120 (by decide) (by omega) (by omega) (fun h120_25 => absurd c1 h120_25) (fun h120_25 => ?_)
              refine lv_aload_n hx hb dL_areSumsSo_123 rfl (lv_at hl 1 rfl) ?_
              refine lv_iload hx hb dL_areSumsSo_124 (lv_at hl 4 rfl) ?_
              refine z_callV_i (As := [.int (nI (key))]) (rest := []) (w := wX cI cZ ad) ⟨hx, hb, hml, hown, hts⟩ hF hR (c_X4_keptSum_ok hG S (key) hO (by omega)) (cwV 1 hts gL_areSumsSo_X4_keptSum rfl rfl rfl (by decide +kernel) ⟨Nat.le_of_ble_eq_true rfl, Nat.le_of_ble_eq_true rfl⟩) (wX_c0 S) rfl rfl rfl hl rfl (Nat.le_of_ble_eq_true rfl) (by decide) dL_areSumsSo_126 (fun r26 S26 H locs hp26 hR => ?_)
              obtain ⟨hr26, hs26⟩ := hp26
              subst r26
              subst S26
              refine lv_topi (fun v27 ev27 => ?_)
              obtain rfl : v27 = (nI (zn S 18 key)) := ev27.trans (hN 18 (by decide) (by decide))
              refine lv_iload hx hb dL_areSumsSo_129 (lv_at hl 5 rfl) ?_
              refine z_ne_n (tgt := 215) hx hb dL_areSumsSo_131 (by decide) (by omega) (by omega) (fun h131_28 => absurd c2 h131_28) (fun h131_28 => ?_)
              refine lv_aload_n hx hb dL_areSumsSo_134 rfl (lv_at hl 1 rfl) ?_
              refine lv_iload hx hb dL_areSumsSo_135 (lv_at hl 4 rfl) ?_
              refine z_callV_i (As := [.int (nI (key))]) (rest := []) (w := wX cI cZ ad) ⟨hx, hb, hml, hown, hts⟩ hF hR (c_X4_committedSum_ok hG S (key) hO (by omega)) (cwV 1 hts gL_areSumsSo_X4_committedSum rfl rfl rfl (by decide +kernel) ⟨Nat.le_of_ble_eq_true rfl, Nat.le_of_ble_eq_true rfl⟩) (wX_c0 S) rfl rfl rfl hl rfl (Nat.le_of_ble_eq_true rfl) (by decide) dL_areSumsSo_137 (fun r29 S29 H locs hp29 hR => ?_)
              obtain ⟨hr29, hs29⟩ := hp29
              subst r29
              subst S29
              refine lv_topi (fun v30 ev30 => ?_)
              obtain rfl : v30 = (nI (zn S 20 key)) := ev30.trans (hN 20 (by decide) (by decide))
              refine lv_aload_n hx hb dL_areSumsSo_140 rfl (lv_at hl 1 rfl) ?_
              refine lv_iload hx hb dL_areSumsSo_141 (lv_at hl 4 rfl) ?_
              refine z_callV_i (As := [.int (nI (key))]) (rest := [.int (nI (zn S 20 key))]) (w := wX cI cZ ad) ⟨hx, hb, hml, hown, hts⟩ hF hR (c_X4_sum_ok hG S (key) hO (by omega)) (cwV 1 hts gL_areSumsSo_X4_sum rfl rfl rfl (by decide +kernel) ⟨Nat.le_of_ble_eq_true rfl, Nat.le_of_ble_eq_true rfl⟩) (wX_c0 S) rfl rfl rfl hl rfl (Nat.le_of_ble_eq_true rfl) (by decide) dL_areSumsSo_143 (fun r31 S31 H locs hp31 hR => ?_)
              obtain ⟨hr31, hs31⟩ := hp31
              subst r31
              subst S31
              refine lv_topi (fun v32 ev32 => ?_)
              obtain rfl : v32 = (nI (zn S 10 key)) := ev32.trans (hN 10 (by decide) (by decide))
              refine z_gt_n (tgt := 215) hx hb dL_areSumsSo_146 (by decide) (by omega) (by omega) (fun h146_33 => by omega) (fun h146_33 => ?_)
              refine lv_aload_n hx hb dL_areSumsSo_149 rfl (lv_at hl 1 rfl) ?_
              refine lv_iload hx hb dL_areSumsSo_150 (lv_at hl 4 rfl) ?_
              refine z_callV_i (As := [.int (nI (key))]) (rest := []) (w := wX cI cZ ad) ⟨hx, hb, hml, hown, hts⟩ hF hR (c_X4_committedCount_ok hG S (key) hO (by omega)) (cwV 1 hts gL_areSumsSo_X4_committedCount rfl rfl rfl (by decide +kernel) ⟨Nat.le_of_ble_eq_true rfl, Nat.le_of_ble_eq_true rfl⟩) (wX_c0 S) rfl rfl rfl hl rfl (Nat.le_of_ble_eq_true rfl) (by decide) dL_areSumsSo_152 (fun r34 S34 H locs hp34 hR => ?_)
              obtain ⟨hr34, hs34⟩ := hp34
              subst r34
              subst S34
              refine lv_topi (fun v35 ev35 => ?_)
              obtain rfl : v35 = (nI (zn S 19 key)) := ev35.trans (hN 19 (by decide) (by decide))
              refine lv_aload_n hx hb dL_areSumsSo_155 rfl (lv_at hl 1 rfl) ?_
              refine lv_iload hx hb dL_areSumsSo_156 (lv_at hl 4 rfl) ?_
              refine z_callV_i (As := [.int (nI (key))]) (rest := [.int (nI (zn S 19 key))]) (w := wX cI cZ ad) ⟨hx, hb, hml, hown, hts⟩ hF hR (c_X4_count_ok hG S (key) hO (by omega)) (cwV 1 hts gL_areSumsSo_X4_count rfl rfl rfl (by decide +kernel) ⟨Nat.le_of_ble_eq_true rfl, Nat.le_of_ble_eq_true rfl⟩) (wX_c0 S) rfl rfl rfl hl rfl (Nat.le_of_ble_eq_true rfl) (by decide) dL_areSumsSo_158 (fun r36 S36 H locs hp36 hR => ?_)
              obtain ⟨hr36, hs36⟩ := hp36
              subst r36
              subst S36
              refine lv_topi (fun v37 ev37 => ?_)
              obtain rfl : v37 = (nI (zn S 9 key)) := ev37.trans (hN 9 (by decide) (by decide))
              refine z_gt_n (tgt := 215) hx hb dL_areSumsSo_161 (by decide) (by omega) (by omega) (fun h161_38 => by omega) (fun h161_38 => ?_)
              refine lv_aload_n hx hb dL_areSumsSo_164 rfl (lv_at hl 1 rfl) ?_
              refine lv_iload hx hb dL_areSumsSo_165 (lv_at hl 4 rfl) ?_
              refine z_callV_i (As := [.int (nI (key))]) (rest := []) (w := wX cI cZ ad) ⟨hx, hb, hml, hown, hts⟩ hF hR (c_X4_sum_ok hG S (key) hO (by omega)) (cwV 1 hts gL_areSumsSo_X4_sum rfl rfl rfl (by decide +kernel) ⟨Nat.le_of_ble_eq_true rfl, Nat.le_of_ble_eq_true rfl⟩) (wX_c0 S) rfl rfl rfl hl rfl (Nat.le_of_ble_eq_true rfl) (by decide) dL_areSumsSo_167 (fun r39 S39 H locs hp39 hR => ?_)
              obtain ⟨hr39, hs39⟩ := hp39
              subst r39
              subst S39
              refine lv_topi (fun v40 ev40 => ?_)
              obtain rfl : v40 = (nI (zn S 10 key)) := ev40.trans (hN 10 (by decide) (by decide))
              refine lv_aload_n hx hb dL_areSumsSo_170 rfl (lv_at hl 1 rfl) ?_
              refine lv_iload hx hb dL_areSumsSo_171 (lv_at hl 4 rfl) ?_
              refine z_callV_i (As := [.int (nI (key))]) (rest := [.int (nI (zn S 10 key))]) (w := wX cI cZ ad) ⟨hx, hb, hml, hown, hts⟩ hF hR (c_X4_count_ok hG S (key) hO (by omega)) (cwV 1 hts gL_areSumsSo_X4_count rfl rfl rfl (by decide +kernel) ⟨Nat.le_of_ble_eq_true rfl, Nat.le_of_ble_eq_true rfl⟩) (wX_c0 S) rfl rfl rfl hl rfl (Nat.le_of_ble_eq_true rfl) (by decide) dL_areSumsSo_173 (fun r41 S41 H locs hp41 hR => ?_)
              obtain ⟨hr41, hs41⟩ := hp41
              subst r41
              subst S41
              refine lv_topi (fun v42 ev42 => ?_)
              obtain rfl : v42 = (nI (zn S 9 key)) := ev42.trans (hN 9 (by decide) (by decide))
              refine z_lt_n (tgt := 215) hx hb dL_areSumsSo_176 (by decide) (by omega) (by omega) (fun h176_43 => by omega) (fun h176_43 => ?_)
              refine lv_aload_n hx hb dL_areSumsSo_179 rfl (lv_at hl 1 rfl) ?_
              refine lv_iload hx hb dL_areSumsSo_180 (lv_at hl 4 rfl) ?_
              refine z_callV_i (As := [.int (nI (key))]) (rest := []) (w := wX cI cZ ad) ⟨hx, hb, hml, hown, hts⟩ hF hR (c_X4_sum_ok hG S (key) hO (by omega)) (cwV 1 hts gL_areSumsSo_X4_sum rfl rfl rfl (by decide +kernel) ⟨Nat.le_of_ble_eq_true rfl, Nat.le_of_ble_eq_true rfl⟩) (wX_c0 S) rfl rfl rfl hl rfl (Nat.le_of_ble_eq_true rfl) (by decide) dL_areSumsSo_182 (fun r44 S44 H locs hp44 hR => ?_)
              obtain ⟨hr44, hs44⟩ := hp44
              subst r44
              subst S44
              refine lv_topi (fun v45 ev45 => ?_)
              obtain rfl : v45 = (nI (zn S 10 key)) := ev45.trans (hN 10 (by decide) (by decide))
              refine lv_bipush (v := (nI (100))) hx hb dL_areSumsSo_185 (by decide) ?_
              refine lv_aload_n hx hb dL_areSumsSo_187 rfl (lv_at hl 1 rfl) ?_
              refine lv_iload hx hb dL_areSumsSo_188 (lv_at hl 4 rfl) ?_
              refine z_callV_i (As := [.int (nI (key))]) (rest := [.int (nI (100)), .int (nI (zn S 10 key))]) (w := wX cI cZ ad) ⟨hx, hb, hml, hown, hts⟩ hF hR (c_X4_count_ok hG S (key) hO (by omega)) (cwV 1 hts gL_areSumsSo_X4_count rfl rfl rfl (by decide +kernel) ⟨Nat.le_of_ble_eq_true rfl, Nat.le_of_ble_eq_true rfl⟩) (wX_c0 S) rfl rfl rfl hl rfl (Nat.le_of_ble_eq_true rfl) (by decide) dL_areSumsSo_190 (fun r46 S46 H locs hp46 hR => ?_)
              obtain ⟨hr46, hs46⟩ := hp46
              subst r46
              subst S46
              refine lv_topi (fun v47 ev47 => ?_)
              obtain rfl : v47 = (nI (zn S 9 key)) := ev47.trans (hN 9 (by decide) (by decide))
              refine z_imul_n hx hb dL_areSumsSo_193 ?_
              refine z_gt_n (tgt := 215) hx hb dL_areSumsSo_194 (by decide) (by omega) (by omega) (fun h194_48 => by omega) (fun h194_48 => ?_)
              refine lv_aload_n hx hb dL_areSumsSo_197 rfl (lv_at hl 1 rfl) ?_
              refine lv_iload hx hb dL_areSumsSo_198 (lv_at hl 4 rfl) ?_
              refine z_callV_i (As := [.int (nI (key))]) (rest := []) (w := wX cI cZ ad) ⟨hx, hb, hml, hown, hts⟩ hF hR (c_X4_workerOf_ok hG S (key) hO (by omega)) (cwV 1 hts gL_areSumsSo_X4_workerOf rfl rfl rfl (by decide +kernel) ⟨Nat.le_of_ble_eq_true rfl, Nat.le_of_ble_eq_true rfl⟩) (wX_c0 S) rfl rfl rfl hl rfl (Nat.le_of_ble_eq_true rfl) (by decide) dL_areSumsSo_200 (fun r49 S49 H locs hp49 hR => ?_)
              obtain ⟨hr49, hs49⟩ := hp49
              subst r49
              subst S49
              refine lv_aload_n hx hb dL_areSumsSo_203 rfl (lv_at hl 1 rfl) ?_
              refine lv_iload hx hb dL_areSumsSo_204 (lv_at hl 4 rfl) ?_
              refine lv_bipush (v := (nI (8))) hx hb dL_areSumsSo_206 (by decide) ?_
              refine z_irem_n hx hb dL_areSumsSo_208 (by omega) (by omega) (by omega) ?_
              refine z_callV_i (As := [.int (nI (key % 8))]) (rest := [.int (nI (zown (zn S 22 0) key))]) (w := wX cI cZ ad) ⟨hx, hb, hml, hown, hts⟩ hF hR (c_X4_workerOf_ok hG S (key % 8) hO (by omega)) (cwV 1 hts gL_areSumsSo_X4_workerOf rfl rfl rfl (by decide +kernel) ⟨Nat.le_of_ble_eq_true rfl, Nat.le_of_ble_eq_true rfl⟩) (wX_c0 S) rfl rfl rfl hl rfl (Nat.le_of_ble_eq_true rfl) (by decide) dL_areSumsSo_209 (fun r50 S50 H locs hp50 hR => ?_)
              obtain ⟨hr50, hs50⟩ := hp50
              subst r50
              subst S50
              refine z_eq_n (tgt := 217) hx hb dL_areSumsSo_212 (by decide) (by omega) (by omega) (fun h212_51 => ?_) (fun h212_51 => absurd (zown_mod (zn S 22 0) key) h212_51)
              have hl : lv_has ls 8 [(1, .int (nI (q_m (zn S 9) (key + 1)))), (0, .ref (ad 0)), (2, .int (nI (0))), (3, .int (nI (0))), (4, .int (nI (key))), (5, .int (nI (s_k S key 4))), (6, .int (nI (p)))] := hl
              refine lv_iinc (v := (nI (key + 1))) (lv' := [(4, .int (nI (key + 1))), (1, .int (nI (q_m (zn S 9) (key + 1)))), (0, .ref (ad 0)), (2, .int (nI (0))), (3, .int (nI (0))), (5, .int (nI (s_k S key 4))), (6, .int (nI (p)))]) hx hb dL_areSumsSo_217 hl (k := 4) rfl (z_inc _) (by decide) rfl (fun ls hl => ?_)
              refine lv_goto (tgt := 9) hx hb dL_areSumsSo_220 (by decide) ?_
              exact ih9 (key + 1) (by omega) (by omega) _ _ hR ls (lv_sub hl [2, 1, 3, 4, 0] rfl)
            · skip
              refine lv_iconst (v := (nI (0))) hx hb dL_areSumsSo_28 (by decide) ?_
              refine lv_istore (lv' := [(7, .int (nI (0))), (0, .ref (ad 0)), (1, .int (nI (q_m (zn S 9) key))), (2, .int (nI (0))), (3, .int (nI (0))), (4, .int (nI (key))), (5, .int (nI (s_k S key p))), (6, .int (nI (p)))]) hx hb dL_areSumsSo_29 hl (by decide) rfl (fun ls hl => ?_)
              have loop31 : ∀ (nf31 : Nat) (o : Nat), (o ≤ zn S 3 p) → zn S 3 p - o < nf31 → ∀ (H : Heap) (locs : List Loc), zR D B (wX cI cZ ad S) s H locs → ∀ ls : Array Slot, lv_has ls 8 [(0, .ref (ad 0)), (1, .int (nI (q_m (zn S 9) key))), (2, .int (nI (0))), (3, .int (nI (0))), (4, .int (nI (key))), (5, .int (nI (s_k S key p + q_s (S 1) key (60 * p) o))), (6, .int (nI (p))), (7, .int (nI (o)))] → W pg l en ({ frames := 8, cells := 0, slots := 0, locals := 126 } : Room) s mm ([.ref (ad 0)] : List Value).toArray below meth cd H locs 0 0 (MQ below (va_Qi (fun (r : Int32) (S1 : zS) => r = (nI (1)) ∧ S1 = S) (zB D (zT cI cZ) (wX cI cZ ad)) (zA B s.heap.size)) ([.ref (ad 0)] : List Value).toArray s 0 0 (zA B s.heap.size)) (F0 mm 31 ls []) := by
                intro nf31
                induction nf31 with
                | zero => intro o ho3 hn; exact absurd hn (Nat.not_lt_zero _)
                | succ nf31 ih31 =>
                  intro o ho3 hn H locs hR ls hl
                  refine lv_iload hx hb dL_areSumsSo_31 (lv_at hl 7 rfl) ?_
                  refine lv_aload_n hx hb dL_areSumsSo_33 rfl (lv_at hl 0 rfl) ?_
                  refine lv_iload hx hb dL_areSumsSo_34 (lv_at hl 6 rfl) ?_
                  have hE3 := (hI.1 p (by omega)).2.1
                  have hb3 := (zOK.n3 hO p).2
                  refine z_callV_i (As := [.int (nI (p))]) (rest := [.int (nI (o))]) (w := wX cI cZ ad) ⟨hx, hb, hml, hown, hts⟩ hF hR (c_X4_keptOffset_ok hG S (p) hO (by omega)) (cwV 1 hts gL_areSumsSo_X4_keptOffset rfl rfl rfl (by decide +kernel) ⟨Nat.le_of_ble_eq_true rfl, Nat.le_of_ble_eq_true rfl⟩) (wX_c0 S) rfl rfl rfl hl rfl (Nat.le_of_ble_eq_true rfl) (by decide) dL_areSumsSo_36 (fun r52 S52 H locs hp52 hR => ?_)
                  obtain ⟨hr52, hs52⟩ := hp52
                  subst r52
                  subst S52
                  refine z_ge_n (tgt := 86) hx hb dL_areSumsSo_39 (by decide) (by omega) (by omega) (fun h39_53 => ?_) (fun h39_53 => ?_)
                  · skip
                    have hl : lv_has ls 8 [(0, .ref (ad 0)), (1, .int (nI (q_m (zn S 9) key))), (2, .int (nI (0))), (3, .int (nI (0))), (4, .int (nI (key))), (5, .int (nI (s_k S key (p + 1)))), (6, .int (nI (p))), (7, .int (nI (o)))] := (by rw [s_k_s, show zn S 3 p = o from by omega]; exact hl)
                    refine lv_iinc (v := (nI (p + 1))) (lv' := [(6, .int (nI (p + 1))), (0, .ref (ad 0)), (1, .int (nI (q_m (zn S 9) key))), (2, .int (nI (0))), (3, .int (nI (0))), (4, .int (nI (key))), (5, .int (nI (s_k S key (p + 1)))), (7, .int (nI (o)))]) hx hb dL_areSumsSo_86 hl (k := 6) rfl (z_inc _) (by decide) rfl (fun ls hl => ?_)
                    refine lv_goto (tgt := 22) hx hb dL_areSumsSo_89 (by decide) ?_
                    exact ih22 (p + 1) (by omega) (by omega) _ _ hR ls (lv_sub hl [1, 2, 3, 4, 5, 6, 0] rfl)
                  · skip
                    refine lv_iload hx hb dL_areSumsSo_42 (lv_at hl 5 rfl) ?_
                    refine lv_aload_n hx hb dL_areSumsSo_44 rfl (lv_at hl 0 rfl) ?_
                    refine lv_iload hx hb dL_areSumsSo_45 (lv_at hl 6 rfl) ?_
                    refine lv_iload hx hb dL_areSumsSo_47 (lv_at hl 7 rfl) ?_
                    refine z_callV_i (As := [.int (nI (p)), .int (nI (o))]) (rest := [.int (nI (s_k S key p + q_s (S 1) key (60 * p) o))]) (w := wX cI cZ ad) ⟨hx, hb, hml, hown, hts⟩ hF hR (c_X4_eventAt_ok hG S (p) (o) hO (by omega) (by omega)) (cwV 2 hts gL_areSumsSo_X4_eventAt rfl rfl rfl (by decide +kernel) ⟨Nat.le_of_ble_eq_true rfl, Nat.le_of_ble_eq_true rfl⟩) (wX_c0 S) rfl rfl rfl hl rfl (Nat.le_of_ble_eq_true rfl) (by decide) dL_areSumsSo_49 (fun r54 S54 H locs hp54 hR => ?_)
                    obtain ⟨hr54, hs54⟩ := hp54
                    subst r54
                    subst S54
                    have hb49 := (zOK.n1 hO (60 * p + o)).2
                    refine lv_sipush (v := (nI (1000))) hx hb dL_areSumsSo_52 (by decide) ?_
                    refine z_idiv_n hx hb dL_areSumsSo_55 (by omega) (by omega) (by omega) ?_
                    refine lv_iload hx hb dL_areSumsSo_56 (lv_at hl 4 rfl) ?_
                    refine z_ne_n (tgt := 76) hx hb dL_areSumsSo_58 (by decide) (by omega) (by omega) (fun h58_55 => ?_) (fun h58_55 => ?_)
                    · skip
                      have q58 : q_e (zn S 1 (60 * p + o)) key = 0 := if_neg h58_55
                      refine lv_iconst (v := (nI (0))) hx hb dL_areSumsSo_76 (by decide) ?_
                      refine z_iadd_n hx hb dL_areSumsSo_77 ?_
                      refine lv_istore (lv' := [(5, .int (nI ((s_k S key p + q_s (S 1) key (60 * p) o) + 0))), (0, .ref (ad 0)), (1, .int (nI (q_m (zn S 9) key))), (2, .int (nI (0))), (3, .int (nI (0))), (4, .int (nI (key))), (6, .int (nI (p))), (7, .int (nI (o)))]) hx hb dL_areSumsSo_78 hl (by decide) rfl (fun ls hl => ?_)
                      have hl : lv_has ls 8 [(5, .int (nI (s_k S key p + q_s (S 1) key (60 * p) (o + 1)))), (0, .ref (ad 0)), (1, .int (nI (q_m (zn S 9) key))), (2, .int (nI (0))), (3, .int (nI (0))), (4, .int (nI (key))), (6, .int (nI (p))), (7, .int (nI (o)))] := (by rw [q_s_s, show (S 1 (60 * p + o)).toNatClampNeg = zn S 1 (60 * p + o) from rfl, q58, ← Nat.add_assoc]; exact hl)
                      refine lv_iinc (v := (nI (o + 1))) (lv' := [(7, .int (nI (o + 1))), (5, .int (nI (s_k S key p + q_s (S 1) key (60 * p) (o + 1)))), (0, .ref (ad 0)), (1, .int (nI (q_m (zn S 9) key))), (2, .int (nI (0))), (3, .int (nI (0))), (4, .int (nI (key))), (6, .int (nI (p)))]) hx hb dL_areSumsSo_80 hl (k := 7) rfl (z_inc _) (by decide) rfl (fun ls hl => ?_)
                      refine lv_goto (tgt := 31) hx hb dL_areSumsSo_83 (by decide) ?_
                      exact ih31 (o + 1) (by omega) (by omega) _ _ hR ls (lv_sub hl [2, 3, 4, 5, 6, 1, 7, 0] rfl)
                    · skip
                      have q58 : q_e (zn S 1 (60 * p + o)) key = zn S 1 (60 * p + o) % 1000 := if_pos h58_55
                      refine lv_aload_n hx hb dL_areSumsSo_61 rfl (lv_at hl 0 rfl) ?_
                      refine lv_iload hx hb dL_areSumsSo_62 (lv_at hl 6 rfl) ?_
                      refine lv_iload hx hb dL_areSumsSo_64 (lv_at hl 7 rfl) ?_
                      refine z_callV_i (As := [.int (nI (p)), .int (nI (o))]) (rest := [.int (nI (s_k S key p + q_s (S 1) key (60 * p) o))]) (w := wX cI cZ ad) ⟨hx, hb, hml, hown, hts⟩ hF hR (c_X4_eventAt_ok hG S (p) (o) hO (by omega) (by omega)) (cwV 2 hts gL_areSumsSo_X4_eventAt rfl rfl rfl (by decide +kernel) ⟨Nat.le_of_ble_eq_true rfl, Nat.le_of_ble_eq_true rfl⟩) (wX_c0 S) rfl rfl rfl hl rfl (Nat.le_of_ble_eq_true rfl) (by decide) dL_areSumsSo_66 (fun r56 S56 H locs hp56 hR => ?_)
                      obtain ⟨hr56, hs56⟩ := hp56
                      subst r56
                      subst S56
                      refine lv_sipush (v := (nI (1000))) hx hb dL_areSumsSo_69 (by decide) ?_
                      refine z_irem_n hx hb dL_areSumsSo_72 (by omega) (by omega) (by omega) ?_
                      refine lv_goto (tgt := 77) hx hb dL_areSumsSo_73 (by decide) ?_
                      refine z_iadd_n hx hb dL_areSumsSo_77 ?_
                      refine lv_istore (lv' := [(5, .int (nI ((s_k S key p + q_s (S 1) key (60 * p) o) + ((zn S 1 (60 * p + o)) % 1000)))), (0, .ref (ad 0)), (1, .int (nI (q_m (zn S 9) key))), (2, .int (nI (0))), (3, .int (nI (0))), (4, .int (nI (key))), (6, .int (nI (p))), (7, .int (nI (o)))]) hx hb dL_areSumsSo_78 hl (by decide) rfl (fun ls hl => ?_)
                      have hl : lv_has ls 8 [(5, .int (nI (s_k S key p + q_s (S 1) key (60 * p) (o + 1)))), (0, .ref (ad 0)), (1, .int (nI (q_m (zn S 9) key))), (2, .int (nI (0))), (3, .int (nI (0))), (4, .int (nI (key))), (6, .int (nI (p))), (7, .int (nI (o)))] := (by rw [q_s_s, show (S 1 (60 * p + o)).toNatClampNeg = zn S 1 (60 * p + o) from rfl, q58, ← Nat.add_assoc]; exact hl)
                      refine lv_iinc (v := (nI (o + 1))) (lv' := [(7, .int (nI (o + 1))), (5, .int (nI (s_k S key p + q_s (S 1) key (60 * p) (o + 1)))), (0, .ref (ad 0)), (1, .int (nI (q_m (zn S 9) key))), (2, .int (nI (0))), (3, .int (nI (0))), (4, .int (nI (key))), (6, .int (nI (p)))]) hx hb dL_areSumsSo_80 hl (k := 7) rfl (z_inc _) (by decide) rfl (fun ls hl => ?_)
                      refine lv_goto (tgt := 31) hx hb dL_areSumsSo_83 (by decide) ?_
                      exact ih31 (o + 1) (by omega) (by omega) _ _ hR ls (lv_sub hl [2, 3, 4, 5, 6, 1, 7, 0] rfl)
              exact loop31 _ 0 (Nat.zero_le _) (Nat.lt_succ_self _) _ _ hR ls (lv_sub hl [1, 2, 3, 4, 5, 6, 7, 0] rfl)
        exact loop22 _ 0 (by omega) (Nat.lt_succ_self _) _ _ hR ls (lv_sub hl [2, 3, 4, 5, 6, 1, 0] rfl)
  exact loop9 _ 0 (by omega) (Nat.lt_succ_self _) _ _ hR ls (lv_sub hl [4, 3, 2, 1, 0] rfl)
