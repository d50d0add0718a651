/-! the check of channels -/
set_option maxHeartbeats 4000000 in
set_option maxRecDepth 100000 in
theorem c_L_areChannelsSo {l : Launch} {D : va_G} {cI cZ : ClassId} {ad : Nat → Nat} {B : Nat → Prop} (hG : ∀ S : zS, va_D B (wX cI cZ ad S)) (hfl : l.stackTraces = false) (S : zS) (k : Nat) (hk0 : k ≤ 900) (J : vJ k S) : zMC 0 0 l yL_areChannelsSo wsL_areChannelsSo ({ frames := 8, cells := 0, slots := 0, locals := 127 } : Room) [.ref (ad 0)] D (zT cI cZ) B (wX cI cZ ad) S (fun (r : Int32) (S1 : zS) => r = (nI (1)) ∧ S1 = S) := by
  refine zMC_ofP (cc := cL_areChannelsSo) (maxL := 9) (ret := (some .boolean)) (by decide) rfl (Nat.le_of_ble_eq_true rfl) ?_
  intro pg en s mm below meth cd hx hb hr hml hown hts hlk hF hR ls hl
  have hl : lv_has ls 9 [(0, .ref (ad 0))] := hl
  have hO := vJ_ok J
  have hI := J.2.1
  have hW := (zOK.w hO).2
  have hDz : zDeep k S ∧ ∀ key, key < 32 → S 21 (zown (zn S 22 0) key) = (-1) → S 13 key = nI 0 ∧ S 14 key = nI 0 := by
    obtain ⟨⟨M, I⟩, -⟩ := J
    exact ⟨I.2.2.2, vJ.z13 I⟩
  obtain ⟨hD, hz0⟩ := hDz
  have hA := J.2.2
  have hk1 : k ≤ 2000 := by omega
  refine lv_iconst (v := (nI (0))) hx hb dL_areChannelsSo_0 (by decide) ?_
  refine lv_istore_n (lv' := [(1, .int (nI (0))), (0, .ref (ad 0))]) hx hb dL_areChannelsSo_1 rfl hl (by decide) rfl (fun ls hl => ?_)
  refine lv_iconst (v := (nI (0))) hx hb dL_areChannelsSo_2 (by decide) ?_
  refine lv_istore_n (lv' := [(2, .int (nI (0))), (1, .int (nI (0))), (0, .ref (ad 0))]) hx hb dL_areChannelsSo_3 rfl hl (by decide) rfl (fun ls hl => ?_)
  have loop4 : ∀ (nf4 : Nat) (w : Nat), (w ≤ zn S 22 0) → zn S 22 0 - w < nf4 → ∀ (H : Heap) (locs : List Loc), zR D B (wX cI cZ ad S) s H locs → ∀ ls : Array Slot, lv_has ls 9 [(0, .ref (ad 0)), (1, .int (nI (s_g (zn S 22 0) w))), (2, .int (nI (w)))] → W pg l en ({ frames := 8, cells := 0, slots := 0, locals := 127 } : Room) s mm ([.ref (ad 0)] : List Value).toArray below meth cd H locs 0 0 (MQ below (va_Qi (fun (r : Int32) (S1 : zS) => r = (nI (1)) ∧ S1 = S) (zB D (zT cI cZ) (wX cI cZ ad)) (zA B s.heap.size)) ([.ref (ad 0)] : List Value).toArray s 0 0 (zA B s.heap.size)) (F0 mm 4 ls []) := by
    intro nf4
    induction nf4 with
    | zero => intro w hwW hn; exact absurd hn (Nat.not_lt_zero _)
    | succ nf4 ih4 =>
      intro w hwW hn H locs hR ls hl
      refine lv_iload_n hx hb dL_areChannelsSo_4 rfl (lv_at hl 2 rfl) ?_
      refine lv_aload_n hx hb dL_areChannelsSo_5 rfl (lv_at hl 0 rfl) ?_
      refine z_callV_i (As := []) (rest := [.int (nI (w))]) (w := wX cI cZ ad) ⟨hx, hb, hml, hown, hts⟩ hF hR (c_X4_workers hG S hO) (cwV 0 hts gL_areChannelsSo_X4_workers rfl rfl rfl (by decide +kernel) ⟨Nat.le_of_ble_eq_true rfl, Nat.le_of_ble_eq_true rfl⟩) (wX_c0 S) rfl rfl rfl hl rfl (Nat.le_of_ble_eq_true rfl) (by decide) dL_areChannelsSo_6 (fun r1 S1 H locs hp1 hR => ?_)
      obtain ⟨hr1, hs1⟩ := hp1
      subst r1
      subst S1
      refine z_ge_n (tgt := 343) hx hb dL_areChannelsSo_9 (by decide) (by omega) (by omega) (fun h9_2 => ?_) (fun h9_2 => ?_)
      · skip
        have ew : w = zn S 22 0 := by omega
        have hl : lv_has ls 9 [(0, .ref (ad 0)), (1, .int (nI (8))), (2, .int (nI (w)))] := (by have e8 : s_g (zn S 22 0) w = 8 := (by rw [ew]; exact s_g_8 hW.1 hW.2); rw [e8] at hl; exact hl)
        refine lv_iload_n hx hb dL_areChannelsSo_343 rfl (lv_at hl 1 rfl) ?_
        refine lv_bipush (v := (nI (8))) hx hb dL_areChannelsSo_344 (by decide) ?_
        refine z_ne_n (tgt := 377) hx hb dL_areChannelsSo_346 (by decide) (by omega) (by omega) (fun h346_3 => by omega) (fun h346_3 => ?_)
        refine lv_aload_n hx hb dL_areChannelsSo_349 rfl (lv_at hl 0 rfl) ?_
        refine z_callV_i (As := []) (rest := []) (w := wX cI cZ ad) ⟨hx, hb, hml, hown, hts⟩ hF hR (c_X4_complete hG S hO) (cwV 0 hts gL_areChannelsSo_X4_complete rfl rfl rfl (by decide +kernel) ⟨Nat.le_of_ble_eq_true rfl, Nat.le_of_ble_eq_true rfl⟩) (wX_c0 S) rfl rfl rfl hl rfl (Nat.le_of_ble_eq_true rfl) (by decide) dL_areChannelsSo_350 (fun r4 S4 H locs hp4 hR => ?_)
        obtain ⟨hr4, hs4⟩ := hp4
        subst r4
        subst S4
        refine lv_aload_n hx hb dL_areChannelsSo_353 rfl (lv_at hl 0 rfl) ?_
        refine z_callV_i (As := []) (rest := [.int (S 22 3)]) (w := wX cI cZ ad) ⟨hx, hb, hml, hown, hts⟩ hF hR (c_X4_underWay hG S hO) (cwV 0 hts gL_areChannelsSo_X4_underWay rfl rfl rfl (by decide +kernel) ⟨Nat.le_of_ble_eq_true rfl, Nat.le_of_ble_eq_true rfl⟩) (wX_c0 S) rfl rfl rfl hl rfl (Nat.le_of_ble_eq_true rfl) (by decide) dL_areChannelsSo_354 (fun r5 S5 H locs hp5 hR => ?_)
        obtain ⟨hr5, hs5⟩ := hp5
        subst r5
        subst S5
        refine lv_if_ge (tgt := 366) hx hb dL_areChannelsSo_357 (by decide) (fun h357_6 => ?_) (fun h357_6 => ?_)
        · skip
          have q357 := h357_6
          refine lv_aload_n hx hb dL_areChannelsSo_366 rfl (lv_at hl 0 rfl) ?_
          refine z_callV_i (As := []) (rest := [.int (S 22 3)]) (w := wX cI cZ ad) ⟨hx, hb, hml, hown, hts⟩ hF hR (c_X4_underWay hG S hO) (cwV 0 hts gL_areChannelsSo_X4_underWay rfl rfl rfl (by decide +kernel) ⟨Nat.le_of_ble_eq_true rfl, Nat.le_of_ble_eq_true rfl⟩) (wX_c0 S) rfl rfl rfl hl rfl (Nat.le_of_ble_eq_true rfl) (by decide) dL_areChannelsSo_367 (fun r7 S7 H locs hp7 hR => ?_)
          obtain ⟨hr7, hs7⟩ := hp7
          subst r7
          subst S7
          refine lv_icmp_ge (tgt := 377) hx hb dL_areChannelsSo_370 (by decide) (fun h370_8 => absurd h370_8 (Int32.not_le.mpr (vD_lt hD hk0 q357))) (fun h370_8 => ?_)
          refine lv_iconst (v := (nI (1))) hx hb dL_areChannelsSo_373 (by decide) ?_
          refine lv_goto (tgt := 378) hx hb dL_areChannelsSo_374 (by decide) ?_
          exact z_zret (w := wX cI cZ ad) (S1 := S) hx hb hr hlk hF hR dL_areChannelsSo_378 (by decide) (⟨rfl, rfl⟩)
        · skip
          refine lv_sipush (v := (nI (1000))) hx hb dL_areChannelsSo_360 (by decide) ?_
          refine lv_goto (tgt := 370) hx hb dL_areChannelsSo_363 (by decide) ?_
          refine lv_icmp_ge (tgt := 377) hx hb dL_areChannelsSo_370 (by decide) (fun h370_9 => absurd h370_9 (Int32.not_le.mpr (vD_lt2 hD hk0))) (fun h370_9 => ?_)
          refine lv_iconst (v := (nI (1))) hx hb dL_areChannelsSo_373 (by decide) ?_
          refine lv_goto (tgt := 378) hx hb dL_areChannelsSo_374 (by decide) ?_
          exact z_zret (w := wX cI cZ ad) (S1 := S) hx hb hr hlk hF hR dL_areChannelsSo_378 (by decide) (⟨rfl, rfl⟩)
      · skip
        have hw : w < zn S 22 0 := by omega
        refine lv_iconst (v := (nI (0))) hx hb dL_areChannelsSo_12 (by decide) ?_
        refine lv_istore_n (lv' := [(3, .int (nI (0))), (0, .ref (ad 0)), (1, .int (nI (s_g (zn S 22 0) w))), (2, .int (nI (w)))]) hx hb dL_areChannelsSo_13 rfl hl (by decide) rfl (fun ls hl => ?_)
        refine lv_iconst (v := (nI (0))) hx hb dL_areChannelsSo_14 (by decide) ?_
        refine lv_istore (lv' := [(4, .int (nI (0))), (3, .int (nI (0))), (0, .ref (ad 0)), (1, .int (nI (s_g (zn S 22 0) w))), (2, .int (nI (w)))]) hx hb dL_areChannelsSo_15 hl (by decide) rfl (fun ls hl => ?_)
        have loop17 : ∀ (nf17 : Nat) (p : Nat), (p ≤ 4) → 4 - p < nf17 → ∀ (H : Heap) (locs : List Loc), zR D B (wX cI cZ ad S) s H locs → ∀ ls : Array Slot, lv_has ls 9 [(0, .ref (ad 0)), (1, .int (nI (s_g (zn S 22 0) w))), (2, .int (nI (w))), (3, .int (nI (s_b S w p))), (4, .int (nI (p)))] → W pg l en ({ frames := 8, cells := 0, slots := 0, locals := 127 } : Room) s mm ([.ref (ad 0)] : List Value).toArray below meth cd H locs 0 0 (MQ below (va_Qi (fun (r : Int32) (S1 : zS) => r = (nI (1)) ∧ S1 = S) (zB D (zT cI cZ) (wX cI cZ ad)) (zA B s.heap.size)) ([.ref (ad 0)] : List Value).toArray s 0 0 (zA B s.heap.size)) (F0 mm 17 ls []) := by
          intro nf17
          induction nf17 with
          | zero => intro p hp4 hn; exact absurd hn (Nat.not_lt_zero _)
          | succ nf17 ih17 =>
            intro p hp4 hn H locs hR ls hl
            refine lv_iload hx hb dL_areChannelsSo_17 (lv_at hl 4 rfl) ?_
            refine lv_iconst (v := (nI (4))) hx hb dL_areChannelsSo_19 (by decide) ?_
            refine z_ge_n (tgt := 261) hx hb dL_areChannelsSo_20 (by decide) (by omega) (by omega) (fun h20_10 => ?_) (fun h20_10 => ?_)
            · skip
              have ep : p = 4 := by omega
              have hl : lv_has ls 9 [(0, .ref (ad 0)), (1, .int (nI (s_g (zn S 22 0) w))), (2, .int (nI (w))), (3, .int (nI (s_b S w 4))), (4, .int (nI (p)))] := (by subst ep; exact hl)
              refine lv_iload_n hx hb dL_areChannelsSo_261 rfl (lv_at hl 1 rfl) ?_
              refine lv_aload_n hx hb dL_areChannelsSo_262 rfl (lv_at hl 0 rfl) ?_
              refine lv_iload_n hx hb dL_areChannelsSo_263 rfl (lv_at hl 2 rfl) ?_
              refine z_callV_i (As := [.int (nI (w))]) (rest := [.int (nI (s_g (zn S 22 0) w))]) (w := wX cI cZ ad) ⟨hx, hb, hml, hown, hts⟩ hF hR (c_X4_groupsOf_ok hG S (w) hO (by omega)) (cwV 1 hts gL_areChannelsSo_X4_groupsOf rfl rfl rfl (by decide +kernel) ⟨Nat.le_of_ble_eq_true rfl, Nat.le_of_ble_eq_true rfl⟩) (wX_c0 S) rfl rfl rfl hl rfl (Nat.le_of_ble_eq_true rfl) (by decide) dL_areChannelsSo_264 (fun r11 S11 H locs hp11 hR => ?_)
              obtain ⟨hr11, hs11⟩ := hp11
              subst r11
              subst S11
              have hb264 := gs_le (zn S 22 0) w
              refine lv_bipush (v := (nI (10))) hx hb dL_areChannelsSo_267 (by decide) ?_
              refine z_irem_n hx hb dL_areChannelsSo_269 (by omega) (by omega) (by omega) ?_
              refine z_iadd_n hx hb dL_areChannelsSo_270 ?_
              refine lv_istore_n (lv' := [(1, .int (nI ((s_g (zn S 22 0) w) + ((10 * sp_gf (zn S 22 0) w 8 + sp_go (zn S 22 0) w 8) % 10)))), (0, .ref (ad 0)), (2, .int (nI (w))), (3, .int (nI (s_b S w 4))), (4, .int (nI (p)))]) hx hb dL_areChannelsSo_271 rfl hl (by decide) rfl (fun ls hl => ?_)
              have hb3 := s_b_3 (hA w (by omega))
              have hl : lv_has ls 9 [(1, .int (nI (s_g (zn S 22 0) (w + 1)))), (0, .ref (ad 0)), (2, .int (nI (w))), (3, .int (nI (s_b S w 4))), (4, .int (nI (p)))] := hl
              refine lv_iload_n hx hb dL_areChannelsSo_272 rfl (lv_at hl 3 rfl) ?_
              refine lv_iconst (v := (nI (3))) hx hb dL_areChannelsSo_273 (by decide) ?_
              refine z_gt_n (tgt := 335) hx hb dL_areChannelsSo_274 (by decide) (by omega) (by omega) (fun h274_12 => by omega) (fun h274_12 => ?_)
              refine lv_aload_n hx hb dL_areChannelsSo_277 rfl (lv_at hl 1 rfl) ?_
              refine z_callV_i (As := []) (rest := []) (w := wX cI cZ ad) ⟨hx, hb, hml, hown, hts⟩ hF hR (c_X4_underWay hG S hO) (cwV 0 hts gL_areChannelsSo_X4_underWay rfl rfl rfl (by decide +kernel) ⟨Nat.le_of_ble_eq_true rfl, Nat.le_of_ble_eq_true rfl⟩) (wX_c0 S) rfl rfl rfl hl rfl (Nat.le_of_ble_eq_true rfl) (by decide) dL_areChannelsSo_278 (fun r13 S13 H locs hp13 hR => ?_)
              obtain ⟨hr13, hs13⟩ := hp13
              subst r13
              subst S13
              refine lv_if_lt (tgt := 308) hx hb dL_areChannelsSo_281 (by decide) (fun h281_14 => ?_) (fun h281_14 => ?_)
              · skip
                refine lv_aload_n hx hb dL_areChannelsSo_308 rfl (lv_at hl 1 rfl) ?_
                refine z_callV_i (As := []) (rest := []) (w := wX cI cZ ad) ⟨hx, hb, hml, hown, hts⟩ hF hR (c_X4_underWay hG S hO) (cwV 0 hts gL_areChannelsSo_X4_underWay rfl rfl rfl (by decide +kernel) ⟨Nat.le_of_ble_eq_true rfl, Nat.le_of_ble_eq_true rfl⟩) (wX_c0 S) rfl rfl rfl hl rfl (Nat.le_of_ble_eq_true rfl) (by decide) dL_areChannelsSo_309 (fun r15 S15 H locs hp15 hR => ?_)
                obtain ⟨hr15, hs15⟩ := hp15
                subst r15
                subst S15
                refine lv_if_ge (tgt := 337) hx hb dL_areChannelsSo_312 (by decide) (fun h312_16 => ?_) (fun h312_16 => ?_)
                · skip
                  refine lv_iinc (v := (nI (w + 1))) (lv' := [(2, .int (nI (w + 1))), (1, .int (nI (s_g (zn S 22 0) (w + 1)))), (0, .ref (ad 0)), (3, .int (nI (s_b S w 4))), (4, .int (nI (p)))]) hx hb dL_areChannelsSo_337 hl (k := 2) rfl (z_inc _) (by decide) rfl (fun ls hl => ?_)
                  refine lv_goto (tgt := 4) hx hb dL_areChannelsSo_340 (by decide) ?_
                  exact ih4 (w + 1) (by omega) (by omega) _ _ hR ls (lv_sub hl [2, 1, 0] rfl)
                · skip
                  have q312 := Int32.not_le.mp h312_16
                  refine lv_aload_n hx hb dL_areChannelsSo_315 rfl (lv_at hl 1 rfl) ?_
                  refine lv_iload_n hx hb dL_areChannelsSo_316 rfl (lv_at hl 2 rfl) ?_
                  refine z_callV_i (As := [.int (nI (w))]) (rest := []) (w := wX cI cZ ad) ⟨hx, hb, hml, hown, hts⟩ hF hR (c_X4_sealed_ok hG S (w) hO (by omega)) (cwV 1 hts gL_areChannelsSo_X4_sealed rfl rfl rfl (by decide +kernel) ⟨Nat.le_of_ble_eq_true rfl, Nat.le_of_ble_eq_true rfl⟩) (wX_c0 S) rfl rfl rfl hl rfl (Nat.le_of_ble_eq_true rfl) (by decide) dL_areChannelsSo_317 (fun r17 S17 H locs hp17 hR => ?_)
                  obtain ⟨hr17, hs17⟩ := hp17
                  subst r17
                  subst S17
                  refine lv_if_lt (tgt := 337) hx hb dL_areChannelsSo_320 (by decide) (fun h320_18 => ?_) (fun h320_18 => ?_)
                  · skip
                    refine lv_iinc (v := (nI (w + 1))) (lv' := [(2, .int (nI (w + 1))), (1, .int (nI (s_g (zn S 22 0) (w + 1)))), (0, .ref (ad 0)), (3, .int (nI (s_b S w 4))), (4, .int (nI (p)))]) hx hb dL_areChannelsSo_337 hl (k := 2) rfl (z_inc _) (by decide) rfl (fun ls hl => ?_)
                    refine lv_goto (tgt := 4) hx hb dL_areChannelsSo_340 (by decide) ?_
                    exact ih4 (w + 1) (by omega) (by omega) _ _ hR ls (lv_sub hl [2, 1, 0] rfl)
                  · skip
                    have q320 := h320_18
                    refine lv_aload_n hx hb dL_areChannelsSo_323 rfl (lv_at hl 1 rfl) ?_
                    refine lv_iload_n hx hb dL_areChannelsSo_324 rfl (lv_at hl 2 rfl) ?_
                    refine z_callV_i (As := [.int (nI (w))]) (rest := []) (w := wX cI cZ ad) ⟨hx, hb, hml, hown, hts⟩ hF hR (c_X4_sealed_ok hG S (w) hO (by omega)) (cwV 1 hts gL_areChannelsSo_X4_sealed rfl rfl rfl (by decide +kernel) ⟨Nat.le_of_ble_eq_true rfl, Nat.le_of_ble_eq_true rfl⟩) (wX_c0 S) rfl rfl rfl hl rfl (Nat.le_of_ble_eq_true rfl) (by decide) dL_areChannelsSo_325 (fun r19 S19 H locs hp19 hR => ?_)
                    obtain ⟨hr19, hs19⟩ := hp19
                    subst r19
                    subst S19
                    refine lv_aload_n hx hb dL_areChannelsSo_328 rfl (lv_at hl 1 rfl) ?_
                    refine z_callV_i (As := []) (rest := [.int (S 21 w)]) (w := wX cI cZ ad) ⟨hx, hb, hml, hown, hts⟩ hF hR (c_X4_complete hG S hO) (cwV 0 hts gL_areChannelsSo_X4_complete rfl rfl rfl (by decide +kernel) ⟨Nat.le_of_ble_eq_true rfl, Nat.le_of_ble_eq_true rfl⟩) (wX_c0 S) rfl rfl rfl hl rfl (Nat.le_of_ble_eq_true rfl) (by decide) dL_areChannelsSo_329 (fun r20 S20 H locs hp20 hR => ?_)
                    obtain ⟨hr20, hs20⟩ := hp20
                    subst r20
                    subst S20
                    refine lv_icmp_eq (tgt := 337) hx hb dL_areChannelsSo_332 (by decide) (fun h332_21 => ?_) (fun h332_21 => absurd (vD_s2 hD hk1 (by omega) q312 q320) h332_21)
                    refine lv_iinc (v := (nI (w + 1))) (lv' := [(2, .int (nI (w + 1))), (1, .int (nI (s_g (zn S 22 0) (w + 1)))), (0, .ref (ad 0)), (3, .int (nI (s_b S w 4))), (4, .int (nI (p)))]) hx hb dL_areChannelsSo_337 hl (k := 2) rfl (z_inc _) (by decide) rfl (fun ls hl => ?_)
                    refine lv_goto (tgt := 4) hx hb dL_areChannelsSo_340 (by decide) ?_
                    exact ih4 (w + 1) (by omega) (by omega) _ _ hR ls (lv_sub hl [2, 1, 0] rfl)
              · skip
                have q281 := h281_14
                refine lv_aload_n hx hb dL_areChannelsSo_284 rfl (lv_at hl 1 rfl) ?_
                refine lv_iload_n hx hb dL_areChannelsSo_285 rfl (lv_at hl 2 rfl) ?_
                refine z_callV_i (As := [.int (nI (w))]) (rest := []) (w := wX cI cZ ad) ⟨hx, hb, hml, hown, hts⟩ hF hR (c_X4_sealed_ok hG S (w) hO (by omega)) (cwV 1 hts gL_areChannelsSo_X4_sealed rfl rfl rfl (by decide +kernel) ⟨Nat.le_of_ble_eq_true rfl, Nat.le_of_ble_eq_true rfl⟩) (wX_c0 S) rfl rfl rfl hl rfl (Nat.le_of_ble_eq_true rfl) (by decide) dL_areChannelsSo_286 (fun r22 S22 H locs hp22 hR => ?_)
                obtain ⟨hr22, hs22⟩ := hp22
                subst r22
                subst S22
                refine lv_if_lt (tgt := 308) hx hb dL_areChannelsSo_289 (by decide) (fun h289_23 => ?_) (fun h289_23 => ?_)
                · skip
                  refine lv_aload_n hx hb dL_areChannelsSo_308 rfl (lv_at hl 1 rfl) ?_
                  refine z_callV_i (As := []) (rest := []) (w := wX cI cZ ad) ⟨hx, hb, hml, hown, hts⟩ hF hR (c_X4_underWay hG S hO) (cwV 0 hts gL_areChannelsSo_X4_underWay rfl rfl rfl (by decide +kernel) ⟨Nat.le_of_ble_eq_true rfl, Nat.le_of_ble_eq_true rfl⟩) (wX_c0 S) rfl rfl rfl hl rfl (Nat.le_of_ble_eq_true rfl) (by decide) dL_areChannelsSo_309 (fun r24 S24 H locs hp24 hR => ?_)
                  obtain ⟨hr24, hs24⟩ := hp24
                  subst r24
                  subst S24
                  refine lv_if_ge (tgt := 337) hx hb dL_areChannelsSo_312 (by decide) (fun h312_25 => ?_) (fun h312_25 => ?_)
                  · skip
                    refine lv_iinc (v := (nI (w + 1))) (lv' := [(2, .int (nI (w + 1))), (1, .int (nI (s_g (zn S 22 0) (w + 1)))), (0, .ref (ad 0)), (3, .int (nI (s_b S w 4))), (4, .int (nI (p)))]) hx hb dL_areChannelsSo_337 hl (k := 2) rfl (z_inc _) (by decide) rfl (fun ls hl => ?_)
                    refine lv_goto (tgt := 4) hx hb dL_areChannelsSo_340 (by decide) ?_
                    exact ih4 (w + 1) (by omega) (by omega) _ _ hR ls (lv_sub hl [2, 1, 0] rfl)
                  · skip
                    have q312 := Int32.not_le.mp h312_25
                    refine lv_aload_n hx hb dL_areChannelsSo_315 rfl (lv_at hl 1 rfl) ?_
                    refine lv_iload_n hx hb dL_areChannelsSo_316 rfl (lv_at hl 2 rfl) ?_
                    refine z_callV_i (As := [.int (nI (w))]) (rest := []) (w := wX cI cZ ad) ⟨hx, hb, hml, hown, hts⟩ hF hR (c_X4_sealed_ok hG S (w) hO (by omega)) (cwV 1 hts gL_areChannelsSo_X4_sealed rfl rfl rfl (by decide +kernel) ⟨Nat.le_of_ble_eq_true rfl, Nat.le_of_ble_eq_true rfl⟩) (wX_c0 S) rfl rfl rfl hl rfl (Nat.le_of_ble_eq_true rfl) (by decide) dL_areChannelsSo_317 (fun r26 S26 H locs hp26 hR => ?_)
                    obtain ⟨hr26, hs26⟩ := hp26
                    subst r26
                    subst S26
                    refine lv_if_lt (tgt := 337) hx hb dL_areChannelsSo_320 (by decide) (fun h320_27 => ?_) (fun h320_27 => ?_)
                    · skip
                      refine lv_iinc (v := (nI (w + 1))) (lv' := [(2, .int (nI (w + 1))), (1, .int (nI (s_g (zn S 22 0) (w + 1)))), (0, .ref (ad 0)), (3, .int (nI (s_b S w 4))), (4, .int (nI (p)))]) hx hb dL_areChannelsSo_337 hl (k := 2) rfl (z_inc _) (by decide) rfl (fun ls hl => ?_)
                      refine lv_goto (tgt := 4) hx hb dL_areChannelsSo_340 (by decide) ?_
                      exact ih4 (w + 1) (by omega) (by omega) _ _ hR ls (lv_sub hl [2, 1, 0] rfl)
                    · skip
                      have q320 := h320_27
                      refine lv_aload_n hx hb dL_areChannelsSo_323 rfl (lv_at hl 1 rfl) ?_
                      refine lv_iload_n hx hb dL_areChannelsSo_324 rfl (lv_at hl 2 rfl) ?_
                      refine z_callV_i (As := [.int (nI (w))]) (rest := []) (w := wX cI cZ ad) ⟨hx, hb, hml, hown, hts⟩ hF hR (c_X4_sealed_ok hG S (w) hO (by omega)) (cwV 1 hts gL_areChannelsSo_X4_sealed rfl rfl rfl (by decide +kernel) ⟨Nat.le_of_ble_eq_true rfl, Nat.le_of_ble_eq_true rfl⟩) (wX_c0 S) rfl rfl rfl hl rfl (Nat.le_of_ble_eq_true rfl) (by decide) dL_areChannelsSo_325 (fun r28 S28 H locs hp28 hR => ?_)
                      obtain ⟨hr28, hs28⟩ := hp28
                      subst r28
                      subst S28
                      refine lv_aload_n hx hb dL_areChannelsSo_328 rfl (lv_at hl 1 rfl) ?_
                      refine z_callV_i (As := []) (rest := [.int (S 21 w)]) (w := wX cI cZ ad) ⟨hx, hb, hml, hown, hts⟩ hF hR (c_X4_complete hG S hO) (cwV 0 hts gL_areChannelsSo_X4_complete rfl rfl rfl (by decide +kernel) ⟨Nat.le_of_ble_eq_true rfl, Nat.le_of_ble_eq_true rfl⟩) (wX_c0 S) rfl rfl rfl hl rfl (Nat.le_of_ble_eq_true rfl) (by decide) dL_areChannelsSo_329 (fun r29 S29 H locs hp29 hR => ?_)
                      obtain ⟨hr29, hs29⟩ := hp29
                      subst r29
                      subst S29
                      refine lv_icmp_eq (tgt := 337) hx hb dL_areChannelsSo_332 (by decide) (fun h332_30 => ?_) (fun h332_30 => absurd (vD_s2 hD hk1 (by omega) q312 q320) h332_30)
                      refine lv_iinc (v := (nI (w + 1))) (lv' := [(2, .int (nI (w + 1))), (1, .int (nI (s_g (zn S 22 0) (w + 1)))), (0, .ref (ad 0)), (3, .int (nI (s_b S w 4))), (4, .int (nI (p)))]) hx hb dL_areChannelsSo_337 hl (k := 2) rfl (z_inc _) (by decide) rfl (fun ls hl => ?_)
                      refine lv_goto (tgt := 4) hx hb dL_areChannelsSo_340 (by decide) ?_
                      exact ih4 (w + 1) (by omega) (by omega) _ _ hR ls (lv_sub hl [2, 1, 0] rfl)
                · skip
                  have q289 := h289_23
                  have q293 : s_b S w 4 = 0 := s_b_00 (fun q hq z => q289 (by rw [(vD_blk hD (by omega) z).2.2.2]; decide))
                  refine lv_iload_n hx hb dL_areChannelsSo_292 rfl (lv_at hl 3 rfl) ?_
                  refine z_if_gt_n (tgt := 335) hx hb dL_areChannelsSo_293 (by decide) (by omega) (fun h293_31 => by omega) (fun h293_31 => ?_)
                  refine lv_aload_n hx hb dL_areChannelsSo_296 rfl (lv_at hl 1 rfl) ?_
                  refine lv_iload_n hx hb dL_areChannelsSo_297 rfl (lv_at hl 2 rfl) ?_
                  refine z_callV_i (As := [.int (nI (w))]) (rest := []) (w := wX cI cZ ad) ⟨hx, hb, hml, hown, hts⟩ hF hR (c_X4_sealed_ok hG S (w) hO (by omega)) (cwV 1 hts gL_areChannelsSo_X4_sealed rfl rfl rfl (by decide +kernel) ⟨Nat.le_of_ble_eq_true rfl, Nat.le_of_ble_eq_true rfl⟩) (wX_c0 S) rfl rfl rfl hl rfl (Nat.le_of_ble_eq_true rfl) (by decide) dL_areChannelsSo_298 (fun r32 S32 H locs hp32 hR => ?_)
                  obtain ⟨hr32, hs32⟩ := hp32
                  subst r32
                  subst S32
                  refine lv_aload_n hx hb dL_areChannelsSo_301 rfl (lv_at hl 1 rfl) ?_
                  refine z_callV_i (As := []) (rest := [.int (S 21 w)]) (w := wX cI cZ ad) ⟨hx, hb, hml, hown, hts⟩ hF hR (c_X4_underWay hG S hO) (cwV 0 hts gL_areChannelsSo_X4_underWay rfl rfl rfl (by decide +kernel) ⟨Nat.le_of_ble_eq_true rfl, Nat.le_of_ble_eq_true rfl⟩) (wX_c0 S) rfl rfl rfl hl rfl (Nat.le_of_ble_eq_true rfl) (by decide) dL_areChannelsSo_302 (fun r33 S33 H locs hp33 hR => ?_)
                  obtain ⟨hr33, hs33⟩ := hp33
                  subst r33
                  subst S33
                  refine lv_icmp_ne (tgt := 335) hx hb dL_areChannelsSo_305 (by decide) (fun h305_34 => absurd (vD_s1 hD (by omega) q281 q289) h305_34) (fun h305_34 => ?_)
                  refine lv_aload_n hx hb dL_areChannelsSo_308 rfl (lv_at hl 1 rfl) ?_
                  refine z_callV_i (As := []) (rest := []) (w := wX cI cZ ad) ⟨hx, hb, hml, hown, hts⟩ hF hR (c_X4_underWay hG S hO) (cwV 0 hts gL_areChannelsSo_X4_underWay rfl rfl rfl (by decide +kernel) ⟨Nat.le_of_ble_eq_true rfl, Nat.le_of_ble_eq_true rfl⟩) (wX_c0 S) rfl rfl rfl hl rfl (Nat.le_of_ble_eq_true rfl) (by decide) dL_areChannelsSo_309 (fun r35 S35 H locs hp35 hR => ?_)
                  obtain ⟨hr35, hs35⟩ := hp35
                  subst r35
                  subst S35
                  refine lv_if_ge (tgt := 337) hx hb dL_areChannelsSo_312 (by decide) (fun h312_36 => ?_) (fun h312_36 => ?_)
                  · skip
                    refine lv_iinc (v := (nI (w + 1))) (lv' := [(2, .int (nI (w + 1))), (1, .int (nI (s_g (zn S 22 0) (w + 1)))), (0, .ref (ad 0)), (3, .int (nI (s_b S w 4))), (4, .int (nI (p)))]) hx hb dL_areChannelsSo_337 hl (k := 2) rfl (z_inc _) (by decide) rfl (fun ls hl => ?_)
                    refine lv_goto (tgt := 4) hx hb dL_areChannelsSo_340 (by decide) ?_
                    exact ih4 (w + 1) (by omega) (by omega) _ _ hR ls (lv_sub hl [2, 1, 0] rfl)
                  · skip
                    have q312 := Int32.not_le.mp h312_36
                    refine lv_aload_n hx hb dL_areChannelsSo_315 rfl (lv_at hl 1 rfl) ?_
                    refine lv_iload_n hx hb dL_areChannelsSo_316 rfl (lv_at hl 2 rfl) ?_
                    refine z_callV_i (As := [.int (nI (w))]) (rest := []) (w := wX cI cZ ad) ⟨hx, hb, hml, hown, hts⟩ hF hR (c_X4_sealed_ok hG S (w) hO (by omega)) (cwV 1 hts gL_areChannelsSo_X4_sealed rfl rfl rfl (by decide +kernel) ⟨Nat.le_of_ble_eq_true rfl, Nat.le_of_ble_eq_true rfl⟩) (wX_c0 S) rfl rfl rfl hl rfl (Nat.le_of_ble_eq_true rfl) (by decide) dL_areChannelsSo_317 (fun r37 S37 H locs hp37 hR => ?_)
                    obtain ⟨hr37, hs37⟩ := hp37
                    subst r37
                    subst S37
                    refine lv_if_lt (tgt := 337) hx hb dL_areChannelsSo_320 (by decide) (fun h320_38 => ?_) (fun h320_38 => ?_)
                    · skip
                      refine lv_iinc (v := (nI (w + 1))) (lv' := [(2, .int (nI (w + 1))), (1, .int (nI (s_g (zn S 22 0) (w + 1)))), (0, .ref (ad 0)), (3, .int (nI (s_b S w 4))), (4, .int (nI (p)))]) hx hb dL_areChannelsSo_337 hl (k := 2) rfl (z_inc _) (by decide) rfl (fun ls hl => ?_)
                      refine lv_goto (tgt := 4) hx hb dL_areChannelsSo_340 (by decide) ?_
                      exact ih4 (w + 1) (by omega) (by omega) _ _ hR ls (lv_sub hl [2, 1, 0] rfl)
                    · skip
                      have q320 := h320_38
                      refine lv_aload_n hx hb dL_areChannelsSo_323 rfl (lv_at hl 1 rfl) ?_
                      refine lv_iload_n hx hb dL_areChannelsSo_324 rfl (lv_at hl 2 rfl) ?_
                      refine z_callV_i (As := [.int (nI (w))]) (rest := []) (w := wX cI cZ ad) ⟨hx, hb, hml, hown, hts⟩ hF hR (c_X4_sealed_ok hG S (w) hO (by omega)) (cwV 1 hts gL_areChannelsSo_X4_sealed rfl rfl rfl (by decide +kernel) ⟨Nat.le_of_ble_eq_true rfl, Nat.le_of_ble_eq_true rfl⟩) (wX_c0 S) rfl rfl rfl hl rfl (Nat.le_of_ble_eq_true rfl) (by decide) dL_areChannelsSo_325 (fun r39 S39 H locs hp39 hR => ?_)
                      obtain ⟨hr39, hs39⟩ := hp39
                      subst r39
                      subst S39
                      refine lv_aload_n hx hb dL_areChannelsSo_328 rfl (lv_at hl 1 rfl) ?_
                      refine z_callV_i (As := []) (rest := [.int (S 21 w)]) (w := wX cI cZ ad) ⟨hx, hb, hml, hown, hts⟩ hF hR (c_X4_complete hG S hO) (cwV 0 hts gL_areChannelsSo_X4_complete rfl rfl rfl (by decide +kernel) ⟨Nat.le_of_ble_eq_true rfl, Nat.le_of_ble_eq_true rfl⟩) (wX_c0 S) rfl rfl rfl hl rfl (Nat.le_of_ble_eq_true rfl) (by decide) dL_areChannelsSo_329 (fun r40 S40 H locs hp40 hR => ?_)
                      obtain ⟨hr40, hs40⟩ := hp40
                      subst r40
                      subst S40
                      refine lv_icmp_eq (tgt := 337) hx hb dL_areChannelsSo_332 (by decide) (fun h332_41 => ?_) (fun h332_41 => absurd (vD_s2 hD hk1 (by omega) q312 q320) h332_41)
                      refine lv_iinc (v := (nI (w + 1))) (lv' := [(2, .int (nI (w + 1))), (1, .int (nI (s_g (zn S 22 0) (w + 1)))), (0, .ref (ad 0)), (3, .int (nI (s_b S w 4))), (4, .int (nI (p)))]) hx hb dL_areChannelsSo_337 hl (k := 2) rfl (z_inc _) (by decide) rfl (fun ls hl => ?_)
                      refine lv_goto (tgt := 4) hx hb dL_areChannelsSo_340 (by decide) ?_
                      exact ih4 (w + 1) (by omega) (by omega) _ _ hR ls (lv_sub hl [2, 1, 0] rfl)
            · skip
              have hp : p < 4 := by omega
              obtain ⟨hCi, f, hCf⟩ := hI.2.1 (4 * p + w) (by omega)
              rw [show (4 * p + w) % 4 = w by omega] at hCi
              unfold vF at hCf
              rw [show (4 * p + w) / 4 = p by omega] at hCf
              refine lv_iconst (v := (nI (0))) hx hb dL_areChannelsSo_23 (by decide) ?_
              refine lv_istore (lv' := [(5, .int (nI (0))), (0, .ref (ad 0)), (1, .int (nI (s_g (zn S 22 0) w))), (2, .int (nI (w))), (3, .int (nI (s_b S w p))), (4, .int (nI (p)))]) hx hb dL_areChannelsSo_24 hl (by decide) rfl (fun ls hl => ?_)
              refine lv_iconst (v := (nI (0))) hx hb dL_areChannelsSo_26 (by decide) ?_
              refine lv_istore (lv' := [(6, .int (nI (0))), (5, .int (nI (0))), (0, .ref (ad 0)), (1, .int (nI (s_g (zn S 22 0) w))), (2, .int (nI (w))), (3, .int (nI (s_b S w p))), (4, .int (nI (p)))]) hx hb dL_areChannelsSo_27 hl (by decide) rfl (fun ls hl => ?_)
              refine lv_iconst (v := (nI (0))) hx hb dL_areChannelsSo_29 (by decide) ?_
              refine lv_istore (lv' := [(7, .int (nI (0))), (6, .int (nI (0))), (5, .int (nI (0))), (0, .ref (ad 0)), (1, .int (nI (s_g (zn S 22 0) w))), (2, .int (nI (w))), (3, .int (nI (s_b S w p))), (4, .int (nI (p)))]) hx hb dL_areChannelsSo_30 hl (by decide) rfl (fun ls hl => ?_)
              have loop32 : ∀ (nf32 : Nat) (j : Nat) (g : Nat), (j ≤ zn S 7 (4 * p + w)) → (g ≤ zn S 2 p) → (∀ i, j ≤ i → i < zn S 7 (4 * p + w) → 0 < S 6 (8 * (4 * p + w) + i) → g ≤ f i) → zn S 7 (4 * p + w) - j < nf32 → ∀ (H : Heap) (locs : List Loc), zR D B (wX cI cZ ad S) s H locs → ∀ ls : Array Slot, lv_has ls 9 [(0, .ref (ad 0)), (1, .int (nI (s_g (zn S 22 0) w))), (2, .int (nI (w))), (3, .int (nI (s_b S w p))), (4, .int (nI (p))), (5, .int (nI (s_r S (4 * p + w) j))), (6, .int (nI (g))), (7, .int (nI (j)))] → W pg l en ({ frames := 8, cells := 0, slots := 0, locals := 127 } : Room) s mm ([.ref (ad 0)] : List Value).toArray below meth cd H locs 0 0 (MQ below (va_Qi (fun (r : Int32) (S1 : zS) => r = (nI (1)) ∧ S1 = S) (zB D (zT cI cZ) (wX cI cZ ad)) (zA B s.heap.size)) ([.ref (ad 0)] : List Value).toArray s 0 0 (zA B s.heap.size)) (F0 mm 32 ls []) := by
                intro nf32
                induction nf32 with
                | zero => intro j g hj hg2 hgs hn; exact absurd hn (Nat.not_lt_zero _)
                | succ nf32 ih32 =>
                  intro j g hj hg2 hgs hn H locs hR ls hl
                  have hs8 := (hO.n7 (4 * p + w)).2
                  have hs2 := (hO.n2 p).2
                  refine lv_iload hx hb dL_areChannelsSo_32 (lv_at hl 7 rfl) ?_
                  refine lv_aload_n hx hb dL_areChannelsSo_34 rfl (lv_at hl 0 rfl) ?_
                  refine lv_iload hx hb dL_areChannelsSo_35 (lv_at hl 4 rfl) ?_
                  refine lv_iload_n hx hb dL_areChannelsSo_37 rfl (lv_at hl 2 rfl) ?_
                  refine z_callV_i (As := [.int (nI (p)), .int (nI (w))]) (rest := [.int (nI (j))]) (w := wX cI cZ ad) ⟨hx, hb, hml, hown, hts⟩ hF hR (c_X4_queued_ok hG S (p) (w) hO (by omega) (by omega)) (cwV 2 hts gL_areChannelsSo_X4_queued rfl rfl rfl (by decide +kernel) ⟨Nat.le_of_ble_eq_true rfl, Nat.le_of_ble_eq_true rfl⟩) (wX_c0 S) rfl rfl rfl hl rfl (Nat.le_of_ble_eq_true rfl) (by decide) dL_areChannelsSo_38 (fun r42 S42 H locs hp42 hR => ?_)
                  obtain ⟨hr42, hs42⟩ := hp42
                  subst r42
                  subst S42
                  refine z_ge_n (tgt := 173) hx hb dL_areChannelsSo_41 (by decide) (by omega) (by omega) (fun h41_43 => ?_) (fun h41_43 => ?_)
                  · skip
                    have ej : j = zn S 7 (4 * p + w) := by omega
                    have hl : lv_has ls 9 [(0, .ref (ad 0)), (1, .int (nI (s_g (zn S 22 0) w))), (2, .int (nI (w))), (3, .int (nI (s_b S w p))), (4, .int (nI (p))), (5, .int (nI (s_r S (4 * p + w) (zn S 7 (4 * p + w))))), (6, .int (nI (g))), (7, .int (nI (j)))] := (by rw [← ej]; exact hl)
                    refine lv_iload_n hx hb dL_areChannelsSo_173 rfl (lv_at hl 3 rfl) ?_
                    refine lv_aload_n hx hb dL_areChannelsSo_174 rfl (lv_at hl 0 rfl) ?_
                    refine lv_iload hx hb dL_areChannelsSo_175 (lv_at hl 4 rfl) ?_
                    refine lv_iload_n hx hb dL_areChannelsSo_177 rfl (lv_at hl 2 rfl) ?_
                    refine z_callV_i (As := [.int (nI (p)), .int (nI (w))]) (rest := [.int (nI (s_b S w p))]) (w := wX cI cZ ad) ⟨hx, hb, hml, hown, hts⟩ hF hR (c_X4_isBlocked_ok hG S (p) (w) hO (by omega) (by omega)) (cwV 2 hts gL_areChannelsSo_X4_isBlocked rfl rfl rfl (by decide +kernel) ⟨Nat.le_of_ble_eq_true rfl, Nat.le_of_ble_eq_true rfl⟩) (wX_c0 S) rfl rfl rfl hl rfl (Nat.le_of_ble_eq_true rfl) (by decide) dL_areChannelsSo_178 (fun r44 S44 H locs hp44 hR => ?_)
                    obtain ⟨hp44, hs44⟩ := hp44
                    subst S44
                    rcases hp44 with ⟨hb178, hr44⟩ | ⟨hb178, hr44⟩
                    · subst r44
                      have q178 : s_b S w (p + 1) = s_b S w p + 1 := s_b_1 hb178
                      refine z_if_eq_n (tgt := 188) hx hb dL_areChannelsSo_181 (by decide) (by omega) (fun h181_45 => by omega) (fun h181_45 => ?_)
                      refine lv_iconst (v := (nI (1))) hx hb dL_areChannelsSo_184 (by decide) ?_
                      refine lv_goto (tgt := 189) hx hb dL_areChannelsSo_185 (by decide) ?_
                      refine z_iadd_n hx hb dL_areChannelsSo_189 ?_
                      refine lv_topi (fun v46 ev46 => ?_)
                      obtain rfl : v46 = (nI (s_b S w (p + 1))) := ev46.trans (congrArg nI q178.symm)
                      refine lv_istore_n (lv' := [(3, .int (nI (s_b S w (p + 1)))), (0, .ref (ad 0)), (1, .int (nI (s_g (zn S 22 0) w))), (2, .int (nI (w))), (4, .int (nI (p))), (5, .int (nI (s_r S (4 * p + w) (zn S 7 (4 * p + w))))), (6, .int (nI (g))), (7, .int (nI (j)))]) hx hb dL_areChannelsSo_190 rfl hl (by decide) rfl (fun ls hl => ?_)
                      refine lv_aload_n hx hb dL_areChannelsSo_191 rfl (lv_at hl 1 rfl) ?_
                      refine lv_iload hx hb dL_areChannelsSo_192 (lv_at hl 4 rfl) ?_
                      refine lv_iload_n hx hb dL_areChannelsSo_194 rfl (lv_at hl 3 rfl) ?_
                      refine z_callV_i (As := [.int (nI (p)), .int (nI (w))]) (rest := []) (w := wX cI cZ ad) ⟨hx, hb, hml, hown, hts⟩ hF hR (c_X4_queued_ok hG S (p) (w) hO (by omega) (by omega)) (cwV 2 hts gL_areChannelsSo_X4_queued rfl rfl rfl (by decide +kernel) ⟨Nat.le_of_ble_eq_true rfl, Nat.le_of_ble_eq_true rfl⟩) (wX_c0 S) rfl rfl rfl hl rfl (Nat.le_of_ble_eq_true rfl) (by decide) dL_areChannelsSo_195 (fun r47 S47 H locs hp47 hR => ?_)
                      obtain ⟨hr47, hs47⟩ := hp47
                      subst r47
                      subst S47
                      have hb195 := (hO.n7 (4 * p + w)).2
                      refine lv_bipush (v := (nI (8))) hx hb dL_areChannelsSo_198 (by decide) ?_
                      refine z_gt_n (tgt := 253) hx hb dL_areChannelsSo_200 (by decide) (by omega) (by omega) (fun h200_48 => by omega) (fun h200_48 => ?_)
                      refine lv_iload hx hb dL_areChannelsSo_203 (lv_at hl 5 rfl) ?_
                      refine lv_aload_n hx hb dL_areChannelsSo_205 rfl (lv_at hl 1 rfl) ?_
                      refine z_callV_i (As := []) (rest := [.int (nI (s_r S (4 * p + w) (zn S 7 (4 * p + w))))]) (w := wX cI cZ ad) ⟨hx, hb, hml, hown, hts⟩ hF hR (c_X4_underWay hG S hO) (cwV 0 hts gL_areChannelsSo_X4_underWay rfl rfl rfl (by decide +kernel) ⟨Nat.le_of_ble_eq_true rfl, Nat.le_of_ble_eq_true rfl⟩) (wX_c0 S) rfl rfl rfl hl rfl (Nat.le_of_ble_eq_true rfl) (by decide) dL_areChannelsSo_206 (fun r49 S49 H locs hp49 hR => ?_)
                      obtain ⟨hr49, hs49⟩ := hp49
                      subst r49
                      subst S49
                      refine lv_if_lt (tgt := 225) hx hb dL_areChannelsSo_209 (by decide) (fun h209_50 => ?_) (fun h209_50 => ?_)
                      · skip
                        have q226 : s_r S (4 * p + w) (zn S 7 (4 * p + w)) = 0 := s_r_none (vD_neg2 hD hk1 h209_50) _
                        refine lv_iconst (v := (nI (0))) hx hb dL_areChannelsSo_225 (by decide) ?_
                        refine z_gt_n (tgt := 253) hx hb dL_areChannelsSo_226 (by decide) (by omega) (by omega) (fun h226_51 => by omega) (fun h226_51 => ?_)
                        refine lv_aload_n hx hb dL_areChannelsSo_229 rfl (lv_at hl 1 rfl) ?_
                        refine lv_iload hx hb dL_areChannelsSo_230 (lv_at hl 4 rfl) ?_
                        refine lv_iload_n hx hb dL_areChannelsSo_232 rfl (lv_at hl 3 rfl) ?_
                        refine z_callV_i (As := [.int (nI (p)), .int (nI (w))]) (rest := []) (w := wX cI cZ ad) ⟨hx, hb, hml, hown, hts⟩ hF hR (c_X4_isBlocked_ok hG S (p) (w) hO (by omega) (by omega)) (cwV 2 hts gL_areChannelsSo_X4_isBlocked rfl rfl rfl (by decide +kernel) ⟨Nat.le_of_ble_eq_true rfl, Nat.le_of_ble_eq_true rfl⟩) (wX_c0 S) rfl rfl rfl hl rfl (Nat.le_of_ble_eq_true rfl) (by decide) dL_areChannelsSo_233 (fun r52 S52 H locs hp52 hR => ?_)
                        obtain ⟨hp52, hs52⟩ := hp52
                        subst S52
                        rcases hp52 with ⟨hb233, hr52⟩ | ⟨hb233, hr52⟩
                        · subst r52
                          have q233 := vD_blk hD (by omega) hb233
                          have q239 : s_r S (4 * p + w) (zn S 7 (4 * p + w)) = 0 := s_r_zno q233.1
                          refine z_if_eq_n (tgt := 255) hx hb dL_areChannelsSo_236 (by decide) (by omega) (fun h236_53 => by omega) (fun h236_53 => ?_)
                          refine lv_iload hx hb dL_areChannelsSo_239 (lv_at hl 5 rfl) ?_
                          refine z_if_gt_n (tgt := 253) hx hb dL_areChannelsSo_241 (by decide) (by omega) (fun h241_54 => by omega) (fun h241_54 => ?_)
                          refine lv_aload_n hx hb dL_areChannelsSo_244 rfl (lv_at hl 1 rfl) ?_
                          refine lv_iload hx hb dL_areChannelsSo_245 (lv_at hl 4 rfl) ?_
                          refine z_callV_i (As := [.int (nI (p))]) (rest := []) (w := wX cI cZ ad) ⟨hx, hb, hml, hown, hts⟩ hF hR (c_X4_hasSent_ok hG S (p) hO (by omega)) (cwV 1 hts gL_areChannelsSo_X4_hasSent rfl rfl rfl (by decide +kernel) ⟨Nat.le_of_ble_eq_true rfl, Nat.le_of_ble_eq_true rfl⟩) (wX_c0 S) rfl rfl rfl hl rfl (Nat.le_of_ble_eq_true rfl) (by decide) dL_areChannelsSo_247 (fun r55 S55 H locs hp55 hR => ?_)
                          obtain ⟨hp55, hs55⟩ := hp55
                          subst S55
                          rcases hp55 with ⟨hb247, hr55⟩ | ⟨hb247, hr55⟩
                          · subst r55
                            refine z_if_ne_n (tgt := 255) hx hb dL_areChannelsSo_250 (by decide) (by omega) (fun h250_56 => ?_) (fun h250_56 => by omega)
                            refine lv_iinc (v := (nI (p + 1))) (lv' := [(4, .int (nI (p + 1))), (3, .int (nI (s_b S w (p + 1)))), (0, .ref (ad 0)), (1, .int (nI (s_g (zn S 22 0) w))), (2, .int (nI (w))), (5, .int (nI (s_r S (4 * p + w) (zn S 7 (4 * p + w))))), (6, .int (nI (g))), (7, .int (nI (j)))]) hx hb dL_areChannelsSo_255 hl (k := 4) rfl (z_inc _) (by decide) rfl (fun ls hl => ?_)
                            refine lv_goto (tgt := 17) hx hb dL_areChannelsSo_258 (by decide) ?_
                            exact ih17 (p + 1) (by omega) (by omega) _ _ hR ls (lv_sub hl [2, 3, 4, 1, 0] rfl)
                          · exact absurd ⟨q233.2.1, q233.2.2.1⟩ hb247
                        · subst r52
                          refine z_if_eq_n (tgt := 255) hx hb dL_areChannelsSo_236 (by decide) (by omega) (fun h236_57 => ?_) (fun h236_57 => by omega)
                          refine lv_iinc (v := (nI (p + 1))) (lv' := [(4, .int (nI (p + 1))), (3, .int (nI (s_b S w (p + 1)))), (0, .ref (ad 0)), (1, .int (nI (s_g (zn S 22 0) w))), (2, .int (nI (w))), (5, .int (nI (s_r S (4 * p + w) (zn S 7 (4 * p + w))))), (6, .int (nI (g))), (7, .int (nI (j)))]) hx hb dL_areChannelsSo_255 hl (k := 4) rfl (z_inc _) (by decide) rfl (fun ls hl => ?_)
                          refine lv_goto (tgt := 17) hx hb dL_areChannelsSo_258 (by decide) ?_
                          exact ih17 (p + 1) (by omega) (by omega) _ _ hR ls (lv_sub hl [2, 3, 4, 1, 0] rfl)
                      · skip
                        have q209 := h209_50
                        refine lv_aload_n hx hb dL_areChannelsSo_212 rfl (lv_at hl 1 rfl) ?_
                        refine lv_iload hx hb dL_areChannelsSo_213 (lv_at hl 4 rfl) ?_
                        refine z_callV_i (As := [.int (nI (p))]) (rest := [.int (nI (s_r S (4 * p + w) (zn S 7 (4 * p + w))))]) (w := wX cI cZ ad) ⟨hx, hb, hml, hown, hts⟩ hF hR (c_X4_hasSent_ok hG S (p) hO (by omega)) (cwV 1 hts gL_areChannelsSo_X4_hasSent rfl rfl rfl (by decide +kernel) ⟨Nat.le_of_ble_eq_true rfl, Nat.le_of_ble_eq_true rfl⟩) (wX_c0 S) rfl rfl rfl hl rfl (Nat.le_of_ble_eq_true rfl) (by decide) dL_areChannelsSo_215 (fun r58 S58 H locs hp58 hR => ?_)
                        obtain ⟨hp58, hs58⟩ := hp58
                        subst S58
                        rcases hp58 with ⟨hb215, hr58⟩ | ⟨hb215, hr58⟩
                        · subst r58
                          have q226 : s_r S (4 * p + w) (zn S 7 (4 * p + w)) ≤ 1 := vD_one hD (by omega) hb215.1
                          refine z_if_eq_n (tgt := 225) hx hb dL_areChannelsSo_218 (by decide) (by omega) (fun h218_59 => by omega) (fun h218_59 => ?_)
                          refine lv_iconst (v := (nI (1))) hx hb dL_areChannelsSo_221 (by decide) ?_
                          refine lv_goto (tgt := 226) hx hb dL_areChannelsSo_222 (by decide) ?_
                          refine z_gt_n (tgt := 253) hx hb dL_areChannelsSo_226 (by decide) (by omega) (by omega) (fun h226_60 => by omega) (fun h226_60 => ?_)
                          refine lv_aload_n hx hb dL_areChannelsSo_229 rfl (lv_at hl 1 rfl) ?_
                          refine lv_iload hx hb dL_areChannelsSo_230 (lv_at hl 4 rfl) ?_
                          refine lv_iload_n hx hb dL_areChannelsSo_232 rfl (lv_at hl 3 rfl) ?_
                          refine z_callV_i (As := [.int (nI (p)), .int (nI (w))]) (rest := []) (w := wX cI cZ ad) ⟨hx, hb, hml, hown, hts⟩ hF hR (c_X4_isBlocked_ok hG S (p) (w) hO (by omega) (by omega)) (cwV 2 hts gL_areChannelsSo_X4_isBlocked rfl rfl rfl (by decide +kernel) ⟨Nat.le_of_ble_eq_true rfl, Nat.le_of_ble_eq_true rfl⟩) (wX_c0 S) rfl rfl rfl hl rfl (Nat.le_of_ble_eq_true rfl) (by decide) dL_areChannelsSo_233 (fun r61 S61 H locs hp61 hR => ?_)
                          obtain ⟨hp61, hs61⟩ := hp61
                          subst S61
                          rcases hp61 with ⟨hb233, hr61⟩ | ⟨hb233, hr61⟩
                          · subst r61
                            have q233 := vD_blk hD (by omega) hb233
                            have q239 : s_r S (4 * p + w) (zn S 7 (4 * p + w)) = 0 := s_r_zno q233.1
                            refine z_if_eq_n (tgt := 255) hx hb dL_areChannelsSo_236 (by decide) (by omega) (fun h236_62 => by omega) (fun h236_62 => ?_)
                            refine lv_iload hx hb dL_areChannelsSo_239 (lv_at hl 5 rfl) ?_
                            refine z_if_gt_n (tgt := 253) hx hb dL_areChannelsSo_241 (by decide) (by omega) (fun h241_63 => by omega) (fun h241_63 => ?_)
                            refine lv_aload_n hx hb dL_areChannelsSo_244 rfl (lv_at hl 1 rfl) ?_
                            refine lv_iload hx hb dL_areChannelsSo_245 (lv_at hl 4 rfl) ?_
                            refine z_callV_i (As := [.int (nI (p))]) (rest := []) (w := wX cI cZ ad) ⟨hx, hb, hml, hown, hts⟩ hF hR (c_X4_hasSent_ok hG S (p) hO (by omega)) (cwV 1 hts gL_areChannelsSo_X4_hasSent rfl rfl rfl (by decide +kernel) ⟨Nat.le_of_ble_eq_true rfl, Nat.le_of_ble_eq_true rfl⟩) (wX_c0 S) rfl rfl rfl hl rfl (Nat.le_of_ble_eq_true rfl) (by decide) dL_areChannelsSo_247 (fun r64 S64 H locs hp64 hR => ?_)
                            obtain ⟨hp64, hs64⟩ := hp64
                            subst S64
                            rcases hp64 with ⟨hb247, hr64⟩ | ⟨hb247, hr64⟩
                            · subst r64
                              refine z_if_ne_n (tgt := 255) hx hb dL_areChannelsSo_250 (by decide) (by omega) (fun h250_65 => ?_) (fun h250_65 => by omega)
                              refine lv_iinc (v := (nI (p + 1))) (lv' := [(4, .int (nI (p + 1))), (3, .int (nI (s_b S w (p + 1)))), (0, .ref (ad 0)), (1, .int (nI (s_g (zn S 22 0) w))), (2, .int (nI (w))), (5, .int (nI (s_r S (4 * p + w) (zn S 7 (4 * p + w))))), (6, .int (nI (g))), (7, .int (nI (j)))]) hx hb dL_areChannelsSo_255 hl (k := 4) rfl (z_inc _) (by decide) rfl (fun ls hl => ?_)
                              refine lv_goto (tgt := 17) hx hb dL_areChannelsSo_258 (by decide) ?_
                              exact ih17 (p + 1) (by omega) (by omega) _ _ hR ls (lv_sub hl [2, 3, 4, 1, 0] rfl)
                            · exact absurd ⟨q233.2.1, q233.2.2.1⟩ hb247
                          · subst r61
                            refine z_if_eq_n (tgt := 255) hx hb dL_areChannelsSo_236 (by decide) (by omega) (fun h236_66 => ?_) (fun h236_66 => by omega)
                            refine lv_iinc (v := (nI (p + 1))) (lv' := [(4, .int (nI (p + 1))), (3, .int (nI (s_b S w (p + 1)))), (0, .ref (ad 0)), (1, .int (nI (s_g (zn S 22 0) w))), (2, .int (nI (w))), (5, .int (nI (s_r S (4 * p + w) (zn S 7 (4 * p + w))))), (6, .int (nI (g))), (7, .int (nI (j)))]) hx hb dL_areChannelsSo_255 hl (k := 4) rfl (z_inc _) (by decide) rfl (fun ls hl => ?_)
                            refine lv_goto (tgt := 17) hx hb dL_areChannelsSo_258 (by decide) ?_
                            exact ih17 (p + 1) (by omega) (by omega) _ _ hR ls (lv_sub hl [2, 3, 4, 1, 0] rfl)
                        · subst r58
                          have q226 : s_r S (4 * p + w) (zn S 7 (4 * p + w)) = 0 := vD_nos hO hD hp (by omega) q209 hb215
                          refine z_if_eq_n (tgt := 225) hx hb dL_areChannelsSo_218 (by decide) (by omega) (fun h218_67 => ?_) (fun h218_67 => by omega)
                          refine lv_iconst (v := (nI (0))) hx hb dL_areChannelsSo_225 (by decide) ?_
                          refine z_gt_n (tgt := 253) hx hb dL_areChannelsSo_226 (by decide) (by omega) (by omega) (fun h226_68 => by omega) (fun h226_68 => ?_)
                          refine lv_aload_n hx hb dL_areChannelsSo_229 rfl (lv_at hl 1 rfl) ?_
                          refine lv_iload hx hb dL_areChannelsSo_230 (lv_at hl 4 rfl) ?_
                          refine lv_iload_n hx hb dL_areChannelsSo_232 rfl (lv_at hl 3 rfl) ?_
                          refine z_callV_i (As := [.int (nI (p)), .int (nI (w))]) (rest := []) (w := wX cI cZ ad) ⟨hx, hb, hml, hown, hts⟩ hF hR (c_X4_isBlocked_ok hG S (p) (w) hO (by omega) (by omega)) (cwV 2 hts gL_areChannelsSo_X4_isBlocked rfl rfl rfl (by decide +kernel) ⟨Nat.le_of_ble_eq_true rfl, Nat.le_of_ble_eq_true rfl⟩) (wX_c0 S) rfl rfl rfl hl rfl (Nat.le_of_ble_eq_true rfl) (by decide) dL_areChannelsSo_233 (fun r69 S69 H locs hp69 hR => ?_)
                          obtain ⟨hp69, hs69⟩ := hp69
                          subst S69
                          rcases hp69 with ⟨hb233, hr69⟩ | ⟨hb233, hr69⟩
                          · subst r69
                            have q233 := vD_blk hD (by omega) hb233
                            have q239 : s_r S (4 * p + w) (zn S 7 (4 * p + w)) = 0 := s_r_zno q233.1
                            refine z_if_eq_n (tgt := 255) hx hb dL_areChannelsSo_236 (by decide) (by omega) (fun h236_70 => by omega) (fun h236_70 => ?_)
                            refine lv_iload hx hb dL_areChannelsSo_239 (lv_at hl 5 rfl) ?_
                            refine z_if_gt_n (tgt := 253) hx hb dL_areChannelsSo_241 (by decide) (by omega) (fun h241_71 => by omega) (fun h241_71 => ?_)
                            refine lv_aload_n hx hb dL_areChannelsSo_244 rfl (lv_at hl 1 rfl) ?_
                            refine lv_iload hx hb dL_areChannelsSo_245 (lv_at hl 4 rfl) ?_
                            refine z_callV_i (As := [.int (nI (p))]) (rest := []) (w := wX cI cZ ad) ⟨hx, hb, hml, hown, hts⟩ hF hR (c_X4_hasSent_ok hG S (p) hO (by omega)) (cwV 1 hts gL_areChannelsSo_X4_hasSent rfl rfl rfl (by decide +kernel) ⟨Nat.le_of_ble_eq_true rfl, Nat.le_of_ble_eq_true rfl⟩) (wX_c0 S) rfl rfl rfl hl rfl (Nat.le_of_ble_eq_true rfl) (by decide) dL_areChannelsSo_247 (fun r72 S72 H locs hp72 hR => ?_)
                            obtain ⟨hp72, hs72⟩ := hp72
                            subst S72
                            rcases hp72 with ⟨hb247, hr72⟩ | ⟨hb247, hr72⟩
                            · subst r72
                              refine z_if_ne_n (tgt := 255) hx hb dL_areChannelsSo_250 (by decide) (by omega) (fun h250_73 => ?_) (fun h250_73 => by omega)
                              refine lv_iinc (v := (nI (p + 1))) (lv' := [(4, .int (nI (p + 1))), (3, .int (nI (s_b S w (p + 1)))), (0, .ref (ad 0)), (1, .int (nI (s_g (zn S 22 0) w))), (2, .int (nI (w))), (5, .int (nI (s_r S (4 * p + w) (zn S 7 (4 * p + w))))), (6, .int (nI (g))), (7, .int (nI (j)))]) hx hb dL_areChannelsSo_255 hl (k := 4) rfl (z_inc _) (by decide) rfl (fun ls hl => ?_)
                              refine lv_goto (tgt := 17) hx hb dL_areChannelsSo_258 (by decide) ?_
                              exact ih17 (p + 1) (by omega) (by omega) _ _ hR ls (lv_sub hl [2, 3, 4, 1, 0] rfl)
                            · exact absurd ⟨q233.2.1, q233.2.2.1⟩ hb247
                          · subst r69
                            refine z_if_eq_n (tgt := 255) hx hb dL_areChannelsSo_236 (by decide) (by omega) (fun h236_74 => ?_) (fun h236_74 => by omega)
                            refine lv_iinc (v := (nI (p + 1))) (lv' := [(4, .int (nI (p + 1))), (3, .int (nI (s_b S w (p + 1)))), (0, .ref (ad 0)), (1, .int (nI (s_g (zn S 22 0) w))), (2, .int (nI (w))), (5, .int (nI (s_r S (4 * p + w) (zn S 7 (4 * p + w))))), (6, .int (nI (g))), (7, .int (nI (j)))]) hx hb dL_areChannelsSo_255 hl (k := 4) rfl (z_inc _) (by decide) rfl (fun ls hl => ?_)
                            refine lv_goto (tgt := 17) hx hb dL_areChannelsSo_258 (by decide) ?_
                            exact ih17 (p + 1) (by omega) (by omega) _ _ hR ls (lv_sub hl [2, 3, 4, 1, 0] rfl)
                    · subst r44
                      have q178 : s_b S w (p + 1) = s_b S w p + 0 := s_b_0 hb178
                      refine z_if_eq_n (tgt := 188) hx hb dL_areChannelsSo_181 (by decide) (by omega) (fun h181_75 => ?_) (fun h181_75 => by omega)
                      refine lv_iconst (v := (nI (0))) hx hb dL_areChannelsSo_188 (by decide) ?_
                      refine z_iadd_n hx hb dL_areChannelsSo_189 ?_
                      refine lv_topi (fun v76 ev76 => ?_)
                      obtain rfl : v76 = (nI (s_b S w (p + 1))) := ev76.trans (congrArg nI q178.symm)
                      refine lv_istore_n (lv' := [(3, .int (nI (s_b S w (p + 1)))), (0, .ref (ad 0)), (1, .int (nI (s_g (zn S 22 0) w))), (2, .int (nI (w))), (4, .int (nI (p))), (5, .int (nI (s_r S (4 * p + w) (zn S 7 (4 * p + w))))), (6, .int (nI (g))), (7, .int (nI (j)))]) hx hb dL_areChannelsSo_190 rfl hl (by decide) rfl (fun ls hl => ?_)
                      refine lv_aload_n hx hb dL_areChannelsSo_191 rfl (lv_at hl 1 rfl) ?_
                      refine lv_iload hx hb dL_areChannelsSo_192 (lv_at hl 4 rfl) ?_
                      refine lv_iload_n hx hb dL_areChannelsSo_194 rfl (lv_at hl 3 rfl) ?_
                      refine z_callV_i (As := [.int (nI (p)), .int (nI (w))]) (rest := []) (w := wX cI cZ ad) ⟨hx, hb, hml, hown, hts⟩ hF hR (c_X4_queued_ok hG S (p) (w) hO (by omega) (by omega)) (cwV 2 hts gL_areChannelsSo_X4_queued rfl rfl rfl (by decide +kernel) ⟨Nat.le_of_ble_eq_true rfl, Nat.le_of_ble_eq_true rfl⟩) (wX_c0 S) rfl rfl rfl hl rfl (Nat.le_of_ble_eq_true rfl) (by decide) dL_areChannelsSo_195 (fun r77 S77 H locs hp77 hR => ?_)
                      obtain ⟨hr77, hs77⟩ := hp77
                      subst r77
                      subst S77
                      have hb195 := (hO.n7 (4 * p + w)).2
                      refine lv_bipush (v := (nI (8))) hx hb dL_areChannelsSo_198 (by decide) ?_
                      refine z_gt_n (tgt := 253) hx hb dL_areChannelsSo_200 (by decide) (by omega) (by omega) (fun h200_78 => by omega) (fun h200_78 => ?_)
                      refine lv_iload hx hb dL_areChannelsSo_203 (lv_at hl 5 rfl) ?_
                      refine lv_aload_n hx hb dL_areChannelsSo_205 rfl (lv_at hl 1 rfl) ?_
                      refine z_callV_i (As := []) (rest := [.int (nI (s_r S (4 * p + w) (zn S 7 (4 * p + w))))]) (w := wX cI cZ ad) ⟨hx, hb, hml, hown, hts⟩ hF hR (c_X4_underWay hG S hO) (cwV 0 hts gL_areChannelsSo_X4_underWay rfl rfl rfl (by decide +kernel) ⟨Nat.le_of_ble_eq_true rfl, Nat.le_of_ble_eq_true rfl⟩) (wX_c0 S) rfl rfl rfl hl rfl (Nat.le_of_ble_eq_true rfl) (by decide) dL_areChannelsSo_206 (fun r79 S79 H locs hp79 hR => ?_)
                      obtain ⟨hr79, hs79⟩ := hp79
                      subst r79
                      subst S79
                      refine lv_if_lt (tgt := 225) hx hb dL_areChannelsSo_209 (by decide) (fun h209_80 => ?_) (fun h209_80 => ?_)
                      · skip
                        have q226 : s_r S (4 * p + w) (zn S 7 (4 * p + w)) = 0 := s_r_none (vD_neg2 hD hk1 h209_80) _
                        refine lv_iconst (v := (nI (0))) hx hb dL_areChannelsSo_225 (by decide) ?_
                        refine z_gt_n (tgt := 253) hx hb dL_areChannelsSo_226 (by decide) (by omega) (by omega) (fun h226_81 => by omega) (fun h226_81 => ?_)
                        refine lv_aload_n hx hb dL_areChannelsSo_229 rfl (lv_at hl 1 rfl) ?_
                        refine lv_iload hx hb dL_areChannelsSo_230 (lv_at hl 4 rfl) ?_
                        refine lv_iload_n hx hb dL_areChannelsSo_232 rfl (lv_at hl 3 rfl) ?_
                        refine z_callV_i (As := [.int (nI (p)), .int (nI (w))]) (rest := []) (w := wX cI cZ ad) ⟨hx, hb, hml, hown, hts⟩ hF hR (c_X4_isBlocked_ok hG S (p) (w) hO (by omega) (by omega)) (cwV 2 hts gL_areChannelsSo_X4_isBlocked rfl rfl rfl (by decide +kernel) ⟨Nat.le_of_ble_eq_true rfl, Nat.le_of_ble_eq_true rfl⟩) (wX_c0 S) rfl rfl rfl hl rfl (Nat.le_of_ble_eq_true rfl) (by decide) dL_areChannelsSo_233 (fun r82 S82 H locs hp82 hR => ?_)
                        obtain ⟨hp82, hs82⟩ := hp82
                        subst S82
                        rcases hp82 with ⟨hb233, hr82⟩ | ⟨hb233, hr82⟩
                        · subst r82
                          have q233 := vD_blk hD (by omega) hb233
                          have q239 : s_r S (4 * p + w) (zn S 7 (4 * p + w)) = 0 := s_r_zno q233.1
                          refine z_if_eq_n (tgt := 255) hx hb dL_areChannelsSo_236 (by decide) (by omega) (fun h236_83 => by omega) (fun h236_83 => ?_)
                          refine lv_iload hx hb dL_areChannelsSo_239 (lv_at hl 5 rfl) ?_
                          refine z_if_gt_n (tgt := 253) hx hb dL_areChannelsSo_241 (by decide) (by omega) (fun h241_84 => by omega) (fun h241_84 => ?_)
                          refine lv_aload_n hx hb dL_areChannelsSo_244 rfl (lv_at hl 1 rfl) ?_
                          refine lv_iload hx hb dL_areChannelsSo_245 (lv_at hl 4 rfl) ?_
                          refine z_callV_i (As := [.int (nI (p))]) (rest := []) (w := wX cI cZ ad) ⟨hx, hb, hml, hown, hts⟩ hF hR (c_X4_hasSent_ok hG S (p) hO (by omega)) (cwV 1 hts gL_areChannelsSo_X4_hasSent rfl rfl rfl (by decide +kernel) ⟨Nat.le_of_ble_eq_true rfl, Nat.le_of_ble_eq_true rfl⟩) (wX_c0 S) rfl rfl rfl hl rfl (Nat.le_of_ble_eq_true rfl) (by decide) dL_areChannelsSo_247 (fun r85 S85 H locs hp85 hR => ?_)
                          obtain ⟨hp85, hs85⟩ := hp85
                          subst S85
                          rcases hp85 with ⟨hb247, hr85⟩ | ⟨hb247, hr85⟩
                          · subst r85
                            refine z_if_ne_n (tgt := 255) hx hb dL_areChannelsSo_250 (by decide) (by omega) (fun h250_86 => ?_) (fun h250_86 => by omega)
                            refine lv_iinc (v := (nI (p + 1))) (lv' := [(4, .int (nI (p + 1))), (3, .int (nI (s_b S w (p + 1)))), (0, .ref (ad 0)), (1, .int (nI (s_g (zn S 22 0) w))), (2, .int (nI (w))), (5, .int (nI (s_r S (4 * p + w) (zn S 7 (4 * p + w))))), (6, .int (nI (g))), (7, .int (nI (j)))]) hx hb dL_areChannelsSo_255 hl (k := 4) rfl (z_inc _) (by decide) rfl (fun ls hl => ?_)
                            refine lv_goto (tgt := 17) hx hb dL_areChannelsSo_258 (by decide) ?_
                            exact ih17 (p + 1) (by omega) (by omega) _ _ hR ls (lv_sub hl [2, 3, 4, 1, 0] rfl)
                          · exact absurd ⟨q233.2.1, q233.2.2.1⟩ hb247
                        · subst r82
                          refine z_if_eq_n (tgt := 255) hx hb dL_areChannelsSo_236 (by decide) (by omega) (fun h236_87 => ?_) (fun h236_87 => by omega)
                          refine lv_iinc (v := (nI (p + 1))) (lv' := [(4, .int (nI (p + 1))), (3, .int (nI (s_b S w (p + 1)))), (0, .ref (ad 0)), (1, .int (nI (s_g (zn S 22 0) w))), (2, .int (nI (w))), (5, .int (nI (s_r S (4 * p + w) (zn S 7 (4 * p + w))))), (6, .int (nI (g))), (7, .int (nI (j)))]) hx hb dL_areChannelsSo_255 hl (k := 4) rfl (z_inc _) (by decide) rfl (fun ls hl => ?_)
                          refine lv_goto (tgt := 17) hx hb dL_areChannelsSo_258 (by decide) ?_
                          exact ih17 (p + 1) (by omega) (by omega) _ _ hR ls (lv_sub hl [2, 3, 4, 1, 0] rfl)
                      · skip
                        have q209 := h209_80
                        refine lv_aload_n hx hb dL_areChannelsSo_212 rfl (lv_at hl 1 rfl) ?_
                        refine lv_iload hx hb dL_areChannelsSo_213 (lv_at hl 4 rfl) ?_
                        refine z_callV_i (As := [.int (nI (p))]) (rest := [.int (nI (s_r S (4 * p + w) (zn S 7 (4 * p + w))))]) (w := wX cI cZ ad) ⟨hx, hb, hml, hown, hts⟩ hF hR (c_X4_hasSent_ok hG S (p) hO (by omega)) (cwV 1 hts gL_areChannelsSo_X4_hasSent rfl rfl rfl (by decide +kernel) ⟨Nat.le_of_ble_eq_true rfl, Nat.le_of_ble_eq_true rfl⟩) (wX_c0 S) rfl rfl rfl hl rfl (Nat.le_of_ble_eq_true rfl) (by decide) dL_areChannelsSo_215 (fun r88 S88 H locs hp88 hR => ?_)
                        obtain ⟨hp88, hs88⟩ := hp88
                        subst S88
                        rcases hp88 with ⟨hb215, hr88⟩ | ⟨hb215, hr88⟩
                        · subst r88
                          have q226 : s_r S (4 * p + w) (zn S 7 (4 * p + w)) ≤ 1 := vD_one hD (by omega) hb215.1
                          refine z_if_eq_n (tgt := 225) hx hb dL_areChannelsSo_218 (by decide) (by omega) (fun h218_89 => by omega) (fun h218_89 => ?_)
                          refine lv_iconst (v := (nI (1))) hx hb dL_areChannelsSo_221 (by decide) ?_
                          refine lv_goto (tgt := 226) hx hb dL_areChannelsSo_222 (by decide) ?_
                          refine z_gt_n (tgt := 253) hx hb dL_areChannelsSo_226 (by decide) (by omega) (by omega) (fun h226_90 => by omega) (fun h226_90 => ?_)
                          refine lv_aload_n hx hb dL_areChannelsSo_229 rfl (lv_at hl 1 rfl) ?_
                          refine lv_iload hx hb dL_areChannelsSo_230 (lv_at hl 4 rfl) ?_
                          refine lv_iload_n hx hb dL_areChannelsSo_232 rfl (lv_at hl 3 rfl) ?_
                          refine z_callV_i (As := [.int (nI (p)), .int (nI (w))]) (rest := []) (w := wX cI cZ ad) ⟨hx, hb, hml, hown, hts⟩ hF hR (c_X4_isBlocked_ok hG S (p) (w) hO (by omega) (by omega)) (cwV 2 hts gL_areChannelsSo_X4_isBlocked rfl rfl rfl (by decide +kernel) ⟨Nat.le_of_ble_eq_true rfl, Nat.le_of_ble_eq_true rfl⟩) (wX_c0 S) rfl rfl rfl hl rfl (Nat.le_of_ble_eq_true rfl) (by decide) dL_areChannelsSo_233 (fun r91 S91 H locs hp91 hR => ?_)
                          obtain ⟨hp91, hs91⟩ := hp91
                          subst S91
                          rcases hp91 with ⟨hb233, hr91⟩ | ⟨hb233, hr91⟩
                          · subst r91
                            have q233 := vD_blk hD (by omega) hb233
                            have q239 : s_r S (4 * p + w) (zn S 7 (4 * p + w)) = 0 := s_r_zno q233.1
                            refine z_if_eq_n (tgt := 255) hx hb dL_areChannelsSo_236 (by decide) (by omega) (fun h236_92 => by omega) (fun h236_92 => ?_)
                            refine lv_iload hx hb dL_areChannelsSo_239 (lv_at hl 5 rfl) ?_
                            refine z_if_gt_n (tgt := 253) hx hb dL_areChannelsSo_241 (by decide) (by omega) (fun h241_93 => by omega) (fun h241_93 => ?_)
                            refine lv_aload_n hx hb dL_areChannelsSo_244 rfl (lv_at hl 1 rfl) ?_
                            refine lv_iload hx hb dL_areChannelsSo_245 (lv_at hl 4 rfl) ?_
                            refine z_callV_i (As := [.int (nI (p))]) (rest := []) (w := wX cI cZ ad) ⟨hx, hb, hml, hown, hts⟩ hF hR (c_X4_hasSent_ok hG S (p) hO (by omega)) (cwV 1 hts gL_areChannelsSo_X4_hasSent rfl rfl rfl (by decide +kernel) ⟨Nat.le_of_ble_eq_true rfl, Nat.le_of_ble_eq_true rfl⟩) (wX_c0 S) rfl rfl rfl hl rfl (Nat.le_of_ble_eq_true rfl) (by decide) dL_areChannelsSo_247 (fun r94 S94 H locs hp94 hR => ?_)
                            obtain ⟨hp94, hs94⟩ := hp94
                            subst S94
                            rcases hp94 with ⟨hb247, hr94⟩ | ⟨hb247, hr94⟩
                            · subst r94
                              refine z_if_ne_n (tgt := 255) hx hb dL_areChannelsSo_250 (by decide) (by omega) (fun h250_95 => ?_) (fun h250_95 => by omega)
                              refine lv_iinc (v := (nI (p + 1))) (lv' := [(4, .int (nI (p + 1))), (3, .int (nI (s_b S w (p + 1)))), (0, .ref (ad 0)), (1, .int (nI (s_g (zn S 22 0) w))), (2, .int (nI (w))), (5, .int (nI (s_r S (4 * p + w) (zn S 7 (4 * p + w))))), (6, .int (nI (g))), (7, .int (nI (j)))]) hx hb dL_areChannelsSo_255 hl (k := 4) rfl (z_inc _) (by decide) rfl (fun ls hl => ?_)
                              refine lv_goto (tgt := 17) hx hb dL_areChannelsSo_258 (by decide) ?_
                              exact ih17 (p + 1) (by omega) (by omega) _ _ hR ls (lv_sub hl [2, 3, 4, 1, 0] rfl)
                            · exact absurd ⟨q233.2.1, q233.2.2.1⟩ hb247
                          · subst r91
                            refine z_if_eq_n (tgt := 255) hx hb dL_areChannelsSo_236 (by decide) (by omega) (fun h236_96 => ?_) (fun h236_96 => by omega)
                            refine lv_iinc (v := (nI (p + 1))) (lv' := [(4, .int (nI (p + 1))), (3, .int (nI (s_b S w (p + 1)))), (0, .ref (ad 0)), (1, .int (nI (s_g (zn S 22 0) w))), (2, .int (nI (w))), (5, .int (nI (s_r S (4 * p + w) (zn S 7 (4 * p + w))))), (6, .int (nI (g))), (7, .int (nI (j)))]) hx hb dL_areChannelsSo_255 hl (k := 4) rfl (z_inc _) (by decide) rfl (fun ls hl => ?_)
                            refine lv_goto (tgt := 17) hx hb dL_areChannelsSo_258 (by decide) ?_
                            exact ih17 (p + 1) (by omega) (by omega) _ _ hR ls (lv_sub hl [2, 3, 4, 1, 0] rfl)
                        · subst r88
                          have q226 : s_r S (4 * p + w) (zn S 7 (4 * p + w)) = 0 := vD_nos hO hD hp (by omega) q209 hb215
                          refine z_if_eq_n (tgt := 225) hx hb dL_areChannelsSo_218 (by decide) (by omega) (fun h218_97 => ?_) (fun h218_97 => by omega)
                          refine lv_iconst (v := (nI (0))) hx hb dL_areChannelsSo_225 (by decide) ?_
                          refine z_gt_n (tgt := 253) hx hb dL_areChannelsSo_226 (by decide) (by omega) (by omega) (fun h226_98 => by omega) (fun h226_98 => ?_)
                          refine lv_aload_n hx hb dL_areChannelsSo_229 rfl (lv_at hl 1 rfl) ?_
                          refine lv_iload hx hb dL_areChannelsSo_230 (lv_at hl 4 rfl) ?_
                          refine lv_iload_n hx hb dL_areChannelsSo_232 rfl (lv_at hl 3 rfl) ?_
                          refine z_callV_i (As := [.int (nI (p)), .int (nI (w))]) (rest := []) (w := wX cI cZ ad) ⟨hx, hb, hml, hown, hts⟩ hF hR (c_X4_isBlocked_ok hG S (p) (w) hO (by omega) (by omega)) (cwV 2 hts gL_areChannelsSo_X4_isBlocked rfl rfl rfl (by decide +kernel) ⟨Nat.le_of_ble_eq_true rfl, Nat.le_of_ble_eq_true rfl⟩) (wX_c0 S) rfl rfl rfl hl rfl (Nat.le_of_ble_eq_true rfl) (by decide) dL_areChannelsSo_233 (fun r99 S99 H locs hp99 hR => ?_)
                          obtain ⟨hp99, hs99⟩ := hp99
                          subst S99
                          rcases hp99 with ⟨hb233, hr99⟩ | ⟨hb233, hr99⟩
                          · subst r99
                            have q233 := vD_blk hD (by omega) hb233
                            have q239 : s_r S (4 * p + w) (zn S 7 (4 * p + w)) = 0 := s_r_zno q233.1
                            refine z_if_eq_n (tgt := 255) hx hb dL_areChannelsSo_236 (by decide) (by omega) (fun h236_100 => by omega) (fun h236_100 => ?_)
                            refine lv_iload hx hb dL_areChannelsSo_239 (lv_at hl 5 rfl) ?_
                            refine z_if_gt_n (tgt := 253) hx hb dL_areChannelsSo_241 (by decide) (by omega) (fun h241_101 => by omega) (fun h241_101 => ?_)
                            refine lv_aload_n hx hb dL_areChannelsSo_244 rfl (lv_at hl 1 rfl) ?_
                            refine lv_iload hx hb dL_areChannelsSo_245 (lv_at hl 4 rfl) ?_
                            refine z_callV_i (As := [.int (nI (p))]) (rest := []) (w := wX cI cZ ad) ⟨hx, hb, hml, hown, hts⟩ hF hR (c_X4_hasSent_ok hG S (p) hO (by omega)) (cwV 1 hts gL_areChannelsSo_X4_hasSent rfl rfl rfl (by decide +kernel) ⟨Nat.le_of_ble_eq_true rfl, Nat.le_of_ble_eq_true rfl⟩) (wX_c0 S) rfl rfl rfl hl rfl (Nat.le_of_ble_eq_true rfl) (by decide) dL_areChannelsSo_247 (fun r102 S102 H locs hp102 hR => ?_)
                            obtain ⟨hp102, hs102⟩ := hp102
                            subst S102
                            rcases hp102 with ⟨hb247, hr102⟩ | ⟨hb247, hr102⟩
                            · subst r102
                              refine z_if_ne_n (tgt := 255) hx hb dL_areChannelsSo_250 (by decide) (by omega) (fun h250_103 => ?_) (fun h250_103 => by omega)
                              refine lv_iinc (v := (nI (p + 1))) (lv' := [(4, .int (nI (p + 1))), (3, .int (nI (s_b S w (p + 1)))), (0, .ref (ad 0)), (1, .int (nI (s_g (zn S 22 0) w))), (2, .int (nI (w))), (5, .int (nI (s_r S (4 * p + w) (zn S 7 (4 * p + w))))), (6, .int (nI (g))), (7, .int (nI (j)))]) hx hb dL_areChannelsSo_255 hl (k := 4) rfl (z_inc _) (by decide) rfl (fun ls hl => ?_)
                              refine lv_goto (tgt := 17) hx hb dL_areChannelsSo_258 (by decide) ?_
                              exact ih17 (p + 1) (by omega) (by omega) _ _ hR ls (lv_sub hl [2, 3, 4, 1, 0] rfl)
                            · exact absurd ⟨q233.2.1, q233.2.2.1⟩ hb247
                          · subst r99
                            refine z_if_eq_n (tgt := 255) hx hb dL_areChannelsSo_236 (by decide) (by omega) (fun h236_104 => ?_) (fun h236_104 => by omega)
                            refine lv_iinc (v := (nI (p + 1))) (lv' := [(4, .int (nI (p + 1))), (3, .int (nI (s_b S w (p + 1)))), (0, .ref (ad 0)), (1, .int (nI (s_g (zn S 22 0) w))), (2, .int (nI (w))), (5, .int (nI (s_r S (4 * p + w) (zn S 7 (4 * p + w))))), (6, .int (nI (g))), (7, .int (nI (j)))]) hx hb dL_areChannelsSo_255 hl (k := 4) rfl (z_inc _) (by decide) rfl (fun ls hl => ?_)
                            refine lv_goto (tgt := 17) hx hb dL_areChannelsSo_258 (by decide) ?_
                            exact ih17 (p + 1) (by omega) (by omega) _ _ hR ls (lv_sub hl [2, 3, 4, 1, 0] rfl)
                  · skip
                    refine lv_aload_n hx hb dL_areChannelsSo_44 rfl (lv_at hl 0 rfl) ?_
                    refine lv_iload hx hb dL_areChannelsSo_45 (lv_at hl 4 rfl) ?_
                    refine lv_iload_n hx hb dL_areChannelsSo_47 rfl (lv_at hl 2 rfl) ?_
                    refine lv_iload hx hb dL_areChannelsSo_48 (lv_at hl 7 rfl) ?_
                    refine z_callV_i (As := [.int (nI (p)), .int (nI (w)), .int (nI (j))]) (rest := []) (w := wX cI cZ ad) ⟨hx, hb, hml, hown, hts⟩ hF hR (c_X4_itemAt_ok hG S (p) (w) (j) hO (by omega) (by omega) (by omega)) (cwV 3 hts gL_areChannelsSo_X4_itemAt rfl rfl rfl (by decide +kernel) ⟨Nat.le_of_ble_eq_true rfl, Nat.le_of_ble_eq_true rfl⟩) (wX_c0 S) rfl rfl rfl hl rfl (Nat.le_of_ble_eq_true rfl) (by decide) dL_areChannelsSo_50 (fun r105 S105 H locs hp105 hR => ?_)
                    obtain ⟨hr105, hs105⟩ := hp105
                    subst r105
                    subst S105
                    refine lv_istore (lv' := [(8, .int (S 6 (8 * (4 * p + w) + j))), (0, .ref (ad 0)), (1, .int (nI (s_g (zn S 22 0) w))), (2, .int (nI (w))), (3, .int (nI (s_b S w p))), (4, .int (nI (p))), (5, .int (nI (s_r S (4 * p + w) j))), (6, .int (nI (g))), (7, .int (nI (j)))]) hx hb dL_areChannelsSo_53 hl (by decide) rfl (fun ls hl => ?_)
                    refine lv_iload hx hb dL_areChannelsSo_55 (lv_at hl 6 rfl) ?_
                    refine lv_iload hx hb dL_areChannelsSo_57 (lv_at hl 0 rfl) ?_
                    refine lv_if_ge (tgt := 76) hx hb dL_areChannelsSo_59 (by decide) (fun h59_106 => ?_) (fun h59_106 => ?_)
                    · skip
                      have q5 : s_r S (4 * p + w) (j + 1) = s_r S (4 * p + w) j + 0 := s_r_0 (fun z => absurd z.1 (Int32.not_lt.mpr h59_106))
                      refine lv_iconst (v := (nI (0))) hx hb dL_areChannelsSo_76 (by decide) ?_
                      refine z_iadd_n hx hb dL_areChannelsSo_77 ?_
                      refine lv_topi (fun v107 ev107 => ?_)
                      obtain rfl : v107 = (nI (s_r S (4 * p + w) (j + 1))) := ev107.trans (congrArg nI q5.symm)
                      refine lv_istore (lv' := [(5, .int (nI (s_r S (4 * p + w) (j + 1)))), (8, .int (S 6 (8 * (4 * p + w) + j))), (0, .ref (ad 0)), (1, .int (nI (s_g (zn S 22 0) w))), (2, .int (nI (w))), (3, .int (nI (s_b S w p))), (4, .int (nI (p))), (6, .int (nI (g))), (7, .int (nI (j)))]) hx hb dL_areChannelsSo_78 hl (by decide) rfl (fun ls hl => ?_)
                      have loop80 : ∀ (nf80 : Nat) (g : Nat), (g ≤ zn S 2 p) → (∀ i, j ≤ i → i < zn S 7 (4 * p + w) → 0 < S 6 (8 * (4 * p + w) + i) → g ≤ f i) → zn S 2 p - g < nf80 → ∀ (H : Heap) (locs : List Loc), zR D B (wX cI cZ ad S) s H locs → ∀ ls : Array Slot, lv_has ls 9 [(0, .ref (ad 0)), (1, .int (nI (s_g (zn S 22 0) w))), (2, .int (nI (w))), (3, .int (nI (s_b S w p))), (4, .int (nI (p))), (5, .int (nI (s_r S (4 * p + w) (j + 1)))), (6, .int (nI (g))), (7, .int (nI (j))), (8, .int (S 6 (8 * (4 * p + w) + j)))] → W pg l en ({ frames := 8, cells := 0, slots := 0, locals := 127 } : Room) s mm ([.ref (ad 0)] : List Value).toArray below meth cd H locs 0 0 (MQ below (va_Qi (fun (r : Int32) (S1 : zS) => r = (nI (1)) ∧ S1 = S) (zB D (zT cI cZ) (wX cI cZ ad)) (zA B s.heap.size)) ([.ref (ad 0)] : List Value).toArray s 0 0 (zA B s.heap.size)) (F0 mm 80 ls []) := by
                        intro nf80
                        induction nf80 with
                        | zero => intro g hg2 hgs hn; exact absurd hn (Nat.not_lt_zero _)
                        | succ nf80 ih80 =>
                          intro g hg2 hgs hn H locs hR ls hl
                          refine lv_iload hx hb dL_areChannelsSo_80 (lv_at hl 8 rfl) ?_
                          refine lv_if_le (tgt := 115) hx hb dL_areChannelsSo_82 (by decide) (fun h82_108 => ?_) (fun h82_108 => ?_)
                          · skip
                            have q82 := h82_108
                            refine lv_iload hx hb dL_areChannelsSo_115 (lv_at hl 8 rfl) ?_
                            refine lv_if_eq (tgt := 150) hx hb dL_areChannelsSo_117 (by decide) (fun h117_109 => by first | omega | exact absurd h117_109 (hCi j (by omega)).1) (fun h117_109 => ?_)
                            refine lv_iload hx hb dL_areChannelsSo_120 (lv_at hl 8 rfl) ?_
                            refine lv_if_le (tgt := 152) hx hb dL_areChannelsSo_122 (by decide) (fun h122_110 => ?_) (fun h122_110 => absurd q82 h122_110)
                            refine lv_iload hx hb dL_areChannelsSo_152 (lv_at hl 6 rfl) ?_
                            refine lv_iload hx hb dL_areChannelsSo_154 (lv_at hl 8 rfl) ?_
                            refine lv_if_le (tgt := 163) hx hb dL_areChannelsSo_156 (by decide) (fun h156_111 => ?_) (fun h156_111 => absurd q82 h156_111)
                            refine lv_iconst (v := (nI (0))) hx hb dL_areChannelsSo_163 (by decide) ?_
                            refine z_iadd_n hx hb dL_areChannelsSo_164 ?_
                            refine lv_istore (lv' := [(6, .int (nI (g + 0))), (0, .ref (ad 0)), (1, .int (nI (s_g (zn S 22 0) w))), (2, .int (nI (w))), (3, .int (nI (s_b S w p))), (4, .int (nI (p))), (5, .int (nI (s_r S (4 * p + w) (j + 1)))), (7, .int (nI (j))), (8, .int (S 6 (8 * (4 * p + w) + j)))]) hx hb dL_areChannelsSo_165 hl (by decide) rfl (fun ls hl => ?_)
                            refine lv_iinc (v := (nI (j + 1))) (lv' := [(7, .int (nI (j + 1))), (6, .int (nI (g + 0))), (0, .ref (ad 0)), (1, .int (nI (s_g (zn S 22 0) w))), (2, .int (nI (w))), (3, .int (nI (s_b S w p))), (4, .int (nI (p))), (5, .int (nI (s_r S (4 * p + w) (j + 1)))), (8, .int (S 6 (8 * (4 * p + w) + j)))]) hx hb dL_areChannelsSo_167 hl (k := 7) rfl (z_inc _) (by decide) rfl (fun ls hl => ?_)
                            refine lv_goto (tgt := 32) hx hb dL_areChannelsSo_170 (by decide) ?_
                            exact ih32 (j + 1) g (by omega) hg2 (fun i i1 i2 i3 => hgs i (by omega) i2 i3) (by omega) _ _ hR ls (lv_sub hl [2, 3, 4, 5, 6, 7, 1, 0] rfl)
                          · skip
                            have q82 : 0 < S 6 (8 * (4 * p + w) + j) := Int32.not_le.mp h82_108
                            obtain ⟨f1, f2, f3⟩ := hCf j (by omega) q82
                            have f4 := hgs j (Nat.le_refl j) (by omega) q82
                            have hb8 := (zOK.pos hO q82).2
                            have hq8 : 1 ≤ zn S 6 (8 * (4 * p + w) + j) := Nat.pos_of_ne_zero (fun z => by have e := (zOK.pos hO q82).1; rw [z] at e; rw [e] at q82; exact absurd q82 (by decide))
                            have hk8 : zn S 6 (8 * (4 * p + w) + j) / 1000 < 32 := by rw [← f2]; exact ((hI.1 p hp).2.2.2 _ (Nat.lt_of_lt_of_le f1 (hI.1 p hp).1)).2.2
                            have hl : lv_has ls 9 [(0, .ref (ad 0)), (1, .int (nI (s_g (zn S 22 0) w))), (2, .int (nI (w))), (3, .int (nI (s_b S w p))), (4, .int (nI (p))), (5, .int (nI (s_r S (4 * p + w) (j + 1)))), (6, .int (nI (g))), (7, .int (nI (j))), (8, .int (nI (zn S 6 (8 * (4 * p + w) + j))))] := (by rw [← (zOK.pos hO q82).1]; exact hl)
                            refine lv_iload hx hb dL_areChannelsSo_85 (lv_at hl 6 rfl) ?_
                            refine lv_aload_n hx hb dL_areChannelsSo_87 rfl (lv_at hl 0 rfl) ?_
                            refine lv_iload hx hb dL_areChannelsSo_88 (lv_at hl 4 rfl) ?_
                            refine z_callV_i (As := [.int (nI (p))]) (rest := [.int (nI (g))]) (w := wX cI cZ ad) ⟨hx, hb, hml, hown, hts⟩ hF hR (c_X4_offset_ok hG S (p) hO (by omega)) (cwV 1 hts gL_areChannelsSo_X4_offset rfl rfl rfl (by decide +kernel) ⟨Nat.le_of_ble_eq_true rfl, Nat.le_of_ble_eq_true rfl⟩) (wX_c0 S) rfl rfl rfl hl rfl (Nat.le_of_ble_eq_true rfl) (by decide) dL_areChannelsSo_90 (fun r112 S112 H locs hp112 hR => ?_)
                            obtain ⟨hr112, hs112⟩ := hp112
                            subst r112
                            subst S112
                            refine z_ge_n (tgt := 115) hx hb dL_areChannelsSo_93 (by decide) (by omega) (by omega) (fun h93_113 => by omega) (fun h93_113 => ?_)
                            refine lv_aload_n hx hb dL_areChannelsSo_96 rfl (lv_at hl 0 rfl) ?_
                            refine lv_iload hx hb dL_areChannelsSo_97 (lv_at hl 4 rfl) ?_
                            refine lv_iload hx hb dL_areChannelsSo_99 (lv_at hl 6 rfl) ?_
                            refine z_callV_i (As := [.int (nI (p)), .int (nI (g))]) (rest := []) (w := wX cI cZ ad) ⟨hx, hb, hml, hown, hts⟩ hF hR (c_X4_eventAt_ok hG S (p) (g) hO (by omega) (Nat.lt_of_lt_of_le (show g < zn S 2 p by omega) (hI.1 p hp).1)) (cwV 2 hts gL_areChannelsSo_X4_eventAt rfl rfl rfl (by decide +kernel) ⟨Nat.le_of_ble_eq_true rfl, Nat.le_of_ble_eq_true rfl⟩) (wX_c0 S) rfl rfl rfl hl rfl (Nat.le_of_ble_eq_true rfl) (by decide) dL_areChannelsSo_101 (fun r114 S114 H locs hp114 hR => ?_)
                            obtain ⟨hr114, hs114⟩ := hp114
                            subst r114
                            subst S114
                            have hb101 := (zOK.n1 hO (60 * p + g)).2
                            refine lv_iload hx hb dL_areChannelsSo_104 (lv_at hl 8 rfl) ?_
                            refine z_eq_n (tgt := 115) hx hb dL_areChannelsSo_106 (by decide) (by omega) (by omega) (fun h106_115 => ?_) (fun h106_115 => ?_)
                            · skip
                              have q106 := h106_115
                              refine lv_iload hx hb dL_areChannelsSo_115 (lv_at hl 8 rfl) ?_
                              refine z_if_eq_n (tgt := 150) hx hb dL_areChannelsSo_117 (by decide) (by omega) (fun h117_116 => by first | omega | exact absurd h117_116 (hCi j (by omega)).1) (fun h117_116 => ?_)
                              refine lv_iload hx hb dL_areChannelsSo_120 (lv_at hl 8 rfl) ?_
                              refine z_if_le_n (tgt := 152) hx hb dL_areChannelsSo_122 (by decide) (by omega) (fun h122_117 => by omega) (fun h122_117 => ?_)
                              refine lv_iload hx hb dL_areChannelsSo_125 (lv_at hl 6 rfl) ?_
                              refine lv_aload_n hx hb dL_areChannelsSo_127 rfl (lv_at hl 0 rfl) ?_
                              refine lv_iload hx hb dL_areChannelsSo_128 (lv_at hl 4 rfl) ?_
                              refine z_callV_i (As := [.int (nI (p))]) (rest := [.int (nI (g))]) (w := wX cI cZ ad) ⟨hx, hb, hml, hown, hts⟩ hF hR (c_X4_offset_ok hG S (p) hO (by omega)) (cwV 1 hts gL_areChannelsSo_X4_offset rfl rfl rfl (by decide +kernel) ⟨Nat.le_of_ble_eq_true rfl, Nat.le_of_ble_eq_true rfl⟩) (wX_c0 S) rfl rfl rfl hl rfl (Nat.le_of_ble_eq_true rfl) (by decide) dL_areChannelsSo_130 (fun r118 S118 H locs hp118 hR => ?_)
                              obtain ⟨hr118, hs118⟩ := hp118
                              subst r118
                              subst S118
                              refine z_eq_n (tgt := 150) hx hb dL_areChannelsSo_133 (by decide) (by omega) (by omega) (fun h133_119 => by omega) (fun h133_119 => ?_)
                              refine lv_aload_n hx hb dL_areChannelsSo_136 rfl (lv_at hl 0 rfl) ?_
                              refine lv_iload hx hb dL_areChannelsSo_137 (lv_at hl 8 rfl) ?_
                              refine lv_sipush (v := (nI (1000))) hx hb dL_areChannelsSo_139 (by decide) ?_
                              refine z_idiv_n hx hb dL_areChannelsSo_142 (by omega) (by omega) (by omega) ?_
                              refine z_callV_i (As := [.int (nI ((zn S 6 (8 * (4 * p + w) + j)) / 1000))]) (rest := []) (w := wX cI cZ ad) ⟨hx, hb, hml, hown, hts⟩ hF hR (c_X4_workerOf_ok hG S ((zn S 6 (8 * (4 * p + w) + j)) / 1000) hO (by omega)) (cwV 1 hts gL_areChannelsSo_X4_workerOf rfl rfl rfl (by decide +kernel) ⟨Nat.le_of_ble_eq_true rfl, Nat.le_of_ble_eq_true rfl⟩) (wX_c0 S) rfl rfl rfl hl rfl (Nat.le_of_ble_eq_true rfl) (by decide) dL_areChannelsSo_143 (fun r120 S120 H locs hp120 hR => ?_)
                              obtain ⟨hr120, hs120⟩ := hp120
                              subst r120
                              subst S120
                              have hb143 := (hO.own (zn S 6 (8 * (4 * p + w) + j) / 1000)).2
                              refine lv_iload_n hx hb dL_areChannelsSo_146 rfl (lv_at hl 2 rfl) ?_
                              refine z_eq_n (tgt := 152) hx hb dL_areChannelsSo_147 (by decide) (by omega) (by omega) (fun h147_121 => ?_) (fun h147_121 => absurd ((hCi j (by omega)).2 q82) h147_121)
                              refine lv_iload hx hb dL_areChannelsSo_152 (lv_at hl 6 rfl) ?_
                              refine lv_iload hx hb dL_areChannelsSo_154 (lv_at hl 8 rfl) ?_
                              refine z_if_le_n (tgt := 163) hx hb dL_areChannelsSo_156 (by decide) (by omega) (fun h156_122 => by omega) (fun h156_122 => ?_)
                              refine lv_iconst (v := (nI (1))) hx hb dL_areChannelsSo_159 (by decide) ?_
                              refine lv_goto (tgt := 164) hx hb dL_areChannelsSo_160 (by decide) ?_
                              refine z_iadd_n hx hb dL_areChannelsSo_164 ?_
                              refine lv_istore (lv' := [(6, .int (nI (g + 1))), (0, .ref (ad 0)), (1, .int (nI (s_g (zn S 22 0) w))), (2, .int (nI (w))), (3, .int (nI (s_b S w p))), (4, .int (nI (p))), (5, .int (nI (s_r S (4 * p + w) (j + 1)))), (7, .int (nI (j))), (8, .int (nI (zn S 6 (8 * (4 * p + w) + j))))]) hx hb dL_areChannelsSo_165 hl (by decide) rfl (fun ls hl => ?_)
                              refine lv_iinc (v := (nI (j + 1))) (lv' := [(7, .int (nI (j + 1))), (6, .int (nI (g + 1))), (0, .ref (ad 0)), (1, .int (nI (s_g (zn S 22 0) w))), (2, .int (nI (w))), (3, .int (nI (s_b S w p))), (4, .int (nI (p))), (5, .int (nI (s_r S (4 * p + w) (j + 1)))), (8, .int (nI (zn S 6 (8 * (4 * p + w) + j))))]) hx hb dL_areChannelsSo_167 hl (k := 7) rfl (z_inc _) (by decide) rfl (fun ls hl => ?_)
                              refine lv_goto (tgt := 32) hx hb dL_areChannelsSo_170 (by decide) ?_
                              exact ih32 (j + 1) (g + 1) (by omega) (by omega) (fun i i1 i2 i3 => by have h9 := (hCf i i2 i3).2.2 j (by omega) q82; omega) (by omega) _ _ hR ls (lv_sub hl [2, 3, 4, 5, 6, 7, 1, 0] rfl)
                            · skip
                              have q106 := h106_115
                              have q9 : g ≠ f j := fun z => q106 (by rw [z]; exact f2)
                              have hl : lv_has ls 9 [(0, .ref (ad 0)), (1, .int (nI (s_g (zn S 22 0) w))), (2, .int (nI (w))), (3, .int (nI (s_b S w p))), (4, .int (nI (p))), (5, .int (nI (s_r S (4 * p + w) (j + 1)))), (6, .int (nI (g))), (7, .int (nI (j))), (8, .int (S 6 (8 * (4 * p + w) + j)))] := (by rw [(zOK.pos hO q82).1]; exact hl)
                              refine lv_iinc (v := (nI (g + 1))) (lv' := [(6, .int (nI (g + 1))), (0, .ref (ad 0)), (1, .int (nI (s_g (zn S 22 0) w))), (2, .int (nI (w))), (3, .int (nI (s_b S w p))), (4, .int (nI (p))), (5, .int (nI (s_r S (4 * p + w) (j + 1)))), (7, .int (nI (j))), (8, .int (S 6 (8 * (4 * p + w) + j)))]) hx hb dL_areChannelsSo_109 hl (k := 6) rfl (z_inc _) (by decide) rfl (fun ls hl => ?_)
                              refine lv_goto (tgt := 80) hx hb dL_areChannelsSo_112 (by decide) ?_
                              exact ih80 (g + 1) (by omega) (fun i i1 i2 i3 => (Nat.lt_or_eq_of_le i1).elim (fun h => by have h9 := (hCf i i2 i3).2.2 j h q82; omega) (fun h => by subst h; omega)) (by omega) _ _ hR ls (lv_sub hl [1, 2, 3, 4, 5, 6, 0, 7, 8] rfl)
                      exact loop80 _ g hg2 hgs (Nat.lt_succ_self _) _ _ hR ls (lv_sub hl [2, 3, 4, 5, 6, 0, 7, 8, 1] rfl)
                    · skip
                      have q59 := Int32.not_le.mp h59_106
                      refine lv_iload hx hb dL_areChannelsSo_62 (lv_at hl 0 rfl) ?_
                      refine lv_aload_n hx hb dL_areChannelsSo_64 rfl (lv_at hl 1 rfl) ?_
                      refine z_callV_i (As := []) (rest := [.int (S 6 (8 * (4 * p + w) + j)), .int (nI (s_r S (4 * p + w) j))]) (w := wX cI cZ ad) ⟨hx, hb, hml, hown, hts⟩ hF hR (c_X4_underWay hG S hO) (cwV 0 hts gL_areChannelsSo_X4_underWay rfl rfl rfl (by decide +kernel) ⟨Nat.le_of_ble_eq_true rfl, Nat.le_of_ble_eq_true rfl⟩) (wX_c0 S) rfl rfl rfl hl rfl (Nat.le_of_ble_eq_true rfl) (by decide) dL_areChannelsSo_65 (fun r123 S123 H locs hp123 hR => ?_)
                      obtain ⟨hr123, hs123⟩ := hp123
                      subst r123
                      subst S123
                      refine lv_ineg hx hb dL_areChannelsSo_68 ?_
                      refine lv_icmp_ne (tgt := 76) hx hb dL_areChannelsSo_69 (by decide) (fun h69_124 => ?_) (fun h69_124 => ?_)
                      · skip
                        have q5 : s_r S (4 * p + w) (j + 1) = s_r S (4 * p + w) j + 0 := s_r_0 (fun z => h69_124 z.2)
                        refine lv_iconst (v := (nI (0))) hx hb dL_areChannelsSo_76 (by decide) ?_
                        refine z_iadd_n hx hb dL_areChannelsSo_77 ?_
                        refine lv_topi (fun v125 ev125 => ?_)
                        obtain rfl : v125 = (nI (s_r S (4 * p + w) (j + 1))) := ev125.trans (congrArg nI q5.symm)
                        refine lv_istore (lv' := [(5, .int (nI (s_r S (4 * p + w) (j + 1)))), (8, .int (S 6 (8 * (4 * p + w) + j))), (0, .ref (ad 0)), (1, .int (nI (s_g (zn S 22 0) w))), (2, .int (nI (w))), (3, .int (nI (s_b S w p))), (4, .int (nI (p))), (6, .int (nI (g))), (7, .int (nI (j)))]) hx hb dL_areChannelsSo_78 hl (by decide) rfl (fun ls hl => ?_)
                        have loop80 : ∀ (nf80 : Nat) (g : Nat), (g ≤ zn S 2 p) → (∀ i, j ≤ i → i < zn S 7 (4 * p + w) → 0 < S 6 (8 * (4 * p + w) + i) → g ≤ f i) → zn S 2 p - g < nf80 → ∀ (H : Heap) (locs : List Loc), zR D B (wX cI cZ ad S) s H locs → ∀ ls : Array Slot, lv_has ls 9 [(0, .ref (ad 0)), (1, .int (nI (s_g (zn S 22 0) w))), (2, .int (nI (w))), (3, .int (nI (s_b S w p))), (4, .int (nI (p))), (5, .int (nI (s_r S (4 * p + w) (j + 1)))), (6, .int (nI (g))), (7, .int (nI (j))), (8, .int (S 6 (8 * (4 * p + w) + j)))] → W pg l en ({ frames := 8, cells := 0, slots := 0, locals := 127 } : Room) s mm ([.ref (ad 0)] : List Value).toArray below meth cd H locs 0 0 (MQ below (va_Qi (fun (r : Int32) (S1 : zS) => r = (nI (1)) ∧ S1 = S) (zB D (zT cI cZ) (wX cI cZ ad)) (zA B s.heap.size)) ([.ref (ad 0)] : List Value).toArray s 0 0 (zA B s.heap.size)) (F0 mm 80 ls []) := by
                          intro nf80
                          induction nf80 with
                          | zero => intro g hg2 hgs hn; exact absurd hn (Nat.not_lt_zero _)
                          | succ nf80 ih80 =>
                            intro g hg2 hgs hn H locs hR ls hl
                            refine lv_iload hx hb dL_areChannelsSo_80 (lv_at hl 8 rfl) ?_
                            refine lv_if_le (tgt := 115) hx hb dL_areChannelsSo_82 (by decide) (fun h82_126 => ?_) (fun h82_126 => ?_)
                            · skip
                              have q82 := h82_126
                              refine lv_iload hx hb dL_areChannelsSo_115 (lv_at hl 8 rfl) ?_
                              refine lv_if_eq (tgt := 150) hx hb dL_areChannelsSo_117 (by decide) (fun h117_127 => by first | omega | exact absurd h117_127 (hCi j (by omega)).1) (fun h117_127 => ?_)
                              refine lv_iload hx hb dL_areChannelsSo_120 (lv_at hl 8 rfl) ?_
                              refine lv_if_le (tgt := 152) hx hb dL_areChannelsSo_122 (by decide) (fun h122_128 => ?_) (fun h122_128 => absurd q82 h122_128)
                              refine lv_iload hx hb dL_areChannelsSo_152 (lv_at hl 6 rfl) ?_
                              refine lv_iload hx hb dL_areChannelsSo_154 (lv_at hl 8 rfl) ?_
                              refine lv_if_le (tgt := 163) hx hb dL_areChannelsSo_156 (by decide) (fun h156_129 => ?_) (fun h156_129 => absurd q82 h156_129)
                              refine lv_iconst (v := (nI (0))) hx hb dL_areChannelsSo_163 (by decide) ?_
                              refine z_iadd_n hx hb dL_areChannelsSo_164 ?_
                              refine lv_istore (lv' := [(6, .int (nI (g + 0))), (0, .ref (ad 0)), (1, .int (nI (s_g (zn S 22 0) w))), (2, .int (nI (w))), (3, .int (nI (s_b S w p))), (4, .int (nI (p))), (5, .int (nI (s_r S (4 * p + w) (j + 1)))), (7, .int (nI (j))), (8, .int (S 6 (8 * (4 * p + w) + j)))]) hx hb dL_areChannelsSo_165 hl (by decide) rfl (fun ls hl => ?_)
                              refine lv_iinc (v := (nI (j + 1))) (lv' := [(7, .int (nI (j + 1))), (6, .int (nI (g + 0))), (0, .ref (ad 0)), (1, .int (nI (s_g (zn S 22 0) w))), (2, .int (nI (w))), (3, .int (nI (s_b S w p))), (4, .int (nI (p))), (5, .int (nI (s_r S (4 * p + w) (j + 1)))), (8, .int (S 6 (8 * (4 * p + w) + j)))]) hx hb dL_areChannelsSo_167 hl (k := 7) rfl (z_inc _) (by decide) rfl (fun ls hl => ?_)
                              refine lv_goto (tgt := 32) hx hb dL_areChannelsSo_170 (by decide) ?_
                              exact ih32 (j + 1) g (by omega) hg2 (fun i i1 i2 i3 => hgs i (by omega) i2 i3) (by omega) _ _ hR ls (lv_sub hl [2, 3, 4, 5, 6, 7, 1, 0] rfl)
                            · skip
                              have q82 : 0 < S 6 (8 * (4 * p + w) + j) := Int32.not_le.mp h82_126
                              obtain ⟨f1, f2, f3⟩ := hCf j (by omega) q82
                              have f4 := hgs j (Nat.le_refl j) (by omega) q82
                              have hb8 := (zOK.pos hO q82).2
                              have hq8 : 1 ≤ zn S 6 (8 * (4 * p + w) + j) := Nat.pos_of_ne_zero (fun z => by have e := (zOK.pos hO q82).1; rw [z] at e; rw [e] at q82; exact absurd q82 (by decide))
                              have hk8 : zn S 6 (8 * (4 * p + w) + j) / 1000 < 32 := by rw [← f2]; exact ((hI.1 p hp).2.2.2 _ (Nat.lt_of_lt_of_le f1 (hI.1 p hp).1)).2.2
                              have hl : lv_has ls 9 [(0, .ref (ad 0)), (1, .int (nI (s_g (zn S 22 0) w))), (2, .int (nI (w))), (3, .int (nI (s_b S w p))), (4, .int (nI (p))), (5, .int (nI (s_r S (4 * p + w) (j + 1)))), (6, .int (nI (g))), (7, .int (nI (j))), (8, .int (nI (zn S 6 (8 * (4 * p + w) + j))))] := (by rw [← (zOK.pos hO q82).1]; exact hl)
                              refine lv_iload hx hb dL_areChannelsSo_85 (lv_at hl 6 rfl) ?_
                              refine lv_aload_n hx hb dL_areChannelsSo_87 rfl (lv_at hl 0 rfl) ?_
                              refine lv_iload hx hb dL_areChannelsSo_88 (lv_at hl 4 rfl) ?_
                              refine z_callV_i (As := [.int (nI (p))]) (rest := [.int (nI (g))]) (w := wX cI cZ ad) ⟨hx, hb, hml, hown, hts⟩ hF hR (c_X4_offset_ok hG S (p) hO (by omega)) (cwV 1 hts gL_areChannelsSo_X4_offset rfl rfl rfl (by decide +kernel) ⟨Nat.le_of_ble_eq_true rfl, Nat.le_of_ble_eq_true rfl⟩) (wX_c0 S) rfl rfl rfl hl rfl (Nat.le_of_ble_eq_true rfl) (by decide) dL_areChannelsSo_90 (fun r130 S130 H locs hp130 hR => ?_)
                              obtain ⟨hr130, hs130⟩ := hp130
                              subst r130
                              subst S130
                              refine z_ge_n (tgt := 115) hx hb dL_areChannelsSo_93 (by decide) (by omega) (by omega) (fun h93_131 => by omega) (fun h93_131 => ?_)
                              refine lv_aload_n hx hb dL_areChannelsSo_96 rfl (lv_at hl 0 rfl) ?_
                              refine lv_iload hx hb dL_areChannelsSo_97 (lv_at hl 4 rfl) ?_
                              refine lv_iload hx hb dL_areChannelsSo_99 (lv_at hl 6 rfl) ?_
                              refine z_callV_i (As := [.int (nI (p)), .int (nI (g))]) (rest := []) (w := wX cI cZ ad) ⟨hx, hb, hml, hown, hts⟩ hF hR (c_X4_eventAt_ok hG S (p) (g) hO (by omega) (Nat.lt_of_lt_of_le (show g < zn S 2 p by omega) (hI.1 p hp).1)) (cwV 2 hts gL_areChannelsSo_X4_eventAt rfl rfl rfl (by decide +kernel) ⟨Nat.le_of_ble_eq_true rfl, Nat.le_of_ble_eq_true rfl⟩) (wX_c0 S) rfl rfl rfl hl rfl (Nat.le_of_ble_eq_true rfl) (by decide) dL_areChannelsSo_101 (fun r132 S132 H locs hp132 hR => ?_)
                              obtain ⟨hr132, hs132⟩ := hp132
                              subst r132
                              subst S132
                              have hb101 := (zOK.n1 hO (60 * p + g)).2
                              refine lv_iload hx hb dL_areChannelsSo_104 (lv_at hl 8 rfl) ?_
                              refine z_eq_n (tgt := 115) hx hb dL_areChannelsSo_106 (by decide) (by omega) (by omega) (fun h106_133 => ?_) (fun h106_133 => ?_)
                              · skip
                                have q106 := h106_133
                                refine lv_iload hx hb dL_areChannelsSo_115 (lv_at hl 8 rfl) ?_
                                refine z_if_eq_n (tgt := 150) hx hb dL_areChannelsSo_117 (by decide) (by omega) (fun h117_134 => by first | omega | exact absurd h117_134 (hCi j (by omega)).1) (fun h117_134 => ?_)
                                refine lv_iload hx hb dL_areChannelsSo_120 (lv_at hl 8 rfl) ?_
                                refine z_if_le_n (tgt := 152) hx hb dL_areChannelsSo_122 (by decide) (by omega) (fun h122_135 => by omega) (fun h122_135 => ?_)
                                refine lv_iload hx hb dL_areChannelsSo_125 (lv_at hl 6 rfl) ?_
                                refine lv_aload_n hx hb dL_areChannelsSo_127 rfl (lv_at hl 0 rfl) ?_
                                refine lv_iload hx hb dL_areChannelsSo_128 (lv_at hl 4 rfl) ?_
                                refine z_callV_i (As := [.int (nI (p))]) (rest := [.int (nI (g))]) (w := wX cI cZ ad) ⟨hx, hb, hml, hown, hts⟩ hF hR (c_X4_offset_ok hG S (p) hO (by omega)) (cwV 1 hts gL_areChannelsSo_X4_offset rfl rfl rfl (by decide +kernel) ⟨Nat.le_of_ble_eq_true rfl, Nat.le_of_ble_eq_true rfl⟩) (wX_c0 S) rfl rfl rfl hl rfl (Nat.le_of_ble_eq_true rfl) (by decide) dL_areChannelsSo_130 (fun r136 S136 H locs hp136 hR => ?_)
                                obtain ⟨hr136, hs136⟩ := hp136
                                subst r136
                                subst S136
                                refine z_eq_n (tgt := 150) hx hb dL_areChannelsSo_133 (by decide) (by omega) (by omega) (fun h133_137 => by omega) (fun h133_137 => ?_)
                                refine lv_aload_n hx hb dL_areChannelsSo_136 rfl (lv_at hl 0 rfl) ?_
                                refine lv_iload hx hb dL_areChannelsSo_137 (lv_at hl 8 rfl) ?_
                                refine lv_sipush (v := (nI (1000))) hx hb dL_areChannelsSo_139 (by decide) ?_
                                refine z_idiv_n hx hb dL_areChannelsSo_142 (by omega) (by omega) (by omega) ?_
                                refine z_callV_i (As := [.int (nI ((zn S 6 (8 * (4 * p + w) + j)) / 1000))]) (rest := []) (w := wX cI cZ ad) ⟨hx, hb, hml, hown, hts⟩ hF hR (c_X4_workerOf_ok hG S ((zn S 6 (8 * (4 * p + w) + j)) / 1000) hO (by omega)) (cwV 1 hts gL_areChannelsSo_X4_workerOf rfl rfl rfl (by decide +kernel) ⟨Nat.le_of_ble_eq_true rfl, Nat.le_of_ble_eq_true rfl⟩) (wX_c0 S) rfl rfl rfl hl rfl (Nat.le_of_ble_eq_true rfl) (by decide) dL_areChannelsSo_143 (fun r138 S138 H locs hp138 hR => ?_)
                                obtain ⟨hr138, hs138⟩ := hp138
                                subst r138
                                subst S138
                                have hb143 := (hO.own (zn S 6 (8 * (4 * p + w) + j) / 1000)).2
                                refine lv_iload_n hx hb dL_areChannelsSo_146 rfl (lv_at hl 2 rfl) ?_
                                refine z_eq_n (tgt := 152) hx hb dL_areChannelsSo_147 (by decide) (by omega) (by omega) (fun h147_139 => ?_) (fun h147_139 => absurd ((hCi j (by omega)).2 q82) h147_139)
                                refine lv_iload hx hb dL_areChannelsSo_152 (lv_at hl 6 rfl) ?_
                                refine lv_iload hx hb dL_areChannelsSo_154 (lv_at hl 8 rfl) ?_
                                refine z_if_le_n (tgt := 163) hx hb dL_areChannelsSo_156 (by decide) (by omega) (fun h156_140 => by omega) (fun h156_140 => ?_)
                                refine lv_iconst (v := (nI (1))) hx hb dL_areChannelsSo_159 (by decide) ?_
                                refine lv_goto (tgt := 164) hx hb dL_areChannelsSo_160 (by decide) ?_
                                refine z_iadd_n hx hb dL_areChannelsSo_164 ?_
                                refine lv_istore (lv' := [(6, .int (nI (g + 1))), (0, .ref (ad 0)), (1, .int (nI (s_g (zn S 22 0) w))), (2, .int (nI (w))), (3, .int (nI (s_b S w p))), (4, .int (nI (p))), (5, .int (nI (s_r S (4 * p + w) (j + 1)))), (7, .int (nI (j))), (8, .int (nI (zn S 6 (8 * (4 * p + w) + j))))]) hx hb dL_areChannelsSo_165 hl (by decide) rfl (fun ls hl => ?_)
                                refine lv_iinc (v := (nI (j + 1))) (lv' := [(7, .int (nI (j + 1))), (6, .int (nI (g + 1))), (0, .ref (ad 0)), (1, .int (nI (s_g (zn S 22 0) w))), (2, .int (nI (w))), (3, .int (nI (s_b S w p))), (4, .int (nI (p))), (5, .int (nI (s_r S (4 * p + w) (j + 1)))), (8, .int (nI (zn S 6 (8 * (4 * p + w) + j))))]) hx hb dL_areChannelsSo_167 hl (k := 7) rfl (z_inc _) (by decide) rfl (fun ls hl => ?_)
                                refine lv_goto (tgt := 32) hx hb dL_areChannelsSo_170 (by decide) ?_
                                exact ih32 (j + 1) (g + 1) (by omega) (by omega) (fun i i1 i2 i3 => by have h9 := (hCf i i2 i3).2.2 j (by omega) q82; omega) (by omega) _ _ hR ls (lv_sub hl [2, 3, 4, 5, 6, 7, 1, 0] rfl)
                              · skip
                                have q106 := h106_133
                                have q9 : g ≠ f j := fun z => q106 (by rw [z]; exact f2)
                                have hl : lv_has ls 9 [(0, .ref (ad 0)), (1, .int (nI (s_g (zn S 22 0) w))), (2, .int (nI (w))), (3, .int (nI (s_b S w p))), (4, .int (nI (p))), (5, .int (nI (s_r S (4 * p + w) (j + 1)))), (6, .int (nI (g))), (7, .int (nI (j))), (8, .int (S 6 (8 * (4 * p + w) + j)))] := (by rw [(zOK.pos hO q82).1]; exact hl)
                                refine lv_iinc (v := (nI (g + 1))) (lv' := [(6, .int (nI (g + 1))), (0, .ref (ad 0)), (1, .int (nI (s_g (zn S 22 0) w))), (2, .int (nI (w))), (3, .int (nI (s_b S w p))), (4, .int (nI (p))), (5, .int (nI (s_r S (4 * p + w) (j + 1)))), (7, .int (nI (j))), (8, .int (S 6 (8 * (4 * p + w) + j)))]) hx hb dL_areChannelsSo_109 hl (k := 6) rfl (z_inc _) (by decide) rfl (fun ls hl => ?_)
                                refine lv_goto (tgt := 80) hx hb dL_areChannelsSo_112 (by decide) ?_
                                exact ih80 (g + 1) (by omega) (fun i i1 i2 i3 => (Nat.lt_or_eq_of_le i1).elim (fun h => by have h9 := (hCf i i2 i3).2.2 j h q82; omega) (fun h => by subst h; omega)) (by omega) _ _ hR ls (lv_sub hl [1, 2, 3, 4, 5, 6, 0, 7, 8] rfl)
                        exact loop80 _ g hg2 hgs (Nat.lt_succ_self _) _ _ hR ls (lv_sub hl [2, 3, 4, 5, 6, 0, 7, 8, 1] rfl)
                      · skip
                        have q5 : s_r S (4 * p + w) (j + 1) = s_r S (4 * p + w) j + 1 := s_r_1 ⟨q59, h69_124⟩
                        refine lv_iconst (v := (nI (1))) hx hb dL_areChannelsSo_72 (by decide) ?_
                        refine lv_goto (tgt := 77) hx hb dL_areChannelsSo_73 (by decide) ?_
                        refine z_iadd_n hx hb dL_areChannelsSo_77 ?_
                        refine lv_topi (fun v141 ev141 => ?_)
                        obtain rfl : v141 = (nI (s_r S (4 * p + w) (j + 1))) := ev141.trans (congrArg nI q5.symm)
                        refine lv_istore (lv' := [(5, .int (nI (s_r S (4 * p + w) (j + 1)))), (8, .int (S 6 (8 * (4 * p + w) + j))), (0, .ref (ad 0)), (1, .int (nI (s_g (zn S 22 0) w))), (2, .int (nI (w))), (3, .int (nI (s_b S w p))), (4, .int (nI (p))), (6, .int (nI (g))), (7, .int (nI (j)))]) hx hb dL_areChannelsSo_78 hl (by decide) rfl (fun ls hl => ?_)
                        have loop80 : ∀ (nf80 : Nat) (g : Nat), (g ≤ zn S 2 p) → (∀ i, j ≤ i → i < zn S 7 (4 * p + w) → 0 < S 6 (8 * (4 * p + w) + i) → g ≤ f i) → zn S 2 p - g < nf80 → ∀ (H : Heap) (locs : List Loc), zR D B (wX cI cZ ad S) s H locs → ∀ ls : Array Slot, lv_has ls 9 [(0, .ref (ad 0)), (1, .int (nI (s_g (zn S 22 0) w))), (2, .int (nI (w))), (3, .int (nI (s_b S w p))), (4, .int (nI (p))), (5, .int (nI (s_r S (4 * p + w) (j + 1)))), (6, .int (nI (g))), (7, .int (nI (j))), (8, .int (S 6 (8 * (4 * p + w) + j)))] → W pg l en ({ frames := 8, cells := 0, slots := 0, locals := 127 } : Room) s mm ([.ref (ad 0)] : List Value).toArray below meth cd H locs 0 0 (MQ below (va_Qi (fun (r : Int32) (S1 : zS) => r = (nI (1)) ∧ S1 = S) (zB D (zT cI cZ) (wX cI cZ ad)) (zA B s.heap.size)) ([.ref (ad 0)] : List Value).toArray s 0 0 (zA B s.heap.size)) (F0 mm 80 ls []) := by
                          intro nf80
                          induction nf80 with
                          | zero => intro g hg2 hgs hn; exact absurd hn (Nat.not_lt_zero _)
                          | succ nf80 ih80 =>
                            intro g hg2 hgs hn H locs hR ls hl
                            refine lv_iload hx hb dL_areChannelsSo_80 (lv_at hl 8 rfl) ?_
                            refine lv_if_le (tgt := 115) hx hb dL_areChannelsSo_82 (by decide) (fun h82_142 => ?_) (fun h82_142 => ?_)
                            · skip
                              have q82 := h82_142
                              refine lv_iload hx hb dL_areChannelsSo_115 (lv_at hl 8 rfl) ?_
                              refine lv_if_eq (tgt := 150) hx hb dL_areChannelsSo_117 (by decide) (fun h117_143 => by first | omega | exact absurd h117_143 (hCi j (by omega)).1) (fun h117_143 => ?_)
                              refine lv_iload hx hb dL_areChannelsSo_120 (lv_at hl 8 rfl) ?_
                              refine lv_if_le (tgt := 152) hx hb dL_areChannelsSo_122 (by decide) (fun h122_144 => ?_) (fun h122_144 => absurd q82 h122_144)
                              refine lv_iload hx hb dL_areChannelsSo_152 (lv_at hl 6 rfl) ?_
                              refine lv_iload hx hb dL_areChannelsSo_154 (lv_at hl 8 rfl) ?_
                              refine lv_if_le (tgt := 163) hx hb dL_areChannelsSo_156 (by decide) (fun h156_145 => ?_) (fun h156_145 => absurd q82 h156_145)
                              refine lv_iconst (v := (nI (0))) hx hb dL_areChannelsSo_163 (by decide) ?_
                              refine z_iadd_n hx hb dL_areChannelsSo_164 ?_
                              refine lv_istore (lv' := [(6, .int (nI (g + 0))), (0, .ref (ad 0)), (1, .int (nI (s_g (zn S 22 0) w))), (2, .int (nI (w))), (3, .int (nI (s_b S w p))), (4, .int (nI (p))), (5, .int (nI (s_r S (4 * p + w) (j + 1)))), (7, .int (nI (j))), (8, .int (S 6 (8 * (4 * p + w) + j)))]) hx hb dL_areChannelsSo_165 hl (by decide) rfl (fun ls hl => ?_)
                              refine lv_iinc (v := (nI (j + 1))) (lv' := [(7, .int (nI (j + 1))), (6, .int (nI (g + 0))), (0, .ref (ad 0)), (1, .int (nI (s_g (zn S 22 0) w))), (2, .int (nI (w))), (3, .int (nI (s_b S w p))), (4, .int (nI (p))), (5, .int (nI (s_r S (4 * p + w) (j + 1)))), (8, .int (S 6 (8 * (4 * p + w) + j)))]) hx hb dL_areChannelsSo_167 hl (k := 7) rfl (z_inc _) (by decide) rfl (fun ls hl => ?_)
                              refine lv_goto (tgt := 32) hx hb dL_areChannelsSo_170 (by decide) ?_
                              exact ih32 (j + 1) g (by omega) hg2 (fun i i1 i2 i3 => hgs i (by omega) i2 i3) (by omega) _ _ hR ls (lv_sub hl [2, 3, 4, 5, 6, 7, 1, 0] rfl)
                            · skip
                              have q82 : 0 < S 6 (8 * (4 * p + w) + j) := Int32.not_le.mp h82_142
                              obtain ⟨f1, f2, f3⟩ := hCf j (by omega) q82
                              have f4 := hgs j (Nat.le_refl j) (by omega) q82
                              have hb8 := (zOK.pos hO q82).2
                              have hq8 : 1 ≤ zn S 6 (8 * (4 * p + w) + j) := Nat.pos_of_ne_zero (fun z => by have e := (zOK.pos hO q82).1; rw [z] at e; rw [e] at q82; exact absurd q82 (by decide))
                              have hk8 : zn S 6 (8 * (4 * p + w) + j) / 1000 < 32 := by rw [← f2]; exact ((hI.1 p hp).2.2.2 _ (Nat.lt_of_lt_of_le f1 (hI.1 p hp).1)).2.2
                              have hl : lv_has ls 9 [(0, .ref (ad 0)), (1, .int (nI (s_g (zn S 22 0) w))), (2, .int (nI (w))), (3, .int (nI (s_b S w p))), (4, .int (nI (p))), (5, .int (nI (s_r S (4 * p + w) (j + 1)))), (6, .int (nI (g))), (7, .int (nI (j))), (8, .int (nI (zn S 6 (8 * (4 * p + w) + j))))] := (by rw [← (zOK.pos hO q82).1]; exact hl)
                              refine lv_iload hx hb dL_areChannelsSo_85 (lv_at hl 6 rfl) ?_
                              refine lv_aload_n hx hb dL_areChannelsSo_87 rfl (lv_at hl 0 rfl) ?_
                              refine lv_iload hx hb dL_areChannelsSo_88 (lv_at hl 4 rfl) ?_
                              refine z_callV_i (As := [.int (nI (p))]) (rest := [.int (nI (g))]) (w := wX cI cZ ad) ⟨hx, hb, hml, hown, hts⟩ hF hR (c_X4_offset_ok hG S (p) hO (by omega)) (cwV 1 hts gL_areChannelsSo_X4_offset rfl rfl rfl (by decide +kernel) ⟨Nat.le_of_ble_eq_true rfl, Nat.le_of_ble_eq_true rfl⟩) (wX_c0 S) rfl rfl rfl hl rfl (Nat.le_of_ble_eq_true rfl) (by decide) dL_areChannelsSo_90 (fun r146 S146 H locs hp146 hR => ?_)
                              obtain ⟨hr146, hs146⟩ := hp146
                              subst r146
                              subst S146
                              refine z_ge_n (tgt := 115) hx hb dL_areChannelsSo_93 (by decide) (by omega) (by omega) (fun h93_147 => by omega) (fun h93_147 => ?_)
                              refine lv_aload_n hx hb dL_areChannelsSo_96 rfl (lv_at hl 0 rfl) ?_
                              refine lv_iload hx hb dL_areChannelsSo_97 (lv_at hl 4 rfl) ?_
                              refine lv_iload hx hb dL_areChannelsSo_99 (lv_at hl 6 rfl) ?_
                              refine z_callV_i (As := [.int (nI (p)), .int (nI (g))]) (rest := []) (w := wX cI cZ ad) ⟨hx, hb, hml, hown, hts⟩ hF hR (c_X4_eventAt_ok hG S (p) (g) hO (by omega) (Nat.lt_of_lt_of_le (show g < zn S 2 p by omega) (hI.1 p hp).1)) (cwV 2 hts gL_areChannelsSo_X4_eventAt rfl rfl rfl (by decide +kernel) ⟨Nat.le_of_ble_eq_true rfl, Nat.le_of_ble_eq_true rfl⟩) (wX_c0 S) rfl rfl rfl hl rfl (Nat.le_of_ble_eq_true rfl) (by decide) dL_areChannelsSo_101 (fun r148 S148 H locs hp148 hR => ?_)
                              obtain ⟨hr148, hs148⟩ := hp148
                              subst r148
                              subst S148
                              have hb101 := (zOK.n1 hO (60 * p + g)).2
                              refine lv_iload hx hb dL_areChannelsSo_104 (lv_at hl 8 rfl) ?_
                              refine z_eq_n (tgt := 115) hx hb dL_areChannelsSo_106 (by decide) (by omega) (by omega) (fun h106_149 => ?_) (fun h106_149 => ?_)
                              · skip
                                have q106 := h106_149
                                refine lv_iload hx hb dL_areChannelsSo_115 (lv_at hl 8 rfl) ?_
                                refine z_if_eq_n (tgt := 150) hx hb dL_areChannelsSo_117 (by decide) (by omega) (fun h117_150 => by first | omega | exact absurd h117_150 (hCi j (by omega)).1) (fun h117_150 => ?_)
                                refine lv_iload hx hb dL_areChannelsSo_120 (lv_at hl 8 rfl) ?_
                                refine z_if_le_n (tgt := 152) hx hb dL_areChannelsSo_122 (by decide) (by omega) (fun h122_151 => by omega) (fun h122_151 => ?_)
                                refine lv_iload hx hb dL_areChannelsSo_125 (lv_at hl 6 rfl) ?_
                                refine lv_aload_n hx hb dL_areChannelsSo_127 rfl (lv_at hl 0 rfl) ?_
                                refine lv_iload hx hb dL_areChannelsSo_128 (lv_at hl 4 rfl) ?_
                                refine z_callV_i (As := [.int (nI (p))]) (rest := [.int (nI (g))]) (w := wX cI cZ ad) ⟨hx, hb, hml, hown, hts⟩ hF hR (c_X4_offset_ok hG S (p) hO (by omega)) (cwV 1 hts gL_areChannelsSo_X4_offset rfl rfl rfl (by decide +kernel) ⟨Nat.le_of_ble_eq_true rfl, Nat.le_of_ble_eq_true rfl⟩) (wX_c0 S) rfl rfl rfl hl rfl (Nat.le_of_ble_eq_true rfl) (by decide) dL_areChannelsSo_130 (fun r152 S152 H locs hp152 hR => ?_)
                                obtain ⟨hr152, hs152⟩ := hp152
                                subst r152
                                subst S152
                                refine z_eq_n (tgt := 150) hx hb dL_areChannelsSo_133 (by decide) (by omega) (by omega) (fun h133_153 => by omega) (fun h133_153 => ?_)
                                refine lv_aload_n hx hb dL_areChannelsSo_136 rfl (lv_at hl 0 rfl) ?_
                                refine lv_iload hx hb dL_areChannelsSo_137 (lv_at hl 8 rfl) ?_
                                refine lv_sipush (v := (nI (1000))) hx hb dL_areChannelsSo_139 (by decide) ?_
                                refine z_idiv_n hx hb dL_areChannelsSo_142 (by omega) (by omega) (by omega) ?_
                                refine z_callV_i (As := [.int (nI ((zn S 6 (8 * (4 * p + w) + j)) / 1000))]) (rest := []) (w := wX cI cZ ad) ⟨hx, hb, hml, hown, hts⟩ hF hR (c_X4_workerOf_ok hG S ((zn S 6 (8 * (4 * p + w) + j)) / 1000) hO (by omega)) (cwV 1 hts gL_areChannelsSo_X4_workerOf rfl rfl rfl (by decide +kernel) ⟨Nat.le_of_ble_eq_true rfl, Nat.le_of_ble_eq_true rfl⟩) (wX_c0 S) rfl rfl rfl hl rfl (Nat.le_of_ble_eq_true rfl) (by decide) dL_areChannelsSo_143 (fun r154 S154 H locs hp154 hR => ?_)
                                obtain ⟨hr154, hs154⟩ := hp154
                                subst r154
                                subst S154
                                have hb143 := (hO.own (zn S 6 (8 * (4 * p + w) + j) / 1000)).2
                                refine lv_iload_n hx hb dL_areChannelsSo_146 rfl (lv_at hl 2 rfl) ?_
                                refine z_eq_n (tgt := 152) hx hb dL_areChannelsSo_147 (by decide) (by omega) (by omega) (fun h147_155 => ?_) (fun h147_155 => absurd ((hCi j (by omega)).2 q82) h147_155)
                                refine lv_iload hx hb dL_areChannelsSo_152 (lv_at hl 6 rfl) ?_
                                refine lv_iload hx hb dL_areChannelsSo_154 (lv_at hl 8 rfl) ?_
                                refine z_if_le_n (tgt := 163) hx hb dL_areChannelsSo_156 (by decide) (by omega) (fun h156_156 => by omega) (fun h156_156 => ?_)
                                refine lv_iconst (v := (nI (1))) hx hb dL_areChannelsSo_159 (by decide) ?_
                                refine lv_goto (tgt := 164) hx hb dL_areChannelsSo_160 (by decide) ?_
                                refine z_iadd_n hx hb dL_areChannelsSo_164 ?_
                                refine lv_istore (lv' := [(6, .int (nI (g + 1))), (0, .ref (ad 0)), (1, .int (nI (s_g (zn S 22 0) w))), (2, .int (nI (w))), (3, .int (nI (s_b S w p))), (4, .int (nI (p))), (5, .int (nI (s_r S (4 * p + w) (j + 1)))), (7, .int (nI (j))), (8, .int (nI (zn S 6 (8 * (4 * p + w) + j))))]) hx hb dL_areChannelsSo_165 hl (by decide) rfl (fun ls hl => ?_)
                                refine lv_iinc (v := (nI (j + 1))) (lv' := [(7, .int (nI (j + 1))), (6, .int (nI (g + 1))), (0, .ref (ad 0)), (1, .int (nI (s_g (zn S 22 0) w))), (2, .int (nI (w))), (3, .int (nI (s_b S w p))), (4, .int (nI (p))), (5, .int (nI (s_r S (4 * p + w) (j + 1)))), (8, .int (nI (zn S 6 (8 * (4 * p + w) + j))))]) hx hb dL_areChannelsSo_167 hl (k := 7) rfl (z_inc _) (by decide) rfl (fun ls hl => ?_)
                                refine lv_goto (tgt := 32) hx hb dL_areChannelsSo_170 (by decide) ?_
                                exact ih32 (j + 1) (g + 1) (by omega) (by omega) (fun i i1 i2 i3 => by have h9 := (hCf i i2 i3).2.2 j (by omega) q82; omega) (by omega) _ _ hR ls (lv_sub hl [2, 3, 4, 5, 6, 7, 1, 0] rfl)
                              · skip
                                have q106 := h106_149
                                have q9 : g ≠ f j := fun z => q106 (by rw [z]; exact f2)
                                have hl : lv_has ls 9 [(0, .ref (ad 0)), (1, .int (nI (s_g (zn S 22 0) w))), (2, .int (nI (w))), (3, .int (nI (s_b S w p))), (4, .int (nI (p))), (5, .int (nI (s_r S (4 * p + w) (j + 1)))), (6, .int (nI (g))), (7, .int (nI (j))), (8, .int (S 6 (8 * (4 * p + w) + j)))] := (by rw [(zOK.pos hO q82).1]; exact hl)
                                refine lv_iinc (v := (nI (g + 1))) (lv' := [(6, .int (nI (g + 1))), (0, .ref (ad 0)), (1, .int (nI (s_g (zn S 22 0) w))), (2, .int (nI (w))), (3, .int (nI (s_b S w p))), (4, .int (nI (p))), (5, .int (nI (s_r S (4 * p + w) (j + 1)))), (7, .int (nI (j))), (8, .int (S 6 (8 * (4 * p + w) + j)))]) hx hb dL_areChannelsSo_109 hl (k := 6) rfl (z_inc _) (by decide) rfl (fun ls hl => ?_)
                                refine lv_goto (tgt := 80) hx hb dL_areChannelsSo_112 (by decide) ?_
                                exact ih80 (g + 1) (by omega) (fun i i1 i2 i3 => (Nat.lt_or_eq_of_le i1).elim (fun h => by have h9 := (hCf i i2 i3).2.2 j h q82; omega) (fun h => by subst h; omega)) (by omega) _ _ hR ls (lv_sub hl [1, 2, 3, 4, 5, 6, 0, 7, 8] rfl)
                        exact loop80 _ g hg2 hgs (Nat.lt_succ_self _) _ _ hR ls (lv_sub hl [2, 3, 4, 5, 6, 0, 7, 8, 1] rfl)
              exact loop32 _ 0 0 (Nat.zero_le _) (Nat.zero_le _) (fun i _ _ _ => Nat.zero_le _) (Nat.lt_succ_self _) _ _ hR ls (lv_sub hl [3, 4, 5, 6, 7, 2, 1, 0] rfl)
        exact loop17 _ 0 (by omega) (Nat.lt_succ_self _) _ _ hR ls (lv_sub hl [2, 3, 4, 1, 0] rfl)
  exact loop4 _ 0 (Nat.zero_le _) (Nat.lt_succ_self _) _ _ hR ls (lv_sub hl [2, 1, 0] rfl)
