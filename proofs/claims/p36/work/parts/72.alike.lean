/-! the check that two are alike -/
set_option maxHeartbeats 4000000 in
set_option maxRecDepth 100000 in
theorem c_L_areAlike {l : Launch} {D : va_G} {cI cZ : ClassId} {ad bd : Nat → Nat} {B Ba Bb : Nat → Prop} (hB : B = zBB Ba Bb) (hab : ∀ q, Ba q → ¬ Bb q) (hGa : ∀ S : zS, va_D Ba (wX cI cZ ad S)) (hGb : ∀ S : zS, va_D Bb (wX cI cZ bd S)) (S : zS) (hO : zOK S) : zMC 0 0 l yL_areAlike wsL_areAlike ({ frames := 8, cells := 0, slots := 0, locals := 126 } : Room) [.ref (ad 0), .ref (bd 0)] D (zT cI cZ) B (wXX cI cZ ad bd) S (fun (r : Int32) (S1 : zS) => r = (nI (1)) ∧ S1 = S) := by
  refine zMC_ofP (cc := cL_areAlike) (maxL := 5) (ret := (some .boolean)) (by decide) rfl (Nat.le_of_ble_eq_true rfl) ?_
  intro pg en s mm below meth cd hx hb hr hml hown hts hlk hF hR ls hl
  have hl : lv_has ls 5 [(0, .ref (ad 0)), (1, .ref (bd 0))] := hl
  have hW := (zOK.w hO).2
  refine lv_aload_n hx hb dL_areAlike_0 rfl (lv_at hl 0 rfl) ?_
  refine z_call2a_i (As := []) (rest := []) ⟨hx, hb, hml, hown, hts⟩ hB hab hGb hF hR (c_X4_workers hGa S hO) (fun _ _ h => h.2) (cwV 0 hts gL_areAlike_X4_workers rfl rfl rfl (by decide +kernel) ⟨Nat.le_of_ble_eq_true rfl, Nat.le_of_ble_eq_true rfl⟩) rfl hl rfl (Nat.le_of_ble_eq_true rfl) (by decide) dL_areAlike_1 (fun r1 H locs hp1 hR => ?_)
  replace hp1 := hp1.1
  subst r1
  refine lv_aload_n hx hb dL_areAlike_4 rfl (lv_at hl 1 rfl) ?_
  refine z_call2b_i (As := []) (rest := [.int (nI (zn S 22 0))]) ⟨hx, hb, hml, hown, hts⟩ hB hab hGa hF hR (c_X4_workers hGb S hO) (fun _ _ h => h.2) (cwV 0 hts gL_areAlike_X4_workers rfl rfl rfl (by decide +kernel) ⟨Nat.le_of_ble_eq_true rfl, Nat.le_of_ble_eq_true rfl⟩) rfl hl rfl (Nat.le_of_ble_eq_true rfl) (by decide) dL_areAlike_5 (fun r2 H locs hp2 hR => ?_)
  replace hp2 := hp2.1
  subst r2
  refine z_ne_n (tgt := 48) hx hb dL_areAlike_8 (by decide) (by omega) (by omega) (fun h8_3 => absurd rfl h8_3) (fun h8_3 => ?_)
  refine lv_aload_n hx hb dL_areAlike_11 rfl (lv_at hl 0 rfl) ?_
  refine z_call2a_i (As := []) (rest := []) ⟨hx, hb, hml, hown, hts⟩ hB hab hGb hF hR (c_X4_underWay hGa S hO) (fun _ _ h => h.2) (cwV 0 hts gL_areAlike_X4_underWay rfl rfl rfl (by decide +kernel) ⟨Nat.le_of_ble_eq_true rfl, Nat.le_of_ble_eq_true rfl⟩) rfl hl rfl (Nat.le_of_ble_eq_true rfl) (by decide) dL_areAlike_12 (fun r4 H locs hp4 hR => ?_)
  replace hp4 := hp4.1
  subst r4
  refine lv_aload_n hx hb dL_areAlike_15 rfl (lv_at hl 1 rfl) ?_
  refine z_call2b_i (As := []) (rest := [.int (S 22 2)]) ⟨hx, hb, hml, hown, hts⟩ hB hab hGa hF hR (c_X4_underWay hGb S hO) (fun _ _ h => h.2) (cwV 0 hts gL_areAlike_X4_underWay rfl rfl rfl (by decide +kernel) ⟨Nat.le_of_ble_eq_true rfl, Nat.le_of_ble_eq_true rfl⟩) rfl hl rfl (Nat.le_of_ble_eq_true rfl) (by decide) dL_areAlike_16 (fun r5 H locs hp5 hR => ?_)
  replace hp5 := hp5.1
  subst r5
  refine lv_icmp_ne (tgt := 48) hx hb dL_areAlike_19 (by decide) (fun h19_6 => absurd rfl h19_6) (fun h19_6 => ?_)
  refine lv_aload_n hx hb dL_areAlike_22 rfl (lv_at hl 0 rfl) ?_
  refine z_call2a_i (As := []) (rest := []) ⟨hx, hb, hml, hown, hts⟩ hB hab hGb hF hR (c_X4_complete hGa S hO) (fun _ _ h => h.2) (cwV 0 hts gL_areAlike_X4_complete rfl rfl rfl (by decide +kernel) ⟨Nat.le_of_ble_eq_true rfl, Nat.le_of_ble_eq_true rfl⟩) rfl hl rfl (Nat.le_of_ble_eq_true rfl) (by decide) dL_areAlike_23 (fun r7 H locs hp7 hR => ?_)
  replace hp7 := hp7.1
  subst r7
  refine lv_aload_n hx hb dL_areAlike_26 rfl (lv_at hl 1 rfl) ?_
  refine z_call2b_i (As := []) (rest := [.int (S 22 3)]) ⟨hx, hb, hml, hown, hts⟩ hB hab hGa hF hR (c_X4_complete hGb S hO) (fun _ _ h => h.2) (cwV 0 hts gL_areAlike_X4_complete rfl rfl rfl (by decide +kernel) ⟨Nat.le_of_ble_eq_true rfl, Nat.le_of_ble_eq_true rfl⟩) rfl hl rfl (Nat.le_of_ble_eq_true rfl) (by decide) dL_areAlike_27 (fun r8 H locs hp8 hR => ?_)
  replace hp8 := hp8.1
  subst r8
  refine lv_icmp_ne (tgt := 48) hx hb dL_areAlike_30 (by decide) (fun h30_9 => absurd rfl h30_9) (fun h30_9 => ?_)
  refine lv_aload_n hx hb dL_areAlike_33 rfl (lv_at hl 0 rfl) ?_
  refine z_call2a_i (As := []) (rest := []) ⟨hx, hb, hml, hown, hts⟩ hB hab hGb hF hR (c_X4_committed hGa S hO) (fun _ _ h => h.2) (cwV 0 hts gL_areAlike_X4_committed rfl rfl rfl (by decide +kernel) ⟨Nat.le_of_ble_eq_true rfl, Nat.le_of_ble_eq_true rfl⟩) rfl hl rfl (Nat.le_of_ble_eq_true rfl) (by decide) dL_areAlike_34 (fun r10 H locs hp10 hR => ?_)
  replace hp10 := hp10.1
  subst r10
  refine lv_aload_n hx hb dL_areAlike_37 rfl (lv_at hl 1 rfl) ?_
  refine z_call2b_i (As := []) (rest := [.int (sp_cm S 32)]) ⟨hx, hb, hml, hown, hts⟩ hB hab hGa hF hR (c_X4_committed hGb S hO) (fun _ _ h => h.2) (cwV 0 hts gL_areAlike_X4_committed rfl rfl rfl (by decide +kernel) ⟨Nat.le_of_ble_eq_true rfl, Nat.le_of_ble_eq_true rfl⟩) rfl hl rfl (Nat.le_of_ble_eq_true rfl) (by decide) dL_areAlike_38 (fun r11 H locs hp11 hR => ?_)
  replace hp11 := hp11.1
  subst r11
  refine lv_icmp_ne (tgt := 48) hx hb dL_areAlike_41 (by decide) (fun h41_12 => absurd rfl h41_12) (fun h41_12 => ?_)
  refine lv_iconst (v := (nI (1))) hx hb dL_areAlike_44 (by decide) ?_
  refine lv_goto (tgt := 49) hx hb dL_areAlike_45 (by decide) ?_
  refine lv_istore_n (lv' := [(2, .int (nI (1))), (0, .ref (ad 0)), (1, .ref (bd 0))]) hx hb dL_areAlike_49 rfl hl (by decide) rfl (fun ls hl => ?_)
  refine lv_iconst (v := (nI (0))) hx hb dL_areAlike_50 (by decide) ?_
  refine lv_istore_n (lv' := [(3, .int (nI (0))), (2, .int (nI (1))), (0, .ref (ad 0)), (1, .ref (bd 0))]) hx hb dL_areAlike_51 rfl hl (by decide) rfl (fun ls hl => ?_)
  have loop52 : ∀ (nf52 : Nat) (p : Nat), (p ≤ 4) → 4 - p < nf52 → ∀ (H : Heap) (locs : List Loc), zR D B (wXX cI cZ ad bd S) s H locs → ∀ ls : Array Slot, lv_has ls 5 [(0, .ref (ad 0)), (1, .ref (bd 0)), (2, .int (nI (1))), (3, .int (nI (p)))] → W pg l en ({ frames := 8, cells := 0, slots := 0, locals := 126 } : Room) s mm ([.ref (ad 0), .ref (bd 0)] : List Value).toArray below meth cd H locs 0 0 (MQ below (va_Qi (fun (r : Int32) (S1 : zS) => r = (nI (1)) ∧ S1 = S) (zB D (zT cI cZ) (wXX cI cZ ad bd)) (zA B s.heap.size)) ([.ref (ad 0), .ref (bd 0)] : List Value).toArray s 0 0 (zA B s.heap.size)) (F0 mm 52 ls []) := by
    intro nf52
    induction nf52 with
    | zero => intro p hp4 hn; exact absurd hn (Nat.not_lt_zero _)
    | succ nf52 ih52 =>
      intro p hp4 hn H locs hR ls hl
      refine lv_iload_n hx hb dL_areAlike_52 rfl (lv_at hl 3 rfl) ?_
      refine lv_iconst (v := (nI (4))) hx hb dL_areAlike_53 (by decide) ?_
      refine z_ge_n (tgt := 217) hx hb dL_areAlike_54 (by decide) (by omega) (by omega) (fun h54_13 => ?_) (fun h54_13 => ?_)
      · skip
        refine lv_iconst (v := (nI (0))) hx hb dL_areAlike_217 (by decide) ?_
        refine lv_istore_n (lv' := [(3, .int (nI (0))), (0, .ref (ad 0)), (1, .ref (bd 0)), (2, .int (nI (1)))]) hx hb dL_areAlike_218 rfl hl (by decide) rfl (fun ls hl => ?_)
        have loop219 : ∀ (nf219 : Nat) (key : Nat), (key ≤ 32) → 32 - key < nf219 → ∀ (H : Heap) (locs : List Loc), zR D B (wXX cI cZ ad bd S) s H locs → ∀ ls : Array Slot, lv_has ls 5 [(0, .ref (ad 0)), (1, .ref (bd 0)), (2, .int (nI (1))), (3, .int (nI (key)))] → W pg l en ({ frames := 8, cells := 0, slots := 0, locals := 126 } : Room) s mm ([.ref (ad 0), .ref (bd 0)] : List Value).toArray below meth cd H locs 0 0 (MQ below (va_Qi (fun (r : Int32) (S1 : zS) => r = (nI (1)) ∧ S1 = S) (zB D (zT cI cZ) (wXX cI cZ ad bd)) (zA B s.heap.size)) ([.ref (ad 0), .ref (bd 0)] : List Value).toArray s 0 0 (zA B s.heap.size)) (F0 mm 219 ls []) := by
          intro nf219
          induction nf219 with
          | zero => intro key hk4 hn; exact absurd hn (Nat.not_lt_zero _)
          | succ nf219 ih219 =>
            intro key hk4 hn H locs hR ls hl
            refine lv_iload_n hx hb dL_areAlike_219 rfl (lv_at hl 3 rfl) ?_
            refine lv_bipush (v := (nI (32))) hx hb dL_areAlike_220 (by decide) ?_
            refine z_ge_n (tgt := 293) hx hb dL_areAlike_222 (by decide) (by omega) (by omega) (fun h222_14 => ?_) (fun h222_14 => ?_)
            · skip
              refine lv_iload_n hx hb dL_areAlike_293 rfl (lv_at hl 2 rfl) ?_
              exact z_zret (w := wXX cI cZ ad bd) (S1 := S) hx hb hr hlk hF hR dL_areAlike_294 (by decide) (⟨rfl, rfl⟩)
            · skip
              refine lv_iload_n hx hb dL_areAlike_225 rfl (lv_at hl 2 rfl) ?_
              refine z_if_eq_n (tgt := 293) hx hb dL_areAlike_226 (by decide) (by omega) (fun h226_15 => by omega) (fun h226_15 => ?_)
              refine lv_aload_n hx hb dL_areAlike_229 rfl (lv_at hl 0 rfl) ?_
              refine lv_iload_n hx hb dL_areAlike_230 rfl (lv_at hl 3 rfl) ?_
              refine z_call2a_i (As := [.int (nI (key))]) (rest := []) ⟨hx, hb, hml, hown, hts⟩ hB hab hGb hF hR (c_X4_count_ok hGa S (key) hO (by omega)) (fun _ _ h => h.2) (cwV 1 hts gL_areAlike_X4_count rfl rfl rfl (by decide +kernel) ⟨Nat.le_of_ble_eq_true rfl, Nat.le_of_ble_eq_true rfl⟩) rfl hl rfl (Nat.le_of_ble_eq_true rfl) (by decide) dL_areAlike_231 (fun r16 H locs hp16 hR => ?_)
              replace hp16 := hp16.1
              subst r16
              refine lv_aload_n hx hb dL_areAlike_234 rfl (lv_at hl 1 rfl) ?_
              refine lv_iload_n hx hb dL_areAlike_235 rfl (lv_at hl 3 rfl) ?_
              refine z_call2b_i (As := [.int (nI (key))]) (rest := [.int (S 9 key)]) ⟨hx, hb, hml, hown, hts⟩ hB hab hGa hF hR (c_X4_count_ok hGb S (key) hO (by omega)) (fun _ _ h => h.2) (cwV 1 hts gL_areAlike_X4_count rfl rfl rfl (by decide +kernel) ⟨Nat.le_of_ble_eq_true rfl, Nat.le_of_ble_eq_true rfl⟩) rfl hl rfl (Nat.le_of_ble_eq_true rfl) (by decide) dL_areAlike_236 (fun r17 H locs hp17 hR => ?_)
              replace hp17 := hp17.1
              subst r17
              refine lv_icmp_ne (tgt := 285) hx hb dL_areAlike_239 (by decide) (fun h239_18 => absurd rfl h239_18) (fun h239_18 => ?_)
              refine lv_aload_n hx hb dL_areAlike_242 rfl (lv_at hl 0 rfl) ?_
              refine lv_iload_n hx hb dL_areAlike_243 rfl (lv_at hl 3 rfl) ?_
              refine z_call2a_i (As := [.int (nI (key))]) (rest := []) ⟨hx, hb, hml, hown, hts⟩ hB hab hGb hF hR (c_X4_sum_ok hGa S (key) hO (by omega)) (fun _ _ h => h.2) (cwV 1 hts gL_areAlike_X4_sum rfl rfl rfl (by decide +kernel) ⟨Nat.le_of_ble_eq_true rfl, Nat.le_of_ble_eq_true rfl⟩) rfl hl rfl (Nat.le_of_ble_eq_true rfl) (by decide) dL_areAlike_244 (fun r19 H locs hp19 hR => ?_)
              replace hp19 := hp19.1
              subst r19
              refine lv_aload_n hx hb dL_areAlike_247 rfl (lv_at hl 1 rfl) ?_
              refine lv_iload_n hx hb dL_areAlike_248 rfl (lv_at hl 3 rfl) ?_
              refine z_call2b_i (As := [.int (nI (key))]) (rest := [.int (S 10 key)]) ⟨hx, hb, hml, hown, hts⟩ hB hab hGa hF hR (c_X4_sum_ok hGb S (key) hO (by omega)) (fun _ _ h => h.2) (cwV 1 hts gL_areAlike_X4_sum rfl rfl rfl (by decide +kernel) ⟨Nat.le_of_ble_eq_true rfl, Nat.le_of_ble_eq_true rfl⟩) rfl hl rfl (Nat.le_of_ble_eq_true rfl) (by decide) dL_areAlike_249 (fun r20 H locs hp20 hR => ?_)
              replace hp20 := hp20.1
              subst r20
              refine lv_icmp_ne (tgt := 285) hx hb dL_areAlike_252 (by decide) (fun h252_21 => absurd rfl h252_21) (fun h252_21 => ?_)
              refine lv_aload_n hx hb dL_areAlike_255 rfl (lv_at hl 0 rfl) ?_
              refine lv_iload_n hx hb dL_areAlike_256 rfl (lv_at hl 3 rfl) ?_
              refine z_call2a_i (As := [.int (nI (key))]) (rest := []) ⟨hx, hb, hml, hown, hts⟩ hB hab hGb hF hR (c_X4_committedSum_ok hGa S (key) hO (by omega)) (fun _ _ h => h.2) (cwV 1 hts gL_areAlike_X4_committedSum rfl rfl rfl (by decide +kernel) ⟨Nat.le_of_ble_eq_true rfl, Nat.le_of_ble_eq_true rfl⟩) rfl hl rfl (Nat.le_of_ble_eq_true rfl) (by decide) dL_areAlike_257 (fun r22 H locs hp22 hR => ?_)
              replace hp22 := hp22.1
              subst r22
              refine lv_aload_n hx hb dL_areAlike_260 rfl (lv_at hl 1 rfl) ?_
              refine lv_iload_n hx hb dL_areAlike_261 rfl (lv_at hl 3 rfl) ?_
              refine z_call2b_i (As := [.int (nI (key))]) (rest := [.int (S 20 key)]) ⟨hx, hb, hml, hown, hts⟩ hB hab hGa hF hR (c_X4_committedSum_ok hGb S (key) hO (by omega)) (fun _ _ h => h.2) (cwV 1 hts gL_areAlike_X4_committedSum rfl rfl rfl (by decide +kernel) ⟨Nat.le_of_ble_eq_true rfl, Nat.le_of_ble_eq_true rfl⟩) rfl hl rfl (Nat.le_of_ble_eq_true rfl) (by decide) dL_areAlike_262 (fun r23 H locs hp23 hR => ?_)
              replace hp23 := hp23.1
              subst r23
              refine lv_icmp_ne (tgt := 285) hx hb dL_areAlike_265 (by decide) (fun h265_24 => absurd rfl h265_24) (fun h265_24 => ?_)
              refine lv_aload_n hx hb dL_areAlike_268 rfl (lv_at hl 0 rfl) ?_
              refine lv_iload_n hx hb dL_areAlike_269 rfl (lv_at hl 3 rfl) ?_
              refine z_call2a_i (As := [.int (nI (key))]) (rest := []) ⟨hx, hb, hml, hown, hts⟩ hB hab hGb hF hR (c_X4_keptSum_ok hGa S (key) hO (by omega)) (fun _ _ h => h.2) (cwV 1 hts gL_areAlike_X4_keptSum rfl rfl rfl (by decide +kernel) ⟨Nat.le_of_ble_eq_true rfl, Nat.le_of_ble_eq_true rfl⟩) rfl hl rfl (Nat.le_of_ble_eq_true rfl) (by decide) dL_areAlike_270 (fun r25 H locs hp25 hR => ?_)
              replace hp25 := hp25.1
              subst r25
              refine lv_aload_n hx hb dL_areAlike_273 rfl (lv_at hl 1 rfl) ?_
              refine lv_iload_n hx hb dL_areAlike_274 rfl (lv_at hl 3 rfl) ?_
              refine z_call2b_i (As := [.int (nI (key))]) (rest := [.int (S 18 key)]) ⟨hx, hb, hml, hown, hts⟩ hB hab hGa hF hR (c_X4_keptSum_ok hGb S (key) hO (by omega)) (fun _ _ h => h.2) (cwV 1 hts gL_areAlike_X4_keptSum rfl rfl rfl (by decide +kernel) ⟨Nat.le_of_ble_eq_true rfl, Nat.le_of_ble_eq_true rfl⟩) rfl hl rfl (Nat.le_of_ble_eq_true rfl) (by decide) dL_areAlike_275 (fun r26 H locs hp26 hR => ?_)
              replace hp26 := hp26.1
              subst r26
              refine lv_icmp_ne (tgt := 285) hx hb dL_areAlike_278 (by decide) (fun h278_27 => absurd rfl h278_27) (fun h278_27 => ?_)
              refine lv_iconst (v := (nI (1))) hx hb dL_areAlike_281 (by decide) ?_
              refine lv_goto (tgt := 286) hx hb dL_areAlike_282 (by decide) ?_
              refine lv_istore_n (lv' := [(2, .int (nI (1))), (0, .ref (ad 0)), (1, .ref (bd 0)), (3, .int (nI (key)))]) hx hb dL_areAlike_286 rfl hl (by decide) rfl (fun ls hl => ?_)
              refine lv_iinc (v := (nI (key + 1))) (lv' := [(3, .int (nI (key + 1))), (2, .int (nI (1))), (0, .ref (ad 0)), (1, .ref (bd 0))]) hx hb dL_areAlike_287 hl (k := 3) rfl (z_inc _) (by decide) rfl (fun ls hl => ?_)
              refine lv_goto (tgt := 219) hx hb dL_areAlike_290 (by decide) ?_
              exact ih219 (key + 1) (by omega) (by omega) _ _ hR ls (lv_sub hl [2, 3, 1, 0] rfl)
        exact loop219 _ 0 (by omega) (Nat.lt_succ_self _) _ _ hR ls (lv_sub hl [1, 2, 3, 0] rfl)
      · skip
        refine lv_iload_n hx hb dL_areAlike_57 rfl (lv_at hl 2 rfl) ?_
        refine z_if_eq_n (tgt := 217) hx hb dL_areAlike_58 (by decide) (by omega) (fun h58_28 => by omega) (fun h58_28 => ?_)
        refine lv_aload_n hx hb dL_areAlike_61 rfl (lv_at hl 0 rfl) ?_
        refine lv_iload_n hx hb dL_areAlike_62 rfl (lv_at hl 3 rfl) ?_
        refine z_call2a_i (As := [.int (nI (p))]) (rest := []) ⟨hx, hb, hml, hown, hts⟩ hB hab hGb hF hR (c_X4_events_ok hGa S (p) hO (by omega)) (fun _ _ h => h.2) (cwV 1 hts gL_areAlike_X4_events rfl rfl rfl (by decide +kernel) ⟨Nat.le_of_ble_eq_true rfl, Nat.le_of_ble_eq_true rfl⟩) rfl hl rfl (Nat.le_of_ble_eq_true rfl) (by decide) dL_areAlike_63 (fun r29 H locs hp29 hR => ?_)
        replace hp29 := hp29.1
        subst r29
        have hb63 := (hO.n0 p).2
        refine lv_aload_n hx hb dL_areAlike_66 rfl (lv_at hl 1 rfl) ?_
        refine lv_iload_n hx hb dL_areAlike_67 rfl (lv_at hl 3 rfl) ?_
        refine z_call2b_i (As := [.int (nI (p))]) (rest := [.int (nI (zn S 0 p))]) ⟨hx, hb, hml, hown, hts⟩ hB hab hGa hF hR (c_X4_events_ok hGb S (p) hO (by omega)) (fun _ _ h => h.2) (cwV 1 hts gL_areAlike_X4_events rfl rfl rfl (by decide +kernel) ⟨Nat.le_of_ble_eq_true rfl, Nat.le_of_ble_eq_true rfl⟩) rfl hl rfl (Nat.le_of_ble_eq_true rfl) (by decide) dL_areAlike_68 (fun r30 H locs hp30 hR => ?_)
        replace hp30 := hp30.1
        subst r30
        refine z_ne_n (tgt := 117) hx hb dL_areAlike_71 (by decide) (by omega) (by omega) (fun h71_31 => absurd rfl h71_31) (fun h71_31 => ?_)
        refine lv_aload_n hx hb dL_areAlike_74 rfl (lv_at hl 0 rfl) ?_
        refine lv_iload_n hx hb dL_areAlike_75 rfl (lv_at hl 3 rfl) ?_
        refine z_call2a_i (As := [.int (nI (p))]) (rest := []) ⟨hx, hb, hml, hown, hts⟩ hB hab hGb hF hR (c_X4_offset_ok hGa S (p) hO (by omega)) (fun _ _ h => h.2) (cwV 1 hts gL_areAlike_X4_offset rfl rfl rfl (by decide +kernel) ⟨Nat.le_of_ble_eq_true rfl, Nat.le_of_ble_eq_true rfl⟩) rfl hl rfl (Nat.le_of_ble_eq_true rfl) (by decide) dL_areAlike_76 (fun r32 H locs hp32 hR => ?_)
        replace hp32 := hp32.1
        subst r32
        have hb76 := (hO.n2 p).2
        refine lv_aload_n hx hb dL_areAlike_79 rfl (lv_at hl 1 rfl) ?_
        refine lv_iload_n hx hb dL_areAlike_80 rfl (lv_at hl 3 rfl) ?_
        refine z_call2b_i (As := [.int (nI (p))]) (rest := [.int (nI (zn S 2 p))]) ⟨hx, hb, hml, hown, hts⟩ hB hab hGa hF hR (c_X4_offset_ok hGb S (p) hO (by omega)) (fun _ _ h => h.2) (cwV 1 hts gL_areAlike_X4_offset rfl rfl rfl (by decide +kernel) ⟨Nat.le_of_ble_eq_true rfl, Nat.le_of_ble_eq_true rfl⟩) rfl hl rfl (Nat.le_of_ble_eq_true rfl) (by decide) dL_areAlike_81 (fun r33 H locs hp33 hR => ?_)
        replace hp33 := hp33.1
        subst r33
        refine z_ne_n (tgt := 117) hx hb dL_areAlike_84 (by decide) (by omega) (by omega) (fun h84_34 => absurd rfl h84_34) (fun h84_34 => ?_)
        refine lv_aload_n hx hb dL_areAlike_87 rfl (lv_at hl 0 rfl) ?_
        refine lv_iload_n hx hb dL_areAlike_88 rfl (lv_at hl 3 rfl) ?_
        refine z_call2a_i (As := [.int (nI (p))]) (rest := []) ⟨hx, hb, hml, hown, hts⟩ hB hab hGb hF hR (c_X4_hasSent_ok hGa S (p) hO (by omega)) (fun _ _ h => h.2) (cwV 1 hts gL_areAlike_X4_hasSent rfl rfl rfl (by decide +kernel) ⟨Nat.le_of_ble_eq_true rfl, Nat.le_of_ble_eq_true rfl⟩) rfl hl rfl (Nat.le_of_ble_eq_true rfl) (by decide) dL_areAlike_89 (fun r35 H locs hp35 hR => ?_)
        replace hp35 := hp35.1
        rcases hp35 with ⟨hb89, hr35⟩ | ⟨hb89, hr35⟩
        · subst r35
          refine lv_aload_n hx hb dL_areAlike_92 rfl (lv_at hl 1 rfl) ?_
          refine lv_iload_n hx hb dL_areAlike_93 rfl (lv_at hl 3 rfl) ?_
          refine z_call2b_i (As := [.int (nI (p))]) (rest := [.int (nI (1))]) ⟨hx, hb, hml, hown, hts⟩ hB hab hGa hF hR (c_X4_hasSent_ok hGb S (p) hO (by omega)) (fun _ _ h => h.2) (cwV 1 hts gL_areAlike_X4_hasSent rfl rfl rfl (by decide +kernel) ⟨Nat.le_of_ble_eq_true rfl, Nat.le_of_ble_eq_true rfl⟩) rfl hl rfl (Nat.le_of_ble_eq_true rfl) (by decide) dL_areAlike_94 (fun r36 H locs hp36 hR => ?_)
          replace hp36 := hp36.1
          rcases hp36 with ⟨hb94, hr36⟩ | ⟨hb94, hr36⟩
          · subst r36
            refine z_ne_n (tgt := 117) hx hb dL_areAlike_97 (by decide) (by omega) (by omega) (fun h97_37 => by omega) (fun h97_37 => ?_)
            refine lv_aload_n hx hb dL_areAlike_100 rfl (lv_at hl 0 rfl) ?_
            refine lv_iload_n hx hb dL_areAlike_101 rfl (lv_at hl 3 rfl) ?_
            refine z_call2a_i (As := [.int (nI (p))]) (rest := []) ⟨hx, hb, hml, hown, hts⟩ hB hab hGb hF hR (c_X4_keptOffset_ok hGa S (p) hO (by omega)) (fun _ _ h => h.2) (cwV 1 hts gL_areAlike_X4_keptOffset rfl rfl rfl (by decide +kernel) ⟨Nat.le_of_ble_eq_true rfl, Nat.le_of_ble_eq_true rfl⟩) rfl hl rfl (Nat.le_of_ble_eq_true rfl) (by decide) dL_areAlike_102 (fun r38 H locs hp38 hR => ?_)
            replace hp38 := hp38.1
            subst r38
            have hb102 := (hO.n3 p).2
            refine lv_aload_n hx hb dL_areAlike_105 rfl (lv_at hl 1 rfl) ?_
            refine lv_iload_n hx hb dL_areAlike_106 rfl (lv_at hl 3 rfl) ?_
            refine z_call2b_i (As := [.int (nI (p))]) (rest := [.int (nI (zn S 3 p))]) ⟨hx, hb, hml, hown, hts⟩ hB hab hGa hF hR (c_X4_keptOffset_ok hGb S (p) hO (by omega)) (fun _ _ h => h.2) (cwV 1 hts gL_areAlike_X4_keptOffset rfl rfl rfl (by decide +kernel) ⟨Nat.le_of_ble_eq_true rfl, Nat.le_of_ble_eq_true rfl⟩) rfl hl rfl (Nat.le_of_ble_eq_true rfl) (by decide) dL_areAlike_107 (fun r39 H locs hp39 hR => ?_)
            replace hp39 := hp39.1
            subst r39
            refine z_ne_n (tgt := 117) hx hb dL_areAlike_110 (by decide) (by omega) (by omega) (fun h110_40 => absurd rfl h110_40) (fun h110_40 => ?_)
            refine lv_iconst (v := (nI (1))) hx hb dL_areAlike_113 (by decide) ?_
            refine lv_goto (tgt := 118) hx hb dL_areAlike_114 (by decide) ?_
            refine lv_istore_n (lv' := [(2, .int (nI (1))), (0, .ref (ad 0)), (1, .ref (bd 0)), (3, .int (nI (p)))]) hx hb dL_areAlike_118 rfl hl (by decide) rfl (fun ls hl => ?_)
            refine lv_iconst (v := (nI (0))) hx hb dL_areAlike_119 (by decide) ?_
            refine lv_istore (lv' := [(4, .int (nI (0))), (2, .int (nI (1))), (0, .ref (ad 0)), (1, .ref (bd 0)), (3, .int (nI (p)))]) hx hb dL_areAlike_120 hl (by decide) rfl (fun ls hl => ?_)
            have loop122 : ∀ (nf122 : Nat) (w : Nat), (w ≤ zn S 22 0) → zn S 22 0 - w < nf122 → ∀ (H : Heap) (locs : List Loc), zR D B (wXX cI cZ ad bd S) s H locs → ∀ ls : Array Slot, lv_has ls 5 [(0, .ref (ad 0)), (1, .ref (bd 0)), (2, .int (nI (1))), (3, .int (nI (p))), (4, .int (nI (w)))] → W pg l en ({ frames := 8, cells := 0, slots := 0, locals := 126 } : Room) s mm ([.ref (ad 0), .ref (bd 0)] : List Value).toArray below meth cd H locs 0 0 (MQ below (va_Qi (fun (r : Int32) (S1 : zS) => r = (nI (1)) ∧ S1 = S) (zB D (zT cI cZ) (wXX cI cZ ad bd)) (zA B s.heap.size)) ([.ref (ad 0), .ref (bd 0)] : List Value).toArray s 0 0 (zA B s.heap.size)) (F0 mm 122 ls []) := by
              intro nf122
              induction nf122 with
              | zero => intro w hw4 hn; exact absurd hn (Nat.not_lt_zero _)
              | succ nf122 ih122 =>
                intro w hw4 hn H locs hR ls hl
                refine lv_iload hx hb dL_areAlike_122 (lv_at hl 4 rfl) ?_
                refine lv_aload_n hx hb dL_areAlike_124 rfl (lv_at hl 0 rfl) ?_
                refine z_call2a_i (As := []) (rest := [.int (nI (w))]) ⟨hx, hb, hml, hown, hts⟩ hB hab hGb hF hR (c_X4_workers hGa S hO) (fun _ _ h => h.2) (cwV 0 hts gL_areAlike_X4_workers rfl rfl rfl (by decide +kernel) ⟨Nat.le_of_ble_eq_true rfl, Nat.le_of_ble_eq_true rfl⟩) rfl hl rfl (Nat.le_of_ble_eq_true rfl) (by decide) dL_areAlike_125 (fun r41 H locs hp41 hR => ?_)
                replace hp41 := hp41.1
                subst r41
                refine z_ge_n (tgt := 211) hx hb dL_areAlike_128 (by decide) (by omega) (by omega) (fun h128_42 => ?_) (fun h128_42 => ?_)
                · skip
                  refine lv_iinc (v := (nI (p + 1))) (lv' := [(3, .int (nI (p + 1))), (0, .ref (ad 0)), (1, .ref (bd 0)), (2, .int (nI (1))), (4, .int (nI (w)))]) hx hb dL_areAlike_211 hl (k := 3) rfl (z_inc _) (by decide) rfl (fun ls hl => ?_)
                  refine lv_goto (tgt := 52) hx hb dL_areAlike_214 (by decide) ?_
                  exact ih52 (p + 1) (by omega) (by omega) _ _ hR ls (lv_sub hl [1, 2, 3, 0] rfl)
                · skip
                  refine lv_iload_n hx hb dL_areAlike_131 rfl (lv_at hl 2 rfl) ?_
                  refine z_if_eq_n (tgt := 211) hx hb dL_areAlike_132 (by decide) (by omega) (fun h132_43 => by omega) (fun h132_43 => ?_)
                  refine lv_aload_n hx hb dL_areAlike_135 rfl (lv_at hl 0 rfl) ?_
                  refine lv_iload_n hx hb dL_areAlike_136 rfl (lv_at hl 3 rfl) ?_
                  refine lv_iload hx hb dL_areAlike_137 (lv_at hl 4 rfl) ?_
                  refine z_call2a_i (As := [.int (nI (p)), .int (nI (w))]) (rest := []) ⟨hx, hb, hml, hown, hts⟩ hB hab hGb hF hR (c_X4_queued_ok hGa S (p) (w) hO (by omega) (by omega)) (fun _ _ h => h.2) (cwV 2 hts gL_areAlike_X4_queued rfl rfl rfl (by decide +kernel) ⟨Nat.le_of_ble_eq_true rfl, Nat.le_of_ble_eq_true rfl⟩) rfl hl rfl (Nat.le_of_ble_eq_true rfl) (by decide) dL_areAlike_139 (fun r44 H locs hp44 hR => ?_)
                  replace hp44 := hp44.1
                  subst r44
                  have hb139 := (hO.n7 (4 * p + w)).2
                  refine lv_aload_n hx hb dL_areAlike_142 rfl (lv_at hl 1 rfl) ?_
                  refine lv_iload_n hx hb dL_areAlike_143 rfl (lv_at hl 3 rfl) ?_
                  refine lv_iload hx hb dL_areAlike_144 (lv_at hl 4 rfl) ?_
                  refine z_call2b_i (As := [.int (nI (p)), .int (nI (w))]) (rest := [.int (nI (zn S 7 (4 * p + w)))]) ⟨hx, hb, hml, hown, hts⟩ hB hab hGa hF hR (c_X4_queued_ok hGb S (p) (w) hO (by omega) (by omega)) (fun _ _ h => h.2) (cwV 2 hts gL_areAlike_X4_queued rfl rfl rfl (by decide +kernel) ⟨Nat.le_of_ble_eq_true rfl, Nat.le_of_ble_eq_true rfl⟩) rfl hl rfl (Nat.le_of_ble_eq_true rfl) (by decide) dL_areAlike_146 (fun r45 H locs hp45 hR => ?_)
                  replace hp45 := hp45.1
                  subst r45
                  refine z_ne_n (tgt := 203) hx hb dL_areAlike_149 (by decide) (by omega) (by omega) (fun h149_46 => absurd rfl h149_46) (fun h149_46 => ?_)
                  refine lv_aload_n hx hb dL_areAlike_152 rfl (lv_at hl 0 rfl) ?_
                  refine lv_iload_n hx hb dL_areAlike_153 rfl (lv_at hl 3 rfl) ?_
                  refine lv_iload hx hb dL_areAlike_154 (lv_at hl 4 rfl) ?_
                  refine z_call2a_i (As := [.int (nI (p)), .int (nI (w))]) (rest := []) ⟨hx, hb, hml, hown, hts⟩ hB hab hGb hF hR (c_X4_isBlocked_ok hGa S (p) (w) hO (by omega) (by omega)) (fun _ _ h => h.2) (cwV 2 hts gL_areAlike_X4_isBlocked rfl rfl rfl (by decide +kernel) ⟨Nat.le_of_ble_eq_true rfl, Nat.le_of_ble_eq_true rfl⟩) rfl hl rfl (Nat.le_of_ble_eq_true rfl) (by decide) dL_areAlike_156 (fun r47 H locs hp47 hR => ?_)
                  replace hp47 := hp47.1
                  rcases hp47 with ⟨hb156, hr47⟩ | ⟨hb156, hr47⟩
                  · subst r47
                    refine lv_aload_n hx hb dL_areAlike_159 rfl (lv_at hl 1 rfl) ?_
                    refine lv_iload_n hx hb dL_areAlike_160 rfl (lv_at hl 3 rfl) ?_
                    refine lv_iload hx hb dL_areAlike_161 (lv_at hl 4 rfl) ?_
                    refine z_call2b_i (As := [.int (nI (p)), .int (nI (w))]) (rest := [.int (nI (1))]) ⟨hx, hb, hml, hown, hts⟩ hB hab hGa hF hR (c_X4_isBlocked_ok hGb S (p) (w) hO (by omega) (by omega)) (fun _ _ h => h.2) (cwV 2 hts gL_areAlike_X4_isBlocked rfl rfl rfl (by decide +kernel) ⟨Nat.le_of_ble_eq_true rfl, Nat.le_of_ble_eq_true rfl⟩) rfl hl rfl (Nat.le_of_ble_eq_true rfl) (by decide) dL_areAlike_163 (fun r48 H locs hp48 hR => ?_)
                    replace hp48 := hp48.1
                    rcases hp48 with ⟨hb163, hr48⟩ | ⟨hb163, hr48⟩
                    · subst r48
                      refine z_ne_n (tgt := 203) hx hb dL_areAlike_166 (by decide) (by omega) (by omega) (fun h166_49 => by omega) (fun h166_49 => ?_)
                      refine lv_aload_n hx hb dL_areAlike_169 rfl (lv_at hl 0 rfl) ?_
                      refine lv_iload hx hb dL_areAlike_170 (lv_at hl 4 rfl) ?_
                      refine z_call2a_i (As := [.int (nI (w))]) (rest := []) ⟨hx, hb, hml, hown, hts⟩ hB hab hGb hF hR (c_X4_open_ok hGa S (w) hO (by omega)) (fun _ _ h => h.2) (cwV 1 hts gL_areAlike_X4_open rfl rfl rfl (by decide +kernel) ⟨Nat.le_of_ble_eq_true rfl, Nat.le_of_ble_eq_true rfl⟩) rfl hl rfl (Nat.le_of_ble_eq_true rfl) (by decide) dL_areAlike_172 (fun r50 H locs hp50 hR => ?_)
                      replace hp50 := hp50.1
                      subst r50
                      refine lv_aload_n hx hb dL_areAlike_175 rfl (lv_at hl 1 rfl) ?_
                      refine lv_iload hx hb dL_areAlike_176 (lv_at hl 4 rfl) ?_
                      refine z_call2b_i (As := [.int (nI (w))]) (rest := [.int (sp_op S w 32)]) ⟨hx, hb, hml, hown, hts⟩ hB hab hGa hF hR (c_X4_open_ok hGb S (w) hO (by omega)) (fun _ _ h => h.2) (cwV 1 hts gL_areAlike_X4_open rfl rfl rfl (by decide +kernel) ⟨Nat.le_of_ble_eq_true rfl, Nat.le_of_ble_eq_true rfl⟩) rfl hl rfl (Nat.le_of_ble_eq_true rfl) (by decide) dL_areAlike_178 (fun r51 H locs hp51 hR => ?_)
                      replace hp51 := hp51.1
                      subst r51
                      refine lv_icmp_ne (tgt := 203) hx hb dL_areAlike_181 (by decide) (fun h181_52 => absurd rfl h181_52) (fun h181_52 => ?_)
                      refine lv_aload_n hx hb dL_areAlike_184 rfl (lv_at hl 0 rfl) ?_
                      refine lv_iload hx hb dL_areAlike_185 (lv_at hl 4 rfl) ?_
                      refine z_call2a_i (As := [.int (nI (w))]) (rest := []) ⟨hx, hb, hml, hown, hts⟩ hB hab hGb hF hR (c_X4_sealed_ok hGa S (w) hO (by omega)) (fun _ _ h => h.2) (cwV 1 hts gL_areAlike_X4_sealed rfl rfl rfl (by decide +kernel) ⟨Nat.le_of_ble_eq_true rfl, Nat.le_of_ble_eq_true rfl⟩) rfl hl rfl (Nat.le_of_ble_eq_true rfl) (by decide) dL_areAlike_187 (fun r53 H locs hp53 hR => ?_)
                      replace hp53 := hp53.1
                      subst r53
                      refine lv_aload_n hx hb dL_areAlike_190 rfl (lv_at hl 1 rfl) ?_
                      refine lv_iload hx hb dL_areAlike_191 (lv_at hl 4 rfl) ?_
                      refine z_call2b_i (As := [.int (nI (w))]) (rest := [.int (S 21 w)]) ⟨hx, hb, hml, hown, hts⟩ hB hab hGa hF hR (c_X4_sealed_ok hGb S (w) hO (by omega)) (fun _ _ h => h.2) (cwV 1 hts gL_areAlike_X4_sealed rfl rfl rfl (by decide +kernel) ⟨Nat.le_of_ble_eq_true rfl, Nat.le_of_ble_eq_true rfl⟩) rfl hl rfl (Nat.le_of_ble_eq_true rfl) (by decide) dL_areAlike_193 (fun r54 H locs hp54 hR => ?_)
                      replace hp54 := hp54.1
                      subst r54
                      refine lv_icmp_ne (tgt := 203) hx hb dL_areAlike_196 (by decide) (fun h196_55 => absurd rfl h196_55) (fun h196_55 => ?_)
                      refine lv_iconst (v := (nI (1))) hx hb dL_areAlike_199 (by decide) ?_
                      refine lv_goto (tgt := 204) hx hb dL_areAlike_200 (by decide) ?_
                      refine lv_istore_n (lv' := [(2, .int (nI (1))), (0, .ref (ad 0)), (1, .ref (bd 0)), (3, .int (nI (p))), (4, .int (nI (w)))]) hx hb dL_areAlike_204 rfl hl (by decide) rfl (fun ls hl => ?_)
                      refine lv_iinc (v := (nI (w + 1))) (lv' := [(4, .int (nI (w + 1))), (2, .int (nI (1))), (0, .ref (ad 0)), (1, .ref (bd 0)), (3, .int (nI (p)))]) hx hb dL_areAlike_205 hl (k := 4) rfl (z_inc _) (by decide) rfl (fun ls hl => ?_)
                      refine lv_goto (tgt := 122) hx hb dL_areAlike_208 (by decide) ?_
                      exact ih122 (w + 1) (by omega) (by omega) _ _ hR ls (lv_sub hl [2, 3, 1, 4, 0] rfl)
                    · exact absurd hb156 hb163
                  · subst r47
                    refine lv_aload_n hx hb dL_areAlike_159 rfl (lv_at hl 1 rfl) ?_
                    refine lv_iload_n hx hb dL_areAlike_160 rfl (lv_at hl 3 rfl) ?_
                    refine lv_iload hx hb dL_areAlike_161 (lv_at hl 4 rfl) ?_
                    refine z_call2b_i (As := [.int (nI (p)), .int (nI (w))]) (rest := [.int (nI (0))]) ⟨hx, hb, hml, hown, hts⟩ hB hab hGa hF hR (c_X4_isBlocked_ok hGb S (p) (w) hO (by omega) (by omega)) (fun _ _ h => h.2) (cwV 2 hts gL_areAlike_X4_isBlocked rfl rfl rfl (by decide +kernel) ⟨Nat.le_of_ble_eq_true rfl, Nat.le_of_ble_eq_true rfl⟩) rfl hl rfl (Nat.le_of_ble_eq_true rfl) (by decide) dL_areAlike_163 (fun r56 H locs hp56 hR => ?_)
                    replace hp56 := hp56.1
                    rcases hp56 with ⟨hb163, hr56⟩ | ⟨hb163, hr56⟩
                    · exact absurd hb163 hb156
                    · subst r56
                      refine z_ne_n (tgt := 203) hx hb dL_areAlike_166 (by decide) (by omega) (by omega) (fun h166_57 => by omega) (fun h166_57 => ?_)
                      refine lv_aload_n hx hb dL_areAlike_169 rfl (lv_at hl 0 rfl) ?_
                      refine lv_iload hx hb dL_areAlike_170 (lv_at hl 4 rfl) ?_
                      refine z_call2a_i (As := [.int (nI (w))]) (rest := []) ⟨hx, hb, hml, hown, hts⟩ hB hab hGb hF hR (c_X4_open_ok hGa S (w) hO (by omega)) (fun _ _ h => h.2) (cwV 1 hts gL_areAlike_X4_open rfl rfl rfl (by decide +kernel) ⟨Nat.le_of_ble_eq_true rfl, Nat.le_of_ble_eq_true rfl⟩) rfl hl rfl (Nat.le_of_ble_eq_true rfl) (by decide) dL_areAlike_172 (fun r58 H locs hp58 hR => ?_)
                      replace hp58 := hp58.1
                      subst r58
                      refine lv_aload_n hx hb dL_areAlike_175 rfl (lv_at hl 1 rfl) ?_
                      refine lv_iload hx hb dL_areAlike_176 (lv_at hl 4 rfl) ?_
                      refine z_call2b_i (As := [.int (nI (w))]) (rest := [.int (sp_op S w 32)]) ⟨hx, hb, hml, hown, hts⟩ hB hab hGa hF hR (c_X4_open_ok hGb S (w) hO (by omega)) (fun _ _ h => h.2) (cwV 1 hts gL_areAlike_X4_open rfl rfl rfl (by decide +kernel) ⟨Nat.le_of_ble_eq_true rfl, Nat.le_of_ble_eq_true rfl⟩) rfl hl rfl (Nat.le_of_ble_eq_true rfl) (by decide) dL_areAlike_178 (fun r59 H locs hp59 hR => ?_)
                      replace hp59 := hp59.1
                      subst r59
                      refine lv_icmp_ne (tgt := 203) hx hb dL_areAlike_181 (by decide) (fun h181_60 => absurd rfl h181_60) (fun h181_60 => ?_)
                      refine lv_aload_n hx hb dL_areAlike_184 rfl (lv_at hl 0 rfl) ?_
                      refine lv_iload hx hb dL_areAlike_185 (lv_at hl 4 rfl) ?_
                      refine z_call2a_i (As := [.int (nI (w))]) (rest := []) ⟨hx, hb, hml, hown, hts⟩ hB hab hGb hF hR (c_X4_sealed_ok hGa S (w) hO (by omega)) (fun _ _ h => h.2) (cwV 1 hts gL_areAlike_X4_sealed rfl rfl rfl (by decide +kernel) ⟨Nat.le_of_ble_eq_true rfl, Nat.le_of_ble_eq_true rfl⟩) rfl hl rfl (Nat.le_of_ble_eq_true rfl) (by decide) dL_areAlike_187 (fun r61 H locs hp61 hR => ?_)
                      replace hp61 := hp61.1
                      subst r61
                      refine lv_aload_n hx hb dL_areAlike_190 rfl (lv_at hl 1 rfl) ?_
                      refine lv_iload hx hb dL_areAlike_191 (lv_at hl 4 rfl) ?_
                      refine z_call2b_i (As := [.int (nI (w))]) (rest := [.int (S 21 w)]) ⟨hx, hb, hml, hown, hts⟩ hB hab hGa hF hR (c_X4_sealed_ok hGb S (w) hO (by omega)) (fun _ _ h => h.2) (cwV 1 hts gL_areAlike_X4_sealed rfl rfl rfl (by decide +kernel) ⟨Nat.le_of_ble_eq_true rfl, Nat.le_of_ble_eq_true rfl⟩) rfl hl rfl (Nat.le_of_ble_eq_true rfl) (by decide) dL_areAlike_193 (fun r62 H locs hp62 hR => ?_)
                      replace hp62 := hp62.1
                      subst r62
                      refine lv_icmp_ne (tgt := 203) hx hb dL_areAlike_196 (by decide) (fun h196_63 => absurd rfl h196_63) (fun h196_63 => ?_)
                      refine lv_iconst (v := (nI (1))) hx hb dL_areAlike_199 (by decide) ?_
                      refine lv_goto (tgt := 204) hx hb dL_areAlike_200 (by decide) ?_
                      refine lv_istore_n (lv' := [(2, .int (nI (1))), (0, .ref (ad 0)), (1, .ref (bd 0)), (3, .int (nI (p))), (4, .int (nI (w)))]) hx hb dL_areAlike_204 rfl hl (by decide) rfl (fun ls hl => ?_)
                      refine lv_iinc (v := (nI (w + 1))) (lv' := [(4, .int (nI (w + 1))), (2, .int (nI (1))), (0, .ref (ad 0)), (1, .ref (bd 0)), (3, .int (nI (p)))]) hx hb dL_areAlike_205 hl (k := 4) rfl (z_inc _) (by decide) rfl (fun ls hl => ?_)
                      refine lv_goto (tgt := 122) hx hb dL_areAlike_208 (by decide) ?_
                      exact ih122 (w + 1) (by omega) (by omega) _ _ hR ls (lv_sub hl [2, 3, 1, 4, 0] rfl)
            exact loop122 _ 0 (Nat.zero_le _) (Nat.lt_succ_self _) _ _ hR ls (lv_sub hl [2, 3, 1, 4, 0] rfl)
          · exact absurd hb89 hb94
        · subst r35
          refine lv_aload_n hx hb dL_areAlike_92 rfl (lv_at hl 1 rfl) ?_
          refine lv_iload_n hx hb dL_areAlike_93 rfl (lv_at hl 3 rfl) ?_
          refine z_call2b_i (As := [.int (nI (p))]) (rest := [.int (nI (0))]) ⟨hx, hb, hml, hown, hts⟩ hB hab hGa hF hR (c_X4_hasSent_ok hGb S (p) hO (by omega)) (fun _ _ h => h.2) (cwV 1 hts gL_areAlike_X4_hasSent rfl rfl rfl (by decide +kernel) ⟨Nat.le_of_ble_eq_true rfl, Nat.le_of_ble_eq_true rfl⟩) rfl hl rfl (Nat.le_of_ble_eq_true rfl) (by decide) dL_areAlike_94 (fun r64 H locs hp64 hR => ?_)
          replace hp64 := hp64.1
          rcases hp64 with ⟨hb94, hr64⟩ | ⟨hb94, hr64⟩
          · exact absurd hb94 hb89
          · subst r64
            refine z_ne_n (tgt := 117) hx hb dL_areAlike_97 (by decide) (by omega) (by omega) (fun h97_65 => by omega) (fun h97_65 => ?_)
            refine lv_aload_n hx hb dL_areAlike_100 rfl (lv_at hl 0 rfl) ?_
            refine lv_iload_n hx hb dL_areAlike_101 rfl (lv_at hl 3 rfl) ?_
            refine z_call2a_i (As := [.int (nI (p))]) (rest := []) ⟨hx, hb, hml, hown, hts⟩ hB hab hGb hF hR (c_X4_keptOffset_ok hGa S (p) hO (by omega)) (fun _ _ h => h.2) (cwV 1 hts gL_areAlike_X4_keptOffset rfl rfl rfl (by decide +kernel) ⟨Nat.le_of_ble_eq_true rfl, Nat.le_of_ble_eq_true rfl⟩) rfl hl rfl (Nat.le_of_ble_eq_true rfl) (by decide) dL_areAlike_102 (fun r66 H locs hp66 hR => ?_)
            replace hp66 := hp66.1
            subst r66
            have hb102 := (hO.n3 p).2
            refine lv_aload_n hx hb dL_areAlike_105 rfl (lv_at hl 1 rfl) ?_
            refine lv_iload_n hx hb dL_areAlike_106 rfl (lv_at hl 3 rfl) ?_
            refine z_call2b_i (As := [.int (nI (p))]) (rest := [.int (nI (zn S 3 p))]) ⟨hx, hb, hml, hown, hts⟩ hB hab hGa hF hR (c_X4_keptOffset_ok hGb S (p) hO (by omega)) (fun _ _ h => h.2) (cwV 1 hts gL_areAlike_X4_keptOffset rfl rfl rfl (by decide +kernel) ⟨Nat.le_of_ble_eq_true rfl, Nat.le_of_ble_eq_true rfl⟩) rfl hl rfl (Nat.le_of_ble_eq_true rfl) (by decide) dL_areAlike_107 (fun r67 H locs hp67 hR => ?_)
            replace hp67 := hp67.1
            subst r67
            refine z_ne_n (tgt := 117) hx hb dL_areAlike_110 (by decide) (by omega) (by omega) (fun h110_68 => absurd rfl h110_68) (fun h110_68 => ?_)
            refine lv_iconst (v := (nI (1))) hx hb dL_areAlike_113 (by decide) ?_
            refine lv_goto (tgt := 118) hx hb dL_areAlike_114 (by decide) ?_
            refine lv_istore_n (lv' := [(2, .int (nI (1))), (0, .ref (ad 0)), (1, .ref (bd 0)), (3, .int (nI (p)))]) hx hb dL_areAlike_118 rfl hl (by decide) rfl (fun ls hl => ?_)
            refine lv_iconst (v := (nI (0))) hx hb dL_areAlike_119 (by decide) ?_
            refine lv_istore (lv' := [(4, .int (nI (0))), (2, .int (nI (1))), (0, .ref (ad 0)), (1, .ref (bd 0)), (3, .int (nI (p)))]) hx hb dL_areAlike_120 hl (by decide) rfl (fun ls hl => ?_)
            have loop122 : ∀ (nf122 : Nat) (w : Nat), (w ≤ zn S 22 0) → zn S 22 0 - w < nf122 → ∀ (H : Heap) (locs : List Loc), zR D B (wXX cI cZ ad bd S) s H locs → ∀ ls : Array Slot, lv_has ls 5 [(0, .ref (ad 0)), (1, .ref (bd 0)), (2, .int (nI (1))), (3, .int (nI (p))), (4, .int (nI (w)))] → W pg l en ({ frames := 8, cells := 0, slots := 0, locals := 126 } : Room) s mm ([.ref (ad 0), .ref (bd 0)] : List Value).toArray below meth cd H locs 0 0 (MQ below (va_Qi (fun (r : Int32) (S1 : zS) => r = (nI (1)) ∧ S1 = S) (zB D (zT cI cZ) (wXX cI cZ ad bd)) (zA B s.heap.size)) ([.ref (ad 0), .ref (bd 0)] : List Value).toArray s 0 0 (zA B s.heap.size)) (F0 mm 122 ls []) := by
              intro nf122
              induction nf122 with
              | zero => intro w hw4 hn; exact absurd hn (Nat.not_lt_zero _)
              | succ nf122 ih122 =>
                intro w hw4 hn H locs hR ls hl
                refine lv_iload hx hb dL_areAlike_122 (lv_at hl 4 rfl) ?_
                refine lv_aload_n hx hb dL_areAlike_124 rfl (lv_at hl 0 rfl) ?_
                refine z_call2a_i (As := []) (rest := [.int (nI (w))]) ⟨hx, hb, hml, hown, hts⟩ hB hab hGb hF hR (c_X4_workers hGa S hO) (fun _ _ h => h.2) (cwV 0 hts gL_areAlike_X4_workers rfl rfl rfl (by decide +kernel) ⟨Nat.le_of_ble_eq_true rfl, Nat.le_of_ble_eq_true rfl⟩) rfl hl rfl (Nat.le_of_ble_eq_true rfl) (by decide) dL_areAlike_125 (fun r69 H locs hp69 hR => ?_)
                replace hp69 := hp69.1
                subst r69
                refine z_ge_n (tgt := 211) hx hb dL_areAlike_128 (by decide) (by omega) (by omega) (fun h128_70 => ?_) (fun h128_70 => ?_)
                · skip
                  refine lv_iinc (v := (nI (p + 1))) (lv' := [(3, .int (nI (p + 1))), (0, .ref (ad 0)), (1, .ref (bd 0)), (2, .int (nI (1))), (4, .int (nI (w)))]) hx hb dL_areAlike_211 hl (k := 3) rfl (z_inc _) (by decide) rfl (fun ls hl => ?_)
                  refine lv_goto (tgt := 52) hx hb dL_areAlike_214 (by decide) ?_
                  exact ih52 (p + 1) (by omega) (by omega) _ _ hR ls (lv_sub hl [1, 2, 3, 0] rfl)
                · skip
                  refine lv_iload_n hx hb dL_areAlike_131 rfl (lv_at hl 2 rfl) ?_
                  refine z_if_eq_n (tgt := 211) hx hb dL_areAlike_132 (by decide) (by omega) (fun h132_71 => by omega) (fun h132_71 => ?_)
                  refine lv_aload_n hx hb dL_areAlike_135 rfl (lv_at hl 0 rfl) ?_
                  refine lv_iload_n hx hb dL_areAlike_136 rfl (lv_at hl 3 rfl) ?_
                  refine lv_iload hx hb dL_areAlike_137 (lv_at hl 4 rfl) ?_
                  refine z_call2a_i (As := [.int (nI (p)), .int (nI (w))]) (rest := []) ⟨hx, hb, hml, hown, hts⟩ hB hab hGb hF hR (c_X4_queued_ok hGa S (p) (w) hO (by omega) (by omega)) (fun _ _ h => h.2) (cwV 2 hts gL_areAlike_X4_queued rfl rfl rfl (by decide +kernel) ⟨Nat.le_of_ble_eq_true rfl, Nat.le_of_ble_eq_true rfl⟩) rfl hl rfl (Nat.le_of_ble_eq_true rfl) (by decide) dL_areAlike_139 (fun r72 H locs hp72 hR => ?_)
                  replace hp72 := hp72.1
                  subst r72
                  have hb139 := (hO.n7 (4 * p + w)).2
                  refine lv_aload_n hx hb dL_areAlike_142 rfl (lv_at hl 1 rfl) ?_
                  refine lv_iload_n hx hb dL_areAlike_143 rfl (lv_at hl 3 rfl) ?_
                  refine lv_iload hx hb dL_areAlike_144 (lv_at hl 4 rfl) ?_
                  refine z_call2b_i (As := [.int (nI (p)), .int (nI (w))]) (rest := [.int (nI (zn S 7 (4 * p + w)))]) ⟨hx, hb, hml, hown, hts⟩ hB hab hGa hF hR (c_X4_queued_ok hGb S (p) (w) hO (by omega) (by omega)) (fun _ _ h => h.2) (cwV 2 hts gL_areAlike_X4_queued rfl rfl rfl (by decide +kernel) ⟨Nat.le_of_ble_eq_true rfl, Nat.le_of_ble_eq_true rfl⟩) rfl hl rfl (Nat.le_of_ble_eq_true rfl) (by decide) dL_areAlike_146 (fun r73 H locs hp73 hR => ?_)
                  replace hp73 := hp73.1
                  subst r73
                  refine z_ne_n (tgt := 203) hx hb dL_areAlike_149 (by decide) (by omega) (by omega) (fun h149_74 => absurd rfl h149_74) (fun h149_74 => ?_)
                  refine lv_aload_n hx hb dL_areAlike_152 rfl (lv_at hl 0 rfl) ?_
                  refine lv_iload_n hx hb dL_areAlike_153 rfl (lv_at hl 3 rfl) ?_
                  refine lv_iload hx hb dL_areAlike_154 (lv_at hl 4 rfl) ?_
                  refine z_call2a_i (As := [.int (nI (p)), .int (nI (w))]) (rest := []) ⟨hx, hb, hml, hown, hts⟩ hB hab hGb hF hR (c_X4_isBlocked_ok hGa S (p) (w) hO (by omega) (by omega)) (fun _ _ h => h.2) (cwV 2 hts gL_areAlike_X4_isBlocked rfl rfl rfl (by decide +kernel) ⟨Nat.le_of_ble_eq_true rfl, Nat.le_of_ble_eq_true rfl⟩) rfl hl rfl (Nat.le_of_ble_eq_true rfl) (by decide) dL_areAlike_156 (fun r75 H locs hp75 hR => ?_)
                  replace hp75 := hp75.1
                  rcases hp75 with ⟨hb156, hr75⟩ | ⟨hb156, hr75⟩
                  · subst r75
                    refine lv_aload_n hx hb dL_areAlike_159 rfl (lv_at hl 1 rfl) ?_
                    refine lv_iload_n hx hb dL_areAlike_160 rfl (lv_at hl 3 rfl) ?_
                    refine lv_iload hx hb dL_areAlike_161 (lv_at hl 4 rfl) ?_
                    refine z_call2b_i (As := [.int (nI (p)), .int (nI (w))]) (rest := [.int (nI (1))]) ⟨hx, hb, hml, hown, hts⟩ hB hab hGa hF hR (c_X4_isBlocked_ok hGb S (p) (w) hO (by omega) (by omega)) (fun _ _ h => h.2) (cwV 2 hts gL_areAlike_X4_isBlocked rfl rfl rfl (by decide +kernel) ⟨Nat.le_of_ble_eq_true rfl, Nat.le_of_ble_eq_true rfl⟩) rfl hl rfl (Nat.le_of_ble_eq_true rfl) (by decide) dL_areAlike_163 (fun r76 H locs hp76 hR => ?_)
                    replace hp76 := hp76.1
                    rcases hp76 with ⟨hb163, hr76⟩ | ⟨hb163, hr76⟩
                    · subst r76
                      refine z_ne_n (tgt := 203) hx hb dL_areAlike_166 (by decide) (by omega) (by omega) (fun h166_77 => by omega) (fun h166_77 => ?_)
                      refine lv_aload_n hx hb dL_areAlike_169 rfl (lv_at hl 0 rfl) ?_
                      refine lv_iload hx hb dL_areAlike_170 (lv_at hl 4 rfl) ?_
                      refine z_call2a_i (As := [.int (nI (w))]) (rest := []) ⟨hx, hb, hml, hown, hts⟩ hB hab hGb hF hR (c_X4_open_ok hGa S (w) hO (by omega)) (fun _ _ h => h.2) (cwV 1 hts gL_areAlike_X4_open rfl rfl rfl (by decide +kernel) ⟨Nat.le_of_ble_eq_true rfl, Nat.le_of_ble_eq_true rfl⟩) rfl hl rfl (Nat.le_of_ble_eq_true rfl) (by decide) dL_areAlike_172 (fun r78 H locs hp78 hR => ?_)
                      replace hp78 := hp78.1
                      subst r78
                      refine lv_aload_n hx hb dL_areAlike_175 rfl (lv_at hl 1 rfl) ?_
                      refine lv_iload hx hb dL_areAlike_176 (lv_at hl 4 rfl) ?_
                      refine z_call2b_i (As := [.int (nI (w))]) (rest := [.int (sp_op S w 32)]) ⟨hx, hb, hml, hown, hts⟩ hB hab hGa hF hR (c_X4_open_ok hGb S (w) hO (by omega)) (fun _ _ h => h.2) (cwV 1 hts gL_areAlike_X4_open rfl rfl rfl (by decide +kernel) ⟨Nat.le_of_ble_eq_true rfl, Nat.le_of_ble_eq_true rfl⟩) rfl hl rfl (Nat.le_of_ble_eq_true rfl) (by decide) dL_areAlike_178 (fun r79 H locs hp79 hR => ?_)
                      replace hp79 := hp79.1
                      subst r79
                      refine lv_icmp_ne (tgt := 203) hx hb dL_areAlike_181 (by decide) (fun h181_80 => absurd rfl h181_80) (fun h181_80 => ?_)
                      refine lv_aload_n hx hb dL_areAlike_184 rfl (lv_at hl 0 rfl) ?_
                      refine lv_iload hx hb dL_areAlike_185 (lv_at hl 4 rfl) ?_
                      refine z_call2a_i (As := [.int (nI (w))]) (rest := []) ⟨hx, hb, hml, hown, hts⟩ hB hab hGb hF hR (c_X4_sealed_ok hGa S (w) hO (by omega)) (fun _ _ h => h.2) (cwV 1 hts gL_areAlike_X4_sealed rfl rfl rfl (by decide +kernel) ⟨Nat.le_of_ble_eq_true rfl, Nat.le_of_ble_eq_true rfl⟩) rfl hl rfl (Nat.le_of_ble_eq_true rfl) (by decide) dL_areAlike_187 (fun r81 H locs hp81 hR => ?_)
                      replace hp81 := hp81.1
                      subst r81
                      refine lv_aload_n hx hb dL_areAlike_190 rfl (lv_at hl 1 rfl) ?_
                      refine lv_iload hx hb dL_areAlike_191 (lv_at hl 4 rfl) ?_
                      refine z_call2b_i (As := [.int (nI (w))]) (rest := [.int (S 21 w)]) ⟨hx, hb, hml, hown, hts⟩ hB hab hGa hF hR (c_X4_sealed_ok hGb S (w) hO (by omega)) (fun _ _ h => h.2) (cwV 1 hts gL_areAlike_X4_sealed rfl rfl rfl (by decide +kernel) ⟨Nat.le_of_ble_eq_true rfl, Nat.le_of_ble_eq_true rfl⟩) rfl hl rfl (Nat.le_of_ble_eq_true rfl) (by decide) dL_areAlike_193 (fun r82 H locs hp82 hR => ?_)
                      replace hp82 := hp82.1
                      subst r82
                      refine lv_icmp_ne (tgt := 203) hx hb dL_areAlike_196 (by decide) (fun h196_83 => absurd rfl h196_83) (fun h196_83 => ?_)
                      refine lv_iconst (v := (nI (1))) hx hb dL_areAlike_199 (by decide) ?_
                      refine lv_goto (tgt := 204) hx hb dL_areAlike_200 (by decide) ?_
                      refine lv_istore_n (lv' := [(2, .int (nI (1))), (0, .ref (ad 0)), (1, .ref (bd 0)), (3, .int (nI (p))), (4, .int (nI (w)))]) hx hb dL_areAlike_204 rfl hl (by decide) rfl (fun ls hl => ?_)
                      refine lv_iinc (v := (nI (w + 1))) (lv' := [(4, .int (nI (w + 1))), (2, .int (nI (1))), (0, .ref (ad 0)), (1, .ref (bd 0)), (3, .int (nI (p)))]) hx hb dL_areAlike_205 hl (k := 4) rfl (z_inc _) (by decide) rfl (fun ls hl => ?_)
                      refine lv_goto (tgt := 122) hx hb dL_areAlike_208 (by decide) ?_
                      exact ih122 (w + 1) (by omega) (by omega) _ _ hR ls (lv_sub hl [2, 3, 1, 4, 0] rfl)
                    · exact absurd hb156 hb163
                  · subst r75
                    refine lv_aload_n hx hb dL_areAlike_159 rfl (lv_at hl 1 rfl) ?_
                    refine lv_iload_n hx hb dL_areAlike_160 rfl (lv_at hl 3 rfl) ?_
                    refine lv_iload hx hb dL_areAlike_161 (lv_at hl 4 rfl) ?_
                    refine z_call2b_i (As := [.int (nI (p)), .int (nI (w))]) (rest := [.int (nI (0))]) ⟨hx, hb, hml, hown, hts⟩ hB hab hGa hF hR (c_X4_isBlocked_ok hGb S (p) (w) hO (by omega) (by omega)) (fun _ _ h => h.2) (cwV 2 hts gL_areAlike_X4_isBlocked rfl rfl rfl (by decide +kernel) ⟨Nat.le_of_ble_eq_true rfl, Nat.le_of_ble_eq_true rfl⟩) rfl hl rfl (Nat.le_of_ble_eq_true rfl) (by decide) dL_areAlike_163 (fun r84 H locs hp84 hR => ?_)
                    replace hp84 := hp84.1
                    rcases hp84 with ⟨hb163, hr84⟩ | ⟨hb163, hr84⟩
                    · exact absurd hb163 hb156
                    · subst r84
                      refine z_ne_n (tgt := 203) hx hb dL_areAlike_166 (by decide) (by omega) (by omega) (fun h166_85 => by omega) (fun h166_85 => ?_)
                      refine lv_aload_n hx hb dL_areAlike_169 rfl (lv_at hl 0 rfl) ?_
                      refine lv_iload hx hb dL_areAlike_170 (lv_at hl 4 rfl) ?_
                      refine z_call2a_i (As := [.int (nI (w))]) (rest := []) ⟨hx, hb, hml, hown, hts⟩ hB hab hGb hF hR (c_X4_open_ok hGa S (w) hO (by omega)) (fun _ _ h => h.2) (cwV 1 hts gL_areAlike_X4_open rfl rfl rfl (by decide +kernel) ⟨Nat.le_of_ble_eq_true rfl, Nat.le_of_ble_eq_true rfl⟩) rfl hl rfl (Nat.le_of_ble_eq_true rfl) (by decide) dL_areAlike_172 (fun r86 H locs hp86 hR => ?_)
                      replace hp86 := hp86.1
                      subst r86
                      refine lv_aload_n hx hb dL_areAlike_175 rfl (lv_at hl 1 rfl) ?_
                      refine lv_iload hx hb dL_areAlike_176 (lv_at hl 4 rfl) ?_
                      refine z_call2b_i (As := [.int (nI (w))]) (rest := [.int (sp_op S w 32)]) ⟨hx, hb, hml, hown, hts⟩ hB hab hGa hF hR (c_X4_open_ok hGb S (w) hO (by omega)) (fun _ _ h => h.2) (cwV 1 hts gL_areAlike_X4_open rfl rfl rfl (by decide +kernel) ⟨Nat.le_of_ble_eq_true rfl, Nat.le_of_ble_eq_true rfl⟩) rfl hl rfl (Nat.le_of_ble_eq_true rfl) (by decide) dL_areAlike_178 (fun r87 H locs hp87 hR => ?_)
                      replace hp87 := hp87.1
                      subst r87
                      refine lv_icmp_ne (tgt := 203) hx hb dL_areAlike_181 (by decide) (fun h181_88 => absurd rfl h181_88) (fun h181_88 => ?_)
                      refine lv_aload_n hx hb dL_areAlike_184 rfl (lv_at hl 0 rfl) ?_
                      refine lv_iload hx hb dL_areAlike_185 (lv_at hl 4 rfl) ?_
                      refine z_call2a_i (As := [.int (nI (w))]) (rest := []) ⟨hx, hb, hml, hown, hts⟩ hB hab hGb hF hR (c_X4_sealed_ok hGa S (w) hO (by omega)) (fun _ _ h => h.2) (cwV 1 hts gL_areAlike_X4_sealed rfl rfl rfl (by decide +kernel) ⟨Nat.le_of_ble_eq_true rfl, Nat.le_of_ble_eq_true rfl⟩) rfl hl rfl (Nat.le_of_ble_eq_true rfl) (by decide) dL_areAlike_187 (fun r89 H locs hp89 hR => ?_)
                      replace hp89 := hp89.1
                      subst r89
                      refine lv_aload_n hx hb dL_areAlike_190 rfl (lv_at hl 1 rfl) ?_
                      refine lv_iload hx hb dL_areAlike_191 (lv_at hl 4 rfl) ?_
                      refine z_call2b_i (As := [.int (nI (w))]) (rest := [.int (S 21 w)]) ⟨hx, hb, hml, hown, hts⟩ hB hab hGa hF hR (c_X4_sealed_ok hGb S (w) hO (by omega)) (fun _ _ h => h.2) (cwV 1 hts gL_areAlike_X4_sealed rfl rfl rfl (by decide +kernel) ⟨Nat.le_of_ble_eq_true rfl, Nat.le_of_ble_eq_true rfl⟩) rfl hl rfl (Nat.le_of_ble_eq_true rfl) (by decide) dL_areAlike_193 (fun r90 H locs hp90 hR => ?_)
                      replace hp90 := hp90.1
                      subst r90
                      refine lv_icmp_ne (tgt := 203) hx hb dL_areAlike_196 (by decide) (fun h196_91 => absurd rfl h196_91) (fun h196_91 => ?_)
                      refine lv_iconst (v := (nI (1))) hx hb dL_areAlike_199 (by decide) ?_
                      refine lv_goto (tgt := 204) hx hb dL_areAlike_200 (by decide) ?_
                      refine lv_istore_n (lv' := [(2, .int (nI (1))), (0, .ref (ad 0)), (1, .ref (bd 0)), (3, .int (nI (p))), (4, .int (nI (w)))]) hx hb dL_areAlike_204 rfl hl (by decide) rfl (fun ls hl => ?_)
                      refine lv_iinc (v := (nI (w + 1))) (lv' := [(4, .int (nI (w + 1))), (2, .int (nI (1))), (0, .ref (ad 0)), (1, .ref (bd 0)), (3, .int (nI (p)))]) hx hb dL_areAlike_205 hl (k := 4) rfl (z_inc _) (by decide) rfl (fun ls hl => ?_)
                      refine lv_goto (tgt := 122) hx hb dL_areAlike_208 (by decide) ?_
                      exact ih122 (w + 1) (by omega) (by omega) _ _ hR ls (lv_sub hl [2, 3, 1, 4, 0] rfl)
            exact loop122 _ 0 (Nat.zero_le _) (Nat.lt_succ_self _) _ _ hR ls (lv_sub hl [2, 3, 1, 4, 0] rfl)
  exact loop52 _ 0 (by omega) (Nat.lt_succ_self _) _ _ hR ls (lv_sub hl [2, 3, 1, 0] rfl)
