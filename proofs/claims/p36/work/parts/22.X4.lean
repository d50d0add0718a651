set_option maxHeartbeats 4000000 in
set_option maxRecDepth 100000 in
theorem c_X4_ownerOfGroup {l : Launch} {D : va_G} {cI cZ : ClassId} {ad : Nat → Nat} {B : Nat → Prop} (hG : ∀ S : zS, va_D B (wX cI cZ ad S)) (S : zS) (g v : Nat) (hg : g ≤ 7) (hv : v ≤ 4) : zMi l yX4_ownerOfGroup wsX4_ownerOfGroup ({ frames := 0, cells := 0, slots := 0, locals := 0 } : Room) [.int (nI (g)), .int (nI (v))] D (zT cI cZ) B (wX cI cZ ad) S (fun (r : Int32) (S1 : zS) => r = (nI (g * v / 8)) ∧ S1 = S) := by
  refine zMi_of (cc := cX4_ownerOfGroup) (maxL := 2) (ret := (some .int)) (by decide) rfl (Nat.le_of_ble_eq_true rfl) ?_
  intro pg en s mm below meth cd hx hb hr hml hown hts hlk hF hR ls hl
  have hl : lv_has ls 2 [(0, .int (nI (g))), (1, .int (nI (v)))] := hl
  refine lv_iload_n hx hb dX4_ownerOfGroup_0 rfl (lv_at hl 0 rfl) ?_
  refine lv_iload_n hx hb dX4_ownerOfGroup_1 rfl (lv_at hl 1 rfl) ?_
  refine z_imul_n hx hb dX4_ownerOfGroup_2 ?_
  refine lv_bipush (v := (nI (8))) hx hb dX4_ownerOfGroup_3 (by decide) ?_
  refine z_idiv_n hx hb dX4_ownerOfGroup_5 (by have := Nat.mul_le_mul hg hv; omega) (by omega) (by omega) ?_
  exact z_iret (w := wX cI cZ ad) (S1 := S) hx hb hr hlk hF hR dX4_ownerOfGroup_6 (⟨rfl, rfl⟩)
set_option maxHeartbeats 4000000 in
set_option maxRecDepth 100000 in
theorem c_X4_ownerOfKey {l : Launch} {D : va_G} {cI cZ : ClassId} {ad : Nat → Nat} {B : Nat → Prop} (hG : ∀ S : zS, va_D B (wX cI cZ ad S)) (S : zS) (key : Nat) (hO : zOK S) (hk : key ≤ 31) : zMi l yX4_ownerOfKey wsX4_ownerOfKey ({ frames := 1, cells := 0, slots := 0, locals := 21 } : Room) [.ref (ad 0), .int (nI (key))] D (zT cI cZ) B (wX cI cZ ad) S (fun (r : Int32) (S1 : zS) => r = (nI (zown (zn S 22 0) key)) ∧ S1 = S) := by
  refine zMi_of (cc := cX4_ownerOfKey) (maxL := 2) (ret := (some .int)) (by decide) rfl (Nat.le_of_ble_eq_true rfl) ?_
  intro pg en s mm below meth cd hx hb hr hml hown hts hlk hF hR ls hl
  have hinX4 : ∀ w ∈ wsX40, w ∈ wsX4_ownerOfKey := by decide +kernel
  have hl : lv_has ls 2 [(0, .ref (ad 0)), (1, .int (nI (key)))] := hl
  have hW1 := (zOK.w hO).2.1
  have hW4 := (zOK.w hO).2.2
  refine lv_iload_n hx hb dX4_ownerOfKey_0 rfl (lv_at hl 1 rfl) ?_
  refine lv_bipush (v := (nI (8))) hx hb dX4_ownerOfKey_1 (by decide) ?_
  refine z_irem_n hx hb dX4_ownerOfKey_3 (by omega) (by omega) (by omega) ?_
  refine lv_aload_n hx hb dX4_ownerOfKey_4 rfl (lv_at hl 0 rfl) ?_
  refine z_get (own := RX4) (C := RX4) (T := TX4) (N := 14) (k := 10) (v := .int (S 22 0)) hx hb hts hinX4 hown hF hR (wX_c0 S) rfl (by decide) (by decide +kernel) rfl rfl dX4_ownerOfKey_5 ?_
  refine lv_topi (fun v1 ev1 => ?_)
  obtain rfl : v1 = (nI (zn S 22 0)) := ev1.trans (zOK.w hO).1
  refine z_callS_i (As := [.int (nI (key % 8)), .int (nI (zn S 22 0))]) (rest := []) (w := wX cI cZ ad) ⟨hx, hb, hml, hown, hts⟩ hF hR (c_X4_ownerOfGroup hG S (key % 8) (zn S 22 0) (by omega) (by omega)) (va_cwS 2 hts gX4_ownerOfKey_X4_ownerOfGroup rfl rfl rfl (by decide +kernel) ⟨Nat.le_of_ble_eq_true rfl, Nat.le_of_ble_eq_true rfl⟩) rfl hl rfl (Nat.le_of_ble_eq_true rfl) (by decide) dX4_ownerOfKey_8 (fun r2 S2 H locs hp2 hR => ?_)
  obtain ⟨hr2, hs2⟩ := hp2
  subst r2
  subst S2
  exact z_iret (w := wX cI cZ ad) (S1 := S) hx hb hr hlk hF hR dX4_ownerOfKey_11 (⟨rfl, rfl⟩)
set_option maxHeartbeats 4000000 in
set_option maxRecDepth 100000 in
theorem c_X4_canReadFrom {l : Launch} {D : va_G} {cI cZ : ClassId} {ad : Nat → Nat} {B : Nat → Prop} (hG : ∀ S : zS, va_D B (wX cI cZ ad S)) (S : zS) (p : Nat) (hO : zOK S) (hp : p < 4) : zMi l yX4_canReadFrom wsX4_canReadFrom ({ frames := 3, cells := 0, slots := 0, locals := 65 } : Room) [.ref (ad 0), .int (nI (p))] D (zT cI cZ) B (wX cI cZ ad) S (fun (r : Int32) (S1 : zS) => (((zcanR S p) ∧ r = nI 1) ∨ (¬ (zcanR S p) ∧ r = nI 0)) ∧ S1 = S) := by
  refine zMi_of (cc := cX4_canReadFrom) (maxL := 4) (ret := (some .boolean)) (by decide) rfl (Nat.le_of_ble_eq_true rfl) ?_
  intro pg en s mm below meth cd hx hb hr hml hown hts hlk hF hR ls hl
  have hinX1 : ∀ w ∈ wsX10, w ∈ wsX4_canReadFrom := by decide +kernel
  have hinX2 : ∀ w ∈ wsX20, w ∈ wsX4_canReadFrom := by decide +kernel
  have hinX4 : ∀ w ∈ wsX40, w ∈ wsX4_canReadFrom := by decide +kernel
  have hl : lv_has ls 4 [(0, .ref (ad 0)), (1, .int (nI (p)))] := hl
  have hW1 := (zOK.w hO).2.1
  have hW4 := (zOK.w hO).2.2
  refine lv_aload_n hx hb dX4_canReadFrom_0 rfl (lv_at hl 0 rfl) ?_
  refine z_get (own := RX4) (C := RX4) (T := TX4) (N := 14) (k := 1) (v := .ref (ad 4)) hx hb hts hinX4 hown hF hR (wX_c0 S) rfl (by decide) (by decide +kernel) rfl rfl dX4_canReadFrom_1 ?_
  refine z_get (own := RX4) (C := RX2) (T := TX2) (N := 4) (k := 0) (v := .ref (ad 5)) hx hb hts hinX2 hown hF hR (wX_c4 S) rfl (by decide) (by decide +kernel) rfl rfl dX4_canReadFrom_4 ?_
  refine lv_iload_n hx hb dX4_canReadFrom_7 rfl (lv_at hl 1 rfl) ?_
  refine z_iald_n (f := S 2) hx hb hF hR (wX_c5 S) zT_0 dX4_canReadFrom_8 (by decide) (by omega) ?_
  refine lv_topi (fun v2 ev2 => ?_)
  obtain rfl : v2 = (nI (zn S 2 (p))) := ev2.trans (zOK.n2 hO _).1
  have hb8_1 := (zOK.n2 hO (p)).2
  refine lv_istore_n (lv' := [(2, .int (nI (zn S 2 (p)))), (0, .ref (ad 0)), (1, .int (nI (p)))]) hx hb dX4_canReadFrom_9 rfl hl (by decide) rfl (fun ls hl => ?_)
  refine lv_iload_n hx hb dX4_canReadFrom_10 rfl (lv_at hl 0 rfl) ?_
  refine lv_aload_n hx hb dX4_canReadFrom_11 rfl (lv_at hl 1 rfl) ?_
  refine z_get (own := RX4) (C := RX4) (T := TX4) (N := 14) (k := 0) (v := .ref (ad 1)) hx hb hts hinX4 hown hF hR (wX_c0 S) rfl (by decide) (by decide +kernel) rfl rfl dX4_canReadFrom_12 ?_
  refine z_get (own := RX4) (C := RX1) (T := TX1) (N := 2) (k := 0) (v := .ref (ad 2)) hx hb hts hinX1 hown hF hR (wX_c1 S) rfl (by decide) (by decide +kernel) rfl rfl dX4_canReadFrom_15 ?_
  refine lv_iload_n hx hb dX4_canReadFrom_18 rfl (lv_at hl 2 rfl) ?_
  refine z_iald_n (f := S 0) hx hb hF hR (wX_c2 S) zT_0 dX4_canReadFrom_19 (by decide) (by omega) ?_
  refine lv_topi (fun v4 ev4 => ?_)
  obtain rfl : v4 = (nI (zn S 0 (p))) := ev4.trans (zOK.n0 hO _).1
  have hb19_3 := (zOK.n0 hO (p)).2
  refine z_lt_n (tgt := 25) hx hb dX4_canReadFrom_20 (by decide) (by omega) (by omega) (fun h20_5 => ?_) (fun h20_5 => ?_)
  · skip
    have q20 := h20_5
    refine lv_aload_n hx hb dX4_canReadFrom_25 rfl (lv_at hl 1 rfl) ?_
    refine z_get (own := RX4) (C := RX4) (T := TX4) (N := 14) (k := 0) (v := .ref (ad 1)) hx hb hts hinX4 hown hF hR (wX_c0 S) rfl (by decide) (by decide +kernel) rfl rfl dX4_canReadFrom_26 ?_
    refine lv_iload_n hx hb dX4_canReadFrom_29 rfl (lv_at hl 2 rfl) ?_
    refine lv_iload_n hx hb dX4_canReadFrom_30 rfl (lv_at hl 0 rfl) ?_
    refine z_callV_i (As := [.int (nI (p)), .int (nI (zn S 2 (p)))]) (rest := []) (w := wX cI cZ ad) ⟨hx, hb, hml, hown, hts⟩ hF hR (c_X1_get hG S p (zn S 2 (p)) hO (by omega) (by omega)) (cwV 2 hts gX4_canReadFrom_X1_get rfl rfl rfl (by decide +kernel) ⟨Nat.le_of_ble_eq_true rfl, Nat.le_of_ble_eq_true rfl⟩) (wX_c1 S) rfl rfl rfl hl rfl (Nat.le_of_ble_eq_true rfl) (by decide) dX4_canReadFrom_31 (fun r6 S6 H locs hp6 hR => ?_)
    obtain ⟨hr6, hs6⟩ := hp6
    subst r6
    subst S6
    have hb31 := (zOK.n1 hO (60 * p + zn S 2 p)).2
    refine lv_istore_n (lv' := [(3, .int (nI (zn S 1 (60 * p + (zn S 2 (p)))))), (2, .int (nI (zn S 2 (p)))), (0, .ref (ad 0)), (1, .int (nI (p)))]) hx hb dX4_canReadFrom_34 rfl hl (by decide) rfl (fun ls hl => ?_)
    refine lv_aload_n hx hb dX4_canReadFrom_35 rfl (lv_at hl 2 rfl) ?_
    refine z_get (own := RX4) (C := RX4) (T := TX4) (N := 14) (k := 2) (v := .ref (ad 9)) hx hb hts hinX4 hown hF hR (wX_c0 S) rfl (by decide) (by decide +kernel) rfl rfl dX4_canReadFrom_36 ?_
    refine lv_iload_n hx hb dX4_canReadFrom_39 rfl (lv_at hl 3 rfl) ?_
    refine lv_aload_n hx hb dX4_canReadFrom_40 rfl (lv_at hl 2 rfl) ?_
    refine lv_iload_n hx hb dX4_canReadFrom_41 rfl (lv_at hl 0 rfl) ?_
    refine z_callS_i (As := [.int (nI (zn S 1 (60 * p + (zn S 2 (p)))))]) (rest := [.ref (ad 0), .int (nI (p)), .ref (ad 9)]) (w := wX cI cZ ad) ⟨hx, hb, hml, hown, hts⟩ hF hR (c_X4_keyOf hG S (zn S 1 (60 * p + (zn S 2 (p)))) (by omega)) (va_cwS 1 hts gX4_canReadFrom_X4_keyOf rfl rfl rfl (by decide +kernel) ⟨Nat.le_of_ble_eq_true rfl, Nat.le_of_ble_eq_true rfl⟩) rfl hl rfl (Nat.le_of_ble_eq_true rfl) (by decide) dX4_canReadFrom_42 (fun r7 S7 H locs hp7 hR => ?_)
    obtain ⟨hr7, hs7⟩ := hp7
    subst r7
    subst S7
    refine z_callV_i (As := [.int (nI ((zn S 1 (60 * p + (zn S 2 (p)))) / 1000))]) (rest := [.int (nI (p)), .ref (ad 9)]) (w := wX cI cZ ad) ⟨hx, hb, hml, hown, hts⟩ hF hR (c_X4_ownerOfKey hG S ((zn S 1 (60 * p + (zn S 2 (p)))) / 1000) hO (by omega)) (cwV 1 hts gX4_canReadFrom_X4_ownerOfKey rfl rfl rfl (by decide +kernel) ⟨Nat.le_of_ble_eq_true rfl, Nat.le_of_ble_eq_true rfl⟩) (wX_c0 S) rfl rfl rfl hl rfl (Nat.le_of_ble_eq_true rfl) (by decide) dX4_canReadFrom_45 (fun r8 S8 H locs hp8 hR => ?_)
    obtain ⟨hr8, hs8⟩ := hp8
    subst r8
    subst S8
    have hb45 := (hO.own (zn S 1 (60 * p + zn S 2 p) / 1000)).2
    refine z_callV_i (As := [.int (nI (p)), .int (nI (zown (zn S 22 0) ((zn S 1 (60 * p + (zn S 2 (p)))) / 1000)))]) (rest := []) (w := wX cI cZ ad) ⟨hx, hb, hml, hown, hts⟩ hF hR (c_X0_hasRoom hG S p (zown (zn S 22 0) ((zn S 1 (60 * p + (zn S 2 (p)))) / 1000)) hO (by omega) (by omega)) (cwV 2 hts gX4_canReadFrom_X0_hasRoom rfl rfl rfl (by decide +kernel) ⟨Nat.le_of_ble_eq_true rfl, Nat.le_of_ble_eq_true rfl⟩) (wX_c9 S) rfl rfl rfl hl rfl (Nat.le_of_ble_eq_true rfl) (by decide) dX4_canReadFrom_48 (fun r9 S9 H locs hp9 hR => ?_)
    obtain ⟨hp9, hs9⟩ := hp9
    subst S9
    rcases hp9 with ⟨hb48, hr9⟩ | ⟨hb48, hr9⟩
    · subst r9
      exact z_zret (w := wX cI cZ ad) (S1 := S) hx hb hr hlk hF hR dX4_canReadFrom_51 (by decide) (⟨Or.inl ⟨⟨q20, hb48⟩, rfl⟩, rfl⟩)
    · subst r9
      exact z_zret (w := wX cI cZ ad) (S1 := S) hx hb hr hlk hF hR dX4_canReadFrom_51 (by decide) (⟨Or.inr ⟨fun q => hb48 q.2, rfl⟩, rfl⟩)
  · skip
    have q20 := h20_5
    refine lv_iconst (v := (nI (0))) hx hb dX4_canReadFrom_23 (by decide) ?_
    exact z_zret (w := wX cI cZ ad) (S1 := S) hx hb hr hlk hF hR dX4_canReadFrom_24 (by decide) (⟨Or.inr ⟨fun q => absurd q.1 (by omega), rfl⟩, rfl⟩)
set_option maxHeartbeats 4000000 in
set_option maxRecDepth 100000 in
theorem c_X4_readFrom {l : Launch} {D : va_G} {cI cZ : ClassId} {ad : Nat → Nat} {B : Nat → Prop} (hG : ∀ S : zS, va_D B (wX cI cZ ad S)) (S : zS) (p : Nat) (hO : zOK S) (hp : p < 4) (hc : zcanR S p) : zMi l yX4_readFrom wsX4_readFrom ({ frames := 2, cells := 0, slots := 0, locals := 45 } : Room) [.ref (ad 0), .int (nI (p))] D (zT cI cZ) B (wX cI cZ ad) S (fun (r : Int32) (S1 : zS) => r = (nI (zrw S p)) ∧ S1 = sp_read S p) := by
  refine zMi_of (cc := cX4_readFrom) (maxL := 4) (ret := (some .int)) (by decide) rfl (Nat.le_of_ble_eq_true rfl) ?_
  intro pg en s mm below meth cd hx hb hr hml hown hts hlk hF hR ls hl
  have hinX2 : ∀ w ∈ wsX20, w ∈ wsX4_readFrom := by decide +kernel
  have hinX4 : ∀ w ∈ wsX40, w ∈ wsX4_readFrom := by decide +kernel
  have hl : lv_has ls 4 [(0, .ref (ad 0)), (1, .int (nI (p)))] := hl
  have hW1 := (zOK.w hO).2.1
  have hW4 := (zOK.w hO).2.2
  have hc1 := hc.1
  have hb0 := (zOK.n0 hO p).2
  refine lv_aload_n hx hb dX4_readFrom_0 rfl (lv_at hl 0 rfl) ?_
  refine z_get (own := RX4) (C := RX4) (T := TX4) (N := 14) (k := 0) (v := .ref (ad 1)) hx hb hts hinX4 hown hF hR (wX_c0 S) rfl (by decide) (by decide +kernel) rfl rfl dX4_readFrom_1 ?_
  refine lv_iload_n hx hb dX4_readFrom_4 rfl (lv_at hl 1 rfl) ?_
  refine lv_aload_n hx hb dX4_readFrom_5 rfl (lv_at hl 0 rfl) ?_
  refine z_get (own := RX4) (C := RX4) (T := TX4) (N := 14) (k := 1) (v := .ref (ad 4)) hx hb hts hinX4 hown hF hR (wX_c0 S) rfl (by decide) (by decide +kernel) rfl rfl dX4_readFrom_6 ?_
  refine z_get (own := RX4) (C := RX2) (T := TX2) (N := 4) (k := 0) (v := .ref (ad 5)) hx hb hts hinX2 hown hF hR (wX_c4 S) rfl (by decide) (by decide +kernel) rfl rfl dX4_readFrom_9 ?_
  refine lv_iload_n hx hb dX4_readFrom_12 rfl (lv_at hl 1 rfl) ?_
  refine z_iald_n (f := S 2) hx hb hF hR (wX_c5 S) zT_0 dX4_readFrom_13 (by decide) (by omega) ?_
  refine lv_topi (fun v2 ev2 => ?_)
  obtain rfl : v2 = (nI (zn S 2 (p))) := ev2.trans (zOK.n2 hO _).1
  have hb13_1 := (zOK.n2 hO (p)).2
  refine z_callV_i (As := [.int (nI (p)), .int (nI (zn S 2 (p)))]) (rest := []) (w := wX cI cZ ad) ⟨hx, hb, hml, hown, hts⟩ hF hR (c_X1_get hG S p (zn S 2 (p)) hO (by omega) (by omega)) (cwV 2 hts gX4_readFrom_X1_get rfl rfl rfl (by decide +kernel) ⟨Nat.le_of_ble_eq_true rfl, Nat.le_of_ble_eq_true rfl⟩) (wX_c1 S) rfl rfl rfl hl rfl (Nat.le_of_ble_eq_true rfl) (by decide) dX4_readFrom_14 (fun r3 S3 H locs hp3 hR => ?_)
  obtain ⟨hr3, hs3⟩ := hp3
  subst r3
  subst S3
  have hb31 := (zOK.n1 hO (60 * p + zn S 2 p)).2
  refine lv_istore_n (lv' := [(2, .int (nI (zn S 1 (60 * p + (zn S 2 (p)))))), (0, .ref (ad 0)), (1, .int (nI (p)))]) hx hb dX4_readFrom_17 rfl hl (by decide) rfl (fun ls hl => ?_)
  refine lv_aload_n hx hb dX4_readFrom_18 rfl (lv_at hl 1 rfl) ?_
  refine lv_iload_n hx hb dX4_readFrom_19 rfl (lv_at hl 0 rfl) ?_
  refine z_callS_i (As := [.int (nI (zn S 1 (60 * p + (zn S 2 (p)))))]) (rest := [.ref (ad 0)]) (w := wX cI cZ ad) ⟨hx, hb, hml, hown, hts⟩ hF hR (c_X4_keyOf hG S (zn S 1 (60 * p + (zn S 2 (p)))) (by omega)) (va_cwS 1 hts gX4_readFrom_X4_keyOf rfl rfl rfl (by decide +kernel) ⟨Nat.le_of_ble_eq_true rfl, Nat.le_of_ble_eq_true rfl⟩) rfl hl rfl (Nat.le_of_ble_eq_true rfl) (by decide) dX4_readFrom_20 (fun r4 S4 H locs hp4 hR => ?_)
  obtain ⟨hr4, hs4⟩ := hp4
  subst r4
  subst S4
  refine z_callV_i (As := [.int (nI ((zn S 1 (60 * p + (zn S 2 (p)))) / 1000))]) (rest := []) (w := wX cI cZ ad) ⟨hx, hb, hml, hown, hts⟩ hF hR (c_X4_ownerOfKey hG S ((zn S 1 (60 * p + (zn S 2 (p)))) / 1000) hO (by omega)) (cwV 1 hts gX4_readFrom_X4_ownerOfKey rfl rfl rfl (by decide +kernel) ⟨Nat.le_of_ble_eq_true rfl, Nat.le_of_ble_eq_true rfl⟩) (wX_c0 S) rfl rfl rfl hl rfl (Nat.le_of_ble_eq_true rfl) (by decide) dX4_readFrom_23 (fun r5 S5 H locs hp5 hR => ?_)
  obtain ⟨hr5, hs5⟩ := hp5
  subst r5
  subst S5
  have hb45 := (hO.own (zn S 1 (60 * p + zn S 2 p) / 1000)).2
  refine lv_istore_n (lv' := [(3, .int (nI (zown (zn S 22 0) ((zn S 1 (60 * p + (zn S 2 (p)))) / 1000)))), (2, .int (nI (zn S 1 (60 * p + (zn S 2 (p)))))), (0, .ref (ad 0)), (1, .int (nI (p)))]) hx hb dX4_readFrom_26 rfl hl (by decide) rfl (fun ls hl => ?_)
  refine lv_aload_n hx hb dX4_readFrom_27 rfl (lv_at hl 2 rfl) ?_
  refine z_get (own := RX4) (C := RX4) (T := TX4) (N := 14) (k := 2) (v := .ref (ad 9)) hx hb hts hinX4 hown hF hR (wX_c0 S) rfl (by decide) (by decide +kernel) rfl rfl dX4_readFrom_28 ?_
  refine lv_iload_n hx hb dX4_readFrom_31 rfl (lv_at hl 3 rfl) ?_
  refine lv_iload_n hx hb dX4_readFrom_32 rfl (lv_at hl 0 rfl) ?_
  refine lv_iload_n hx hb dX4_readFrom_33 rfl (lv_at hl 1 rfl) ?_
  refine z_callV_v (As := [.int (nI (p)), .int (nI (zown (zn S 22 0) ((zn S 1 (60 * p + (zn S 2 (p)))) / 1000))), .int (nI (zn S 1 (60 * p + (zn S 2 (p)))))]) (rest := []) (w := wX cI cZ ad) ⟨hx, hb, hml, hown, hts⟩ hF hR (c_X0_put hG S p (zown (zn S 22 0) (zn S 1 (60 * p + zn S 2 p) / 1000)) (nI (zn S 1 (60 * p + zn S 2 p))) hO (by omega) (by omega) hc.2) (cwV 3 hts gX4_readFrom_X0_put rfl rfl rfl (by decide +kernel) ⟨Nat.le_of_ble_eq_true rfl, Nat.le_of_ble_eq_true rfl⟩) (wX_c9 S) rfl rfl rfl hl rfl (Nat.le_of_ble_eq_true rfl) (by decide) dX4_readFrom_34 (fun S6 H locs hp6 hR => ?_)
  subst S6
  have hO2 := zOK_put (x := nI (zn S 1 (60 * p + zn S 2 p))) hO hc.2 (nI_31100 hb31)
  refine lv_aload_n hx hb dX4_readFrom_37 rfl (lv_at hl 2 rfl) ?_
  refine z_get (own := RX4) (C := RX4) (T := TX4) (N := 14) (k := 1) (v := .ref (ad 4)) hx hb hts hinX4 hown hF hR (wX_c0 (sp_put S (4 * p + (zown (zn S 22 0) ((zn S 1 (60 * p + (zn S 2 (p)))) / 1000))) ((nI (zn S 1 (60 * p + (zn S 2 (p)))))))) rfl (by decide) (by decide +kernel) rfl rfl dX4_readFrom_38 ?_
  refine z_get (own := RX4) (C := RX2) (T := TX2) (N := 4) (k := 0) (v := .ref (ad 5)) hx hb hts hinX2 hown hF hR (wX_c4 (sp_put S (4 * p + (zown (zn S 22 0) ((zn S 1 (60 * p + (zn S 2 (p)))) / 1000))) ((nI (zn S 1 (60 * p + (zn S 2 (p)))))))) rfl (by decide) (by decide +kernel) rfl rfl dX4_readFrom_41 ?_
  refine lv_iload_n hx hb dX4_readFrom_44 rfl (lv_at hl 3 rfl) ?_
  refine lv_dup2_11 hx hb dX4_readFrom_45 rfl rfl ?_
  refine z_iald_n (f := (sp_put S (4 * p + (zown (zn S 22 0) ((zn S 1 (60 * p + (zn S 2 (p)))) / 1000))) ((nI (zn S 1 (60 * p + (zn S 2 (p))))))) 2) hx hb hF hR (wX_c5 (sp_put S (4 * p + (zown (zn S 22 0) ((zn S 1 (60 * p + (zn S 2 (p)))) / 1000))) ((nI (zn S 1 (60 * p + (zn S 2 (p)))))))) zT_0 dX4_readFrom_46 (by decide) (by omega) ?_
  refine lv_topi (fun v8 ev8 => ?_)
  obtain rfl : v8 = (nI (zn (sp_put S (4 * p + (zown (zn S 22 0) ((zn S 1 (60 * p + (zn S 2 (p)))) / 1000))) ((nI (zn S 1 (60 * p + (zn S 2 (p))))))) 2 (p))) := ev8.trans (zOK.n2 hO2 _).1
  have hb46_7 := (zOK.n2 hO2 (p)).2
  refine lv_iconst (v := (nI (1))) hx hb dX4_readFrom_47 (by decide) ?_
  refine z_iadd_n hx hb dX4_readFrom_48 ?_
  refine z_iast_n (f := (sp_put S (4 * p + (zown (zn S 22 0) ((zn S 1 (60 * p + (zn S 2 (p)))) / 1000))) ((nI (zn S 1 (60 * p + (zn S 2 (p))))))) 2) hx hb hF (hG (sp_put S (4 * p + (zown (zn S 22 0) ((zn S 1 (60 * p + (zn S 2 (p)))) / 1000))) ((nI (zn S 1 (60 * p + (zn S 2 (p)))))))) hR (wX_c5 (sp_put S (4 * p + (zown (zn S 22 0) ((zn S 1 (60 * p + (zn S 2 (p)))) / 1000))) ((nI (zn S 1 (60 * p + (zn S 2 (p)))))))) zT_0 (wX_s2 (sp_put S (4 * p + (zown (zn S 22 0) ((zn S 1 (60 * p + (zn S 2 (p)))) / 1000))) ((nI (zn S 1 (60 * p + (zn S 2 (p))))))) (upd ((sp_put S (4 * p + (zown (zn S 22 0) ((zn S 1 (60 * p + (zn S 2 (p)))) / 1000))) ((nI (zn S 1 (60 * p + (zn S 2 (p))))))) 2) (p) (nI ((zn (sp_put S (4 * p + (zown (zn S 22 0) ((zn S 1 (60 * p + (zn S 2 (p)))) / 1000))) ((nI (zn S 1 (60 * p + (zn S 2 (p))))))) 2 (p)) + 1)))) dX4_readFrom_49 (by decide) (by omega) (fun H locs hR => ?_)
  refine lv_iload_n hx hb dX4_readFrom_50 rfl (lv_at hl 0 rfl) ?_
  exact z_iret (w := wX cI cZ ad) (S1 := (zU (sp_put S (4 * p + (zown (zn S 22 0) ((zn S 1 (60 * p + (zn S 2 (p)))) / 1000))) ((nI (zn S 1 (60 * p + (zn S 2 (p))))))) 2 (upd ((sp_put S (4 * p + (zown (zn S 22 0) ((zn S 1 (60 * p + (zn S 2 (p)))) / 1000))) ((nI (zn S 1 (60 * p + (zn S 2 (p))))))) 2) (p) (nI ((zn (sp_put S (4 * p + (zown (zn S 22 0) ((zn S 1 (60 * p + (zn S 2 (p)))) / 1000))) ((nI (zn S 1 (60 * p + (zn S 2 (p))))))) 2 (p)) + 1))))) hx hb hr hlk hF hR dX4_readFrom_51 (⟨rfl, rfl⟩)
set_option maxHeartbeats 4000000 in
set_option maxRecDepth 100000 in
theorem c_X4_hasRoomInAllChannels {l : Launch} {D : va_G} {cI cZ : ClassId} {ad : Nat → Nat} {B : Nat → Prop} (hG : ∀ S : zS, va_D B (wX cI cZ ad S)) (S : zS) (p : Nat) (hO : zOK S) (hp : p < 4) : zMi l yX4_hasRoomInAllChannels wsX4_hasRoomInAllChannels ({ frames := 3, cells := 0, slots := 0, locals := 65 } : Room) [.ref (ad 0), .int (nI (p))] D (zT cI cZ) B (wX cI cZ ad) S (fun (r : Int32) (S1 : zS) => (((∀ w, w < zn S 22 0 → zn S 7 (4 * p + w) < 8) ∧ r = nI 1) ∨ (¬ (∀ w, w < zn S 22 0 → zn S 7 (4 * p + w) < 8) ∧ r = nI 0)) ∧ S1 = S) := by
  refine zMi_of (cc := cX4_hasRoomInAllChannels) (maxL := 3) (ret := (some .boolean)) (by decide) rfl (Nat.le_of_ble_eq_true rfl) ?_
  intro pg en s mm below meth cd hx hb hr hml hown hts hlk hF hR ls hl
  have hinX4 : ∀ w ∈ wsX40, w ∈ wsX4_hasRoomInAllChannels := by decide +kernel
  have hl : lv_has ls 3 [(0, .ref (ad 0)), (1, .int (nI (p)))] := hl
  have hW1 := (zOK.w hO).2.1
  have hW4 := (zOK.w hO).2.2
  refine lv_iconst (v := (nI (0))) hx hb dX4_hasRoomInAllChannels_0 (by decide) ?_
  refine lv_istore_n (lv' := [(2, .int (nI (0))), (0, .ref (ad 0)), (1, .int (nI (p)))]) hx hb dX4_hasRoomInAllChannels_1 rfl hl (by decide) rfl (fun ls hl => ?_)
  have loop2 : ∀ (nf2 : Nat) (k : Nat), (k ≤ zn S 22 0) → (∀ w, w < k → zn S 7 (4 * p + w) < 8) → zn S 22 0 - k < nf2 → ∀ (H : Heap) (locs : List Loc), zR D B (wX cI cZ ad S) s H locs → ∀ ls : Array Slot, lv_has ls 3 [(0, .ref (ad 0)), (1, .int (nI (p))), (2, .int (nI (k)))] → W pg l en ({ frames := 3, cells := 0, slots := 0, locals := 65 } : Room) s mm ([.ref (ad 0), .int (nI (p))] : List Value).toArray below meth cd H locs 0 0 (MQ below (va_Qi (fun (r : Int32) (S1 : zS) => (((∀ w, w < zn S 22 0 → zn S 7 (4 * p + w) < 8) ∧ r = nI 1) ∨ (¬ (∀ w, w < zn S 22 0 → zn S 7 (4 * p + w) < 8) ∧ r = nI 0)) ∧ S1 = S) (zB D (zT cI cZ) (wX cI cZ ad)) (zA B s.heap.size)) ([.ref (ad 0), .int (nI (p))] : List Value).toArray s 0 0 (zA B s.heap.size)) (F0 mm 2 ls []) := by
    intro nf2
    induction nf2 with
    | zero => intro k hk4 hk hn; exact absurd hn (Nat.not_lt_zero _)
    | succ nf2 ih2 =>
      intro k hk4 hk hn H locs hR ls hl
      refine lv_iload_n hx hb dX4_hasRoomInAllChannels_2 rfl (lv_at hl 2 rfl) ?_
      refine lv_aload_n hx hb dX4_hasRoomInAllChannels_3 rfl (lv_at hl 0 rfl) ?_
      refine z_get (own := RX4) (C := RX4) (T := TX4) (N := 14) (k := 10) (v := .int (S 22 0)) hx hb hts hinX4 hown hF hR (wX_c0 S) rfl (by decide) (by decide +kernel) rfl rfl dX4_hasRoomInAllChannels_4 ?_
      refine lv_topi (fun v1 ev1 => ?_)
      obtain rfl : v1 = (nI (zn S 22 0)) := ev1.trans (zOK.w hO).1
      refine z_ge_n (tgt := 30) hx hb dX4_hasRoomInAllChannels_7 (by decide) (by omega) (by omega) (fun h7_2 => ?_) (fun h7_2 => ?_)
      · skip
        refine lv_iconst (v := (nI (1))) hx hb dX4_hasRoomInAllChannels_30 (by decide) ?_
        exact z_zret (w := wX cI cZ ad) (S1 := S) hx hb hr hlk hF hR dX4_hasRoomInAllChannels_31 (by decide) (⟨Or.inl ⟨fun q hq => hk q (by omega), rfl⟩, rfl⟩)
      · skip
        refine lv_aload_n hx hb dX4_hasRoomInAllChannels_10 rfl (lv_at hl 0 rfl) ?_
        refine z_get (own := RX4) (C := RX4) (T := TX4) (N := 14) (k := 2) (v := .ref (ad 9)) hx hb hts hinX4 hown hF hR (wX_c0 S) rfl (by decide) (by decide +kernel) rfl rfl dX4_hasRoomInAllChannels_11 ?_
        refine lv_iload_n hx hb dX4_hasRoomInAllChannels_14 rfl (lv_at hl 1 rfl) ?_
        refine lv_iload_n hx hb dX4_hasRoomInAllChannels_15 rfl (lv_at hl 2 rfl) ?_
        refine z_callV_i (As := [.int (nI (p)), .int (nI (k))]) (rest := []) (w := wX cI cZ ad) ⟨hx, hb, hml, hown, hts⟩ hF hR (c_X0_hasRoom hG S p k hO (by omega) (by omega)) (cwV 2 hts gX4_hasRoomInAllChannels_X0_hasRoom rfl rfl rfl (by decide +kernel) ⟨Nat.le_of_ble_eq_true rfl, Nat.le_of_ble_eq_true rfl⟩) (wX_c9 S) rfl rfl rfl hl rfl (Nat.le_of_ble_eq_true rfl) (by decide) dX4_hasRoomInAllChannels_16 (fun r3 S3 H locs hp3 hR => ?_)
        obtain ⟨hp3, hs3⟩ := hp3
        subst S3
        rcases hp3 with ⟨hb16, hr3⟩ | ⟨hb16, hr3⟩
        · subst r3
          refine z_if_ne_n (tgt := 24) hx hb dX4_hasRoomInAllChannels_19 (by decide) (by omega) (fun h19_4 => ?_) (fun h19_4 => by omega)
          refine lv_iinc (v := (nI (k + 1))) (lv' := [(2, .int (nI (k + 1))), (0, .ref (ad 0)), (1, .int (nI (p)))]) hx hb dX4_hasRoomInAllChannels_24 hl (k := 2) rfl (z_inc _) (by decide) rfl (fun ls hl => ?_)
          refine lv_goto (tgt := 2) hx hb dX4_hasRoomInAllChannels_27 (by decide) ?_
          exact ih2 (k + 1) (by omega) (lt_s hk hb16) (by omega) _ _ hR ls (lv_sub hl [1, 2, 0] rfl)
        · subst r3
          refine z_if_ne_n (tgt := 24) hx hb dX4_hasRoomInAllChannels_19 (by decide) (by omega) (fun h19_5 => by omega) (fun h19_5 => ?_)
          refine lv_iconst (v := (nI (0))) hx hb dX4_hasRoomInAllChannels_22 (by decide) ?_
          exact z_zret (w := wX cI cZ ad) (S1 := S) hx hb hr hlk hF hR dX4_hasRoomInAllChannels_23 (by decide) (⟨Or.inr ⟨fun q => hb16 (q k (by omega)), rfl⟩, rfl⟩)
  exact loop2 _ 0 (by omega) (fun q hq => absurd hq (Nat.not_lt_zero q)) (Nat.lt_succ_self _) _ _ hR ls (lv_sub hl [1, 2, 0] rfl)
set_option maxHeartbeats 4000000 in
set_option maxRecDepth 100000 in
theorem c_X4_takeEvent {l : Launch} {D : va_G} {cI cZ : ClassId} {ad : Nat → Nat} {B : Nat → Prop} (hG : ∀ S : zS, va_D B (wX cI cZ ad S)) (S : zS) (key v : Nat) (hk : key < 32) : zMi l yX4_takeEvent wsX4_takeEvent ({ frames := 1, cells := 0, slots := 0, locals := 23 } : Room) [.ref (ad 0), .int (nI (key)), .int (nI (v))] D (zT cI cZ) B (wX cI cZ ad) S (fun (r : Int32) (S1 : zS) => r = (sp_te S key v 9 key) ∧ S1 = sp_te S key v) := by
  refine zMi_of (cc := cX4_takeEvent) (maxL := 3) (ret := (some .int)) (by decide) rfl (Nat.le_of_ble_eq_true rfl) ?_
  intro pg en s mm below meth cd hx hb hr hml hown hts hlk hF hR ls hl
  have hinX3 : ∀ w ∈ wsX30, w ∈ wsX4_takeEvent := by decide +kernel
  have hinX4 : ∀ w ∈ wsX40, w ∈ wsX4_takeEvent := by decide +kernel
  have hl : lv_has ls 3 [(0, .ref (ad 0)), (1, .int (nI (key))), (2, .int (nI (v)))] := hl
  refine lv_aload_n hx hb dX4_takeEvent_0 rfl (lv_at hl 0 rfl) ?_
  refine z_get (own := RX4) (C := RX4) (T := TX4) (N := 14) (k := 3) (v := .ref (ad 13)) hx hb hts hinX4 hown hF hR (wX_c0 S) rfl (by decide) (by decide +kernel) rfl rfl dX4_takeEvent_1 ?_
  refine lv_iload_n hx hb dX4_takeEvent_4 rfl (lv_at hl 1 rfl) ?_
  refine lv_iconst (v := (nI (1))) hx hb dX4_takeEvent_5 (by decide) ?_
  refine lv_iload_n hx hb dX4_takeEvent_6 rfl (lv_at hl 2 rfl) ?_
  refine z_callV_v (As := [.int (nI (key)), .int (nI (1)), .int (nI (v))]) (rest := []) (w := wX cI cZ ad) ⟨hx, hb, hml, hown, hts⟩ hF hR (c_X3_add_t0 hG S key ((nI (1))) ((nI (v))) (by omega)) (cwV 3 hts gX4_takeEvent_X3_add rfl rfl rfl (by decide +kernel) ⟨Nat.le_of_ble_eq_true rfl, Nat.le_of_ble_eq_true rfl⟩) (wX_c13 S) rfl rfl rfl hl rfl (Nat.le_of_ble_eq_true rfl) (by decide) dX4_takeEvent_7 (fun S1 H locs hp1 hR => ?_)
  subst S1
  refine lv_aload_n hx hb dX4_takeEvent_10 rfl (lv_at hl 0 rfl) ?_
  refine z_get (own := RX4) (C := RX4) (T := TX4) (N := 14) (k := 4) (v := .ref (ad 16)) hx hb hts hinX4 hown hF hR (wX_c0 (sp_tadd S 9 key ((nI (1))) ((nI (v))))) rfl (by decide) (by decide +kernel) rfl rfl dX4_takeEvent_11 ?_
  refine lv_iload_n hx hb dX4_takeEvent_14 rfl (lv_at hl 1 rfl) ?_
  refine lv_iconst (v := (nI (1))) hx hb dX4_takeEvent_15 (by decide) ?_
  refine lv_iload_n hx hb dX4_takeEvent_16 rfl (lv_at hl 2 rfl) ?_
  refine z_callV_v (As := [.int (nI (key)), .int (nI (1)), .int (nI (v))]) (rest := []) (w := wX cI cZ ad) ⟨hx, hb, hml, hown, hts⟩ hF hR (c_X3_add_t1 hG (sp_tadd S 9 key ((nI (1))) ((nI (v)))) key ((nI (1))) ((nI (v))) (by omega)) (cwV 3 hts gX4_takeEvent_X3_add rfl rfl rfl (by decide +kernel) ⟨Nat.le_of_ble_eq_true rfl, Nat.le_of_ble_eq_true rfl⟩) (wX_c16 (sp_tadd S 9 key ((nI (1))) ((nI (v))))) rfl rfl rfl hl rfl (Nat.le_of_ble_eq_true rfl) (by decide) dX4_takeEvent_17 (fun S2 H locs hp2 hR => ?_)
  subst S2
  refine lv_aload_n hx hb dX4_takeEvent_20 rfl (lv_at hl 0 rfl) ?_
  refine z_get (own := RX4) (C := RX4) (T := TX4) (N := 14) (k := 3) (v := .ref (ad 13)) hx hb hts hinX4 hown hF hR (wX_c0 (sp_tadd (sp_tadd S 9 key ((nI (1))) ((nI (v)))) 11 key ((nI (1))) ((nI (v))))) rfl (by decide) (by decide +kernel) rfl rfl dX4_takeEvent_21 ?_
  refine z_get (own := RX4) (C := RX3) (T := TX3) (N := 2) (k := 0) (v := .ref (ad 14)) hx hb hts hinX3 hown hF hR (wX_c13 (sp_tadd (sp_tadd S 9 key ((nI (1))) ((nI (v)))) 11 key ((nI (1))) ((nI (v))))) rfl (by decide) (by decide +kernel) rfl rfl dX4_takeEvent_24 ?_
  refine lv_iload_n hx hb dX4_takeEvent_27 rfl (lv_at hl 1 rfl) ?_
  refine z_iald_n (f := (sp_tadd (sp_tadd S 9 key ((nI (1))) ((nI (v)))) 11 key ((nI (1))) ((nI (v)))) 9) hx hb hF hR (wX_c14 (sp_tadd (sp_tadd S 9 key ((nI (1))) ((nI (v)))) 11 key ((nI (1))) ((nI (v))))) zT_0 dX4_takeEvent_28 (by decide) (by omega) ?_
  exact z_iret (w := wX cI cZ ad) (S1 := (sp_tadd (sp_tadd S 9 key ((nI (1))) ((nI (v)))) 11 key ((nI (1))) ((nI (v))))) hx hb hr hlk hF hR dX4_takeEvent_29 (⟨rfl, rfl⟩)
set_option maxHeartbeats 4000000 in
set_option maxRecDepth 100000 in
theorem c_X4_moveTallies_12 {l : Launch} {D : va_G} {cI cZ : ClassId} {ad : Nat → Nat} {B : Nat → Prop} (hG : ∀ S : zS, va_D B (wX cI cZ ad S)) (S : zS) (w : Nat) (hO : zOK S) (hw : w < 4) : zMi l yX4_moveTallies wsX4_moveTallies ({ frames := 2, cells := 0, slots := 0, locals := 42 } : Room) [.ref (ad 0), .ref (ad 16), .ref (ad 19), .int (nI (w))] D (zT cI cZ) B (wX cI cZ ad) S (fun (r : Int32) (S1 : zS) => r = (sp_mc S 11 13 w 32) ∧ S1 = sp_mv S 11 13 w 32) := by
  refine zMi_of (cc := cX4_moveTallies) (maxL := 6) (ret := (some .int)) (by decide) rfl (Nat.le_of_ble_eq_true rfl) ?_
  intro pg en s mm below meth cd hx hb hr hml hown hts hlk hF hR ls hl
  have hinX3 : ∀ w ∈ wsX30, w ∈ wsX4_moveTallies := by decide +kernel
  have hl : lv_has ls 6 [(0, .ref (ad 0)), (1, .ref (ad 16)), (2, .ref (ad 19)), (3, .int (nI (w)))] := hl
  refine lv_iconst (v := (nI (0))) hx hb dX4_moveTallies_0 (by decide) ?_
  refine lv_istore (lv' := [(4, .int (nI (0))), (0, .ref (ad 0)), (1, .ref (ad 16)), (2, .ref (ad 19)), (3, .int (nI (w)))]) hx hb dX4_moveTallies_1 hl (by decide) rfl (fun ls hl => ?_)
  refine lv_iconst (v := (nI (0))) hx hb dX4_moveTallies_3 (by decide) ?_
  refine lv_istore (lv' := [(5, .int (nI (0))), (4, .int (nI (0))), (0, .ref (ad 0)), (1, .ref (ad 16)), (2, .ref (ad 19)), (3, .int (nI (w)))]) hx hb dX4_moveTallies_4 hl (by decide) rfl (fun ls hl => ?_)
  have loop6 : ∀ (nf6 : Nat) (k : Nat), (k ≤ 32) → 32 - k < nf6 → ∀ (H : Heap) (locs : List Loc), zR D B (wX cI cZ ad (sp_mv S 11 13 w k)) s H locs → ∀ ls : Array Slot, lv_has ls 6 [(0, .ref (ad 0)), (1, .ref (ad 16)), (2, .ref (ad 19)), (3, .int (nI (w))), (4, .int (sp_mc S 11 13 w k)), (5, .int (nI (k)))] → W pg l en ({ frames := 2, cells := 0, slots := 0, locals := 42 } : Room) s mm ([.ref (ad 0), .ref (ad 16), .ref (ad 19), .int (nI (w))] : List Value).toArray below meth cd H locs 0 0 (MQ below (va_Qi (fun (r : Int32) (S1 : zS) => r = (sp_mc S 11 13 w 32) ∧ S1 = sp_mv S 11 13 w 32) (zB D (zT cI cZ) (wX cI cZ ad)) (zA B s.heap.size)) ([.ref (ad 0), .ref (ad 16), .ref (ad 19), .int (nI (w))] : List Value).toArray s 0 0 (zA B s.heap.size)) (F0 mm 6 ls []) := by
    intro nf6
    induction nf6 with
    | zero => intro k hk4 hn; exact absurd hn (Nat.not_lt_zero _)
    | succ nf6 ih6 =>
      intro k hk4 hn H locs hR ls hl
      have hOk := zOK_mv (a := 11) (b := 13) (w := w) hO (by decide) (by decide) (by decide) (by decide) k
      have hW4 := hOk.w.2.2
      refine lv_iload hx hb dX4_moveTallies_6 (lv_at hl 5 rfl) ?_
      refine lv_bipush (v := (nI (32))) hx hb dX4_moveTallies_8 (by decide) ?_
      refine z_ge_n (tgt := 67) hx hb dX4_moveTallies_10 (by decide) (by omega) (by omega) (fun h10_1 => ?_) (fun h10_1 => ?_)
      · skip
        refine lv_iload hx hb dX4_moveTallies_67 (lv_at hl 4 rfl) ?_
        exact z_iret (w := wX cI cZ ad) (S1 := (sp_mv S 11 13 w k)) hx hb hr hlk hF hR dX4_moveTallies_69 (⟨by rw [show k = 32 from by omega], by rw [show k = 32 from by omega]⟩)
      · skip
        refine lv_aload_n hx hb dX4_moveTallies_13 rfl (lv_at hl 0 rfl) ?_
        refine lv_iload hx hb dX4_moveTallies_14 (lv_at hl 5 rfl) ?_
        refine z_callV_i (As := [.int (nI (k))]) (rest := []) (w := wX cI cZ ad) ⟨hx, hb, hml, hown, hts⟩ hF hR (c_X4_ownerOfKey hG (sp_mv S 11 13 w k) k hOk (by omega)) (cwV 1 hts gX4_moveTallies_X4_ownerOfKey rfl rfl rfl (by decide +kernel) ⟨Nat.le_of_ble_eq_true rfl, Nat.le_of_ble_eq_true rfl⟩) (wX_c0 (sp_mv S 11 13 w k)) rfl rfl rfl hl rfl (Nat.le_of_ble_eq_true rfl) (by decide) dX4_moveTallies_16 (fun r2 S2 H locs hp2 hR => ?_)
        obtain ⟨hr2, hs2⟩ := hp2
        subst r2
        subst S2
        have hb16 := (hOk.own k).2
        refine lv_iload_n hx hb dX4_moveTallies_19 rfl (lv_at hl 3 rfl) ?_
        refine z_ne_n (tgt := 61) hx hb dX4_moveTallies_20 (by decide) (by omega) (by omega) (fun h20_3 => ?_) (fun h20_3 => ?_)
        · skip
          have q20 := h20_3
          have hl : lv_has ls 6 [(0, .ref (ad 0)), (1, .ref (ad 16)), (2, .ref (ad 19)), (3, .int (nI (w))), (4, .int (sp_mc S 11 13 w (k + 1))), (5, .int (nI (k)))] := (by rw [show sp_mc S 11 13 w (k + 1) = if zown (zn (sp_mv S 11 13 w k) 22 0) k = w then sp_mc S 11 13 w k + (sp_mv S 11 13 w k) 11 k else sp_mc S 11 13 w k from rfl]; first | (rw [if_pos q20]; exact hl) | (rw [if_neg q20]; exact hl))
          refine lv_iinc (v := (nI (k + 1))) (lv' := [(5, .int (nI (k + 1))), (0, .ref (ad 0)), (1, .ref (ad 16)), (2, .ref (ad 19)), (3, .int (nI (w))), (4, .int (sp_mc S 11 13 w (k + 1)))]) hx hb dX4_moveTallies_61 hl (k := 5) rfl (z_inc _) (by decide) rfl (fun ls hl => ?_)
          refine lv_goto (tgt := 6) hx hb dX4_moveTallies_64 (by decide) ?_
          exact ih6 (k + 1) (by omega) (by omega) _ _ (by rw [show sp_mv S 11 13 w (k + 1) = (sp_mv S 11 13 w k) from if_neg q20]; exact hR) ls (lv_sub hl [1, 2, 3, 4, 5, 0] rfl)
        · skip
          have q20 := h20_3
          refine lv_iload hx hb dX4_moveTallies_23 (lv_at hl 4 rfl) ?_
          refine lv_aload_n hx hb dX4_moveTallies_25 rfl (lv_at hl 1 rfl) ?_
          refine z_get (own := RX4) (C := RX3) (T := TX3) (N := 2) (k := 0) (v := .ref (ad 17)) hx hb hts hinX3 hown hF hR (wX_c16 (sp_mv S 11 13 w k)) rfl (by decide) (by decide +kernel) rfl rfl dX4_moveTallies_26 ?_
          refine lv_iload hx hb dX4_moveTallies_29 (lv_at hl 5 rfl) ?_
          refine z_iald_n (f := (sp_mv S 11 13 w k) 11) hx hb hF hR (wX_c17 (sp_mv S 11 13 w k)) zT_0 dX4_moveTallies_31 (by decide) (by omega) ?_
          refine lv_iadd hx hb dX4_moveTallies_32 ?_
          refine lv_istore (lv' := [(4, .int ((sp_mc S 11 13 w k) + ((sp_mv S 11 13 w k) 11 (k)))), (0, .ref (ad 0)), (1, .ref (ad 16)), (2, .ref (ad 19)), (3, .int (nI (w))), (5, .int (nI (k)))]) hx hb dX4_moveTallies_33 hl (by decide) rfl (fun ls hl => ?_)
          refine lv_aload_n hx hb dX4_moveTallies_35 rfl (lv_at hl 3 rfl) ?_
          refine lv_iload hx hb dX4_moveTallies_36 (lv_at hl 5 rfl) ?_
          refine lv_aload_n hx hb dX4_moveTallies_38 rfl (lv_at hl 2 rfl) ?_
          refine z_get (own := RX4) (C := RX3) (T := TX3) (N := 2) (k := 0) (v := .ref (ad 17)) hx hb hts hinX3 hown hF hR (wX_c16 (sp_mv S 11 13 w k)) rfl (by decide) (by decide +kernel) rfl rfl dX4_moveTallies_39 ?_
          refine lv_iload hx hb dX4_moveTallies_42 (lv_at hl 5 rfl) ?_
          refine z_iald_n (f := (sp_mv S 11 13 w k) 11) hx hb hF hR (wX_c17 (sp_mv S 11 13 w k)) zT_0 dX4_moveTallies_44 (by decide) (by omega) ?_
          refine lv_aload_n hx hb dX4_moveTallies_45 rfl (lv_at hl 2 rfl) ?_
          refine z_get (own := RX4) (C := RX3) (T := TX3) (N := 2) (k := 1) (v := .ref (ad 18)) hx hb hts hinX3 hown hF hR (wX_c16 (sp_mv S 11 13 w k)) rfl (by decide) (by decide +kernel) rfl rfl dX4_moveTallies_46 ?_
          refine lv_iload hx hb dX4_moveTallies_49 (lv_at hl 5 rfl) ?_
          refine z_iald_n (f := (sp_mv S 11 13 w k) 12) hx hb hF hR (wX_c18 (sp_mv S 11 13 w k)) zT_0 dX4_moveTallies_51 (by decide) (by omega) ?_
          refine z_callV_v (As := [.int (nI (k)), .int ((sp_mv S 11 13 w k) 11 (k)), .int ((sp_mv S 11 13 w k) 12 (k))]) (rest := []) (w := wX cI cZ ad) ⟨hx, hb, hml, hown, hts⟩ hF hR (c_X3_add_t2 hG (sp_mv S 11 13 w k) k (((sp_mv S 11 13 w k) 11 (k))) (((sp_mv S 11 13 w k) 12 (k))) (by omega)) (cwV 3 hts gX4_moveTallies_X3_add rfl rfl rfl (by decide +kernel) ⟨Nat.le_of_ble_eq_true rfl, Nat.le_of_ble_eq_true rfl⟩) (wX_c19 (sp_mv S 11 13 w k)) rfl rfl rfl hl rfl (Nat.le_of_ble_eq_true rfl) (by decide) dX4_moveTallies_52 (fun S4 H locs hp4 hR => ?_)
          subst S4
          have hO4 := (zOK_tadd (key := k) (a := (((sp_mv S 11 13 w k) 11 (k)))) (b := (((sp_mv S 11 13 w k) 12 (k)))) hOk (by decide : 9 ≤ 13) (by decide))
          refine lv_aload_n hx hb dX4_moveTallies_55 rfl (lv_at hl 2 rfl) ?_
          refine lv_iload hx hb dX4_moveTallies_56 (lv_at hl 5 rfl) ?_
          refine z_callV_v (As := [.int (nI (k))]) (rest := []) (w := wX cI cZ ad) ⟨hx, hb, hml, hown, hts⟩ hF hR (c_X3_clearKey_t1 hG (sp_tadd (sp_mv S 11 13 w k) 13 k (((sp_mv S 11 13 w k) 11 (k))) (((sp_mv S 11 13 w k) 12 (k)))) k (by omega)) (cwV 1 hts gX4_moveTallies_X3_clearKey rfl rfl rfl (by decide +kernel) ⟨Nat.le_of_ble_eq_true rfl, Nat.le_of_ble_eq_true rfl⟩) (wX_c16 (sp_tadd (sp_mv S 11 13 w k) 13 k (((sp_mv S 11 13 w k) 11 (k))) (((sp_mv S 11 13 w k) 12 (k))))) rfl rfl rfl hl rfl (Nat.le_of_ble_eq_true rfl) (by decide) dX4_moveTallies_58 (fun S5 H locs hp5 hR => ?_)
          subst S5
          have hO5 := (zOK_tclk (key := k) hO4 (by decide : 9 ≤ 11) (by decide))
          have hl : lv_has ls 6 [(4, .int (sp_mc S 11 13 w (k + 1))), (0, .ref (ad 0)), (1, .ref (ad 16)), (2, .ref (ad 19)), (3, .int (nI (w))), (5, .int (nI (k)))] := (by rw [show sp_mc S 11 13 w (k + 1) = if zown (zn (sp_mv S 11 13 w k) 22 0) k = w then sp_mc S 11 13 w k + (sp_mv S 11 13 w k) 11 k else sp_mc S 11 13 w k from rfl]; first | (rw [if_pos q20]; exact hl) | (rw [if_neg q20]; exact hl))
          refine lv_iinc (v := (nI (k + 1))) (lv' := [(5, .int (nI (k + 1))), (4, .int (sp_mc S 11 13 w (k + 1))), (0, .ref (ad 0)), (1, .ref (ad 16)), (2, .ref (ad 19)), (3, .int (nI (w)))]) hx hb dX4_moveTallies_61 hl (k := 5) rfl (z_inc _) (by decide) rfl (fun ls hl => ?_)
          refine lv_goto (tgt := 6) hx hb dX4_moveTallies_64 (by decide) ?_
          exact ih6 (k + 1) (by omega) (by omega) _ _ (by rw [show sp_mv S 11 13 w (k + 1) = (sp_tclk (sp_tadd (sp_mv S 11 13 w k) 13 k (((sp_mv S 11 13 w k) 11 (k))) (((sp_mv S 11 13 w k) 12 (k)))) 11 k) from if_pos q20]; exact hR) ls (lv_sub hl [2, 3, 4, 5, 1, 0] rfl)
  exact loop6 _ 0 (by omega) (Nat.lt_succ_self _) _ _ (by rw [show sp_mv S 11 13 w 0 = S from rfl]; exact hR) ls (lv_sub hl [2, 3, 4, 5, 1, 0] rfl)
set_option maxHeartbeats 4000000 in
set_option maxRecDepth 100000 in
theorem c_X4_moveTallies_25 {l : Launch} {D : va_G} {cI cZ : ClassId} {ad : Nat → Nat} {B : Nat → Prop} (hG : ∀ S : zS, va_D B (wX cI cZ ad S)) (S : zS) (w : Nat) (hO : zOK S) (hw : w < 4) : zMi l yX4_moveTallies wsX4_moveTallies ({ frames := 2, cells := 0, slots := 0, locals := 42 } : Room) [.ref (ad 0), .ref (ad 19), .ref (ad 28), .int (nI (w))] D (zT cI cZ) B (wX cI cZ ad) S (fun (r : Int32) (S1 : zS) => r = (sp_mc S 13 19 w 32) ∧ S1 = sp_mv S 13 19 w 32) := by
  refine zMi_of (cc := cX4_moveTallies) (maxL := 6) (ret := (some .int)) (by decide) rfl (Nat.le_of_ble_eq_true rfl) ?_
  intro pg en s mm below meth cd hx hb hr hml hown hts hlk hF hR ls hl
  have hinX3 : ∀ w ∈ wsX30, w ∈ wsX4_moveTallies := by decide +kernel
  have hl : lv_has ls 6 [(0, .ref (ad 0)), (1, .ref (ad 19)), (2, .ref (ad 28)), (3, .int (nI (w)))] := hl
  refine lv_iconst (v := (nI (0))) hx hb dX4_moveTallies_0 (by decide) ?_
  refine lv_istore (lv' := [(4, .int (nI (0))), (0, .ref (ad 0)), (1, .ref (ad 19)), (2, .ref (ad 28)), (3, .int (nI (w)))]) hx hb dX4_moveTallies_1 hl (by decide) rfl (fun ls hl => ?_)
  refine lv_iconst (v := (nI (0))) hx hb dX4_moveTallies_3 (by decide) ?_
  refine lv_istore (lv' := [(5, .int (nI (0))), (4, .int (nI (0))), (0, .ref (ad 0)), (1, .ref (ad 19)), (2, .ref (ad 28)), (3, .int (nI (w)))]) hx hb dX4_moveTallies_4 hl (by decide) rfl (fun ls hl => ?_)
  have loop6 : ∀ (nf6 : Nat) (k : Nat), (k ≤ 32) → 32 - k < nf6 → ∀ (H : Heap) (locs : List Loc), zR D B (wX cI cZ ad (sp_mv S 13 19 w k)) s H locs → ∀ ls : Array Slot, lv_has ls 6 [(0, .ref (ad 0)), (1, .ref (ad 19)), (2, .ref (ad 28)), (3, .int (nI (w))), (4, .int (sp_mc S 13 19 w k)), (5, .int (nI (k)))] → W pg l en ({ frames := 2, cells := 0, slots := 0, locals := 42 } : Room) s mm ([.ref (ad 0), .ref (ad 19), .ref (ad 28), .int (nI (w))] : List Value).toArray below meth cd H locs 0 0 (MQ below (va_Qi (fun (r : Int32) (S1 : zS) => r = (sp_mc S 13 19 w 32) ∧ S1 = sp_mv S 13 19 w 32) (zB D (zT cI cZ) (wX cI cZ ad)) (zA B s.heap.size)) ([.ref (ad 0), .ref (ad 19), .ref (ad 28), .int (nI (w))] : List Value).toArray s 0 0 (zA B s.heap.size)) (F0 mm 6 ls []) := by
    intro nf6
    induction nf6 with
    | zero => intro k hk4 hn; exact absurd hn (Nat.not_lt_zero _)
    | succ nf6 ih6 =>
      intro k hk4 hn H locs hR ls hl
      have hOk := zOK_mv (a := 13) (b := 19) (w := w) hO (by decide) (by decide) (by decide) (by decide) k
      have hW4 := hOk.w.2.2
      refine lv_iload hx hb dX4_moveTallies_6 (lv_at hl 5 rfl) ?_
      refine lv_bipush (v := (nI (32))) hx hb dX4_moveTallies_8 (by decide) ?_
      refine z_ge_n (tgt := 67) hx hb dX4_moveTallies_10 (by decide) (by omega) (by omega) (fun h10_1 => ?_) (fun h10_1 => ?_)
      · skip
        refine lv_iload hx hb dX4_moveTallies_67 (lv_at hl 4 rfl) ?_
        exact z_iret (w := wX cI cZ ad) (S1 := (sp_mv S 13 19 w k)) hx hb hr hlk hF hR dX4_moveTallies_69 (⟨by rw [show k = 32 from by omega], by rw [show k = 32 from by omega]⟩)
      · skip
        refine lv_aload_n hx hb dX4_moveTallies_13 rfl (lv_at hl 0 rfl) ?_
        refine lv_iload hx hb dX4_moveTallies_14 (lv_at hl 5 rfl) ?_
        refine z_callV_i (As := [.int (nI (k))]) (rest := []) (w := wX cI cZ ad) ⟨hx, hb, hml, hown, hts⟩ hF hR (c_X4_ownerOfKey hG (sp_mv S 13 19 w k) k hOk (by omega)) (cwV 1 hts gX4_moveTallies_X4_ownerOfKey rfl rfl rfl (by decide +kernel) ⟨Nat.le_of_ble_eq_true rfl, Nat.le_of_ble_eq_true rfl⟩) (wX_c0 (sp_mv S 13 19 w k)) rfl rfl rfl hl rfl (Nat.le_of_ble_eq_true rfl) (by decide) dX4_moveTallies_16 (fun r2 S2 H locs hp2 hR => ?_)
        obtain ⟨hr2, hs2⟩ := hp2
        subst r2
        subst S2
        have hb16 := (hOk.own k).2
        refine lv_iload_n hx hb dX4_moveTallies_19 rfl (lv_at hl 3 rfl) ?_
        refine z_ne_n (tgt := 61) hx hb dX4_moveTallies_20 (by decide) (by omega) (by omega) (fun h20_3 => ?_) (fun h20_3 => ?_)
        · skip
          have q20 := h20_3
          have hl : lv_has ls 6 [(0, .ref (ad 0)), (1, .ref (ad 19)), (2, .ref (ad 28)), (3, .int (nI (w))), (4, .int (sp_mc S 13 19 w (k + 1))), (5, .int (nI (k)))] := (by rw [show sp_mc S 13 19 w (k + 1) = if zown (zn (sp_mv S 13 19 w k) 22 0) k = w then sp_mc S 13 19 w k + (sp_mv S 13 19 w k) 13 k else sp_mc S 13 19 w k from rfl]; first | (rw [if_pos q20]; exact hl) | (rw [if_neg q20]; exact hl))
          refine lv_iinc (v := (nI (k + 1))) (lv' := [(5, .int (nI (k + 1))), (0, .ref (ad 0)), (1, .ref (ad 19)), (2, .ref (ad 28)), (3, .int (nI (w))), (4, .int (sp_mc S 13 19 w (k + 1)))]) hx hb dX4_moveTallies_61 hl (k := 5) rfl (z_inc _) (by decide) rfl (fun ls hl => ?_)
          refine lv_goto (tgt := 6) hx hb dX4_moveTallies_64 (by decide) ?_
          exact ih6 (k + 1) (by omega) (by omega) _ _ (by rw [show sp_mv S 13 19 w (k + 1) = (sp_mv S 13 19 w k) from if_neg q20]; exact hR) ls (lv_sub hl [1, 2, 3, 4, 5, 0] rfl)
        · skip
          have q20 := h20_3
          refine lv_iload hx hb dX4_moveTallies_23 (lv_at hl 4 rfl) ?_
          refine lv_aload_n hx hb dX4_moveTallies_25 rfl (lv_at hl 1 rfl) ?_
          refine z_get (own := RX4) (C := RX3) (T := TX3) (N := 2) (k := 0) (v := .ref (ad 20)) hx hb hts hinX3 hown hF hR (wX_c19 (sp_mv S 13 19 w k)) rfl (by decide) (by decide +kernel) rfl rfl dX4_moveTallies_26 ?_
          refine lv_iload hx hb dX4_moveTallies_29 (lv_at hl 5 rfl) ?_
          refine z_iald_n (f := (sp_mv S 13 19 w k) 13) hx hb hF hR (wX_c20 (sp_mv S 13 19 w k)) zT_0 dX4_moveTallies_31 (by decide) (by omega) ?_
          refine lv_iadd hx hb dX4_moveTallies_32 ?_
          refine lv_istore (lv' := [(4, .int ((sp_mc S 13 19 w k) + ((sp_mv S 13 19 w k) 13 (k)))), (0, .ref (ad 0)), (1, .ref (ad 19)), (2, .ref (ad 28)), (3, .int (nI (w))), (5, .int (nI (k)))]) hx hb dX4_moveTallies_33 hl (by decide) rfl (fun ls hl => ?_)
          refine lv_aload_n hx hb dX4_moveTallies_35 rfl (lv_at hl 3 rfl) ?_
          refine lv_iload hx hb dX4_moveTallies_36 (lv_at hl 5 rfl) ?_
          refine lv_aload_n hx hb dX4_moveTallies_38 rfl (lv_at hl 2 rfl) ?_
          refine z_get (own := RX4) (C := RX3) (T := TX3) (N := 2) (k := 0) (v := .ref (ad 20)) hx hb hts hinX3 hown hF hR (wX_c19 (sp_mv S 13 19 w k)) rfl (by decide) (by decide +kernel) rfl rfl dX4_moveTallies_39 ?_
          refine lv_iload hx hb dX4_moveTallies_42 (lv_at hl 5 rfl) ?_
          refine z_iald_n (f := (sp_mv S 13 19 w k) 13) hx hb hF hR (wX_c20 (sp_mv S 13 19 w k)) zT_0 dX4_moveTallies_44 (by decide) (by omega) ?_
          refine lv_aload_n hx hb dX4_moveTallies_45 rfl (lv_at hl 2 rfl) ?_
          refine z_get (own := RX4) (C := RX3) (T := TX3) (N := 2) (k := 1) (v := .ref (ad 21)) hx hb hts hinX3 hown hF hR (wX_c19 (sp_mv S 13 19 w k)) rfl (by decide) (by decide +kernel) rfl rfl dX4_moveTallies_46 ?_
          refine lv_iload hx hb dX4_moveTallies_49 (lv_at hl 5 rfl) ?_
          refine z_iald_n (f := (sp_mv S 13 19 w k) 14) hx hb hF hR (wX_c21 (sp_mv S 13 19 w k)) zT_0 dX4_moveTallies_51 (by decide) (by omega) ?_
          refine z_callV_v (As := [.int (nI (k)), .int ((sp_mv S 13 19 w k) 13 (k)), .int ((sp_mv S 13 19 w k) 14 (k))]) (rest := []) (w := wX cI cZ ad) ⟨hx, hb, hml, hown, hts⟩ hF hR (c_X3_add_t5 hG (sp_mv S 13 19 w k) k (((sp_mv S 13 19 w k) 13 (k))) (((sp_mv S 13 19 w k) 14 (k))) (by omega)) (cwV 3 hts gX4_moveTallies_X3_add rfl rfl rfl (by decide +kernel) ⟨Nat.le_of_ble_eq_true rfl, Nat.le_of_ble_eq_true rfl⟩) (wX_c28 (sp_mv S 13 19 w k)) rfl rfl rfl hl rfl (Nat.le_of_ble_eq_true rfl) (by decide) dX4_moveTallies_52 (fun S4 H locs hp4 hR => ?_)
          subst S4
          have hO4 := (zOK_tadd (key := k) (a := (((sp_mv S 13 19 w k) 13 (k)))) (b := (((sp_mv S 13 19 w k) 14 (k)))) hOk (by decide : 9 ≤ 19) (by decide))
          refine lv_aload_n hx hb dX4_moveTallies_55 rfl (lv_at hl 2 rfl) ?_
          refine lv_iload hx hb dX4_moveTallies_56 (lv_at hl 5 rfl) ?_
          refine z_callV_v (As := [.int (nI (k))]) (rest := []) (w := wX cI cZ ad) ⟨hx, hb, hml, hown, hts⟩ hF hR (c_X3_clearKey_t2 hG (sp_tadd (sp_mv S 13 19 w k) 19 k (((sp_mv S 13 19 w k) 13 (k))) (((sp_mv S 13 19 w k) 14 (k)))) k (by omega)) (cwV 1 hts gX4_moveTallies_X3_clearKey rfl rfl rfl (by decide +kernel) ⟨Nat.le_of_ble_eq_true rfl, Nat.le_of_ble_eq_true rfl⟩) (wX_c19 (sp_tadd (sp_mv S 13 19 w k) 19 k (((sp_mv S 13 19 w k) 13 (k))) (((sp_mv S 13 19 w k) 14 (k))))) rfl rfl rfl hl rfl (Nat.le_of_ble_eq_true rfl) (by decide) dX4_moveTallies_58 (fun S5 H locs hp5 hR => ?_)
          subst S5
          have hO5 := (zOK_tclk (key := k) hO4 (by decide : 9 ≤ 13) (by decide))
          have hl : lv_has ls 6 [(4, .int (sp_mc S 13 19 w (k + 1))), (0, .ref (ad 0)), (1, .ref (ad 19)), (2, .ref (ad 28)), (3, .int (nI (w))), (5, .int (nI (k)))] := (by rw [show sp_mc S 13 19 w (k + 1) = if zown (zn (sp_mv S 13 19 w k) 22 0) k = w then sp_mc S 13 19 w k + (sp_mv S 13 19 w k) 13 k else sp_mc S 13 19 w k from rfl]; first | (rw [if_pos q20]; exact hl) | (rw [if_neg q20]; exact hl))
          refine lv_iinc (v := (nI (k + 1))) (lv' := [(5, .int (nI (k + 1))), (4, .int (sp_mc S 13 19 w (k + 1))), (0, .ref (ad 0)), (1, .ref (ad 19)), (2, .ref (ad 28)), (3, .int (nI (w)))]) hx hb dX4_moveTallies_61 hl (k := 5) rfl (z_inc _) (by decide) rfl (fun ls hl => ?_)
          refine lv_goto (tgt := 6) hx hb dX4_moveTallies_64 (by decide) ?_
          exact ih6 (k + 1) (by omega) (by omega) _ _ (by rw [show sp_mv S 13 19 w (k + 1) = (sp_tclk (sp_tadd (sp_mv S 13 19 w k) 19 k (((sp_mv S 13 19 w k) 13 (k))) (((sp_mv S 13 19 w k) 14 (k)))) 13 k) from if_pos q20]; exact hR) ls (lv_sub hl [2, 3, 4, 5, 1, 0] rfl)
  exact loop6 _ 0 (by omega) (Nat.lt_succ_self _) _ _ (by rw [show sp_mv S 13 19 w 0 = S from rfl]; exact hR) ls (lv_sub hl [2, 3, 4, 5, 1, 0] rfl)
set_option maxHeartbeats 4000000 in
set_option maxRecDepth 100000 in
theorem c_X4_moveTallies_21 {l : Launch} {D : va_G} {cI cZ : ClassId} {ad : Nat → Nat} {B : Nat → Prop} (hG : ∀ S : zS, va_D B (wX cI cZ ad S)) (S : zS) (w : Nat) (hO : zOK S) (hw : w < 4) : zMi l yX4_moveTallies wsX4_moveTallies ({ frames := 2, cells := 0, slots := 0, locals := 42 } : Room) [.ref (ad 0), .ref (ad 19), .ref (ad 16), .int (nI (w))] D (zT cI cZ) B (wX cI cZ ad) S (fun (r : Int32) (S1 : zS) => r = (sp_mc S 13 11 w 32) ∧ S1 = sp_mv S 13 11 w 32) := by
  refine zMi_of (cc := cX4_moveTallies) (maxL := 6) (ret := (some .int)) (by decide) rfl (Nat.le_of_ble_eq_true rfl) ?_
  intro pg en s mm below meth cd hx hb hr hml hown hts hlk hF hR ls hl
  have hinX3 : ∀ w ∈ wsX30, w ∈ wsX4_moveTallies := by decide +kernel
  have hl : lv_has ls 6 [(0, .ref (ad 0)), (1, .ref (ad 19)), (2, .ref (ad 16)), (3, .int (nI (w)))] := hl
  refine lv_iconst (v := (nI (0))) hx hb dX4_moveTallies_0 (by decide) ?_
  refine lv_istore (lv' := [(4, .int (nI (0))), (0, .ref (ad 0)), (1, .ref (ad 19)), (2, .ref (ad 16)), (3, .int (nI (w)))]) hx hb dX4_moveTallies_1 hl (by decide) rfl (fun ls hl => ?_)
  refine lv_iconst (v := (nI (0))) hx hb dX4_moveTallies_3 (by decide) ?_
  refine lv_istore (lv' := [(5, .int (nI (0))), (4, .int (nI (0))), (0, .ref (ad 0)), (1, .ref (ad 19)), (2, .ref (ad 16)), (3, .int (nI (w)))]) hx hb dX4_moveTallies_4 hl (by decide) rfl (fun ls hl => ?_)
  have loop6 : ∀ (nf6 : Nat) (k : Nat), (k ≤ 32) → 32 - k < nf6 → ∀ (H : Heap) (locs : List Loc), zR D B (wX cI cZ ad (sp_mv S 13 11 w k)) s H locs → ∀ ls : Array Slot, lv_has ls 6 [(0, .ref (ad 0)), (1, .ref (ad 19)), (2, .ref (ad 16)), (3, .int (nI (w))), (4, .int (sp_mc S 13 11 w k)), (5, .int (nI (k)))] → W pg l en ({ frames := 2, cells := 0, slots := 0, locals := 42 } : Room) s mm ([.ref (ad 0), .ref (ad 19), .ref (ad 16), .int (nI (w))] : List Value).toArray below meth cd H locs 0 0 (MQ below (va_Qi (fun (r : Int32) (S1 : zS) => r = (sp_mc S 13 11 w 32) ∧ S1 = sp_mv S 13 11 w 32) (zB D (zT cI cZ) (wX cI cZ ad)) (zA B s.heap.size)) ([.ref (ad 0), .ref (ad 19), .ref (ad 16), .int (nI (w))] : List Value).toArray s 0 0 (zA B s.heap.size)) (F0 mm 6 ls []) := by
    intro nf6
    induction nf6 with
    | zero => intro k hk4 hn; exact absurd hn (Nat.not_lt_zero _)
    | succ nf6 ih6 =>
      intro k hk4 hn H locs hR ls hl
      have hOk := zOK_mv (a := 13) (b := 11) (w := w) hO (by decide) (by decide) (by decide) (by decide) k
      have hW4 := hOk.w.2.2
      refine lv_iload hx hb dX4_moveTallies_6 (lv_at hl 5 rfl) ?_
      refine lv_bipush (v := (nI (32))) hx hb dX4_moveTallies_8 (by decide) ?_
      refine z_ge_n (tgt := 67) hx hb dX4_moveTallies_10 (by decide) (by omega) (by omega) (fun h10_1 => ?_) (fun h10_1 => ?_)
      · skip
        refine lv_iload hx hb dX4_moveTallies_67 (lv_at hl 4 rfl) ?_
        exact z_iret (w := wX cI cZ ad) (S1 := (sp_mv S 13 11 w k)) hx hb hr hlk hF hR dX4_moveTallies_69 (⟨by rw [show k = 32 from by omega], by rw [show k = 32 from by omega]⟩)
      · skip
        refine lv_aload_n hx hb dX4_moveTallies_13 rfl (lv_at hl 0 rfl) ?_
        refine lv_iload hx hb dX4_moveTallies_14 (lv_at hl 5 rfl) ?_
        refine z_callV_i (As := [.int (nI (k))]) (rest := []) (w := wX cI cZ ad) ⟨hx, hb, hml, hown, hts⟩ hF hR (c_X4_ownerOfKey hG (sp_mv S 13 11 w k) k hOk (by omega)) (cwV 1 hts gX4_moveTallies_X4_ownerOfKey rfl rfl rfl (by decide +kernel) ⟨Nat.le_of_ble_eq_true rfl, Nat.le_of_ble_eq_true rfl⟩) (wX_c0 (sp_mv S 13 11 w k)) rfl rfl rfl hl rfl (Nat.le_of_ble_eq_true rfl) (by decide) dX4_moveTallies_16 (fun r2 S2 H locs hp2 hR => ?_)
        obtain ⟨hr2, hs2⟩ := hp2
        subst r2
        subst S2
        have hb16 := (hOk.own k).2
        refine lv_iload_n hx hb dX4_moveTallies_19 rfl (lv_at hl 3 rfl) ?_
        refine z_ne_n (tgt := 61) hx hb dX4_moveTallies_20 (by decide) (by omega) (by omega) (fun h20_3 => ?_) (fun h20_3 => ?_)
        · skip
          have q20 := h20_3
          have hl : lv_has ls 6 [(0, .ref (ad 0)), (1, .ref (ad 19)), (2, .ref (ad 16)), (3, .int (nI (w))), (4, .int (sp_mc S 13 11 w (k + 1))), (5, .int (nI (k)))] := (by rw [show sp_mc S 13 11 w (k + 1) = if zown (zn (sp_mv S 13 11 w k) 22 0) k = w then sp_mc S 13 11 w k + (sp_mv S 13 11 w k) 13 k else sp_mc S 13 11 w k from rfl]; first | (rw [if_pos q20]; exact hl) | (rw [if_neg q20]; exact hl))
          refine lv_iinc (v := (nI (k + 1))) (lv' := [(5, .int (nI (k + 1))), (0, .ref (ad 0)), (1, .ref (ad 19)), (2, .ref (ad 16)), (3, .int (nI (w))), (4, .int (sp_mc S 13 11 w (k + 1)))]) hx hb dX4_moveTallies_61 hl (k := 5) rfl (z_inc _) (by decide) rfl (fun ls hl => ?_)
          refine lv_goto (tgt := 6) hx hb dX4_moveTallies_64 (by decide) ?_
          exact ih6 (k + 1) (by omega) (by omega) _ _ (by rw [show sp_mv S 13 11 w (k + 1) = (sp_mv S 13 11 w k) from if_neg q20]; exact hR) ls (lv_sub hl [1, 2, 3, 4, 5, 0] rfl)
        · skip
          have q20 := h20_3
          refine lv_iload hx hb dX4_moveTallies_23 (lv_at hl 4 rfl) ?_
          refine lv_aload_n hx hb dX4_moveTallies_25 rfl (lv_at hl 1 rfl) ?_
          refine z_get (own := RX4) (C := RX3) (T := TX3) (N := 2) (k := 0) (v := .ref (ad 20)) hx hb hts hinX3 hown hF hR (wX_c19 (sp_mv S 13 11 w k)) rfl (by decide) (by decide +kernel) rfl rfl dX4_moveTallies_26 ?_
          refine lv_iload hx hb dX4_moveTallies_29 (lv_at hl 5 rfl) ?_
          refine z_iald_n (f := (sp_mv S 13 11 w k) 13) hx hb hF hR (wX_c20 (sp_mv S 13 11 w k)) zT_0 dX4_moveTallies_31 (by decide) (by omega) ?_
          refine lv_iadd hx hb dX4_moveTallies_32 ?_
          refine lv_istore (lv' := [(4, .int ((sp_mc S 13 11 w k) + ((sp_mv S 13 11 w k) 13 (k)))), (0, .ref (ad 0)), (1, .ref (ad 19)), (2, .ref (ad 16)), (3, .int (nI (w))), (5, .int (nI (k)))]) hx hb dX4_moveTallies_33 hl (by decide) rfl (fun ls hl => ?_)
          refine lv_aload_n hx hb dX4_moveTallies_35 rfl (lv_at hl 3 rfl) ?_
          refine lv_iload hx hb dX4_moveTallies_36 (lv_at hl 5 rfl) ?_
          refine lv_aload_n hx hb dX4_moveTallies_38 rfl (lv_at hl 2 rfl) ?_
          refine z_get (own := RX4) (C := RX3) (T := TX3) (N := 2) (k := 0) (v := .ref (ad 20)) hx hb hts hinX3 hown hF hR (wX_c19 (sp_mv S 13 11 w k)) rfl (by decide) (by decide +kernel) rfl rfl dX4_moveTallies_39 ?_
          refine lv_iload hx hb dX4_moveTallies_42 (lv_at hl 5 rfl) ?_
          refine z_iald_n (f := (sp_mv S 13 11 w k) 13) hx hb hF hR (wX_c20 (sp_mv S 13 11 w k)) zT_0 dX4_moveTallies_44 (by decide) (by omega) ?_
          refine lv_aload_n hx hb dX4_moveTallies_45 rfl (lv_at hl 2 rfl) ?_
          refine z_get (own := RX4) (C := RX3) (T := TX3) (N := 2) (k := 1) (v := .ref (ad 21)) hx hb hts hinX3 hown hF hR (wX_c19 (sp_mv S 13 11 w k)) rfl (by decide) (by decide +kernel) rfl rfl dX4_moveTallies_46 ?_
          refine lv_iload hx hb dX4_moveTallies_49 (lv_at hl 5 rfl) ?_
          refine z_iald_n (f := (sp_mv S 13 11 w k) 14) hx hb hF hR (wX_c21 (sp_mv S 13 11 w k)) zT_0 dX4_moveTallies_51 (by decide) (by omega) ?_
          refine z_callV_v (As := [.int (nI (k)), .int ((sp_mv S 13 11 w k) 13 (k)), .int ((sp_mv S 13 11 w k) 14 (k))]) (rest := []) (w := wX cI cZ ad) ⟨hx, hb, hml, hown, hts⟩ hF hR (c_X3_add_t1 hG (sp_mv S 13 11 w k) k (((sp_mv S 13 11 w k) 13 (k))) (((sp_mv S 13 11 w k) 14 (k))) (by omega)) (cwV 3 hts gX4_moveTallies_X3_add rfl rfl rfl (by decide +kernel) ⟨Nat.le_of_ble_eq_true rfl, Nat.le_of_ble_eq_true rfl⟩) (wX_c16 (sp_mv S 13 11 w k)) rfl rfl rfl hl rfl (Nat.le_of_ble_eq_true rfl) (by decide) dX4_moveTallies_52 (fun S4 H locs hp4 hR => ?_)
          subst S4
          have hO4 := (zOK_tadd (key := k) (a := (((sp_mv S 13 11 w k) 13 (k)))) (b := (((sp_mv S 13 11 w k) 14 (k)))) hOk (by decide : 9 ≤ 11) (by decide))
          refine lv_aload_n hx hb dX4_moveTallies_55 rfl (lv_at hl 2 rfl) ?_
          refine lv_iload hx hb dX4_moveTallies_56 (lv_at hl 5 rfl) ?_
          refine z_callV_v (As := [.int (nI (k))]) (rest := []) (w := wX cI cZ ad) ⟨hx, hb, hml, hown, hts⟩ hF hR (c_X3_clearKey_t2 hG (sp_tadd (sp_mv S 13 11 w k) 11 k (((sp_mv S 13 11 w k) 13 (k))) (((sp_mv S 13 11 w k) 14 (k)))) k (by omega)) (cwV 1 hts gX4_moveTallies_X3_clearKey rfl rfl rfl (by decide +kernel) ⟨Nat.le_of_ble_eq_true rfl, Nat.le_of_ble_eq_true rfl⟩) (wX_c19 (sp_tadd (sp_mv S 13 11 w k) 11 k (((sp_mv S 13 11 w k) 13 (k))) (((sp_mv S 13 11 w k) 14 (k))))) rfl rfl rfl hl rfl (Nat.le_of_ble_eq_true rfl) (by decide) dX4_moveTallies_58 (fun S5 H locs hp5 hR => ?_)
          subst S5
          have hO5 := (zOK_tclk (key := k) hO4 (by decide : 9 ≤ 13) (by decide))
          have hl : lv_has ls 6 [(4, .int (sp_mc S 13 11 w (k + 1))), (0, .ref (ad 0)), (1, .ref (ad 19)), (2, .ref (ad 16)), (3, .int (nI (w))), (5, .int (nI (k)))] := (by rw [show sp_mc S 13 11 w (k + 1) = if zown (zn (sp_mv S 13 11 w k) 22 0) k = w then sp_mc S 13 11 w k + (sp_mv S 13 11 w k) 13 k else sp_mc S 13 11 w k from rfl]; first | (rw [if_pos q20]; exact hl) | (rw [if_neg q20]; exact hl))
          refine lv_iinc (v := (nI (k + 1))) (lv' := [(5, .int (nI (k + 1))), (4, .int (sp_mc S 13 11 w (k + 1))), (0, .ref (ad 0)), (1, .ref (ad 19)), (2, .ref (ad 16)), (3, .int (nI (w)))]) hx hb dX4_moveTallies_61 hl (k := 5) rfl (z_inc _) (by decide) rfl (fun ls hl => ?_)
          refine lv_goto (tgt := 6) hx hb dX4_moveTallies_64 (by decide) ?_
          exact ih6 (k + 1) (by omega) (by omega) _ _ (by rw [show sp_mv S 13 11 w (k + 1) = (sp_tclk (sp_tadd (sp_mv S 13 11 w k) 11 k (((sp_mv S 13 11 w k) 13 (k))) (((sp_mv S 13 11 w k) 14 (k)))) 13 k) from if_pos q20]; exact hR) ls (lv_sub hl [2, 3, 4, 5, 1, 0] rfl)
  exact loop6 _ 0 (by omega) (Nat.lt_succ_self _) _ _ (by rw [show sp_mv S 13 11 w 0 = S from rfl]; exact hR) ls (lv_sub hl [2, 3, 4, 5, 1, 0] rfl)
set_option maxHeartbeats 4000000 in
set_option maxRecDepth 100000 in
theorem c_X4_haveAllSealed {l : Launch} {D : va_G} {cI cZ : ClassId} {ad : Nat → Nat} {B : Nat → Prop} (hG : ∀ S : zS, va_D B (wX cI cZ ad S)) (S : zS) (hO : zOK S) : zMi l yX4_haveAllSealed wsX4_haveAllSealed ({ frames := 0, cells := 0, slots := 0, locals := 0 } : Room) [.ref (ad 0)] D (zT cI cZ) B (wX cI cZ ad) S (fun (r : Int32) (S1 : zS) => (((zallS S) ∧ r = nI 1) ∨ (¬ (zallS S) ∧ r = nI 0)) ∧ S1 = S) := by
  refine zMi_of (cc := cX4_haveAllSealed) (maxL := 2) (ret := (some .boolean)) (by decide) rfl (Nat.le_of_ble_eq_true rfl) ?_
  intro pg en s mm below meth cd hx hb hr hml hown hts hlk hF hR ls hl
  have hinX4 : ∀ w ∈ wsX40, w ∈ wsX4_haveAllSealed := by decide +kernel
  have hl : lv_has ls 2 [(0, .ref (ad 0))] := hl
  have hW1 := (zOK.w hO).2.1
  have hW4 := (zOK.w hO).2.2
  refine lv_iconst (v := (nI (0))) hx hb dX4_haveAllSealed_0 (by decide) ?_
  refine lv_istore_n (lv' := [(1, .int (nI (0))), (0, .ref (ad 0))]) hx hb dX4_haveAllSealed_1 rfl hl (by decide) rfl (fun ls hl => ?_)
  have loop2 : ∀ (nf2 : Nat) (k : Nat), (k ≤ zn S 22 0) → (∀ w, w < k → ¬ S 21 w = (-1)) → zn S 22 0 - k < nf2 → ∀ (H : Heap) (locs : List Loc), zR D B (wX cI cZ ad S) s H locs → ∀ ls : Array Slot, lv_has ls 2 [(0, .ref (ad 0)), (1, .int (nI (k)))] → W pg l en ({ frames := 0, cells := 0, slots := 0, locals := 0 } : Room) s mm ([.ref (ad 0)] : List Value).toArray below meth cd H locs 0 0 (MQ below (va_Qi (fun (r : Int32) (S1 : zS) => (((zallS S) ∧ r = nI 1) ∨ (¬ (zallS S) ∧ r = nI 0)) ∧ S1 = S) (zB D (zT cI cZ) (wX cI cZ ad)) (zA B s.heap.size)) ([.ref (ad 0)] : List Value).toArray s 0 0 (zA B s.heap.size)) (F0 mm 2 ls []) := by
    intro nf2
    induction nf2 with
    | zero => intro k hk4 hk hn; exact absurd hn (Nat.not_lt_zero _)
    | succ nf2 ih2 =>
      intro k hk4 hk hn H locs hR ls hl
      refine lv_iload_n hx hb dX4_haveAllSealed_2 rfl (lv_at hl 1 rfl) ?_
      refine lv_aload_n hx hb dX4_haveAllSealed_3 rfl (lv_at hl 0 rfl) ?_
      refine z_get (own := RX4) (C := RX4) (T := TX4) (N := 14) (k := 10) (v := .int (S 22 0)) hx hb hts hinX4 hown hF hR (wX_c0 S) rfl (by decide) (by decide +kernel) rfl rfl dX4_haveAllSealed_4 ?_
      refine lv_topi (fun v1 ev1 => ?_)
      obtain rfl : v1 = (nI (zn S 22 0)) := ev1.trans (zOK.w hO).1
      refine z_ge_n (tgt := 28) hx hb dX4_haveAllSealed_7 (by decide) (by omega) (by omega) (fun h7_2 => ?_) (fun h7_2 => ?_)
      · skip
        refine lv_iconst (v := (nI (1))) hx hb dX4_haveAllSealed_28 (by decide) ?_
        exact z_zret (w := wX cI cZ ad) (S1 := S) hx hb hr hlk hF hR dX4_haveAllSealed_29 (by decide) (⟨Or.inl ⟨fun q hq => hk q (by omega), rfl⟩, rfl⟩)
      · skip
        refine lv_aload_n hx hb dX4_haveAllSealed_10 rfl (lv_at hl 0 rfl) ?_
        refine z_get (own := RX4) (C := RX4) (T := TX4) (N := 14) (k := 9) (v := .ref (ad 31)) hx hb hts hinX4 hown hF hR (wX_c0 S) rfl (by decide) (by decide +kernel) rfl rfl dX4_haveAllSealed_11 ?_
        refine lv_iload_n hx hb dX4_haveAllSealed_14 rfl (lv_at hl 1 rfl) ?_
        refine z_iald_n (f := S 21) hx hb hF hR (wX_c31 S) zT_0 dX4_haveAllSealed_15 (by decide) (by omega) ?_
        refine lv_iconst (v := ((-1))) hx hb dX4_haveAllSealed_16 (by decide) ?_
        refine lv_icmp_ne (tgt := 22) hx hb dX4_haveAllSealed_17 (by decide) (fun h17_3 => ?_) (fun h17_3 => ?_)
        · skip
          have q17 := h17_3
          refine lv_iinc (v := (nI (k + 1))) (lv' := [(1, .int (nI (k + 1))), (0, .ref (ad 0))]) hx hb dX4_haveAllSealed_22 hl (k := 1) rfl (z_inc _) (by decide) rfl (fun ls hl => ?_)
          refine lv_goto (tgt := 2) hx hb dX4_haveAllSealed_25 (by decide) ?_
          exact ih2 (k + 1) (by omega) (lt_s hk q17) (by omega) _ _ hR ls (lv_sub hl [1, 0] rfl)
        · skip
          have q17 := h17_3
          refine lv_iconst (v := (nI (0))) hx hb dX4_haveAllSealed_20 (by decide) ?_
          exact z_zret (w := wX cI cZ ad) (S1 := S) hx hb hr hlk hF hR dX4_haveAllSealed_21 (by decide) (⟨Or.inr ⟨fun q => q k (by omega) q17, rfl⟩, rfl⟩)
  exact loop2 _ 0 (by omega) (fun q hq => absurd hq (Nat.not_lt_zero q)) (Nat.lt_succ_self _) _ _ hR ls (lv_sub hl [1, 0] rfl)
set_option maxHeartbeats 4000000 in
set_option maxRecDepth 100000 in
theorem c_X4_hasAnySealed {l : Launch} {D : va_G} {cI cZ : ClassId} {ad : Nat → Nat} {B : Nat → Prop} (hG : ∀ S : zS, va_D B (wX cI cZ ad S)) (S : zS) (hO : zOK S) : zMi l yX4_hasAnySealed wsX4_hasAnySealed ({ frames := 0, cells := 0, slots := 0, locals := 0 } : Room) [.ref (ad 0)] D (zT cI cZ) B (wX cI cZ ad) S (fun (r : Int32) (S1 : zS) => (((¬ ∀ w, w < zn S 22 0 → S 21 w = (-1)) ∧ r = nI 1) ∨ (¬ (¬ ∀ w, w < zn S 22 0 → S 21 w = (-1)) ∧ r = nI 0)) ∧ S1 = S) := by
  refine zMi_of (cc := cX4_hasAnySealed) (maxL := 2) (ret := (some .boolean)) (by decide) rfl (Nat.le_of_ble_eq_true rfl) ?_
  intro pg en s mm below meth cd hx hb hr hml hown hts hlk hF hR ls hl
  have hinX4 : ∀ w ∈ wsX40, w ∈ wsX4_hasAnySealed := by decide +kernel
  have hl : lv_has ls 2 [(0, .ref (ad 0))] := hl
  have hW1 := (zOK.w hO).2.1
  have hW4 := (zOK.w hO).2.2
  refine lv_iconst (v := (nI (0))) hx hb dX4_hasAnySealed_0 (by decide) ?_
  refine lv_istore_n (lv' := [(1, .int (nI (0))), (0, .ref (ad 0))]) hx hb dX4_hasAnySealed_1 rfl hl (by decide) rfl (fun ls hl => ?_)
  have loop2 : ∀ (nf2 : Nat) (k : Nat), (k ≤ zn S 22 0) → (∀ w, w < k → S 21 w = (-1)) → zn S 22 0 - k < nf2 → ∀ (H : Heap) (locs : List Loc), zR D B (wX cI cZ ad S) s H locs → ∀ ls : Array Slot, lv_has ls 2 [(0, .ref (ad 0)), (1, .int (nI (k)))] → W pg l en ({ frames := 0, cells := 0, slots := 0, locals := 0 } : Room) s mm ([.ref (ad 0)] : List Value).toArray below meth cd H locs 0 0 (MQ below (va_Qi (fun (r : Int32) (S1 : zS) => (((¬ ∀ w, w < zn S 22 0 → S 21 w = (-1)) ∧ r = nI 1) ∨ (¬ (¬ ∀ w, w < zn S 22 0 → S 21 w = (-1)) ∧ r = nI 0)) ∧ S1 = S) (zB D (zT cI cZ) (wX cI cZ ad)) (zA B s.heap.size)) ([.ref (ad 0)] : List Value).toArray s 0 0 (zA B s.heap.size)) (F0 mm 2 ls []) := by
    intro nf2
    induction nf2 with
    | zero => intro k hk4 hk hn; exact absurd hn (Nat.not_lt_zero _)
    | succ nf2 ih2 =>
      intro k hk4 hk hn H locs hR ls hl
      refine lv_iload_n hx hb dX4_hasAnySealed_2 rfl (lv_at hl 1 rfl) ?_
      refine lv_aload_n hx hb dX4_hasAnySealed_3 rfl (lv_at hl 0 rfl) ?_
      refine z_get (own := RX4) (C := RX4) (T := TX4) (N := 14) (k := 10) (v := .int (S 22 0)) hx hb hts hinX4 hown hF hR (wX_c0 S) rfl (by decide) (by decide +kernel) rfl rfl dX4_hasAnySealed_4 ?_
      refine lv_topi (fun v1 ev1 => ?_)
      obtain rfl : v1 = (nI (zn S 22 0)) := ev1.trans (zOK.w hO).1
      refine z_ge_n (tgt := 28) hx hb dX4_hasAnySealed_7 (by decide) (by omega) (by omega) (fun h7_2 => ?_) (fun h7_2 => ?_)
      · skip
        refine lv_iconst (v := (nI (0))) hx hb dX4_hasAnySealed_28 (by decide) ?_
        exact z_zret (w := wX cI cZ ad) (S1 := S) hx hb hr hlk hF hR dX4_hasAnySealed_29 (by decide) (⟨Or.inr ⟨fun q => q (fun z hz => hk z (by omega)), rfl⟩, rfl⟩)
      · skip
        refine lv_aload_n hx hb dX4_hasAnySealed_10 rfl (lv_at hl 0 rfl) ?_
        refine z_get (own := RX4) (C := RX4) (T := TX4) (N := 14) (k := 9) (v := .ref (ad 31)) hx hb hts hinX4 hown hF hR (wX_c0 S) rfl (by decide) (by decide +kernel) rfl rfl dX4_hasAnySealed_11 ?_
        refine lv_iload_n hx hb dX4_hasAnySealed_14 rfl (lv_at hl 1 rfl) ?_
        refine z_iald_n (f := S 21) hx hb hF hR (wX_c31 S) zT_0 dX4_hasAnySealed_15 (by decide) (by omega) ?_
        refine lv_iconst (v := ((-1))) hx hb dX4_hasAnySealed_16 (by decide) ?_
        refine lv_icmp_eq (tgt := 22) hx hb dX4_hasAnySealed_17 (by decide) (fun h17_3 => ?_) (fun h17_3 => ?_)
        · skip
          have q17 := h17_3
          refine lv_iinc (v := (nI (k + 1))) (lv' := [(1, .int (nI (k + 1))), (0, .ref (ad 0))]) hx hb dX4_hasAnySealed_22 hl (k := 1) rfl (z_inc _) (by decide) rfl (fun ls hl => ?_)
          refine lv_goto (tgt := 2) hx hb dX4_hasAnySealed_25 (by decide) ?_
          exact ih2 (k + 1) (by omega) (lt_s hk q17) (by omega) _ _ hR ls (lv_sub hl [1, 0] rfl)
        · skip
          have q17 := h17_3
          refine lv_iconst (v := (nI (1))) hx hb dX4_hasAnySealed_20 (by decide) ?_
          exact z_zret (w := wX cI cZ ad) (S1 := S) hx hb hr hlk hF hR dX4_hasAnySealed_21 (by decide) (⟨Or.inl ⟨fun q => q17 (q k (by omega)), rfl⟩, rfl⟩)
  exact loop2 _ 0 (by omega) (fun q hq => absurd hq (Nat.not_lt_zero q)) (Nat.lt_succ_self _) _ _ hR ls (lv_sub hl [1, 0] rfl)
set_option maxHeartbeats 4000000 in
set_option maxRecDepth 100000 in
theorem c_X4_isReadyToCommit {l : Launch} {D : va_G} {cI cZ : ClassId} {ad : Nat → Nat} {B : Nat → Prop} (hG : ∀ S : zS, va_D B (wX cI cZ ad S)) (S : zS) (w : Nat) (hw : w < 4) : zMi l yX4_isReadyToCommit wsX4_isReadyToCommit ({ frames := 0, cells := 0, slots := 0, locals := 0 } : Room) [.ref (ad 0), .int (nI (w))] D (zT cI cZ) B (wX cI cZ ad) S (fun (r : Int32) (S1 : zS) => (((zrdy S w) ∧ r = nI 1) ∨ (¬ (zrdy S w) ∧ r = nI 0)) ∧ S1 = S) := by
  refine zMi_of (cc := cX4_isReadyToCommit) (maxL := 2) (ret := (some .boolean)) (by decide) rfl (Nat.le_of_ble_eq_true rfl) ?_
  intro pg en s mm below meth cd hx hb hr hml hown hts hlk hF hR ls hl
  have hinX4 : ∀ w ∈ wsX40, w ∈ wsX4_isReadyToCommit := by decide +kernel
  have hl : lv_has ls 2 [(0, .ref (ad 0)), (1, .int (nI (w)))] := hl
  refine lv_aload_n hx hb dX4_isReadyToCommit_0 rfl (lv_at hl 0 rfl) ?_
  refine z_get (own := RX4) (C := RX4) (T := TX4) (N := 14) (k := 9) (v := .ref (ad 31)) hx hb hts hinX4 hown hF hR (wX_c0 S) rfl (by decide) (by decide +kernel) rfl rfl dX4_isReadyToCommit_1 ?_
  refine lv_iload_n hx hb dX4_isReadyToCommit_4 rfl (lv_at hl 1 rfl) ?_
  refine z_iald_n (f := S 21) hx hb hF hR (wX_c31 S) zT_0 dX4_isReadyToCommit_5 (by decide) (by omega) ?_
  refine lv_iconst (v := ((-1))) hx hb dX4_isReadyToCommit_6 (by decide) ?_
  refine lv_icmp_eq (tgt := 27) hx hb dX4_isReadyToCommit_7 (by decide) (fun h7_1 => ?_) (fun h7_1 => ?_)
  · skip
    have q7 := h7_1
    refine lv_iconst (v := (nI (0))) hx hb dX4_isReadyToCommit_27 (by decide) ?_
    exact z_zret (w := wX cI cZ ad) (S1 := S) hx hb hr hlk hF hR dX4_isReadyToCommit_28 (by decide) (⟨Or.inr ⟨fun q => by first | exact q.1 q7 | exact q20 q.2, rfl⟩, rfl⟩)
  · skip
    have q7 := h7_1
    refine lv_aload_n hx hb dX4_isReadyToCommit_10 rfl (lv_at hl 0 rfl) ?_
    refine z_get (own := RX4) (C := RX4) (T := TX4) (N := 14) (k := 9) (v := .ref (ad 31)) hx hb hts hinX4 hown hF hR (wX_c0 S) rfl (by decide) (by decide +kernel) rfl rfl dX4_isReadyToCommit_11 ?_
    refine lv_iload_n hx hb dX4_isReadyToCommit_14 rfl (lv_at hl 1 rfl) ?_
    refine z_iald_n (f := S 21) hx hb hF hR (wX_c31 S) zT_0 dX4_isReadyToCommit_15 (by decide) (by omega) ?_
    refine lv_aload_n hx hb dX4_isReadyToCommit_16 rfl (lv_at hl 0 rfl) ?_
    refine z_get (own := RX4) (C := RX4) (T := TX4) (N := 14) (k := 13) (v := .int (S 22 3)) hx hb hts hinX4 hown hF hR (wX_c0 S) rfl (by decide) (by decide +kernel) rfl rfl dX4_isReadyToCommit_17 ?_
    refine lv_icmp_ne (tgt := 27) hx hb dX4_isReadyToCommit_20 (by decide) (fun h20_2 => ?_) (fun h20_2 => ?_)
    · skip
      have q20 := h20_2
      refine lv_iconst (v := (nI (0))) hx hb dX4_isReadyToCommit_27 (by decide) ?_
      exact z_zret (w := wX cI cZ ad) (S1 := S) hx hb hr hlk hF hR dX4_isReadyToCommit_28 (by decide) (⟨Or.inr ⟨fun q => by first | exact q.1 q7 | exact q20 q.2, rfl⟩, rfl⟩)
    · skip
      have q20 := h20_2
      refine lv_iconst (v := (nI (1))) hx hb dX4_isReadyToCommit_23 (by decide) ?_
      refine lv_goto (tgt := 28) hx hb dX4_isReadyToCommit_24 (by decide) ?_
      exact z_zret (w := wX cI cZ ad) (S1 := S) hx hb hr hlk hF hR dX4_isReadyToCommit_28 (by decide) (⟨Or.inl ⟨⟨q7, q20⟩, rfl⟩, rfl⟩)
set_option maxHeartbeats 4000000 in
set_option maxRecDepth 100000 in
theorem c_X4_commitSealed {l : Launch} {D : va_G} {cI cZ : ClassId} {ad : Nat → Nat} {B : Nat → Prop} (hG : ∀ S : zS, va_D B (wX cI cZ ad S)) (S : zS) (w : Nat) (hO : zOK S) (hw : w < 4) : zMi l yX4_commitSealed wsX4_commitSealed ({ frames := 3, cells := 0, slots := 0, locals := 67 } : Room) [.ref (ad 0), .int (nI (w))] D (zT cI cZ) B (wX cI cZ ad) S (fun (r : Int32) (S1 : zS) => r = (sp_comr S w) ∧ S1 = sp_com S w) := by
  refine zMi_of (cc := cX4_commitSealed) (maxL := 2) (ret := (some .int)) (by decide) rfl (Nat.le_of_ble_eq_true rfl) ?_
  intro pg en s mm below meth cd hx hb hr hml hown hts hlk hF hR ls hl
  have hinX4 : ∀ w ∈ wsX40, w ∈ wsX4_commitSealed := by decide +kernel
  have hl : lv_has ls 2 [(0, .ref (ad 0)), (1, .int (nI (w)))] := hl
  refine lv_aload_n hx hb dX4_commitSealed_0 rfl (lv_at hl 0 rfl) ?_
  refine z_get (own := RX4) (C := RX4) (T := TX4) (N := 14) (k := 9) (v := .ref (ad 31)) hx hb hts hinX4 hown hF hR (wX_c0 S) rfl (by decide) (by decide +kernel) rfl rfl dX4_commitSealed_1 ?_
  refine lv_iload_n hx hb dX4_commitSealed_4 rfl (lv_at hl 1 rfl) ?_
  refine lv_iconst (v := ((-1))) hx hb dX4_commitSealed_5 (by decide) ?_
  refine z_iast_n (f := S 21) hx hb hF (hG S) hR (wX_c31 S) zT_0 (wX_s21 S (upd (S 21) (w) ((-1)))) dX4_commitSealed_6 (by decide) (by omega) (fun H locs hR => ?_)
  have hO2 := zOK_un (w := w) hO
  have hR : zR D B (wX cI cZ ad (sp_un S w)) s H locs := by rw [show (sp_un S w) = (zU S 21 (upd (S 21) (w) ((-1)))) from rfl]; exact hR
  refine lv_aload_n hx hb dX4_commitSealed_7 rfl (lv_at hl 0 rfl) ?_
  refine lv_aload_n hx hb dX4_commitSealed_8 rfl (lv_at hl 0 rfl) ?_
  refine z_get (own := RX4) (C := RX4) (T := TX4) (N := 14) (k := 5) (v := .ref (ad 19)) hx hb hts hinX4 hown hF hR (wX_c0 (sp_un S w)) rfl (by decide) (by decide +kernel) rfl rfl dX4_commitSealed_9 ?_
  refine lv_aload_n hx hb dX4_commitSealed_12 rfl (lv_at hl 0 rfl) ?_
  refine z_get (own := RX4) (C := RX4) (T := TX4) (N := 14) (k := 8) (v := .ref (ad 28)) hx hb hts hinX4 hown hF hR (wX_c0 (sp_un S w)) rfl (by decide) (by decide +kernel) rfl rfl dX4_commitSealed_13 ?_
  refine lv_iload_n hx hb dX4_commitSealed_16 rfl (lv_at hl 1 rfl) ?_
  refine z_callV_i (As := [.ref (ad 19), .ref (ad 28), .int (nI (w))]) (rest := []) (w := wX cI cZ ad) ⟨hx, hb, hml, hown, hts⟩ hF hR (c_X4_moveTallies_25 hG (sp_un S w) w hO2 (by omega)) (cwV 3 hts gX4_commitSealed_X4_moveTallies rfl rfl rfl (by decide +kernel) ⟨Nat.le_of_ble_eq_true rfl, Nat.le_of_ble_eq_true rfl⟩) (wX_c0 (sp_un S w)) rfl rfl rfl hl rfl (Nat.le_of_ble_eq_true rfl) (by decide) dX4_commitSealed_17 (fun r1 S1 H locs hp1 hR => ?_)
  obtain ⟨hr1, hs1⟩ := hp1
  subst r1
  subst S1
  have hO1 := (zOK_mv (a := 13) (b := 19) (w := w) hO2 (by decide) (by decide) (by decide) (by decide) 32)
  exact z_iret (w := wX cI cZ ad) (S1 := (sp_mv (sp_un S w) 13 19 w 32)) hx hb hr hlk hF hR dX4_commitSealed_20 (⟨rfl, rfl⟩)
set_option maxHeartbeats 4000000 in
set_option maxRecDepth 100000 in
theorem c_X4_completeCheckpoint {l : Launch} {D : va_G} {cI cZ : ClassId} {ad : Nat → Nat} {B : Nat → Prop} (hG : ∀ S : zS, va_D B (wX cI cZ ad S)) (S : zS)  : zMv l yX4_completeCheckpoint wsX4_completeCheckpoint ({ frames := 1, cells := 0, slots := 0, locals := 22 } : Room) [.ref (ad 0)] D (zT cI cZ) B (wX cI cZ ad) S (fun (S1 : zS) => S1 = sp_cc S) := by
  refine zMv_of (cc := cX4_completeCheckpoint) (maxL := 1) (ret := none) (by decide) rfl (Nat.le_of_ble_eq_true rfl) ?_
  intro pg en s mm below meth cd hx hb hr hml hown hts hlk hF hR ls hl
  have hinX4 : ∀ w ∈ wsX40, w ∈ wsX4_completeCheckpoint := by decide +kernel
  have hl : lv_has ls 1 [(0, .ref (ad 0))] := hl
  refine lv_aload_n hx hb dX4_completeCheckpoint_0 rfl (lv_at hl 0 rfl) ?_
  refine z_get (own := RX4) (C := RX4) (T := TX4) (N := 14) (k := 7) (v := .ref (ad 25)) hx hb hts hinX4 hown hF hR (wX_c0 S) rfl (by decide) (by decide +kernel) rfl rfl dX4_completeCheckpoint_1 ?_
  refine lv_aload_n hx hb dX4_completeCheckpoint_4 rfl (lv_at hl 0 rfl) ?_
  refine z_get (own := RX4) (C := RX4) (T := TX4) (N := 14) (k := 6) (v := .ref (ad 22)) hx hb hts hinX4 hown hF hR (wX_c0 S) rfl (by decide) (by decide +kernel) rfl rfl dX4_completeCheckpoint_5 ?_
  refine z_callV_v (As := [.ref (ad 22)]) (rest := []) (w := wX cI cZ ad) ⟨hx, hb, hml, hown, hts⟩ hF hR (c_X3_copyAll_t4t3 hG S ) (cwV 1 hts gX4_completeCheckpoint_X3_copyAll rfl rfl rfl (by decide +kernel) ⟨Nat.le_of_ble_eq_true rfl, Nat.le_of_ble_eq_true rfl⟩) (wX_c25 S) rfl rfl rfl hl rfl (Nat.le_of_ble_eq_true rfl) (by decide) dX4_completeCheckpoint_8 (fun S1 H locs hp1 hR => ?_)
  subst S1
  refine lv_aload_n hx hb dX4_completeCheckpoint_11 rfl (lv_at hl 0 rfl) ?_
  refine z_get (own := RX4) (C := RX4) (T := TX4) (N := 14) (k := 1) (v := .ref (ad 4)) hx hb hts hinX4 hown hF hR (wX_c0 (sp_tca S 17 15)) rfl (by decide) (by decide +kernel) rfl rfl dX4_completeCheckpoint_12 ?_
  refine z_callV_v (As := []) (rest := []) (w := wX cI cZ ad) ⟨hx, hb, hml, hown, hts⟩ hF hR (c_X2_keepAll hG (sp_tca S 17 15) ) (cwV 0 hts gX4_completeCheckpoint_X2_keepAll rfl rfl rfl (by decide +kernel) ⟨Nat.le_of_ble_eq_true rfl, Nat.le_of_ble_eq_true rfl⟩) (wX_c4 (sp_tca S 17 15)) rfl rfl rfl hl rfl (Nat.le_of_ble_eq_true rfl) (by decide) dX4_completeCheckpoint_15 (fun S2 H locs hp2 hR => ?_)
  subst S2
  refine lv_aload_n hx hb dX4_completeCheckpoint_18 rfl (lv_at hl 0 rfl) ?_
  refine lv_aload_n hx hb dX4_completeCheckpoint_19 rfl (lv_at hl 0 rfl) ?_
  refine z_get (own := RX4) (C := RX4) (T := TX4) (N := 14) (k := 12) (v := .int ((zU (sp_tca S 17 15) 3 (sp_cp ((sp_tca S 17 15) 3) ((sp_tca S 17 15) 5) 4)) 22 2)) hx hb hts hinX4 hown hF hR (wX_c0 (zU (sp_tca S 17 15) 3 (sp_cp ((sp_tca S 17 15) 3) ((sp_tca S 17 15) 5) 4))) rfl (by decide) (by decide +kernel) rfl rfl dX4_completeCheckpoint_20 ?_
  refine z_put (own := RX4) (C := RX4) (T := TX4) (N := 14) (k := 13) (ty := .int) hx hb hts hinX4 tyX4 tyX4_ok nmX4 hown hF (hG (zU (sp_tca S 17 15) 3 (sp_cp ((sp_tca S 17 15) 3) ((sp_tca S 17 15) 5) 4))) hR (wX_c0 (zU (sp_tca S 17 15) 3 (sp_cp ((sp_tca S 17 15) 3) ((sp_tca S 17 15) 5) 4))) rfl (by decide) (by decide +kernel) rfl rfl (by decide +kernel) rfl rfl (Nat.le_of_ble_eq_true rfl) (wX_p3 (zU (sp_tca S 17 15) 3 (sp_cp ((sp_tca S 17 15) 3) ((sp_tca S 17 15) 5) 4)) ((zU (sp_tca S 17 15) 3 (sp_cp ((sp_tca S 17 15) 3) ((sp_tca S 17 15) 5) 4)) 22 2)) dX4_completeCheckpoint_23 (fun H locs hR => ?_)
  refine lv_aload_n hx hb dX4_completeCheckpoint_26 rfl (lv_at hl 0 rfl) ?_
  refine lv_iconst (v := ((-1))) hx hb dX4_completeCheckpoint_27 (by decide) ?_
  refine z_put (own := RX4) (C := RX4) (T := TX4) (N := 14) (k := 12) (ty := .int) hx hb hts hinX4 tyX4 tyX4_ok nmX4 hown hF (hG (zU (zU (sp_tca S 17 15) 3 (sp_cp ((sp_tca S 17 15) 3) ((sp_tca S 17 15) 5) 4)) 22 (upd ((zU (sp_tca S 17 15) 3 (sp_cp ((sp_tca S 17 15) 3) ((sp_tca S 17 15) 5) 4)) 22) 3 ((zU (sp_tca S 17 15) 3 (sp_cp ((sp_tca S 17 15) 3) ((sp_tca S 17 15) 5) 4)) 22 2)))) hR (wX_c0 (zU (zU (sp_tca S 17 15) 3 (sp_cp ((sp_tca S 17 15) 3) ((sp_tca S 17 15) 5) 4)) 22 (upd ((zU (sp_tca S 17 15) 3 (sp_cp ((sp_tca S 17 15) 3) ((sp_tca S 17 15) 5) 4)) 22) 3 ((zU (sp_tca S 17 15) 3 (sp_cp ((sp_tca S 17 15) 3) ((sp_tca S 17 15) 5) 4)) 22 2)))) rfl (by decide) (by decide +kernel) rfl rfl (by decide +kernel) rfl rfl (Nat.le_of_ble_eq_true rfl) (wX_p2 (zU (zU (sp_tca S 17 15) 3 (sp_cp ((sp_tca S 17 15) 3) ((sp_tca S 17 15) 5) 4)) 22 (upd ((zU (sp_tca S 17 15) 3 (sp_cp ((sp_tca S 17 15) 3) ((sp_tca S 17 15) 5) 4)) 22) 3 ((zU (sp_tca S 17 15) 3 (sp_cp ((sp_tca S 17 15) 3) ((sp_tca S 17 15) 5) 4)) 22 2))) ((-1))) dX4_completeCheckpoint_28 (fun H locs hR => ?_)
  have hR : zR D B (wX cI cZ ad (zU (zU (sp_tca S 17 15) 3 (sp_cp ((sp_tca S 17 15) 3) ((sp_tca S 17 15) 5) 4)) 22 (upd ((upd ((zU (sp_tca S 17 15) 3 (sp_cp ((sp_tca S 17 15) 3) ((sp_tca S 17 15) 5) 4)) 22) 3 ((zU (sp_tca S 17 15) 3 (sp_cp ((sp_tca S 17 15) 3) ((sp_tca S 17 15) 5) 4)) 22 2))) 2 ((-1))))) s H locs := by rw [show (zU (zU (sp_tca S 17 15) 3 (sp_cp ((sp_tca S 17 15) 3) ((sp_tca S 17 15) 5) 4)) 22 (upd ((upd ((zU (sp_tca S 17 15) 3 (sp_cp ((sp_tca S 17 15) 3) ((sp_tca S 17 15) 5) 4)) 22) 3 ((zU (sp_tca S 17 15) 3 (sp_cp ((sp_tca S 17 15) 3) ((sp_tca S 17 15) 5) 4)) 22 2))) 2 ((-1)))) = zU (zU (zU (sp_tca S 17 15) 3 (sp_cp ((sp_tca S 17 15) 3) ((sp_tca S 17 15) 5) 4)) 22 (upd ((zU (sp_tca S 17 15) 3 (sp_cp ((sp_tca S 17 15) 3) ((sp_tca S 17 15) 5) 4)) 22) 3 ((zU (sp_tca S 17 15) 3 (sp_cp ((sp_tca S 17 15) 3) ((sp_tca S 17 15) 5) 4)) 22 2))) 22 (upd ((upd ((zU (sp_tca S 17 15) 3 (sp_cp ((sp_tca S 17 15) 3) ((sp_tca S 17 15) 5) 4)) 22) 3 ((zU (sp_tca S 17 15) 3 (sp_cp ((sp_tca S 17 15) 3) ((sp_tca S 17 15) 5) 4)) 22 2))) 2 ((-1))) from (zU_U _ _ _ _).symm]; exact hR
  exact z_vret (w := wX cI cZ ad) (S1 := (zU (zU (sp_tca S 17 15) 3 (sp_cp ((sp_tca S 17 15) 3) ((sp_tca S 17 15) 5) 4)) 22 (upd ((upd ((zU (sp_tca S 17 15) 3 (sp_cp ((sp_tca S 17 15) 3) ((sp_tca S 17 15) 5) 4)) 22) 3 ((zU (sp_tca S 17 15) 3 (sp_cp ((sp_tca S 17 15) 3) ((sp_tca S 17 15) 5) 4)) 22 2))) 2 ((-1))))) hx hb hr hlk hF hR dX4_completeCheckpoint_31 (rfl)
set_option maxHeartbeats 4000000 in
set_option maxRecDepth 100000 in
theorem c_X4_sealTransaction {l : Launch} {D : va_G} {cI cZ : ClassId} {ad : Nat → Nat} {B : Nat → Prop} (hG : ∀ S : zS, va_D B (wX cI cZ ad S)) (S : zS) (w : Nat) (hO : zOK S) (hw : w < 4) : zMv l yX4_sealTransaction wsX4_sealTransaction ({ frames := 3, cells := 0, slots := 0, locals := 67 } : Room) [.ref (ad 0), .int (nI (w))] D (zT cI cZ) B (wX cI cZ ad) S (fun (S1 : zS) => S1 = sp_seal S w) := by
  refine zMv_of (cc := cX4_sealTransaction) (maxL := 3) (ret := none) (by decide) rfl (Nat.le_of_ble_eq_true rfl) ?_
  intro pg en s mm below meth cd hx hb hr hml hown hts hlk hF hR ls hl
  have hinX4 : ∀ w ∈ wsX40, w ∈ wsX4_sealTransaction := by decide +kernel
  have hl : lv_has ls 3 [(0, .ref (ad 0)), (1, .int (nI (w)))] := hl
  refine lv_iconst (v := (nI (0))) hx hb dX4_sealTransaction_0 (by decide) ?_
  refine lv_istore_n (lv' := [(2, .int (nI (0))), (0, .ref (ad 0)), (1, .int (nI (w)))]) hx hb dX4_sealTransaction_1 rfl hl (by decide) rfl (fun ls hl => ?_)
  have loop2 : ∀ (nf2 : Nat) (k : Nat), (k ≤ 32) → 32 - k < nf2 → ∀ (H : Heap) (locs : List Loc), zR D B (wX cI cZ ad (sp_ck S w k)) s H locs → ∀ ls : Array Slot, lv_has ls 3 [(0, .ref (ad 0)), (1, .int (nI (w))), (2, .int (nI (k)))] → W pg l en ({ frames := 3, cells := 0, slots := 0, locals := 67 } : Room) s mm ([.ref (ad 0), .int (nI (w))] : List Value).toArray below meth cd H locs 0 0 (MQ below (va_Qv (fun (S1 : zS) => S1 = sp_seal S w) (zB D (zT cI cZ) (wX cI cZ ad)) (zA B s.heap.size)) ([.ref (ad 0), .int (nI (w))] : List Value).toArray s 0 0 (zA B s.heap.size)) (F0 mm 2 ls []) := by
    intro nf2
    induction nf2 with
    | zero => intro k hk4 hn; exact absurd hn (Nat.not_lt_zero _)
    | succ nf2 ih2 =>
      intro k hk4 hn H locs hR ls hl
      have hOk := zOK_ck (w := w) hO k
      refine lv_iload_n hx hb dX4_sealTransaction_2 rfl (lv_at hl 2 rfl) ?_
      refine lv_bipush (v := (nI (32))) hx hb dX4_sealTransaction_3 (by decide) ?_
      refine z_ge_n (tgt := 35) hx hb dX4_sealTransaction_5 (by decide) (by omega) (by omega) (fun h5_1 => ?_) (fun h5_1 => ?_)
      · skip
        have hO3 := zOK_ck (w := w) hO 32
        have hR : zR D B (wX cI cZ ad (sp_ck S w 32)) s H locs := by rw [show (sp_ck S w 32) = (sp_ck S w k) from by rw [show k = 32 from by omega]]; exact hR
        refine lv_aload_n hx hb dX4_sealTransaction_35 rfl (lv_at hl 0 rfl) ?_
        refine lv_aload_n hx hb dX4_sealTransaction_36 rfl (lv_at hl 0 rfl) ?_
        refine z_get (own := RX4) (C := RX4) (T := TX4) (N := 14) (k := 4) (v := .ref (ad 16)) hx hb hts hinX4 hown hF hR (wX_c0 (sp_ck S w 32)) rfl (by decide) (by decide +kernel) rfl rfl dX4_sealTransaction_37 ?_
        refine lv_aload_n hx hb dX4_sealTransaction_40 rfl (lv_at hl 0 rfl) ?_
        refine z_get (own := RX4) (C := RX4) (T := TX4) (N := 14) (k := 5) (v := .ref (ad 19)) hx hb hts hinX4 hown hF hR (wX_c0 (sp_ck S w 32)) rfl (by decide) (by decide +kernel) rfl rfl dX4_sealTransaction_41 ?_
        refine lv_iload_n hx hb dX4_sealTransaction_44 rfl (lv_at hl 1 rfl) ?_
        refine z_callV_i (As := [.ref (ad 16), .ref (ad 19), .int (nI (w))]) (rest := []) (w := wX cI cZ ad) ⟨hx, hb, hml, hown, hts⟩ hF hR (c_X4_moveTallies_12 hG (sp_ck S w 32) w hO3 (by omega)) (cwV 3 hts gX4_sealTransaction_X4_moveTallies rfl rfl rfl (by decide +kernel) ⟨Nat.le_of_ble_eq_true rfl, Nat.le_of_ble_eq_true rfl⟩) (wX_c0 (sp_ck S w 32)) rfl rfl rfl hl rfl (Nat.le_of_ble_eq_true rfl) (by decide) dX4_sealTransaction_45 (fun r2 S2 H locs hp2 hR => ?_)
        obtain ⟨hr2, hs2⟩ := hp2
        subst r2
        subst S2
        have hO2 := (zOK_mv (a := 11) (b := 13) (w := w) hO3 (by decide) (by decide) (by decide) (by decide) 32)
        refine lv_pop hx hb dX4_sealTransaction_48 rfl ?_
        refine lv_aload_n hx hb dX4_sealTransaction_49 rfl (lv_at hl 0 rfl) ?_
        refine z_get (own := RX4) (C := RX4) (T := TX4) (N := 14) (k := 9) (v := .ref (ad 31)) hx hb hts hinX4 hown hF hR (wX_c0 (sp_mv (sp_ck S w 32) 11 13 w 32)) rfl (by decide) (by decide +kernel) rfl rfl dX4_sealTransaction_50 ?_
        refine lv_iload_n hx hb dX4_sealTransaction_53 rfl (lv_at hl 1 rfl) ?_
        refine lv_aload_n hx hb dX4_sealTransaction_54 rfl (lv_at hl 0 rfl) ?_
        refine z_get (own := RX4) (C := RX4) (T := TX4) (N := 14) (k := 12) (v := .int ((sp_mv (sp_ck S w 32) 11 13 w 32) 22 2)) hx hb hts hinX4 hown hF hR (wX_c0 (sp_mv (sp_ck S w 32) 11 13 w 32)) rfl (by decide) (by decide +kernel) rfl rfl dX4_sealTransaction_55 ?_
        refine z_iast_n (f := (sp_mv (sp_ck S w 32) 11 13 w 32) 21) hx hb hF (hG (sp_mv (sp_ck S w 32) 11 13 w 32)) hR (wX_c31 (sp_mv (sp_ck S w 32) 11 13 w 32)) zT_0 (wX_s21 (sp_mv (sp_ck S w 32) 11 13 w 32) (upd ((sp_mv (sp_ck S w 32) 11 13 w 32) 21) (w) ((sp_mv (sp_ck S w 32) 11 13 w 32) 22 2))) dX4_sealTransaction_58 (by decide) (by omega) (fun H locs hR => ?_)
        have hO4 := zOK_seal0 (w := w) hO
        have hR : zR D B (wX cI cZ ad (sp_seal0 S w)) s H locs := by rw [show (sp_seal0 S w) = (zU (sp_mv (sp_ck S w 32) 11 13 w 32) 21 (upd ((sp_mv (sp_ck S w 32) 11 13 w 32) 21) (w) ((sp_mv (sp_ck S w 32) 11 13 w 32) 22 2))) from rfl]; exact hR
        refine lv_aload_n hx hb dX4_sealTransaction_59 rfl (lv_at hl 0 rfl) ?_
        refine z_get (own := RX4) (C := RX4) (T := TX4) (N := 14) (k := 2) (v := .ref (ad 9)) hx hb hts hinX4 hown hF hR (wX_c0 (sp_seal0 S w)) rfl (by decide) (by decide +kernel) rfl rfl dX4_sealTransaction_60 ?_
        refine lv_iload_n hx hb dX4_sealTransaction_63 rfl (lv_at hl 1 rfl) ?_
        refine z_callV_v (As := [.int (nI (w))]) (rest := []) (w := wX cI cZ ad) ⟨hx, hb, hml, hown, hts⟩ hF hR (c_X0_unblockAll hG (sp_seal0 S w) w (by omega)) (cwV 1 hts gX4_sealTransaction_X0_unblockAll rfl rfl rfl (by decide +kernel) ⟨Nat.le_of_ble_eq_true rfl, Nat.le_of_ble_eq_true rfl⟩) (wX_c9 (sp_seal0 S w)) rfl rfl rfl hl rfl (Nat.le_of_ble_eq_true rfl) (by decide) dX4_sealTransaction_64 (fun S3 H locs hp3 hR => ?_)
        subst S3
        have hO5 := zOK_seal1 (w := w) hO
        have hR : zR D B (wX cI cZ ad (sp_seal1 S w)) s H locs := by rw [show (sp_seal1 S w) = (zU (sp_seal0 S w) 8 (sp_unb ((sp_seal0 S w) 8) w 4)) from rfl]; exact hR
        refine lv_aload_n hx hb dX4_sealTransaction_67 rfl (lv_at hl 0 rfl) ?_
        refine z_callV_i (As := []) (rest := []) (w := wX cI cZ ad) ⟨hx, hb, hml, hown, hts⟩ hF hR (c_X4_haveAllSealed hG (sp_seal1 S w) hO5) (cwV 0 hts gX4_sealTransaction_X4_haveAllSealed rfl rfl rfl (by decide +kernel) ⟨Nat.le_of_ble_eq_true rfl, Nat.le_of_ble_eq_true rfl⟩) (wX_c0 (sp_seal1 S w)) rfl rfl rfl hl rfl (Nat.le_of_ble_eq_true rfl) (by decide) dX4_sealTransaction_68 (fun r4 S4 H locs hp4 hR => ?_)
        obtain ⟨hp4, hs4⟩ := hp4
        subst S4
        rcases hp4 with ⟨hb68, hr4⟩ | ⟨hb68, hr4⟩
        · subst r4
          refine z_if_eq_n (tgt := 78) hx hb dX4_sealTransaction_71 (by decide) (by omega) (fun h71_5 => by omega) (fun h71_5 => ?_)
          refine lv_aload_n hx hb dX4_sealTransaction_74 rfl (lv_at hl 0 rfl) ?_
          refine z_callV_v (As := []) (rest := []) (w := wX cI cZ ad) ⟨hx, hb, hml, hown, hts⟩ hF hR (c_X4_completeCheckpoint hG (sp_seal1 S w) ) (cwV 0 hts gX4_sealTransaction_X4_completeCheckpoint rfl rfl rfl (by decide +kernel) ⟨Nat.le_of_ble_eq_true rfl, Nat.le_of_ble_eq_true rfl⟩) (wX_c0 (sp_seal1 S w)) rfl rfl rfl hl rfl (Nat.le_of_ble_eq_true rfl) (by decide) dX4_sealTransaction_75 (fun S6 H locs hp6 hR => ?_)
          subst S6
          have hO6 := (zOK_cc hO5)
          exact z_vret (w := wX cI cZ ad) (S1 := (sp_cc (sp_seal1 S w))) hx hb hr hlk hF hR dX4_sealTransaction_78 ((if_pos hb68).symm)
        · subst r4
          refine z_if_eq_n (tgt := 78) hx hb dX4_sealTransaction_71 (by decide) (by omega) (fun h71_7 => ?_) (fun h71_7 => by omega)
          exact z_vret (w := wX cI cZ ad) (S1 := (sp_seal1 S w)) hx hb hr hlk hF hR dX4_sealTransaction_78 ((if_neg hb68).symm)
      · skip
        refine lv_aload_n hx hb dX4_sealTransaction_8 rfl (lv_at hl 0 rfl) ?_
        refine lv_iload_n hx hb dX4_sealTransaction_9 rfl (lv_at hl 2 rfl) ?_
        refine z_callV_i (As := [.int (nI (k))]) (rest := []) (w := wX cI cZ ad) ⟨hx, hb, hml, hown, hts⟩ hF hR (c_X4_ownerOfKey hG (sp_ck S w k) k hOk (by omega)) (cwV 1 hts gX4_sealTransaction_X4_ownerOfKey rfl rfl rfl (by decide +kernel) ⟨Nat.le_of_ble_eq_true rfl, Nat.le_of_ble_eq_true rfl⟩) (wX_c0 (sp_ck S w k)) rfl rfl rfl hl rfl (Nat.le_of_ble_eq_true rfl) (by decide) dX4_sealTransaction_10 (fun r8 S8 H locs hp8 hR => ?_)
        obtain ⟨hr8, hs8⟩ := hp8
        subst r8
        subst S8
        have hb10 := (hOk.own k).2
        refine lv_iload_n hx hb dX4_sealTransaction_13 rfl (lv_at hl 1 rfl) ?_
        refine z_ne_n (tgt := 29) hx hb dX4_sealTransaction_14 (by decide) (by omega) (by omega) (fun h14_9 => ?_) (fun h14_9 => ?_)
        · skip
          have q14 := h14_9
          refine lv_iinc (v := (nI (k + 1))) (lv' := [(2, .int (nI (k + 1))), (0, .ref (ad 0)), (1, .int (nI (w)))]) hx hb dX4_sealTransaction_29 hl (k := 2) rfl (z_inc _) (by decide) rfl (fun ls hl => ?_)
          refine lv_goto (tgt := 2) hx hb dX4_sealTransaction_32 (by decide) ?_
          exact ih2 (k + 1) (by omega) (by omega) _ _ (by rw [show sp_ck S w (k + 1) = (sp_ck S w k) from if_neg q14]; exact hR) ls (lv_sub hl [1, 2, 0] rfl)
        · skip
          have q14 := h14_9
          refine lv_aload_n hx hb dX4_sealTransaction_17 rfl (lv_at hl 0 rfl) ?_
          refine z_get (own := RX4) (C := RX4) (T := TX4) (N := 14) (k := 6) (v := .ref (ad 22)) hx hb hts hinX4 hown hF hR (wX_c0 (sp_ck S w k)) rfl (by decide) (by decide +kernel) rfl rfl dX4_sealTransaction_18 ?_
          refine lv_aload_n hx hb dX4_sealTransaction_21 rfl (lv_at hl 0 rfl) ?_
          refine z_get (own := RX4) (C := RX4) (T := TX4) (N := 14) (k := 3) (v := .ref (ad 13)) hx hb hts hinX4 hown hF hR (wX_c0 (sp_ck S w k)) rfl (by decide) (by decide +kernel) rfl rfl dX4_sealTransaction_22 ?_
          refine lv_iload_n hx hb dX4_sealTransaction_25 rfl (lv_at hl 2 rfl) ?_
          refine z_callV_v (As := [.ref (ad 13), .int (nI (k))]) (rest := []) (w := wX cI cZ ad) ⟨hx, hb, hml, hown, hts⟩ hF hR (c_X3_copyKey_t3t0 hG (sp_ck S w k) k (by omega)) (cwV 2 hts gX4_sealTransaction_X3_copyKey rfl rfl rfl (by decide +kernel) ⟨Nat.le_of_ble_eq_true rfl, Nat.le_of_ble_eq_true rfl⟩) (wX_c22 (sp_ck S w k)) rfl rfl rfl hl rfl (Nat.le_of_ble_eq_true rfl) (by decide) dX4_sealTransaction_26 (fun S10 H locs hp10 hR => ?_)
          subst S10
          have hO10 := (zOK_tck (d := 9) (key := k) hOk (by decide : 9 ≤ 15) (by decide))
          refine lv_iinc (v := (nI (k + 1))) (lv' := [(2, .int (nI (k + 1))), (0, .ref (ad 0)), (1, .int (nI (w)))]) hx hb dX4_sealTransaction_29 hl (k := 2) rfl (z_inc _) (by decide) rfl (fun ls hl => ?_)
          refine lv_goto (tgt := 2) hx hb dX4_sealTransaction_32 (by decide) ?_
          exact ih2 (k + 1) (by omega) (by omega) _ _ (by rw [show sp_ck S w (k + 1) = (sp_tck (sp_ck S w k) 15 9 k) from if_pos q14]; exact hR) ls (lv_sub hl [1, 2, 0] rfl)
  exact loop2 _ 0 (by omega) (Nat.lt_succ_self _) _ _ (by rw [show sp_ck S w 0 = S from rfl]; exact hR) ls (lv_sub hl [1, 2, 0] rfl)
set_option maxHeartbeats 4000000 in
set_option maxRecDepth 100000 in
theorem c_X4_takeBarrier {l : Launch} {D : va_G} {cI cZ : ClassId} {ad : Nat → Nat} {B : Nat → Prop} (hG : ∀ S : zS, va_D B (wX cI cZ ad S)) (S : zS) (p w : Nat) (hO : zOK S) (hp : p < 4) (hw : w < 4) : zMv l yX4_takeBarrier wsX4_takeBarrier ({ frames := 4, cells := 0, slots := 0, locals := 89 } : Room) [.ref (ad 0), .int (nI (p)), .int (nI (w))] D (zT cI cZ) B (wX cI cZ ad) S (fun (S1 : zS) => S1 = sp_tb S p w) := by
  refine zMv_of (cc := cX4_takeBarrier) (maxL := 3) (ret := none) (by decide) rfl (Nat.le_of_ble_eq_true rfl) ?_
  intro pg en s mm below meth cd hx hb hr hml hown hts hlk hF hR ls hl
  have hinX4 : ∀ w ∈ wsX40, w ∈ wsX4_takeBarrier := by decide +kernel
  have hl : lv_has ls 3 [(0, .ref (ad 0)), (1, .int (nI (p))), (2, .int (nI (w)))] := hl
  refine lv_aload_n hx hb dX4_takeBarrier_0 rfl (lv_at hl 0 rfl) ?_
  refine z_get (own := RX4) (C := RX4) (T := TX4) (N := 14) (k := 2) (v := .ref (ad 9)) hx hb hts hinX4 hown hF hR (wX_c0 S) rfl (by decide) (by decide +kernel) rfl rfl dX4_takeBarrier_1 ?_
  refine lv_iload_n hx hb dX4_takeBarrier_4 rfl (lv_at hl 1 rfl) ?_
  refine lv_iload_n hx hb dX4_takeBarrier_5 rfl (lv_at hl 2 rfl) ?_
  refine z_callV_v (As := [.int (nI (p)), .int (nI (w))]) (rest := []) (w := wX cI cZ ad) ⟨hx, hb, hml, hown, hts⟩ hF hR (c_X0_block hG S p w (by omega) (by omega)) (cwV 2 hts gX4_takeBarrier_X0_block rfl rfl rfl (by decide +kernel) ⟨Nat.le_of_ble_eq_true rfl, Nat.le_of_ble_eq_true rfl⟩) (wX_c9 S) rfl rfl rfl hl rfl (Nat.le_of_ble_eq_true rfl) (by decide) dX4_takeBarrier_6 (fun S1 H locs hp1 hR => ?_)
  subst S1
  have hO2 := zOK_blk (p := p) (w := w) hO
  have hR : zR D B (wX cI cZ ad (sp_blk S p w)) s H locs := by rw [show (sp_blk S p w) = (zU S 8 (upd (S 8) (4 * p + w) (nI 1))) from rfl]; exact hR
  refine lv_aload_n hx hb dX4_takeBarrier_9 rfl (lv_at hl 0 rfl) ?_
  refine z_get (own := RX4) (C := RX4) (T := TX4) (N := 14) (k := 2) (v := .ref (ad 9)) hx hb hts hinX4 hown hF hR (wX_c0 (sp_blk S p w)) rfl (by decide) (by decide +kernel) rfl rfl dX4_takeBarrier_10 ?_
  refine lv_iload_n hx hb dX4_takeBarrier_13 rfl (lv_at hl 2 rfl) ?_
  refine z_callV_i (As := [.int (nI (w))]) (rest := []) (w := wX cI cZ ad) ⟨hx, hb, hml, hown, hts⟩ hF hR (c_X0_areAllBlocked hG (sp_blk S p w) w hO2 (by omega)) (cwV 1 hts gX4_takeBarrier_X0_areAllBlocked rfl rfl rfl (by decide +kernel) ⟨Nat.le_of_ble_eq_true rfl, Nat.le_of_ble_eq_true rfl⟩) (wX_c9 (sp_blk S p w)) rfl rfl rfl hl rfl (Nat.le_of_ble_eq_true rfl) (by decide) dX4_takeBarrier_14 (fun r2 S2 H locs hp2 hR => ?_)
  obtain ⟨hp2, hs2⟩ := hp2
  subst S2
  rcases hp2 with ⟨hb14, hr2⟩ | ⟨hb14, hr2⟩
  · subst r2
    refine z_if_eq_n (tgt := 25) hx hb dX4_takeBarrier_17 (by decide) (by omega) (fun h17_3 => by omega) (fun h17_3 => ?_)
    refine lv_aload_n hx hb dX4_takeBarrier_20 rfl (lv_at hl 0 rfl) ?_
    refine lv_iload_n hx hb dX4_takeBarrier_21 rfl (lv_at hl 2 rfl) ?_
    refine z_callV_v (As := [.int (nI (w))]) (rest := []) (w := wX cI cZ ad) ⟨hx, hb, hml, hown, hts⟩ hF hR (c_X4_sealTransaction hG (sp_blk S p w) w hO2 (by omega)) (cwV 1 hts gX4_takeBarrier_X4_sealTransaction rfl rfl rfl (by decide +kernel) ⟨Nat.le_of_ble_eq_true rfl, Nat.le_of_ble_eq_true rfl⟩) (wX_c0 (sp_blk S p w)) rfl rfl rfl hl rfl (Nat.le_of_ble_eq_true rfl) (by decide) dX4_takeBarrier_22 (fun S4 H locs hp4 hR => ?_)
    subst S4
    have hO4 := (zOK_seal (w := w) hO2)
    exact z_vret (w := wX cI cZ ad) (S1 := (sp_seal (sp_blk S p w) w)) hx hb hr hlk hF hR dX4_takeBarrier_25 ((if_pos hb14).symm)
  · subst r2
    refine z_if_eq_n (tgt := 25) hx hb dX4_takeBarrier_17 (by decide) (by omega) (fun h17_5 => ?_) (fun h17_5 => by omega)
    exact z_vret (w := wX cI cZ ad) (S1 := (sp_blk S p w)) hx hb hr hlk hF hR dX4_takeBarrier_25 ((if_neg hb14).symm)
set_option maxHeartbeats 4000000 in
set_option maxRecDepth 100000 in
theorem c_X4_takeFrom {l : Launch} {D : va_G} {cI cZ : ClassId} {ad : Nat → Nat} {B : Nat → Prop} (hG : ∀ S : zS, va_D B (wX cI cZ ad S)) (S : zS) (p w : Nat) (hO : zOK S) (hp : p < 4) (hw : w < 4) (hn : 0 < zn S 7 (4 * p + w)) : zMi l yX4_takeFrom wsX4_takeFrom ({ frames := 5, cells := 0, slots := 0, locals := 111 } : Room) [.ref (ad 0), .int (nI (p)), .int (nI (w))] D (zT cI cZ) B (wX cI cZ ad) S (fun (r : Int32) (S1 : zS) => r = (sp_tfr S p w) ∧ S1 = sp_tf S p w) := by
  refine zMi_of (cc := cX4_takeFrom) (maxL := 4) (ret := (some .int)) (by decide) rfl (Nat.le_of_ble_eq_true rfl) ?_
  intro pg en s mm below meth cd hx hb hr hml hown hts hlk hF hR ls hl
  have hinX4 : ∀ w ∈ wsX40, w ∈ wsX4_takeFrom := by decide +kernel
  have hl : lv_has ls 4 [(0, .ref (ad 0)), (1, .int (nI (p))), (2, .int (nI (w)))] := hl
  refine lv_aload_n hx hb dX4_takeFrom_0 rfl (lv_at hl 0 rfl) ?_
  refine z_get (own := RX4) (C := RX4) (T := TX4) (N := 14) (k := 2) (v := .ref (ad 9)) hx hb hts hinX4 hown hF hR (wX_c0 S) rfl (by decide) (by decide +kernel) rfl rfl dX4_takeFrom_1 ?_
  refine lv_iload_n hx hb dX4_takeFrom_4 rfl (lv_at hl 1 rfl) ?_
  refine lv_iload_n hx hb dX4_takeFrom_5 rfl (lv_at hl 2 rfl) ?_
  refine z_callV_i (As := [.int (nI (p)), .int (nI (w))]) (rest := []) (w := wX cI cZ ad) ⟨hx, hb, hml, hown, hts⟩ hF hR (c_X0_removeFirst hG S p w hO (by omega) (by omega) (by omega)) (cwV 2 hts gX4_takeFrom_X0_removeFirst rfl rfl rfl (by decide +kernel) ⟨Nat.le_of_ble_eq_true rfl, Nat.le_of_ble_eq_true rfl⟩) (wX_c9 S) rfl rfl rfl hl rfl (Nat.le_of_ble_eq_true rfl) (by decide) dX4_takeFrom_6 (fun r1 S1 H locs hp1 hR => ?_)
  obtain ⟨hr1, hs1⟩ := hp1
  subst r1
  subst S1
  have hO2 := zOK_rem (c := 4 * p + w) hO
  refine lv_istore_n (lv' := [(3, .int (S 6 (8 * (4 * p + w)))), (0, .ref (ad 0)), (1, .int (nI (p))), (2, .int (nI (w)))]) hx hb dX4_takeFrom_9 rfl hl (by decide) rfl (fun ls hl => ?_)
  refine lv_iload_n hx hb dX4_takeFrom_10 rfl (lv_at hl 0 rfl) ?_
  refine lv_if_le (tgt := 27) hx hb dX4_takeFrom_11 (by decide) (fun h11_2 => ?_) (fun h11_2 => ?_)
  · skip
    have q11 := h11_2
    refine lv_iload_n hx hb dX4_takeFrom_27 rfl (lv_at hl 0 rfl) ?_
    refine lv_ineg hx hb dX4_takeFrom_28 ?_
    refine lv_aload_n hx hb dX4_takeFrom_29 rfl (lv_at hl 1 rfl) ?_
    refine z_get (own := RX4) (C := RX4) (T := TX4) (N := 14) (k := 12) (v := .int ((sp_rem S (4 * p + w)) 22 2)) hx hb hts hinX4 hown hF hR (wX_c0 (sp_rem S (4 * p + w))) rfl (by decide) (by decide +kernel) rfl rfl dX4_takeFrom_30 ?_
    refine lv_icmp_ne (tgt := 42) hx hb dX4_takeFrom_33 (by decide) (fun h33_3 => ?_) (fun h33_3 => ?_)
    · skip
      have q33 : ¬ -(S 6 (8 * (4 * p + w))) = S 22 2 := h33_3
      refine lv_iconst (v := (nI (0))) hx hb dX4_takeFrom_42 (by decide) ?_
      exact z_iret (w := wX cI cZ ad) (S1 := (sp_rem S (4 * p + w))) hx hb hr hlk hF hR dX4_takeFrom_43 (⟨by unfold sp_tfr; rw [if_neg (Int32.not_lt.mpr q11)], by unfold sp_tf; rw [if_neg (Int32.not_lt.mpr q11)]; first | (rw [if_pos q33]) | (rw [if_neg q33])⟩)
    · skip
      have q33 : -(S 6 (8 * (4 * p + w))) = S 22 2 := h33_3
      refine lv_aload_n hx hb dX4_takeFrom_36 rfl (lv_at hl 1 rfl) ?_
      refine lv_iload_n hx hb dX4_takeFrom_37 rfl (lv_at hl 2 rfl) ?_
      refine lv_iload_n hx hb dX4_takeFrom_38 rfl (lv_at hl 3 rfl) ?_
      refine z_callV_v (As := [.int (nI (p)), .int (nI (w))]) (rest := []) (w := wX cI cZ ad) ⟨hx, hb, hml, hown, hts⟩ hF hR (c_X4_takeBarrier hG (sp_rem S (4 * p + w)) p w hO2 (by omega) (by omega)) (cwV 2 hts gX4_takeFrom_X4_takeBarrier rfl rfl rfl (by decide +kernel) ⟨Nat.le_of_ble_eq_true rfl, Nat.le_of_ble_eq_true rfl⟩) (wX_c0 (sp_rem S (4 * p + w))) rfl rfl rfl hl rfl (Nat.le_of_ble_eq_true rfl) (by decide) dX4_takeFrom_39 (fun S4 H locs hp4 hR => ?_)
      subst S4
      have hO4 := (zOK_tb (p := p) (w := w) hO2)
      refine lv_iconst (v := (nI (0))) hx hb dX4_takeFrom_42 (by decide) ?_
      exact z_iret (w := wX cI cZ ad) (S1 := (sp_tb (sp_rem S (4 * p + w)) p w)) hx hb hr hlk hF hR dX4_takeFrom_43 (⟨by unfold sp_tfr; rw [if_neg (Int32.not_lt.mpr q11)], by unfold sp_tf; rw [if_neg (Int32.not_lt.mpr q11)]; first | (rw [if_pos q33]) | (rw [if_neg q33])⟩)
  · skip
    have q11 : 0 < S 6 (8 * (4 * p + w)) := Int32.not_le.mp h11_2
    have hb11 := (zOK.pos hO q11).2
    have hl : lv_has ls 4 [(3, .int (nI (zn S 6 (8 * (4 * p + w))))), (0, .ref (ad 0)), (1, .int (nI (p))), (2, .int (nI (w)))] := (by rw [← (zOK.pos hO q11).1]; exact hl)
    refine lv_aload_n hx hb dX4_takeFrom_14 rfl (lv_at hl 1 rfl) ?_
    refine lv_iload_n hx hb dX4_takeFrom_15 rfl (lv_at hl 0 rfl) ?_
    refine z_callS_i (As := [.int (nI (zn S 6 (8 * (4 * p + w))))]) (rest := [.ref (ad 0)]) (w := wX cI cZ ad) ⟨hx, hb, hml, hown, hts⟩ hF hR (c_X4_keyOf hG (sp_rem S (4 * p + w)) (zn S 6 (8 * (4 * p + w))) (by omega)) (va_cwS 1 hts gX4_takeFrom_X4_keyOf rfl rfl rfl (by decide +kernel) ⟨Nat.le_of_ble_eq_true rfl, Nat.le_of_ble_eq_true rfl⟩) rfl hl rfl (Nat.le_of_ble_eq_true rfl) (by decide) dX4_takeFrom_16 (fun r5 S5 H locs hp5 hR => ?_)
    obtain ⟨hr5, hs5⟩ := hp5
    subst r5
    subst S5
    refine lv_iload_n hx hb dX4_takeFrom_19 rfl (lv_at hl 0 rfl) ?_
    refine z_callS_i (As := [.int (nI (zn S 6 (8 * (4 * p + w))))]) (rest := [.int (nI ((zn S 6 (8 * (4 * p + w))) / 1000)), .ref (ad 0)]) (w := wX cI cZ ad) ⟨hx, hb, hml, hown, hts⟩ hF hR (c_X4_valueOf hG (sp_rem S (4 * p + w)) (zn S 6 (8 * (4 * p + w))) (by omega)) (va_cwS 1 hts gX4_takeFrom_X4_valueOf rfl rfl rfl (by decide +kernel) ⟨Nat.le_of_ble_eq_true rfl, Nat.le_of_ble_eq_true rfl⟩) rfl hl rfl (Nat.le_of_ble_eq_true rfl) (by decide) dX4_takeFrom_20 (fun r6 S6 H locs hp6 hR => ?_)
    obtain ⟨hr6, hs6⟩ := hp6
    subst r6
    subst S6
    refine z_callV_i (As := [.int (nI ((zn S 6 (8 * (4 * p + w))) / 1000)), .int (nI ((zn S 6 (8 * (4 * p + w))) % 1000))]) (rest := []) (w := wX cI cZ ad) ⟨hx, hb, hml, hown, hts⟩ hF hR (c_X4_takeEvent hG (sp_rem S (4 * p + w)) ((zn S 6 (8 * (4 * p + w))) / 1000) ((zn S 6 (8 * (4 * p + w))) % 1000) (by omega)) (cwV 2 hts gX4_takeFrom_X4_takeEvent rfl rfl rfl (by decide +kernel) ⟨Nat.le_of_ble_eq_true rfl, Nat.le_of_ble_eq_true rfl⟩) (wX_c0 (sp_rem S (4 * p + w))) rfl rfl rfl hl rfl (Nat.le_of_ble_eq_true rfl) (by decide) dX4_takeFrom_23 (fun r7 S7 H locs hp7 hR => ?_)
    obtain ⟨hr7, hs7⟩ := hp7
    subst r7
    subst S7
    have hO7 := (zOK_te (key := ((zn S 6 (8 * (4 * p + w))) / 1000)) (v := ((zn S 6 (8 * (4 * p + w))) % 1000)) hO2)
    exact z_iret (w := wX cI cZ ad) (S1 := (sp_te (sp_rem S (4 * p + w)) ((zn S 6 (8 * (4 * p + w))) / 1000) ((zn S 6 (8 * (4 * p + w))) % 1000))) hx hb hr hlk hF hR dX4_takeFrom_26 (⟨by unfold sp_tfr sp_tf; rw [if_pos q11, if_pos q11], by unfold sp_tf; rw [if_pos q11]⟩)
set_option maxHeartbeats 4000000 in
set_option maxRecDepth 100000 in
theorem c_X4_readRound {l : Launch} {D : va_G} {cI cZ : ClassId} {ad : Nat → Nat} {B : Nat → Prop} (hG : ∀ S : zS, va_D B (wX cI cZ ad S)) (S : zS) (hO : zOK S) : zMi l yX4_readRound wsX4_readRound ({ frames := 4, cells := 0, slots := 0, locals := 88 } : Room) [.ref (ad 0)] D (zT cI cZ) B (wX cI cZ ad) S (fun (r : Int32) (S1 : zS) => r = (nI (sp_rrc S 4)) ∧ S1 = sp_rr S 4) := by
  refine zMi_of (cc := cX4_readRound) (maxL := 3) (ret := (some .int)) (by decide) rfl (Nat.le_of_ble_eq_true rfl) ?_
  intro pg en s mm below meth cd hx hb hr hml hown hts hlk hF hR ls hl
  have hl : lv_has ls 3 [(0, .ref (ad 0))] := hl
  refine lv_iconst (v := (nI (0))) hx hb dX4_readRound_0 (by decide) ?_
  refine lv_istore_n (lv' := [(1, .int (nI (0))), (0, .ref (ad 0))]) hx hb dX4_readRound_1 rfl hl (by decide) rfl (fun ls hl => ?_)
  refine lv_iconst (v := (nI (0))) hx hb dX4_readRound_2 (by decide) ?_
  refine lv_istore_n (lv' := [(2, .int (nI (0))), (1, .int (nI (0))), (0, .ref (ad 0))]) hx hb dX4_readRound_3 rfl hl (by decide) rfl (fun ls hl => ?_)
  have loop4 : ∀ (nf4 : Nat) (k : Nat), (k ≤ 4) → 4 - k < nf4 → ∀ (H : Heap) (locs : List Loc), zR D B (wX cI cZ ad (sp_rr S k)) s H locs → ∀ ls : Array Slot, lv_has ls 3 [(0, .ref (ad 0)), (1, .int (nI (sp_rrc S k))), (2, .int (nI (k)))] → W pg l en ({ frames := 4, cells := 0, slots := 0, locals := 88 } : Room) s mm ([.ref (ad 0)] : List Value).toArray below meth cd H locs 0 0 (MQ below (va_Qi (fun (r : Int32) (S1 : zS) => r = (nI (sp_rrc S 4)) ∧ S1 = sp_rr S 4) (zB D (zT cI cZ) (wX cI cZ ad)) (zA B s.heap.size)) ([.ref (ad 0)] : List Value).toArray s 0 0 (zA B s.heap.size)) (F0 mm 4 ls []) := by
    intro nf4
    induction nf4 with
    | zero => intro k hk4 hn; exact absurd hn (Nat.not_lt_zero _)
    | succ nf4 ih4 =>
      intro k hk4 hn H locs hR ls hl
      have hOk := zOK_rr hO k
      refine lv_iload_n hx hb dX4_readRound_4 rfl (lv_at hl 2 rfl) ?_
      refine lv_iconst (v := (nI (4))) hx hb dX4_readRound_5 (by decide) ?_
      refine z_ge_n (tgt := 32) hx hb dX4_readRound_6 (by decide) (by omega) (by omega) (fun h6_1 => ?_) (fun h6_1 => ?_)
      · skip
        refine lv_iload_n hx hb dX4_readRound_32 rfl (lv_at hl 1 rfl) ?_
        exact z_iret (w := wX cI cZ ad) (S1 := (sp_rr S k)) hx hb hr hlk hF hR dX4_readRound_33 (⟨by rw [show k = 4 from by omega], by rw [show k = 4 from by omega]⟩)
      · skip
        refine lv_aload_n hx hb dX4_readRound_9 rfl (lv_at hl 0 rfl) ?_
        refine lv_iload_n hx hb dX4_readRound_10 rfl (lv_at hl 2 rfl) ?_
        refine z_callV_i (As := [.int (nI (k))]) (rest := []) (w := wX cI cZ ad) ⟨hx, hb, hml, hown, hts⟩ hF hR (c_X4_canReadFrom hG (sp_rr S k) k hOk (by omega)) (cwV 1 hts gX4_readRound_X4_canReadFrom rfl rfl rfl (by decide +kernel) ⟨Nat.le_of_ble_eq_true rfl, Nat.le_of_ble_eq_true rfl⟩) (wX_c0 (sp_rr S k)) rfl rfl rfl hl rfl (Nat.le_of_ble_eq_true rfl) (by decide) dX4_readRound_11 (fun r2 S2 H locs hp2 hR => ?_)
        obtain ⟨hp2, hs2⟩ := hp2
        subst S2
        rcases hp2 with ⟨hb11, hr2⟩ | ⟨hb11, hr2⟩
        · subst r2
          refine z_if_eq_n (tgt := 26) hx hb dX4_readRound_14 (by decide) (by omega) (fun h14_3 => by omega) (fun h14_3 => ?_)
          refine lv_aload_n hx hb dX4_readRound_17 rfl (lv_at hl 0 rfl) ?_
          refine lv_iload_n hx hb dX4_readRound_18 rfl (lv_at hl 2 rfl) ?_
          refine z_callV_i (As := [.int (nI (k))]) (rest := []) (w := wX cI cZ ad) ⟨hx, hb, hml, hown, hts⟩ hF hR (c_X4_readFrom hG (sp_rr S k) k hOk (by omega) hb11) (cwV 1 hts gX4_readRound_X4_readFrom rfl rfl rfl (by decide +kernel) ⟨Nat.le_of_ble_eq_true rfl, Nat.le_of_ble_eq_true rfl⟩) (wX_c0 (sp_rr S k)) rfl rfl rfl hl rfl (Nat.le_of_ble_eq_true rfl) (by decide) dX4_readRound_19 (fun r4 S4 H locs hp4 hR => ?_)
          obtain ⟨hr4, hs4⟩ := hp4
          subst r4
          subst S4
          refine lv_pop hx hb dX4_readRound_22 rfl ?_
          refine lv_iinc (v := (nI (sp_rrc S k + 1))) (lv' := [(1, .int (nI (sp_rrc S k + 1))), (0, .ref (ad 0)), (2, .int (nI (k)))]) hx hb dX4_readRound_23 hl (k := 1) rfl (z_inc _) (by decide) rfl (fun ls hl => ?_)
          have hl : lv_has ls 3 [(1, .int (nI (sp_rrc S (k + 1)))), (0, .ref (ad 0)), (2, .int (nI (k)))] := (by rw [show sp_rrc S (k + 1) = if zcanR (sp_rr S k) k then sp_rrc S k + 1 else sp_rrc S k from rfl]; first | (rw [if_pos hb11]; exact hl) | (rw [if_neg hb11]; exact hl))
          refine lv_iinc (v := (nI (k + 1))) (lv' := [(2, .int (nI (k + 1))), (1, .int (nI (sp_rrc S (k + 1)))), (0, .ref (ad 0))]) hx hb dX4_readRound_26 hl (k := 2) rfl (z_inc _) (by decide) rfl (fun ls hl => ?_)
          refine lv_goto (tgt := 4) hx hb dX4_readRound_29 (by decide) ?_
          exact ih4 (k + 1) (by omega) (by omega) _ _ (by rw [show sp_rr S (k + 1) = (sp_read (sp_rr S k) k) from if_pos hb11]; exact hR) ls (lv_sub hl [2, 1, 0] rfl)
        · subst r2
          refine z_if_eq_n (tgt := 26) hx hb dX4_readRound_14 (by decide) (by omega) (fun h14_5 => ?_) (fun h14_5 => by omega)
          have hl : lv_has ls 3 [(0, .ref (ad 0)), (1, .int (nI (sp_rrc S (k + 1)))), (2, .int (nI (k)))] := (by rw [show sp_rrc S (k + 1) = if zcanR (sp_rr S k) k then sp_rrc S k + 1 else sp_rrc S k from rfl]; first | (rw [if_pos hb11]; exact hl) | (rw [if_neg hb11]; exact hl))
          refine lv_iinc (v := (nI (k + 1))) (lv' := [(2, .int (nI (k + 1))), (0, .ref (ad 0)), (1, .int (nI (sp_rrc S (k + 1))))]) hx hb dX4_readRound_26 hl (k := 2) rfl (z_inc _) (by decide) rfl (fun ls hl => ?_)
          refine lv_goto (tgt := 4) hx hb dX4_readRound_29 (by decide) ?_
          exact ih4 (k + 1) (by omega) (by omega) _ _ (by rw [show sp_rr S (k + 1) = (sp_rr S k) from if_neg hb11]; exact hR) ls (lv_sub hl [1, 2, 0] rfl)
  exact loop4 _ 0 (by omega) (Nat.lt_succ_self _) _ _ (by rw [show sp_rr S 0 = S from rfl]; exact hR) ls (lv_sub hl [2, 1, 0] rfl)
set_option maxHeartbeats 4000000 in
set_option maxRecDepth 100000 in
theorem c_X4_takeRound {l : Launch} {D : va_G} {cI cZ : ClassId} {ad : Nat → Nat} {B : Nat → Prop} (hG : ∀ S : zS, va_D B (wX cI cZ ad S)) (S : zS) (hO : zOK S) : zMi l yX4_takeRound wsX4_takeRound ({ frames := 6, cells := 0, slots := 0, locals := 134 } : Room) [.ref (ad 0)] D (zT cI cZ) B (wX cI cZ ad) S (fun (r : Int32) (S1 : zS) => r = (nI (sp_ttc S (zn S 22 0))) ∧ S1 = sp_tt S (zn S 22 0)) := by
  refine zMi_of (cc := cX4_takeRound) (maxL := 4) (ret := (some .int)) (by decide) rfl (Nat.le_of_ble_eq_true rfl) ?_
  intro pg en s mm below meth cd hx hb hr hml hown hts hlk hF hR ls hl
  have hinX4 : ∀ w ∈ wsX40, w ∈ wsX4_takeRound := by decide +kernel
  have hl : lv_has ls 4 [(0, .ref (ad 0))] := hl
  have hW1 := (zOK.w hO).2.1
  have hW4 := (zOK.w hO).2.2
  refine lv_iconst (v := (nI (0))) hx hb dX4_takeRound_0 (by decide) ?_
  refine lv_istore_n (lv' := [(1, .int (nI (0))), (0, .ref (ad 0))]) hx hb dX4_takeRound_1 rfl hl (by decide) rfl (fun ls hl => ?_)
  refine lv_iconst (v := (nI (0))) hx hb dX4_takeRound_2 (by decide) ?_
  refine lv_istore_n (lv' := [(2, .int (nI (0))), (1, .int (nI (0))), (0, .ref (ad 0))]) hx hb dX4_takeRound_3 rfl hl (by decide) rfl (fun ls hl => ?_)
  have loop4 : ∀ (nf4 : Nat) (v : Nat), (v ≤ zn S 22 0) → zn S 22 0 - v < nf4 → ∀ (H : Heap) (locs : List Loc), zR D B (wX cI cZ ad (sp_tt S v)) s H locs → ∀ ls : Array Slot, lv_has ls 4 [(0, .ref (ad 0)), (1, .int (nI (sp_ttc S v))), (2, .int (nI (v)))] → W pg l en ({ frames := 6, cells := 0, slots := 0, locals := 134 } : Room) s mm ([.ref (ad 0)] : List Value).toArray below meth cd H locs 0 0 (MQ below (va_Qi (fun (r : Int32) (S1 : zS) => r = (nI (sp_ttc S (zn S 22 0))) ∧ S1 = sp_tt S (zn S 22 0)) (zB D (zT cI cZ) (wX cI cZ ad)) (zA B s.heap.size)) ([.ref (ad 0)] : List Value).toArray s 0 0 (zA B s.heap.size)) (F0 mm 4 ls []) := by
    intro nf4
    induction nf4 with
    | zero => intro v hv hn; exact absurd hn (Nat.not_lt_zero _)
    | succ nf4 ih4 =>
      intro v hv hn H locs hR ls hl
      have hOv := zOK_tt hO v
      refine lv_iload_n hx hb dX4_takeRound_4 rfl (lv_at hl 2 rfl) ?_
      refine lv_aload_n hx hb dX4_takeRound_5 rfl (lv_at hl 0 rfl) ?_
      refine z_get (own := RX4) (C := RX4) (T := TX4) (N := 14) (k := 10) (v := .int ((sp_tt S v) 22 0)) hx hb hts hinX4 hown hF hR (wX_c0 (sp_tt S v)) rfl (by decide) (by decide +kernel) rfl rfl dX4_takeRound_6 ?_
      refine lv_topi (fun v1 ev1 => ?_)
      obtain rfl : v1 = (nI (zn S 22 0)) := ev1.trans ((zOK.w hOv).1.trans (congrArg nI (zn_tt S v)))
      refine z_ge_n (tgt := 53) hx hb dX4_takeRound_9 (by decide) (by omega) (by omega) (fun h9_2 => ?_) (fun h9_2 => ?_)
      · skip
        refine lv_iload_n hx hb dX4_takeRound_53 rfl (lv_at hl 1 rfl) ?_
        exact z_iret (w := wX cI cZ ad) (S1 := (sp_tt S v)) hx hb hr hlk hF hR dX4_takeRound_54 (⟨by rw [show v = zn S 22 0 from by omega], by rw [show v = zn S 22 0 from by omega]⟩)
      · skip
        refine lv_iconst (v := (nI (0))) hx hb dX4_takeRound_12 (by decide) ?_
        refine lv_istore_n (lv' := [(3, .int (nI (0))), (0, .ref (ad 0)), (1, .int (nI (sp_ttc S v))), (2, .int (nI (v)))]) hx hb dX4_takeRound_13 rfl hl (by decide) rfl (fun ls hl => ?_)
        have loop14 : ∀ (nf14 : Nat) (k : Nat), (k ≤ 4) → 4 - k < nf14 → ∀ (H : Heap) (locs : List Loc), zR D B (wX cI cZ ad (sp_tw (sp_tt S v) v k)) s H locs → ∀ ls : Array Slot, lv_has ls 4 [(0, .ref (ad 0)), (1, .int (nI (sp_ttc S v + sp_twc (sp_tt S v) v k))), (2, .int (nI (v))), (3, .int (nI (k)))] → W pg l en ({ frames := 6, cells := 0, slots := 0, locals := 134 } : Room) s mm ([.ref (ad 0)] : List Value).toArray below meth cd H locs 0 0 (MQ below (va_Qi (fun (r : Int32) (S1 : zS) => r = (nI (sp_ttc S (zn S 22 0))) ∧ S1 = sp_tt S (zn S 22 0)) (zB D (zT cI cZ) (wX cI cZ ad)) (zA B s.heap.size)) ([.ref (ad 0)] : List Value).toArray s 0 0 (zA B s.heap.size)) (F0 mm 14 ls []) := by
          intro nf14
          induction nf14 with
          | zero => intro k hk4 hn; exact absurd hn (Nat.not_lt_zero _)
          | succ nf14 ih14 =>
            intro k hk4 hn H locs hR ls hl
            have hOk := zOK_tw (w := v) hOv k
            refine lv_iload_n hx hb dX4_takeRound_14 rfl (lv_at hl 3 rfl) ?_
            refine lv_iconst (v := (nI (4))) hx hb dX4_takeRound_15 (by decide) ?_
            refine z_ge_n (tgt := 47) hx hb dX4_takeRound_16 (by decide) (by omega) (by omega) (fun h16_3 => ?_) (fun h16_3 => ?_)
            · skip
              have hl : lv_has ls 4 [(0, .ref (ad 0)), (1, .int (nI (sp_ttc S (v + 1)))), (2, .int (nI (v))), (3, .int (nI (k)))] := (by rw [show sp_ttc S (v + 1) = sp_ttc S v + sp_twc (sp_tt S v) v k from by rw [show k = 4 from by omega]; rfl]; exact hl)
              refine lv_iinc (v := (nI (v + 1))) (lv' := [(2, .int (nI (v + 1))), (0, .ref (ad 0)), (1, .int (nI (sp_ttc S (v + 1)))), (3, .int (nI (k)))]) hx hb dX4_takeRound_47 hl (k := 2) rfl (z_inc _) (by decide) rfl (fun ls hl => ?_)
              refine lv_goto (tgt := 4) hx hb dX4_takeRound_50 (by decide) ?_
              exact ih4 (v + 1) (by omega) (by omega) _ _ (by rw [show sp_tt S (v + 1) = (sp_tw (sp_tt S v) v k) from by rw [show k = 4 from by omega]; rfl]; exact hR) ls (lv_sub hl [1, 2, 0] rfl)
            · skip
              refine lv_aload_n hx hb dX4_takeRound_19 rfl (lv_at hl 0 rfl) ?_
              refine z_get (own := RX4) (C := RX4) (T := TX4) (N := 14) (k := 2) (v := .ref (ad 9)) hx hb hts hinX4 hown hF hR (wX_c0 (sp_tw (sp_tt S v) v k)) rfl (by decide) (by decide +kernel) rfl rfl dX4_takeRound_20 ?_
              refine lv_iload_n hx hb dX4_takeRound_23 rfl (lv_at hl 3 rfl) ?_
              refine lv_iload_n hx hb dX4_takeRound_24 rfl (lv_at hl 2 rfl) ?_
              refine z_callV_i (As := [.int (nI (k)), .int (nI (v))]) (rest := []) (w := wX cI cZ ad) ⟨hx, hb, hml, hown, hts⟩ hF hR (c_X0_canGive hG (sp_tw (sp_tt S v) v k) k v hOk (by omega) (by omega)) (cwV 2 hts gX4_takeRound_X0_canGive rfl rfl rfl (by decide +kernel) ⟨Nat.le_of_ble_eq_true rfl, Nat.le_of_ble_eq_true rfl⟩) (wX_c9 (sp_tw (sp_tt S v) v k)) rfl rfl rfl hl rfl (Nat.le_of_ble_eq_true rfl) (by decide) dX4_takeRound_25 (fun r4 S4 H locs hp4 hR => ?_)
              obtain ⟨hp4, hs4⟩ := hp4
              subst S4
              rcases hp4 with ⟨hb25, hr4⟩ | ⟨hb25, hr4⟩
              · subst r4
                refine z_if_eq_n (tgt := 41) hx hb dX4_takeRound_28 (by decide) (by omega) (fun h28_5 => by omega) (fun h28_5 => ?_)
                refine lv_aload_n hx hb dX4_takeRound_31 rfl (lv_at hl 0 rfl) ?_
                refine lv_iload_n hx hb dX4_takeRound_32 rfl (lv_at hl 3 rfl) ?_
                refine lv_iload_n hx hb dX4_takeRound_33 rfl (lv_at hl 2 rfl) ?_
                refine z_callV_i (As := [.int (nI (k)), .int (nI (v))]) (rest := []) (w := wX cI cZ ad) ⟨hx, hb, hml, hown, hts⟩ hF hR (c_X4_takeFrom hG (sp_tw (sp_tt S v) v k) k v hOk (by omega) (by omega) hb25.1) (cwV 2 hts gX4_takeRound_X4_takeFrom rfl rfl rfl (by decide +kernel) ⟨Nat.le_of_ble_eq_true rfl, Nat.le_of_ble_eq_true rfl⟩) (wX_c0 (sp_tw (sp_tt S v) v k)) rfl rfl rfl hl rfl (Nat.le_of_ble_eq_true rfl) (by decide) dX4_takeRound_34 (fun r6 S6 H locs hp6 hR => ?_)
                obtain ⟨hr6, hs6⟩ := hp6
                subst r6
                subst S6
                have hO6 := (zOK_tf (p := k) (w := v) hOk)
                refine lv_pop hx hb dX4_takeRound_37 rfl ?_
                refine lv_iinc (v := (nI (sp_ttc S v + sp_twc (sp_tt S v) v k + 1))) (lv' := [(1, .int (nI (sp_ttc S v + sp_twc (sp_tt S v) v k + 1))), (0, .ref (ad 0)), (2, .int (nI (v))), (3, .int (nI (k)))]) hx hb dX4_takeRound_38 hl (k := 1) rfl (z_inc _) (by decide) rfl (fun ls hl => ?_)
                have hl : lv_has ls 4 [(1, .int (nI (sp_ttc S v + sp_twc (sp_tt S v) v (k + 1)))), (0, .ref (ad 0)), (2, .int (nI (v))), (3, .int (nI (k)))] := (by rw [show sp_twc (sp_tt S v) v (k + 1) = if zcanT (sp_tw (sp_tt S v) v k) k v then sp_twc (sp_tt S v) v k + 1 else sp_twc (sp_tt S v) v k from rfl]; first | (rw [if_pos hb25]; exact hl) | (rw [if_neg hb25]; exact hl))
                refine lv_iinc (v := (nI (k + 1))) (lv' := [(3, .int (nI (k + 1))), (1, .int (nI (sp_ttc S v + sp_twc (sp_tt S v) v (k + 1)))), (0, .ref (ad 0)), (2, .int (nI (v)))]) hx hb dX4_takeRound_41 hl (k := 3) rfl (z_inc _) (by decide) rfl (fun ls hl => ?_)
                refine lv_goto (tgt := 14) hx hb dX4_takeRound_44 (by decide) ?_
                exact ih14 (k + 1) (by omega) (by omega) _ _ (by rw [show sp_tw (sp_tt S v) v (k + 1) = (sp_tf (sp_tw (sp_tt S v) v k) k v) from if_pos hb25]; exact hR) ls (lv_sub hl [2, 1, 3, 0] rfl)
              · subst r4
                refine z_if_eq_n (tgt := 41) hx hb dX4_takeRound_28 (by decide) (by omega) (fun h28_7 => ?_) (fun h28_7 => by omega)
                have hl : lv_has ls 4 [(0, .ref (ad 0)), (1, .int (nI (sp_ttc S v + sp_twc (sp_tt S v) v (k + 1)))), (2, .int (nI (v))), (3, .int (nI (k)))] := (by rw [show sp_twc (sp_tt S v) v (k + 1) = if zcanT (sp_tw (sp_tt S v) v k) k v then sp_twc (sp_tt S v) v k + 1 else sp_twc (sp_tt S v) v k from rfl]; first | (rw [if_pos hb25]; exact hl) | (rw [if_neg hb25]; exact hl))
                refine lv_iinc (v := (nI (k + 1))) (lv' := [(3, .int (nI (k + 1))), (0, .ref (ad 0)), (1, .int (nI (sp_ttc S v + sp_twc (sp_tt S v) v (k + 1)))), (2, .int (nI (v)))]) hx hb dX4_takeRound_41 hl (k := 3) rfl (z_inc _) (by decide) rfl (fun ls hl => ?_)
                refine lv_goto (tgt := 14) hx hb dX4_takeRound_44 (by decide) ?_
                exact ih14 (k + 1) (by omega) (by omega) _ _ (by rw [show sp_tw (sp_tt S v) v (k + 1) = (sp_tw (sp_tt S v) v k) from if_neg hb25]; exact hR) ls (lv_sub hl [1, 2, 3, 0] rfl)
        exact loop14 _ 0 (by omega) (Nat.lt_succ_self _) _ _ (by rw [show sp_tw (sp_tt S v) v 0 = (sp_tt S v) from rfl]; exact hR) ls (lv_sub hl [1, 2, 3, 0] rfl)
  exact loop4 _ 0 (by omega) (Nat.lt_succ_self _) _ _ (by rw [show sp_tt S 0 = S from rfl]; exact hR) ls (lv_sub hl [2, 1, 0] rfl)
set_option maxHeartbeats 4000000 in
set_option maxRecDepth 100000 in
theorem c_X4_startAgain {l : Launch} {D : va_G} {cI cZ : ClassId} {ad : Nat → Nat} {B : Nat → Prop} (hG : ∀ S : zS, va_D B (wX cI cZ ad S)) (S : zS) (v : Nat) (hO : zOK S) (hv : 1 ≤ v) (hv4 : v ≤ 4) : zMv l yX4_startAgain wsX4_startAgain ({ frames := 4, cells := 0, slots := 0, locals := 88 } : Room) [.ref (ad 0), .int (nI (v))] D (zT cI cZ) B (wX cI cZ ad) S (fun (S1 : zS) => S1 = sp_sa S v) := by
  refine zMv_of (cc := cX4_startAgain) (maxL := 3) (ret := none) (by decide) rfl (Nat.le_of_ble_eq_true rfl) ?_
  intro pg en s mm below meth cd hx hb hr hml hown hts hlk hF hR ls hl
  have hinX4 : ∀ w ∈ wsX40, w ∈ wsX4_startAgain := by decide +kernel
  have hl : lv_has ls 3 [(0, .ref (ad 0)), (1, .int (nI (v)))] := hl
  have hW1 := (zOK.w hO).2.1
  have hW4 := (zOK.w hO).2.2
  refine lv_iconst (v := (nI (0))) hx hb dX4_startAgain_0 (by decide) ?_
  refine lv_istore_n (lv' := [(2, .int (nI (0))), (0, .ref (ad 0)), (1, .int (nI (v)))]) hx hb dX4_startAgain_1 rfl hl (by decide) rfl (fun ls hl => ?_)
  have loop2 : ∀ (nf2 : Nat) (k : Nat), (k ≤ zn S 22 0) → zn S 22 0 - k < nf2 → ∀ (H : Heap) (locs : List Loc), zR D B (wX cI cZ ad (sp_sa1 S k)) s H locs → ∀ ls : Array Slot, lv_has ls 3 [(0, .ref (ad 0)), (1, .int (nI (v))), (2, .int (nI (k)))] → W pg l en ({ frames := 4, cells := 0, slots := 0, locals := 88 } : Room) s mm ([.ref (ad 0), .int (nI (v))] : List Value).toArray below meth cd H locs 0 0 (MQ below (va_Qv (fun (S1 : zS) => S1 = sp_sa S v) (zB D (zT cI cZ) (wX cI cZ ad)) (zA B s.heap.size)) ([.ref (ad 0), .int (nI (v))] : List Value).toArray s 0 0 (zA B s.heap.size)) (F0 mm 2 ls []) := by
    intro nf2
    induction nf2 with
    | zero => intro k hk4 hn; exact absurd hn (Nat.not_lt_zero _)
    | succ nf2 ih2 =>
      intro k hk4 hn H locs hR ls hl
      have hOk := zOK_sa1 hO k
      refine lv_iload_n hx hb dX4_startAgain_2 rfl (lv_at hl 2 rfl) ?_
      refine lv_aload_n hx hb dX4_startAgain_3 rfl (lv_at hl 0 rfl) ?_
      refine z_get (own := RX4) (C := RX4) (T := TX4) (N := 14) (k := 10) (v := .int ((sp_sa1 S k) 22 0)) hx hb hts hinX4 hown hF hR (wX_c0 (sp_sa1 S k)) rfl (by decide) (by decide +kernel) rfl rfl dX4_startAgain_4 ?_
      refine lv_topi (fun v1 ev1 => ?_)
      obtain rfl : v1 = (nI (zn S 22 0)) := ev1.trans ((zOK.w hOk).1.trans (congrArg nI (zn_sa1 S k)))
      refine z_ge_n (tgt := 37) hx hb dX4_startAgain_7 (by decide) (by omega) (by omega) (fun h7_2 => ?_) (fun h7_2 => ?_)
      · skip
        have hR : zR D B (wX cI cZ ad (sp_sa1 S (zn S 22 0))) s H locs := by rw [show (sp_sa1 S (zn S 22 0)) = (sp_sa1 S k) from by rw [show k = zn S 22 0 from by omega]]; exact hR
        refine lv_aload_n hx hb dX4_startAgain_37 rfl (lv_at hl 0 rfl) ?_
        refine lv_iconst (v := ((-1))) hx hb dX4_startAgain_38 (by decide) ?_
        refine z_put (own := RX4) (C := RX4) (T := TX4) (N := 14) (k := 12) (ty := .int) hx hb hts hinX4 tyX4 tyX4_ok nmX4 hown hF (hG (sp_sa1 S (zn S 22 0))) hR (wX_c0 (sp_sa1 S (zn S 22 0))) rfl (by decide) (by decide +kernel) rfl rfl (by decide +kernel) rfl rfl (Nat.le_of_ble_eq_true rfl) (wX_p2 (sp_sa1 S (zn S 22 0)) ((-1))) dX4_startAgain_39 (fun H locs hR => ?_)
        have hR : zR D B (wX cI cZ ad (sp_sa2 (sp_sa1 S (zn S 22 0)))) s H locs := by rw [show (sp_sa2 (sp_sa1 S (zn S 22 0))) = (zU (sp_sa1 S (zn S 22 0)) 22 (upd ((sp_sa1 S (zn S 22 0)) 22) 2 ((-1)))) from rfl]; exact hR
        refine lv_aload_n hx hb dX4_startAgain_42 rfl (lv_at hl 0 rfl) ?_
        refine z_get (own := RX4) (C := RX4) (T := TX4) (N := 14) (k := 4) (v := .ref (ad 16)) hx hb hts hinX4 hown hF hR (wX_c0 (sp_sa2 (sp_sa1 S (zn S 22 0)))) rfl (by decide) (by decide +kernel) rfl rfl dX4_startAgain_43 ?_
        refine z_callV_v (As := []) (rest := []) (w := wX cI cZ ad) ⟨hx, hb, hml, hown, hts⟩ hF hR (c_X3_clearAll_t1 hG (sp_sa2 (sp_sa1 S (zn S 22 0))) ) (cwV 0 hts gX4_startAgain_X3_clearAll rfl rfl rfl (by decide +kernel) ⟨Nat.le_of_ble_eq_true rfl, Nat.le_of_ble_eq_true rfl⟩) (wX_c16 (sp_sa2 (sp_sa1 S (zn S 22 0)))) rfl rfl rfl hl rfl (Nat.le_of_ble_eq_true rfl) (by decide) dX4_startAgain_46 (fun S3 H locs hp3 hR => ?_)
        subst S3
        refine lv_aload_n hx hb dX4_startAgain_49 rfl (lv_at hl 0 rfl) ?_
        refine z_get (own := RX4) (C := RX4) (T := TX4) (N := 14) (k := 5) (v := .ref (ad 19)) hx hb hts hinX4 hown hF hR (wX_c0 (sp_tz (sp_sa2 (sp_sa1 S (zn S 22 0))) 11 32)) rfl (by decide) (by decide +kernel) rfl rfl dX4_startAgain_50 ?_
        refine z_callV_v (As := []) (rest := []) (w := wX cI cZ ad) ⟨hx, hb, hml, hown, hts⟩ hF hR (c_X3_clearAll_t2 hG (sp_tz (sp_sa2 (sp_sa1 S (zn S 22 0))) 11 32) ) (cwV 0 hts gX4_startAgain_X3_clearAll rfl rfl rfl (by decide +kernel) ⟨Nat.le_of_ble_eq_true rfl, Nat.le_of_ble_eq_true rfl⟩) (wX_c19 (sp_tz (sp_sa2 (sp_sa1 S (zn S 22 0))) 11 32)) rfl rfl rfl hl rfl (Nat.le_of_ble_eq_true rfl) (by decide) dX4_startAgain_53 (fun S4 H locs hp4 hR => ?_)
        subst S4
        refine lv_aload_n hx hb dX4_startAgain_56 rfl (lv_at hl 0 rfl) ?_
        refine z_get (own := RX4) (C := RX4) (T := TX4) (N := 14) (k := 2) (v := .ref (ad 9)) hx hb hts hinX4 hown hF hR (wX_c0 (sp_tz (sp_tz (sp_sa2 (sp_sa1 S (zn S 22 0))) 11 32) 13 32)) rfl (by decide) (by decide +kernel) rfl rfl dX4_startAgain_57 ?_
        refine z_callV_v (As := []) (rest := []) (w := wX cI cZ ad) ⟨hx, hb, hml, hown, hts⟩ hF hR (c_X0_clearAll hG (sp_tz (sp_tz (sp_sa2 (sp_sa1 S (zn S 22 0))) 11 32) 13 32) ) (cwV 0 hts gX4_startAgain_X0_clearAll rfl rfl rfl (by decide +kernel) ⟨Nat.le_of_ble_eq_true rfl, Nat.le_of_ble_eq_true rfl⟩) (wX_c9 (sp_tz (sp_tz (sp_sa2 (sp_sa1 S (zn S 22 0))) 11 32) 13 32)) rfl rfl rfl hl rfl (Nat.le_of_ble_eq_true rfl) (by decide) dX4_startAgain_60 (fun S5 H locs hp5 hR => ?_)
        subst S5
        have hR : zR D B (wX cI cZ ad (sp_sa3 (sp_tz (sp_tz (sp_sa2 (sp_sa1 S (zn S 22 0))) 11 32) 13 32))) s H locs := by rw [show (sp_sa3 (sp_tz (sp_tz (sp_sa2 (sp_sa1 S (zn S 22 0))) 11 32) 13 32)) = (zU (zU (sp_tz (sp_tz (sp_sa2 (sp_sa1 S (zn S 22 0))) 11 32) 13 32) 7 (sp_z ((sp_tz (sp_tz (sp_sa2 (sp_sa1 S (zn S 22 0))) 11 32) 13 32) 7) 16)) 8 (sp_z ((sp_tz (sp_tz (sp_sa2 (sp_sa1 S (zn S 22 0))) 11 32) 13 32) 8) 16)) from rfl]; exact hR
        refine lv_aload_n hx hb dX4_startAgain_63 rfl (lv_at hl 0 rfl) ?_
        refine z_get (own := RX4) (C := RX4) (T := TX4) (N := 14) (k := 1) (v := .ref (ad 4)) hx hb hts hinX4 hown hF hR (wX_c0 (sp_sa3 (sp_tz (sp_tz (sp_sa2 (sp_sa1 S (zn S 22 0))) 11 32) 13 32))) rfl (by decide) (by decide +kernel) rfl rfl dX4_startAgain_64 ?_
        refine z_callV_v (As := []) (rest := []) (w := wX cI cZ ad) ⟨hx, hb, hml, hown, hts⟩ hF hR (c_X2_returnToKept hG (sp_sa3 (sp_tz (sp_tz (sp_sa2 (sp_sa1 S (zn S 22 0))) 11 32) 13 32)) ) (cwV 0 hts gX4_startAgain_X2_returnToKept rfl rfl rfl (by decide +kernel) ⟨Nat.le_of_ble_eq_true rfl, Nat.le_of_ble_eq_true rfl⟩) (wX_c4 (sp_sa3 (sp_tz (sp_tz (sp_sa2 (sp_sa1 S (zn S 22 0))) 11 32) 13 32))) rfl rfl rfl hl rfl (Nat.le_of_ble_eq_true rfl) (by decide) dX4_startAgain_67 (fun S6 H locs hp6 hR => ?_)
        subst S6
        have hR : zR D B (wX cI cZ ad (sp_sa4 (sp_sa3 (sp_tz (sp_tz (sp_sa2 (sp_sa1 S (zn S 22 0))) 11 32) 13 32)))) s H locs := by rw [show (sp_sa4 (sp_sa3 (sp_tz (sp_tz (sp_sa2 (sp_sa1 S (zn S 22 0))) 11 32) 13 32))) = (zU (sp_sa3 (sp_tz (sp_tz (sp_sa2 (sp_sa1 S (zn S 22 0))) 11 32) 13 32)) 2 (sp_cp ((sp_sa3 (sp_tz (sp_tz (sp_sa2 (sp_sa1 S (zn S 22 0))) 11 32) 13 32)) 2) ((sp_sa3 (sp_tz (sp_tz (sp_sa2 (sp_sa1 S (zn S 22 0))) 11 32) 13 32)) 3) 4)) from rfl]; exact hR
        refine lv_aload_n hx hb dX4_startAgain_70 rfl (lv_at hl 0 rfl) ?_
        refine z_get (own := RX4) (C := RX4) (T := TX4) (N := 14) (k := 3) (v := .ref (ad 13)) hx hb hts hinX4 hown hF hR (wX_c0 (sp_sa4 (sp_sa3 (sp_tz (sp_tz (sp_sa2 (sp_sa1 S (zn S 22 0))) 11 32) 13 32)))) rfl (by decide) (by decide +kernel) rfl rfl dX4_startAgain_71 ?_
        refine lv_aload_n hx hb dX4_startAgain_74 rfl (lv_at hl 0 rfl) ?_
        refine z_get (own := RX4) (C := RX4) (T := TX4) (N := 14) (k := 7) (v := .ref (ad 25)) hx hb hts hinX4 hown hF hR (wX_c0 (sp_sa4 (sp_sa3 (sp_tz (sp_tz (sp_sa2 (sp_sa1 S (zn S 22 0))) 11 32) 13 32)))) rfl (by decide) (by decide +kernel) rfl rfl dX4_startAgain_75 ?_
        refine z_callV_v (As := [.ref (ad 25)]) (rest := []) (w := wX cI cZ ad) ⟨hx, hb, hml, hown, hts⟩ hF hR (c_X3_copyAll_t0t4 hG (sp_sa4 (sp_sa3 (sp_tz (sp_tz (sp_sa2 (sp_sa1 S (zn S 22 0))) 11 32) 13 32))) ) (cwV 1 hts gX4_startAgain_X3_copyAll rfl rfl rfl (by decide +kernel) ⟨Nat.le_of_ble_eq_true rfl, Nat.le_of_ble_eq_true rfl⟩) (wX_c13 (sp_sa4 (sp_sa3 (sp_tz (sp_tz (sp_sa2 (sp_sa1 S (zn S 22 0))) 11 32) 13 32)))) rfl rfl rfl hl rfl (Nat.le_of_ble_eq_true rfl) (by decide) dX4_startAgain_78 (fun S7 H locs hp7 hR => ?_)
        subst S7
        have hR : zR D B (wX cI cZ ad (sp_sa5 S)) s H locs := by rw [show (sp_sa5 S) = (sp_tca (sp_sa4 (sp_sa3 (sp_tz (sp_tz (sp_sa2 (sp_sa1 S (zn S 22 0))) 11 32) 13 32))) 9 17) from rfl]; exact hR
        refine lv_aload_n hx hb dX4_startAgain_81 rfl (lv_at hl 0 rfl) ?_
        refine lv_iload_n hx hb dX4_startAgain_82 rfl (lv_at hl 1 rfl) ?_
        refine z_put (own := RX4) (C := RX4) (T := TX4) (N := 14) (k := 10) (ty := .int) hx hb hts hinX4 tyX4 tyX4_ok nmX4 hown hF (hG (sp_sa5 S)) hR (wX_c0 (sp_sa5 S)) rfl (by decide) (by decide +kernel) rfl rfl (by decide +kernel) rfl rfl (Nat.le_of_ble_eq_true rfl) (wX_p0 (sp_sa5 S) (nI (v))) dX4_startAgain_83 (fun H locs hR => ?_)
        exact z_vret (w := wX cI cZ ad) (S1 := (zU (sp_sa5 S) 22 (upd ((sp_sa5 S) 22) 0 (nI (v))))) hx hb hr hlk hF hR dX4_startAgain_86 (rfl)
      · skip
        refine lv_aload_n hx hb dX4_startAgain_10 rfl (lv_at hl 0 rfl) ?_
        refine lv_iload_n hx hb dX4_startAgain_11 rfl (lv_at hl 2 rfl) ?_
        refine z_callV_i (As := [.int (nI (k))]) (rest := []) (w := wX cI cZ ad) ⟨hx, hb, hml, hown, hts⟩ hF hR (c_X4_isReadyToCommit hG (sp_sa1 S k) k (by omega)) (cwV 1 hts gX4_startAgain_X4_isReadyToCommit rfl rfl rfl (by decide +kernel) ⟨Nat.le_of_ble_eq_true rfl, Nat.le_of_ble_eq_true rfl⟩) (wX_c0 (sp_sa1 S k)) rfl rfl rfl hl rfl (Nat.le_of_ble_eq_true rfl) (by decide) dX4_startAgain_12 (fun r8 S8 H locs hp8 hR => ?_)
        obtain ⟨hp8, hs8⟩ := hp8
        subst S8
        rcases hp8 with ⟨hb12, hr8⟩ | ⟨hb12, hr8⟩
        · subst r8
          refine z_if_eq_n (tgt := 24) hx hb dX4_startAgain_15 (by decide) (by omega) (fun h15_9 => by omega) (fun h15_9 => ?_)
          refine lv_aload_n hx hb dX4_startAgain_18 rfl (lv_at hl 0 rfl) ?_
          refine lv_iload_n hx hb dX4_startAgain_19 rfl (lv_at hl 2 rfl) ?_
          refine z_callV_i (As := [.int (nI (k))]) (rest := []) (w := wX cI cZ ad) ⟨hx, hb, hml, hown, hts⟩ hF hR (c_X4_commitSealed hG (sp_sa1 S k) k hOk (by omega)) (cwV 1 hts gX4_startAgain_X4_commitSealed rfl rfl rfl (by decide +kernel) ⟨Nat.le_of_ble_eq_true rfl, Nat.le_of_ble_eq_true rfl⟩) (wX_c0 (sp_sa1 S k)) rfl rfl rfl hl rfl (Nat.le_of_ble_eq_true rfl) (by decide) dX4_startAgain_20 (fun r10 S10 H locs hp10 hR => ?_)
          obtain ⟨hr10, hs10⟩ := hp10
          subst r10
          subst S10
          have hOk2 := zOK_com (w := k) hOk
          refine lv_pop hx hb dX4_startAgain_23 rfl ?_
          have hR : zR D B (wX cI cZ ad (if zrdy (sp_sa1 S k) k then sp_com (sp_sa1 S k) k else sp_sa1 S k)) s H locs := by rw [show (if zrdy (sp_sa1 S k) k then sp_com (sp_sa1 S k) k else sp_sa1 S k) = (sp_com (sp_sa1 S k) k) from if_pos hb12]; exact hR
          refine lv_aload_n hx hb dX4_startAgain_24 rfl (lv_at hl 0 rfl) ?_
          refine z_get (own := RX4) (C := RX4) (T := TX4) (N := 14) (k := 9) (v := .ref (ad 31)) hx hb hts hinX4 hown hF hR (wX_c0 (if zrdy (sp_sa1 S k) k then sp_com (sp_sa1 S k) k else sp_sa1 S k)) rfl (by decide) (by decide +kernel) rfl rfl dX4_startAgain_25 ?_
          refine lv_iload_n hx hb dX4_startAgain_28 rfl (lv_at hl 2 rfl) ?_
          refine lv_iconst (v := ((-1))) hx hb dX4_startAgain_29 (by decide) ?_
          refine z_iast_n (f := (if zrdy (sp_sa1 S k) k then sp_com (sp_sa1 S k) k else sp_sa1 S k) 21) hx hb hF (hG (if zrdy (sp_sa1 S k) k then sp_com (sp_sa1 S k) k else sp_sa1 S k)) hR (wX_c31 (if zrdy (sp_sa1 S k) k then sp_com (sp_sa1 S k) k else sp_sa1 S k)) zT_0 (wX_s21 (if zrdy (sp_sa1 S k) k then sp_com (sp_sa1 S k) k else sp_sa1 S k) (upd ((if zrdy (sp_sa1 S k) k then sp_com (sp_sa1 S k) k else sp_sa1 S k) 21) (k) ((-1)))) dX4_startAgain_30 (by decide) (by omega) (fun H locs hR => ?_)
          refine lv_iinc (v := (nI (k + 1))) (lv' := [(2, .int (nI (k + 1))), (0, .ref (ad 0)), (1, .int (nI (v)))]) hx hb dX4_startAgain_31 hl (k := 2) rfl (z_inc _) (by decide) rfl (fun ls hl => ?_)
          refine lv_goto (tgt := 2) hx hb dX4_startAgain_34 (by decide) ?_
          exact ih2 (k + 1) (by omega) (by omega) _ _ (by rw [show sp_sa1 S (k + 1) = (zU (if zrdy (sp_sa1 S k) k then sp_com (sp_sa1 S k) k else sp_sa1 S k) 21 (upd ((if zrdy (sp_sa1 S k) k then sp_com (sp_sa1 S k) k else sp_sa1 S k) 21) (k) ((-1)))) from rfl]; exact hR) ls (lv_sub hl [1, 2, 0] rfl)
        · subst r8
          refine z_if_eq_n (tgt := 24) hx hb dX4_startAgain_15 (by decide) (by omega) (fun h15_11 => ?_) (fun h15_11 => by omega)
          have hR : zR D B (wX cI cZ ad (if zrdy (sp_sa1 S k) k then sp_com (sp_sa1 S k) k else sp_sa1 S k)) s H locs := by rw [show (if zrdy (sp_sa1 S k) k then sp_com (sp_sa1 S k) k else sp_sa1 S k) = (sp_sa1 S k) from if_neg hb12]; exact hR
          refine lv_aload_n hx hb dX4_startAgain_24 rfl (lv_at hl 0 rfl) ?_
          refine z_get (own := RX4) (C := RX4) (T := TX4) (N := 14) (k := 9) (v := .ref (ad 31)) hx hb hts hinX4 hown hF hR (wX_c0 (if zrdy (sp_sa1 S k) k then sp_com (sp_sa1 S k) k else sp_sa1 S k)) rfl (by decide) (by decide +kernel) rfl rfl dX4_startAgain_25 ?_
          refine lv_iload_n hx hb dX4_startAgain_28 rfl (lv_at hl 2 rfl) ?_
          refine lv_iconst (v := ((-1))) hx hb dX4_startAgain_29 (by decide) ?_
          refine z_iast_n (f := (if zrdy (sp_sa1 S k) k then sp_com (sp_sa1 S k) k else sp_sa1 S k) 21) hx hb hF (hG (if zrdy (sp_sa1 S k) k then sp_com (sp_sa1 S k) k else sp_sa1 S k)) hR (wX_c31 (if zrdy (sp_sa1 S k) k then sp_com (sp_sa1 S k) k else sp_sa1 S k)) zT_0 (wX_s21 (if zrdy (sp_sa1 S k) k then sp_com (sp_sa1 S k) k else sp_sa1 S k) (upd ((if zrdy (sp_sa1 S k) k then sp_com (sp_sa1 S k) k else sp_sa1 S k) 21) (k) ((-1)))) dX4_startAgain_30 (by decide) (by omega) (fun H locs hR => ?_)
          refine lv_iinc (v := (nI (k + 1))) (lv' := [(2, .int (nI (k + 1))), (0, .ref (ad 0)), (1, .int (nI (v)))]) hx hb dX4_startAgain_31 hl (k := 2) rfl (z_inc _) (by decide) rfl (fun ls hl => ?_)
          refine lv_goto (tgt := 2) hx hb dX4_startAgain_34 (by decide) ?_
          exact ih2 (k + 1) (by omega) (by omega) _ _ (by rw [show sp_sa1 S (k + 1) = (zU (if zrdy (sp_sa1 S k) k then sp_com (sp_sa1 S k) k else sp_sa1 S k) 21 (upd ((if zrdy (sp_sa1 S k) k then sp_com (sp_sa1 S k) k else sp_sa1 S k) 21) (k) ((-1)))) from rfl]; exact hR) ls (lv_sub hl [1, 2, 0] rfl)
  exact loop2 _ 0 (by omega) (Nat.lt_succ_self _) _ _ (by rw [show sp_sa1 S 0 = S from rfl]; exact hR) ls (lv_sub hl [1, 2, 0] rfl)
