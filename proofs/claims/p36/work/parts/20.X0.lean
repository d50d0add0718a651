set_option maxHeartbeats 4000000 in
set_option maxRecDepth 100000 in
theorem c_X4_keyOf {l : Launch} {D : va_G} {cI cZ : ClassId} {ad : Nat → Nat} {B : Nat → Prop} (hG : ∀ S : zS, va_D B (wX cI cZ ad S)) (S : zS) (e : Nat) (he : e ≤ 31100) : zMi l yX4_keyOf wsX4_keyOf ({ frames := 0, cells := 0, slots := 0, locals := 0 } : Room) [.int (nI (e))] D (zT cI cZ) B (wX cI cZ ad) S (fun (r : Int32) (S1 : zS) => r = (nI (e / 1000)) ∧ S1 = S) := by
  refine zMi_of (cc := cX4_keyOf) (maxL := 1) (ret := (some .int)) (by decide) rfl (Nat.le_of_ble_eq_true rfl) ?_
  intro pg en s mm below meth cd hx hb hr hml hown hts hlk hF hR ls hl
  have hl : lv_has ls 1 [(0, .int (nI (e)))] := hl
  refine lv_iload_n hx hb dX4_keyOf_0 rfl (lv_at hl 0 rfl) ?_
  refine lv_sipush (v := (nI (1000))) hx hb dX4_keyOf_1 (by decide) ?_
  refine z_idiv_n hx hb dX4_keyOf_4 (by omega) (by omega) (by omega) ?_
  exact z_iret (w := wX cI cZ ad) (S1 := S) hx hb hr hlk hF hR dX4_keyOf_5 (⟨rfl, rfl⟩)
set_option maxHeartbeats 4000000 in
set_option maxRecDepth 100000 in
theorem c_X4_valueOf {l : Launch} {D : va_G} {cI cZ : ClassId} {ad : Nat → Nat} {B : Nat → Prop} (hG : ∀ S : zS, va_D B (wX cI cZ ad S)) (S : zS) (e : Nat) (he : e ≤ 31100) : zMi l yX4_valueOf wsX4_valueOf ({ frames := 0, cells := 0, slots := 0, locals := 0 } : Room) [.int (nI (e))] D (zT cI cZ) B (wX cI cZ ad) S (fun (r : Int32) (S1 : zS) => r = (nI (e % 1000)) ∧ S1 = S) := by
  refine zMi_of (cc := cX4_valueOf) (maxL := 1) (ret := (some .int)) (by decide) rfl (Nat.le_of_ble_eq_true rfl) ?_
  intro pg en s mm below meth cd hx hb hr hml hown hts hlk hF hR ls hl
  have hl : lv_has ls 1 [(0, .int (nI (e)))] := hl
  refine lv_iload_n hx hb dX4_valueOf_0 rfl (lv_at hl 0 rfl) ?_
  refine lv_sipush (v := (nI (1000))) hx hb dX4_valueOf_1 (by decide) ?_
  refine z_irem_n hx hb dX4_valueOf_4 (by omega) (by omega) (by omega) ?_
  exact z_iret (w := wX cI cZ ad) (S1 := S) hx hb hr hlk hF hR dX4_valueOf_5 (⟨rfl, rfl⟩)
set_option maxHeartbeats 4000000 in
set_option maxRecDepth 100000 in
theorem c_X0_channelOf {l : Launch} {D : va_G} {cI cZ : ClassId} {ad : Nat → Nat} {B : Nat → Prop} (hG : ∀ S : zS, va_D B (wX cI cZ ad S)) (S : zS) (p w : Nat) : zMi l yX0_channelOf wsX0_channelOf ({ frames := 0, cells := 0, slots := 0, locals := 0 } : Room) [.int (nI (p)), .int (nI (w))] D (zT cI cZ) B (wX cI cZ ad) S (fun (r : Int32) (S1 : zS) => r = (nI (4 * p + w)) ∧ S1 = S) := by
  refine zMi_of (cc := cX0_channelOf) (maxL := 2) (ret := (some .int)) (by decide) rfl (Nat.le_of_ble_eq_true rfl) ?_
  intro pg en s mm below meth cd hx hb hr hml hown hts hlk hF hR ls hl
  have hl : lv_has ls 2 [(0, .int (nI (p))), (1, .int (nI (w)))] := hl
  refine lv_iload_n hx hb dX0_channelOf_0 rfl (lv_at hl 0 rfl) ?_
  refine lv_iconst (v := (nI (4))) hx hb dX0_channelOf_1 (by decide) ?_
  refine z_imul_n hx hb dX0_channelOf_2 ?_
  refine lv_iload_n hx hb dX0_channelOf_3 rfl (lv_at hl 1 rfl) ?_
  refine z_iadd_n hx hb dX0_channelOf_4 ?_
  refine lv_topi (fun v1 ev1 => ?_)
  obtain rfl : v1 = nI (4 * p + w) := ev1.trans (congrArg nI (by omega))
  exact z_iret (w := wX cI cZ ad) (S1 := S) hx hb hr hlk hF hR dX0_channelOf_5 (⟨rfl, rfl⟩)
set_option maxHeartbeats 4000000 in
set_option maxRecDepth 100000 in
theorem c_X0_size {l : Launch} {D : va_G} {cI cZ : ClassId} {ad : Nat → Nat} {B : Nat → Prop} (hG : ∀ S : zS, va_D B (wX cI cZ ad S)) (S : zS) (p w : Nat) (hO : zOK S) (hp : p < 4) (hw : w < 4) : zMi l yX0_size wsX0_size ({ frames := 1, cells := 0, slots := 0, locals := 21 } : Room) [.ref (ad 9), .int (nI (p)), .int (nI (w))] D (zT cI cZ) B (wX cI cZ ad) S (fun (r : Int32) (S1 : zS) => r = (nI (zn S 7 (4 * p + w))) ∧ S1 = S) := by
  refine zMi_of (cc := cX0_size) (maxL := 3) (ret := (some .int)) (by decide) rfl (Nat.le_of_ble_eq_true rfl) ?_
  intro pg en s mm below meth cd hx hb hr hml hown hts hlk hF hR ls hl
  have hinX0 : ∀ w ∈ wsX00, w ∈ wsX0_size := by decide +kernel
  have hl : lv_has ls 3 [(0, .ref (ad 9)), (1, .int (nI (p))), (2, .int (nI (w)))] := hl
  refine lv_aload_n hx hb dX0_size_0 rfl (lv_at hl 0 rfl) ?_
  refine z_get (own := RX0) (C := RX0) (T := TX0) (N := 3) (k := 1) (v := .ref (ad 11)) hx hb hts hinX0 hown hF hR (wX_c9 S) rfl (by decide) (by decide +kernel) rfl rfl dX0_size_1 ?_
  refine lv_iload_n hx hb dX0_size_4 rfl (lv_at hl 1 rfl) ?_
  refine lv_iload_n hx hb dX0_size_5 rfl (lv_at hl 2 rfl) ?_
  refine z_callS_i (As := [.int (nI (p)), .int (nI (w))]) (rest := [.ref (ad 11)]) (w := wX cI cZ ad) ⟨hx, hb, hml, hown, hts⟩ hF hR (c_X0_channelOf hG S p w) (va_cwS 2 hts gX0_size_X0_channelOf rfl rfl rfl (by decide +kernel) ⟨Nat.le_of_ble_eq_true rfl, Nat.le_of_ble_eq_true rfl⟩) rfl hl rfl (Nat.le_of_ble_eq_true rfl) (by decide) dX0_size_6 (fun r1 S1 H locs hp1 hR => ?_)
  obtain ⟨hr1, hs1⟩ := hp1
  subst r1
  subst S1
  refine z_iald_n (f := S 7) hx hb hF hR (wX_c11 S) zT_0 dX0_size_9 (by decide) (by omega) ?_
  refine lv_topi (fun v3 ev3 => ?_)
  obtain rfl : v3 = (nI (zn S 7 (4 * p + w))) := ev3.trans (zOK.n7 hO _).1
  have hb9_2 := (zOK.n7 hO (4 * p + w)).2
  exact z_iret (w := wX cI cZ ad) (S1 := S) hx hb hr hlk hF hR dX0_size_10 (⟨rfl, rfl⟩)
set_option maxHeartbeats 4000000 in
set_option maxRecDepth 100000 in
theorem c_X0_get {l : Launch} {D : va_G} {cI cZ : ClassId} {ad : Nat → Nat} {B : Nat → Prop} (hG : ∀ S : zS, va_D B (wX cI cZ ad S)) (S : zS) (p w q : Nat) (hp : p < 4) (hw : w < 4) (hq : q < 8) : zMi l yX0_get wsX0_get ({ frames := 1, cells := 0, slots := 0, locals := 21 } : Room) [.ref (ad 9), .int (nI (p)), .int (nI (w)), .int (nI (q))] D (zT cI cZ) B (wX cI cZ ad) S (fun (r : Int32) (S1 : zS) => r = (S 6 (8 * (4 * p + w) + q)) ∧ S1 = S) := by
  refine zMi_of (cc := cX0_get) (maxL := 4) (ret := (some .int)) (by decide) rfl (Nat.le_of_ble_eq_true rfl) ?_
  intro pg en s mm below meth cd hx hb hr hml hown hts hlk hF hR ls hl
  have hinX0 : ∀ w ∈ wsX00, w ∈ wsX0_get := by decide +kernel
  have hl : lv_has ls 4 [(0, .ref (ad 9)), (1, .int (nI (p))), (2, .int (nI (w))), (3, .int (nI (q)))] := hl
  refine lv_aload_n hx hb dX0_get_0 rfl (lv_at hl 0 rfl) ?_
  refine z_get (own := RX0) (C := RX0) (T := TX0) (N := 3) (k := 0) (v := .ref (ad 10)) hx hb hts hinX0 hown hF hR (wX_c9 S) rfl (by decide) (by decide +kernel) rfl rfl dX0_get_1 ?_
  refine lv_iload_n hx hb dX0_get_4 rfl (lv_at hl 1 rfl) ?_
  refine lv_iload_n hx hb dX0_get_5 rfl (lv_at hl 2 rfl) ?_
  refine z_callS_i (As := [.int (nI (p)), .int (nI (w))]) (rest := [.ref (ad 10)]) (w := wX cI cZ ad) ⟨hx, hb, hml, hown, hts⟩ hF hR (c_X0_channelOf hG S p w) (va_cwS 2 hts gX0_get_X0_channelOf rfl rfl rfl (by decide +kernel) ⟨Nat.le_of_ble_eq_true rfl, Nat.le_of_ble_eq_true rfl⟩) rfl hl rfl (Nat.le_of_ble_eq_true rfl) (by decide) dX0_get_6 (fun r1 S1 H locs hp1 hR => ?_)
  obtain ⟨hr1, hs1⟩ := hp1
  subst r1
  subst S1
  refine lv_bipush (v := (nI (8))) hx hb dX0_get_9 (by decide) ?_
  refine z_imul_n hx hb dX0_get_11 ?_
  refine lv_iload_n hx hb dX0_get_12 rfl (lv_at hl 3 rfl) ?_
  refine z_iadd_n hx hb dX0_get_13 ?_
  refine lv_topi (fun v2 ev2 => ?_)
  obtain rfl : v2 = nI (8 * (4 * p + w) + q) := ev2.trans (congrArg nI (by omega))
  refine z_iald_n (f := S 6) hx hb hF hR (wX_c10 S) zT_0 dX0_get_14 (by decide) (by omega) ?_
  exact z_iret (w := wX cI cZ ad) (S1 := S) hx hb hr hlk hF hR dX0_get_15 (⟨rfl, rfl⟩)
set_option maxHeartbeats 4000000 in
set_option maxRecDepth 100000 in
theorem c_X0_hasRoom {l : Launch} {D : va_G} {cI cZ : ClassId} {ad : Nat → Nat} {B : Nat → Prop} (hG : ∀ S : zS, va_D B (wX cI cZ ad S)) (S : zS) (p w : Nat) (hO : zOK S) (hp : p < 4) (hw : w < 4) : zMi l yX0_hasRoom wsX0_hasRoom ({ frames := 2, cells := 0, slots := 0, locals := 43 } : Room) [.ref (ad 9), .int (nI (p)), .int (nI (w))] D (zT cI cZ) B (wX cI cZ ad) S (fun (r : Int32) (S1 : zS) => (((zn S 7 (4 * p + w) < 8) ∧ r = nI 1) ∨ (¬ (zn S 7 (4 * p + w) < 8) ∧ r = nI 0)) ∧ S1 = S) := by
  refine zMi_of (cc := cX0_hasRoom) (maxL := 3) (ret := (some .boolean)) (by decide) rfl (Nat.le_of_ble_eq_true rfl) ?_
  intro pg en s mm below meth cd hx hb hr hml hown hts hlk hF hR ls hl
  have hl : lv_has ls 3 [(0, .ref (ad 9)), (1, .int (nI (p))), (2, .int (nI (w)))] := hl
  refine lv_aload_n hx hb dX0_hasRoom_0 rfl (lv_at hl 0 rfl) ?_
  refine lv_iload_n hx hb dX0_hasRoom_1 rfl (lv_at hl 1 rfl) ?_
  refine lv_iload_n hx hb dX0_hasRoom_2 rfl (lv_at hl 2 rfl) ?_
  refine z_callV_i (As := [.int (nI (p)), .int (nI (w))]) (rest := []) (w := wX cI cZ ad) ⟨hx, hb, hml, hown, hts⟩ hF hR (c_X0_size hG S p w hO (by omega) (by omega)) (cwV 2 hts gX0_hasRoom_X0_size rfl rfl rfl (by decide +kernel) ⟨Nat.le_of_ble_eq_true rfl, Nat.le_of_ble_eq_true rfl⟩) (wX_c9 S) rfl rfl rfl hl rfl (Nat.le_of_ble_eq_true rfl) (by decide) dX0_hasRoom_3 (fun r1 S1 H locs hp1 hR => ?_)
  obtain ⟨hr1, hs1⟩ := hp1
  subst r1
  subst S1
  have hb3 := (zOK.n7 hO (4 * p + w)).2
  refine lv_bipush (v := (nI (8))) hx hb dX0_hasRoom_6 (by decide) ?_
  refine z_ge_n (tgt := 15) hx hb dX0_hasRoom_8 (by decide) (by omega) (by omega) (fun h8_2 => ?_) (fun h8_2 => ?_)
  · skip
    refine lv_iconst (v := (nI (0))) hx hb dX0_hasRoom_15 (by decide) ?_
    exact z_zret (w := wX cI cZ ad) (S1 := S) hx hb hr hlk hF hR dX0_hasRoom_16 (by decide) (⟨Or.inr ⟨by omega, rfl⟩, rfl⟩)
  · skip
    refine lv_iconst (v := (nI (1))) hx hb dX0_hasRoom_11 (by decide) ?_
    refine lv_goto (tgt := 16) hx hb dX0_hasRoom_12 (by decide) ?_
    exact z_zret (w := wX cI cZ ad) (S1 := S) hx hb hr hlk hF hR dX0_hasRoom_16 (by decide) (⟨Or.inl ⟨by omega, rfl⟩, rfl⟩)
set_option maxHeartbeats 4000000 in
set_option maxRecDepth 100000 in
theorem c_X0_isShut {l : Launch} {D : va_G} {cI cZ : ClassId} {ad : Nat → Nat} {B : Nat → Prop} (hG : ∀ S : zS, va_D B (wX cI cZ ad S)) (S : zS) (p w : Nat) (hO : zOK S) (hp : p < 4) (hw : w < 4) : zMi l yX0_isShut wsX0_isShut ({ frames := 1, cells := 0, slots := 0, locals := 21 } : Room) [.ref (ad 9), .int (nI (p)), .int (nI (w))] D (zT cI cZ) B (wX cI cZ ad) S (fun (r : Int32) (S1 : zS) => (((S 8 (4 * p + w) = nI 1) ∧ r = nI 1) ∨ (¬ (S 8 (4 * p + w) = nI 1) ∧ r = nI 0)) ∧ S1 = S) := by
  refine zMi_of (cc := cX0_isShut) (maxL := 3) (ret := (some .boolean)) (by decide) rfl (Nat.le_of_ble_eq_true rfl) ?_
  intro pg en s mm below meth cd hx hb hr hml hown hts hlk hF hR ls hl
  have hinX0 : ∀ w ∈ wsX00, w ∈ wsX0_isShut := by decide +kernel
  have hl : lv_has ls 3 [(0, .ref (ad 9)), (1, .int (nI (p))), (2, .int (nI (w)))] := hl
  refine lv_aload_n hx hb dX0_isShut_0 rfl (lv_at hl 0 rfl) ?_
  refine z_get (own := RX0) (C := RX0) (T := TX0) (N := 3) (k := 2) (v := .ref (ad 12)) hx hb hts hinX0 hown hF hR (wX_c9 S) rfl (by decide) (by decide +kernel) rfl rfl dX0_isShut_1 ?_
  refine lv_iload_n hx hb dX0_isShut_4 rfl (lv_at hl 1 rfl) ?_
  refine lv_iload_n hx hb dX0_isShut_5 rfl (lv_at hl 2 rfl) ?_
  refine z_callS_i (As := [.int (nI (p)), .int (nI (w))]) (rest := [.ref (ad 12)]) (w := wX cI cZ ad) ⟨hx, hb, hml, hown, hts⟩ hF hR (c_X0_channelOf hG S p w) (va_cwS 2 hts gX0_isShut_X0_channelOf rfl rfl rfl (by decide +kernel) ⟨Nat.le_of_ble_eq_true rfl, Nat.le_of_ble_eq_true rfl⟩) rfl hl rfl (Nat.le_of_ble_eq_true rfl) (by decide) dX0_isShut_6 (fun r1 S1 H locs hp1 hR => ?_)
  obtain ⟨hr1, hs1⟩ := hp1
  subst r1
  subst S1
  refine z_zald_n (f := S 8) hx hb hF hR (wX_c12 S) zT_1 dX0_isShut_9 (by decide) (by omega) ?_
  exact z_zret (w := wX cI cZ ad) (S1 := S) hx hb hr hlk hF hR dX0_isShut_10 (zOK.b8 hO _) (⟨z_bool (zOK.b8 hO _), rfl⟩)
set_option maxHeartbeats 4000000 in
set_option maxRecDepth 100000 in
theorem c_X0_canGive {l : Launch} {D : va_G} {cI cZ : ClassId} {ad : Nat → Nat} {B : Nat → Prop} (hG : ∀ S : zS, va_D B (wX cI cZ ad S)) (S : zS) (p w : Nat) (hO : zOK S) (hp : p < 4) (hw : w < 4) : zMi l yX0_canGive wsX0_canGive ({ frames := 2, cells := 0, slots := 0, locals := 43 } : Room) [.ref (ad 9), .int (nI (p)), .int (nI (w))] D (zT cI cZ) B (wX cI cZ ad) S (fun (r : Int32) (S1 : zS) => (((0 < zn S 7 (4 * p + w) ∧ ¬ S 8 (4 * p + w) = nI 1) ∧ r = nI 1) ∨ (¬ (0 < zn S 7 (4 * p + w) ∧ ¬ S 8 (4 * p + w) = nI 1) ∧ r = nI 0)) ∧ S1 = S) := by
  refine zMi_of (cc := cX0_canGive) (maxL := 3) (ret := (some .boolean)) (by decide) rfl (Nat.le_of_ble_eq_true rfl) ?_
  intro pg en s mm below meth cd hx hb hr hml hown hts hlk hF hR ls hl
  have hl : lv_has ls 3 [(0, .ref (ad 9)), (1, .int (nI (p))), (2, .int (nI (w)))] := hl
  refine lv_aload_n hx hb dX0_canGive_0 rfl (lv_at hl 0 rfl) ?_
  refine lv_iload_n hx hb dX0_canGive_1 rfl (lv_at hl 1 rfl) ?_
  refine lv_iload_n hx hb dX0_canGive_2 rfl (lv_at hl 2 rfl) ?_
  refine z_callV_i (As := [.int (nI (p)), .int (nI (w))]) (rest := []) (w := wX cI cZ ad) ⟨hx, hb, hml, hown, hts⟩ hF hR (c_X0_size hG S p w hO (by omega) (by omega)) (cwV 2 hts gX0_canGive_X0_size rfl rfl rfl (by decide +kernel) ⟨Nat.le_of_ble_eq_true rfl, Nat.le_of_ble_eq_true rfl⟩) (wX_c9 S) rfl rfl rfl hl rfl (Nat.le_of_ble_eq_true rfl) (by decide) dX0_canGive_3 (fun r1 S1 H locs hp1 hR => ?_)
  obtain ⟨hr1, hs1⟩ := hp1
  subst r1
  subst S1
  have hb3 := (zOK.n7 hO (4 * p + w)).2
  refine z_if_le_n (tgt := 22) hx hb dX0_canGive_6 (by decide) (by omega) (fun h6_2 => ?_) (fun h6_2 => ?_)
  · skip
    have q6 := h6_2
    refine lv_iconst (v := (nI (0))) hx hb dX0_canGive_22 (by decide) ?_
    exact z_zret (w := wX cI cZ ad) (S1 := S) hx hb hr hlk hF hR dX0_canGive_23 (by decide) (⟨Or.inr ⟨fun q => by first | exact absurd q.1 (by omega) | exact q.2 hb12, rfl⟩, rfl⟩)
  · skip
    have q6 := h6_2
    refine lv_aload_n hx hb dX0_canGive_9 rfl (lv_at hl 0 rfl) ?_
    refine lv_iload_n hx hb dX0_canGive_10 rfl (lv_at hl 1 rfl) ?_
    refine lv_iload_n hx hb dX0_canGive_11 rfl (lv_at hl 2 rfl) ?_
    refine z_callV_i (As := [.int (nI (p)), .int (nI (w))]) (rest := []) (w := wX cI cZ ad) ⟨hx, hb, hml, hown, hts⟩ hF hR (c_X0_isShut hG S p w hO (by omega) (by omega)) (cwV 2 hts gX0_canGive_X0_isShut rfl rfl rfl (by decide +kernel) ⟨Nat.le_of_ble_eq_true rfl, Nat.le_of_ble_eq_true rfl⟩) (wX_c9 S) rfl rfl rfl hl rfl (Nat.le_of_ble_eq_true rfl) (by decide) dX0_canGive_12 (fun r3 S3 H locs hp3 hR => ?_)
    obtain ⟨hp3, hs3⟩ := hp3
    subst S3
    rcases hp3 with ⟨hb12, hr3⟩ | ⟨hb12, hr3⟩
    · subst r3
      refine z_if_ne_n (tgt := 22) hx hb dX0_canGive_15 (by decide) (by omega) (fun h15_4 => ?_) (fun h15_4 => by omega)
      refine lv_iconst (v := (nI (0))) hx hb dX0_canGive_22 (by decide) ?_
      exact z_zret (w := wX cI cZ ad) (S1 := S) hx hb hr hlk hF hR dX0_canGive_23 (by decide) (⟨Or.inr ⟨fun q => by first | exact absurd q.1 (by omega) | exact q.2 hb12, rfl⟩, rfl⟩)
    · subst r3
      refine z_if_ne_n (tgt := 22) hx hb dX0_canGive_15 (by decide) (by omega) (fun h15_5 => by omega) (fun h15_5 => ?_)
      refine lv_iconst (v := (nI (1))) hx hb dX0_canGive_18 (by decide) ?_
      refine lv_goto (tgt := 23) hx hb dX0_canGive_19 (by decide) ?_
      exact z_zret (w := wX cI cZ ad) (S1 := S) hx hb hr hlk hF hR dX0_canGive_23 (by decide) (⟨Or.inl ⟨⟨q6, hb12⟩, rfl⟩, rfl⟩)
set_option maxHeartbeats 4000000 in
set_option maxRecDepth 100000 in
theorem c_X0_put {l : Launch} {D : va_G} {cI cZ : ClassId} {ad : Nat → Nat} {B : Nat → Prop} (hG : ∀ S : zS, va_D B (wX cI cZ ad S)) (S : zS) (p w : Nat) (x : Int32) (hO : zOK S) (hp : p < 4) (hw : w < 4) (hn : zn S 7 (4 * p + w) < 8) : zMv l yX0_put wsX0_put ({ frames := 1, cells := 0, slots := 0, locals := 21 } : Room) [.ref (ad 9), .int (nI (p)), .int (nI (w)), .int (x)] D (zT cI cZ) B (wX cI cZ ad) S (fun (S1 : zS) => S1 = sp_put S (4 * p + w) x) := by
  refine zMv_of (cc := cX0_put) (maxL := 5) (ret := none) (by decide) rfl (Nat.le_of_ble_eq_true rfl) ?_
  intro pg en s mm below meth cd hx hb hr hml hown hts hlk hF hR ls hl
  have hinX0 : ∀ w ∈ wsX00, w ∈ wsX0_put := by decide +kernel
  have hl : lv_has ls 5 [(0, .ref (ad 9)), (1, .int (nI (p))), (2, .int (nI (w))), (3, .int (x))] := hl
  refine lv_iload_n hx hb dX0_put_0 rfl (lv_at hl 1 rfl) ?_
  refine lv_iload_n hx hb dX0_put_1 rfl (lv_at hl 2 rfl) ?_
  refine z_callS_i (As := [.int (nI (p)), .int (nI (w))]) (rest := []) (w := wX cI cZ ad) ⟨hx, hb, hml, hown, hts⟩ hF hR (c_X0_channelOf hG S p w) (va_cwS 2 hts gX0_put_X0_channelOf rfl rfl rfl (by decide +kernel) ⟨Nat.le_of_ble_eq_true rfl, Nat.le_of_ble_eq_true rfl⟩) rfl hl rfl (Nat.le_of_ble_eq_true rfl) (by decide) dX0_put_2 (fun r1 S1 H locs hp1 hR => ?_)
  obtain ⟨hr1, hs1⟩ := hp1
  subst r1
  subst S1
  refine lv_istore (lv' := [(4, .int (nI (4 * p + w))), (0, .ref (ad 9)), (1, .int (nI (p))), (2, .int (nI (w))), (3, .int (x))]) hx hb dX0_put_5 hl (by decide) rfl (fun ls hl => ?_)
  refine lv_aload_n hx hb dX0_put_7 rfl (lv_at hl 1 rfl) ?_
  refine z_get (own := RX0) (C := RX0) (T := TX0) (N := 3) (k := 0) (v := .ref (ad 10)) hx hb hts hinX0 hown hF hR (wX_c9 S) rfl (by decide) (by decide +kernel) rfl rfl dX0_put_8 ?_
  refine lv_iload hx hb dX0_put_11 (lv_at hl 0 rfl) ?_
  refine lv_bipush (v := (nI (8))) hx hb dX0_put_13 (by decide) ?_
  refine z_imul_n hx hb dX0_put_15 ?_
  refine lv_aload_n hx hb dX0_put_16 rfl (lv_at hl 1 rfl) ?_
  refine z_get (own := RX0) (C := RX0) (T := TX0) (N := 3) (k := 1) (v := .ref (ad 11)) hx hb hts hinX0 hown hF hR (wX_c9 S) rfl (by decide) (by decide +kernel) rfl rfl dX0_put_17 ?_
  refine lv_iload hx hb dX0_put_20 (lv_at hl 0 rfl) ?_
  refine z_iald_n (f := S 7) hx hb hF hR (wX_c11 S) zT_0 dX0_put_22 (by decide) (by omega) ?_
  refine lv_topi (fun v3 ev3 => ?_)
  obtain rfl : v3 = (nI (zn S 7 (4 * p + w))) := ev3.trans (zOK.n7 hO _).1
  have hb22_2 := (zOK.n7 hO (4 * p + w)).2
  refine z_iadd_n hx hb dX0_put_23 ?_
  refine lv_topi (fun v4 ev4 => ?_)
  obtain rfl : v4 = nI (8 * (4 * p + w) + zn S 7 (4 * p + w)) := ev4.trans (congrArg nI (by omega))
  refine lv_iload_n hx hb dX0_put_24 rfl (lv_at hl 4 rfl) ?_
  refine z_iast_n (f := S 6) hx hb hF (hG S) hR (wX_c10 S) zT_0 (wX_s6 S (upd (S 6) (8 * (4 * p + w) + zn S 7 (4 * p + w)) (x))) dX0_put_25 (by decide) (by omega) (fun H locs hR => ?_)
  refine lv_aload_n hx hb dX0_put_26 rfl (lv_at hl 1 rfl) ?_
  refine z_get (own := RX0) (C := RX0) (T := TX0) (N := 3) (k := 1) (v := .ref (ad 11)) hx hb hts hinX0 hown hF hR (wX_c9 (zU S 6 (upd (S 6) (8 * (4 * p + w) + zn S 7 (4 * p + w)) (x)))) rfl (by decide) (by decide +kernel) rfl rfl dX0_put_27 ?_
  refine lv_iload hx hb dX0_put_30 (lv_at hl 0 rfl) ?_
  refine lv_dup2_11 hx hb dX0_put_32 rfl rfl ?_
  refine z_iald_n (f := S 7) hx hb hF hR (wX_c11 (zU S 6 (upd (S 6) (8 * (4 * p + w) + zn S 7 (4 * p + w)) (x)))) zT_0 dX0_put_33 (by decide) (by omega) ?_
  refine lv_topi (fun v6 ev6 => ?_)
  obtain rfl : v6 = (nI (zn S 7 (4 * p + w))) := ev6.trans (zOK.n7 hO _).1
  have hb33_5 := (zOK.n7 hO (4 * p + w)).2
  refine lv_iconst (v := (nI (1))) hx hb dX0_put_34 (by decide) ?_
  refine z_iadd_n hx hb dX0_put_35 ?_
  refine z_iast_n (f := S 7) hx hb hF (hG (zU S 6 (upd (S 6) (8 * (4 * p + w) + zn S 7 (4 * p + w)) (x)))) hR (wX_c11 (zU S 6 (upd (S 6) (8 * (4 * p + w) + zn S 7 (4 * p + w)) (x)))) zT_0 (wX_s7 (zU S 6 (upd (S 6) (8 * (4 * p + w) + zn S 7 (4 * p + w)) (x))) (upd (S 7) (4 * p + w) (nI ((zn S 7 (4 * p + w)) + 1)))) dX0_put_36 (by decide) (by omega) (fun H locs hR => ?_)
  exact z_vret (w := wX cI cZ ad) (S1 := (zU (zU S 6 (upd (S 6) (8 * (4 * p + w) + zn S 7 (4 * p + w)) (x))) 7 (upd (S 7) (4 * p + w) (nI ((zn S 7 (4 * p + w)) + 1))))) hx hb hr hlk hF hR dX0_put_37 (rfl)
set_option maxHeartbeats 4000000 in
set_option maxRecDepth 100000 in
theorem c_X0_removeFirst {l : Launch} {D : va_G} {cI cZ : ClassId} {ad : Nat → Nat} {B : Nat → Prop} (hG : ∀ S : zS, va_D B (wX cI cZ ad S)) (S : zS) (p w : Nat) (hO : zOK S) (hp : p < 4) (hw : w < 4) (hn : 0 < zn S 7 (4 * p + w)) : zMi l yX0_removeFirst wsX0_removeFirst ({ frames := 1, cells := 0, slots := 0, locals := 21 } : Room) [.ref (ad 9), .int (nI (p)), .int (nI (w))] D (zT cI cZ) B (wX cI cZ ad) S (fun (r : Int32) (S1 : zS) => r = (S 6 (8 * (4 * p + w))) ∧ S1 = sp_rem S (4 * p + w)) := by
  refine zMi_of (cc := cX0_removeFirst) (maxL := 7) (ret := (some .int)) (by decide) rfl (Nat.le_of_ble_eq_true rfl) ?_
  intro pg en s mm below meth cd hx hb hr hml hown hts hlk hF hR ls hl
  have hinX0 : ∀ w ∈ wsX00, w ∈ wsX0_removeFirst := by decide +kernel
  have hl : lv_has ls 7 [(0, .ref (ad 9)), (1, .int (nI (p))), (2, .int (nI (w)))] := hl
  have hn8 := (zOK.n7 hO (4 * p + w)).2
  refine lv_iload_n hx hb dX0_removeFirst_0 rfl (lv_at hl 1 rfl) ?_
  refine lv_iload_n hx hb dX0_removeFirst_1 rfl (lv_at hl 2 rfl) ?_
  refine z_callS_i (As := [.int (nI (p)), .int (nI (w))]) (rest := []) (w := wX cI cZ ad) ⟨hx, hb, hml, hown, hts⟩ hF hR (c_X0_channelOf hG S p w) (va_cwS 2 hts gX0_removeFirst_X0_channelOf rfl rfl rfl (by decide +kernel) ⟨Nat.le_of_ble_eq_true rfl, Nat.le_of_ble_eq_true rfl⟩) rfl hl rfl (Nat.le_of_ble_eq_true rfl) (by decide) dX0_removeFirst_2 (fun r1 S1 H locs hp1 hR => ?_)
  obtain ⟨hr1, hs1⟩ := hp1
  subst r1
  subst S1
  refine lv_istore_n (lv' := [(3, .int (nI (4 * p + w))), (0, .ref (ad 9)), (1, .int (nI (p))), (2, .int (nI (w)))]) hx hb dX0_removeFirst_5 rfl hl (by decide) rfl (fun ls hl => ?_)
  refine lv_iload_n hx hb dX0_removeFirst_6 rfl (lv_at hl 0 rfl) ?_
  refine lv_bipush (v := (nI (8))) hx hb dX0_removeFirst_7 (by decide) ?_
  refine z_imul_n hx hb dX0_removeFirst_9 ?_
  refine lv_topi (fun v2 ev2 => ?_)
  obtain rfl : v2 = nI (8 * (4 * p + w)) := ev2.trans (congrArg nI (by omega))
  refine lv_istore (lv' := [(4, .int (nI (8 * (4 * p + w)))), (3, .int (nI (4 * p + w))), (0, .ref (ad 9)), (1, .int (nI (p))), (2, .int (nI (w)))]) hx hb dX0_removeFirst_10 hl (by decide) rfl (fun ls hl => ?_)
  refine lv_aload_n hx hb dX0_removeFirst_12 rfl (lv_at hl 2 rfl) ?_
  refine z_get (own := RX0) (C := RX0) (T := TX0) (N := 3) (k := 0) (v := .ref (ad 10)) hx hb hts hinX0 hown hF hR (wX_c9 S) rfl (by decide) (by decide +kernel) rfl rfl dX0_removeFirst_13 ?_
  refine lv_iload hx hb dX0_removeFirst_16 (lv_at hl 0 rfl) ?_
  refine z_iald_n (f := S 6) hx hb hF hR (wX_c10 S) zT_0 dX0_removeFirst_18 (by decide) (by omega) ?_
  refine lv_istore (lv' := [(5, .int (S 6 (8 * (4 * p + w)))), (4, .int (nI (8 * (4 * p + w)))), (3, .int (nI (4 * p + w))), (0, .ref (ad 9)), (1, .int (nI (p))), (2, .int (nI (w)))]) hx hb dX0_removeFirst_19 hl (by decide) rfl (fun ls hl => ?_)
  refine lv_iconst (v := (nI (1))) hx hb dX0_removeFirst_21 (by decide) ?_
  refine lv_istore (lv' := [(6, .int (nI (1))), (5, .int (S 6 (8 * (4 * p + w)))), (4, .int (nI (8 * (4 * p + w)))), (3, .int (nI (4 * p + w))), (0, .ref (ad 9)), (1, .int (nI (p))), (2, .int (nI (w)))]) hx hb dX0_removeFirst_22 hl (by decide) rfl (fun ls hl => ?_)
  have loop24 : ∀ (nf24 : Nat) (j : Nat), (j + 1 ≤ zn S 7 (4 * p + w)) → zn S 7 (4 * p + w) - j < nf24 → ∀ (H : Heap) (locs : List Loc), zR D B (wX cI cZ ad (zU S 6 (sp_sh (S 6) (8 * (4 * p + w)) j))) s H locs → ∀ ls : Array Slot, lv_has ls 7 [(0, .ref (ad 9)), (1, .int (nI (p))), (2, .int (nI (w))), (3, .int (nI (4 * p + w))), (4, .int (nI (8 * (4 * p + w)))), (5, .int (S 6 (8 * (4 * p + w)))), (6, .int (nI (j + 1)))] → W pg l en ({ frames := 1, cells := 0, slots := 0, locals := 21 } : Room) s mm ([.ref (ad 9), .int (nI (p)), .int (nI (w))] : List Value).toArray below meth cd H locs 0 0 (MQ below (va_Qi (fun (r : Int32) (S1 : zS) => r = (S 6 (8 * (4 * p + w))) ∧ S1 = sp_rem S (4 * p + w)) (zB D (zT cI cZ) (wX cI cZ ad)) (zA B s.heap.size)) ([.ref (ad 9), .int (nI (p)), .int (nI (w))] : List Value).toArray s 0 0 (zA B s.heap.size)) (F0 mm 24 ls []) := by
    intro nf24
    induction nf24 with
    | zero => intro j hj hn; exact absurd hn (Nat.not_lt_zero _)
    | succ nf24 ih24 =>
      intro j hj hn H locs hR ls hl
      refine lv_iload hx hb dX0_removeFirst_24 (lv_at hl 6 rfl) ?_
      refine lv_aload_n hx hb dX0_removeFirst_26 rfl (lv_at hl 0 rfl) ?_
      refine z_get (own := RX0) (C := RX0) (T := TX0) (N := 3) (k := 1) (v := .ref (ad 11)) hx hb hts hinX0 hown hF hR (wX_c9 (zU S 6 (sp_sh (S 6) (8 * (4 * p + w)) j))) rfl (by decide) (by decide +kernel) rfl rfl dX0_removeFirst_27 ?_
      refine lv_iload_n hx hb dX0_removeFirst_30 rfl (lv_at hl 3 rfl) ?_
      refine z_iald_n (f := S 7) hx hb hF hR (wX_c11 (zU S 6 (sp_sh (S 6) (8 * (4 * p + w)) j))) zT_0 dX0_removeFirst_31 (by decide) (by omega) ?_
      refine lv_topi (fun v4 ev4 => ?_)
      obtain rfl : v4 = (nI (zn S 7 (4 * p + w))) := ev4.trans (zOK.n7 hO _).1
      have hb31_3 := (zOK.n7 hO (4 * p + w)).2
      refine z_ge_n (tgt := 63) hx hb dX0_removeFirst_32 (by decide) (by omega) (by omega) (fun h32_5 => ?_) (fun h32_5 => ?_)
      · skip
        refine lv_aload_n hx hb dX0_removeFirst_63 rfl (lv_at hl 0 rfl) ?_
        refine z_get (own := RX0) (C := RX0) (T := TX0) (N := 3) (k := 1) (v := .ref (ad 11)) hx hb hts hinX0 hown hF hR (wX_c9 (zU S 6 (sp_sh (S 6) (8 * (4 * p + w)) j))) rfl (by decide) (by decide +kernel) rfl rfl dX0_removeFirst_64 ?_
        refine lv_iload_n hx hb dX0_removeFirst_67 rfl (lv_at hl 3 rfl) ?_
        refine lv_dup2_11 hx hb dX0_removeFirst_68 rfl rfl ?_
        refine z_iald_n (f := S 7) hx hb hF hR (wX_c11 (zU S 6 (sp_sh (S 6) (8 * (4 * p + w)) j))) zT_0 dX0_removeFirst_69 (by decide) (by omega) ?_
        refine lv_topi (fun v7 ev7 => ?_)
        obtain rfl : v7 = (nI (zn S 7 (4 * p + w))) := ev7.trans (zOK.n7 hO _).1
        have hb69_6 := (zOK.n7 hO (4 * p + w)).2
        refine lv_iconst (v := (nI (1))) hx hb dX0_removeFirst_70 (by decide) ?_
        refine z_isub_n hx hb dX0_removeFirst_71 (by omega) ?_
        refine z_iast_n (f := S 7) hx hb hF (hG (zU S 6 (sp_sh (S 6) (8 * (4 * p + w)) j))) hR (wX_c11 (zU S 6 (sp_sh (S 6) (8 * (4 * p + w)) j))) zT_0 (wX_s7 (zU S 6 (sp_sh (S 6) (8 * (4 * p + w)) j)) (upd (S 7) (4 * p + w) (nI ((zn S 7 (4 * p + w)) - 1)))) dX0_removeFirst_72 (by decide) (by omega) (fun H locs hR => ?_)
        refine lv_iload hx hb dX0_removeFirst_73 (lv_at hl 5 rfl) ?_
        exact z_iret (w := wX cI cZ ad) (S1 := (zU (zU S 6 (sp_sh (S 6) (8 * (4 * p + w)) j)) 7 (upd (S 7) (4 * p + w) (nI ((zn S 7 (4 * p + w)) - 1))))) hx hb hr hlk hF hR dX0_removeFirst_75 (⟨rfl, by rw [show j = zn S 7 (4 * p + w) - 1 from by omega]; rfl⟩)
      · skip
        refine lv_aload_n hx hb dX0_removeFirst_35 rfl (lv_at hl 0 rfl) ?_
        refine z_get (own := RX0) (C := RX0) (T := TX0) (N := 3) (k := 0) (v := .ref (ad 10)) hx hb hts hinX0 hown hF hR (wX_c9 (zU S 6 (sp_sh (S 6) (8 * (4 * p + w)) j))) rfl (by decide) (by decide +kernel) rfl rfl dX0_removeFirst_36 ?_
        refine lv_iload hx hb dX0_removeFirst_39 (lv_at hl 4 rfl) ?_
        refine lv_iload hx hb dX0_removeFirst_41 (lv_at hl 6 rfl) ?_
        refine z_iadd_n hx hb dX0_removeFirst_43 ?_
        refine lv_iconst (v := (nI (1))) hx hb dX0_removeFirst_44 (by decide) ?_
        refine z_isub_n hx hb dX0_removeFirst_45 (by omega) ?_
        refine lv_topi (fun v8 ev8 => ?_)
        obtain rfl : v8 = nI (8 * (4 * p + w) + j) := ev8.trans (congrArg nI (by omega))
        refine lv_aload_n hx hb dX0_removeFirst_46 rfl (lv_at hl 0 rfl) ?_
        refine z_get (own := RX0) (C := RX0) (T := TX0) (N := 3) (k := 0) (v := .ref (ad 10)) hx hb hts hinX0 hown hF hR (wX_c9 (zU S 6 (sp_sh (S 6) (8 * (4 * p + w)) j))) rfl (by decide) (by decide +kernel) rfl rfl dX0_removeFirst_47 ?_
        refine lv_iload hx hb dX0_removeFirst_50 (lv_at hl 4 rfl) ?_
        refine lv_iload hx hb dX0_removeFirst_52 (lv_at hl 6 rfl) ?_
        refine z_iadd_n hx hb dX0_removeFirst_54 ?_
        refine lv_topi (fun v9 ev9 => ?_)
        obtain rfl : v9 = nI (8 * (4 * p + w) + j + 1) := ev9.trans (congrArg nI (by omega))
        refine z_iald_n (f := (sp_sh (S 6) (8 * (4 * p + w)) j)) hx hb hF hR (wX_c10 (zU S 6 (sp_sh (S 6) (8 * (4 * p + w)) j))) zT_0 dX0_removeFirst_55 (by decide) (by omega) ?_
        refine z_iast_n (f := (sp_sh (S 6) (8 * (4 * p + w)) j)) hx hb hF (hG (zU S 6 (sp_sh (S 6) (8 * (4 * p + w)) j))) hR (wX_c10 (zU S 6 (sp_sh (S 6) (8 * (4 * p + w)) j))) zT_0 (wX_s6 (zU S 6 (sp_sh (S 6) (8 * (4 * p + w)) j)) (upd ((sp_sh (S 6) (8 * (4 * p + w)) j)) (8 * (4 * p + w) + j) ((sp_sh (S 6) (8 * (4 * p + w)) j) (8 * (4 * p + w) + j + 1)))) dX0_removeFirst_56 (by decide) (by omega) (fun H locs hR => ?_)
        have hR : zR D B (wX cI cZ ad (zU S 6 (upd ((sp_sh (S 6) (8 * (4 * p + w)) j)) (8 * (4 * p + w) + j) ((sp_sh (S 6) (8 * (4 * p + w)) j) (8 * (4 * p + w) + j + 1))))) s H locs := by rw [show (zU S 6 (upd ((sp_sh (S 6) (8 * (4 * p + w)) j)) (8 * (4 * p + w) + j) ((sp_sh (S 6) (8 * (4 * p + w)) j) (8 * (4 * p + w) + j + 1)))) = zU (zU S 6 (sp_sh (S 6) (8 * (4 * p + w)) j)) 6 (upd ((sp_sh (S 6) (8 * (4 * p + w)) j)) (8 * (4 * p + w) + j) ((sp_sh (S 6) (8 * (4 * p + w)) j) (8 * (4 * p + w) + j + 1))) from (zU_U _ _ _ _).symm]; exact hR
        refine lv_iinc (v := (nI (j + 1 + 1))) (lv' := [(6, .int (nI (j + 1 + 1))), (0, .ref (ad 9)), (1, .int (nI (p))), (2, .int (nI (w))), (3, .int (nI (4 * p + w))), (4, .int (nI (8 * (4 * p + w)))), (5, .int (S 6 (8 * (4 * p + w))))]) hx hb dX0_removeFirst_57 hl (k := 6) rfl (z_inc _) (by decide) rfl (fun ls hl => ?_)
        refine lv_goto (tgt := 24) hx hb dX0_removeFirst_60 (by decide) ?_
        exact ih24 (j + 1) (by omega) (by omega) _ _ (by rw [show zU S 6 (sp_sh (S 6) (8 * (4 * p + w)) (j + 1)) = (zU S 6 (upd ((sp_sh (S 6) (8 * (4 * p + w)) j)) (8 * (4 * p + w) + j) ((sp_sh (S 6) (8 * (4 * p + w)) j) (8 * (4 * p + w) + j + 1)))) from rfl]; exact hR) ls (lv_sub hl [1, 2, 3, 4, 5, 6, 0] rfl)
  exact loop24 _ 0 (by omega) (Nat.lt_succ_self _) _ _ (by rw [show zU S 6 (sp_sh (S 6) (8 * (4 * p + w)) 0) = S from zU_self S 6]; exact hR) ls (lv_sub hl [4, 5, 6, 3, 2, 1, 0] rfl)
set_option maxHeartbeats 4000000 in
set_option maxRecDepth 100000 in
theorem c_X0_block {l : Launch} {D : va_G} {cI cZ : ClassId} {ad : Nat → Nat} {B : Nat → Prop} (hG : ∀ S : zS, va_D B (wX cI cZ ad S)) (S : zS) (p w : Nat) (hp : p < 4) (hw : w < 4) : zMv l yX0_block wsX0_block ({ frames := 1, cells := 0, slots := 0, locals := 21 } : Room) [.ref (ad 9), .int (nI (p)), .int (nI (w))] D (zT cI cZ) B (wX cI cZ ad) S (fun (S1 : zS) => S1 = zU S 8 (upd (S 8) (4 * p + w) (nI 1))) := by
  refine zMv_of (cc := cX0_block) (maxL := 3) (ret := none) (by decide) rfl (Nat.le_of_ble_eq_true rfl) ?_
  intro pg en s mm below meth cd hx hb hr hml hown hts hlk hF hR ls hl
  have hinX0 : ∀ w ∈ wsX00, w ∈ wsX0_block := by decide +kernel
  have hl : lv_has ls 3 [(0, .ref (ad 9)), (1, .int (nI (p))), (2, .int (nI (w)))] := hl
  refine lv_aload_n hx hb dX0_block_0 rfl (lv_at hl 0 rfl) ?_
  refine z_get (own := RX0) (C := RX0) (T := TX0) (N := 3) (k := 2) (v := .ref (ad 12)) hx hb hts hinX0 hown hF hR (wX_c9 S) rfl (by decide) (by decide +kernel) rfl rfl dX0_block_1 ?_
  refine lv_iload_n hx hb dX0_block_4 rfl (lv_at hl 1 rfl) ?_
  refine lv_iload_n hx hb dX0_block_5 rfl (lv_at hl 2 rfl) ?_
  refine z_callS_i (As := [.int (nI (p)), .int (nI (w))]) (rest := [.ref (ad 12)]) (w := wX cI cZ ad) ⟨hx, hb, hml, hown, hts⟩ hF hR (c_X0_channelOf hG S p w) (va_cwS 2 hts gX0_block_X0_channelOf rfl rfl rfl (by decide +kernel) ⟨Nat.le_of_ble_eq_true rfl, Nat.le_of_ble_eq_true rfl⟩) rfl hl rfl (Nat.le_of_ble_eq_true rfl) (by decide) dX0_block_6 (fun r1 S1 H locs hp1 hR => ?_)
  obtain ⟨hr1, hs1⟩ := hp1
  subst r1
  subst S1
  refine lv_iconst (v := (nI (1))) hx hb dX0_block_9 (by decide) ?_
  refine z_zast_n (f := S 8) hx hb hF (hG S) hR (wX_c12 S) zT_1 (wX_s8 S (upd (S 8) (4 * p + w) (nI (1)))) dX0_block_10 (by decide) (by omega) (by decide +kernel) (fun H locs hR => ?_)
  exact z_vret (w := wX cI cZ ad) (S1 := (zU S 8 (upd (S 8) (4 * p + w) (nI (1))))) hx hb hr hlk hF hR dX0_block_11 (rfl)
set_option maxHeartbeats 4000000 in
set_option maxRecDepth 100000 in
theorem c_X0_areAllBlocked {l : Launch} {D : va_G} {cI cZ : ClassId} {ad : Nat → Nat} {B : Nat → Prop} (hG : ∀ S : zS, va_D B (wX cI cZ ad S)) (S : zS) (w : Nat) (hO : zOK S) (hw : w < 4) : zMi l yX0_areAllBlocked wsX0_areAllBlocked ({ frames := 2, cells := 0, slots := 0, locals := 43 } : Room) [.ref (ad 9), .int (nI (w))] D (zT cI cZ) B (wX cI cZ ad) S (fun (r : Int32) (S1 : zS) => (((∀ q, q < 4 → S 8 (4 * q + w) = nI 1) ∧ r = nI 1) ∨ (¬ (∀ q, q < 4 → S 8 (4 * q + w) = nI 1) ∧ r = nI 0)) ∧ S1 = S) := by
  refine zMi_of (cc := cX0_areAllBlocked) (maxL := 3) (ret := (some .boolean)) (by decide) rfl (Nat.le_of_ble_eq_true rfl) ?_
  intro pg en s mm below meth cd hx hb hr hml hown hts hlk hF hR ls hl
  have hl : lv_has ls 3 [(0, .ref (ad 9)), (1, .int (nI (w)))] := hl
  refine lv_iconst (v := (nI (0))) hx hb dX0_areAllBlocked_0 (by decide) ?_
  refine lv_istore_n (lv' := [(2, .int (nI (0))), (0, .ref (ad 9)), (1, .int (nI (w)))]) hx hb dX0_areAllBlocked_1 rfl hl (by decide) rfl (fun ls hl => ?_)
  have loop2 : ∀ (nf2 : Nat) (k : Nat), (k ≤ 4) → (∀ q, q < k → S 8 (4 * q + w) = nI 1) → 4 - k < nf2 → ∀ (H : Heap) (locs : List Loc), zR D B (wX cI cZ ad S) s H locs → ∀ ls : Array Slot, lv_has ls 3 [(0, .ref (ad 9)), (1, .int (nI (w))), (2, .int (nI (k)))] → W pg l en ({ frames := 2, cells := 0, slots := 0, locals := 43 } : Room) s mm ([.ref (ad 9), .int (nI (w))] : List Value).toArray below meth cd H locs 0 0 (MQ below (va_Qi (fun (r : Int32) (S1 : zS) => (((∀ q, q < 4 → S 8 (4 * q + w) = nI 1) ∧ r = nI 1) ∨ (¬ (∀ q, q < 4 → S 8 (4 * q + w) = nI 1) ∧ r = nI 0)) ∧ S1 = S) (zB D (zT cI cZ) (wX cI cZ ad)) (zA B s.heap.size)) ([.ref (ad 9), .int (nI (w))] : List Value).toArray s 0 0 (zA B s.heap.size)) (F0 mm 2 ls []) := by
    intro nf2
    induction nf2 with
    | zero => intro k hk4 hk hn; exact absurd hn (Nat.not_lt_zero _)
    | succ nf2 ih2 =>
      intro k hk4 hk hn H locs hR ls hl
      refine lv_iload_n hx hb dX0_areAllBlocked_2 rfl (lv_at hl 2 rfl) ?_
      refine lv_iconst (v := (nI (4))) hx hb dX0_areAllBlocked_3 (by decide) ?_
      refine z_ge_n (tgt := 24) hx hb dX0_areAllBlocked_4 (by decide) (by omega) (by omega) (fun h4_1 => ?_) (fun h4_1 => ?_)
      · skip
        have q4 := h4_1
        refine lv_iconst (v := (nI (1))) hx hb dX0_areAllBlocked_24 (by decide) ?_
        exact z_zret (w := wX cI cZ ad) (S1 := S) hx hb hr hlk hF hR dX0_areAllBlocked_25 (by decide) (⟨Or.inl ⟨fun q hq => hk q (by omega), rfl⟩, rfl⟩)
      · skip
        refine lv_aload_n hx hb dX0_areAllBlocked_7 rfl (lv_at hl 0 rfl) ?_
        refine lv_iload_n hx hb dX0_areAllBlocked_8 rfl (lv_at hl 2 rfl) ?_
        refine lv_iload_n hx hb dX0_areAllBlocked_9 rfl (lv_at hl 1 rfl) ?_
        refine z_callV_i (As := [.int (nI (k)), .int (nI (w))]) (rest := []) (w := wX cI cZ ad) ⟨hx, hb, hml, hown, hts⟩ hF hR (c_X0_isShut hG S k w hO (by omega) (by omega)) (cwV 2 hts gX0_areAllBlocked_X0_isShut rfl rfl rfl (by decide +kernel) ⟨Nat.le_of_ble_eq_true rfl, Nat.le_of_ble_eq_true rfl⟩) (wX_c9 S) rfl rfl rfl hl rfl (Nat.le_of_ble_eq_true rfl) (by decide) dX0_areAllBlocked_10 (fun r2 S2 H locs hp2 hR => ?_)
        obtain ⟨hp2, hs2⟩ := hp2
        subst S2
        rcases hp2 with ⟨hb10, hr2⟩ | ⟨hb10, hr2⟩
        · subst r2
          refine z_if_ne_n (tgt := 18) hx hb dX0_areAllBlocked_13 (by decide) (by omega) (fun h13_3 => ?_) (fun h13_3 => by omega)
          refine lv_iinc (v := (nI (k + 1))) (lv' := [(2, .int (nI (k + 1))), (0, .ref (ad 9)), (1, .int (nI (w)))]) hx hb dX0_areAllBlocked_18 hl (k := 2) rfl (z_inc _) (by decide) rfl (fun ls hl => ?_)
          refine lv_goto (tgt := 2) hx hb dX0_areAllBlocked_21 (by decide) ?_
          exact ih2 (k + 1) (by omega) (lt_s hk hb10) (by omega) _ _ hR ls (lv_sub hl [1, 2, 0] rfl)
        · subst r2
          refine z_if_ne_n (tgt := 18) hx hb dX0_areAllBlocked_13 (by decide) (by omega) (fun h13_4 => by omega) (fun h13_4 => ?_)
          refine lv_iconst (v := (nI (0))) hx hb dX0_areAllBlocked_16 (by decide) ?_
          exact z_zret (w := wX cI cZ ad) (S1 := S) hx hb hr hlk hF hR dX0_areAllBlocked_17 (by decide) (⟨Or.inr ⟨fun q => hb10 (q k (by omega)), rfl⟩, rfl⟩)
  exact loop2 _ 0 (by omega) (fun q hq => absurd hq (Nat.not_lt_zero q)) (Nat.lt_succ_self _) _ _ hR ls (lv_sub hl [1, 2, 0] rfl)
set_option maxHeartbeats 4000000 in
set_option maxRecDepth 100000 in
theorem c_X0_unblockAll {l : Launch} {D : va_G} {cI cZ : ClassId} {ad : Nat → Nat} {B : Nat → Prop} (hG : ∀ S : zS, va_D B (wX cI cZ ad S)) (S : zS) (w : Nat) (hw : w < 4) : zMv l yX0_unblockAll wsX0_unblockAll ({ frames := 1, cells := 0, slots := 0, locals := 21 } : Room) [.ref (ad 9), .int (nI (w))] D (zT cI cZ) B (wX cI cZ ad) S (fun (S1 : zS) => S1 = zU S 8 (sp_unb (S 8) w 4)) := by
  refine zMv_of (cc := cX0_unblockAll) (maxL := 3) (ret := none) (by decide) rfl (Nat.le_of_ble_eq_true rfl) ?_
  intro pg en s mm below meth cd hx hb hr hml hown hts hlk hF hR ls hl
  have hinX0 : ∀ w ∈ wsX00, w ∈ wsX0_unblockAll := by decide +kernel
  have hl : lv_has ls 3 [(0, .ref (ad 9)), (1, .int (nI (w)))] := hl
  refine lv_iconst (v := (nI (0))) hx hb dX0_unblockAll_0 (by decide) ?_
  refine lv_istore_n (lv' := [(2, .int (nI (0))), (0, .ref (ad 9)), (1, .int (nI (w)))]) hx hb dX0_unblockAll_1 rfl hl (by decide) rfl (fun ls hl => ?_)
  have loop2 : ∀ (nf2 : Nat) (k : Nat), (k ≤ 4) → 4 - k < nf2 → ∀ (H : Heap) (locs : List Loc), zR D B (wX cI cZ ad (zU S 8 (sp_unb (S 8) w k))) s H locs → ∀ ls : Array Slot, lv_has ls 3 [(0, .ref (ad 9)), (1, .int (nI (w))), (2, .int (nI (k)))] → W pg l en ({ frames := 1, cells := 0, slots := 0, locals := 21 } : Room) s mm ([.ref (ad 9), .int (nI (w))] : List Value).toArray below meth cd H locs 0 0 (MQ below (va_Qv (fun (S1 : zS) => S1 = zU S 8 (sp_unb (S 8) w 4)) (zB D (zT cI cZ) (wX cI cZ ad)) (zA B s.heap.size)) ([.ref (ad 9), .int (nI (w))] : List Value).toArray s 0 0 (zA B s.heap.size)) (F0 mm 2 ls []) := by
    intro nf2
    induction nf2 with
    | zero => intro k hk4 hn; exact absurd hn (Nat.not_lt_zero _)
    | succ nf2 ih2 =>
      intro k hk4 hn H locs hR ls hl
      refine lv_iload_n hx hb dX0_unblockAll_2 rfl (lv_at hl 2 rfl) ?_
      refine lv_iconst (v := (nI (4))) hx hb dX0_unblockAll_3 (by decide) ?_
      refine z_ge_n (tgt := 24) hx hb dX0_unblockAll_4 (by decide) (by omega) (by omega) (fun h4_1 => ?_) (fun h4_1 => ?_)
      · skip
        exact z_vret (w := wX cI cZ ad) (S1 := (zU S 8 (sp_unb (S 8) w k))) hx hb hr hlk hF hR dX0_unblockAll_24 (by rw [show (4 : Nat) = k from by omega])
      · skip
        refine lv_aload_n hx hb dX0_unblockAll_7 rfl (lv_at hl 0 rfl) ?_
        refine z_get (own := RX0) (C := RX0) (T := TX0) (N := 3) (k := 2) (v := .ref (ad 12)) hx hb hts hinX0 hown hF hR (wX_c9 (zU S 8 (sp_unb (S 8) w k))) rfl (by decide) (by decide +kernel) rfl rfl dX0_unblockAll_8 ?_
        refine lv_iload_n hx hb dX0_unblockAll_11 rfl (lv_at hl 2 rfl) ?_
        refine lv_iload_n hx hb dX0_unblockAll_12 rfl (lv_at hl 1 rfl) ?_
        refine z_callS_i (As := [.int (nI (k)), .int (nI (w))]) (rest := [.ref (ad 12)]) (w := wX cI cZ ad) ⟨hx, hb, hml, hown, hts⟩ hF hR (c_X0_channelOf hG (zU S 8 (sp_unb (S 8) w k)) k w) (va_cwS 2 hts gX0_unblockAll_X0_channelOf rfl rfl rfl (by decide +kernel) ⟨Nat.le_of_ble_eq_true rfl, Nat.le_of_ble_eq_true rfl⟩) rfl hl rfl (Nat.le_of_ble_eq_true rfl) (by decide) dX0_unblockAll_13 (fun r2 S2 H locs hp2 hR => ?_)
        obtain ⟨hr2, hs2⟩ := hp2
        subst r2
        subst S2
        refine lv_iconst (v := (nI (0))) hx hb dX0_unblockAll_16 (by decide) ?_
        refine z_zast_n (f := (sp_unb (S 8) w k)) hx hb hF (hG (zU S 8 (sp_unb (S 8) w k))) hR (wX_c12 (zU S 8 (sp_unb (S 8) w k))) zT_1 (wX_s8 (zU S 8 (sp_unb (S 8) w k)) (upd ((sp_unb (S 8) w k)) (4 * k + w) (nI (0)))) dX0_unblockAll_17 (by decide) (by omega) (by decide +kernel) (fun H locs hR => ?_)
        have hR : zR D B (wX cI cZ ad (zU S 8 (upd ((sp_unb (S 8) w k)) (4 * k + w) (nI (0))))) s H locs := by rw [show (zU S 8 (upd ((sp_unb (S 8) w k)) (4 * k + w) (nI (0)))) = zU (zU S 8 (sp_unb (S 8) w k)) 8 (upd ((sp_unb (S 8) w k)) (4 * k + w) (nI (0))) from (zU_U _ _ _ _).symm]; exact hR
        refine lv_iinc (v := (nI (k + 1))) (lv' := [(2, .int (nI (k + 1))), (0, .ref (ad 9)), (1, .int (nI (w)))]) hx hb dX0_unblockAll_18 hl (k := 2) rfl (z_inc _) (by decide) rfl (fun ls hl => ?_)
        refine lv_goto (tgt := 2) hx hb dX0_unblockAll_21 (by decide) ?_
        exact ih2 (k + 1) (by omega) (by omega) _ _ (by rw [show zU S 8 (sp_unb (S 8) w (k + 1)) = (zU S 8 (upd ((sp_unb (S 8) w k)) (4 * k + w) (nI (0)))) from rfl]; exact hR) ls (lv_sub hl [1, 2, 0] rfl)
  exact loop2 _ 0 (by omega) (Nat.lt_succ_self _) _ _ (by rw [show zU S 8 (sp_unb (S 8) w 0) = S from zU_self S 8]; exact hR) ls (lv_sub hl [1, 2, 0] rfl)
set_option maxHeartbeats 4000000 in
set_option maxRecDepth 100000 in
theorem c_X0_clearAll {l : Launch} {D : va_G} {cI cZ : ClassId} {ad : Nat → Nat} {B : Nat → Prop} (hG : ∀ S : zS, va_D B (wX cI cZ ad S)) (S : zS)  : zMv l yX0_clearAll wsX0_clearAll ({ frames := 0, cells := 0, slots := 0, locals := 0 } : Room) [.ref (ad 9)] D (zT cI cZ) B (wX cI cZ ad) S (fun (S1 : zS) => S1 = zU (zU S 7 (sp_z (S 7) 16)) 8 (sp_z (S 8) 16)) := by
  refine zMv_of (cc := cX0_clearAll) (maxL := 2) (ret := none) (by decide) rfl (Nat.le_of_ble_eq_true rfl) ?_
  intro pg en s mm below meth cd hx hb hr hml hown hts hlk hF hR ls hl
  have hinX0 : ∀ w ∈ wsX00, w ∈ wsX0_clearAll := by decide +kernel
  have hl : lv_has ls 2 [(0, .ref (ad 9))] := hl
  refine lv_iconst (v := (nI (0))) hx hb dX0_clearAll_0 (by decide) ?_
  refine lv_istore_n (lv' := [(1, .int (nI (0))), (0, .ref (ad 9))]) hx hb dX0_clearAll_1 rfl hl (by decide) rfl (fun ls hl => ?_)
  have loop2 : ∀ (nf2 : Nat) (k : Nat), (k ≤ 16) → 16 - k < nf2 → ∀ (H : Heap) (locs : List Loc), zR D B (wX cI cZ ad (zU (zU S 7 (sp_z (S 7) k)) 8 (sp_z (S 8) k))) s H locs → ∀ ls : Array Slot, lv_has ls 2 [(0, .ref (ad 9)), (1, .int (nI (k)))] → W pg l en ({ frames := 0, cells := 0, slots := 0, locals := 0 } : Room) s mm ([.ref (ad 9)] : List Value).toArray below meth cd H locs 0 0 (MQ below (va_Qv (fun (S1 : zS) => S1 = zU (zU S 7 (sp_z (S 7) 16)) 8 (sp_z (S 8) 16)) (zB D (zT cI cZ) (wX cI cZ ad)) (zA B s.heap.size)) ([.ref (ad 9)] : List Value).toArray s 0 0 (zA B s.heap.size)) (F0 mm 2 ls []) := by
    intro nf2
    induction nf2 with
    | zero => intro k hk4 hn; exact absurd hn (Nat.not_lt_zero _)
    | succ nf2 ih2 =>
      intro k hk4 hn H locs hR ls hl
      refine lv_iload_n hx hb dX0_clearAll_2 rfl (lv_at hl 1 rfl) ?_
      refine lv_bipush (v := (nI (16))) hx hb dX0_clearAll_3 (by decide) ?_
      refine z_ge_n (tgt := 28) hx hb dX0_clearAll_5 (by decide) (by omega) (by omega) (fun h5_1 => ?_) (fun h5_1 => ?_)
      · skip
        exact z_vret (w := wX cI cZ ad) (S1 := (zU (zU S 7 (sp_z (S 7) k)) 8 (sp_z (S 8) k))) hx hb hr hlk hF hR dX0_clearAll_28 (by rw [show (16 : Nat) = k from by omega])
      · skip
        refine lv_aload_n hx hb dX0_clearAll_8 rfl (lv_at hl 0 rfl) ?_
        refine z_get (own := RX0) (C := RX0) (T := TX0) (N := 3) (k := 1) (v := .ref (ad 11)) hx hb hts hinX0 hown hF hR (wX_c9 (zU (zU S 7 (sp_z (S 7) k)) 8 (sp_z (S 8) k))) rfl (by decide) (by decide +kernel) rfl rfl dX0_clearAll_9 ?_
        refine lv_iload_n hx hb dX0_clearAll_12 rfl (lv_at hl 1 rfl) ?_
        refine lv_iconst (v := (nI (0))) hx hb dX0_clearAll_13 (by decide) ?_
        refine z_iast_n (f := (sp_z (S 7) k)) hx hb hF (hG (zU (zU S 7 (sp_z (S 7) k)) 8 (sp_z (S 8) k))) hR (wX_c11 (zU (zU S 7 (sp_z (S 7) k)) 8 (sp_z (S 8) k))) zT_0 (wX_s7 (zU (zU S 7 (sp_z (S 7) k)) 8 (sp_z (S 8) k)) (upd ((sp_z (S 7) k)) (k) (nI (0)))) dX0_clearAll_14 (by decide) (by omega) (fun H locs hR => ?_)
        have hR : zR D B (wX cI cZ ad (zU (zU S 7 (upd ((sp_z (S 7) k)) (k) (nI (0)))) 8 (sp_z (S 8) k))) s H locs := by rw [show (zU (zU S 7 (upd ((sp_z (S 7) k)) (k) (nI (0)))) 8 (sp_z (S 8) k)) = zU (zU (zU S 7 (sp_z (S 7) k)) 8 (sp_z (S 8) k)) 7 (upd ((sp_z (S 7) k)) (k) (nI (0))) from by funext j; simp only [zU]; split <;> simp_all]; exact hR
        refine lv_aload_n hx hb dX0_clearAll_15 rfl (lv_at hl 0 rfl) ?_
        refine z_get (own := RX0) (C := RX0) (T := TX0) (N := 3) (k := 2) (v := .ref (ad 12)) hx hb hts hinX0 hown hF hR (wX_c9 (zU (zU S 7 (upd ((sp_z (S 7) k)) (k) (nI (0)))) 8 (sp_z (S 8) k))) rfl (by decide) (by decide +kernel) rfl rfl dX0_clearAll_16 ?_
        refine lv_iload_n hx hb dX0_clearAll_19 rfl (lv_at hl 1 rfl) ?_
        refine lv_iconst (v := (nI (0))) hx hb dX0_clearAll_20 (by decide) ?_
        refine z_zast_n (f := (sp_z (S 8) k)) hx hb hF (hG (zU (zU S 7 (upd ((sp_z (S 7) k)) (k) (nI (0)))) 8 (sp_z (S 8) k))) hR (wX_c12 (zU (zU S 7 (upd ((sp_z (S 7) k)) (k) (nI (0)))) 8 (sp_z (S 8) k))) zT_1 (wX_s8 (zU (zU S 7 (upd ((sp_z (S 7) k)) (k) (nI (0)))) 8 (sp_z (S 8) k)) (upd ((sp_z (S 8) k)) (k) (nI (0)))) dX0_clearAll_21 (by decide) (by omega) (by decide +kernel) (fun H locs hR => ?_)
        have hR : zR D B (wX cI cZ ad (zU (zU S 7 (upd ((sp_z (S 7) k)) (k) (nI (0)))) 8 (upd ((sp_z (S 8) k)) (k) (nI (0))))) s H locs := by rw [show (zU (zU S 7 (upd ((sp_z (S 7) k)) (k) (nI (0)))) 8 (upd ((sp_z (S 8) k)) (k) (nI (0)))) = zU (zU (zU S 7 (upd ((sp_z (S 7) k)) (k) (nI (0)))) 8 (sp_z (S 8) k)) 8 (upd ((sp_z (S 8) k)) (k) (nI (0))) from (zU_U _ _ _ _).symm]; exact hR
        refine lv_iinc (v := (nI (k + 1))) (lv' := [(1, .int (nI (k + 1))), (0, .ref (ad 9))]) hx hb dX0_clearAll_22 hl (k := 1) rfl (z_inc _) (by decide) rfl (fun ls hl => ?_)
        refine lv_goto (tgt := 2) hx hb dX0_clearAll_25 (by decide) ?_
        exact ih2 (k + 1) (by omega) (by omega) _ _ (by rw [show zU (zU S 7 (sp_z (S 7) (k + 1))) 8 (sp_z (S 8) (k + 1)) = (zU (zU S 7 (upd ((sp_z (S 7) k)) (k) (nI (0)))) 8 (upd ((sp_z (S 8) k)) (k) (nI (0)))) from rfl]; exact hR) ls (lv_sub hl [1, 0] rfl)
  exact loop2 _ 0 (by omega) (Nat.lt_succ_self _) _ _ (by rw [show zU (zU S 7 (sp_z (S 7) 0)) 8 (sp_z (S 8) 0) = S from (congrArg (fun z => zU z 8 (S 8)) (zU_self S 7)).trans (zU_self S 8)]; exact hR) ls (lv_sub hl [1, 0] rfl)
set_option maxHeartbeats 4000000 in
set_option maxRecDepth 100000 in
theorem c_X0_sumOfKey {l : Launch} {D : va_G} {cI cZ : ClassId} {ad : Nat → Nat} {B : Nat → Prop} (hG : ∀ S : zS, va_D B (wX cI cZ ad S)) (S : zS) (key : Nat) (hO : zOK S) (hk : key < 32) : zMi l yX0_sumOfKey wsX0_sumOfKey ({ frames := 1, cells := 0, slots := 0, locals := 20 } : Room) [.ref (ad 9), .int (nI (key))] D (zT cI cZ) B (wX cI cZ ad) S (fun (r : Int32) (S1 : zS) => r = (sp_sc S key 16) ∧ S1 = S) := by
  refine zMi_of (cc := cX0_sumOfKey) (maxL := 6) (ret := (some .int)) (by decide) rfl (Nat.le_of_ble_eq_true rfl) ?_
  intro pg en s mm below meth cd hx hb hr hml hown hts hlk hF hR ls hl
  have hinX0 : ∀ w ∈ wsX00, w ∈ wsX0_sumOfKey := by decide +kernel
  have hl : lv_has ls 6 [(0, .ref (ad 9)), (1, .int (nI (key)))] := hl
  refine lv_iconst (v := (nI (0))) hx hb dX0_sumOfKey_0 (by decide) ?_
  refine lv_istore_n (lv' := [(2, .int (nI (0))), (0, .ref (ad 9)), (1, .int (nI (key)))]) hx hb dX0_sumOfKey_1 rfl hl (by decide) rfl (fun ls hl => ?_)
  refine lv_iconst (v := (nI (0))) hx hb dX0_sumOfKey_2 (by decide) ?_
  refine lv_istore_n (lv' := [(3, .int (nI (0))), (2, .int (nI (0))), (0, .ref (ad 9)), (1, .int (nI (key)))]) hx hb dX0_sumOfKey_3 rfl hl (by decide) rfl (fun ls hl => ?_)
  have loop4 : ∀ (nf4 : Nat) (c : Nat), (c ≤ 16) → 16 - c < nf4 → ∀ (H : Heap) (locs : List Loc), zR D B (wX cI cZ ad S) s H locs → ∀ ls : Array Slot, lv_has ls 6 [(0, .ref (ad 9)), (1, .int (nI (key))), (2, .int (sp_sc S key c)), (3, .int (nI (c)))] → W pg l en ({ frames := 1, cells := 0, slots := 0, locals := 20 } : Room) s mm ([.ref (ad 9), .int (nI (key))] : List Value).toArray below meth cd H locs 0 0 (MQ below (va_Qi (fun (r : Int32) (S1 : zS) => r = (sp_sc S key 16) ∧ S1 = S) (zB D (zT cI cZ) (wX cI cZ ad)) (zA B s.heap.size)) ([.ref (ad 9), .int (nI (key))] : List Value).toArray s 0 0 (zA B s.heap.size)) (F0 mm 4 ls []) := by
    intro nf4
    induction nf4 with
    | zero => intro c hc hn; exact absurd hn (Nat.not_lt_zero _)
    | succ nf4 ih4 =>
      intro c hc hn H locs hR ls hl
      refine lv_iload_n hx hb dX0_sumOfKey_4 rfl (lv_at hl 3 rfl) ?_
      refine lv_bipush (v := (nI (16))) hx hb dX0_sumOfKey_5 (by decide) ?_
      refine z_ge_n (tgt := 72) hx hb dX0_sumOfKey_7 (by decide) (by omega) (by omega) (fun h7_1 => ?_) (fun h7_1 => ?_)
      · skip
        refine lv_iload_n hx hb dX0_sumOfKey_72 rfl (lv_at hl 2 rfl) ?_
        exact z_iret (w := wX cI cZ ad) (S1 := S) hx hb hr hlk hF hR dX0_sumOfKey_73 (⟨by rw [show (16 : Nat) = c from by omega], rfl⟩)
      · skip
        refine lv_iconst (v := (nI (0))) hx hb dX0_sumOfKey_10 (by decide) ?_
        refine lv_istore (lv' := [(4, .int (nI (0))), (0, .ref (ad 9)), (1, .int (nI (key))), (2, .int (sp_sc S key c)), (3, .int (nI (c)))]) hx hb dX0_sumOfKey_11 hl (by decide) rfl (fun ls hl => ?_)
        have loop13 : ∀ (nf13 : Nat) (j : Nat), (j ≤ zn S 7 c) → zn S 7 c - j < nf13 → ∀ (H : Heap) (locs : List Loc), zR D B (wX cI cZ ad S) s H locs → ∀ ls : Array Slot, lv_has ls 6 [(0, .ref (ad 9)), (1, .int (nI (key))), (2, .int (sp_sk (S 6) key (8 * c) j (sp_sc S key c))), (3, .int (nI (c))), (4, .int (nI (j)))] → W pg l en ({ frames := 1, cells := 0, slots := 0, locals := 20 } : Room) s mm ([.ref (ad 9), .int (nI (key))] : List Value).toArray below meth cd H locs 0 0 (MQ below (va_Qi (fun (r : Int32) (S1 : zS) => r = (sp_sc S key 16) ∧ S1 = S) (zB D (zT cI cZ) (wX cI cZ ad)) (zA B s.heap.size)) ([.ref (ad 9), .int (nI (key))] : List Value).toArray s 0 0 (zA B s.heap.size)) (F0 mm 13 ls []) := by
          intro nf13
          induction nf13 with
          | zero => intro j hj hn; exact absurd hn (Nat.not_lt_zero _)
          | succ nf13 ih13 =>
            intro j hj hn H locs hR ls hl
            refine lv_iload hx hb dX0_sumOfKey_13 (lv_at hl 4 rfl) ?_
            refine lv_aload_n hx hb dX0_sumOfKey_15 rfl (lv_at hl 0 rfl) ?_
            refine z_get (own := RX0) (C := RX0) (T := TX0) (N := 3) (k := 1) (v := .ref (ad 11)) hx hb hts hinX0 hown hF hR (wX_c9 S) rfl (by decide) (by decide +kernel) rfl rfl dX0_sumOfKey_16 ?_
            refine lv_iload_n hx hb dX0_sumOfKey_19 rfl (lv_at hl 3 rfl) ?_
            refine z_iald_n (f := S 7) hx hb hF hR (wX_c11 S) zT_0 dX0_sumOfKey_20 (by decide) (by omega) ?_
            refine lv_topi (fun v3 ev3 => ?_)
            obtain rfl : v3 = (nI (zn S 7 (c))) := ev3.trans (zOK.n7 hO _).1
            have hb20_2 := (zOK.n7 hO (c)).2
            refine z_ge_n (tgt := 66) hx hb dX0_sumOfKey_21 (by decide) (by omega) (by omega) (fun h21_4 => ?_) (fun h21_4 => ?_)
            · skip
              have hl : lv_has ls 6 [(0, .ref (ad 9)), (1, .int (nI (key))), (2, .int (sp_sc S key (c + 1))), (3, .int (nI (c))), (4, .int (nI (j)))] := (by rw [show sp_sc S key (c + 1) = sp_sk (S 6) key (8 * c) j (sp_sc S key c) from by rw [show j = zn S 7 c from by omega]; rfl]; exact hl)
              refine lv_iinc (v := (nI (c + 1))) (lv' := [(3, .int (nI (c + 1))), (0, .ref (ad 9)), (1, .int (nI (key))), (2, .int (sp_sc S key (c + 1))), (4, .int (nI (j)))]) hx hb dX0_sumOfKey_66 hl (k := 3) rfl (z_inc _) (by decide) rfl (fun ls hl => ?_)
              refine lv_goto (tgt := 4) hx hb dX0_sumOfKey_69 (by decide) ?_
              exact ih4 (c + 1) (by omega) (by omega) _ _ hR ls (lv_sub hl [1, 2, 3, 0] rfl)
            · skip
              refine lv_aload_n hx hb dX0_sumOfKey_24 rfl (lv_at hl 0 rfl) ?_
              refine z_get (own := RX0) (C := RX0) (T := TX0) (N := 3) (k := 0) (v := .ref (ad 10)) hx hb hts hinX0 hown hF hR (wX_c9 S) rfl (by decide) (by decide +kernel) rfl rfl dX0_sumOfKey_25 ?_
              refine lv_iload_n hx hb dX0_sumOfKey_28 rfl (lv_at hl 3 rfl) ?_
              refine lv_bipush (v := (nI (8))) hx hb dX0_sumOfKey_29 (by decide) ?_
              refine z_imul_n hx hb dX0_sumOfKey_31 ?_
              refine lv_iload hx hb dX0_sumOfKey_32 (lv_at hl 4 rfl) ?_
              refine z_iadd_n hx hb dX0_sumOfKey_34 ?_
              refine lv_topi (fun v5 ev5 => ?_)
              obtain rfl : v5 = nI (8 * c + j) := ev5.trans (congrArg nI (by omega))
              refine z_iald_n (f := S 6) hx hb hF hR (wX_c10 S) zT_0 dX0_sumOfKey_35 (by decide) (by omega) ?_
              refine lv_istore (lv' := [(5, .int (S 6 (8 * c + j))), (0, .ref (ad 9)), (1, .int (nI (key))), (2, .int (sp_sk (S 6) key (8 * c) j (sp_sc S key c))), (3, .int (nI (c))), (4, .int (nI (j)))]) hx hb dX0_sumOfKey_36 hl (by decide) rfl (fun ls hl => ?_)
              refine lv_iload hx hb dX0_sumOfKey_38 (lv_at hl 0 rfl) ?_
              refine lv_if_le (tgt := 60) hx hb dX0_sumOfKey_40 (by decide) (fun h40_6 => ?_) (fun h40_6 => ?_)
              · skip
                have q40 := h40_6
                have hl : lv_has ls 6 [(5, .int (S 6 (8 * c + j))), (0, .ref (ad 9)), (1, .int (nI (key))), (2, .int (sp_sk (S 6) key (8 * c) (j + 1) (sp_sc S key c))), (3, .int (nI (c))), (4, .int (nI (j)))] := (by rw [show sp_sk (S 6) key (8 * c) (j + 1) (sp_sc S key c) = sp_add (S 6 (8 * c + j)) key (sp_sk (S 6) key (8 * c) j (sp_sc S key c)) from rfl]; first | (rw [sp_add_yes q40 q49]; exact hl) | (rw [sp_add_no (fun q => q49 q.2)]; exact hl) | (rw [sp_add_no (fun q => absurd q.1 (Int32.not_lt.mpr q40))]; exact hl))
                refine lv_iinc (v := (nI (j + 1))) (lv' := [(4, .int (nI (j + 1))), (5, .int (S 6 (8 * c + j))), (0, .ref (ad 9)), (1, .int (nI (key))), (2, .int (sp_sk (S 6) key (8 * c) (j + 1) (sp_sc S key c))), (3, .int (nI (c)))]) hx hb dX0_sumOfKey_60 hl (k := 5) rfl (z_inc _) (by decide) rfl (fun ls hl => ?_)
                refine lv_goto (tgt := 13) hx hb dX0_sumOfKey_63 (by decide) ?_
                exact ih13 (j + 1) (by omega) (by omega) _ _ hR ls (lv_sub hl [2, 3, 4, 5, 0] rfl)
              · skip
                have q40 : 0 < S 6 (8 * c + j) := Int32.not_le.mp h40_6
                have hb40 := (zOK.pos hO q40).2
                have hl : lv_has ls 6 [(5, .int (nI (zn S 6 (8 * c + j)))), (0, .ref (ad 9)), (1, .int (nI (key))), (2, .int (sp_sk (S 6) key (8 * c) j (sp_sc S key c))), (3, .int (nI (c))), (4, .int (nI (j)))] := (by rw [← (zOK.pos hO q40).1]; exact hl)
                refine lv_iload hx hb dX0_sumOfKey_43 (lv_at hl 0 rfl) ?_
                refine z_callSN_i (As := [.int (nI (zn S 6 (8 * c + j)))]) (rest := []) (w := wX cI cZ ad) ⟨hx, hb, hml, hown, hts⟩ hF hR (c_X4_keyOf hG S (zn S 6 (8 * c + j)) (by omega)) ⟨va_cnB (host := RX4) 1 hts gX0_sumOfKey_X4_keyOf_n33 rfl rfl rfl (hF.2.2.2.1 _ (by decide +kernel)) (hts (.initialized RX4) (by decide +kernel)) (by decide +kernel) ⟨Nat.le_of_ble_eq_true rfl, Nat.le_of_ble_eq_true rfl⟩, hts (.static yX4_keyOf) (by decide +kernel), trivial⟩ rfl hl rfl (Nat.le_of_ble_eq_true rfl) (by decide) dX0_sumOfKey_45 (fun r7 S7 H locs hp7 hR => ?_)
                obtain ⟨hr7, hs7⟩ := hp7
                subst r7
                subst S7
                refine lv_iload_n hx hb dX0_sumOfKey_48 rfl (lv_at hl 2 rfl) ?_
                refine z_ne_n (tgt := 60) hx hb dX0_sumOfKey_49 (by decide) (by omega) (by omega) (fun h49_8 => ?_) (fun h49_8 => ?_)
                · skip
                  have q49 := h49_8
                  have hl : lv_has ls 6 [(5, .int (nI (zn S 6 (8 * c + j)))), (0, .ref (ad 9)), (1, .int (nI (key))), (2, .int (sp_sk (S 6) key (8 * c) (j + 1) (sp_sc S key c))), (3, .int (nI (c))), (4, .int (nI (j)))] := (by rw [show sp_sk (S 6) key (8 * c) (j + 1) (sp_sc S key c) = sp_add (S 6 (8 * c + j)) key (sp_sk (S 6) key (8 * c) j (sp_sc S key c)) from rfl]; first | (rw [sp_add_yes q40 q49]; exact hl) | (rw [sp_add_no (fun q => q49 q.2)]; exact hl) | (rw [sp_add_no (fun q => absurd q.1 (Int32.not_lt.mpr q40))]; exact hl))
                  refine lv_iinc (v := (nI (j + 1))) (lv' := [(4, .int (nI (j + 1))), (5, .int (nI (zn S 6 (8 * c + j)))), (0, .ref (ad 9)), (1, .int (nI (key))), (2, .int (sp_sk (S 6) key (8 * c) (j + 1) (sp_sc S key c))), (3, .int (nI (c)))]) hx hb dX0_sumOfKey_60 hl (k := 5) rfl (z_inc _) (by decide) rfl (fun ls hl => ?_)
                  refine lv_goto (tgt := 13) hx hb dX0_sumOfKey_63 (by decide) ?_
                  exact ih13 (j + 1) (by omega) (by omega) _ _ hR ls (lv_sub hl [2, 3, 4, 5, 0] rfl)
                · skip
                  have q49 := h49_8
                  refine lv_iload_n hx hb dX0_sumOfKey_52 rfl (lv_at hl 3 rfl) ?_
                  refine lv_iload hx hb dX0_sumOfKey_53 (lv_at hl 0 rfl) ?_
                  refine z_callSN_i (As := [.int (nI (zn S 6 (8 * c + j)))]) (rest := [.int (sp_sk (S 6) key (8 * c) j (sp_sc S key c))]) (w := wX cI cZ ad) ⟨hx, hb, hml, hown, hts⟩ hF hR (c_X4_valueOf hG S (zn S 6 (8 * c + j)) (by omega)) ⟨va_cnB (host := RX4) 1 hts gX0_sumOfKey_X4_valueOf_n37 rfl rfl rfl (hF.2.2.2.1 _ (by decide +kernel)) (hts (.initialized RX4) (by decide +kernel)) (by decide +kernel) ⟨Nat.le_of_ble_eq_true rfl, Nat.le_of_ble_eq_true rfl⟩, hts (.static yX4_valueOf) (by decide +kernel), trivial⟩ rfl hl rfl (Nat.le_of_ble_eq_true rfl) (by decide) dX0_sumOfKey_55 (fun r9 S9 H locs hp9 hR => ?_)
                  obtain ⟨hr9, hs9⟩ := hp9
                  subst r9
                  subst S9
                  refine lv_iadd hx hb dX0_sumOfKey_58 ?_
                  refine lv_istore_n (lv' := [(2, .int ((sp_sk (S 6) key (8 * c) j (sp_sc S key c)) + (nI ((zn S 6 (8 * c + j)) % 1000)))), (5, .int (nI (zn S 6 (8 * c + j)))), (0, .ref (ad 9)), (1, .int (nI (key))), (3, .int (nI (c))), (4, .int (nI (j)))]) hx hb dX0_sumOfKey_59 rfl hl (by decide) rfl (fun ls hl => ?_)
                  have hl : lv_has ls 6 [(2, .int (sp_sk (S 6) key (8 * c) (j + 1) (sp_sc S key c))), (5, .int (nI (zn S 6 (8 * c + j)))), (0, .ref (ad 9)), (1, .int (nI (key))), (3, .int (nI (c))), (4, .int (nI (j)))] := (by rw [show sp_sk (S 6) key (8 * c) (j + 1) (sp_sc S key c) = sp_add (S 6 (8 * c + j)) key (sp_sk (S 6) key (8 * c) j (sp_sc S key c)) from rfl]; first | (rw [sp_add_yes q40 q49]; exact hl) | (rw [sp_add_no (fun q => q49 q.2)]; exact hl) | (rw [sp_add_no (fun q => absurd q.1 (Int32.not_lt.mpr q40))]; exact hl))
                  refine lv_iinc (v := (nI (j + 1))) (lv' := [(4, .int (nI (j + 1))), (2, .int (sp_sk (S 6) key (8 * c) (j + 1) (sp_sc S key c))), (5, .int (nI (zn S 6 (8 * c + j)))), (0, .ref (ad 9)), (1, .int (nI (key))), (3, .int (nI (c)))]) hx hb dX0_sumOfKey_60 hl (k := 5) rfl (z_inc _) (by decide) rfl (fun ls hl => ?_)
                  refine lv_goto (tgt := 13) hx hb dX0_sumOfKey_63 (by decide) ?_
                  exact ih13 (j + 1) (by omega) (by omega) _ _ hR ls (lv_sub hl [3, 4, 1, 5, 0] rfl)
        have hn8 := (zOK.n7 hO c).2
        exact loop13 _ 0 (by omega) (Nat.lt_succ_self _) _ _ hR ls (lv_sub hl [1, 2, 3, 4, 0] rfl)
  exact loop4 _ 0 (by omega) (Nat.lt_succ_self _) _ _ hR ls (lv_sub hl [2, 3, 1, 0] rfl)
