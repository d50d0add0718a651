set_option maxHeartbeats 4000000 in
set_option maxRecDepth 100000 in
theorem c_X4_requirePartition_ok {l : Launch} {D : va_G} {cI cZ : ClassId} {ad : Nat → Nat} {B : Nat → Prop} (hG : ∀ S : zS, va_D B (wX cI cZ ad S)) (S : zS) (p : Nat) (hp : p < 4) : zMv l yX4_requirePartition wsX4_requirePartition ({ frames := 0, cells := 0, slots := 0, locals := 0 } : Room) [.int (nI (p))] D (zT cI cZ) B (wX cI cZ ad) S (fun (S1 : zS) => S1 = S) := by
  refine zMv_of (cc := cX4_requirePartition) (maxL := 1) (ret := none) (by decide) rfl (Nat.le_of_ble_eq_true rfl) ?_
  intro pg en s mm below meth cd hx hb hr hml hown hts hlk hF hR ls hl
  have hl : lv_has ls 1 [(0, .int (nI (p)))] := hl
  refine lv_iload_n hx hb dX4_requirePartition_0 rfl (lv_at hl 0 rfl) ?_
  refine z_if_lt_n (tgt := 9) hx hb dX4_requirePartition_1 (by decide) (by omega) (fun h1_1 => h1_1.elim) (fun h1_1 => ?_)
  refine lv_iload_n hx hb dX4_requirePartition_4 rfl (lv_at hl 0 rfl) ?_
  refine lv_iconst (v := (nI (4))) hx hb dX4_requirePartition_5 (by decide) ?_
  refine z_lt_n (tgt := 19) hx hb dX4_requirePartition_6 (by decide) (by omega) (by omega) (fun h6_2 => ?_) (fun h6_2 => by omega)
  exact z_vret (w := wX cI cZ ad) (S1 := S) hx hb hr hlk hF hR dX4_requirePartition_19 (rfl)
set_option maxHeartbeats 4000000 in
set_option maxRecDepth 100000 in
theorem c_X4_requirePartition_bad {l : Launch} {D : va_G} {cI cZ : ClassId} {ad : Nat → Nat} {B : Nat → Prop} (hG : ∀ S : zS, va_D B (wX cI cZ ad S)) (hfl : l.stackTraces = false) (S : zS) (x : Int32) (hx4 : zbad x 4) : zMXv l yX4_requirePartition wsX4_requirePartition ({ frames := 6, cells := 1, slots := 6, locals := 82 } : Room) [.int (x)] D (zT cI cZ) B (wX cI cZ ad) S (fun (_ : zS) => False) (fun E => E = zIO) := by
  refine zMXv_of (cc := cX4_requirePartition) (maxL := 1) (ret := none) (by decide) rfl (Nat.le_of_ble_eq_true rfl) ?_
  intro pg en s mm below meth cd hx hb hr hml hown hts hlk hex hF hR ls hl
  have hl : lv_has ls 1 [(0, .int (x))] := hl
  refine lv_iload_n hx hb dX4_requirePartition_0 rfl (lv_at hl 0 rfl) ?_
  refine lv_if_lt (tgt := 9) hx hb dX4_requirePartition_1 (by decide) (fun h1_1 => ?_) (fun h1_1 => ?_)
  · skip
    have q1 := h1_1
    exact z_throw (Ts := wsX4_requirePartition) (w := wX cI cZ ad) (cls := "java/lang/IndexOutOfBoundsException") hx hb hfl hml hown hts hlk hex hF hR hl (by decide +kernel) (by decide +kernel) (by decide +kernel) (by decide +kernel) (by decide +kernel) (by decide +kernel) (List.mem_of_getElem? (i := 13) rfl) (by decide) dX4_requirePartition_9 dX4_requirePartition_12 dX4_requirePartition_13 dX4_requirePartition_15 dX4_requirePartition_18 (rfl)
  · skip
    have q1 := h1_1
    refine lv_iload_n hx hb dX4_requirePartition_4 rfl (lv_at hl 0 rfl) ?_
    refine lv_iconst (v := (nI (4))) hx hb dX4_requirePartition_5 (by decide) ?_
    refine lv_icmp_lt (tgt := 19) hx hb dX4_requirePartition_6 (by decide) (fun h6_2 => (zbad_no hx4 q1 h6_2).elim) (fun h6_2 => ?_)
    exact z_throw (Ts := wsX4_requirePartition) (w := wX cI cZ ad) (cls := "java/lang/IndexOutOfBoundsException") hx hb hfl hml hown hts hlk hex hF hR hl (by decide +kernel) (by decide +kernel) (by decide +kernel) (by decide +kernel) (by decide +kernel) (by decide +kernel) (List.mem_of_getElem? (i := 13) rfl) (by decide) dX4_requirePartition_9 dX4_requirePartition_12 dX4_requirePartition_13 dX4_requirePartition_15 dX4_requirePartition_18 (rfl)
set_option maxHeartbeats 4000000 in
set_option maxRecDepth 100000 in
theorem c_X4_requireKey_ok {l : Launch} {D : va_G} {cI cZ : ClassId} {ad : Nat → Nat} {B : Nat → Prop} (hG : ∀ S : zS, va_D B (wX cI cZ ad S)) (S : zS) (key : Nat) (hk : key < 32) : zMv l yX4_requireKey wsX4_requireKey ({ frames := 0, cells := 0, slots := 0, locals := 0 } : Room) [.int (nI (key))] D (zT cI cZ) B (wX cI cZ ad) S (fun (S1 : zS) => S1 = S) := by
  refine zMv_of (cc := cX4_requireKey) (maxL := 1) (ret := none) (by decide) rfl (Nat.le_of_ble_eq_true rfl) ?_
  intro pg en s mm below meth cd hx hb hr hml hown hts hlk hF hR ls hl
  have hl : lv_has ls 1 [(0, .int (nI (key)))] := hl
  refine lv_iload_n hx hb dX4_requireKey_0 rfl (lv_at hl 0 rfl) ?_
  refine z_if_lt_n (tgt := 10) hx hb dX4_requireKey_1 (by decide) (by omega) (fun h1_1 => h1_1.elim) (fun h1_1 => ?_)
  refine lv_iload_n hx hb dX4_requireKey_4 rfl (lv_at hl 0 rfl) ?_
  refine lv_bipush (v := (nI (32))) hx hb dX4_requireKey_5 (by decide) ?_
  refine z_lt_n (tgt := 20) hx hb dX4_requireKey_7 (by decide) (by omega) (by omega) (fun h7_2 => ?_) (fun h7_2 => by omega)
  exact z_vret (w := wX cI cZ ad) (S1 := S) hx hb hr hlk hF hR dX4_requireKey_20 (rfl)
set_option maxHeartbeats 4000000 in
set_option maxRecDepth 100000 in
theorem c_X4_requireKey_bad {l : Launch} {D : va_G} {cI cZ : ClassId} {ad : Nat → Nat} {B : Nat → Prop} (hG : ∀ S : zS, va_D B (wX cI cZ ad S)) (hfl : l.stackTraces = false) (S : zS) (x : Int32) (hx4 : zbad x 32) : zMXv l yX4_requireKey wsX4_requireKey ({ frames := 6, cells := 1, slots := 6, locals := 82 } : Room) [.int (x)] D (zT cI cZ) B (wX cI cZ ad) S (fun (_ : zS) => False) (fun E => E = zIO) := by
  refine zMXv_of (cc := cX4_requireKey) (maxL := 1) (ret := none) (by decide) rfl (Nat.le_of_ble_eq_true rfl) ?_
  intro pg en s mm below meth cd hx hb hr hml hown hts hlk hex hF hR ls hl
  have hl : lv_has ls 1 [(0, .int (x))] := hl
  refine lv_iload_n hx hb dX4_requireKey_0 rfl (lv_at hl 0 rfl) ?_
  refine lv_if_lt (tgt := 10) hx hb dX4_requireKey_1 (by decide) (fun h1_1 => ?_) (fun h1_1 => ?_)
  · skip
    have q1 := h1_1
    exact z_throw (Ts := wsX4_requireKey) (w := wX cI cZ ad) (cls := "java/lang/IndexOutOfBoundsException") hx hb hfl hml hown hts hlk hex hF hR hl (by decide +kernel) (by decide +kernel) (by decide +kernel) (by decide +kernel) (by decide +kernel) (by decide +kernel) (List.mem_of_getElem? (i := 14) rfl) (by decide) dX4_requireKey_10 dX4_requireKey_13 dX4_requireKey_14 dX4_requireKey_16 dX4_requireKey_19 (rfl)
  · skip
    have q1 := h1_1
    refine lv_iload_n hx hb dX4_requireKey_4 rfl (lv_at hl 0 rfl) ?_
    refine lv_bipush (v := (nI (32))) hx hb dX4_requireKey_5 (by decide) ?_
    refine lv_icmp_lt (tgt := 20) hx hb dX4_requireKey_7 (by decide) (fun h7_2 => (zbad_no hx4 q1 h7_2).elim) (fun h7_2 => ?_)
    exact z_throw (Ts := wsX4_requireKey) (w := wX cI cZ ad) (cls := "java/lang/IndexOutOfBoundsException") hx hb hfl hml hown hts hlk hex hF hR hl (by decide +kernel) (by decide +kernel) (by decide +kernel) (by decide +kernel) (by decide +kernel) (by decide +kernel) (List.mem_of_getElem? (i := 14) rfl) (by decide) dX4_requireKey_10 dX4_requireKey_13 dX4_requireKey_14 dX4_requireKey_16 dX4_requireKey_19 (rfl)
set_option maxHeartbeats 4000000 in
set_option maxRecDepth 100000 in
theorem c_X4_requireWorker_ok {l : Launch} {D : va_G} {cI cZ : ClassId} {ad : Nat → Nat} {B : Nat → Prop} (hG : ∀ S : zS, va_D B (wX cI cZ ad S)) (S : zS) (w : Nat) (hO : zOK S) (hw : w < zn S 22 0) : zMv l yX4_requireWorker wsX4_requireWorker ({ frames := 0, cells := 0, slots := 0, locals := 0 } : Room) [.ref (ad 0), .int (nI (w))] D (zT cI cZ) B (wX cI cZ ad) S (fun (S1 : zS) => S1 = S) := by
  refine zMv_of (cc := cX4_requireWorker) (maxL := 2) (ret := none) (by decide) rfl (Nat.le_of_ble_eq_true rfl) ?_
  intro pg en s mm below meth cd hx hb hr hml hown hts hlk hF hR ls hl
  have hinX4 : ∀ w ∈ wsX40, w ∈ wsX4_requireWorker := by decide +kernel
  have hl : lv_has ls 2 [(0, .ref (ad 0)), (1, .int (nI (w)))] := hl
  have hW1 := (zOK.w hO).2.1
  have hW4 := (zOK.w hO).2.2
  refine lv_iload_n hx hb dX4_requireWorker_0 rfl (lv_at hl 1 rfl) ?_
  refine z_if_lt_n (tgt := 12) hx hb dX4_requireWorker_1 (by decide) (by omega) (fun h1_1 => h1_1.elim) (fun h1_1 => ?_)
  refine lv_iload_n hx hb dX4_requireWorker_4 rfl (lv_at hl 1 rfl) ?_
  refine lv_aload_n hx hb dX4_requireWorker_5 rfl (lv_at hl 0 rfl) ?_
  refine z_get (own := RX4) (C := RX4) (T := TX4) (N := 14) (k := 10) (v := .int (S 22 0)) hx hb hts hinX4 hown hF hR (wX_c0 S) rfl (by decide) (by decide +kernel) rfl rfl dX4_requireWorker_6 ?_
  refine lv_topi (fun v2 ev2 => ?_)
  obtain rfl : v2 = (nI (zn S 22 0)) := ev2.trans (zOK.w hO).1
  refine z_lt_n (tgt := 22) hx hb dX4_requireWorker_9 (by decide) (by omega) (by omega) (fun h9_3 => ?_) (fun h9_3 => by omega)
  exact z_vret (w := wX cI cZ ad) (S1 := S) hx hb hr hlk hF hR dX4_requireWorker_22 (rfl)
set_option maxHeartbeats 4000000 in
set_option maxRecDepth 100000 in
theorem c_X4_requireWorker_bad {l : Launch} {D : va_G} {cI cZ : ClassId} {ad : Nat → Nat} {B : Nat → Prop} (hG : ∀ S : zS, va_D B (wX cI cZ ad S)) (hfl : l.stackTraces = false) (S : zS) (x : Int32) (hO : zOK S) (hx4 : zbad x (zn S 22 0)) : zMXv l yX4_requireWorker wsX4_requireWorker ({ frames := 6, cells := 1, slots := 6, locals := 82 } : Room) [.ref (ad 0), .int (x)] D (zT cI cZ) B (wX cI cZ ad) S (fun (_ : zS) => False) (fun E => E = zIO) := by
  refine zMXv_of (cc := cX4_requireWorker) (maxL := 2) (ret := none) (by decide) rfl (Nat.le_of_ble_eq_true rfl) ?_
  intro pg en s mm below meth cd hx hb hr hml hown hts hlk hex hF hR ls hl
  have hinX4 : ∀ w ∈ wsX40, w ∈ wsX4_requireWorker := by decide +kernel
  have hl : lv_has ls 2 [(0, .ref (ad 0)), (1, .int (x))] := hl
  have hW1 := (zOK.w hO).2.1
  have hW4 := (zOK.w hO).2.2
  refine lv_iload_n hx hb dX4_requireWorker_0 rfl (lv_at hl 1 rfl) ?_
  refine lv_if_lt (tgt := 12) hx hb dX4_requireWorker_1 (by decide) (fun h1_1 => ?_) (fun h1_1 => ?_)
  · skip
    have q1 := h1_1
    exact z_throw (Ts := wsX4_requireWorker) (w := wX cI cZ ad) (cls := "java/lang/IndexOutOfBoundsException") hx hb hfl hml hown hts hlk hex hF hR hl (by decide +kernel) (by decide +kernel) (by decide +kernel) (by decide +kernel) (by decide +kernel) (by decide +kernel) (List.mem_of_getElem? (i := 15) rfl) (by decide) dX4_requireWorker_12 dX4_requireWorker_15 dX4_requireWorker_16 dX4_requireWorker_18 dX4_requireWorker_21 (rfl)
  · skip
    have q1 := h1_1
    refine lv_iload_n hx hb dX4_requireWorker_4 rfl (lv_at hl 1 rfl) ?_
    refine lv_aload_n hx hb dX4_requireWorker_5 rfl (lv_at hl 0 rfl) ?_
    refine z_get (own := RX4) (C := RX4) (T := TX4) (N := 14) (k := 10) (v := .int (S 22 0)) hx hb hts hinX4 hown hF hR (wX_c0 S) rfl (by decide) (by decide +kernel) rfl rfl dX4_requireWorker_6 ?_
    refine lv_topi (fun v2 ev2 => ?_)
    obtain rfl : v2 = (nI (zn S 22 0)) := ev2.trans (zOK.w hO).1
    refine lv_icmp_lt (tgt := 22) hx hb dX4_requireWorker_9 (by decide) (fun h9_3 => (zbad_no hx4 q1 h9_3).elim) (fun h9_3 => ?_)
    exact z_throw (Ts := wsX4_requireWorker) (w := wX cI cZ ad) (cls := "java/lang/IndexOutOfBoundsException") hx hb hfl hml hown hts hlk hex hF hR hl (by decide +kernel) (by decide +kernel) (by decide +kernel) (by decide +kernel) (by decide +kernel) (by decide +kernel) (List.mem_of_getElem? (i := 15) rfl) (by decide) dX4_requireWorker_12 dX4_requireWorker_15 dX4_requireWorker_16 dX4_requireWorker_18 dX4_requireWorker_21 (rfl)
set_option maxHeartbeats 4000000 in
set_option maxRecDepth 100000 in
theorem c_X4_append_e1 {l : Launch} {D : va_G} {cI cZ : ClassId} {ad : Nat → Nat} {B : Nat → Prop} (hG : ∀ S : zS, va_D B (wX cI cZ ad S)) (hfl : l.stackTraces = false) (S : zS) (x y z : Int32) (hO : zOK S) (hxb : zbad x 4) : zMXi l yX4_append wsX4_append ({ frames := 7, cells := 1, slots := 6, locals := 102 } : Room) [.ref (ad 0), .int (x), .int (y), .int (z)] D (zT cI cZ) B (wX cI cZ ad) S (fun (_ : Int32) (_ : zS) => False) (fun E => E = zIO) := by
  refine zMXi_of (cc := cX4_append) (maxL := 4) (ret := (some .int)) (by decide) rfl (Nat.le_of_ble_eq_true rfl) ?_
  intro pg en s mm below meth cd hx hb hr hml hown hts hlk hex hF hR ls hl
  have hinX1 : ∀ w ∈ wsX10, w ∈ wsX4_append := by decide +kernel
  have hinX4 : ∀ w ∈ wsX40, w ∈ wsX4_append := by decide +kernel
  have hl : lv_has ls 4 [(0, .ref (ad 0)), (1, .int (x)), (2, .int (y)), (3, .int (z))] := hl
  refine lv_iload_n hx hb dX4_append_0 rfl (lv_at hl 1 rfl) ?_
  exact z_badS (As := [.int (x)]) (rest := []) (w := wX cI cZ ad) ⟨hx, hb, hml, hown, hts⟩ hlk hex hF hR (c_X4_requirePartition_bad hG hfl S ((x)) hxb) (va_cwS 1 hts gX4_append_X4_requirePartition rfl rfl rfl (by decide +kernel) ⟨Nat.le_of_ble_eq_true rfl, Nat.le_of_ble_eq_true rfl⟩) rfl hl rfl (Nat.le_of_ble_eq_true rfl) (by decide) dX4_append_1 (fun E h => h)
set_option maxHeartbeats 4000000 in
set_option maxRecDepth 100000 in
theorem c_X4_append_e2 {l : Launch} {D : va_G} {cI cZ : ClassId} {ad : Nat → Nat} {B : Nat → Prop} (hG : ∀ S : zS, va_D B (wX cI cZ ad S)) (hfl : l.stackTraces = false) (S : zS) (p : Nat) (y z : Int32) (hO : zOK S) (hp : p < 4) (hxb : zbad y 32) : zMXi l yX4_append wsX4_append ({ frames := 7, cells := 1, slots := 6, locals := 102 } : Room) [.ref (ad 0), .int (nI (p)), .int (y), .int (z)] D (zT cI cZ) B (wX cI cZ ad) S (fun (_ : Int32) (_ : zS) => False) (fun E => E = zIO) := by
  refine zMXi_of (cc := cX4_append) (maxL := 4) (ret := (some .int)) (by decide) rfl (Nat.le_of_ble_eq_true rfl) ?_
  intro pg en s mm below meth cd hx hb hr hml hown hts hlk hex hF hR ls hl
  have hinX1 : ∀ w ∈ wsX10, w ∈ wsX4_append := by decide +kernel
  have hinX4 : ∀ w ∈ wsX40, w ∈ wsX4_append := by decide +kernel
  have hl : lv_has ls 4 [(0, .ref (ad 0)), (1, .int (nI (p))), (2, .int (y)), (3, .int (z))] := hl
  refine lv_iload_n hx hb dX4_append_0 rfl (lv_at hl 1 rfl) ?_
  refine z_callS_v (As := [.int (nI (p))]) (rest := []) (w := wX cI cZ ad) ⟨hx, hb, hml, hown, hts⟩ hF hR (c_X4_requirePartition_ok hG S p (by omega)) (va_cwS 1 hts gX4_append_X4_requirePartition rfl rfl rfl (by decide +kernel) ⟨Nat.le_of_ble_eq_true rfl, Nat.le_of_ble_eq_true rfl⟩) rfl hl rfl (Nat.le_of_ble_eq_true rfl) (by decide) dX4_append_1 (fun S1 H locs hp1 hR => ?_)
  subst S1
  refine lv_iload_n hx hb dX4_append_4 rfl (lv_at hl 2 rfl) ?_
  exact z_badS (As := [.int (y)]) (rest := []) (w := wX cI cZ ad) ⟨hx, hb, hml, hown, hts⟩ hlk hex hF hR (c_X4_requireKey_bad hG hfl S ((y)) hxb) (va_cwS 1 hts gX4_append_X4_requireKey rfl rfl rfl (by decide +kernel) ⟨Nat.le_of_ble_eq_true rfl, Nat.le_of_ble_eq_true rfl⟩) rfl hl rfl (Nat.le_of_ble_eq_true rfl) (by decide) dX4_append_5 (fun E h => h)
set_option maxHeartbeats 4000000 in
set_option maxRecDepth 100000 in
theorem c_X4_append_e3 {l : Launch} {D : va_G} {cI cZ : ClassId} {ad : Nat → Nat} {B : Nat → Prop} (hG : ∀ S : zS, va_D B (wX cI cZ ad S)) (hfl : l.stackTraces = false) (S : zS) (p key : Nat) (z : Int32) (hO : zOK S) (hp : p < 4) (hk : key < 32) (hz : zbadv z 1 100) : zMXi l yX4_append wsX4_append ({ frames := 7, cells := 1, slots := 6, locals := 102 } : Room) [.ref (ad 0), .int (nI (p)), .int (nI (key)), .int (z)] D (zT cI cZ) B (wX cI cZ ad) S (fun (_ : Int32) (_ : zS) => False) (fun E => E = zIA) := by
  refine zMXi_of (cc := cX4_append) (maxL := 4) (ret := (some .int)) (by decide) rfl (Nat.le_of_ble_eq_true rfl) ?_
  intro pg en s mm below meth cd hx hb hr hml hown hts hlk hex hF hR ls hl
  have hinX1 : ∀ w ∈ wsX10, w ∈ wsX4_append := by decide +kernel
  have hinX4 : ∀ w ∈ wsX40, w ∈ wsX4_append := by decide +kernel
  have hl : lv_has ls 4 [(0, .ref (ad 0)), (1, .int (nI (p))), (2, .int (nI (key))), (3, .int (z))] := hl
  refine lv_iload_n hx hb dX4_append_0 rfl (lv_at hl 1 rfl) ?_
  refine z_callS_v (As := [.int (nI (p))]) (rest := []) (w := wX cI cZ ad) ⟨hx, hb, hml, hown, hts⟩ hF hR (c_X4_requirePartition_ok hG S p (by omega)) (va_cwS 1 hts gX4_append_X4_requirePartition rfl rfl rfl (by decide +kernel) ⟨Nat.le_of_ble_eq_true rfl, Nat.le_of_ble_eq_true rfl⟩) rfl hl rfl (Nat.le_of_ble_eq_true rfl) (by decide) dX4_append_1 (fun S1 H locs hp1 hR => ?_)
  subst S1
  refine lv_iload_n hx hb dX4_append_4 rfl (lv_at hl 2 rfl) ?_
  refine z_callS_v (As := [.int (nI (key))]) (rest := []) (w := wX cI cZ ad) ⟨hx, hb, hml, hown, hts⟩ hF hR (c_X4_requireKey_ok hG S key (by omega)) (va_cwS 1 hts gX4_append_X4_requireKey rfl rfl rfl (by decide +kernel) ⟨Nat.le_of_ble_eq_true rfl, Nat.le_of_ble_eq_true rfl⟩) rfl hl rfl (Nat.le_of_ble_eq_true rfl) (by decide) dX4_append_5 (fun S2 H locs hp2 hR => ?_)
  subst S2
  refine lv_iload_n hx hb dX4_append_8 rfl (lv_at hl 3 rfl) ?_
  refine lv_iconst (v := (nI (1))) hx hb dX4_append_9 (by decide) ?_
  refine lv_icmp_lt (tgt := 19) hx hb dX4_append_10 (by decide) (fun h10_3 => ?_) (fun h10_3 => ?_)
  · skip
    have q10 := h10_3
    exact z_throw (Ts := wsX4_append) (w := wX cI cZ ad) (cls := "java/lang/IllegalArgumentException") hx hb hfl hml hown hts hlk hex hF hR hl (by decide +kernel) (by decide +kernel) (by decide +kernel) (by decide +kernel) (by decide +kernel) (by decide +kernel) (List.mem_of_getElem? (i := 0) rfl) (by decide) dX4_append_19 dX4_append_22 dX4_append_23 dX4_append_25 dX4_append_28 (rfl)
  · skip
    have q10 := h10_3
    refine lv_iload_n hx hb dX4_append_13 rfl (lv_at hl 3 rfl) ?_
    refine lv_bipush (v := (nI (100))) hx hb dX4_append_14 (by decide) ?_
    refine lv_icmp_le (tgt := 29) hx hb dX4_append_16 (by decide) (fun h16_4 => (zbadv_no hz q10 h16_4).elim) (fun h16_4 => ?_)
    exact z_throw (Ts := wsX4_append) (w := wX cI cZ ad) (cls := "java/lang/IllegalArgumentException") hx hb hfl hml hown hts hlk hex hF hR hl (by decide +kernel) (by decide +kernel) (by decide +kernel) (by decide +kernel) (by decide +kernel) (by decide +kernel) (List.mem_of_getElem? (i := 0) rfl) (by decide) dX4_append_19 dX4_append_22 dX4_append_23 dX4_append_25 dX4_append_28 (rfl)
set_option maxHeartbeats 4000000 in
set_option maxRecDepth 100000 in
theorem c_X4_append_e4 {l : Launch} {D : va_G} {cI cZ : ClassId} {ad : Nat → Nat} {B : Nat → Prop} (hG : ∀ S : zS, va_D B (wX cI cZ ad S)) (hfl : l.stackTraces = false) (S : zS) (p key v : Nat) (hO : zOK S) (hp : p < 4) (hk : key < 32) (hv : 1 ≤ v) (hv2 : v ≤ 100) (hn : ¬ zn S 0 p < 60) : zMXi l yX4_append wsX4_append ({ frames := 7, cells := 1, slots := 6, locals := 102 } : Room) [.ref (ad 0), .int (nI (p)), .int (nI (key)), .int (nI (v))] D (zT cI cZ) B (wX cI cZ ad) S (fun (_ : Int32) (_ : zS) => False) (fun E => E = zIS) := by
  refine zMXi_of (cc := cX4_append) (maxL := 4) (ret := (some .int)) (by decide) rfl (Nat.le_of_ble_eq_true rfl) ?_
  intro pg en s mm below meth cd hx hb hr hml hown hts hlk hex hF hR ls hl
  have hinX1 : ∀ w ∈ wsX10, w ∈ wsX4_append := by decide +kernel
  have hinX4 : ∀ w ∈ wsX40, w ∈ wsX4_append := by decide +kernel
  have hl : lv_has ls 4 [(0, .ref (ad 0)), (1, .int (nI (p))), (2, .int (nI (key))), (3, .int (nI (v)))] := hl
  refine lv_iload_n hx hb dX4_append_0 rfl (lv_at hl 1 rfl) ?_
  refine z_callS_v (As := [.int (nI (p))]) (rest := []) (w := wX cI cZ ad) ⟨hx, hb, hml, hown, hts⟩ hF hR (c_X4_requirePartition_ok hG S p (by omega)) (va_cwS 1 hts gX4_append_X4_requirePartition rfl rfl rfl (by decide +kernel) ⟨Nat.le_of_ble_eq_true rfl, Nat.le_of_ble_eq_true rfl⟩) rfl hl rfl (Nat.le_of_ble_eq_true rfl) (by decide) dX4_append_1 (fun S1 H locs hp1 hR => ?_)
  subst S1
  refine lv_iload_n hx hb dX4_append_4 rfl (lv_at hl 2 rfl) ?_
  refine z_callS_v (As := [.int (nI (key))]) (rest := []) (w := wX cI cZ ad) ⟨hx, hb, hml, hown, hts⟩ hF hR (c_X4_requireKey_ok hG S key (by omega)) (va_cwS 1 hts gX4_append_X4_requireKey rfl rfl rfl (by decide +kernel) ⟨Nat.le_of_ble_eq_true rfl, Nat.le_of_ble_eq_true rfl⟩) rfl hl rfl (Nat.le_of_ble_eq_true rfl) (by decide) dX4_append_5 (fun S2 H locs hp2 hR => ?_)
  subst S2
  refine lv_iload_n hx hb dX4_append_8 rfl (lv_at hl 3 rfl) ?_
  refine lv_iconst (v := (nI (1))) hx hb dX4_append_9 (by decide) ?_
  refine z_lt_n (tgt := 19) hx hb dX4_append_10 (by decide) (by omega) (by omega) (fun h10_3 => by omega) (fun h10_3 => ?_)
  refine lv_iload_n hx hb dX4_append_13 rfl (lv_at hl 3 rfl) ?_
  refine lv_bipush (v := (nI (100))) hx hb dX4_append_14 (by decide) ?_
  refine z_le_n (tgt := 29) hx hb dX4_append_16 (by decide) (by omega) (by omega) (fun h16_4 => ?_) (fun h16_4 => by omega)
  refine lv_aload_n hx hb dX4_append_29 rfl (lv_at hl 0 rfl) ?_
  refine z_get (own := RX4) (C := RX4) (T := TX4) (N := 14) (k := 0) (v := .ref (ad 1)) hx hb hts hinX4 hown hF hR (wX_c0 S) rfl (by decide) (by decide +kernel) rfl rfl dX4_append_30 ?_
  refine z_get (own := RX4) (C := RX1) (T := TX1) (N := 2) (k := 0) (v := .ref (ad 2)) hx hb hts hinX1 hown hF hR (wX_c1 S) rfl (by decide) (by decide +kernel) rfl rfl dX4_append_33 ?_
  refine lv_iload_n hx hb dX4_append_36 rfl (lv_at hl 1 rfl) ?_
  refine z_iald_n (f := S 0) hx hb hF hR (wX_c2 S) zT_0 dX4_append_37 (by decide) (by omega) ?_
  refine lv_topi (fun v6 ev6 => ?_)
  obtain rfl : v6 = (nI (zn S 0 (p))) := ev6.trans (zOK.n0 hO _).1
  have hb37_5 := (zOK.n0 hO (p)).2
  refine lv_bipush (v := (nI (60))) hx hb dX4_append_38 (by decide) ?_
  refine z_lt_n (tgt := 53) hx hb dX4_append_40 (by decide) (by omega) (by omega) (fun h40_7 => by omega) (fun h40_7 => ?_)
  exact z_throw (Ts := wsX4_append) (w := wX cI cZ ad) (cls := "java/lang/IllegalStateException") hx hb hfl hml hown hts hlk hex hF hR hl (by decide +kernel) (by decide +kernel) (by decide +kernel) (by decide +kernel) (by decide +kernel) (by decide +kernel) (List.mem_of_getElem? (i := 1) rfl) (by decide) dX4_append_43 dX4_append_46 dX4_append_47 dX4_append_49 dX4_append_52 (rfl)
set_option maxHeartbeats 4000000 in
set_option maxRecDepth 100000 in
theorem c_X4_append_ok {l : Launch} {D : va_G} {cI cZ : ClassId} {ad : Nat → Nat} {B : Nat → Prop} (hG : ∀ S : zS, va_D B (wX cI cZ ad S)) (S : zS) (p key v : Nat) (hO : zOK S) (hp : p < 4) (hk : key < 32) (hv : 1 ≤ v) (hv2 : v ≤ 100) (hn : zn S 0 p < 60) : zMi l yX4_append wsX4_append ({ frames := 7, cells := 0, slots := 0, locals := 102 } : Room) [.ref (ad 0), .int (nI (p)), .int (nI (key)), .int (nI (v))] D (zT cI cZ) B (wX cI cZ ad) S (fun (r : Int32) (S1 : zS) => r = (nI (zn S 0 p)) ∧ S1 = sp_app S p (nI (1000 * key + v))) := by
  refine zMi_of (cc := cX4_append) (maxL := 4) (ret := (some .int)) (by decide) rfl (Nat.le_of_ble_eq_true rfl) ?_
  intro pg en s mm below meth cd hx hb hr hml hown hts hlk hF hR ls hl
  have hinX1 : ∀ w ∈ wsX10, w ∈ wsX4_append := by decide +kernel
  have hinX4 : ∀ w ∈ wsX40, w ∈ wsX4_append := by decide +kernel
  have hl : lv_has ls 4 [(0, .ref (ad 0)), (1, .int (nI (p))), (2, .int (nI (key))), (3, .int (nI (v)))] := hl
  refine lv_iload_n hx hb dX4_append_0 rfl (lv_at hl 1 rfl) ?_
  refine z_callS_v (As := [.int (nI (p))]) (rest := []) (w := wX cI cZ ad) ⟨hx, hb, hml, hown, hts⟩ hF hR (c_X4_requirePartition_ok hG S p (by omega)) (va_cwS 1 hts gX4_append_X4_requirePartition rfl rfl rfl (by decide +kernel) ⟨Nat.le_of_ble_eq_true rfl, Nat.le_of_ble_eq_true rfl⟩) rfl hl rfl (Nat.le_of_ble_eq_true rfl) (by decide) dX4_append_1 (fun S1 H locs hp1 hR => ?_)
  subst S1
  refine lv_iload_n hx hb dX4_append_4 rfl (lv_at hl 2 rfl) ?_
  refine z_callS_v (As := [.int (nI (key))]) (rest := []) (w := wX cI cZ ad) ⟨hx, hb, hml, hown, hts⟩ hF hR (c_X4_requireKey_ok hG S key (by omega)) (va_cwS 1 hts gX4_append_X4_requireKey rfl rfl rfl (by decide +kernel) ⟨Nat.le_of_ble_eq_true rfl, Nat.le_of_ble_eq_true rfl⟩) rfl hl rfl (Nat.le_of_ble_eq_true rfl) (by decide) dX4_append_5 (fun S2 H locs hp2 hR => ?_)
  subst S2
  refine lv_iload_n hx hb dX4_append_8 rfl (lv_at hl 3 rfl) ?_
  refine lv_iconst (v := (nI (1))) hx hb dX4_append_9 (by decide) ?_
  refine z_lt_n (tgt := 19) hx hb dX4_append_10 (by decide) (by omega) (by omega) (fun h10_3 => by omega) (fun h10_3 => ?_)
  refine lv_iload_n hx hb dX4_append_13 rfl (lv_at hl 3 rfl) ?_
  refine lv_bipush (v := (nI (100))) hx hb dX4_append_14 (by decide) ?_
  refine z_le_n (tgt := 29) hx hb dX4_append_16 (by decide) (by omega) (by omega) (fun h16_4 => ?_) (fun h16_4 => by omega)
  refine lv_aload_n hx hb dX4_append_29 rfl (lv_at hl 0 rfl) ?_
  refine z_get (own := RX4) (C := RX4) (T := TX4) (N := 14) (k := 0) (v := .ref (ad 1)) hx hb hts hinX4 hown hF hR (wX_c0 S) rfl (by decide) (by decide +kernel) rfl rfl dX4_append_30 ?_
  refine z_get (own := RX4) (C := RX1) (T := TX1) (N := 2) (k := 0) (v := .ref (ad 2)) hx hb hts hinX1 hown hF hR (wX_c1 S) rfl (by decide) (by decide +kernel) rfl rfl dX4_append_33 ?_
  refine lv_iload_n hx hb dX4_append_36 rfl (lv_at hl 1 rfl) ?_
  refine z_iald_n (f := S 0) hx hb hF hR (wX_c2 S) zT_0 dX4_append_37 (by decide) (by omega) ?_
  refine lv_topi (fun v6 ev6 => ?_)
  obtain rfl : v6 = (nI (zn S 0 (p))) := ev6.trans (zOK.n0 hO _).1
  have hb37_5 := (zOK.n0 hO (p)).2
  refine lv_bipush (v := (nI (60))) hx hb dX4_append_38 (by decide) ?_
  refine z_lt_n (tgt := 53) hx hb dX4_append_40 (by decide) (by omega) (by omega) (fun h40_7 => ?_) (fun h40_7 => by omega)
  refine lv_aload_n hx hb dX4_append_53 rfl (lv_at hl 0 rfl) ?_
  refine z_get (own := RX4) (C := RX4) (T := TX4) (N := 14) (k := 0) (v := .ref (ad 1)) hx hb hts hinX4 hown hF hR (wX_c0 S) rfl (by decide) (by decide +kernel) rfl rfl dX4_append_54 ?_
  refine lv_iload_n hx hb dX4_append_57 rfl (lv_at hl 1 rfl) ?_
  refine lv_iload_n hx hb dX4_append_58 rfl (lv_at hl 2 rfl) ?_
  refine lv_sipush (v := (nI (1000))) hx hb dX4_append_59 (by decide) ?_
  refine z_imul_n hx hb dX4_append_62 ?_
  refine lv_iload_n hx hb dX4_append_63 rfl (lv_at hl 3 rfl) ?_
  refine z_iadd_n hx hb dX4_append_64 ?_
  refine lv_topi (fun v8 ev8 => ?_)
  obtain rfl : v8 = nI (1000 * key + v) := ev8.trans (congrArg nI (by omega))
  refine z_callV_i (As := [.int (nI (p)), .int (nI (1000 * key + v))]) (rest := []) (w := wX cI cZ ad) ⟨hx, hb, hml, hown, hts⟩ hF hR (c_X1_add hG S p ((nI (1000 * key + v))) hO (by omega) (by omega)) (cwV 2 hts gX4_append_X1_add rfl rfl rfl (by decide +kernel) ⟨Nat.le_of_ble_eq_true rfl, Nat.le_of_ble_eq_true rfl⟩) (wX_c1 S) rfl rfl rfl hl rfl (Nat.le_of_ble_eq_true rfl) (by decide) dX4_append_65 (fun r9 S9 H locs hp9 hR => ?_)
  obtain ⟨hr9, hs9⟩ := hp9
  subst r9
  subst S9
  exact z_iret (w := wX cI cZ ad) (S1 := (sp_app S p ((nI (1000 * key + v))))) hx hb hr hlk hF hR dX4_append_68 (⟨rfl, rfl⟩)
set_option maxHeartbeats 4000000 in
set_option maxRecDepth 100000 in
theorem c_X4_read_e1 {l : Launch} {D : va_G} {cI cZ : ClassId} {ad : Nat → Nat} {B : Nat → Prop} (hG : ∀ S : zS, va_D B (wX cI cZ ad S)) (hfl : l.stackTraces = false) (S : zS) (x : Int32) (hO : zOK S) (hxb : zbad x 4) : zMXi l yX4_read wsX4_read ({ frames := 7, cells := 1, slots := 6, locals := 102 } : Room) [.ref (ad 0), .int (x)] D (zT cI cZ) B (wX cI cZ ad) S (fun (_ : Int32) (_ : zS) => False) (fun E => E = zIO) := by
  refine zMXi_of (cc := cX4_read) (maxL := 2) (ret := (some .int)) (by decide) rfl (Nat.le_of_ble_eq_true rfl) ?_
  intro pg en s mm below meth cd hx hb hr hml hown hts hlk hex hF hR ls hl
  have hl : lv_has ls 2 [(0, .ref (ad 0)), (1, .int (x))] := hl
  refine lv_iload_n hx hb dX4_read_0 rfl (lv_at hl 1 rfl) ?_
  exact z_badS (As := [.int (x)]) (rest := []) (w := wX cI cZ ad) ⟨hx, hb, hml, hown, hts⟩ hlk hex hF hR (c_X4_requirePartition_bad hG hfl S ((x)) hxb) (va_cwS 1 hts gX4_read_X4_requirePartition rfl rfl rfl (by decide +kernel) ⟨Nat.le_of_ble_eq_true rfl, Nat.le_of_ble_eq_true rfl⟩) rfl hl rfl (Nat.le_of_ble_eq_true rfl) (by decide) dX4_read_1 (fun E h => h)
set_option maxHeartbeats 4000000 in
set_option maxRecDepth 100000 in
theorem c_X4_read_e2 {l : Launch} {D : va_G} {cI cZ : ClassId} {ad : Nat → Nat} {B : Nat → Prop} (hG : ∀ S : zS, va_D B (wX cI cZ ad S)) (hfl : l.stackTraces = false) (S : zS) (p : Nat) (hO : zOK S) (hp : p < 4) (hc : ¬ zcanR S p) : zMXi l yX4_read wsX4_read ({ frames := 7, cells := 1, slots := 6, locals := 102 } : Room) [.ref (ad 0), .int (nI (p))] D (zT cI cZ) B (wX cI cZ ad) S (fun (_ : Int32) (_ : zS) => False) (fun E => E = zIS) := by
  refine zMXi_of (cc := cX4_read) (maxL := 2) (ret := (some .int)) (by decide) rfl (Nat.le_of_ble_eq_true rfl) ?_
  intro pg en s mm below meth cd hx hb hr hml hown hts hlk hex hF hR ls hl
  have hl : lv_has ls 2 [(0, .ref (ad 0)), (1, .int (nI (p)))] := hl
  refine lv_iload_n hx hb dX4_read_0 rfl (lv_at hl 1 rfl) ?_
  refine z_callS_v (As := [.int (nI (p))]) (rest := []) (w := wX cI cZ ad) ⟨hx, hb, hml, hown, hts⟩ hF hR (c_X4_requirePartition_ok hG S p (by omega)) (va_cwS 1 hts gX4_read_X4_requirePartition rfl rfl rfl (by decide +kernel) ⟨Nat.le_of_ble_eq_true rfl, Nat.le_of_ble_eq_true rfl⟩) rfl hl rfl (Nat.le_of_ble_eq_true rfl) (by decide) dX4_read_1 (fun S1 H locs hp1 hR => ?_)
  subst S1
  refine lv_aload_n hx hb dX4_read_4 rfl (lv_at hl 0 rfl) ?_
  refine lv_iload_n hx hb dX4_read_5 rfl (lv_at hl 1 rfl) ?_
  refine z_callV_i (As := [.int (nI (p))]) (rest := []) (w := wX cI cZ ad) ⟨hx, hb, hml, hown, hts⟩ hF hR (c_X4_canReadFrom hG S p hO (by omega)) (cwV 1 hts gX4_read_X4_canReadFrom rfl rfl rfl (by decide +kernel) ⟨Nat.le_of_ble_eq_true rfl, Nat.le_of_ble_eq_true rfl⟩) (wX_c0 S) rfl rfl rfl hl rfl (Nat.le_of_ble_eq_true rfl) (by decide) dX4_read_6 (fun r2 S2 H locs hp2 hR => ?_)
  obtain ⟨hp2, hs2⟩ := hp2
  subst S2
  rcases hp2 with ⟨hb6, hr2⟩ | ⟨hb6, hr2⟩
  · exact absurd hb6 hc
  · subst r2
    refine z_if_ne_n (tgt := 22) hx hb dX4_read_9 (by decide) (by omega) (fun h9_3 => by omega) (fun h9_3 => ?_)
    exact z_throw (Ts := wsX4_read) (w := wX cI cZ ad) (cls := "java/lang/IllegalStateException") hx hb hfl hml hown hts hlk hex hF hR hl (by decide +kernel) (by decide +kernel) (by decide +kernel) (by decide +kernel) (by decide +kernel) (by decide +kernel) (List.mem_of_getElem? (i := 2) rfl) (by decide) dX4_read_12 dX4_read_15 dX4_read_16 dX4_read_18 dX4_read_21 (rfl)
set_option maxHeartbeats 4000000 in
set_option maxRecDepth 100000 in
theorem c_X4_read_ok {l : Launch} {D : va_G} {cI cZ : ClassId} {ad : Nat → Nat} {B : Nat → Prop} (hG : ∀ S : zS, va_D B (wX cI cZ ad S)) (S : zS) (p : Nat) (hO : zOK S) (hp : p < 4) (hc : zcanR S p) : zMi l yX4_read wsX4_read ({ frames := 7, cells := 0, slots := 0, locals := 102 } : Room) [.ref (ad 0), .int (nI (p))] D (zT cI cZ) B (wX cI cZ ad) S (fun (r : Int32) (S1 : zS) => r = (nI (zrw S p)) ∧ S1 = sp_read S p) := by
  refine zMi_of (cc := cX4_read) (maxL := 2) (ret := (some .int)) (by decide) rfl (Nat.le_of_ble_eq_true rfl) ?_
  intro pg en s mm below meth cd hx hb hr hml hown hts hlk hF hR ls hl
  have hl : lv_has ls 2 [(0, .ref (ad 0)), (1, .int (nI (p)))] := hl
  refine lv_iload_n hx hb dX4_read_0 rfl (lv_at hl 1 rfl) ?_
  refine z_callS_v (As := [.int (nI (p))]) (rest := []) (w := wX cI cZ ad) ⟨hx, hb, hml, hown, hts⟩ hF hR (c_X4_requirePartition_ok hG S p (by omega)) (va_cwS 1 hts gX4_read_X4_requirePartition rfl rfl rfl (by decide +kernel) ⟨Nat.le_of_ble_eq_true rfl, Nat.le_of_ble_eq_true rfl⟩) rfl hl rfl (Nat.le_of_ble_eq_true rfl) (by decide) dX4_read_1 (fun S1 H locs hp1 hR => ?_)
  subst S1
  refine lv_aload_n hx hb dX4_read_4 rfl (lv_at hl 0 rfl) ?_
  refine lv_iload_n hx hb dX4_read_5 rfl (lv_at hl 1 rfl) ?_
  refine z_callV_i (As := [.int (nI (p))]) (rest := []) (w := wX cI cZ ad) ⟨hx, hb, hml, hown, hts⟩ hF hR (c_X4_canReadFrom hG S p hO (by omega)) (cwV 1 hts gX4_read_X4_canReadFrom rfl rfl rfl (by decide +kernel) ⟨Nat.le_of_ble_eq_true rfl, Nat.le_of_ble_eq_true rfl⟩) (wX_c0 S) rfl rfl rfl hl rfl (Nat.le_of_ble_eq_true rfl) (by decide) dX4_read_6 (fun r2 S2 H locs hp2 hR => ?_)
  obtain ⟨hp2, hs2⟩ := hp2
  subst S2
  rcases hp2 with ⟨hb6, hr2⟩ | ⟨hb6, hr2⟩
  · subst r2
    refine z_if_ne_n (tgt := 22) hx hb dX4_read_9 (by decide) (by omega) (fun h9_3 => ?_) (fun h9_3 => by omega)
    refine lv_aload_n hx hb dX4_read_22 rfl (lv_at hl 0 rfl) ?_
    refine lv_iload_n hx hb dX4_read_23 rfl (lv_at hl 1 rfl) ?_
    refine z_callV_i (As := [.int (nI (p))]) (rest := []) (w := wX cI cZ ad) ⟨hx, hb, hml, hown, hts⟩ hF hR (c_X4_readFrom hG S p hO (by omega) hc) (cwV 1 hts gX4_read_X4_readFrom rfl rfl rfl (by decide +kernel) ⟨Nat.le_of_ble_eq_true rfl, Nat.le_of_ble_eq_true rfl⟩) (wX_c0 S) rfl rfl rfl hl rfl (Nat.le_of_ble_eq_true rfl) (by decide) dX4_read_24 (fun r4 S4 H locs hp4 hR => ?_)
    obtain ⟨hr4, hs4⟩ := hp4
    subst r4
    subst S4
    exact z_iret (w := wX cI cZ ad) (S1 := (sp_read S p)) hx hb hr hlk hF hR dX4_read_27 (⟨rfl, rfl⟩)
  · exact absurd hc hb6
set_option maxHeartbeats 4000000 in
set_option maxRecDepth 100000 in
theorem c_X4_sendBarrier_e1 {l : Launch} {D : va_G} {cI cZ : ClassId} {ad : Nat → Nat} {B : Nat → Prop} (hG : ∀ S : zS, va_D B (wX cI cZ ad S)) (hfl : l.stackTraces = false) (S : zS) (x : Int32) (hO : zOK S) (hxb : zbad x 4) : zMXi l yX4_sendBarrier wsX4_sendBarrier ({ frames := 7, cells := 1, slots := 6, locals := 102 } : Room) [.ref (ad 0), .int (x)] D (zT cI cZ) B (wX cI cZ ad) S (fun (_ : Int32) (_ : zS) => False) (fun E => E = zIO) := by
  refine zMXi_of (cc := cX4_sendBarrier) (maxL := 3) (ret := (some .int)) (by decide) rfl (Nat.le_of_ble_eq_true rfl) ?_
  intro pg en s mm below meth cd hx hb hr hml hown hts hlk hex hF hR ls hl
  have hinX2 : ∀ w ∈ wsX20, w ∈ wsX4_sendBarrier := by decide +kernel
  have hinX4 : ∀ w ∈ wsX40, w ∈ wsX4_sendBarrier := by decide +kernel
  have hl : lv_has ls 3 [(0, .ref (ad 0)), (1, .int (x))] := hl
  refine lv_iload_n hx hb dX4_sendBarrier_0 rfl (lv_at hl 1 rfl) ?_
  exact z_badS (As := [.int (x)]) (rest := []) (w := wX cI cZ ad) ⟨hx, hb, hml, hown, hts⟩ hlk hex hF hR (c_X4_requirePartition_bad hG hfl S ((x)) hxb) (va_cwS 1 hts gX4_sendBarrier_X4_requirePartition rfl rfl rfl (by decide +kernel) ⟨Nat.le_of_ble_eq_true rfl, Nat.le_of_ble_eq_true rfl⟩) rfl hl rfl (Nat.le_of_ble_eq_true rfl) (by decide) dX4_sendBarrier_1 (fun E h => h)
set_option maxHeartbeats 4000000 in
set_option maxRecDepth 100000 in
theorem c_X4_sendBarrier_e2 {l : Launch} {D : va_G} {cI cZ : ClassId} {ad : Nat → Nat} {B : Nat → Prop} (hG : ∀ S : zS, va_D B (wX cI cZ ad S)) (hfl : l.stackTraces = false) (S : zS) (p : Nat) (hO : zOK S) (hp : p < 4) (hc : S 22 2 = (-1) ∨ S 4 p = nI 1) : zMXi l yX4_sendBarrier wsX4_sendBarrier ({ frames := 7, cells := 1, slots := 6, locals := 102 } : Room) [.ref (ad 0), .int (nI (p))] D (zT cI cZ) B (wX cI cZ ad) S (fun (_ : Int32) (_ : zS) => False) (fun E => E = zIS) := by
  refine zMXi_of (cc := cX4_sendBarrier) (maxL := 3) (ret := (some .int)) (by decide) rfl (Nat.le_of_ble_eq_true rfl) ?_
  intro pg en s mm below meth cd hx hb hr hml hown hts hlk hex hF hR ls hl
  have hinX2 : ∀ w ∈ wsX20, w ∈ wsX4_sendBarrier := by decide +kernel
  have hinX4 : ∀ w ∈ wsX40, w ∈ wsX4_sendBarrier := by decide +kernel
  have hl : lv_has ls 3 [(0, .ref (ad 0)), (1, .int (nI (p)))] := hl
  refine lv_iload_n hx hb dX4_sendBarrier_0 rfl (lv_at hl 1 rfl) ?_
  refine z_callS_v (As := [.int (nI (p))]) (rest := []) (w := wX cI cZ ad) ⟨hx, hb, hml, hown, hts⟩ hF hR (c_X4_requirePartition_ok hG S p (by omega)) (va_cwS 1 hts gX4_sendBarrier_X4_requirePartition rfl rfl rfl (by decide +kernel) ⟨Nat.le_of_ble_eq_true rfl, Nat.le_of_ble_eq_true rfl⟩) rfl hl rfl (Nat.le_of_ble_eq_true rfl) (by decide) dX4_sendBarrier_1 (fun S1 H locs hp1 hR => ?_)
  subst S1
  refine lv_aload_n hx hb dX4_sendBarrier_4 rfl (lv_at hl 0 rfl) ?_
  refine z_get (own := RX4) (C := RX4) (T := TX4) (N := 14) (k := 12) (v := .int (S 22 2)) hx hb hts hinX4 hown hF hR (wX_c0 S) rfl (by decide) (by decide +kernel) rfl rfl dX4_sendBarrier_5 ?_
  refine lv_iconst (v := ((-1))) hx hb dX4_sendBarrier_8 (by decide) ?_
  refine lv_icmp_eq (tgt := 24) hx hb dX4_sendBarrier_9 (by decide) (fun h9_2 => ?_) (fun h9_2 => ?_)
  · skip
    exact z_throw (Ts := wsX4_sendBarrier) (w := wX cI cZ ad) (cls := "java/lang/IllegalStateException") hx hb hfl hml hown hts hlk hex hF hR hl (by decide +kernel) (by decide +kernel) (by decide +kernel) (by decide +kernel) (by decide +kernel) (by decide +kernel) (List.mem_of_getElem? (i := 3) rfl) (by decide) dX4_sendBarrier_24 dX4_sendBarrier_27 dX4_sendBarrier_28 dX4_sendBarrier_30 dX4_sendBarrier_33 (rfl)
  · skip
    have q9 := h9_2
    refine lv_aload_n hx hb dX4_sendBarrier_12 rfl (lv_at hl 0 rfl) ?_
    refine z_get (own := RX4) (C := RX4) (T := TX4) (N := 14) (k := 1) (v := .ref (ad 4)) hx hb hts hinX4 hown hF hR (wX_c0 S) rfl (by decide) (by decide +kernel) rfl rfl dX4_sendBarrier_13 ?_
    refine z_get (own := RX4) (C := RX2) (T := TX2) (N := 4) (k := 2) (v := .ref (ad 7)) hx hb hts hinX2 hown hF hR (wX_c4 S) rfl (by decide) (by decide +kernel) rfl rfl dX4_sendBarrier_16 ?_
    refine lv_iload_n hx hb dX4_sendBarrier_19 rfl (lv_at hl 1 rfl) ?_
    refine z_zald_n (f := S 4) hx hb hF hR (wX_c7 S) zT_1 dX4_sendBarrier_20 (by decide) (by omega) ?_
    refine lv_if_eq (tgt := 34) hx hb dX4_sendBarrier_21 (by decide) (fun h21_3 => (hc.elim q9 (fun q => absurd (q.symm.trans h21_3) (by decide))).elim) (fun h21_3 => ?_)
    exact z_throw (Ts := wsX4_sendBarrier) (w := wX cI cZ ad) (cls := "java/lang/IllegalStateException") hx hb hfl hml hown hts hlk hex hF hR hl (by decide +kernel) (by decide +kernel) (by decide +kernel) (by decide +kernel) (by decide +kernel) (by decide +kernel) (List.mem_of_getElem? (i := 3) rfl) (by decide) dX4_sendBarrier_24 dX4_sendBarrier_27 dX4_sendBarrier_28 dX4_sendBarrier_30 dX4_sendBarrier_33 (rfl)
set_option maxHeartbeats 4000000 in
set_option maxRecDepth 100000 in
theorem c_X4_sendBarrier_e3 {l : Launch} {D : va_G} {cI cZ : ClassId} {ad : Nat → Nat} {B : Nat → Prop} (hG : ∀ S : zS, va_D B (wX cI cZ ad S)) (hfl : l.stackTraces = false) (S : zS) (p : Nat) (hO : zOK S) (hp : p < 4) (hc1 : ¬ S 22 2 = (-1)) (hc2 : S 4 p = nI 0) (hc : ¬ ∀ w, w < zn S 22 0 → zn S 7 (4 * p + w) < 8) : zMXi l yX4_sendBarrier wsX4_sendBarrier ({ frames := 7, cells := 1, slots := 6, locals := 102 } : Room) [.ref (ad 0), .int (nI (p))] D (zT cI cZ) B (wX cI cZ ad) S (fun (_ : Int32) (_ : zS) => False) (fun E => E = zIS) := by
  refine zMXi_of (cc := cX4_sendBarrier) (maxL := 3) (ret := (some .int)) (by decide) rfl (Nat.le_of_ble_eq_true rfl) ?_
  intro pg en s mm below meth cd hx hb hr hml hown hts hlk hex hF hR ls hl
  have hinX2 : ∀ w ∈ wsX20, w ∈ wsX4_sendBarrier := by decide +kernel
  have hinX4 : ∀ w ∈ wsX40, w ∈ wsX4_sendBarrier := by decide +kernel
  have hl : lv_has ls 3 [(0, .ref (ad 0)), (1, .int (nI (p)))] := hl
  refine lv_iload_n hx hb dX4_sendBarrier_0 rfl (lv_at hl 1 rfl) ?_
  refine z_callS_v (As := [.int (nI (p))]) (rest := []) (w := wX cI cZ ad) ⟨hx, hb, hml, hown, hts⟩ hF hR (c_X4_requirePartition_ok hG S p (by omega)) (va_cwS 1 hts gX4_sendBarrier_X4_requirePartition rfl rfl rfl (by decide +kernel) ⟨Nat.le_of_ble_eq_true rfl, Nat.le_of_ble_eq_true rfl⟩) rfl hl rfl (Nat.le_of_ble_eq_true rfl) (by decide) dX4_sendBarrier_1 (fun S1 H locs hp1 hR => ?_)
  subst S1
  refine lv_aload_n hx hb dX4_sendBarrier_4 rfl (lv_at hl 0 rfl) ?_
  refine z_get (own := RX4) (C := RX4) (T := TX4) (N := 14) (k := 12) (v := .int (S 22 2)) hx hb hts hinX4 hown hF hR (wX_c0 S) rfl (by decide) (by decide +kernel) rfl rfl dX4_sendBarrier_5 ?_
  refine lv_iconst (v := ((-1))) hx hb dX4_sendBarrier_8 (by decide) ?_
  refine lv_icmp_eq (tgt := 24) hx hb dX4_sendBarrier_9 (by decide) (fun h9_2 => absurd h9_2 hc1) (fun h9_2 => ?_)
  refine lv_aload_n hx hb dX4_sendBarrier_12 rfl (lv_at hl 0 rfl) ?_
  refine z_get (own := RX4) (C := RX4) (T := TX4) (N := 14) (k := 1) (v := .ref (ad 4)) hx hb hts hinX4 hown hF hR (wX_c0 S) rfl (by decide) (by decide +kernel) rfl rfl dX4_sendBarrier_13 ?_
  refine z_get (own := RX4) (C := RX2) (T := TX2) (N := 4) (k := 2) (v := .ref (ad 7)) hx hb hts hinX2 hown hF hR (wX_c4 S) rfl (by decide) (by decide +kernel) rfl rfl dX4_sendBarrier_16 ?_
  refine lv_iload_n hx hb dX4_sendBarrier_19 rfl (lv_at hl 1 rfl) ?_
  refine z_zald_n (f := S 4) hx hb hF hR (wX_c7 S) zT_1 dX4_sendBarrier_20 (by decide) (by omega) ?_
  refine lv_if_eq (tgt := 34) hx hb dX4_sendBarrier_21 (by decide) (fun h21_3 => ?_) (fun h21_3 => absurd (hc2.trans nI_0) h21_3)
  refine lv_aload_n hx hb dX4_sendBarrier_34 rfl (lv_at hl 0 rfl) ?_
  refine lv_iload_n hx hb dX4_sendBarrier_35 rfl (lv_at hl 1 rfl) ?_
  refine z_callV_i (As := [.int (nI (p))]) (rest := []) (w := wX cI cZ ad) ⟨hx, hb, hml, hown, hts⟩ hF hR (c_X4_hasRoomInAllChannels hG S p hO (by omega)) (cwV 1 hts gX4_sendBarrier_X4_hasRoomInAllChannels rfl rfl rfl (by decide +kernel) ⟨Nat.le_of_ble_eq_true rfl, Nat.le_of_ble_eq_true rfl⟩) (wX_c0 S) rfl rfl rfl hl rfl (Nat.le_of_ble_eq_true rfl) (by decide) dX4_sendBarrier_36 (fun r4 S4 H locs hp4 hR => ?_)
  obtain ⟨hp4, hs4⟩ := hp4
  subst S4
  rcases hp4 with ⟨hb36, hr4⟩ | ⟨hb36, hr4⟩
  · exact absurd hb36 hc
  · subst r4
    refine z_if_ne_n (tgt := 52) hx hb dX4_sendBarrier_39 (by decide) (by omega) (fun h39_5 => by omega) (fun h39_5 => ?_)
    exact z_throw (Ts := wsX4_sendBarrier) (w := wX cI cZ ad) (cls := "java/lang/IllegalStateException") hx hb hfl hml hown hts hlk hex hF hR hl (by decide +kernel) (by decide +kernel) (by decide +kernel) (by decide +kernel) (by decide +kernel) (by decide +kernel) (List.mem_of_getElem? (i := 4) rfl) (by decide) dX4_sendBarrier_42 dX4_sendBarrier_45 dX4_sendBarrier_46 dX4_sendBarrier_48 dX4_sendBarrier_51 (rfl)
set_option maxHeartbeats 4000000 in
set_option maxRecDepth 100000 in
theorem c_X4_sendBarrier_ok {l : Launch} {D : va_G} {cI cZ : ClassId} {ad : Nat → Nat} {B : Nat → Prop} (hG : ∀ S : zS, va_D B (wX cI cZ ad S)) (S : zS) (p : Nat) (hO : zOK S) (hp : p < 4) (hc1 : ¬ S 22 2 = (-1)) (hc2 : S 4 p = nI 0) (hc : ∀ w, w < zn S 22 0 → zn S 7 (4 * p + w) < 8) (hxb : (-(S 22 2)).toInt ≤ 31100) : zMi l yX4_sendBarrier wsX4_sendBarrier ({ frames := 7, cells := 0, slots := 0, locals := 102 } : Room) [.ref (ad 0), .int (nI (p))] D (zT cI cZ) B (wX cI cZ ad) S (fun (r : Int32) (S1 : zS) => r = (nI (zn (sp_sb S p (zn S 22 0)) 2 p)) ∧ S1 = sp_send S p) := by
  refine zMi_of (cc := cX4_sendBarrier) (maxL := 3) (ret := (some .int)) (by decide) rfl (Nat.le_of_ble_eq_true rfl) ?_
  intro pg en s mm below meth cd hx hb hr hml hown hts hlk hF hR ls hl
  have hinX2 : ∀ w ∈ wsX20, w ∈ wsX4_sendBarrier := by decide +kernel
  have hinX4 : ∀ w ∈ wsX40, w ∈ wsX4_sendBarrier := by decide +kernel
  have hl : lv_has ls 3 [(0, .ref (ad 0)), (1, .int (nI (p)))] := hl
  have hW1 := (zOK.w hO).2.1
  have hW4 := (zOK.w hO).2.2
  refine lv_iload_n hx hb dX4_sendBarrier_0 rfl (lv_at hl 1 rfl) ?_
  refine z_callS_v (As := [.int (nI (p))]) (rest := []) (w := wX cI cZ ad) ⟨hx, hb, hml, hown, hts⟩ hF hR (c_X4_requirePartition_ok hG S p (by omega)) (va_cwS 1 hts gX4_sendBarrier_X4_requirePartition rfl rfl rfl (by decide +kernel) ⟨Nat.le_of_ble_eq_true rfl, Nat.le_of_ble_eq_true rfl⟩) rfl hl rfl (Nat.le_of_ble_eq_true rfl) (by decide) dX4_sendBarrier_1 (fun S1 H locs hp1 hR => ?_)
  subst S1
  refine lv_aload_n hx hb dX4_sendBarrier_4 rfl (lv_at hl 0 rfl) ?_
  refine z_get (own := RX4) (C := RX4) (T := TX4) (N := 14) (k := 12) (v := .int (S 22 2)) hx hb hts hinX4 hown hF hR (wX_c0 S) rfl (by decide) (by decide +kernel) rfl rfl dX4_sendBarrier_5 ?_
  refine lv_iconst (v := ((-1))) hx hb dX4_sendBarrier_8 (by decide) ?_
  refine lv_icmp_eq (tgt := 24) hx hb dX4_sendBarrier_9 (by decide) (fun h9_2 => absurd h9_2 hc1) (fun h9_2 => ?_)
  refine lv_aload_n hx hb dX4_sendBarrier_12 rfl (lv_at hl 0 rfl) ?_
  refine z_get (own := RX4) (C := RX4) (T := TX4) (N := 14) (k := 1) (v := .ref (ad 4)) hx hb hts hinX4 hown hF hR (wX_c0 S) rfl (by decide) (by decide +kernel) rfl rfl dX4_sendBarrier_13 ?_
  refine z_get (own := RX4) (C := RX2) (T := TX2) (N := 4) (k := 2) (v := .ref (ad 7)) hx hb hts hinX2 hown hF hR (wX_c4 S) rfl (by decide) (by decide +kernel) rfl rfl dX4_sendBarrier_16 ?_
  refine lv_iload_n hx hb dX4_sendBarrier_19 rfl (lv_at hl 1 rfl) ?_
  refine z_zald_n (f := S 4) hx hb hF hR (wX_c7 S) zT_1 dX4_sendBarrier_20 (by decide) (by omega) ?_
  refine lv_if_eq (tgt := 34) hx hb dX4_sendBarrier_21 (by decide) (fun h21_3 => ?_) (fun h21_3 => absurd (hc2.trans nI_0) h21_3)
  refine lv_aload_n hx hb dX4_sendBarrier_34 rfl (lv_at hl 0 rfl) ?_
  refine lv_iload_n hx hb dX4_sendBarrier_35 rfl (lv_at hl 1 rfl) ?_
  refine z_callV_i (As := [.int (nI (p))]) (rest := []) (w := wX cI cZ ad) ⟨hx, hb, hml, hown, hts⟩ hF hR (c_X4_hasRoomInAllChannels hG S p hO (by omega)) (cwV 1 hts gX4_sendBarrier_X4_hasRoomInAllChannels rfl rfl rfl (by decide +kernel) ⟨Nat.le_of_ble_eq_true rfl, Nat.le_of_ble_eq_true rfl⟩) (wX_c0 S) rfl rfl rfl hl rfl (Nat.le_of_ble_eq_true rfl) (by decide) dX4_sendBarrier_36 (fun r4 S4 H locs hp4 hR => ?_)
  obtain ⟨hp4, hs4⟩ := hp4
  subst S4
  rcases hp4 with ⟨hb36, hr4⟩ | ⟨hb36, hr4⟩
  · subst r4
    refine z_if_ne_n (tgt := 52) hx hb dX4_sendBarrier_39 (by decide) (by omega) (fun h39_5 => ?_) (fun h39_5 => by omega)
    refine lv_iconst (v := (nI (0))) hx hb dX4_sendBarrier_52 (by decide) ?_
    refine lv_istore_n (lv' := [(2, .int (nI (0))), (0, .ref (ad 0)), (1, .int (nI (p)))]) hx hb dX4_sendBarrier_53 rfl hl (by decide) rfl (fun ls hl => ?_)
    have loop54 : ∀ (nf54 : Nat) (k : Nat), (k ≤ zn S 22 0) → zn S 22 0 - k < nf54 → ∀ (H : Heap) (locs : List Loc), zR D B (wX cI cZ ad (sp_sb S p k)) s H locs → ∀ ls : Array Slot, lv_has ls 3 [(0, .ref (ad 0)), (1, .int (nI (p))), (2, .int (nI (k)))] → W pg l en ({ frames := 7, cells := 0, slots := 0, locals := 102 } : Room) s mm ([.ref (ad 0), .int (nI (p))] : List Value).toArray below meth cd H locs 0 0 (MQ below (va_Qi (fun (r : Int32) (S1 : zS) => r = (nI (zn (sp_sb S p (zn S 22 0)) 2 p)) ∧ S1 = sp_send S p) (zB D (zT cI cZ) (wX cI cZ ad)) (zA B s.heap.size)) ([.ref (ad 0), .int (nI (p))] : List Value).toArray s 0 0 (zA B s.heap.size)) (F0 mm 54 ls []) := by
      intro nf54
      induction nf54 with
      | zero => intro k hk4 hn; exact absurd hn (Nat.not_lt_zero _)
      | succ nf54 ih54 =>
        intro k hk4 hn H locs hR ls hl
        have hOk := zOK_sb hO hxb hc k hk4
        refine lv_iload_n hx hb dX4_sendBarrier_54 rfl (lv_at hl 2 rfl) ?_
        refine lv_aload_n hx hb dX4_sendBarrier_55 rfl (lv_at hl 0 rfl) ?_
        refine z_get (own := RX4) (C := RX4) (T := TX4) (N := 14) (k := 10) (v := .int ((sp_sb S p k) 22 0)) hx hb hts hinX4 hown hF hR (wX_c0 (sp_sb S p k)) rfl (by decide) (by decide +kernel) rfl rfl dX4_sendBarrier_56 ?_
        refine lv_topi (fun v6 ev6 => ?_)
        obtain rfl : v6 = (nI (zn S 22 0)) := ev6.trans ((zOK.w hOk).1.trans (congrArg nI (congrArg Int32.toNatClampNeg (w2_sb S p 0 k))))
        refine z_ge_n (tgt := 82) hx hb dX4_sendBarrier_59 (by decide) (by omega) (by omega) (fun h59_7 => ?_) (fun h59_7 => ?_)
        · skip
          have hO9 := zOK_sb hO hxb hc (zn S 22 0) (Nat.le_refl _)
          have hR : zR D B (wX cI cZ ad (sp_sb S p (zn S 22 0))) s H locs := by rw [show (sp_sb S p (zn S 22 0)) = (sp_sb S p k) from by rw [show k = zn S 22 0 from by omega]]; exact hR
          refine lv_aload_n hx hb dX4_sendBarrier_82 rfl (lv_at hl 0 rfl) ?_
          refine z_get (own := RX4) (C := RX4) (T := TX4) (N := 14) (k := 1) (v := .ref (ad 4)) hx hb hts hinX4 hown hF hR (wX_c0 (sp_sb S p (zn S 22 0))) rfl (by decide) (by decide +kernel) rfl rfl dX4_sendBarrier_83 ?_
          refine lv_iload_n hx hb dX4_sendBarrier_86 rfl (lv_at hl 1 rfl) ?_
          refine z_callV_i (As := [.int (nI (p))]) (rest := []) (w := wX cI cZ ad) ⟨hx, hb, hml, hown, hts⟩ hF hR (c_X2_keepForBarrier hG (sp_sb S p (zn S 22 0)) p hO9 (by omega)) (cwV 1 hts gX4_sendBarrier_X2_keepForBarrier rfl rfl rfl (by decide +kernel) ⟨Nat.le_of_ble_eq_true rfl, Nat.le_of_ble_eq_true rfl⟩) (wX_c4 (sp_sb S p (zn S 22 0))) rfl rfl rfl hl rfl (Nat.le_of_ble_eq_true rfl) (by decide) dX4_sendBarrier_87 (fun r8 S8 H locs hp8 hR => ?_)
          obtain ⟨hr8, hs8⟩ := hp8
          subst r8
          subst S8
          exact z_iret (w := wX cI cZ ad) (S1 := (sp_keep (sp_sb S p (zn S 22 0)) p)) hx hb hr hlk hF hR dX4_sendBarrier_90 (⟨rfl, rfl⟩)
        · skip
          refine lv_aload_n hx hb dX4_sendBarrier_62 rfl (lv_at hl 0 rfl) ?_
          refine z_get (own := RX4) (C := RX4) (T := TX4) (N := 14) (k := 2) (v := .ref (ad 9)) hx hb hts hinX4 hown hF hR (wX_c0 (sp_sb S p k)) rfl (by decide) (by decide +kernel) rfl rfl dX4_sendBarrier_63 ?_
          refine lv_iload_n hx hb dX4_sendBarrier_66 rfl (lv_at hl 1 rfl) ?_
          refine lv_iload_n hx hb dX4_sendBarrier_67 rfl (lv_at hl 2 rfl) ?_
          refine lv_aload_n hx hb dX4_sendBarrier_68 rfl (lv_at hl 0 rfl) ?_
          refine z_get (own := RX4) (C := RX4) (T := TX4) (N := 14) (k := 12) (v := .int ((sp_sb S p k) 22 2)) hx hb hts hinX4 hown hF hR (wX_c0 (sp_sb S p k)) rfl (by decide) (by decide +kernel) rfl rfl dX4_sendBarrier_69 ?_
          refine lv_ineg hx hb dX4_sendBarrier_72 ?_
          refine z_callV_v (As := [.int (nI (p)), .int (nI (k)), .int (-((sp_sb S p k) 22 2))]) (rest := []) (w := wX cI cZ ad) ⟨hx, hb, hml, hown, hts⟩ hF hR (c_X0_put hG (sp_sb S p k) p k (-(sp_sb S p k 22 2)) hOk (by omega) (by omega) (by rw [zn_sb7 S p k _ (by omega)]; exact hc k (by omega))) (cwV 3 hts gX4_sendBarrier_X0_put rfl rfl rfl (by decide +kernel) ⟨Nat.le_of_ble_eq_true rfl, Nat.le_of_ble_eq_true rfl⟩) (wX_c9 (sp_sb S p k)) rfl rfl rfl hl rfl (Nat.le_of_ble_eq_true rfl) (by decide) dX4_sendBarrier_73 (fun S9 H locs hp9 hR => ?_)
          subst S9
          refine lv_iinc (v := (nI (k + 1))) (lv' := [(2, .int (nI (k + 1))), (0, .ref (ad 0)), (1, .int (nI (p)))]) hx hb dX4_sendBarrier_76 hl (k := 2) rfl (z_inc _) (by decide) rfl (fun ls hl => ?_)
          refine lv_goto (tgt := 54) hx hb dX4_sendBarrier_79 (by decide) ?_
          exact ih54 (k + 1) (by omega) (by omega) _ _ (by rw [show sp_sb S p (k + 1) = (sp_put (sp_sb S p k) (4 * p + k) ((-((sp_sb S p k) 22 2)))) from rfl]; exact hR) ls (lv_sub hl [1, 2, 0] rfl)
    exact loop54 _ 0 (by omega) (Nat.lt_succ_self _) _ _ (by rw [show sp_sb S p 0 = S from rfl]; exact hR) ls (lv_sub hl [1, 2, 0] rfl)
  · exact absurd hc hb36
set_option maxHeartbeats 4000000 in
set_option maxRecDepth 100000 in
theorem c_X4_take_e1 {l : Launch} {D : va_G} {cI cZ : ClassId} {ad : Nat → Nat} {B : Nat → Prop} (hG : ∀ S : zS, va_D B (wX cI cZ ad S)) (hfl : l.stackTraces = false) (S : zS) (x y : Int32) (hO : zOK S) (hxb : zbad x (zn S 22 0)) : zMXi l yX4_take wsX4_take ({ frames := 7, cells := 1, slots := 6, locals := 134 } : Room) [.ref (ad 0), .int (x), .int (y)] D (zT cI cZ) B (wX cI cZ ad) S (fun (_ : Int32) (_ : zS) => False) (fun E => E = zIO) := by
  refine zMXi_of (cc := cX4_take) (maxL := 3) (ret := (some .int)) (by decide) rfl (Nat.le_of_ble_eq_true rfl) ?_
  intro pg en s mm below meth cd hx hb hr hml hown hts hlk hex hF hR ls hl
  have hinX4 : ∀ w ∈ wsX40, w ∈ wsX4_take := by decide +kernel
  have hl : lv_has ls 3 [(0, .ref (ad 0)), (1, .int (x)), (2, .int (y))] := hl
  refine lv_aload_n hx hb dX4_take_0 rfl (lv_at hl 0 rfl) ?_
  refine lv_iload_n hx hb dX4_take_1 rfl (lv_at hl 1 rfl) ?_
  exact z_badV (As := [.int (x)]) (rest := []) (w := wX cI cZ ad) ⟨hx, hb, hml, hown, hts⟩ hlk hex hF hR (c_X4_requireWorker_bad hG hfl S ((x)) hO hxb) (cwV 1 hts gX4_take_X4_requireWorker rfl rfl rfl (by decide +kernel) ⟨Nat.le_of_ble_eq_true rfl, Nat.le_of_ble_eq_true rfl⟩) (wX_c0 S) rfl rfl rfl hl rfl (Nat.le_of_ble_eq_true rfl) (by decide) dX4_take_2 (fun E h => h)
set_option maxHeartbeats 4000000 in
set_option maxRecDepth 100000 in
theorem c_X4_take_e2 {l : Launch} {D : va_G} {cI cZ : ClassId} {ad : Nat → Nat} {B : Nat → Prop} (hG : ∀ S : zS, va_D B (wX cI cZ ad S)) (hfl : l.stackTraces = false) (S : zS) (w : Nat) (y : Int32) (hO : zOK S) (hw : w < zn S 22 0) (hxb : zbad y 4) : zMXi l yX4_take wsX4_take ({ frames := 7, cells := 1, slots := 6, locals := 134 } : Room) [.ref (ad 0), .int (nI (w)), .int (y)] D (zT cI cZ) B (wX cI cZ ad) S (fun (_ : Int32) (_ : zS) => False) (fun E => E = zIO) := by
  refine zMXi_of (cc := cX4_take) (maxL := 3) (ret := (some .int)) (by decide) rfl (Nat.le_of_ble_eq_true rfl) ?_
  intro pg en s mm below meth cd hx hb hr hml hown hts hlk hex hF hR ls hl
  have hinX4 : ∀ w ∈ wsX40, w ∈ wsX4_take := by decide +kernel
  have hl : lv_has ls 3 [(0, .ref (ad 0)), (1, .int (nI (w))), (2, .int (y))] := hl
  refine lv_aload_n hx hb dX4_take_0 rfl (lv_at hl 0 rfl) ?_
  refine lv_iload_n hx hb dX4_take_1 rfl (lv_at hl 1 rfl) ?_
  refine z_callV_v (As := [.int (nI (w))]) (rest := []) (w := wX cI cZ ad) ⟨hx, hb, hml, hown, hts⟩ hF hR (c_X4_requireWorker_ok hG S w hO (by omega)) (cwV 1 hts gX4_take_X4_requireWorker rfl rfl rfl (by decide +kernel) ⟨Nat.le_of_ble_eq_true rfl, Nat.le_of_ble_eq_true rfl⟩) (wX_c0 S) rfl rfl rfl hl rfl (Nat.le_of_ble_eq_true rfl) (by decide) dX4_take_2 (fun S1 H locs hp1 hR => ?_)
  subst S1
  refine lv_iload_n hx hb dX4_take_5 rfl (lv_at hl 2 rfl) ?_
  exact z_badS (As := [.int (y)]) (rest := []) (w := wX cI cZ ad) ⟨hx, hb, hml, hown, hts⟩ hlk hex hF hR (c_X4_requirePartition_bad hG hfl S ((y)) hxb) (va_cwS 1 hts gX4_take_X4_requirePartition rfl rfl rfl (by decide +kernel) ⟨Nat.le_of_ble_eq_true rfl, Nat.le_of_ble_eq_true rfl⟩) rfl hl rfl (Nat.le_of_ble_eq_true rfl) (by decide) dX4_take_6 (fun E h => h)
set_option maxHeartbeats 4000000 in
set_option maxRecDepth 100000 in
theorem c_X4_take_e3 {l : Launch} {D : va_G} {cI cZ : ClassId} {ad : Nat → Nat} {B : Nat → Prop} (hG : ∀ S : zS, va_D B (wX cI cZ ad S)) (hfl : l.stackTraces = false) (S : zS) (w p : Nat) (hO : zOK S) (hw : w < zn S 22 0) (hp : p < 4) (hc : ¬ zcanT S p w) : zMXi l yX4_take wsX4_take ({ frames := 7, cells := 1, slots := 6, locals := 134 } : Room) [.ref (ad 0), .int (nI (w)), .int (nI (p))] D (zT cI cZ) B (wX cI cZ ad) S (fun (_ : Int32) (_ : zS) => False) (fun E => E = zIS) := by
  refine zMXi_of (cc := cX4_take) (maxL := 3) (ret := (some .int)) (by decide) rfl (Nat.le_of_ble_eq_true rfl) ?_
  intro pg en s mm below meth cd hx hb hr hml hown hts hlk hex hF hR ls hl
  have hinX4 : ∀ w ∈ wsX40, w ∈ wsX4_take := by decide +kernel
  have hl : lv_has ls 3 [(0, .ref (ad 0)), (1, .int (nI (w))), (2, .int (nI (p)))] := hl
  have hW1 := (zOK.w hO).2.1
  have hW4 := (zOK.w hO).2.2
  refine lv_aload_n hx hb dX4_take_0 rfl (lv_at hl 0 rfl) ?_
  refine lv_iload_n hx hb dX4_take_1 rfl (lv_at hl 1 rfl) ?_
  refine z_callV_v (As := [.int (nI (w))]) (rest := []) (w := wX cI cZ ad) ⟨hx, hb, hml, hown, hts⟩ hF hR (c_X4_requireWorker_ok hG S w hO (by omega)) (cwV 1 hts gX4_take_X4_requireWorker rfl rfl rfl (by decide +kernel) ⟨Nat.le_of_ble_eq_true rfl, Nat.le_of_ble_eq_true rfl⟩) (wX_c0 S) rfl rfl rfl hl rfl (Nat.le_of_ble_eq_true rfl) (by decide) dX4_take_2 (fun S1 H locs hp1 hR => ?_)
  subst S1
  refine lv_iload_n hx hb dX4_take_5 rfl (lv_at hl 2 rfl) ?_
  refine z_callS_v (As := [.int (nI (p))]) (rest := []) (w := wX cI cZ ad) ⟨hx, hb, hml, hown, hts⟩ hF hR (c_X4_requirePartition_ok hG S p (by omega)) (va_cwS 1 hts gX4_take_X4_requirePartition rfl rfl rfl (by decide +kernel) ⟨Nat.le_of_ble_eq_true rfl, Nat.le_of_ble_eq_true rfl⟩) rfl hl rfl (Nat.le_of_ble_eq_true rfl) (by decide) dX4_take_6 (fun S2 H locs hp2 hR => ?_)
  subst S2
  refine lv_aload_n hx hb dX4_take_9 rfl (lv_at hl 0 rfl) ?_
  refine z_get (own := RX4) (C := RX4) (T := TX4) (N := 14) (k := 2) (v := .ref (ad 9)) hx hb hts hinX4 hown hF hR (wX_c0 S) rfl (by decide) (by decide +kernel) rfl rfl dX4_take_10 ?_
  refine lv_iload_n hx hb dX4_take_13 rfl (lv_at hl 2 rfl) ?_
  refine lv_iload_n hx hb dX4_take_14 rfl (lv_at hl 1 rfl) ?_
  refine z_callV_i (As := [.int (nI (p)), .int (nI (w))]) (rest := []) (w := wX cI cZ ad) ⟨hx, hb, hml, hown, hts⟩ hF hR (c_X0_canGive hG S p w hO (by omega) (by omega)) (cwV 2 hts gX4_take_X0_canGive rfl rfl rfl (by decide +kernel) ⟨Nat.le_of_ble_eq_true rfl, Nat.le_of_ble_eq_true rfl⟩) (wX_c9 S) rfl rfl rfl hl rfl (Nat.le_of_ble_eq_true rfl) (by decide) dX4_take_15 (fun r3 S3 H locs hp3 hR => ?_)
  obtain ⟨hp3, hs3⟩ := hp3
  subst S3
  rcases hp3 with ⟨hb15, hr3⟩ | ⟨hb15, hr3⟩
  · exact absurd hb15 hc
  · subst r3
    refine z_if_ne_n (tgt := 31) hx hb dX4_take_18 (by decide) (by omega) (fun h18_4 => by omega) (fun h18_4 => ?_)
    exact z_throw (Ts := wsX4_take) (w := wX cI cZ ad) (cls := "java/lang/IllegalStateException") hx hb hfl hml hown hts hlk hex hF hR hl (by decide +kernel) (by decide +kernel) (by decide +kernel) (by decide +kernel) (by decide +kernel) (by decide +kernel) (List.mem_of_getElem? (i := 5) rfl) (by decide) dX4_take_21 dX4_take_24 dX4_take_25 dX4_take_27 dX4_take_30 (rfl)
set_option maxHeartbeats 4000000 in
set_option maxRecDepth 100000 in
theorem c_X4_take_ok {l : Launch} {D : va_G} {cI cZ : ClassId} {ad : Nat → Nat} {B : Nat → Prop} (hG : ∀ S : zS, va_D B (wX cI cZ ad S)) (S : zS) (w p : Nat) (hO : zOK S) (hw : w < zn S 22 0) (hp : p < 4) (hc : zcanT S p w) : zMi l yX4_take wsX4_take ({ frames := 7, cells := 0, slots := 0, locals := 134 } : Room) [.ref (ad 0), .int (nI (w)), .int (nI (p))] D (zT cI cZ) B (wX cI cZ ad) S (fun (r : Int32) (S1 : zS) => r = (sp_tfr S p w) ∧ S1 = sp_tf S p w) := by
  refine zMi_of (cc := cX4_take) (maxL := 3) (ret := (some .int)) (by decide) rfl (Nat.le_of_ble_eq_true rfl) ?_
  intro pg en s mm below meth cd hx hb hr hml hown hts hlk hF hR ls hl
  have hinX4 : ∀ w ∈ wsX40, w ∈ wsX4_take := by decide +kernel
  have hl : lv_has ls 3 [(0, .ref (ad 0)), (1, .int (nI (w))), (2, .int (nI (p)))] := hl
  have hW1 := (zOK.w hO).2.1
  have hW4 := (zOK.w hO).2.2
  refine lv_aload_n hx hb dX4_take_0 rfl (lv_at hl 0 rfl) ?_
  refine lv_iload_n hx hb dX4_take_1 rfl (lv_at hl 1 rfl) ?_
  refine z_callV_v (As := [.int (nI (w))]) (rest := []) (w := wX cI cZ ad) ⟨hx, hb, hml, hown, hts⟩ hF hR (c_X4_requireWorker_ok hG S w hO (by omega)) (cwV 1 hts gX4_take_X4_requireWorker rfl rfl rfl (by decide +kernel) ⟨Nat.le_of_ble_eq_true rfl, Nat.le_of_ble_eq_true rfl⟩) (wX_c0 S) rfl rfl rfl hl rfl (Nat.le_of_ble_eq_true rfl) (by decide) dX4_take_2 (fun S1 H locs hp1 hR => ?_)
  subst S1
  refine lv_iload_n hx hb dX4_take_5 rfl (lv_at hl 2 rfl) ?_
  refine z_callS_v (As := [.int (nI (p))]) (rest := []) (w := wX cI cZ ad) ⟨hx, hb, hml, hown, hts⟩ hF hR (c_X4_requirePartition_ok hG S p (by omega)) (va_cwS 1 hts gX4_take_X4_requirePartition rfl rfl rfl (by decide +kernel) ⟨Nat.le_of_ble_eq_true rfl, Nat.le_of_ble_eq_true rfl⟩) rfl hl rfl (Nat.le_of_ble_eq_true rfl) (by decide) dX4_take_6 (fun S2 H locs hp2 hR => ?_)
  subst S2
  refine lv_aload_n hx hb dX4_take_9 rfl (lv_at hl 0 rfl) ?_
  refine z_get (own := RX4) (C := RX4) (T := TX4) (N := 14) (k := 2) (v := .ref (ad 9)) hx hb hts hinX4 hown hF hR (wX_c0 S) rfl (by decide) (by decide +kernel) rfl rfl dX4_take_10 ?_
  refine lv_iload_n hx hb dX4_take_13 rfl (lv_at hl 2 rfl) ?_
  refine lv_iload_n hx hb dX4_take_14 rfl (lv_at hl 1 rfl) ?_
  refine z_callV_i (As := [.int (nI (p)), .int (nI (w))]) (rest := []) (w := wX cI cZ ad) ⟨hx, hb, hml, hown, hts⟩ hF hR (c_X0_canGive hG S p w hO (by omega) (by omega)) (cwV 2 hts gX4_take_X0_canGive rfl rfl rfl (by decide +kernel) ⟨Nat.le_of_ble_eq_true rfl, Nat.le_of_ble_eq_true rfl⟩) (wX_c9 S) rfl rfl rfl hl rfl (Nat.le_of_ble_eq_true rfl) (by decide) dX4_take_15 (fun r3 S3 H locs hp3 hR => ?_)
  obtain ⟨hp3, hs3⟩ := hp3
  subst S3
  rcases hp3 with ⟨hb15, hr3⟩ | ⟨hb15, hr3⟩
  · subst r3
    refine z_if_ne_n (tgt := 31) hx hb dX4_take_18 (by decide) (by omega) (fun h18_4 => ?_) (fun h18_4 => by omega)
    refine lv_aload_n hx hb dX4_take_31 rfl (lv_at hl 0 rfl) ?_
    refine lv_iload_n hx hb dX4_take_32 rfl (lv_at hl 2 rfl) ?_
    refine lv_iload_n hx hb dX4_take_33 rfl (lv_at hl 1 rfl) ?_
    refine z_callV_i (As := [.int (nI (p)), .int (nI (w))]) (rest := []) (w := wX cI cZ ad) ⟨hx, hb, hml, hown, hts⟩ hF hR (c_X4_takeFrom hG S p w hO (by omega) (by omega) hc.1) (cwV 2 hts gX4_take_X4_takeFrom rfl rfl rfl (by decide +kernel) ⟨Nat.le_of_ble_eq_true rfl, Nat.le_of_ble_eq_true rfl⟩) (wX_c0 S) rfl rfl rfl hl rfl (Nat.le_of_ble_eq_true rfl) (by decide) dX4_take_34 (fun r5 S5 H locs hp5 hR => ?_)
    obtain ⟨hr5, hs5⟩ := hp5
    subst r5
    subst S5
    have hO5 := (zOK_tf (p := p) (w := w) hO)
    exact z_iret (w := wX cI cZ ad) (S1 := (sp_tf S p w)) hx hb hr hlk hF hR dX4_take_37 (⟨rfl, rfl⟩)
  · exact absurd hc hb15
set_option maxHeartbeats 4000000 in
set_option maxRecDepth 100000 in
theorem c_X4_pump_e1 {l : Launch} {D : va_G} {cI cZ : ClassId} {ad : Nat → Nat} {B : Nat → Prop} (hG : ∀ S : zS, va_D B (wX cI cZ ad S)) (hfl : l.stackTraces = false) (S : zS) (z : Int32) (hO : zOK S) (hz : zbadv z 1 20) : zMXi l yX4_pump wsX4_pump ({ frames := 7, cells := 1, slots := 6, locals := 157 } : Room) [.ref (ad 0), .int (z)] D (zT cI cZ) B (wX cI cZ ad) S (fun (_ : Int32) (_ : zS) => False) (fun E => E = zIA) := by
  refine zMXi_of (cc := cX4_pump) (maxL := 4) (ret := (some .int)) (by decide) rfl (Nat.le_of_ble_eq_true rfl) ?_
  intro pg en s mm below meth cd hx hb hr hml hown hts hlk hex hF hR ls hl
  have hl : lv_has ls 4 [(0, .ref (ad 0)), (1, .int (z))] := hl
  refine lv_iload_n hx hb dX4_pump_0 rfl (lv_at hl 1 rfl) ?_
  refine lv_iconst (v := (nI (1))) hx hb dX4_pump_1 (by decide) ?_
  refine lv_icmp_lt (tgt := 11) hx hb dX4_pump_2 (by decide) (fun h2_1 => ?_) (fun h2_1 => ?_)
  · skip
    have q2 := h2_1
    exact z_throw (Ts := wsX4_pump) (w := wX cI cZ ad) (cls := "java/lang/IllegalArgumentException") hx hb hfl hml hown hts hlk hex hF hR hl (by decide +kernel) (by decide +kernel) (by decide +kernel) (by decide +kernel) (by decide +kernel) (by decide +kernel) (List.mem_of_getElem? (i := 6) rfl) (by decide) dX4_pump_11 dX4_pump_14 dX4_pump_15 dX4_pump_17 dX4_pump_20 (rfl)
  · skip
    have q2 := h2_1
    refine lv_iload_n hx hb dX4_pump_5 rfl (lv_at hl 1 rfl) ?_
    refine lv_bipush (v := (nI (20))) hx hb dX4_pump_6 (by decide) ?_
    refine lv_icmp_le (tgt := 21) hx hb dX4_pump_8 (by decide) (fun h8_2 => (zbadv_no hz q2 h8_2).elim) (fun h8_2 => ?_)
    exact z_throw (Ts := wsX4_pump) (w := wX cI cZ ad) (cls := "java/lang/IllegalArgumentException") hx hb hfl hml hown hts hlk hex hF hR hl (by decide +kernel) (by decide +kernel) (by decide +kernel) (by decide +kernel) (by decide +kernel) (by decide +kernel) (List.mem_of_getElem? (i := 6) rfl) (by decide) dX4_pump_11 dX4_pump_14 dX4_pump_15 dX4_pump_17 dX4_pump_20 (rfl)
set_option maxHeartbeats 4000000 in
set_option maxRecDepth 100000 in
theorem c_X4_pump_ok {l : Launch} {D : va_G} {cI cZ : ClassId} {ad : Nat → Nat} {B : Nat → Prop} (hG : ∀ S : zS, va_D B (wX cI cZ ad S)) (S : zS) (t : Nat) (hO : zOK S) (hv : 1 ≤ t) (hv2 : t ≤ 20) : zMi l yX4_pump wsX4_pump ({ frames := 7, cells := 0, slots := 0, locals := 157 } : Room) [.ref (ad 0), .int (nI (t))] D (zT cI cZ) B (wX cI cZ ad) S (fun (r : Int32) (S1 : zS) => r = (nI (sp_pmc S t)) ∧ S1 = sp_pm S t) := by
  refine zMi_of (cc := cX4_pump) (maxL := 4) (ret := (some .int)) (by decide) rfl (Nat.le_of_ble_eq_true rfl) ?_
  intro pg en s mm below meth cd hx hb hr hml hown hts hlk hF hR ls hl
  have hl : lv_has ls 4 [(0, .ref (ad 0)), (1, .int (nI (t)))] := hl
  refine lv_iload_n hx hb dX4_pump_0 rfl (lv_at hl 1 rfl) ?_
  refine lv_iconst (v := (nI (1))) hx hb dX4_pump_1 (by decide) ?_
  refine z_lt_n (tgt := 11) hx hb dX4_pump_2 (by decide) (by omega) (by omega) (fun h2_1 => by omega) (fun h2_1 => ?_)
  refine lv_iload_n hx hb dX4_pump_5 rfl (lv_at hl 1 rfl) ?_
  refine lv_bipush (v := (nI (20))) hx hb dX4_pump_6 (by decide) ?_
  refine z_le_n (tgt := 21) hx hb dX4_pump_8 (by decide) (by omega) (by omega) (fun h8_2 => ?_) (fun h8_2 => by omega)
  refine lv_iconst (v := (nI (0))) hx hb dX4_pump_21 (by decide) ?_
  refine lv_istore_n (lv' := [(2, .int (nI (0))), (0, .ref (ad 0)), (1, .int (nI (t)))]) hx hb dX4_pump_22 rfl hl (by decide) rfl (fun ls hl => ?_)
  refine lv_iconst (v := (nI (0))) hx hb dX4_pump_23 (by decide) ?_
  refine lv_istore_n (lv' := [(3, .int (nI (0))), (2, .int (nI (0))), (0, .ref (ad 0)), (1, .int (nI (t)))]) hx hb dX4_pump_24 rfl hl (by decide) rfl (fun ls hl => ?_)
  have loop25 : ∀ (nf25 : Nat) (k : Nat), (k ≤ t) → t - k < nf25 → ∀ (H : Heap) (locs : List Loc), zR D B (wX cI cZ ad (sp_pm S k)) s H locs → ∀ ls : Array Slot, lv_has ls 4 [(0, .ref (ad 0)), (1, .int (nI (t))), (2, .int (nI (sp_pmc S k))), (3, .int (nI (k)))] → W pg l en ({ frames := 7, cells := 0, slots := 0, locals := 157 } : Room) s mm ([.ref (ad 0), .int (nI (t))] : List Value).toArray below meth cd H locs 0 0 (MQ below (va_Qi (fun (r : Int32) (S1 : zS) => r = (nI (sp_pmc S t)) ∧ S1 = sp_pm S t) (zB D (zT cI cZ) (wX cI cZ ad)) (zA B s.heap.size)) ([.ref (ad 0), .int (nI (t))] : List Value).toArray s 0 0 (zA B s.heap.size)) (F0 mm 25 ls []) := by
    intro nf25
    induction nf25 with
    | zero => intro k hk4 hn; exact absurd hn (Nat.not_lt_zero _)
    | succ nf25 ih25 =>
      intro k hk4 hn H locs hR ls hl
      have hOk := zOK_pm hO k
      refine lv_iload_n hx hb dX4_pump_25 rfl (lv_at hl 3 rfl) ?_
      refine lv_iload_n hx hb dX4_pump_26 rfl (lv_at hl 1 rfl) ?_
      refine z_ge_n (tgt := 50) hx hb dX4_pump_27 (by decide) (by omega) (by omega) (fun h27_3 => ?_) (fun h27_3 => ?_)
      · skip
        refine lv_iload_n hx hb dX4_pump_50 rfl (lv_at hl 2 rfl) ?_
        exact z_iret (w := wX cI cZ ad) (S1 := (sp_pm S k)) hx hb hr hlk hF hR dX4_pump_51 (⟨by rw [show t = k from by omega], by rw [show t = k from by omega]⟩)
      · skip
        refine lv_iload_n hx hb dX4_pump_30 rfl (lv_at hl 2 rfl) ?_
        refine lv_aload_n hx hb dX4_pump_31 rfl (lv_at hl 0 rfl) ?_
        refine z_callV_i (As := []) (rest := [.int (nI (sp_pmc S k))]) (w := wX cI cZ ad) ⟨hx, hb, hml, hown, hts⟩ hF hR (c_X4_readRound hG (sp_pm S k) hOk) (cwV 0 hts gX4_pump_X4_readRound rfl rfl rfl (by decide +kernel) ⟨Nat.le_of_ble_eq_true rfl, Nat.le_of_ble_eq_true rfl⟩) (wX_c0 (sp_pm S k)) rfl rfl rfl hl rfl (Nat.le_of_ble_eq_true rfl) (by decide) dX4_pump_32 (fun r4 S4 H locs hp4 hR => ?_)
        obtain ⟨hr4, hs4⟩ := hp4
        subst r4
        subst S4
        have hO4 := (zOK_rr hOk 4)
        refine z_iadd_n hx hb dX4_pump_35 ?_
        refine lv_istore_n (lv' := [(2, .int (nI ((sp_pmc S k) + (sp_rrc (sp_pm S k) 4)))), (0, .ref (ad 0)), (1, .int (nI (t))), (3, .int (nI (k)))]) hx hb dX4_pump_36 rfl hl (by decide) rfl (fun ls hl => ?_)
        refine lv_iload_n hx hb dX4_pump_37 rfl (lv_at hl 0 rfl) ?_
        refine lv_aload_n hx hb dX4_pump_38 rfl (lv_at hl 1 rfl) ?_
        refine z_callV_i (As := []) (rest := [.int (nI ((sp_pmc S k) + (sp_rrc (sp_pm S k) 4)))]) (w := wX cI cZ ad) ⟨hx, hb, hml, hown, hts⟩ hF hR (c_X4_takeRound hG (sp_rr (sp_pm S k) 4) hO4) (cwV 0 hts gX4_pump_X4_takeRound rfl rfl rfl (by decide +kernel) ⟨Nat.le_of_ble_eq_true rfl, Nat.le_of_ble_eq_true rfl⟩) (wX_c0 (sp_rr (sp_pm S k) 4)) rfl rfl rfl hl rfl (Nat.le_of_ble_eq_true rfl) (by decide) dX4_pump_39 (fun r5 S5 H locs hp5 hR => ?_)
        obtain ⟨hr5, hs5⟩ := hp5
        subst r5
        subst S5
        have hO5 := (zOK_tt hO4 (zn (sp_rr (sp_pm S k) 4) 22 0))
        refine z_iadd_n hx hb dX4_pump_42 ?_
        refine lv_topi (fun v6 ev6 => ?_)
        obtain rfl : v6 = (nI (sp_pmc S (k + 1))) := ev6.trans (congrArg nI (Nat.add_assoc _ _ _))
        refine lv_istore_n (lv' := [(2, .int (nI (sp_pmc S (k + 1)))), (0, .ref (ad 0)), (1, .int (nI (t))), (3, .int (nI (k)))]) hx hb dX4_pump_43 rfl hl (by decide) rfl (fun ls hl => ?_)
        refine lv_iinc (v := (nI (k + 1))) (lv' := [(3, .int (nI (k + 1))), (2, .int (nI (sp_pmc S (k + 1)))), (0, .ref (ad 0)), (1, .int (nI (t)))]) hx hb dX4_pump_44 hl (k := 3) rfl (z_inc _) (by decide) rfl (fun ls hl => ?_)
        refine lv_goto (tgt := 25) hx hb dX4_pump_47 (by decide) ?_
        exact ih25 (k + 1) (by omega) (by omega) _ _ (by rw [show sp_pm S (k + 1) = (sp_tt (sp_rr (sp_pm S k) 4) (zn (sp_rr (sp_pm S k) 4) 22 0)) from rfl]; exact hR) ls (lv_sub hl [2, 3, 1, 0] rfl)
  exact loop25 _ 0 (by omega) (Nat.lt_succ_self _) _ _ (by rw [show sp_pm S 0 = S from rfl]; exact hR) ls (lv_sub hl [2, 3, 1, 0] rfl)
set_option maxHeartbeats 4000000 in
set_option maxRecDepth 100000 in
theorem c_X4_commit_e1 {l : Launch} {D : va_G} {cI cZ : ClassId} {ad : Nat → Nat} {B : Nat → Prop} (hG : ∀ S : zS, va_D B (wX cI cZ ad S)) (hfl : l.stackTraces = false) (S : zS) (x : Int32) (hO : zOK S) (hxb : zbad x (zn S 22 0)) : zMXi l yX4_commit wsX4_commit ({ frames := 7, cells := 1, slots := 6, locals := 103 } : Room) [.ref (ad 0), .int (x)] D (zT cI cZ) B (wX cI cZ ad) S (fun (_ : Int32) (_ : zS) => False) (fun E => E = zIO) := by
  refine zMXi_of (cc := cX4_commit) (maxL := 2) (ret := (some .int)) (by decide) rfl (Nat.le_of_ble_eq_true rfl) ?_
  intro pg en s mm below meth cd hx hb hr hml hown hts hlk hex hF hR ls hl
  have hl : lv_has ls 2 [(0, .ref (ad 0)), (1, .int (x))] := hl
  refine lv_aload_n hx hb dX4_commit_0 rfl (lv_at hl 0 rfl) ?_
  refine lv_iload_n hx hb dX4_commit_1 rfl (lv_at hl 1 rfl) ?_
  exact z_badV (As := [.int (x)]) (rest := []) (w := wX cI cZ ad) ⟨hx, hb, hml, hown, hts⟩ hlk hex hF hR (c_X4_requireWorker_bad hG hfl S ((x)) hO hxb) (cwV 1 hts gX4_commit_X4_requireWorker rfl rfl rfl (by decide +kernel) ⟨Nat.le_of_ble_eq_true rfl, Nat.le_of_ble_eq_true rfl⟩) (wX_c0 S) rfl rfl rfl hl rfl (Nat.le_of_ble_eq_true rfl) (by decide) dX4_commit_2 (fun E h => h)
set_option maxHeartbeats 4000000 in
set_option maxRecDepth 100000 in
theorem c_X4_commit_e2 {l : Launch} {D : va_G} {cI cZ : ClassId} {ad : Nat → Nat} {B : Nat → Prop} (hG : ∀ S : zS, va_D B (wX cI cZ ad S)) (hfl : l.stackTraces = false) (S : zS) (w : Nat) (hO : zOK S) (hw : w < zn S 22 0) (hc : ¬ zrdy S w) : zMXi l yX4_commit wsX4_commit ({ frames := 7, cells := 1, slots := 6, locals := 103 } : Room) [.ref (ad 0), .int (nI (w))] D (zT cI cZ) B (wX cI cZ ad) S (fun (_ : Int32) (_ : zS) => False) (fun E => E = zIS) := by
  refine zMXi_of (cc := cX4_commit) (maxL := 2) (ret := (some .int)) (by decide) rfl (Nat.le_of_ble_eq_true rfl) ?_
  intro pg en s mm below meth cd hx hb hr hml hown hts hlk hex hF hR ls hl
  have hl : lv_has ls 2 [(0, .ref (ad 0)), (1, .int (nI (w)))] := hl
  have hW1 := (zOK.w hO).2.1
  have hW4 := (zOK.w hO).2.2
  refine lv_aload_n hx hb dX4_commit_0 rfl (lv_at hl 0 rfl) ?_
  refine lv_iload_n hx hb dX4_commit_1 rfl (lv_at hl 1 rfl) ?_
  refine z_callV_v (As := [.int (nI (w))]) (rest := []) (w := wX cI cZ ad) ⟨hx, hb, hml, hown, hts⟩ hF hR (c_X4_requireWorker_ok hG S w hO (by omega)) (cwV 1 hts gX4_commit_X4_requireWorker rfl rfl rfl (by decide +kernel) ⟨Nat.le_of_ble_eq_true rfl, Nat.le_of_ble_eq_true rfl⟩) (wX_c0 S) rfl rfl rfl hl rfl (Nat.le_of_ble_eq_true rfl) (by decide) dX4_commit_2 (fun S1 H locs hp1 hR => ?_)
  subst S1
  refine lv_aload_n hx hb dX4_commit_5 rfl (lv_at hl 0 rfl) ?_
  refine lv_iload_n hx hb dX4_commit_6 rfl (lv_at hl 1 rfl) ?_
  refine z_callV_i (As := [.int (nI (w))]) (rest := []) (w := wX cI cZ ad) ⟨hx, hb, hml, hown, hts⟩ hF hR (c_X4_isReadyToCommit hG S w (by omega)) (cwV 1 hts gX4_commit_X4_isReadyToCommit rfl rfl rfl (by decide +kernel) ⟨Nat.le_of_ble_eq_true rfl, Nat.le_of_ble_eq_true rfl⟩) (wX_c0 S) rfl rfl rfl hl rfl (Nat.le_of_ble_eq_true rfl) (by decide) dX4_commit_7 (fun r2 S2 H locs hp2 hR => ?_)
  obtain ⟨hp2, hs2⟩ := hp2
  subst S2
  rcases hp2 with ⟨hb7, hr2⟩ | ⟨hb7, hr2⟩
  · exact absurd hb7 hc
  · subst r2
    refine z_if_ne_n (tgt := 23) hx hb dX4_commit_10 (by decide) (by omega) (fun h10_3 => by omega) (fun h10_3 => ?_)
    exact z_throw (Ts := wsX4_commit) (w := wX cI cZ ad) (cls := "java/lang/IllegalStateException") hx hb hfl hml hown hts hlk hex hF hR hl (by decide +kernel) (by decide +kernel) (by decide +kernel) (by decide +kernel) (by decide +kernel) (by decide +kernel) (List.mem_of_getElem? (i := 7) rfl) (by decide) dX4_commit_13 dX4_commit_16 dX4_commit_17 dX4_commit_19 dX4_commit_22 (rfl)
set_option maxHeartbeats 4000000 in
set_option maxRecDepth 100000 in
theorem c_X4_commit_ok {l : Launch} {D : va_G} {cI cZ : ClassId} {ad : Nat → Nat} {B : Nat → Prop} (hG : ∀ S : zS, va_D B (wX cI cZ ad S)) (S : zS) (w : Nat) (hO : zOK S) (hw : w < zn S 22 0) (hc : zrdy S w) : zMi l yX4_commit wsX4_commit ({ frames := 7, cells := 0, slots := 0, locals := 103 } : Room) [.ref (ad 0), .int (nI (w))] D (zT cI cZ) B (wX cI cZ ad) S (fun (r : Int32) (S1 : zS) => r = (sp_comr S w) ∧ S1 = sp_com S w) := by
  refine zMi_of (cc := cX4_commit) (maxL := 2) (ret := (some .int)) (by decide) rfl (Nat.le_of_ble_eq_true rfl) ?_
  intro pg en s mm below meth cd hx hb hr hml hown hts hlk hF hR ls hl
  have hl : lv_has ls 2 [(0, .ref (ad 0)), (1, .int (nI (w)))] := hl
  have hW1 := (zOK.w hO).2.1
  have hW4 := (zOK.w hO).2.2
  refine lv_aload_n hx hb dX4_commit_0 rfl (lv_at hl 0 rfl) ?_
  refine lv_iload_n hx hb dX4_commit_1 rfl (lv_at hl 1 rfl) ?_
  refine z_callV_v (As := [.int (nI (w))]) (rest := []) (w := wX cI cZ ad) ⟨hx, hb, hml, hown, hts⟩ hF hR (c_X4_requireWorker_ok hG S w hO (by omega)) (cwV 1 hts gX4_commit_X4_requireWorker rfl rfl rfl (by decide +kernel) ⟨Nat.le_of_ble_eq_true rfl, Nat.le_of_ble_eq_true rfl⟩) (wX_c0 S) rfl rfl rfl hl rfl (Nat.le_of_ble_eq_true rfl) (by decide) dX4_commit_2 (fun S1 H locs hp1 hR => ?_)
  subst S1
  refine lv_aload_n hx hb dX4_commit_5 rfl (lv_at hl 0 rfl) ?_
  refine lv_iload_n hx hb dX4_commit_6 rfl (lv_at hl 1 rfl) ?_
  refine z_callV_i (As := [.int (nI (w))]) (rest := []) (w := wX cI cZ ad) ⟨hx, hb, hml, hown, hts⟩ hF hR (c_X4_isReadyToCommit hG S w (by omega)) (cwV 1 hts gX4_commit_X4_isReadyToCommit rfl rfl rfl (by decide +kernel) ⟨Nat.le_of_ble_eq_true rfl, Nat.le_of_ble_eq_true rfl⟩) (wX_c0 S) rfl rfl rfl hl rfl (Nat.le_of_ble_eq_true rfl) (by decide) dX4_commit_7 (fun r2 S2 H locs hp2 hR => ?_)
  obtain ⟨hp2, hs2⟩ := hp2
  subst S2
  rcases hp2 with ⟨hb7, hr2⟩ | ⟨hb7, hr2⟩
  · subst r2
    refine z_if_ne_n (tgt := 23) hx hb dX4_commit_10 (by decide) (by omega) (fun h10_3 => ?_) (fun h10_3 => by omega)
    refine lv_aload_n hx hb dX4_commit_23 rfl (lv_at hl 0 rfl) ?_
    refine lv_iload_n hx hb dX4_commit_24 rfl (lv_at hl 1 rfl) ?_
    refine z_callV_i (As := [.int (nI (w))]) (rest := []) (w := wX cI cZ ad) ⟨hx, hb, hml, hown, hts⟩ hF hR (c_X4_commitSealed hG S w hO (by omega)) (cwV 1 hts gX4_commit_X4_commitSealed rfl rfl rfl (by decide +kernel) ⟨Nat.le_of_ble_eq_true rfl, Nat.le_of_ble_eq_true rfl⟩) (wX_c0 S) rfl rfl rfl hl rfl (Nat.le_of_ble_eq_true rfl) (by decide) dX4_commit_25 (fun r4 S4 H locs hp4 hR => ?_)
    obtain ⟨hr4, hs4⟩ := hp4
    subst r4
    subst S4
    have hO4 := (zOK_com (w := w) hO)
    exact z_iret (w := wX cI cZ ad) (S1 := (sp_com S w)) hx hb hr hlk hF hR dX4_commit_28 (⟨rfl, rfl⟩)
  · exact absurd hc hb7
set_option maxHeartbeats 4000000 in
set_option maxRecDepth 100000 in
theorem c_X4_beginCheckpoint_e1 {l : Launch} {D : va_G} {cI cZ : ClassId} {ad : Nat → Nat} {B : Nat → Prop} (hG : ∀ S : zS, va_D B (wX cI cZ ad S)) (hfl : l.stackTraces = false) (S : zS) (hO : zOK S) (hc : ¬ S 22 2 = (-1) ∨ ¬ ∀ w, w < zn S 22 0 → S 21 w = (-1)) : zMXi l yX4_beginCheckpoint wsX4_beginCheckpoint ({ frames := 6, cells := 1, slots := 6, locals := 82 } : Room) [.ref (ad 0)] D (zT cI cZ) B (wX cI cZ ad) S (fun (_ : Int32) (_ : zS) => False) (fun E => E = zIS) := by
  refine zMXi_of (cc := cX4_beginCheckpoint) (maxL := 1) (ret := (some .int)) (by decide) rfl (Nat.le_of_ble_eq_true rfl) ?_
  intro pg en s mm below meth cd hx hb hr hml hown hts hlk hex hF hR ls hl
  have hinX4 : ∀ w ∈ wsX40, w ∈ wsX4_beginCheckpoint := by decide +kernel
  have hl : lv_has ls 1 [(0, .ref (ad 0))] := hl
  refine lv_aload_n hx hb dX4_beginCheckpoint_0 rfl (lv_at hl 0 rfl) ?_
  refine z_get (own := RX4) (C := RX4) (T := TX4) (N := 14) (k := 12) (v := .int (S 22 2)) hx hb hts hinX4 hown hF hR (wX_c0 S) rfl (by decide) (by decide +kernel) rfl rfl dX4_beginCheckpoint_1 ?_
  refine lv_iconst (v := ((-1))) hx hb dX4_beginCheckpoint_4 (by decide) ?_
  refine lv_icmp_ne (tgt := 15) hx hb dX4_beginCheckpoint_5 (by decide) (fun h5_1 => ?_) (fun h5_1 => ?_)
  · skip
    exact z_throw (Ts := wsX4_beginCheckpoint) (w := wX cI cZ ad) (cls := "java/lang/IllegalStateException") hx hb hfl hml hown hts hlk hex hF hR hl (by decide +kernel) (by decide +kernel) (by decide +kernel) (by decide +kernel) (by decide +kernel) (by decide +kernel) (List.mem_of_getElem? (i := 8) rfl) (by decide) dX4_beginCheckpoint_15 dX4_beginCheckpoint_18 dX4_beginCheckpoint_19 dX4_beginCheckpoint_21 dX4_beginCheckpoint_24 (rfl)
  · skip
    have q5 := h5_1
    refine lv_aload_n hx hb dX4_beginCheckpoint_8 rfl (lv_at hl 0 rfl) ?_
    refine z_callV_i (As := []) (rest := []) (w := wX cI cZ ad) ⟨hx, hb, hml, hown, hts⟩ hF hR (c_X4_hasAnySealed hG S hO) (cwV 0 hts gX4_beginCheckpoint_X4_hasAnySealed rfl rfl rfl (by decide +kernel) ⟨Nat.le_of_ble_eq_true rfl, Nat.le_of_ble_eq_true rfl⟩) (wX_c0 S) rfl rfl rfl hl rfl (Nat.le_of_ble_eq_true rfl) (by decide) dX4_beginCheckpoint_9 (fun r2 S2 H locs hp2 hR => ?_)
    obtain ⟨hp2, hs2⟩ := hp2
    subst S2
    rcases hp2 with ⟨hb9, hr2⟩ | ⟨hb9, hr2⟩
    · subst r2
      refine z_if_eq_n (tgt := 25) hx hb dX4_beginCheckpoint_12 (by decide) (by omega) (fun h12_3 => by omega) (fun h12_3 => ?_)
      exact z_throw (Ts := wsX4_beginCheckpoint) (w := wX cI cZ ad) (cls := "java/lang/IllegalStateException") hx hb hfl hml hown hts hlk hex hF hR hl (by decide +kernel) (by decide +kernel) (by decide +kernel) (by decide +kernel) (by decide +kernel) (by decide +kernel) (List.mem_of_getElem? (i := 8) rfl) (by decide) dX4_beginCheckpoint_15 dX4_beginCheckpoint_18 dX4_beginCheckpoint_19 dX4_beginCheckpoint_21 dX4_beginCheckpoint_24 (rfl)
    · exact absurd q5 (hc.elim id (fun q => absurd (Classical.not_not.mp hb9) q))
set_option maxHeartbeats 4000000 in
set_option maxRecDepth 100000 in
theorem c_X4_beginCheckpoint_ok {l : Launch} {D : va_G} {cI cZ : ClassId} {ad : Nat → Nat} {B : Nat → Prop} (hG : ∀ S : zS, va_D B (wX cI cZ ad S)) (S : zS) (hO : zOK S) (hc1 : S 22 2 = (-1)) (hc : ∀ w, w < zn S 22 0 → S 21 w = (-1)) : zMi l yX4_beginCheckpoint wsX4_beginCheckpoint ({ frames := 1, cells := 0, slots := 0, locals := 21 } : Room) [.ref (ad 0)] D (zT cI cZ) B (wX cI cZ ad) S (fun (r : Int32) (S1 : zS) => r = (S 22 1 + nI 1) ∧ S1 = sp_beg S) := by
  refine zMi_of (cc := cX4_beginCheckpoint) (maxL := 1) (ret := (some .int)) (by decide) rfl (Nat.le_of_ble_eq_true rfl) ?_
  intro pg en s mm below meth cd hx hb hr hml hown hts hlk hF hR ls hl
  have hinX4 : ∀ w ∈ wsX40, w ∈ wsX4_beginCheckpoint := by decide +kernel
  have hl : lv_has ls 1 [(0, .ref (ad 0))] := hl
  refine lv_aload_n hx hb dX4_beginCheckpoint_0 rfl (lv_at hl 0 rfl) ?_
  refine z_get (own := RX4) (C := RX4) (T := TX4) (N := 14) (k := 12) (v := .int (S 22 2)) hx hb hts hinX4 hown hF hR (wX_c0 S) rfl (by decide) (by decide +kernel) rfl rfl dX4_beginCheckpoint_1 ?_
  refine lv_iconst (v := ((-1))) hx hb dX4_beginCheckpoint_4 (by decide) ?_
  refine lv_icmp_ne (tgt := 15) hx hb dX4_beginCheckpoint_5 (by decide) (fun h5_1 => absurd hc1 h5_1) (fun h5_1 => ?_)
  refine lv_aload_n hx hb dX4_beginCheckpoint_8 rfl (lv_at hl 0 rfl) ?_
  refine z_callV_i (As := []) (rest := []) (w := wX cI cZ ad) ⟨hx, hb, hml, hown, hts⟩ hF hR (c_X4_hasAnySealed hG S hO) (cwV 0 hts gX4_beginCheckpoint_X4_hasAnySealed rfl rfl rfl (by decide +kernel) ⟨Nat.le_of_ble_eq_true rfl, Nat.le_of_ble_eq_true rfl⟩) (wX_c0 S) rfl rfl rfl hl rfl (Nat.le_of_ble_eq_true rfl) (by decide) dX4_beginCheckpoint_9 (fun r2 S2 H locs hp2 hR => ?_)
  obtain ⟨hp2, hs2⟩ := hp2
  subst S2
  rcases hp2 with ⟨hb9, hr2⟩ | ⟨hb9, hr2⟩
  · exact absurd hc hb9
  · subst r2
    refine z_if_eq_n (tgt := 25) hx hb dX4_beginCheckpoint_12 (by decide) (by omega) (fun h12_3 => ?_) (fun h12_3 => by omega)
    refine lv_aload_n hx hb dX4_beginCheckpoint_25 rfl (lv_at hl 0 rfl) ?_
    refine lv_dup hx hb dX4_beginCheckpoint_26 rfl ?_
    refine z_get (own := RX4) (C := RX4) (T := TX4) (N := 14) (k := 11) (v := .int (S 22 1)) hx hb hts hinX4 hown hF hR (wX_c0 S) rfl (by decide) (by decide +kernel) rfl rfl dX4_beginCheckpoint_27 ?_
    refine lv_iconst (v := (nI (1))) hx hb dX4_beginCheckpoint_30 (by decide) ?_
    refine lv_iadd hx hb dX4_beginCheckpoint_31 ?_
    refine z_put (own := RX4) (C := RX4) (T := TX4) (N := 14) (k := 11) (ty := .int) hx hb hts hinX4 tyX4 tyX4_ok nmX4 hown hF (hG S) hR (wX_c0 S) rfl (by decide) (by decide +kernel) rfl rfl (by decide +kernel) rfl rfl (Nat.le_of_ble_eq_true rfl) (wX_p1 S ((S 22 1) + (nI (1)))) dX4_beginCheckpoint_32 (fun H locs hR => ?_)
    refine lv_aload_n hx hb dX4_beginCheckpoint_35 rfl (lv_at hl 0 rfl) ?_
    refine lv_aload_n hx hb dX4_beginCheckpoint_36 rfl (lv_at hl 0 rfl) ?_
    refine z_get (own := RX4) (C := RX4) (T := TX4) (N := 14) (k := 11) (v := .int (((upd (S 22) 1 ((S 22 1) + (nI (1))))) 1)) hx hb hts hinX4 hown hF hR (wX_c0 (zU S 22 (upd (S 22) 1 ((S 22 1) + (nI (1)))))) rfl (by decide) (by decide +kernel) rfl rfl dX4_beginCheckpoint_37 ?_
    refine lv_topi (fun v4 ev4 => ?_)
    obtain rfl : v4 = (S 22 1 + nI 1) := ev4.trans (pk_us)
    refine z_put (own := RX4) (C := RX4) (T := TX4) (N := 14) (k := 12) (ty := .int) hx hb hts hinX4 tyX4 tyX4_ok nmX4 hown hF (hG (zU S 22 (upd (S 22) 1 ((S 22 1) + (nI (1)))))) hR (wX_c0 (zU S 22 (upd (S 22) 1 ((S 22 1) + (nI (1)))))) rfl (by decide) (by decide +kernel) rfl rfl (by decide +kernel) rfl rfl (Nat.le_of_ble_eq_true rfl) (wX_p2 (zU S 22 (upd (S 22) 1 ((S 22 1) + (nI (1))))) (S 22 1 + nI 1)) dX4_beginCheckpoint_40 (fun H locs hR => ?_)
    have hR : zR D B (wX cI cZ ad (zU S 22 (upd ((upd (S 22) 1 ((S 22 1) + (nI (1))))) 2 (S 22 1 + nI 1)))) s H locs := by rw [show (zU S 22 (upd ((upd (S 22) 1 ((S 22 1) + (nI (1))))) 2 (S 22 1 + nI 1))) = zU (zU S 22 (upd (S 22) 1 ((S 22 1) + (nI (1))))) 22 (upd ((upd (S 22) 1 ((S 22 1) + (nI (1))))) 2 (S 22 1 + nI 1)) from (zU_U _ _ _ _).symm]; exact hR
    refine lv_aload_n hx hb dX4_beginCheckpoint_43 rfl (lv_at hl 0 rfl) ?_
    refine z_get (own := RX4) (C := RX4) (T := TX4) (N := 14) (k := 1) (v := .ref (ad 4)) hx hb hts hinX4 hown hF hR (wX_c0 (zU S 22 (upd ((upd (S 22) 1 ((S 22 1) + (nI (1))))) 2 (S 22 1 + nI 1)))) rfl (by decide) (by decide +kernel) rfl rfl dX4_beginCheckpoint_44 ?_
    refine z_callV_v (As := []) (rest := []) (w := wX cI cZ ad) ⟨hx, hb, hml, hown, hts⟩ hF hR (c_X2_forgetBarriers hG (zU S 22 (upd ((upd (S 22) 1 ((S 22 1) + (nI (1))))) 2 (S 22 1 + nI 1))) ) (cwV 0 hts gX4_beginCheckpoint_X2_forgetBarriers rfl rfl rfl (by decide +kernel) ⟨Nat.le_of_ble_eq_true rfl, Nat.le_of_ble_eq_true rfl⟩) (wX_c4 (zU S 22 (upd ((upd (S 22) 1 ((S 22 1) + (nI (1))))) 2 (S 22 1 + nI 1)))) rfl rfl rfl hl rfl (Nat.le_of_ble_eq_true rfl) (by decide) dX4_beginCheckpoint_47 (fun S5 H locs hp5 hR => ?_)
    subst S5
    refine lv_aload_n hx hb dX4_beginCheckpoint_50 rfl (lv_at hl 0 rfl) ?_
    refine z_get (own := RX4) (C := RX4) (T := TX4) (N := 14) (k := 12) (v := .int ((zU (zU S 22 (upd ((upd (S 22) 1 ((S 22 1) + (nI (1))))) 2 (S 22 1 + nI 1))) 4 (sp_z ((zU S 22 (upd ((upd (S 22) 1 ((S 22 1) + (nI (1))))) 2 (S 22 1 + nI 1))) 4) 4)) 22 2)) hx hb hts hinX4 hown hF hR (wX_c0 (zU (zU S 22 (upd ((upd (S 22) 1 ((S 22 1) + (nI (1))))) 2 (S 22 1 + nI 1))) 4 (sp_z ((zU S 22 (upd ((upd (S 22) 1 ((S 22 1) + (nI (1))))) 2 (S 22 1 + nI 1))) 4) 4))) rfl (by decide) (by decide +kernel) rfl rfl dX4_beginCheckpoint_51 ?_
    refine lv_topi (fun v6 ev6 => ?_)
    obtain rfl : v6 = (S 22 1 + nI 1) := ev6.trans (show upd (upd (S 22) 1 (S 22 1 + nI 1)) 2 (S 22 1 + nI 1) 2 = S 22 1 + nI 1 from pk_us)
    exact z_iret (w := wX cI cZ ad) (S1 := (zU (zU S 22 (upd ((upd (S 22) 1 ((S 22 1) + (nI (1))))) 2 (S 22 1 + nI 1))) 4 (sp_z ((zU S 22 (upd ((upd (S 22) 1 ((S 22 1) + (nI (1))))) 2 (S 22 1 + nI 1))) 4) 4))) hx hb hr hlk hF hR dX4_beginCheckpoint_54 (⟨rfl, rfl⟩)
set_option maxHeartbeats 4000000 in
set_option maxRecDepth 100000 in
theorem c_X4_abandon_e1 {l : Launch} {D : va_G} {cI cZ : ClassId} {ad : Nat → Nat} {B : Nat → Prop} (hG : ∀ S : zS, va_D B (wX cI cZ ad S)) (hfl : l.stackTraces = false) (S : zS) (hO : zOK S) (hc : S 22 2 = (-1)) : zMXi l yX4_abandon wsX4_abandon ({ frames := 6, cells := 1, slots := 6, locals := 82 } : Room) [.ref (ad 0)] D (zT cI cZ) B (wX cI cZ ad) S (fun (_ : Int32) (_ : zS) => False) (fun E => E = zIS) := by
  refine zMXi_of (cc := cX4_abandon) (maxL := 3) (ret := (some .int)) (by decide) rfl (Nat.le_of_ble_eq_true rfl) ?_
  intro pg en s mm below meth cd hx hb hr hml hown hts hlk hex hF hR ls hl
  have hinX4 : ∀ w ∈ wsX40, w ∈ wsX4_abandon := by decide +kernel
  have hl : lv_has ls 3 [(0, .ref (ad 0))] := hl
  refine lv_aload_n hx hb dX4_abandon_0 rfl (lv_at hl 0 rfl) ?_
  refine z_get (own := RX4) (C := RX4) (T := TX4) (N := 14) (k := 12) (v := .int (S 22 2)) hx hb hts hinX4 hown hF hR (wX_c0 S) rfl (by decide) (by decide +kernel) rfl rfl dX4_abandon_1 ?_
  refine lv_iconst (v := ((-1))) hx hb dX4_abandon_4 (by decide) ?_
  refine lv_icmp_ne (tgt := 18) hx hb dX4_abandon_5 (by decide) (fun h5_1 => absurd hc h5_1) (fun h5_1 => ?_)
  exact z_throw (Ts := wsX4_abandon) (w := wX cI cZ ad) (cls := "java/lang/IllegalStateException") hx hb hfl hml hown hts hlk hex hF hR hl (by decide +kernel) (by decide +kernel) (by decide +kernel) (by decide +kernel) (by decide +kernel) (by decide +kernel) (List.mem_of_getElem? (i := 9) rfl) (by decide) dX4_abandon_8 dX4_abandon_11 dX4_abandon_12 dX4_abandon_14 dX4_abandon_17 (rfl)
set_option maxHeartbeats 4000000 in
set_option maxRecDepth 100000 in
theorem c_X4_abandon_ok {l : Launch} {D : va_G} {cI cZ : ClassId} {ad : Nat → Nat} {B : Nat → Prop} (hG : ∀ S : zS, va_D B (wX cI cZ ad S)) (S : zS) (hO : zOK S) (hc : ¬ S 22 2 = (-1)) : zMi l yX4_abandon wsX4_abandon ({ frames := 3, cells := 0, slots := 0, locals := 67 } : Room) [.ref (ad 0)] D (zT cI cZ) B (wX cI cZ ad) S (fun (r : Int32) (S1 : zS) => r = (S 22 2) ∧ S1 = sp_ab S) := by
  refine zMi_of (cc := cX4_abandon) (maxL := 3) (ret := (some .int)) (by decide) rfl (Nat.le_of_ble_eq_true rfl) ?_
  intro pg en s mm below meth cd hx hb hr hml hown hts hlk hF hR ls hl
  have hinX4 : ∀ w ∈ wsX40, w ∈ wsX4_abandon := by decide +kernel
  have hl : lv_has ls 3 [(0, .ref (ad 0))] := hl
  have hW1 := (zOK.w hO).2.1
  have hW4 := (zOK.w hO).2.2
  refine lv_aload_n hx hb dX4_abandon_0 rfl (lv_at hl 0 rfl) ?_
  refine z_get (own := RX4) (C := RX4) (T := TX4) (N := 14) (k := 12) (v := .int (S 22 2)) hx hb hts hinX4 hown hF hR (wX_c0 S) rfl (by decide) (by decide +kernel) rfl rfl dX4_abandon_1 ?_
  refine lv_iconst (v := ((-1))) hx hb dX4_abandon_4 (by decide) ?_
  refine lv_icmp_ne (tgt := 18) hx hb dX4_abandon_5 (by decide) (fun h5_1 => ?_) (fun h5_1 => absurd h5_1 hc)
  refine lv_aload_n hx hb dX4_abandon_18 rfl (lv_at hl 0 rfl) ?_
  refine z_get (own := RX4) (C := RX4) (T := TX4) (N := 14) (k := 12) (v := .int (S 22 2)) hx hb hts hinX4 hown hF hR (wX_c0 S) rfl (by decide) (by decide +kernel) rfl rfl dX4_abandon_19 ?_
  refine lv_istore_n (lv' := [(1, .int (S 22 2)), (0, .ref (ad 0))]) hx hb dX4_abandon_22 rfl hl (by decide) rfl (fun ls hl => ?_)
  refine lv_iconst (v := (nI (0))) hx hb dX4_abandon_23 (by decide) ?_
  refine lv_istore_n (lv' := [(2, .int (nI (0))), (1, .int (S 22 2)), (0, .ref (ad 0))]) hx hb dX4_abandon_24 rfl hl (by decide) rfl (fun ls hl => ?_)
  have loop25 : ∀ (nf25 : Nat) (k : Nat), (k ≤ zn S 22 0) → zn S 22 0 - k < nf25 → ∀ (H : Heap) (locs : List Loc), zR D B (wX cI cZ ad (sp_ab1 S k)) s H locs → ∀ ls : Array Slot, lv_has ls 3 [(0, .ref (ad 0)), (1, .int (S 22 2)), (2, .int (nI (k)))] → W pg l en ({ frames := 3, cells := 0, slots := 0, locals := 67 } : Room) s mm ([.ref (ad 0)] : List Value).toArray below meth cd H locs 0 0 (MQ below (va_Qi (fun (r : Int32) (S1 : zS) => r = (S 22 2) ∧ S1 = sp_ab S) (zB D (zT cI cZ) (wX cI cZ ad)) (zA B s.heap.size)) ([.ref (ad 0)] : List Value).toArray s 0 0 (zA B s.heap.size)) (F0 mm 25 ls []) := by
    intro nf25
    induction nf25 with
    | zero => intro k hk4 hn; exact absurd hn (Nat.not_lt_zero _)
    | succ nf25 ih25 =>
      intro k hk4 hn H locs hR ls hl
      have hOk := zOK_ab1 hO k
      refine lv_iload_n hx hb dX4_abandon_25 rfl (lv_at hl 2 rfl) ?_
      refine lv_aload_n hx hb dX4_abandon_26 rfl (lv_at hl 0 rfl) ?_
      refine z_get (own := RX4) (C := RX4) (T := TX4) (N := 14) (k := 10) (v := .int ((sp_ab1 S k) 22 0)) hx hb hts hinX4 hown hF hR (wX_c0 (sp_ab1 S k)) rfl (by decide) (by decide +kernel) rfl rfl dX4_abandon_27 ?_
      refine lv_topi (fun v2 ev2 => ?_)
      obtain rfl : v2 = (nI (zn S 22 0)) := ev2.trans ((zOK.w hOk).1.trans (congrArg nI (zn_ab1 S k)))
      refine z_ge_n (tgt := 78) hx hb dX4_abandon_30 (by decide) (by omega) (by omega) (fun h30_3 => ?_) (fun h30_3 => ?_)
      · skip
        have hR : zR D B (wX cI cZ ad (sp_ab1 S (zn S 22 0))) s H locs := by rw [show (sp_ab1 S (zn S 22 0)) = (sp_ab1 S k) from by rw [show k = zn S 22 0 from by omega]]; exact hR
        refine lv_aload_n hx hb dX4_abandon_78 rfl (lv_at hl 0 rfl) ?_
        refine lv_iconst (v := ((-1))) hx hb dX4_abandon_79 (by decide) ?_
        refine z_put (own := RX4) (C := RX4) (T := TX4) (N := 14) (k := 12) (ty := .int) hx hb hts hinX4 tyX4 tyX4_ok nmX4 hown hF (hG (sp_ab1 S (zn S 22 0))) hR (wX_c0 (sp_ab1 S (zn S 22 0))) rfl (by decide) (by decide +kernel) rfl rfl (by decide +kernel) rfl rfl (Nat.le_of_ble_eq_true rfl) (wX_p2 (sp_ab1 S (zn S 22 0)) ((-1))) dX4_abandon_80 (fun H locs hR => ?_)
        refine lv_iload_n hx hb dX4_abandon_83 rfl (lv_at hl 1 rfl) ?_
        exact z_iret (w := wX cI cZ ad) (S1 := (zU (sp_ab1 S (zn S 22 0)) 22 (upd ((sp_ab1 S (zn S 22 0)) 22) 2 ((-1))))) hx hb hr hlk hF hR dX4_abandon_84 (⟨rfl, rfl⟩)
      · skip
        refine lv_aload_n hx hb dX4_abandon_33 rfl (lv_at hl 0 rfl) ?_
        refine z_get (own := RX4) (C := RX4) (T := TX4) (N := 14) (k := 2) (v := .ref (ad 9)) hx hb hts hinX4 hown hF hR (wX_c0 (sp_ab1 S k)) rfl (by decide) (by decide +kernel) rfl rfl dX4_abandon_34 ?_
        refine lv_iload_n hx hb dX4_abandon_37 rfl (lv_at hl 2 rfl) ?_
        refine z_callV_v (As := [.int (nI (k))]) (rest := []) (w := wX cI cZ ad) ⟨hx, hb, hml, hown, hts⟩ hF hR (c_X0_unblockAll hG (sp_ab1 S k) k (by omega)) (cwV 1 hts gX4_abandon_X0_unblockAll rfl rfl rfl (by decide +kernel) ⟨Nat.le_of_ble_eq_true rfl, Nat.le_of_ble_eq_true rfl⟩) (wX_c9 (sp_ab1 S k)) rfl rfl rfl hl rfl (Nat.le_of_ble_eq_true rfl) (by decide) dX4_abandon_38 (fun S4 H locs hp4 hR => ?_)
        subst S4
        have hOk2 := zOK_u8 (w := k) hOk
        have hR : zR D B (wX cI cZ ad (zU (sp_ab1 S k) 8 (sp_unb (sp_ab1 S k 8) k 4))) s H locs := by rw [show (zU (sp_ab1 S k) 8 (sp_unb (sp_ab1 S k 8) k 4)) = (zU (sp_ab1 S k) 8 (sp_unb ((sp_ab1 S k) 8) k 4)) from rfl]; exact hR
        refine lv_aload_n hx hb dX4_abandon_41 rfl (lv_at hl 0 rfl) ?_
        refine z_get (own := RX4) (C := RX4) (T := TX4) (N := 14) (k := 9) (v := .ref (ad 31)) hx hb hts hinX4 hown hF hR (wX_c0 (zU (sp_ab1 S k) 8 (sp_unb (sp_ab1 S k 8) k 4))) rfl (by decide) (by decide +kernel) rfl rfl dX4_abandon_42 ?_
        refine lv_iload_n hx hb dX4_abandon_45 rfl (lv_at hl 2 rfl) ?_
        refine z_iald_n (f := (zU (sp_ab1 S k) 8 (sp_unb (sp_ab1 S k 8) k 4)) 21) hx hb hF hR (wX_c31 (zU (sp_ab1 S k) 8 (sp_unb (sp_ab1 S k 8) k 4))) zT_0 dX4_abandon_46 (by decide) (by omega) ?_
        refine lv_iload_n hx hb dX4_abandon_47 rfl (lv_at hl 1 rfl) ?_
        refine lv_icmp_ne (tgt := 72) hx hb dX4_abandon_48 (by decide) (fun h48_5 => ?_) (fun h48_5 => ?_)
        · skip
          have q48 := h48_5
          refine lv_iinc (v := (nI (k + 1))) (lv' := [(2, .int (nI (k + 1))), (0, .ref (ad 0)), (1, .int (S 22 2))]) hx hb dX4_abandon_72 hl (k := 2) rfl (z_inc _) (by decide) rfl (fun ls hl => ?_)
          refine lv_goto (tgt := 25) hx hb dX4_abandon_75 (by decide) ?_
          exact ih25 (k + 1) (by omega) (by omega) _ _ (by rw [show sp_ab1 S (k + 1) = (zU (sp_ab1 S k) 8 (sp_unb (sp_ab1 S k 8) k 4)) from if_neg q48]; exact hR) ls (lv_sub hl [1, 2, 0] rfl)
        · skip
          have q48 := h48_5
          refine lv_aload_n hx hb dX4_abandon_51 rfl (lv_at hl 0 rfl) ?_
          refine lv_aload_n hx hb dX4_abandon_52 rfl (lv_at hl 0 rfl) ?_
          refine z_get (own := RX4) (C := RX4) (T := TX4) (N := 14) (k := 5) (v := .ref (ad 19)) hx hb hts hinX4 hown hF hR (wX_c0 (zU (sp_ab1 S k) 8 (sp_unb (sp_ab1 S k 8) k 4))) rfl (by decide) (by decide +kernel) rfl rfl dX4_abandon_53 ?_
          refine lv_aload_n hx hb dX4_abandon_56 rfl (lv_at hl 0 rfl) ?_
          refine z_get (own := RX4) (C := RX4) (T := TX4) (N := 14) (k := 4) (v := .ref (ad 16)) hx hb hts hinX4 hown hF hR (wX_c0 (zU (sp_ab1 S k) 8 (sp_unb (sp_ab1 S k 8) k 4))) rfl (by decide) (by decide +kernel) rfl rfl dX4_abandon_57 ?_
          refine lv_iload_n hx hb dX4_abandon_60 rfl (lv_at hl 2 rfl) ?_
          refine z_callV_i (As := [.ref (ad 19), .ref (ad 16), .int (nI (k))]) (rest := []) (w := wX cI cZ ad) ⟨hx, hb, hml, hown, hts⟩ hF hR (c_X4_moveTallies_21 hG (zU (sp_ab1 S k) 8 (sp_unb (sp_ab1 S k 8) k 4)) k hOk2 (by omega)) (cwV 3 hts gX4_abandon_X4_moveTallies rfl rfl rfl (by decide +kernel) ⟨Nat.le_of_ble_eq_true rfl, Nat.le_of_ble_eq_true rfl⟩) (wX_c0 (zU (sp_ab1 S k) 8 (sp_unb (sp_ab1 S k 8) k 4))) rfl rfl rfl hl rfl (Nat.le_of_ble_eq_true rfl) (by decide) dX4_abandon_61 (fun r6 S6 H locs hp6 hR => ?_)
          obtain ⟨hr6, hs6⟩ := hp6
          subst r6
          subst S6
          have hO6 := (zOK_mv (a := 13) (b := 11) (w := k) hOk2 (by decide) (by decide) (by decide) (by decide) 32)
          refine lv_pop hx hb dX4_abandon_64 rfl ?_
          refine lv_aload_n hx hb dX4_abandon_65 rfl (lv_at hl 0 rfl) ?_
          refine z_get (own := RX4) (C := RX4) (T := TX4) (N := 14) (k := 9) (v := .ref (ad 31)) hx hb hts hinX4 hown hF hR (wX_c0 (sp_mv (zU (sp_ab1 S k) 8 (sp_unb (sp_ab1 S k 8) k 4)) 13 11 k 32)) rfl (by decide) (by decide +kernel) rfl rfl dX4_abandon_66 ?_
          refine lv_iload_n hx hb dX4_abandon_69 rfl (lv_at hl 2 rfl) ?_
          refine lv_iconst (v := ((-1))) hx hb dX4_abandon_70 (by decide) ?_
          refine z_iast_n (f := (sp_mv (zU (sp_ab1 S k) 8 (sp_unb (sp_ab1 S k 8) k 4)) 13 11 k 32) 21) hx hb hF (hG (sp_mv (zU (sp_ab1 S k) 8 (sp_unb (sp_ab1 S k 8) k 4)) 13 11 k 32)) hR (wX_c31 (sp_mv (zU (sp_ab1 S k) 8 (sp_unb (sp_ab1 S k 8) k 4)) 13 11 k 32)) zT_0 (wX_s21 (sp_mv (zU (sp_ab1 S k) 8 (sp_unb (sp_ab1 S k 8) k 4)) 13 11 k 32) (upd ((sp_mv (zU (sp_ab1 S k) 8 (sp_unb (sp_ab1 S k 8) k 4)) 13 11 k 32) 21) (k) ((-1)))) dX4_abandon_71 (by decide) (by omega) (fun H locs hR => ?_)
          have hR : zR D B (wX cI cZ ad (sp_un (sp_mv (zU (sp_ab1 S k) 8 (sp_unb (sp_ab1 S k 8) k 4)) 13 11 k 32) k)) s H locs := by rw [show (sp_un (sp_mv (zU (sp_ab1 S k) 8 (sp_unb (sp_ab1 S k 8) k 4)) 13 11 k 32) k) = (zU (sp_mv (zU (sp_ab1 S k) 8 (sp_unb (sp_ab1 S k 8) k 4)) 13 11 k 32) 21 (upd ((sp_mv (zU (sp_ab1 S k) 8 (sp_unb (sp_ab1 S k 8) k 4)) 13 11 k 32) 21) (k) ((-1)))) from rfl]; exact hR
          refine lv_iinc (v := (nI (k + 1))) (lv' := [(2, .int (nI (k + 1))), (0, .ref (ad 0)), (1, .int (S 22 2))]) hx hb dX4_abandon_72 hl (k := 2) rfl (z_inc _) (by decide) rfl (fun ls hl => ?_)
          refine lv_goto (tgt := 25) hx hb dX4_abandon_75 (by decide) ?_
          exact ih25 (k + 1) (by omega) (by omega) _ _ (by rw [show sp_ab1 S (k + 1) = (sp_un (sp_mv (zU (sp_ab1 S k) 8 (sp_unb (sp_ab1 S k 8) k 4)) 13 11 k 32) k) from if_pos q48]; exact hR) ls (lv_sub hl [1, 2, 0] rfl)
  exact loop25 _ 0 (by omega) (Nat.lt_succ_self _) _ _ (by rw [show sp_ab1 S 0 = S from rfl]; exact hR) ls (lv_sub hl [2, 1, 0] rfl)
set_option maxHeartbeats 4000000 in
set_option maxRecDepth 100000 in
theorem c_X4_crash {l : Launch} {D : va_G} {cI cZ : ClassId} {ad : Nat → Nat} {B : Nat → Prop} (hG : ∀ S : zS, va_D B (wX cI cZ ad S)) (S : zS) (hO : zOK S) : zMi l yX4_crash wsX4_crash ({ frames := 5, cells := 0, slots := 0, locals := 110 } : Room) [.ref (ad 0)] D (zT cI cZ) B (wX cI cZ ad) S (fun (r : Int32) (S1 : zS) => r = (sp_cr S) ∧ S1 = sp_sa S (zn S 22 0)) := by
  refine zMi_of (cc := cX4_crash) (maxL := 1) (ret := (some .int)) (by decide) rfl (Nat.le_of_ble_eq_true rfl) ?_
  intro pg en s mm below meth cd hx hb hr hml hown hts hlk hF hR ls hl
  have hinX4 : ∀ w ∈ wsX40, w ∈ wsX4_crash := by decide +kernel
  have hl : lv_has ls 1 [(0, .ref (ad 0))] := hl
  have hW1 := (zOK.w hO).2.1
  have hW4 := (zOK.w hO).2.2
  refine lv_aload_n hx hb dX4_crash_0 rfl (lv_at hl 0 rfl) ?_
  refine lv_aload_n hx hb dX4_crash_1 rfl (lv_at hl 0 rfl) ?_
  refine z_get (own := RX4) (C := RX4) (T := TX4) (N := 14) (k := 10) (v := .int (S 22 0)) hx hb hts hinX4 hown hF hR (wX_c0 S) rfl (by decide) (by decide +kernel) rfl rfl dX4_crash_2 ?_
  refine lv_topi (fun v1 ev1 => ?_)
  obtain rfl : v1 = (nI (zn S 22 0)) := ev1.trans (zOK.w hO).1
  refine z_callV_v (As := [.int (nI (zn S 22 0))]) (rest := []) (w := wX cI cZ ad) ⟨hx, hb, hml, hown, hts⟩ hF hR (c_X4_startAgain hG S (zn S 22 0) hO (by omega) (by omega)) (cwV 1 hts gX4_crash_X4_startAgain rfl rfl rfl (by decide +kernel) ⟨Nat.le_of_ble_eq_true rfl, Nat.le_of_ble_eq_true rfl⟩) (wX_c0 S) rfl rfl rfl hl rfl (Nat.le_of_ble_eq_true rfl) (by decide) dX4_crash_5 (fun S2 H locs hp2 hR => ?_)
  subst S2
  have hO2 := (zOK_sa hO (by omega) (by omega))
  refine lv_aload_n hx hb dX4_crash_8 rfl (lv_at hl 0 rfl) ?_
  refine z_get (own := RX4) (C := RX4) (T := TX4) (N := 14) (k := 13) (v := .int ((sp_sa S (zn S 22 0)) 22 3)) hx hb hts hinX4 hown hF hR (wX_c0 (sp_sa S (zn S 22 0))) rfl (by decide) (by decide +kernel) rfl rfl dX4_crash_9 ?_
  refine lv_iconst (v := ((-1))) hx hb dX4_crash_12 (by decide) ?_
  refine lv_icmp_ne (tgt := 20) hx hb dX4_crash_13 (by decide) (fun h13_3 => ?_) (fun h13_3 => ?_)
  · skip
    have q13 := h13_3
    refine lv_aload_n hx hb dX4_crash_20 rfl (lv_at hl 0 rfl) ?_
    refine z_get (own := RX4) (C := RX4) (T := TX4) (N := 14) (k := 13) (v := .int ((sp_sa S (zn S 22 0)) 22 3)) hx hb hts hinX4 hown hF hR (wX_c0 (sp_sa S (zn S 22 0))) rfl (by decide) (by decide +kernel) rfl rfl dX4_crash_21 ?_
    exact z_iret (w := wX cI cZ ad) (S1 := (sp_sa S (zn S 22 0))) hx hb hr hlk hF hR dX4_crash_24 (⟨by unfold sp_cr; first | rw [if_pos q13] | rw [if_neg q13], rfl⟩)
  · skip
    have q13 := h13_3
    refine lv_iconst (v := (nI (0))) hx hb dX4_crash_16 (by decide) ?_
    refine lv_goto (tgt := 24) hx hb dX4_crash_17 (by decide) ?_
    exact z_iret (w := wX cI cZ ad) (S1 := (sp_sa S (zn S 22 0))) hx hb hr hlk hF hR dX4_crash_24 (⟨by unfold sp_cr; first | rw [if_pos q13] | rw [if_neg q13], rfl⟩)
set_option maxHeartbeats 4000000 in
set_option maxRecDepth 100000 in
theorem c_X4_rescale_e1 {l : Launch} {D : va_G} {cI cZ : ClassId} {ad : Nat → Nat} {B : Nat → Prop} (hG : ∀ S : zS, va_D B (wX cI cZ ad S)) (hfl : l.stackTraces = false) (S : zS) (z : Int32) (hO : zOK S) (hz : zbadv z 1 4) : zMXi l yX4_rescale wsX4_rescale ({ frames := 6, cells := 1, slots := 6, locals := 110 } : Room) [.ref (ad 0), .int (z)] D (zT cI cZ) B (wX cI cZ ad) S (fun (_ : Int32) (_ : zS) => False) (fun E => E = zIA) := by
  refine zMXi_of (cc := cX4_rescale) (maxL := 4) (ret := (some .int)) (by decide) rfl (Nat.le_of_ble_eq_true rfl) ?_
  intro pg en s mm below meth cd hx hb hr hml hown hts hlk hex hF hR ls hl
  have hinX4 : ∀ w ∈ wsX40, w ∈ wsX4_rescale := by decide +kernel
  have hl : lv_has ls 4 [(0, .ref (ad 0)), (1, .int (z))] := hl
  refine lv_iload_n hx hb dX4_rescale_0 rfl (lv_at hl 1 rfl) ?_
  refine lv_iconst (v := (nI (1))) hx hb dX4_rescale_1 (by decide) ?_
  refine lv_icmp_lt (tgt := 10) hx hb dX4_rescale_2 (by decide) (fun h2_1 => ?_) (fun h2_1 => ?_)
  · skip
    have q2 := h2_1
    exact z_throw (Ts := wsX4_rescale) (w := wX cI cZ ad) (cls := "java/lang/IllegalArgumentException") hx hb hfl hml hown hts hlk hex hF hR hl (by decide +kernel) (by decide +kernel) (by decide +kernel) (by decide +kernel) (by decide +kernel) (by decide +kernel) (List.mem_of_getElem? (i := 10) rfl) (by decide) dX4_rescale_10 dX4_rescale_13 dX4_rescale_14 dX4_rescale_16 dX4_rescale_19 (rfl)
  · skip
    have q2 := h2_1
    refine lv_iload_n hx hb dX4_rescale_5 rfl (lv_at hl 1 rfl) ?_
    refine lv_iconst (v := (nI (4))) hx hb dX4_rescale_6 (by decide) ?_
    refine lv_icmp_le (tgt := 20) hx hb dX4_rescale_7 (by decide) (fun h7_2 => (zbadv_no hz q2 h7_2).elim) (fun h7_2 => ?_)
    exact z_throw (Ts := wsX4_rescale) (w := wX cI cZ ad) (cls := "java/lang/IllegalArgumentException") hx hb hfl hml hown hts hlk hex hF hR hl (by decide +kernel) (by decide +kernel) (by decide +kernel) (by decide +kernel) (by decide +kernel) (by decide +kernel) (List.mem_of_getElem? (i := 10) rfl) (by decide) dX4_rescale_10 dX4_rescale_13 dX4_rescale_14 dX4_rescale_16 dX4_rescale_19 (rfl)
set_option maxHeartbeats 4000000 in
set_option maxRecDepth 100000 in
theorem c_X4_rescale_ok {l : Launch} {D : va_G} {cI cZ : ClassId} {ad : Nat → Nat} {B : Nat → Prop} (hG : ∀ S : zS, va_D B (wX cI cZ ad S)) (S : zS) (v : Nat) (hO : zOK S) (hv : 1 ≤ v) (hv2 : v ≤ 4) : zMi l yX4_rescale wsX4_rescale ({ frames := 5, cells := 0, slots := 0, locals := 110 } : Room) [.ref (ad 0), .int (nI (v))] D (zT cI cZ) B (wX cI cZ ad) S (fun (r : Int32) (S1 : zS) => r = (nI (sp_mg v (zn S 22 0) 8)) ∧ S1 = sp_sa S v) := by
  refine zMi_of (cc := cX4_rescale) (maxL := 4) (ret := (some .int)) (by decide) rfl (Nat.le_of_ble_eq_true rfl) ?_
  intro pg en s mm below meth cd hx hb hr hml hown hts hlk hF hR ls hl
  have hinX4 : ∀ w ∈ wsX40, w ∈ wsX4_rescale := by decide +kernel
  have hl : lv_has ls 4 [(0, .ref (ad 0)), (1, .int (nI (v)))] := hl
  have hW1 := (zOK.w hO).2.1
  have hW4 := (zOK.w hO).2.2
  refine lv_iload_n hx hb dX4_rescale_0 rfl (lv_at hl 1 rfl) ?_
  refine lv_iconst (v := (nI (1))) hx hb dX4_rescale_1 (by decide) ?_
  refine z_lt_n (tgt := 10) hx hb dX4_rescale_2 (by decide) (by omega) (by omega) (fun h2_1 => by omega) (fun h2_1 => ?_)
  refine lv_iload_n hx hb dX4_rescale_5 rfl (lv_at hl 1 rfl) ?_
  refine lv_iconst (v := (nI (4))) hx hb dX4_rescale_6 (by decide) ?_
  refine z_le_n (tgt := 20) hx hb dX4_rescale_7 (by decide) (by omega) (by omega) (fun h7_2 => ?_) (fun h7_2 => by omega)
  refine lv_iconst (v := (nI (0))) hx hb dX4_rescale_20 (by decide) ?_
  refine lv_istore_n (lv' := [(2, .int (nI (0))), (0, .ref (ad 0)), (1, .int (nI (v)))]) hx hb dX4_rescale_21 rfl hl (by decide) rfl (fun ls hl => ?_)
  refine lv_iconst (v := (nI (0))) hx hb dX4_rescale_22 (by decide) ?_
  refine lv_istore_n (lv' := [(3, .int (nI (0))), (2, .int (nI (0))), (0, .ref (ad 0)), (1, .int (nI (v)))]) hx hb dX4_rescale_23 rfl hl (by decide) rfl (fun ls hl => ?_)
  have loop24 : ∀ (nf24 : Nat) (k : Nat), (k ≤ 8) → 8 - k < nf24 → ∀ (H : Heap) (locs : List Loc), zR D B (wX cI cZ ad S) s H locs → ∀ ls : Array Slot, lv_has ls 4 [(0, .ref (ad 0)), (1, .int (nI (v))), (2, .int (nI (sp_mg v (zn S 22 0) k))), (3, .int (nI (k)))] → W pg l en ({ frames := 5, cells := 0, slots := 0, locals := 110 } : Room) s mm ([.ref (ad 0), .int (nI (v))] : List Value).toArray below meth cd H locs 0 0 (MQ below (va_Qi (fun (r : Int32) (S1 : zS) => r = (nI (sp_mg v (zn S 22 0) 8)) ∧ S1 = sp_sa S v) (zB D (zT cI cZ) (wX cI cZ ad)) (zA B s.heap.size)) ([.ref (ad 0), .int (nI (v))] : List Value).toArray s 0 0 (zA B s.heap.size)) (F0 mm 24 ls []) := by
    intro nf24
    induction nf24 with
    | zero => intro k hk4 hn; exact absurd hn (Nat.not_lt_zero _)
    | succ nf24 ih24 =>
      intro k hk4 hn H locs hR ls hl
      refine lv_iload_n hx hb dX4_rescale_24 rfl (lv_at hl 3 rfl) ?_
      refine lv_bipush (v := (nI (8))) hx hb dX4_rescale_25 (by decide) ?_
      refine z_ge_n (tgt := 55) hx hb dX4_rescale_27 (by decide) (by omega) (by omega) (fun h27_3 => ?_) (fun h27_3 => ?_)
      · skip
        refine lv_aload_n hx hb dX4_rescale_55 rfl (lv_at hl 0 rfl) ?_
        refine lv_iload_n hx hb dX4_rescale_56 rfl (lv_at hl 1 rfl) ?_
        refine z_callV_v (As := [.int (nI (v))]) (rest := []) (w := wX cI cZ ad) ⟨hx, hb, hml, hown, hts⟩ hF hR (c_X4_startAgain hG S v hO (by omega) (by omega)) (cwV 1 hts gX4_rescale_X4_startAgain rfl rfl rfl (by decide +kernel) ⟨Nat.le_of_ble_eq_true rfl, Nat.le_of_ble_eq_true rfl⟩) (wX_c0 S) rfl rfl rfl hl rfl (Nat.le_of_ble_eq_true rfl) (by decide) dX4_rescale_57 (fun S4 H locs hp4 hR => ?_)
        subst S4
        have hO4 := (zOK_sa hO (by omega) (by omega))
        refine lv_iload_n hx hb dX4_rescale_60 rfl (lv_at hl 2 rfl) ?_
        exact z_iret (w := wX cI cZ ad) (S1 := (sp_sa S v)) hx hb hr hlk hF hR dX4_rescale_61 (⟨by rw [show k = 8 from by omega], rfl⟩)
      · skip
        refine lv_iload_n hx hb dX4_rescale_30 rfl (lv_at hl 3 rfl) ?_
        refine lv_iload_n hx hb dX4_rescale_31 rfl (lv_at hl 1 rfl) ?_
        refine z_callS_i (As := [.int (nI (k)), .int (nI (v))]) (rest := []) (w := wX cI cZ ad) ⟨hx, hb, hml, hown, hts⟩ hF hR (c_X4_ownerOfGroup hG S k v (by omega) (by omega)) (va_cwS 2 hts gX4_rescale_X4_ownerOfGroup rfl rfl rfl (by decide +kernel) ⟨Nat.le_of_ble_eq_true rfl, Nat.le_of_ble_eq_true rfl⟩) rfl hl rfl (Nat.le_of_ble_eq_true rfl) (by decide) dX4_rescale_32 (fun r5 S5 H locs hp5 hR => ?_)
        obtain ⟨hr5, hs5⟩ := hp5
        subst r5
        subst S5
        refine lv_iload_n hx hb dX4_rescale_35 rfl (lv_at hl 3 rfl) ?_
        refine lv_aload_n hx hb dX4_rescale_36 rfl (lv_at hl 0 rfl) ?_
        refine z_get (own := RX4) (C := RX4) (T := TX4) (N := 14) (k := 10) (v := .int (S 22 0)) hx hb hts hinX4 hown hF hR (wX_c0 S) rfl (by decide) (by decide +kernel) rfl rfl dX4_rescale_37 ?_
        refine lv_topi (fun v6 ev6 => ?_)
        obtain rfl : v6 = (nI (zn S 22 0)) := ev6.trans (zOK.w hO).1
        refine z_callS_i (As := [.int (nI (k)), .int (nI (zn S 22 0))]) (rest := [.int (nI (k * v / 8))]) (w := wX cI cZ ad) ⟨hx, hb, hml, hown, hts⟩ hF hR (c_X4_ownerOfGroup hG S k (zn S 22 0) (by omega) (by omega)) (va_cwS 2 hts gX4_rescale_X4_ownerOfGroup rfl rfl rfl (by decide +kernel) ⟨Nat.le_of_ble_eq_true rfl, Nat.le_of_ble_eq_true rfl⟩) rfl hl rfl (Nat.le_of_ble_eq_true rfl) (by decide) dX4_rescale_40 (fun r7 S7 H locs hp7 hR => ?_)
        obtain ⟨hr7, hs7⟩ := hp7
        subst r7
        subst S7
        refine z_eq_n (tgt := 49) hx hb dX4_rescale_43 (by decide) (by have := Nat.mul_le_mul (show k ≤ 7 by omega) (show v ≤ 4 by omega); omega) (by have := Nat.mul_le_mul (show k ≤ 7 by omega) (show zn S 22 0 ≤ 4 by omega); omega) (fun h43_8 => ?_) (fun h43_8 => ?_)
        · skip
          have q43 := h43_8
          have hl : lv_has ls 4 [(0, .ref (ad 0)), (1, .int (nI (v))), (2, .int (nI (sp_mg v (zn S 22 0) (k + 1)))), (3, .int (nI (k)))] := (by rw [show sp_mg v (zn S 22 0) (k + 1) = if k * v / 8 = k * zn S 22 0 / 8 then sp_mg v (zn S 22 0) k else sp_mg v (zn S 22 0) k + 1 from rfl]; first | (rw [if_pos q43]; exact hl) | (rw [if_neg q43]; exact hl))
          refine lv_iinc (v := (nI (k + 1))) (lv' := [(3, .int (nI (k + 1))), (0, .ref (ad 0)), (1, .int (nI (v))), (2, .int (nI (sp_mg v (zn S 22 0) (k + 1))))]) hx hb dX4_rescale_49 hl (k := 3) rfl (z_inc _) (by decide) rfl (fun ls hl => ?_)
          refine lv_goto (tgt := 24) hx hb dX4_rescale_52 (by decide) ?_
          exact ih24 (k + 1) (by omega) (by omega) _ _ hR ls (lv_sub hl [1, 2, 3, 0] rfl)
        · skip
          have q43 := h43_8
          refine lv_iinc (v := (nI (sp_mg v (zn S 22 0) k + 1))) (lv' := [(2, .int (nI (sp_mg v (zn S 22 0) k + 1))), (0, .ref (ad 0)), (1, .int (nI (v))), (3, .int (nI (k)))]) hx hb dX4_rescale_46 hl (k := 2) rfl (z_inc _) (by decide) rfl (fun ls hl => ?_)
          have hl : lv_has ls 4 [(2, .int (nI (sp_mg v (zn S 22 0) (k + 1)))), (0, .ref (ad 0)), (1, .int (nI (v))), (3, .int (nI (k)))] := (by rw [show sp_mg v (zn S 22 0) (k + 1) = if k * v / 8 = k * zn S 22 0 / 8 then sp_mg v (zn S 22 0) k else sp_mg v (zn S 22 0) k + 1 from rfl]; first | (rw [if_pos q43]; exact hl) | (rw [if_neg q43]; exact hl))
          refine lv_iinc (v := (nI (k + 1))) (lv' := [(3, .int (nI (k + 1))), (2, .int (nI (sp_mg v (zn S 22 0) (k + 1)))), (0, .ref (ad 0)), (1, .int (nI (v)))]) hx hb dX4_rescale_49 hl (k := 3) rfl (z_inc _) (by decide) rfl (fun ls hl => ?_)
          refine lv_goto (tgt := 24) hx hb dX4_rescale_52 (by decide) ?_
          exact ih24 (k + 1) (by omega) (by omega) _ _ hR ls (lv_sub hl [2, 3, 1, 0] rfl)
  exact loop24 _ 0 (by omega) (Nat.lt_succ_self _) _ _ hR ls (lv_sub hl [2, 3, 1, 0] rfl)
set_option maxHeartbeats 4000000 in
set_option maxRecDepth 100000 in
theorem c_X4_events_e1 {l : Launch} {D : va_G} {cI cZ : ClassId} {ad : Nat → Nat} {B : Nat → Prop} (hG : ∀ S : zS, va_D B (wX cI cZ ad S)) (hfl : l.stackTraces = false) (S : zS) (x : Int32) (hO : zOK S) (hxb : zbad x 4) : zMXi l yX4_events wsX4_events ({ frames := 7, cells := 1, slots := 6, locals := 102 } : Room) [.ref (ad 0), .int (x)] D (zT cI cZ) B (wX cI cZ ad) S (fun (_ : Int32) (_ : zS) => False) (fun E => E = zIO) := by
  refine zMXi_of (cc := cX4_events) (maxL := 2) (ret := (some .int)) (by decide) rfl (Nat.le_of_ble_eq_true rfl) ?_
  intro pg en s mm below meth cd hx hb hr hml hown hts hlk hex hF hR ls hl
  have hinX1 : ∀ w ∈ wsX10, w ∈ wsX4_events := by decide +kernel
  have hinX4 : ∀ w ∈ wsX40, w ∈ wsX4_events := by decide +kernel
  have hl : lv_has ls 2 [(0, .ref (ad 0)), (1, .int (x))] := hl
  refine lv_iload_n hx hb dX4_events_0 rfl (lv_at hl 1 rfl) ?_
  exact z_badS (As := [.int (x)]) (rest := []) (w := wX cI cZ ad) ⟨hx, hb, hml, hown, hts⟩ hlk hex hF hR (c_X4_requirePartition_bad hG hfl S ((x)) hxb) (va_cwS 1 hts gX4_events_X4_requirePartition rfl rfl rfl (by decide +kernel) ⟨Nat.le_of_ble_eq_true rfl, Nat.le_of_ble_eq_true rfl⟩) rfl hl rfl (Nat.le_of_ble_eq_true rfl) (by decide) dX4_events_1 (fun E h => h)
set_option maxHeartbeats 4000000 in
set_option maxRecDepth 100000 in
theorem c_X4_events_ok {l : Launch} {D : va_G} {cI cZ : ClassId} {ad : Nat → Nat} {B : Nat → Prop} (hG : ∀ S : zS, va_D B (wX cI cZ ad S)) (S : zS) (p : Nat) (hO : zOK S) (hp : p < 4) : zMi l yX4_events wsX4_events ({ frames := 7, cells := 0, slots := 0, locals := 102 } : Room) [.ref (ad 0), .int (nI (p))] D (zT cI cZ) B (wX cI cZ ad) S (fun (r : Int32) (S1 : zS) => r = (nI (zn S 0 p)) ∧ S1 = S) := by
  refine zMi_of (cc := cX4_events) (maxL := 2) (ret := (some .int)) (by decide) rfl (Nat.le_of_ble_eq_true rfl) ?_
  intro pg en s mm below meth cd hx hb hr hml hown hts hlk hF hR ls hl
  have hinX1 : ∀ w ∈ wsX10, w ∈ wsX4_events := by decide +kernel
  have hinX4 : ∀ w ∈ wsX40, w ∈ wsX4_events := by decide +kernel
  have hl : lv_has ls 2 [(0, .ref (ad 0)), (1, .int (nI (p)))] := hl
  refine lv_iload_n hx hb dX4_events_0 rfl (lv_at hl 1 rfl) ?_
  refine z_callS_v (As := [.int (nI (p))]) (rest := []) (w := wX cI cZ ad) ⟨hx, hb, hml, hown, hts⟩ hF hR (c_X4_requirePartition_ok hG S p (by omega)) (va_cwS 1 hts gX4_events_X4_requirePartition rfl rfl rfl (by decide +kernel) ⟨Nat.le_of_ble_eq_true rfl, Nat.le_of_ble_eq_true rfl⟩) rfl hl rfl (Nat.le_of_ble_eq_true rfl) (by decide) dX4_events_1 (fun S1 H locs hp1 hR => ?_)
  subst S1
  refine lv_aload_n hx hb dX4_events_4 rfl (lv_at hl 0 rfl) ?_
  refine z_get (own := RX4) (C := RX4) (T := TX4) (N := 14) (k := 0) (v := .ref (ad 1)) hx hb hts hinX4 hown hF hR (wX_c0 S) rfl (by decide) (by decide +kernel) rfl rfl dX4_events_5 ?_
  refine z_get (own := RX4) (C := RX1) (T := TX1) (N := 2) (k := 0) (v := .ref (ad 2)) hx hb hts hinX1 hown hF hR (wX_c1 S) rfl (by decide) (by decide +kernel) rfl rfl dX4_events_8 ?_
  refine lv_iload_n hx hb dX4_events_11 rfl (lv_at hl 1 rfl) ?_
  refine z_iald_n (f := S 0) hx hb hF hR (wX_c2 S) zT_0 dX4_events_12 (by decide) (by omega) ?_
  refine lv_topi (fun v3 ev3 => ?_)
  obtain rfl : v3 = (nI (zn S 0 (p))) := ev3.trans (zOK.n0 hO _).1
  have hb12_2 := (zOK.n0 hO (p)).2
  exact z_iret (w := wX cI cZ ad) (S1 := S) hx hb hr hlk hF hR dX4_events_13 (⟨rfl, rfl⟩)
set_option maxHeartbeats 4000000 in
set_option maxRecDepth 100000 in
theorem c_X4_offset_e1 {l : Launch} {D : va_G} {cI cZ : ClassId} {ad : Nat → Nat} {B : Nat → Prop} (hG : ∀ S : zS, va_D B (wX cI cZ ad S)) (hfl : l.stackTraces = false) (S : zS) (x : Int32) (hO : zOK S) (hxb : zbad x 4) : zMXi l yX4_offset wsX4_offset ({ frames := 7, cells := 1, slots := 6, locals := 102 } : Room) [.ref (ad 0), .int (x)] D (zT cI cZ) B (wX cI cZ ad) S (fun (_ : Int32) (_ : zS) => False) (fun E => E = zIO) := by
  refine zMXi_of (cc := cX4_offset) (maxL := 2) (ret := (some .int)) (by decide) rfl (Nat.le_of_ble_eq_true rfl) ?_
  intro pg en s mm below meth cd hx hb hr hml hown hts hlk hex hF hR ls hl
  have hinX2 : ∀ w ∈ wsX20, w ∈ wsX4_offset := by decide +kernel
  have hinX4 : ∀ w ∈ wsX40, w ∈ wsX4_offset := by decide +kernel
  have hl : lv_has ls 2 [(0, .ref (ad 0)), (1, .int (x))] := hl
  refine lv_iload_n hx hb dX4_offset_0 rfl (lv_at hl 1 rfl) ?_
  exact z_badS (As := [.int (x)]) (rest := []) (w := wX cI cZ ad) ⟨hx, hb, hml, hown, hts⟩ hlk hex hF hR (c_X4_requirePartition_bad hG hfl S ((x)) hxb) (va_cwS 1 hts gX4_offset_X4_requirePartition rfl rfl rfl (by decide +kernel) ⟨Nat.le_of_ble_eq_true rfl, Nat.le_of_ble_eq_true rfl⟩) rfl hl rfl (Nat.le_of_ble_eq_true rfl) (by decide) dX4_offset_1 (fun E h => h)
set_option maxHeartbeats 4000000 in
set_option maxRecDepth 100000 in
theorem c_X4_offset_ok {l : Launch} {D : va_G} {cI cZ : ClassId} {ad : Nat → Nat} {B : Nat → Prop} (hG : ∀ S : zS, va_D B (wX cI cZ ad S)) (S : zS) (p : Nat) (hO : zOK S) (hp : p < 4) : zMi l yX4_offset wsX4_offset ({ frames := 7, cells := 0, slots := 0, locals := 102 } : Room) [.ref (ad 0), .int (nI (p))] D (zT cI cZ) B (wX cI cZ ad) S (fun (r : Int32) (S1 : zS) => r = (nI (zn S 2 p)) ∧ S1 = S) := by
  refine zMi_of (cc := cX4_offset) (maxL := 2) (ret := (some .int)) (by decide) rfl (Nat.le_of_ble_eq_true rfl) ?_
  intro pg en s mm below meth cd hx hb hr hml hown hts hlk hF hR ls hl
  have hinX2 : ∀ w ∈ wsX20, w ∈ wsX4_offset := by decide +kernel
  have hinX4 : ∀ w ∈ wsX40, w ∈ wsX4_offset := by decide +kernel
  have hl : lv_has ls 2 [(0, .ref (ad 0)), (1, .int (nI (p)))] := hl
  refine lv_iload_n hx hb dX4_offset_0 rfl (lv_at hl 1 rfl) ?_
  refine z_callS_v (As := [.int (nI (p))]) (rest := []) (w := wX cI cZ ad) ⟨hx, hb, hml, hown, hts⟩ hF hR (c_X4_requirePartition_ok hG S p (by omega)) (va_cwS 1 hts gX4_offset_X4_requirePartition rfl rfl rfl (by decide +kernel) ⟨Nat.le_of_ble_eq_true rfl, Nat.le_of_ble_eq_true rfl⟩) rfl hl rfl (Nat.le_of_ble_eq_true rfl) (by decide) dX4_offset_1 (fun S1 H locs hp1 hR => ?_)
  subst S1
  refine lv_aload_n hx hb dX4_offset_4 rfl (lv_at hl 0 rfl) ?_
  refine z_get (own := RX4) (C := RX4) (T := TX4) (N := 14) (k := 1) (v := .ref (ad 4)) hx hb hts hinX4 hown hF hR (wX_c0 S) rfl (by decide) (by decide +kernel) rfl rfl dX4_offset_5 ?_
  refine z_get (own := RX4) (C := RX2) (T := TX2) (N := 4) (k := 0) (v := .ref (ad 5)) hx hb hts hinX2 hown hF hR (wX_c4 S) rfl (by decide) (by decide +kernel) rfl rfl dX4_offset_8 ?_
  refine lv_iload_n hx hb dX4_offset_11 rfl (lv_at hl 1 rfl) ?_
  refine z_iald_n (f := S 2) hx hb hF hR (wX_c5 S) zT_0 dX4_offset_12 (by decide) (by omega) ?_
  refine lv_topi (fun v3 ev3 => ?_)
  obtain rfl : v3 = (nI (zn S 2 (p))) := ev3.trans (zOK.n2 hO _).1
  have hb12_2 := (zOK.n2 hO (p)).2
  exact z_iret (w := wX cI cZ ad) (S1 := S) hx hb hr hlk hF hR dX4_offset_13 (⟨rfl, rfl⟩)
set_option maxHeartbeats 4000000 in
set_option maxRecDepth 100000 in
theorem c_X4_keptOffset_e1 {l : Launch} {D : va_G} {cI cZ : ClassId} {ad : Nat → Nat} {B : Nat → Prop} (hG : ∀ S : zS, va_D B (wX cI cZ ad S)) (hfl : l.stackTraces = false) (S : zS) (x : Int32) (hO : zOK S) (hxb : zbad x 4) : zMXi l yX4_keptOffset wsX4_keptOffset ({ frames := 7, cells := 1, slots := 6, locals := 102 } : Room) [.ref (ad 0), .int (x)] D (zT cI cZ) B (wX cI cZ ad) S (fun (_ : Int32) (_ : zS) => False) (fun E => E = zIO) := by
  refine zMXi_of (cc := cX4_keptOffset) (maxL := 2) (ret := (some .int)) (by decide) rfl (Nat.le_of_ble_eq_true rfl) ?_
  intro pg en s mm below meth cd hx hb hr hml hown hts hlk hex hF hR ls hl
  have hinX2 : ∀ w ∈ wsX20, w ∈ wsX4_keptOffset := by decide +kernel
  have hinX4 : ∀ w ∈ wsX40, w ∈ wsX4_keptOffset := by decide +kernel
  have hl : lv_has ls 2 [(0, .ref (ad 0)), (1, .int (x))] := hl
  refine lv_iload_n hx hb dX4_keptOffset_0 rfl (lv_at hl 1 rfl) ?_
  exact z_badS (As := [.int (x)]) (rest := []) (w := wX cI cZ ad) ⟨hx, hb, hml, hown, hts⟩ hlk hex hF hR (c_X4_requirePartition_bad hG hfl S ((x)) hxb) (va_cwS 1 hts gX4_keptOffset_X4_requirePartition rfl rfl rfl (by decide +kernel) ⟨Nat.le_of_ble_eq_true rfl, Nat.le_of_ble_eq_true rfl⟩) rfl hl rfl (Nat.le_of_ble_eq_true rfl) (by decide) dX4_keptOffset_1 (fun E h => h)
set_option maxHeartbeats 4000000 in
set_option maxRecDepth 100000 in
theorem c_X4_keptOffset_ok {l : Launch} {D : va_G} {cI cZ : ClassId} {ad : Nat → Nat} {B : Nat → Prop} (hG : ∀ S : zS, va_D B (wX cI cZ ad S)) (S : zS) (p : Nat) (hO : zOK S) (hp : p < 4) : zMi l yX4_keptOffset wsX4_keptOffset ({ frames := 7, cells := 0, slots := 0, locals := 102 } : Room) [.ref (ad 0), .int (nI (p))] D (zT cI cZ) B (wX cI cZ ad) S (fun (r : Int32) (S1 : zS) => r = (nI (zn S 3 p)) ∧ S1 = S) := by
  refine zMi_of (cc := cX4_keptOffset) (maxL := 2) (ret := (some .int)) (by decide) rfl (Nat.le_of_ble_eq_true rfl) ?_
  intro pg en s mm below meth cd hx hb hr hml hown hts hlk hF hR ls hl
  have hinX2 : ∀ w ∈ wsX20, w ∈ wsX4_keptOffset := by decide +kernel
  have hinX4 : ∀ w ∈ wsX40, w ∈ wsX4_keptOffset := by decide +kernel
  have hl : lv_has ls 2 [(0, .ref (ad 0)), (1, .int (nI (p)))] := hl
  refine lv_iload_n hx hb dX4_keptOffset_0 rfl (lv_at hl 1 rfl) ?_
  refine z_callS_v (As := [.int (nI (p))]) (rest := []) (w := wX cI cZ ad) ⟨hx, hb, hml, hown, hts⟩ hF hR (c_X4_requirePartition_ok hG S p (by omega)) (va_cwS 1 hts gX4_keptOffset_X4_requirePartition rfl rfl rfl (by decide +kernel) ⟨Nat.le_of_ble_eq_true rfl, Nat.le_of_ble_eq_true rfl⟩) rfl hl rfl (Nat.le_of_ble_eq_true rfl) (by decide) dX4_keptOffset_1 (fun S1 H locs hp1 hR => ?_)
  subst S1
  refine lv_aload_n hx hb dX4_keptOffset_4 rfl (lv_at hl 0 rfl) ?_
  refine z_get (own := RX4) (C := RX4) (T := TX4) (N := 14) (k := 1) (v := .ref (ad 4)) hx hb hts hinX4 hown hF hR (wX_c0 S) rfl (by decide) (by decide +kernel) rfl rfl dX4_keptOffset_5 ?_
  refine z_get (own := RX4) (C := RX2) (T := TX2) (N := 4) (k := 1) (v := .ref (ad 6)) hx hb hts hinX2 hown hF hR (wX_c4 S) rfl (by decide) (by decide +kernel) rfl rfl dX4_keptOffset_8 ?_
  refine lv_iload_n hx hb dX4_keptOffset_11 rfl (lv_at hl 1 rfl) ?_
  refine z_iald_n (f := S 3) hx hb hF hR (wX_c6 S) zT_0 dX4_keptOffset_12 (by decide) (by omega) ?_
  refine lv_topi (fun v3 ev3 => ?_)
  obtain rfl : v3 = (nI (zn S 3 (p))) := ev3.trans (zOK.n3 hO _).1
  have hb12_2 := (zOK.n3 hO (p)).2
  exact z_iret (w := wX cI cZ ad) (S1 := S) hx hb hr hlk hF hR dX4_keptOffset_13 (⟨rfl, rfl⟩)
set_option maxHeartbeats 4000000 in
set_option maxRecDepth 100000 in
theorem c_X4_eventAt_e1 {l : Launch} {D : va_G} {cI cZ : ClassId} {ad : Nat → Nat} {B : Nat → Prop} (hG : ∀ S : zS, va_D B (wX cI cZ ad S)) (hfl : l.stackTraces = false) (S : zS) (x y : Int32) (hO : zOK S) (hxb : zbad x 4) : zMXi l yX4_eventAt wsX4_eventAt ({ frames := 7, cells := 1, slots := 6, locals := 102 } : Room) [.ref (ad 0), .int (x), .int (y)] D (zT cI cZ) B (wX cI cZ ad) S (fun (_ : Int32) (_ : zS) => False) (fun E => E = zIO) := by
  refine zMXi_of (cc := cX4_eventAt) (maxL := 3) (ret := (some .int)) (by decide) rfl (Nat.le_of_ble_eq_true rfl) ?_
  intro pg en s mm below meth cd hx hb hr hml hown hts hlk hex hF hR ls hl
  have hinX1 : ∀ w ∈ wsX10, w ∈ wsX4_eventAt := by decide +kernel
  have hinX4 : ∀ w ∈ wsX40, w ∈ wsX4_eventAt := by decide +kernel
  have hl : lv_has ls 3 [(0, .ref (ad 0)), (1, .int (x)), (2, .int (y))] := hl
  refine lv_iload_n hx hb dX4_eventAt_0 rfl (lv_at hl 1 rfl) ?_
  exact z_badS (As := [.int (x)]) (rest := []) (w := wX cI cZ ad) ⟨hx, hb, hml, hown, hts⟩ hlk hex hF hR (c_X4_requirePartition_bad hG hfl S ((x)) hxb) (va_cwS 1 hts gX4_eventAt_X4_requirePartition rfl rfl rfl (by decide +kernel) ⟨Nat.le_of_ble_eq_true rfl, Nat.le_of_ble_eq_true rfl⟩) rfl hl rfl (Nat.le_of_ble_eq_true rfl) (by decide) dX4_eventAt_1 (fun E h => h)
set_option maxHeartbeats 4000000 in
set_option maxRecDepth 100000 in
theorem c_X4_eventAt_e2 {l : Launch} {D : va_G} {cI cZ : ClassId} {ad : Nat → Nat} {B : Nat → Prop} (hG : ∀ S : zS, va_D B (wX cI cZ ad S)) (hfl : l.stackTraces = false) (S : zS) (p : Nat) (y : Int32) (hO : zOK S) (hp : p < 4) (hxb : zbad y (zn S 0 p)) : zMXi l yX4_eventAt wsX4_eventAt ({ frames := 7, cells := 1, slots := 6, locals := 102 } : Room) [.ref (ad 0), .int (nI (p)), .int (y)] D (zT cI cZ) B (wX cI cZ ad) S (fun (_ : Int32) (_ : zS) => False) (fun E => E = zIO) := by
  refine zMXi_of (cc := cX4_eventAt) (maxL := 3) (ret := (some .int)) (by decide) rfl (Nat.le_of_ble_eq_true rfl) ?_
  intro pg en s mm below meth cd hx hb hr hml hown hts hlk hex hF hR ls hl
  have hinX1 : ∀ w ∈ wsX10, w ∈ wsX4_eventAt := by decide +kernel
  have hinX4 : ∀ w ∈ wsX40, w ∈ wsX4_eventAt := by decide +kernel
  have hl : lv_has ls 3 [(0, .ref (ad 0)), (1, .int (nI (p))), (2, .int (y))] := hl
  refine lv_iload_n hx hb dX4_eventAt_0 rfl (lv_at hl 1 rfl) ?_
  refine z_callS_v (As := [.int (nI (p))]) (rest := []) (w := wX cI cZ ad) ⟨hx, hb, hml, hown, hts⟩ hF hR (c_X4_requirePartition_ok hG S p (by omega)) (va_cwS 1 hts gX4_eventAt_X4_requirePartition rfl rfl rfl (by decide +kernel) ⟨Nat.le_of_ble_eq_true rfl, Nat.le_of_ble_eq_true rfl⟩) rfl hl rfl (Nat.le_of_ble_eq_true rfl) (by decide) dX4_eventAt_1 (fun S1 H locs hp1 hR => ?_)
  subst S1
  refine lv_iload_n hx hb dX4_eventAt_4 rfl (lv_at hl 2 rfl) ?_
  refine lv_if_lt (tgt := 21) hx hb dX4_eventAt_5 (by decide) (fun h5_2 => ?_) (fun h5_2 => ?_)
  · skip
    have q5 := h5_2
    exact z_throw (Ts := wsX4_eventAt) (w := wX cI cZ ad) (cls := "java/lang/IndexOutOfBoundsException") hx hb hfl hml hown hts hlk hex hF hR hl (by decide +kernel) (by decide +kernel) (by decide +kernel) (by decide +kernel) (by decide +kernel) (by decide +kernel) (List.mem_of_getElem? (i := 11) rfl) (by decide) dX4_eventAt_21 dX4_eventAt_24 dX4_eventAt_25 dX4_eventAt_27 dX4_eventAt_30 (rfl)
  · skip
    have q5 := h5_2
    refine lv_iload_n hx hb dX4_eventAt_8 rfl (lv_at hl 2 rfl) ?_
    refine lv_aload_n hx hb dX4_eventAt_9 rfl (lv_at hl 0 rfl) ?_
    refine z_get (own := RX4) (C := RX4) (T := TX4) (N := 14) (k := 0) (v := .ref (ad 1)) hx hb hts hinX4 hown hF hR (wX_c0 S) rfl (by decide) (by decide +kernel) rfl rfl dX4_eventAt_10 ?_
    refine z_get (own := RX4) (C := RX1) (T := TX1) (N := 2) (k := 0) (v := .ref (ad 2)) hx hb hts hinX1 hown hF hR (wX_c1 S) rfl (by decide) (by decide +kernel) rfl rfl dX4_eventAt_13 ?_
    refine lv_iload_n hx hb dX4_eventAt_16 rfl (lv_at hl 1 rfl) ?_
    refine z_iald_n (f := S 0) hx hb hF hR (wX_c2 S) zT_0 dX4_eventAt_17 (by decide) (by omega) ?_
    refine lv_topi (fun v4 ev4 => ?_)
    obtain rfl : v4 = (nI (zn S 0 (p))) := ev4.trans (zOK.n0 hO _).1
    have hb17_3 := (zOK.n0 hO (p)).2
    refine lv_icmp_lt (tgt := 31) hx hb dX4_eventAt_18 (by decide) (fun h18_5 => (zbad_no hxb q5 h18_5).elim) (fun h18_5 => ?_)
    exact z_throw (Ts := wsX4_eventAt) (w := wX cI cZ ad) (cls := "java/lang/IndexOutOfBoundsException") hx hb hfl hml hown hts hlk hex hF hR hl (by decide +kernel) (by decide +kernel) (by decide +kernel) (by decide +kernel) (by decide +kernel) (by decide +kernel) (List.mem_of_getElem? (i := 11) rfl) (by decide) dX4_eventAt_21 dX4_eventAt_24 dX4_eventAt_25 dX4_eventAt_27 dX4_eventAt_30 (rfl)
set_option maxHeartbeats 4000000 in
set_option maxRecDepth 100000 in
theorem c_X4_eventAt_ok {l : Launch} {D : va_G} {cI cZ : ClassId} {ad : Nat → Nat} {B : Nat → Prop} (hG : ∀ S : zS, va_D B (wX cI cZ ad S)) (S : zS) (p o : Nat) (hO : zOK S) (hp : p < 4) (ho : o < zn S 0 p) : zMi l yX4_eventAt wsX4_eventAt ({ frames := 7, cells := 0, slots := 0, locals := 102 } : Room) [.ref (ad 0), .int (nI (p)), .int (nI (o))] D (zT cI cZ) B (wX cI cZ ad) S (fun (r : Int32) (S1 : zS) => r = (nI (zn S 1 (60 * p + o))) ∧ S1 = S) := by
  refine zMi_of (cc := cX4_eventAt) (maxL := 3) (ret := (some .int)) (by decide) rfl (Nat.le_of_ble_eq_true rfl) ?_
  intro pg en s mm below meth cd hx hb hr hml hown hts hlk hF hR ls hl
  have hinX1 : ∀ w ∈ wsX10, w ∈ wsX4_eventAt := by decide +kernel
  have hinX4 : ∀ w ∈ wsX40, w ∈ wsX4_eventAt := by decide +kernel
  have hl : lv_has ls 3 [(0, .ref (ad 0)), (1, .int (nI (p))), (2, .int (nI (o)))] := hl
  have hb0 := (zOK.n0 hO p).2
  refine lv_iload_n hx hb dX4_eventAt_0 rfl (lv_at hl 1 rfl) ?_
  refine z_callS_v (As := [.int (nI (p))]) (rest := []) (w := wX cI cZ ad) ⟨hx, hb, hml, hown, hts⟩ hF hR (c_X4_requirePartition_ok hG S p (by omega)) (va_cwS 1 hts gX4_eventAt_X4_requirePartition rfl rfl rfl (by decide +kernel) ⟨Nat.le_of_ble_eq_true rfl, Nat.le_of_ble_eq_true rfl⟩) rfl hl rfl (Nat.le_of_ble_eq_true rfl) (by decide) dX4_eventAt_1 (fun S1 H locs hp1 hR => ?_)
  subst S1
  refine lv_iload_n hx hb dX4_eventAt_4 rfl (lv_at hl 2 rfl) ?_
  refine z_if_lt_n (tgt := 21) hx hb dX4_eventAt_5 (by decide) (by omega) (fun h5_2 => h5_2.elim) (fun h5_2 => ?_)
  refine lv_iload_n hx hb dX4_eventAt_8 rfl (lv_at hl 2 rfl) ?_
  refine lv_aload_n hx hb dX4_eventAt_9 rfl (lv_at hl 0 rfl) ?_
  refine z_get (own := RX4) (C := RX4) (T := TX4) (N := 14) (k := 0) (v := .ref (ad 1)) hx hb hts hinX4 hown hF hR (wX_c0 S) rfl (by decide) (by decide +kernel) rfl rfl dX4_eventAt_10 ?_
  refine z_get (own := RX4) (C := RX1) (T := TX1) (N := 2) (k := 0) (v := .ref (ad 2)) hx hb hts hinX1 hown hF hR (wX_c1 S) rfl (by decide) (by decide +kernel) rfl rfl dX4_eventAt_13 ?_
  refine lv_iload_n hx hb dX4_eventAt_16 rfl (lv_at hl 1 rfl) ?_
  refine z_iald_n (f := S 0) hx hb hF hR (wX_c2 S) zT_0 dX4_eventAt_17 (by decide) (by omega) ?_
  refine lv_topi (fun v4 ev4 => ?_)
  obtain rfl : v4 = (nI (zn S 0 (p))) := ev4.trans (zOK.n0 hO _).1
  have hb17_3 := (zOK.n0 hO (p)).2
  refine z_lt_n (tgt := 31) hx hb dX4_eventAt_18 (by decide) (by omega) (by omega) (fun h18_5 => ?_) (fun h18_5 => by omega)
  refine lv_aload_n hx hb dX4_eventAt_31 rfl (lv_at hl 0 rfl) ?_
  refine z_get (own := RX4) (C := RX4) (T := TX4) (N := 14) (k := 0) (v := .ref (ad 1)) hx hb hts hinX4 hown hF hR (wX_c0 S) rfl (by decide) (by decide +kernel) rfl rfl dX4_eventAt_32 ?_
  refine lv_iload_n hx hb dX4_eventAt_35 rfl (lv_at hl 1 rfl) ?_
  refine lv_iload_n hx hb dX4_eventAt_36 rfl (lv_at hl 2 rfl) ?_
  refine z_callV_i (As := [.int (nI (p)), .int (nI (o))]) (rest := []) (w := wX cI cZ ad) ⟨hx, hb, hml, hown, hts⟩ hF hR (c_X1_get hG S p o hO (by omega) (by omega)) (cwV 2 hts gX4_eventAt_X1_get rfl rfl rfl (by decide +kernel) ⟨Nat.le_of_ble_eq_true rfl, Nat.le_of_ble_eq_true rfl⟩) (wX_c1 S) rfl rfl rfl hl rfl (Nat.le_of_ble_eq_true rfl) (by decide) dX4_eventAt_37 (fun r6 S6 H locs hp6 hR => ?_)
  obtain ⟨hr6, hs6⟩ := hp6
  subst r6
  subst S6
  exact z_iret (w := wX cI cZ ad) (S1 := S) hx hb hr hlk hF hR dX4_eventAt_40 (⟨rfl, rfl⟩)
set_option maxHeartbeats 4000000 in
set_option maxRecDepth 100000 in
theorem c_X4_queued_e1 {l : Launch} {D : va_G} {cI cZ : ClassId} {ad : Nat → Nat} {B : Nat → Prop} (hG : ∀ S : zS, va_D B (wX cI cZ ad S)) (hfl : l.stackTraces = false) (S : zS) (x y : Int32) (hO : zOK S) (hxb : zbad x 4) : zMXi l yX4_queued wsX4_queued ({ frames := 7, cells := 1, slots := 6, locals := 103 } : Room) [.ref (ad 0), .int (x), .int (y)] D (zT cI cZ) B (wX cI cZ ad) S (fun (_ : Int32) (_ : zS) => False) (fun E => E = zIO) := by
  refine zMXi_of (cc := cX4_queued) (maxL := 3) (ret := (some .int)) (by decide) rfl (Nat.le_of_ble_eq_true rfl) ?_
  intro pg en s mm below meth cd hx hb hr hml hown hts hlk hex hF hR ls hl
  have hinX4 : ∀ w ∈ wsX40, w ∈ wsX4_queued := by decide +kernel
  have hl : lv_has ls 3 [(0, .ref (ad 0)), (1, .int (x)), (2, .int (y))] := hl
  refine lv_iload_n hx hb dX4_queued_0 rfl (lv_at hl 1 rfl) ?_
  exact z_badS (As := [.int (x)]) (rest := []) (w := wX cI cZ ad) ⟨hx, hb, hml, hown, hts⟩ hlk hex hF hR (c_X4_requirePartition_bad hG hfl S ((x)) hxb) (va_cwS 1 hts gX4_queued_X4_requirePartition rfl rfl rfl (by decide +kernel) ⟨Nat.le_of_ble_eq_true rfl, Nat.le_of_ble_eq_true rfl⟩) rfl hl rfl (Nat.le_of_ble_eq_true rfl) (by decide) dX4_queued_1 (fun E h => h)
set_option maxHeartbeats 4000000 in
set_option maxRecDepth 100000 in
theorem c_X4_queued_e2 {l : Launch} {D : va_G} {cI cZ : ClassId} {ad : Nat → Nat} {B : Nat → Prop} (hG : ∀ S : zS, va_D B (wX cI cZ ad S)) (hfl : l.stackTraces = false) (S : zS) (p : Nat) (y : Int32) (hO : zOK S) (hp : p < 4) (hxb : zbad y (zn S 22 0)) : zMXi l yX4_queued wsX4_queued ({ frames := 7, cells := 1, slots := 6, locals := 103 } : Room) [.ref (ad 0), .int (nI (p)), .int (y)] D (zT cI cZ) B (wX cI cZ ad) S (fun (_ : Int32) (_ : zS) => False) (fun E => E = zIO) := by
  refine zMXi_of (cc := cX4_queued) (maxL := 3) (ret := (some .int)) (by decide) rfl (Nat.le_of_ble_eq_true rfl) ?_
  intro pg en s mm below meth cd hx hb hr hml hown hts hlk hex hF hR ls hl
  have hinX4 : ∀ w ∈ wsX40, w ∈ wsX4_queued := by decide +kernel
  have hl : lv_has ls 3 [(0, .ref (ad 0)), (1, .int (nI (p))), (2, .int (y))] := hl
  refine lv_iload_n hx hb dX4_queued_0 rfl (lv_at hl 1 rfl) ?_
  refine z_callS_v (As := [.int (nI (p))]) (rest := []) (w := wX cI cZ ad) ⟨hx, hb, hml, hown, hts⟩ hF hR (c_X4_requirePartition_ok hG S p (by omega)) (va_cwS 1 hts gX4_queued_X4_requirePartition rfl rfl rfl (by decide +kernel) ⟨Nat.le_of_ble_eq_true rfl, Nat.le_of_ble_eq_true rfl⟩) rfl hl rfl (Nat.le_of_ble_eq_true rfl) (by decide) dX4_queued_1 (fun S1 H locs hp1 hR => ?_)
  subst S1
  refine lv_aload_n hx hb dX4_queued_4 rfl (lv_at hl 0 rfl) ?_
  refine lv_iload_n hx hb dX4_queued_5 rfl (lv_at hl 2 rfl) ?_
  exact z_badV (As := [.int (y)]) (rest := []) (w := wX cI cZ ad) ⟨hx, hb, hml, hown, hts⟩ hlk hex hF hR (c_X4_requireWorker_bad hG hfl S ((y)) hO hxb) (cwV 1 hts gX4_queued_X4_requireWorker rfl rfl rfl (by decide +kernel) ⟨Nat.le_of_ble_eq_true rfl, Nat.le_of_ble_eq_true rfl⟩) (wX_c0 S) rfl rfl rfl hl rfl (Nat.le_of_ble_eq_true rfl) (by decide) dX4_queued_6 (fun E h => h)
set_option maxHeartbeats 4000000 in
set_option maxRecDepth 100000 in
theorem c_X4_queued_ok {l : Launch} {D : va_G} {cI cZ : ClassId} {ad : Nat → Nat} {B : Nat → Prop} (hG : ∀ S : zS, va_D B (wX cI cZ ad S)) (S : zS) (p w : Nat) (hO : zOK S) (hp : p < 4) (hw : w < zn S 22 0) : zMi l yX4_queued wsX4_queued ({ frames := 7, cells := 0, slots := 0, locals := 103 } : Room) [.ref (ad 0), .int (nI (p)), .int (nI (w))] D (zT cI cZ) B (wX cI cZ ad) S (fun (r : Int32) (S1 : zS) => r = (nI (zn S 7 (4 * p + w))) ∧ S1 = S) := by
  refine zMi_of (cc := cX4_queued) (maxL := 3) (ret := (some .int)) (by decide) rfl (Nat.le_of_ble_eq_true rfl) ?_
  intro pg en s mm below meth cd hx hb hr hml hown hts hlk hF hR ls hl
  have hinX4 : ∀ w ∈ wsX40, w ∈ wsX4_queued := by decide +kernel
  have hl : lv_has ls 3 [(0, .ref (ad 0)), (1, .int (nI (p))), (2, .int (nI (w)))] := hl
  have hW1 := (zOK.w hO).2.1
  have hW4 := (zOK.w hO).2.2
  refine lv_iload_n hx hb dX4_queued_0 rfl (lv_at hl 1 rfl) ?_
  refine z_callS_v (As := [.int (nI (p))]) (rest := []) (w := wX cI cZ ad) ⟨hx, hb, hml, hown, hts⟩ hF hR (c_X4_requirePartition_ok hG S p (by omega)) (va_cwS 1 hts gX4_queued_X4_requirePartition rfl rfl rfl (by decide +kernel) ⟨Nat.le_of_ble_eq_true rfl, Nat.le_of_ble_eq_true rfl⟩) rfl hl rfl (Nat.le_of_ble_eq_true rfl) (by decide) dX4_queued_1 (fun S1 H locs hp1 hR => ?_)
  subst S1
  refine lv_aload_n hx hb dX4_queued_4 rfl (lv_at hl 0 rfl) ?_
  refine lv_iload_n hx hb dX4_queued_5 rfl (lv_at hl 2 rfl) ?_
  refine z_callV_v (As := [.int (nI (w))]) (rest := []) (w := wX cI cZ ad) ⟨hx, hb, hml, hown, hts⟩ hF hR (c_X4_requireWorker_ok hG S w hO (by omega)) (cwV 1 hts gX4_queued_X4_requireWorker rfl rfl rfl (by decide +kernel) ⟨Nat.le_of_ble_eq_true rfl, Nat.le_of_ble_eq_true rfl⟩) (wX_c0 S) rfl rfl rfl hl rfl (Nat.le_of_ble_eq_true rfl) (by decide) dX4_queued_6 (fun S2 H locs hp2 hR => ?_)
  subst S2
  refine lv_aload_n hx hb dX4_queued_9 rfl (lv_at hl 0 rfl) ?_
  refine z_get (own := RX4) (C := RX4) (T := TX4) (N := 14) (k := 2) (v := .ref (ad 9)) hx hb hts hinX4 hown hF hR (wX_c0 S) rfl (by decide) (by decide +kernel) rfl rfl dX4_queued_10 ?_
  refine lv_iload_n hx hb dX4_queued_13 rfl (lv_at hl 1 rfl) ?_
  refine lv_iload_n hx hb dX4_queued_14 rfl (lv_at hl 2 rfl) ?_
  refine z_callV_i (As := [.int (nI (p)), .int (nI (w))]) (rest := []) (w := wX cI cZ ad) ⟨hx, hb, hml, hown, hts⟩ hF hR (c_X0_size hG S p w hO (by omega) (by omega)) (cwV 2 hts gX4_queued_X0_size rfl rfl rfl (by decide +kernel) ⟨Nat.le_of_ble_eq_true rfl, Nat.le_of_ble_eq_true rfl⟩) (wX_c9 S) rfl rfl rfl hl rfl (Nat.le_of_ble_eq_true rfl) (by decide) dX4_queued_15 (fun r3 S3 H locs hp3 hR => ?_)
  obtain ⟨hr3, hs3⟩ := hp3
  subst r3
  subst S3
  exact z_iret (w := wX cI cZ ad) (S1 := S) hx hb hr hlk hF hR dX4_queued_18 (⟨rfl, rfl⟩)
set_option maxHeartbeats 4000000 in
set_option maxRecDepth 100000 in
theorem c_X4_isBlocked_e1 {l : Launch} {D : va_G} {cI cZ : ClassId} {ad : Nat → Nat} {B : Nat → Prop} (hG : ∀ S : zS, va_D B (wX cI cZ ad S)) (hfl : l.stackTraces = false) (S : zS) (x y : Int32) (hO : zOK S) (hxb : zbad x 4) : zMXi l yX4_isBlocked wsX4_isBlocked ({ frames := 7, cells := 1, slots := 6, locals := 103 } : Room) [.ref (ad 0), .int (x), .int (y)] D (zT cI cZ) B (wX cI cZ ad) S (fun (_ : Int32) (_ : zS) => False) (fun E => E = zIO) := by
  refine zMXi_of (cc := cX4_isBlocked) (maxL := 3) (ret := (some .boolean)) (by decide) rfl (Nat.le_of_ble_eq_true rfl) ?_
  intro pg en s mm below meth cd hx hb hr hml hown hts hlk hex hF hR ls hl
  have hinX4 : ∀ w ∈ wsX40, w ∈ wsX4_isBlocked := by decide +kernel
  have hl : lv_has ls 3 [(0, .ref (ad 0)), (1, .int (x)), (2, .int (y))] := hl
  refine lv_iload_n hx hb dX4_isBlocked_0 rfl (lv_at hl 1 rfl) ?_
  exact z_badS (As := [.int (x)]) (rest := []) (w := wX cI cZ ad) ⟨hx, hb, hml, hown, hts⟩ hlk hex hF hR (c_X4_requirePartition_bad hG hfl S ((x)) hxb) (va_cwS 1 hts gX4_isBlocked_X4_requirePartition rfl rfl rfl (by decide +kernel) ⟨Nat.le_of_ble_eq_true rfl, Nat.le_of_ble_eq_true rfl⟩) rfl hl rfl (Nat.le_of_ble_eq_true rfl) (by decide) dX4_isBlocked_1 (fun E h => h)
set_option maxHeartbeats 4000000 in
set_option maxRecDepth 100000 in
theorem c_X4_isBlocked_e2 {l : Launch} {D : va_G} {cI cZ : ClassId} {ad : Nat → Nat} {B : Nat → Prop} (hG : ∀ S : zS, va_D B (wX cI cZ ad S)) (hfl : l.stackTraces = false) (S : zS) (p : Nat) (y : Int32) (hO : zOK S) (hp : p < 4) (hxb : zbad y (zn S 22 0)) : zMXi l yX4_isBlocked wsX4_isBlocked ({ frames := 7, cells := 1, slots := 6, locals := 103 } : Room) [.ref (ad 0), .int (nI (p)), .int (y)] D (zT cI cZ) B (wX cI cZ ad) S (fun (_ : Int32) (_ : zS) => False) (fun E => E = zIO) := by
  refine zMXi_of (cc := cX4_isBlocked) (maxL := 3) (ret := (some .boolean)) (by decide) rfl (Nat.le_of_ble_eq_true rfl) ?_
  intro pg en s mm below meth cd hx hb hr hml hown hts hlk hex hF hR ls hl
  have hinX4 : ∀ w ∈ wsX40, w ∈ wsX4_isBlocked := by decide +kernel
  have hl : lv_has ls 3 [(0, .ref (ad 0)), (1, .int (nI (p))), (2, .int (y))] := hl
  refine lv_iload_n hx hb dX4_isBlocked_0 rfl (lv_at hl 1 rfl) ?_
  refine z_callS_v (As := [.int (nI (p))]) (rest := []) (w := wX cI cZ ad) ⟨hx, hb, hml, hown, hts⟩ hF hR (c_X4_requirePartition_ok hG S p (by omega)) (va_cwS 1 hts gX4_isBlocked_X4_requirePartition rfl rfl rfl (by decide +kernel) ⟨Nat.le_of_ble_eq_true rfl, Nat.le_of_ble_eq_true rfl⟩) rfl hl rfl (Nat.le_of_ble_eq_true rfl) (by decide) dX4_isBlocked_1 (fun S1 H locs hp1 hR => ?_)
  subst S1
  refine lv_aload_n hx hb dX4_isBlocked_4 rfl (lv_at hl 0 rfl) ?_
  refine lv_iload_n hx hb dX4_isBlocked_5 rfl (lv_at hl 2 rfl) ?_
  exact z_badV (As := [.int (y)]) (rest := []) (w := wX cI cZ ad) ⟨hx, hb, hml, hown, hts⟩ hlk hex hF hR (c_X4_requireWorker_bad hG hfl S ((y)) hO hxb) (cwV 1 hts gX4_isBlocked_X4_requireWorker rfl rfl rfl (by decide +kernel) ⟨Nat.le_of_ble_eq_true rfl, Nat.le_of_ble_eq_true rfl⟩) (wX_c0 S) rfl rfl rfl hl rfl (Nat.le_of_ble_eq_true rfl) (by decide) dX4_isBlocked_6 (fun E h => h)
set_option maxHeartbeats 4000000 in
set_option maxRecDepth 100000 in
theorem c_X4_isBlocked_ok {l : Launch} {D : va_G} {cI cZ : ClassId} {ad : Nat → Nat} {B : Nat → Prop} (hG : ∀ S : zS, va_D B (wX cI cZ ad S)) (S : zS) (p w : Nat) (hO : zOK S) (hp : p < 4) (hw : w < zn S 22 0) : zMi l yX4_isBlocked wsX4_isBlocked ({ frames := 7, cells := 0, slots := 0, locals := 103 } : Room) [.ref (ad 0), .int (nI (p)), .int (nI (w))] D (zT cI cZ) B (wX cI cZ ad) S (fun (r : Int32) (S1 : zS) => (((S 8 (4 * p + w) = nI 1) ∧ r = nI 1) ∨ (¬ (S 8 (4 * p + w) = nI 1) ∧ r = nI 0)) ∧ S1 = S) := by
  refine zMi_of (cc := cX4_isBlocked) (maxL := 3) (ret := (some .boolean)) (by decide) rfl (Nat.le_of_ble_eq_true rfl) ?_
  intro pg en s mm below meth cd hx hb hr hml hown hts hlk hF hR ls hl
  have hinX4 : ∀ w ∈ wsX40, w ∈ wsX4_isBlocked := by decide +kernel
  have hl : lv_has ls 3 [(0, .ref (ad 0)), (1, .int (nI (p))), (2, .int (nI (w)))] := hl
  have hW1 := (zOK.w hO).2.1
  have hW4 := (zOK.w hO).2.2
  refine lv_iload_n hx hb dX4_isBlocked_0 rfl (lv_at hl 1 rfl) ?_
  refine z_callS_v (As := [.int (nI (p))]) (rest := []) (w := wX cI cZ ad) ⟨hx, hb, hml, hown, hts⟩ hF hR (c_X4_requirePartition_ok hG S p (by omega)) (va_cwS 1 hts gX4_isBlocked_X4_requirePartition rfl rfl rfl (by decide +kernel) ⟨Nat.le_of_ble_eq_true rfl, Nat.le_of_ble_eq_true rfl⟩) rfl hl rfl (Nat.le_of_ble_eq_true rfl) (by decide) dX4_isBlocked_1 (fun S1 H locs hp1 hR => ?_)
  subst S1
  refine lv_aload_n hx hb dX4_isBlocked_4 rfl (lv_at hl 0 rfl) ?_
  refine lv_iload_n hx hb dX4_isBlocked_5 rfl (lv_at hl 2 rfl) ?_
  refine z_callV_v (As := [.int (nI (w))]) (rest := []) (w := wX cI cZ ad) ⟨hx, hb, hml, hown, hts⟩ hF hR (c_X4_requireWorker_ok hG S w hO (by omega)) (cwV 1 hts gX4_isBlocked_X4_requireWorker rfl rfl rfl (by decide +kernel) ⟨Nat.le_of_ble_eq_true rfl, Nat.le_of_ble_eq_true rfl⟩) (wX_c0 S) rfl rfl rfl hl rfl (Nat.le_of_ble_eq_true rfl) (by decide) dX4_isBlocked_6 (fun S2 H locs hp2 hR => ?_)
  subst S2
  refine lv_aload_n hx hb dX4_isBlocked_9 rfl (lv_at hl 0 rfl) ?_
  refine z_get (own := RX4) (C := RX4) (T := TX4) (N := 14) (k := 2) (v := .ref (ad 9)) hx hb hts hinX4 hown hF hR (wX_c0 S) rfl (by decide) (by decide +kernel) rfl rfl dX4_isBlocked_10 ?_
  refine lv_iload_n hx hb dX4_isBlocked_13 rfl (lv_at hl 1 rfl) ?_
  refine lv_iload_n hx hb dX4_isBlocked_14 rfl (lv_at hl 2 rfl) ?_
  refine z_callV_i (As := [.int (nI (p)), .int (nI (w))]) (rest := []) (w := wX cI cZ ad) ⟨hx, hb, hml, hown, hts⟩ hF hR (c_X0_isShut hG S p w hO (by omega) (by omega)) (cwV 2 hts gX4_isBlocked_X0_isShut rfl rfl rfl (by decide +kernel) ⟨Nat.le_of_ble_eq_true rfl, Nat.le_of_ble_eq_true rfl⟩) (wX_c9 S) rfl rfl rfl hl rfl (Nat.le_of_ble_eq_true rfl) (by decide) dX4_isBlocked_15 (fun r3 S3 H locs hp3 hR => ?_)
  obtain ⟨hp3, hs3⟩ := hp3
  subst S3
  rcases hp3 with ⟨hb15, hr3⟩ | ⟨hb15, hr3⟩
  · subst r3
    exact z_zret (w := wX cI cZ ad) (S1 := S) hx hb hr hlk hF hR dX4_isBlocked_18 (by decide) (⟨Or.inl ⟨hb15, rfl⟩, rfl⟩)
  · subst r3
    exact z_zret (w := wX cI cZ ad) (S1 := S) hx hb hr hlk hF hR dX4_isBlocked_18 (by decide) (⟨Or.inr ⟨hb15, rfl⟩, rfl⟩)
set_option maxHeartbeats 4000000 in
set_option maxRecDepth 100000 in
theorem c_X4_itemAt_e1 {l : Launch} {D : va_G} {cI cZ : ClassId} {ad : Nat → Nat} {B : Nat → Prop} (hG : ∀ S : zS, va_D B (wX cI cZ ad S)) (hfl : l.stackTraces = false) (S : zS) (x y z : Int32) (hO : zOK S) (hxb : zbad x 4) : zMXi l yX4_itemAt wsX4_itemAt ({ frames := 7, cells := 1, slots := 6, locals := 103 } : Room) [.ref (ad 0), .int (x), .int (y), .int (z)] D (zT cI cZ) B (wX cI cZ ad) S (fun (_ : Int32) (_ : zS) => False) (fun E => E = zIO) := by
  refine zMXi_of (cc := cX4_itemAt) (maxL := 4) (ret := (some .int)) (by decide) rfl (Nat.le_of_ble_eq_true rfl) ?_
  intro pg en s mm below meth cd hx hb hr hml hown hts hlk hex hF hR ls hl
  have hinX4 : ∀ w ∈ wsX40, w ∈ wsX4_itemAt := by decide +kernel
  have hl : lv_has ls 4 [(0, .ref (ad 0)), (1, .int (x)), (2, .int (y)), (3, .int (z))] := hl
  refine lv_iload_n hx hb dX4_itemAt_0 rfl (lv_at hl 1 rfl) ?_
  exact z_badS (As := [.int (x)]) (rest := []) (w := wX cI cZ ad) ⟨hx, hb, hml, hown, hts⟩ hlk hex hF hR (c_X4_requirePartition_bad hG hfl S ((x)) hxb) (va_cwS 1 hts gX4_itemAt_X4_requirePartition rfl rfl rfl (by decide +kernel) ⟨Nat.le_of_ble_eq_true rfl, Nat.le_of_ble_eq_true rfl⟩) rfl hl rfl (Nat.le_of_ble_eq_true rfl) (by decide) dX4_itemAt_1 (fun E h => h)
set_option maxHeartbeats 4000000 in
set_option maxRecDepth 100000 in
theorem c_X4_itemAt_e2 {l : Launch} {D : va_G} {cI cZ : ClassId} {ad : Nat → Nat} {B : Nat → Prop} (hG : ∀ S : zS, va_D B (wX cI cZ ad S)) (hfl : l.stackTraces = false) (S : zS) (p : Nat) (y z : Int32) (hO : zOK S) (hp : p < 4) (hxb : zbad y (zn S 22 0)) : zMXi l yX4_itemAt wsX4_itemAt ({ frames := 7, cells := 1, slots := 6, locals := 103 } : Room) [.ref (ad 0), .int (nI (p)), .int (y), .int (z)] D (zT cI cZ) B (wX cI cZ ad) S (fun (_ : Int32) (_ : zS) => False) (fun E => E = zIO) := by
  refine zMXi_of (cc := cX4_itemAt) (maxL := 4) (ret := (some .int)) (by decide) rfl (Nat.le_of_ble_eq_true rfl) ?_
  intro pg en s mm below meth cd hx hb hr hml hown hts hlk hex hF hR ls hl
  have hinX4 : ∀ w ∈ wsX40, w ∈ wsX4_itemAt := by decide +kernel
  have hl : lv_has ls 4 [(0, .ref (ad 0)), (1, .int (nI (p))), (2, .int (y)), (3, .int (z))] := hl
  refine lv_iload_n hx hb dX4_itemAt_0 rfl (lv_at hl 1 rfl) ?_
  refine z_callS_v (As := [.int (nI (p))]) (rest := []) (w := wX cI cZ ad) ⟨hx, hb, hml, hown, hts⟩ hF hR (c_X4_requirePartition_ok hG S p (by omega)) (va_cwS 1 hts gX4_itemAt_X4_requirePartition rfl rfl rfl (by decide +kernel) ⟨Nat.le_of_ble_eq_true rfl, Nat.le_of_ble_eq_true rfl⟩) rfl hl rfl (Nat.le_of_ble_eq_true rfl) (by decide) dX4_itemAt_1 (fun S1 H locs hp1 hR => ?_)
  subst S1
  refine lv_aload_n hx hb dX4_itemAt_4 rfl (lv_at hl 0 rfl) ?_
  refine lv_iload_n hx hb dX4_itemAt_5 rfl (lv_at hl 2 rfl) ?_
  exact z_badV (As := [.int (y)]) (rest := []) (w := wX cI cZ ad) ⟨hx, hb, hml, hown, hts⟩ hlk hex hF hR (c_X4_requireWorker_bad hG hfl S ((y)) hO hxb) (cwV 1 hts gX4_itemAt_X4_requireWorker rfl rfl rfl (by decide +kernel) ⟨Nat.le_of_ble_eq_true rfl, Nat.le_of_ble_eq_true rfl⟩) (wX_c0 S) rfl rfl rfl hl rfl (Nat.le_of_ble_eq_true rfl) (by decide) dX4_itemAt_6 (fun E h => h)
set_option maxHeartbeats 4000000 in
set_option maxRecDepth 100000 in
theorem c_X4_itemAt_e3 {l : Launch} {D : va_G} {cI cZ : ClassId} {ad : Nat → Nat} {B : Nat → Prop} (hG : ∀ S : zS, va_D B (wX cI cZ ad S)) (hfl : l.stackTraces = false) (S : zS) (p w : Nat) (z : Int32) (hO : zOK S) (hp : p < 4) (hw : w < zn S 22 0) (hxb : zbad z (zn S 7 (4 * p + w))) : zMXi l yX4_itemAt wsX4_itemAt ({ frames := 7, cells := 1, slots := 6, locals := 103 } : Room) [.ref (ad 0), .int (nI (p)), .int (nI (w)), .int (z)] D (zT cI cZ) B (wX cI cZ ad) S (fun (_ : Int32) (_ : zS) => False) (fun E => E = zIO) := by
  refine zMXi_of (cc := cX4_itemAt) (maxL := 4) (ret := (some .int)) (by decide) rfl (Nat.le_of_ble_eq_true rfl) ?_
  intro pg en s mm below meth cd hx hb hr hml hown hts hlk hex hF hR ls hl
  have hinX4 : ∀ w ∈ wsX40, w ∈ wsX4_itemAt := by decide +kernel
  have hl : lv_has ls 4 [(0, .ref (ad 0)), (1, .int (nI (p))), (2, .int (nI (w))), (3, .int (z))] := hl
  have hW1 := (zOK.w hO).2.1
  have hW4 := (zOK.w hO).2.2
  refine lv_iload_n hx hb dX4_itemAt_0 rfl (lv_at hl 1 rfl) ?_
  refine z_callS_v (As := [.int (nI (p))]) (rest := []) (w := wX cI cZ ad) ⟨hx, hb, hml, hown, hts⟩ hF hR (c_X4_requirePartition_ok hG S p (by omega)) (va_cwS 1 hts gX4_itemAt_X4_requirePartition rfl rfl rfl (by decide +kernel) ⟨Nat.le_of_ble_eq_true rfl, Nat.le_of_ble_eq_true rfl⟩) rfl hl rfl (Nat.le_of_ble_eq_true rfl) (by decide) dX4_itemAt_1 (fun S1 H locs hp1 hR => ?_)
  subst S1
  refine lv_aload_n hx hb dX4_itemAt_4 rfl (lv_at hl 0 rfl) ?_
  refine lv_iload_n hx hb dX4_itemAt_5 rfl (lv_at hl 2 rfl) ?_
  refine z_callV_v (As := [.int (nI (w))]) (rest := []) (w := wX cI cZ ad) ⟨hx, hb, hml, hown, hts⟩ hF hR (c_X4_requireWorker_ok hG S w hO (by omega)) (cwV 1 hts gX4_itemAt_X4_requireWorker rfl rfl rfl (by decide +kernel) ⟨Nat.le_of_ble_eq_true rfl, Nat.le_of_ble_eq_true rfl⟩) (wX_c0 S) rfl rfl rfl hl rfl (Nat.le_of_ble_eq_true rfl) (by decide) dX4_itemAt_6 (fun S2 H locs hp2 hR => ?_)
  subst S2
  refine lv_iload_n hx hb dX4_itemAt_9 rfl (lv_at hl 3 rfl) ?_
  refine lv_if_lt (tgt := 26) hx hb dX4_itemAt_10 (by decide) (fun h10_3 => ?_) (fun h10_3 => ?_)
  · skip
    have q10 := h10_3
    exact z_throw (Ts := wsX4_itemAt) (w := wX cI cZ ad) (cls := "java/lang/IndexOutOfBoundsException") hx hb hfl hml hown hts hlk hex hF hR hl (by decide +kernel) (by decide +kernel) (by decide +kernel) (by decide +kernel) (by decide +kernel) (by decide +kernel) (List.mem_of_getElem? (i := 12) rfl) (by decide) dX4_itemAt_26 dX4_itemAt_29 dX4_itemAt_30 dX4_itemAt_32 dX4_itemAt_35 (rfl)
  · skip
    have q10 := h10_3
    refine lv_iload_n hx hb dX4_itemAt_13 rfl (lv_at hl 3 rfl) ?_
    refine lv_aload_n hx hb dX4_itemAt_14 rfl (lv_at hl 0 rfl) ?_
    refine z_get (own := RX4) (C := RX4) (T := TX4) (N := 14) (k := 2) (v := .ref (ad 9)) hx hb hts hinX4 hown hF hR (wX_c0 S) rfl (by decide) (by decide +kernel) rfl rfl dX4_itemAt_15 ?_
    refine lv_iload_n hx hb dX4_itemAt_18 rfl (lv_at hl 1 rfl) ?_
    refine lv_iload_n hx hb dX4_itemAt_19 rfl (lv_at hl 2 rfl) ?_
    refine z_callV_i (As := [.int (nI (p)), .int (nI (w))]) (rest := [.int (z)]) (w := wX cI cZ ad) ⟨hx, hb, hml, hown, hts⟩ hF hR (c_X0_size hG S p w hO (by omega) (by omega)) (cwV 2 hts gX4_itemAt_X0_size rfl rfl rfl (by decide +kernel) ⟨Nat.le_of_ble_eq_true rfl, Nat.le_of_ble_eq_true rfl⟩) (wX_c9 S) rfl rfl rfl hl rfl (Nat.le_of_ble_eq_true rfl) (by decide) dX4_itemAt_20 (fun r4 S4 H locs hp4 hR => ?_)
    obtain ⟨hr4, hs4⟩ := hp4
    subst r4
    subst S4
    refine lv_icmp_lt (tgt := 36) hx hb dX4_itemAt_23 (by decide) (fun h23_5 => (zbad_no hxb q10 h23_5).elim) (fun h23_5 => ?_)
    exact z_throw (Ts := wsX4_itemAt) (w := wX cI cZ ad) (cls := "java/lang/IndexOutOfBoundsException") hx hb hfl hml hown hts hlk hex hF hR hl (by decide +kernel) (by decide +kernel) (by decide +kernel) (by decide +kernel) (by decide +kernel) (by decide +kernel) (List.mem_of_getElem? (i := 12) rfl) (by decide) dX4_itemAt_26 dX4_itemAt_29 dX4_itemAt_30 dX4_itemAt_32 dX4_itemAt_35 (rfl)
set_option maxHeartbeats 4000000 in
set_option maxRecDepth 100000 in
theorem c_X4_itemAt_ok {l : Launch} {D : va_G} {cI cZ : ClassId} {ad : Nat → Nat} {B : Nat → Prop} (hG : ∀ S : zS, va_D B (wX cI cZ ad S)) (S : zS) (p w o : Nat) (hO : zOK S) (hp : p < 4) (hw : w < zn S 22 0) (ho : o < zn S 7 (4 * p + w)) : zMi l yX4_itemAt wsX4_itemAt ({ frames := 7, cells := 0, slots := 0, locals := 103 } : Room) [.ref (ad 0), .int (nI (p)), .int (nI (w)), .int (nI (o))] D (zT cI cZ) B (wX cI cZ ad) S (fun (r : Int32) (S1 : zS) => r = (S 6 (8 * (4 * p + w) + o)) ∧ S1 = S) := by
  refine zMi_of (cc := cX4_itemAt) (maxL := 4) (ret := (some .int)) (by decide) rfl (Nat.le_of_ble_eq_true rfl) ?_
  intro pg en s mm below meth cd hx hb hr hml hown hts hlk hF hR ls hl
  have hinX4 : ∀ w ∈ wsX40, w ∈ wsX4_itemAt := by decide +kernel
  have hl : lv_has ls 4 [(0, .ref (ad 0)), (1, .int (nI (p))), (2, .int (nI (w))), (3, .int (nI (o)))] := hl
  have hW1 := (zOK.w hO).2.1
  have hW4 := (zOK.w hO).2.2
  have hb7 := (zOK.n7 hO (4 * p + w)).2
  refine lv_iload_n hx hb dX4_itemAt_0 rfl (lv_at hl 1 rfl) ?_
  refine z_callS_v (As := [.int (nI (p))]) (rest := []) (w := wX cI cZ ad) ⟨hx, hb, hml, hown, hts⟩ hF hR (c_X4_requirePartition_ok hG S p (by omega)) (va_cwS 1 hts gX4_itemAt_X4_requirePartition rfl rfl rfl (by decide +kernel) ⟨Nat.le_of_ble_eq_true rfl, Nat.le_of_ble_eq_true rfl⟩) rfl hl rfl (Nat.le_of_ble_eq_true rfl) (by decide) dX4_itemAt_1 (fun S1 H locs hp1 hR => ?_)
  subst S1
  refine lv_aload_n hx hb dX4_itemAt_4 rfl (lv_at hl 0 rfl) ?_
  refine lv_iload_n hx hb dX4_itemAt_5 rfl (lv_at hl 2 rfl) ?_
  refine z_callV_v (As := [.int (nI (w))]) (rest := []) (w := wX cI cZ ad) ⟨hx, hb, hml, hown, hts⟩ hF hR (c_X4_requireWorker_ok hG S w hO (by omega)) (cwV 1 hts gX4_itemAt_X4_requireWorker rfl rfl rfl (by decide +kernel) ⟨Nat.le_of_ble_eq_true rfl, Nat.le_of_ble_eq_true rfl⟩) (wX_c0 S) rfl rfl rfl hl rfl (Nat.le_of_ble_eq_true rfl) (by decide) dX4_itemAt_6 (fun S2 H locs hp2 hR => ?_)
  subst S2
  refine lv_iload_n hx hb dX4_itemAt_9 rfl (lv_at hl 3 rfl) ?_
  refine z_if_lt_n (tgt := 26) hx hb dX4_itemAt_10 (by decide) (by omega) (fun h10_3 => h10_3.elim) (fun h10_3 => ?_)
  refine lv_iload_n hx hb dX4_itemAt_13 rfl (lv_at hl 3 rfl) ?_
  refine lv_aload_n hx hb dX4_itemAt_14 rfl (lv_at hl 0 rfl) ?_
  refine z_get (own := RX4) (C := RX4) (T := TX4) (N := 14) (k := 2) (v := .ref (ad 9)) hx hb hts hinX4 hown hF hR (wX_c0 S) rfl (by decide) (by decide +kernel) rfl rfl dX4_itemAt_15 ?_
  refine lv_iload_n hx hb dX4_itemAt_18 rfl (lv_at hl 1 rfl) ?_
  refine lv_iload_n hx hb dX4_itemAt_19 rfl (lv_at hl 2 rfl) ?_
  refine z_callV_i (As := [.int (nI (p)), .int (nI (w))]) (rest := [.int (nI (o))]) (w := wX cI cZ ad) ⟨hx, hb, hml, hown, hts⟩ hF hR (c_X0_size hG S p w hO (by omega) (by omega)) (cwV 2 hts gX4_itemAt_X0_size rfl rfl rfl (by decide +kernel) ⟨Nat.le_of_ble_eq_true rfl, Nat.le_of_ble_eq_true rfl⟩) (wX_c9 S) rfl rfl rfl hl rfl (Nat.le_of_ble_eq_true rfl) (by decide) dX4_itemAt_20 (fun r4 S4 H locs hp4 hR => ?_)
  obtain ⟨hr4, hs4⟩ := hp4
  subst r4
  subst S4
  refine z_lt_n (tgt := 36) hx hb dX4_itemAt_23 (by decide) (by omega) (by omega) (fun h23_5 => ?_) (fun h23_5 => by omega)
  refine lv_aload_n hx hb dX4_itemAt_36 rfl (lv_at hl 0 rfl) ?_
  refine z_get (own := RX4) (C := RX4) (T := TX4) (N := 14) (k := 2) (v := .ref (ad 9)) hx hb hts hinX4 hown hF hR (wX_c0 S) rfl (by decide) (by decide +kernel) rfl rfl dX4_itemAt_37 ?_
  refine lv_iload_n hx hb dX4_itemAt_40 rfl (lv_at hl 1 rfl) ?_
  refine lv_iload_n hx hb dX4_itemAt_41 rfl (lv_at hl 2 rfl) ?_
  refine lv_iload_n hx hb dX4_itemAt_42 rfl (lv_at hl 3 rfl) ?_
  refine z_callV_i (As := [.int (nI (p)), .int (nI (w)), .int (nI (o))]) (rest := []) (w := wX cI cZ ad) ⟨hx, hb, hml, hown, hts⟩ hF hR (c_X0_get hG S p w o (by omega) (by omega) (by omega)) (cwV 3 hts gX4_itemAt_X0_get rfl rfl rfl (by decide +kernel) ⟨Nat.le_of_ble_eq_true rfl, Nat.le_of_ble_eq_true rfl⟩) (wX_c9 S) rfl rfl rfl hl rfl (Nat.le_of_ble_eq_true rfl) (by decide) dX4_itemAt_43 (fun r6 S6 H locs hp6 hR => ?_)
  obtain ⟨hr6, hs6⟩ := hp6
  subst r6
  subst S6
  exact z_iret (w := wX cI cZ ad) (S1 := S) hx hb hr hlk hF hR dX4_itemAt_46 (⟨rfl, rfl⟩)
set_option maxHeartbeats 4000000 in
set_option maxRecDepth 100000 in
theorem c_X4_workers {l : Launch} {D : va_G} {cI cZ : ClassId} {ad : Nat → Nat} {B : Nat → Prop} (hG : ∀ S : zS, va_D B (wX cI cZ ad S)) (S : zS) (hO : zOK S) : zMi l yX4_workers wsX4_workers ({ frames := 0, cells := 0, slots := 0, locals := 0 } : Room) [.ref (ad 0)] D (zT cI cZ) B (wX cI cZ ad) S (fun (r : Int32) (S1 : zS) => r = (nI (zn S 22 0)) ∧ S1 = S) := by
  refine zMi_of (cc := cX4_workers) (maxL := 1) (ret := (some .int)) (by decide) rfl (Nat.le_of_ble_eq_true rfl) ?_
  intro pg en s mm below meth cd hx hb hr hml hown hts hlk hF hR ls hl
  have hinX4 : ∀ w ∈ wsX40, w ∈ wsX4_workers := by decide +kernel
  have hl : lv_has ls 1 [(0, .ref (ad 0))] := hl
  refine lv_aload_n hx hb dX4_workers_0 rfl (lv_at hl 0 rfl) ?_
  refine z_get (own := RX4) (C := RX4) (T := TX4) (N := 14) (k := 10) (v := .int (S 22 0)) hx hb hts hinX4 hown hF hR (wX_c0 S) rfl (by decide) (by decide +kernel) rfl rfl dX4_workers_1 ?_
  refine lv_topi (fun v1 ev1 => ?_)
  obtain rfl : v1 = (nI (zn S 22 0)) := ev1.trans (zOK.w hO).1
  exact z_iret (w := wX cI cZ ad) (S1 := S) hx hb hr hlk hF hR dX4_workers_4 (⟨rfl, rfl⟩)
set_option maxHeartbeats 4000000 in
set_option maxRecDepth 100000 in
theorem c_X4_underWay {l : Launch} {D : va_G} {cI cZ : ClassId} {ad : Nat → Nat} {B : Nat → Prop} (hG : ∀ S : zS, va_D B (wX cI cZ ad S)) (S : zS) (hO : zOK S) : zMi l yX4_underWay wsX4_underWay ({ frames := 0, cells := 0, slots := 0, locals := 0 } : Room) [.ref (ad 0)] D (zT cI cZ) B (wX cI cZ ad) S (fun (r : Int32) (S1 : zS) => r = (S 22 2) ∧ S1 = S) := by
  refine zMi_of (cc := cX4_underWay) (maxL := 1) (ret := (some .int)) (by decide) rfl (Nat.le_of_ble_eq_true rfl) ?_
  intro pg en s mm below meth cd hx hb hr hml hown hts hlk hF hR ls hl
  have hinX4 : ∀ w ∈ wsX40, w ∈ wsX4_underWay := by decide +kernel
  have hl : lv_has ls 1 [(0, .ref (ad 0))] := hl
  refine lv_aload_n hx hb dX4_underWay_0 rfl (lv_at hl 0 rfl) ?_
  refine z_get (own := RX4) (C := RX4) (T := TX4) (N := 14) (k := 12) (v := .int (S 22 2)) hx hb hts hinX4 hown hF hR (wX_c0 S) rfl (by decide) (by decide +kernel) rfl rfl dX4_underWay_1 ?_
  exact z_iret (w := wX cI cZ ad) (S1 := S) hx hb hr hlk hF hR dX4_underWay_4 (⟨rfl, rfl⟩)
set_option maxHeartbeats 4000000 in
set_option maxRecDepth 100000 in
theorem c_X4_complete {l : Launch} {D : va_G} {cI cZ : ClassId} {ad : Nat → Nat} {B : Nat → Prop} (hG : ∀ S : zS, va_D B (wX cI cZ ad S)) (S : zS) (hO : zOK S) : zMi l yX4_complete wsX4_complete ({ frames := 0, cells := 0, slots := 0, locals := 0 } : Room) [.ref (ad 0)] D (zT cI cZ) B (wX cI cZ ad) S (fun (r : Int32) (S1 : zS) => r = (S 22 3) ∧ S1 = S) := by
  refine zMi_of (cc := cX4_complete) (maxL := 1) (ret := (some .int)) (by decide) rfl (Nat.le_of_ble_eq_true rfl) ?_
  intro pg en s mm below meth cd hx hb hr hml hown hts hlk hF hR ls hl
  have hinX4 : ∀ w ∈ wsX40, w ∈ wsX4_complete := by decide +kernel
  have hl : lv_has ls 1 [(0, .ref (ad 0))] := hl
  refine lv_aload_n hx hb dX4_complete_0 rfl (lv_at hl 0 rfl) ?_
  refine z_get (own := RX4) (C := RX4) (T := TX4) (N := 14) (k := 13) (v := .int (S 22 3)) hx hb hts hinX4 hown hF hR (wX_c0 S) rfl (by decide) (by decide +kernel) rfl rfl dX4_complete_1 ?_
  exact z_iret (w := wX cI cZ ad) (S1 := S) hx hb hr hlk hF hR dX4_complete_4 (⟨rfl, rfl⟩)
set_option maxHeartbeats 4000000 in
set_option maxRecDepth 100000 in
theorem c_X4_workerOf_e1 {l : Launch} {D : va_G} {cI cZ : ClassId} {ad : Nat → Nat} {B : Nat → Prop} (hG : ∀ S : zS, va_D B (wX cI cZ ad S)) (hfl : l.stackTraces = false) (S : zS) (x : Int32) (hO : zOK S) (hxb : zbad x 32) : zMXi l yX4_workerOf wsX4_workerOf ({ frames := 7, cells := 1, slots := 6, locals := 102 } : Room) [.ref (ad 0), .int (x)] D (zT cI cZ) B (wX cI cZ ad) S (fun (_ : Int32) (_ : zS) => False) (fun E => E = zIO) := by
  refine zMXi_of (cc := cX4_workerOf) (maxL := 2) (ret := (some .int)) (by decide) rfl (Nat.le_of_ble_eq_true rfl) ?_
  intro pg en s mm below meth cd hx hb hr hml hown hts hlk hex hF hR ls hl
  have hl : lv_has ls 2 [(0, .ref (ad 0)), (1, .int (x))] := hl
  refine lv_iload_n hx hb dX4_workerOf_0 rfl (lv_at hl 1 rfl) ?_
  exact z_badS (As := [.int (x)]) (rest := []) (w := wX cI cZ ad) ⟨hx, hb, hml, hown, hts⟩ hlk hex hF hR (c_X4_requireKey_bad hG hfl S ((x)) hxb) (va_cwS 1 hts gX4_workerOf_X4_requireKey rfl rfl rfl (by decide +kernel) ⟨Nat.le_of_ble_eq_true rfl, Nat.le_of_ble_eq_true rfl⟩) rfl hl rfl (Nat.le_of_ble_eq_true rfl) (by decide) dX4_workerOf_1 (fun E h => h)
set_option maxHeartbeats 4000000 in
set_option maxRecDepth 100000 in
theorem c_X4_workerOf_ok {l : Launch} {D : va_G} {cI cZ : ClassId} {ad : Nat → Nat} {B : Nat → Prop} (hG : ∀ S : zS, va_D B (wX cI cZ ad S)) (S : zS) (key : Nat) (hO : zOK S) (hk : key < 32) : zMi l yX4_workerOf wsX4_workerOf ({ frames := 7, cells := 0, slots := 0, locals := 102 } : Room) [.ref (ad 0), .int (nI (key))] D (zT cI cZ) B (wX cI cZ ad) S (fun (r : Int32) (S1 : zS) => r = (nI (zown (zn S 22 0) key)) ∧ S1 = S) := by
  refine zMi_of (cc := cX4_workerOf) (maxL := 2) (ret := (some .int)) (by decide) rfl (Nat.le_of_ble_eq_true rfl) ?_
  intro pg en s mm below meth cd hx hb hr hml hown hts hlk hF hR ls hl
  have hl : lv_has ls 2 [(0, .ref (ad 0)), (1, .int (nI (key)))] := hl
  refine lv_iload_n hx hb dX4_workerOf_0 rfl (lv_at hl 1 rfl) ?_
  refine z_callS_v (As := [.int (nI (key))]) (rest := []) (w := wX cI cZ ad) ⟨hx, hb, hml, hown, hts⟩ hF hR (c_X4_requireKey_ok hG S key (by omega)) (va_cwS 1 hts gX4_workerOf_X4_requireKey rfl rfl rfl (by decide +kernel) ⟨Nat.le_of_ble_eq_true rfl, Nat.le_of_ble_eq_true rfl⟩) rfl hl rfl (Nat.le_of_ble_eq_true rfl) (by decide) dX4_workerOf_1 (fun S1 H locs hp1 hR => ?_)
  subst S1
  refine lv_aload_n hx hb dX4_workerOf_4 rfl (lv_at hl 0 rfl) ?_
  refine lv_iload_n hx hb dX4_workerOf_5 rfl (lv_at hl 1 rfl) ?_
  refine z_callV_i (As := [.int (nI (key))]) (rest := []) (w := wX cI cZ ad) ⟨hx, hb, hml, hown, hts⟩ hF hR (c_X4_ownerOfKey hG S key hO (by omega)) (cwV 1 hts gX4_workerOf_X4_ownerOfKey rfl rfl rfl (by decide +kernel) ⟨Nat.le_of_ble_eq_true rfl, Nat.le_of_ble_eq_true rfl⟩) (wX_c0 S) rfl rfl rfl hl rfl (Nat.le_of_ble_eq_true rfl) (by decide) dX4_workerOf_6 (fun r2 S2 H locs hp2 hR => ?_)
  obtain ⟨hr2, hs2⟩ := hp2
  subst r2
  subst S2
  exact z_iret (w := wX cI cZ ad) (S1 := S) hx hb hr hlk hF hR dX4_workerOf_9 (⟨rfl, rfl⟩)
set_option maxHeartbeats 4000000 in
set_option maxRecDepth 100000 in
theorem c_X4_count_e1 {l : Launch} {D : va_G} {cI cZ : ClassId} {ad : Nat → Nat} {B : Nat → Prop} (hG : ∀ S : zS, va_D B (wX cI cZ ad S)) (hfl : l.stackTraces = false) (S : zS) (x : Int32) (hO : zOK S) (hxb : zbad x 32) : zMXi l yX4_count wsX4_count ({ frames := 7, cells := 1, slots := 6, locals := 102 } : Room) [.ref (ad 0), .int (x)] D (zT cI cZ) B (wX cI cZ ad) S (fun (_ : Int32) (_ : zS) => False) (fun E => E = zIO) := by
  refine zMXi_of (cc := cX4_count) (maxL := 2) (ret := (some .int)) (by decide) rfl (Nat.le_of_ble_eq_true rfl) ?_
  intro pg en s mm below meth cd hx hb hr hml hown hts hlk hex hF hR ls hl
  have hinX3 : ∀ w ∈ wsX30, w ∈ wsX4_count := by decide +kernel
  have hinX4 : ∀ w ∈ wsX40, w ∈ wsX4_count := by decide +kernel
  have hl : lv_has ls 2 [(0, .ref (ad 0)), (1, .int (x))] := hl
  refine lv_iload_n hx hb dX4_count_0 rfl (lv_at hl 1 rfl) ?_
  exact z_badS (As := [.int (x)]) (rest := []) (w := wX cI cZ ad) ⟨hx, hb, hml, hown, hts⟩ hlk hex hF hR (c_X4_requireKey_bad hG hfl S ((x)) hxb) (va_cwS 1 hts gX4_count_X4_requireKey rfl rfl rfl (by decide +kernel) ⟨Nat.le_of_ble_eq_true rfl, Nat.le_of_ble_eq_true rfl⟩) rfl hl rfl (Nat.le_of_ble_eq_true rfl) (by decide) dX4_count_1 (fun E h => h)
set_option maxHeartbeats 4000000 in
set_option maxRecDepth 100000 in
theorem c_X4_count_ok {l : Launch} {D : va_G} {cI cZ : ClassId} {ad : Nat → Nat} {B : Nat → Prop} (hG : ∀ S : zS, va_D B (wX cI cZ ad S)) (S : zS) (key : Nat) (hO : zOK S) (hk : key < 32) : zMi l yX4_count wsX4_count ({ frames := 7, cells := 0, slots := 0, locals := 102 } : Room) [.ref (ad 0), .int (nI (key))] D (zT cI cZ) B (wX cI cZ ad) S (fun (r : Int32) (S1 : zS) => r = (S 9 key) ∧ S1 = S) := by
  refine zMi_of (cc := cX4_count) (maxL := 2) (ret := (some .int)) (by decide) rfl (Nat.le_of_ble_eq_true rfl) ?_
  intro pg en s mm below meth cd hx hb hr hml hown hts hlk hF hR ls hl
  have hinX3 : ∀ w ∈ wsX30, w ∈ wsX4_count := by decide +kernel
  have hinX4 : ∀ w ∈ wsX40, w ∈ wsX4_count := by decide +kernel
  have hl : lv_has ls 2 [(0, .ref (ad 0)), (1, .int (nI (key)))] := hl
  refine lv_iload_n hx hb dX4_count_0 rfl (lv_at hl 1 rfl) ?_
  refine z_callS_v (As := [.int (nI (key))]) (rest := []) (w := wX cI cZ ad) ⟨hx, hb, hml, hown, hts⟩ hF hR (c_X4_requireKey_ok hG S key (by omega)) (va_cwS 1 hts gX4_count_X4_requireKey rfl rfl rfl (by decide +kernel) ⟨Nat.le_of_ble_eq_true rfl, Nat.le_of_ble_eq_true rfl⟩) rfl hl rfl (Nat.le_of_ble_eq_true rfl) (by decide) dX4_count_1 (fun S1 H locs hp1 hR => ?_)
  subst S1
  refine lv_aload_n hx hb dX4_count_4 rfl (lv_at hl 0 rfl) ?_
  refine z_get (own := RX4) (C := RX4) (T := TX4) (N := 14) (k := 3) (v := .ref (ad 13)) hx hb hts hinX4 hown hF hR (wX_c0 S) rfl (by decide) (by decide +kernel) rfl rfl dX4_count_5 ?_
  refine z_get (own := RX4) (C := RX3) (T := TX3) (N := 2) (k := 0) (v := .ref (ad 14)) hx hb hts hinX3 hown hF hR (wX_c13 S) rfl (by decide) (by decide +kernel) rfl rfl dX4_count_8 ?_
  refine lv_iload_n hx hb dX4_count_11 rfl (lv_at hl 1 rfl) ?_
  refine z_iald_n (f := S 9) hx hb hF hR (wX_c14 S) zT_0 dX4_count_12 (by decide) (by omega) ?_
  exact z_iret (w := wX cI cZ ad) (S1 := S) hx hb hr hlk hF hR dX4_count_13 (⟨rfl, rfl⟩)
set_option maxHeartbeats 4000000 in
set_option maxRecDepth 100000 in
theorem c_X4_sum_e1 {l : Launch} {D : va_G} {cI cZ : ClassId} {ad : Nat → Nat} {B : Nat → Prop} (hG : ∀ S : zS, va_D B (wX cI cZ ad S)) (hfl : l.stackTraces = false) (S : zS) (x : Int32) (hO : zOK S) (hxb : zbad x 32) : zMXi l yX4_sum wsX4_sum ({ frames := 7, cells := 1, slots := 6, locals := 102 } : Room) [.ref (ad 0), .int (x)] D (zT cI cZ) B (wX cI cZ ad) S (fun (_ : Int32) (_ : zS) => False) (fun E => E = zIO) := by
  refine zMXi_of (cc := cX4_sum) (maxL := 2) (ret := (some .int)) (by decide) rfl (Nat.le_of_ble_eq_true rfl) ?_
  intro pg en s mm below meth cd hx hb hr hml hown hts hlk hex hF hR ls hl
  have hinX3 : ∀ w ∈ wsX30, w ∈ wsX4_sum := by decide +kernel
  have hinX4 : ∀ w ∈ wsX40, w ∈ wsX4_sum := by decide +kernel
  have hl : lv_has ls 2 [(0, .ref (ad 0)), (1, .int (x))] := hl
  refine lv_iload_n hx hb dX4_sum_0 rfl (lv_at hl 1 rfl) ?_
  exact z_badS (As := [.int (x)]) (rest := []) (w := wX cI cZ ad) ⟨hx, hb, hml, hown, hts⟩ hlk hex hF hR (c_X4_requireKey_bad hG hfl S ((x)) hxb) (va_cwS 1 hts gX4_sum_X4_requireKey rfl rfl rfl (by decide +kernel) ⟨Nat.le_of_ble_eq_true rfl, Nat.le_of_ble_eq_true rfl⟩) rfl hl rfl (Nat.le_of_ble_eq_true rfl) (by decide) dX4_sum_1 (fun E h => h)
set_option maxHeartbeats 4000000 in
set_option maxRecDepth 100000 in
theorem c_X4_sum_ok {l : Launch} {D : va_G} {cI cZ : ClassId} {ad : Nat → Nat} {B : Nat → Prop} (hG : ∀ S : zS, va_D B (wX cI cZ ad S)) (S : zS) (key : Nat) (hO : zOK S) (hk : key < 32) : zMi l yX4_sum wsX4_sum ({ frames := 7, cells := 0, slots := 0, locals := 102 } : Room) [.ref (ad 0), .int (nI (key))] D (zT cI cZ) B (wX cI cZ ad) S (fun (r : Int32) (S1 : zS) => r = (S 10 key) ∧ S1 = S) := by
  refine zMi_of (cc := cX4_sum) (maxL := 2) (ret := (some .int)) (by decide) rfl (Nat.le_of_ble_eq_true rfl) ?_
  intro pg en s mm below meth cd hx hb hr hml hown hts hlk hF hR ls hl
  have hinX3 : ∀ w ∈ wsX30, w ∈ wsX4_sum := by decide +kernel
  have hinX4 : ∀ w ∈ wsX40, w ∈ wsX4_sum := by decide +kernel
  have hl : lv_has ls 2 [(0, .ref (ad 0)), (1, .int (nI (key)))] := hl
  refine lv_iload_n hx hb dX4_sum_0 rfl (lv_at hl 1 rfl) ?_
  refine z_callS_v (As := [.int (nI (key))]) (rest := []) (w := wX cI cZ ad) ⟨hx, hb, hml, hown, hts⟩ hF hR (c_X4_requireKey_ok hG S key (by omega)) (va_cwS 1 hts gX4_sum_X4_requireKey rfl rfl rfl (by decide +kernel) ⟨Nat.le_of_ble_eq_true rfl, Nat.le_of_ble_eq_true rfl⟩) rfl hl rfl (Nat.le_of_ble_eq_true rfl) (by decide) dX4_sum_1 (fun S1 H locs hp1 hR => ?_)
  subst S1
  refine lv_aload_n hx hb dX4_sum_4 rfl (lv_at hl 0 rfl) ?_
  refine z_get (own := RX4) (C := RX4) (T := TX4) (N := 14) (k := 3) (v := .ref (ad 13)) hx hb hts hinX4 hown hF hR (wX_c0 S) rfl (by decide) (by decide +kernel) rfl rfl dX4_sum_5 ?_
  refine z_get (own := RX4) (C := RX3) (T := TX3) (N := 2) (k := 1) (v := .ref (ad 15)) hx hb hts hinX3 hown hF hR (wX_c13 S) rfl (by decide) (by decide +kernel) rfl rfl dX4_sum_8 ?_
  refine lv_iload_n hx hb dX4_sum_11 rfl (lv_at hl 1 rfl) ?_
  refine z_iald_n (f := S 10) hx hb hF hR (wX_c15 S) zT_0 dX4_sum_12 (by decide) (by omega) ?_
  exact z_iret (w := wX cI cZ ad) (S1 := S) hx hb hr hlk hF hR dX4_sum_13 (⟨rfl, rfl⟩)
set_option maxHeartbeats 4000000 in
set_option maxRecDepth 100000 in
theorem c_X4_keptSum_e1 {l : Launch} {D : va_G} {cI cZ : ClassId} {ad : Nat → Nat} {B : Nat → Prop} (hG : ∀ S : zS, va_D B (wX cI cZ ad S)) (hfl : l.stackTraces = false) (S : zS) (x : Int32) (hO : zOK S) (hxb : zbad x 32) : zMXi l yX4_keptSum wsX4_keptSum ({ frames := 7, cells := 1, slots := 6, locals := 102 } : Room) [.ref (ad 0), .int (x)] D (zT cI cZ) B (wX cI cZ ad) S (fun (_ : Int32) (_ : zS) => False) (fun E => E = zIO) := by
  refine zMXi_of (cc := cX4_keptSum) (maxL := 2) (ret := (some .int)) (by decide) rfl (Nat.le_of_ble_eq_true rfl) ?_
  intro pg en s mm below meth cd hx hb hr hml hown hts hlk hex hF hR ls hl
  have hinX3 : ∀ w ∈ wsX30, w ∈ wsX4_keptSum := by decide +kernel
  have hinX4 : ∀ w ∈ wsX40, w ∈ wsX4_keptSum := by decide +kernel
  have hl : lv_has ls 2 [(0, .ref (ad 0)), (1, .int (x))] := hl
  refine lv_iload_n hx hb dX4_keptSum_0 rfl (lv_at hl 1 rfl) ?_
  exact z_badS (As := [.int (x)]) (rest := []) (w := wX cI cZ ad) ⟨hx, hb, hml, hown, hts⟩ hlk hex hF hR (c_X4_requireKey_bad hG hfl S ((x)) hxb) (va_cwS 1 hts gX4_keptSum_X4_requireKey rfl rfl rfl (by decide +kernel) ⟨Nat.le_of_ble_eq_true rfl, Nat.le_of_ble_eq_true rfl⟩) rfl hl rfl (Nat.le_of_ble_eq_true rfl) (by decide) dX4_keptSum_1 (fun E h => h)
set_option maxHeartbeats 4000000 in
set_option maxRecDepth 100000 in
theorem c_X4_keptSum_ok {l : Launch} {D : va_G} {cI cZ : ClassId} {ad : Nat → Nat} {B : Nat → Prop} (hG : ∀ S : zS, va_D B (wX cI cZ ad S)) (S : zS) (key : Nat) (hO : zOK S) (hk : key < 32) : zMi l yX4_keptSum wsX4_keptSum ({ frames := 7, cells := 0, slots := 0, locals := 102 } : Room) [.ref (ad 0), .int (nI (key))] D (zT cI cZ) B (wX cI cZ ad) S (fun (r : Int32) (S1 : zS) => r = (S 18 key) ∧ S1 = S) := by
  refine zMi_of (cc := cX4_keptSum) (maxL := 2) (ret := (some .int)) (by decide) rfl (Nat.le_of_ble_eq_true rfl) ?_
  intro pg en s mm below meth cd hx hb hr hml hown hts hlk hF hR ls hl
  have hinX3 : ∀ w ∈ wsX30, w ∈ wsX4_keptSum := by decide +kernel
  have hinX4 : ∀ w ∈ wsX40, w ∈ wsX4_keptSum := by decide +kernel
  have hl : lv_has ls 2 [(0, .ref (ad 0)), (1, .int (nI (key)))] := hl
  refine lv_iload_n hx hb dX4_keptSum_0 rfl (lv_at hl 1 rfl) ?_
  refine z_callS_v (As := [.int (nI (key))]) (rest := []) (w := wX cI cZ ad) ⟨hx, hb, hml, hown, hts⟩ hF hR (c_X4_requireKey_ok hG S key (by omega)) (va_cwS 1 hts gX4_keptSum_X4_requireKey rfl rfl rfl (by decide +kernel) ⟨Nat.le_of_ble_eq_true rfl, Nat.le_of_ble_eq_true rfl⟩) rfl hl rfl (Nat.le_of_ble_eq_true rfl) (by decide) dX4_keptSum_1 (fun S1 H locs hp1 hR => ?_)
  subst S1
  refine lv_aload_n hx hb dX4_keptSum_4 rfl (lv_at hl 0 rfl) ?_
  refine z_get (own := RX4) (C := RX4) (T := TX4) (N := 14) (k := 7) (v := .ref (ad 25)) hx hb hts hinX4 hown hF hR (wX_c0 S) rfl (by decide) (by decide +kernel) rfl rfl dX4_keptSum_5 ?_
  refine z_get (own := RX4) (C := RX3) (T := TX3) (N := 2) (k := 1) (v := .ref (ad 27)) hx hb hts hinX3 hown hF hR (wX_c25 S) rfl (by decide) (by decide +kernel) rfl rfl dX4_keptSum_8 ?_
  refine lv_iload_n hx hb dX4_keptSum_11 rfl (lv_at hl 1 rfl) ?_
  refine z_iald_n (f := S 18) hx hb hF hR (wX_c27 S) zT_0 dX4_keptSum_12 (by decide) (by omega) ?_
  exact z_iret (w := wX cI cZ ad) (S1 := S) hx hb hr hlk hF hR dX4_keptSum_13 (⟨rfl, rfl⟩)
set_option maxHeartbeats 4000000 in
set_option maxRecDepth 100000 in
theorem c_X4_committedCount_e1 {l : Launch} {D : va_G} {cI cZ : ClassId} {ad : Nat → Nat} {B : Nat → Prop} (hG : ∀ S : zS, va_D B (wX cI cZ ad S)) (hfl : l.stackTraces = false) (S : zS) (x : Int32) (hO : zOK S) (hxb : zbad x 32) : zMXi l yX4_committedCount wsX4_committedCount ({ frames := 7, cells := 1, slots := 6, locals := 102 } : Room) [.ref (ad 0), .int (x)] D (zT cI cZ) B (wX cI cZ ad) S (fun (_ : Int32) (_ : zS) => False) (fun E => E = zIO) := by
  refine zMXi_of (cc := cX4_committedCount) (maxL := 2) (ret := (some .int)) (by decide) rfl (Nat.le_of_ble_eq_true rfl) ?_
  intro pg en s mm below meth cd hx hb hr hml hown hts hlk hex hF hR ls hl
  have hinX3 : ∀ w ∈ wsX30, w ∈ wsX4_committedCount := by decide +kernel
  have hinX4 : ∀ w ∈ wsX40, w ∈ wsX4_committedCount := by decide +kernel
  have hl : lv_has ls 2 [(0, .ref (ad 0)), (1, .int (x))] := hl
  refine lv_iload_n hx hb dX4_committedCount_0 rfl (lv_at hl 1 rfl) ?_
  exact z_badS (As := [.int (x)]) (rest := []) (w := wX cI cZ ad) ⟨hx, hb, hml, hown, hts⟩ hlk hex hF hR (c_X4_requireKey_bad hG hfl S ((x)) hxb) (va_cwS 1 hts gX4_committedCount_X4_requireKey rfl rfl rfl (by decide +kernel) ⟨Nat.le_of_ble_eq_true rfl, Nat.le_of_ble_eq_true rfl⟩) rfl hl rfl (Nat.le_of_ble_eq_true rfl) (by decide) dX4_committedCount_1 (fun E h => h)
set_option maxHeartbeats 4000000 in
set_option maxRecDepth 100000 in
theorem c_X4_committedCount_ok {l : Launch} {D : va_G} {cI cZ : ClassId} {ad : Nat → Nat} {B : Nat → Prop} (hG : ∀ S : zS, va_D B (wX cI cZ ad S)) (S : zS) (key : Nat) (hO : zOK S) (hk : key < 32) : zMi l yX4_committedCount wsX4_committedCount ({ frames := 7, cells := 0, slots := 0, locals := 102 } : Room) [.ref (ad 0), .int (nI (key))] D (zT cI cZ) B (wX cI cZ ad) S (fun (r : Int32) (S1 : zS) => r = (S 19 key) ∧ S1 = S) := by
  refine zMi_of (cc := cX4_committedCount) (maxL := 2) (ret := (some .int)) (by decide) rfl (Nat.le_of_ble_eq_true rfl) ?_
  intro pg en s mm below meth cd hx hb hr hml hown hts hlk hF hR ls hl
  have hinX3 : ∀ w ∈ wsX30, w ∈ wsX4_committedCount := by decide +kernel
  have hinX4 : ∀ w ∈ wsX40, w ∈ wsX4_committedCount := by decide +kernel
  have hl : lv_has ls 2 [(0, .ref (ad 0)), (1, .int (nI (key)))] := hl
  refine lv_iload_n hx hb dX4_committedCount_0 rfl (lv_at hl 1 rfl) ?_
  refine z_callS_v (As := [.int (nI (key))]) (rest := []) (w := wX cI cZ ad) ⟨hx, hb, hml, hown, hts⟩ hF hR (c_X4_requireKey_ok hG S key (by omega)) (va_cwS 1 hts gX4_committedCount_X4_requireKey rfl rfl rfl (by decide +kernel) ⟨Nat.le_of_ble_eq_true rfl, Nat.le_of_ble_eq_true rfl⟩) rfl hl rfl (Nat.le_of_ble_eq_true rfl) (by decide) dX4_committedCount_1 (fun S1 H locs hp1 hR => ?_)
  subst S1
  refine lv_aload_n hx hb dX4_committedCount_4 rfl (lv_at hl 0 rfl) ?_
  refine z_get (own := RX4) (C := RX4) (T := TX4) (N := 14) (k := 8) (v := .ref (ad 28)) hx hb hts hinX4 hown hF hR (wX_c0 S) rfl (by decide) (by decide +kernel) rfl rfl dX4_committedCount_5 ?_
  refine z_get (own := RX4) (C := RX3) (T := TX3) (N := 2) (k := 0) (v := .ref (ad 29)) hx hb hts hinX3 hown hF hR (wX_c28 S) rfl (by decide) (by decide +kernel) rfl rfl dX4_committedCount_8 ?_
  refine lv_iload_n hx hb dX4_committedCount_11 rfl (lv_at hl 1 rfl) ?_
  refine z_iald_n (f := S 19) hx hb hF hR (wX_c29 S) zT_0 dX4_committedCount_12 (by decide) (by omega) ?_
  exact z_iret (w := wX cI cZ ad) (S1 := S) hx hb hr hlk hF hR dX4_committedCount_13 (⟨rfl, rfl⟩)
set_option maxHeartbeats 4000000 in
set_option maxRecDepth 100000 in
theorem c_X4_committedSum_e1 {l : Launch} {D : va_G} {cI cZ : ClassId} {ad : Nat → Nat} {B : Nat → Prop} (hG : ∀ S : zS, va_D B (wX cI cZ ad S)) (hfl : l.stackTraces = false) (S : zS) (x : Int32) (hO : zOK S) (hxb : zbad x 32) : zMXi l yX4_committedSum wsX4_committedSum ({ frames := 7, cells := 1, slots := 6, locals := 102 } : Room) [.ref (ad 0), .int (x)] D (zT cI cZ) B (wX cI cZ ad) S (fun (_ : Int32) (_ : zS) => False) (fun E => E = zIO) := by
  refine zMXi_of (cc := cX4_committedSum) (maxL := 2) (ret := (some .int)) (by decide) rfl (Nat.le_of_ble_eq_true rfl) ?_
  intro pg en s mm below meth cd hx hb hr hml hown hts hlk hex hF hR ls hl
  have hinX3 : ∀ w ∈ wsX30, w ∈ wsX4_committedSum := by decide +kernel
  have hinX4 : ∀ w ∈ wsX40, w ∈ wsX4_committedSum := by decide +kernel
  have hl : lv_has ls 2 [(0, .ref (ad 0)), (1, .int (x))] := hl
  refine lv_iload_n hx hb dX4_committedSum_0 rfl (lv_at hl 1 rfl) ?_
  exact z_badS (As := [.int (x)]) (rest := []) (w := wX cI cZ ad) ⟨hx, hb, hml, hown, hts⟩ hlk hex hF hR (c_X4_requireKey_bad hG hfl S ((x)) hxb) (va_cwS 1 hts gX4_committedSum_X4_requireKey rfl rfl rfl (by decide +kernel) ⟨Nat.le_of_ble_eq_true rfl, Nat.le_of_ble_eq_true rfl⟩) rfl hl rfl (Nat.le_of_ble_eq_true rfl) (by decide) dX4_committedSum_1 (fun E h => h)
set_option maxHeartbeats 4000000 in
set_option maxRecDepth 100000 in
theorem c_X4_committedSum_ok {l : Launch} {D : va_G} {cI cZ : ClassId} {ad : Nat → Nat} {B : Nat → Prop} (hG : ∀ S : zS, va_D B (wX cI cZ ad S)) (S : zS) (key : Nat) (hO : zOK S) (hk : key < 32) : zMi l yX4_committedSum wsX4_committedSum ({ frames := 7, cells := 0, slots := 0, locals := 102 } : Room) [.ref (ad 0), .int (nI (key))] D (zT cI cZ) B (wX cI cZ ad) S (fun (r : Int32) (S1 : zS) => r = (S 20 key) ∧ S1 = S) := by
  refine zMi_of (cc := cX4_committedSum) (maxL := 2) (ret := (some .int)) (by decide) rfl (Nat.le_of_ble_eq_true rfl) ?_
  intro pg en s mm below meth cd hx hb hr hml hown hts hlk hF hR ls hl
  have hinX3 : ∀ w ∈ wsX30, w ∈ wsX4_committedSum := by decide +kernel
  have hinX4 : ∀ w ∈ wsX40, w ∈ wsX4_committedSum := by decide +kernel
  have hl : lv_has ls 2 [(0, .ref (ad 0)), (1, .int (nI (key)))] := hl
  refine lv_iload_n hx hb dX4_committedSum_0 rfl (lv_at hl 1 rfl) ?_
  refine z_callS_v (As := [.int (nI (key))]) (rest := []) (w := wX cI cZ ad) ⟨hx, hb, hml, hown, hts⟩ hF hR (c_X4_requireKey_ok hG S key (by omega)) (va_cwS 1 hts gX4_committedSum_X4_requireKey rfl rfl rfl (by decide +kernel) ⟨Nat.le_of_ble_eq_true rfl, Nat.le_of_ble_eq_true rfl⟩) rfl hl rfl (Nat.le_of_ble_eq_true rfl) (by decide) dX4_committedSum_1 (fun S1 H locs hp1 hR => ?_)
  subst S1
  refine lv_aload_n hx hb dX4_committedSum_4 rfl (lv_at hl 0 rfl) ?_
  refine z_get (own := RX4) (C := RX4) (T := TX4) (N := 14) (k := 8) (v := .ref (ad 28)) hx hb hts hinX4 hown hF hR (wX_c0 S) rfl (by decide) (by decide +kernel) rfl rfl dX4_committedSum_5 ?_
  refine z_get (own := RX4) (C := RX3) (T := TX3) (N := 2) (k := 1) (v := .ref (ad 30)) hx hb hts hinX3 hown hF hR (wX_c28 S) rfl (by decide) (by decide +kernel) rfl rfl dX4_committedSum_8 ?_
  refine lv_iload_n hx hb dX4_committedSum_11 rfl (lv_at hl 1 rfl) ?_
  refine z_iald_n (f := S 20) hx hb hF hR (wX_c30 S) zT_0 dX4_committedSum_12 (by decide) (by omega) ?_
  exact z_iret (w := wX cI cZ ad) (S1 := S) hx hb hr hlk hF hR dX4_committedSum_13 (⟨rfl, rfl⟩)
set_option maxHeartbeats 4000000 in
set_option maxRecDepth 100000 in
theorem c_X4_sumInChannels_e1 {l : Launch} {D : va_G} {cI cZ : ClassId} {ad : Nat → Nat} {B : Nat → Prop} (hG : ∀ S : zS, va_D B (wX cI cZ ad S)) (hfl : l.stackTraces = false) (S : zS) (x : Int32) (hO : zOK S) (hxb : zbad x 32) : zMXi l yX4_sumInChannels wsX4_sumInChannels ({ frames := 7, cells := 1, slots := 6, locals := 102 } : Room) [.ref (ad 0), .int (x)] D (zT cI cZ) B (wX cI cZ ad) S (fun (_ : Int32) (_ : zS) => False) (fun E => E = zIO) := by
  refine zMXi_of (cc := cX4_sumInChannels) (maxL := 2) (ret := (some .int)) (by decide) rfl (Nat.le_of_ble_eq_true rfl) ?_
  intro pg en s mm below meth cd hx hb hr hml hown hts hlk hex hF hR ls hl
  have hinX4 : ∀ w ∈ wsX40, w ∈ wsX4_sumInChannels := by decide +kernel
  have hl : lv_has ls 2 [(0, .ref (ad 0)), (1, .int (x))] := hl
  refine lv_iload_n hx hb dX4_sumInChannels_0 rfl (lv_at hl 1 rfl) ?_
  exact z_badS (As := [.int (x)]) (rest := []) (w := wX cI cZ ad) ⟨hx, hb, hml, hown, hts⟩ hlk hex hF hR (c_X4_requireKey_bad hG hfl S ((x)) hxb) (va_cwS 1 hts gX4_sumInChannels_X4_requireKey rfl rfl rfl (by decide +kernel) ⟨Nat.le_of_ble_eq_true rfl, Nat.le_of_ble_eq_true rfl⟩) rfl hl rfl (Nat.le_of_ble_eq_true rfl) (by decide) dX4_sumInChannels_1 (fun E h => h)
set_option maxHeartbeats 4000000 in
set_option maxRecDepth 100000 in
theorem c_X4_sumInChannels_ok {l : Launch} {D : va_G} {cI cZ : ClassId} {ad : Nat → Nat} {B : Nat → Prop} (hG : ∀ S : zS, va_D B (wX cI cZ ad S)) (S : zS) (key : Nat) (hO : zOK S) (hk : key < 32) : zMi l yX4_sumInChannels wsX4_sumInChannels ({ frames := 7, cells := 0, slots := 0, locals := 102 } : Room) [.ref (ad 0), .int (nI (key))] D (zT cI cZ) B (wX cI cZ ad) S (fun (r : Int32) (S1 : zS) => r = (sp_sc S key 16) ∧ S1 = S) := by
  refine zMi_of (cc := cX4_sumInChannels) (maxL := 2) (ret := (some .int)) (by decide) rfl (Nat.le_of_ble_eq_true rfl) ?_
  intro pg en s mm below meth cd hx hb hr hml hown hts hlk hF hR ls hl
  have hinX4 : ∀ w ∈ wsX40, w ∈ wsX4_sumInChannels := by decide +kernel
  have hl : lv_has ls 2 [(0, .ref (ad 0)), (1, .int (nI (key)))] := hl
  refine lv_iload_n hx hb dX4_sumInChannels_0 rfl (lv_at hl 1 rfl) ?_
  refine z_callS_v (As := [.int (nI (key))]) (rest := []) (w := wX cI cZ ad) ⟨hx, hb, hml, hown, hts⟩ hF hR (c_X4_requireKey_ok hG S key (by omega)) (va_cwS 1 hts gX4_sumInChannels_X4_requireKey rfl rfl rfl (by decide +kernel) ⟨Nat.le_of_ble_eq_true rfl, Nat.le_of_ble_eq_true rfl⟩) rfl hl rfl (Nat.le_of_ble_eq_true rfl) (by decide) dX4_sumInChannels_1 (fun S1 H locs hp1 hR => ?_)
  subst S1
  refine lv_aload_n hx hb dX4_sumInChannels_4 rfl (lv_at hl 0 rfl) ?_
  refine z_get (own := RX4) (C := RX4) (T := TX4) (N := 14) (k := 2) (v := .ref (ad 9)) hx hb hts hinX4 hown hF hR (wX_c0 S) rfl (by decide) (by decide +kernel) rfl rfl dX4_sumInChannels_5 ?_
  refine lv_iload_n hx hb dX4_sumInChannels_8 rfl (lv_at hl 1 rfl) ?_
  refine z_callV_i (As := [.int (nI (key))]) (rest := []) (w := wX cI cZ ad) ⟨hx, hb, hml, hown, hts⟩ hF hR (c_X0_sumOfKey hG S key hO (by omega)) (cwV 1 hts gX4_sumInChannels_X0_sumOfKey rfl rfl rfl (by decide +kernel) ⟨Nat.le_of_ble_eq_true rfl, Nat.le_of_ble_eq_true rfl⟩) (wX_c9 S) rfl rfl rfl hl rfl (Nat.le_of_ble_eq_true rfl) (by decide) dX4_sumInChannels_9 (fun r2 S2 H locs hp2 hR => ?_)
  obtain ⟨hr2, hs2⟩ := hp2
  subst r2
  subst S2
  exact z_iret (w := wX cI cZ ad) (S1 := S) hx hb hr hlk hF hR dX4_sumInChannels_12 (⟨rfl, rfl⟩)
set_option maxHeartbeats 4000000 in
set_option maxRecDepth 100000 in
theorem c_X4_readSum_e1 {l : Launch} {D : va_G} {cI cZ : ClassId} {ad : Nat → Nat} {B : Nat → Prop} (hG : ∀ S : zS, va_D B (wX cI cZ ad S)) (hfl : l.stackTraces = false) (S : zS) (x : Int32) (hO : zOK S) (hxb : zbad x 32) : zMXi l yX4_readSum wsX4_readSum ({ frames := 7, cells := 1, slots := 6, locals := 102 } : Room) [.ref (ad 0), .int (x)] D (zT cI cZ) B (wX cI cZ ad) S (fun (_ : Int32) (_ : zS) => False) (fun E => E = zIO) := by
  refine zMXi_of (cc := cX4_readSum) (maxL := 4) (ret := (some .int)) (by decide) rfl (Nat.le_of_ble_eq_true rfl) ?_
  intro pg en s mm below meth cd hx hb hr hml hown hts hlk hex hF hR ls hl
  have hinX2 : ∀ w ∈ wsX20, w ∈ wsX4_readSum := by decide +kernel
  have hinX4 : ∀ w ∈ wsX40, w ∈ wsX4_readSum := by decide +kernel
  have hl : lv_has ls 4 [(0, .ref (ad 0)), (1, .int (x))] := hl
  refine lv_iload_n hx hb dX4_readSum_0 rfl (lv_at hl 1 rfl) ?_
  exact z_badS (As := [.int (x)]) (rest := []) (w := wX cI cZ ad) ⟨hx, hb, hml, hown, hts⟩ hlk hex hF hR (c_X4_requireKey_bad hG hfl S ((x)) hxb) (va_cwS 1 hts gX4_readSum_X4_requireKey rfl rfl rfl (by decide +kernel) ⟨Nat.le_of_ble_eq_true rfl, Nat.le_of_ble_eq_true rfl⟩) rfl hl rfl (Nat.le_of_ble_eq_true rfl) (by decide) dX4_readSum_1 (fun E h => h)
set_option maxHeartbeats 4000000 in
set_option maxRecDepth 100000 in
theorem c_X4_readSum_ok {l : Launch} {D : va_G} {cI cZ : ClassId} {ad : Nat → Nat} {B : Nat → Prop} (hG : ∀ S : zS, va_D B (wX cI cZ ad S)) (S : zS) (key : Nat) (hO : zOK S) (hk : key < 32) : zMi l yX4_readSum wsX4_readSum ({ frames := 7, cells := 0, slots := 0, locals := 102 } : Room) [.ref (ad 0), .int (nI (key))] D (zT cI cZ) B (wX cI cZ ad) S (fun (r : Int32) (S1 : zS) => r = (sp_rs S key 4) ∧ S1 = S) := by
  refine zMi_of (cc := cX4_readSum) (maxL := 4) (ret := (some .int)) (by decide) rfl (Nat.le_of_ble_eq_true rfl) ?_
  intro pg en s mm below meth cd hx hb hr hml hown hts hlk hF hR ls hl
  have hinX2 : ∀ w ∈ wsX20, w ∈ wsX4_readSum := by decide +kernel
  have hinX4 : ∀ w ∈ wsX40, w ∈ wsX4_readSum := by decide +kernel
  have hl : lv_has ls 4 [(0, .ref (ad 0)), (1, .int (nI (key)))] := hl
  refine lv_iload_n hx hb dX4_readSum_0 rfl (lv_at hl 1 rfl) ?_
  refine z_callS_v (As := [.int (nI (key))]) (rest := []) (w := wX cI cZ ad) ⟨hx, hb, hml, hown, hts⟩ hF hR (c_X4_requireKey_ok hG S key (by omega)) (va_cwS 1 hts gX4_readSum_X4_requireKey rfl rfl rfl (by decide +kernel) ⟨Nat.le_of_ble_eq_true rfl, Nat.le_of_ble_eq_true rfl⟩) rfl hl rfl (Nat.le_of_ble_eq_true rfl) (by decide) dX4_readSum_1 (fun S1 H locs hp1 hR => ?_)
  subst S1
  refine lv_iconst (v := (nI (0))) hx hb dX4_readSum_4 (by decide) ?_
  refine lv_istore_n (lv' := [(2, .int (nI (0))), (0, .ref (ad 0)), (1, .int (nI (key)))]) hx hb dX4_readSum_5 rfl hl (by decide) rfl (fun ls hl => ?_)
  refine lv_iconst (v := (nI (0))) hx hb dX4_readSum_6 (by decide) ?_
  refine lv_istore_n (lv' := [(3, .int (nI (0))), (2, .int (nI (0))), (0, .ref (ad 0)), (1, .int (nI (key)))]) hx hb dX4_readSum_7 rfl hl (by decide) rfl (fun ls hl => ?_)
  have loop8 : ∀ (nf8 : Nat) (k : Nat), (k ≤ 4) → 4 - k < nf8 → ∀ (H : Heap) (locs : List Loc), zR D B (wX cI cZ ad S) s H locs → ∀ ls : Array Slot, lv_has ls 4 [(0, .ref (ad 0)), (1, .int (nI (key))), (2, .int (sp_rs S key k)), (3, .int (nI (k)))] → W pg l en ({ frames := 7, cells := 0, slots := 0, locals := 102 } : Room) s mm ([.ref (ad 0), .int (nI (key))] : List Value).toArray below meth cd H locs 0 0 (MQ below (va_Qi (fun (r : Int32) (S1 : zS) => r = (sp_rs S key 4) ∧ S1 = S) (zB D (zT cI cZ) (wX cI cZ ad)) (zA B s.heap.size)) ([.ref (ad 0), .int (nI (key))] : List Value).toArray s 0 0 (zA B s.heap.size)) (F0 mm 8 ls []) := by
    intro nf8
    induction nf8 with
    | zero => intro k hk4 hn; exact absurd hn (Nat.not_lt_zero _)
    | succ nf8 ih8 =>
      intro k hk4 hn H locs hR ls hl
      refine lv_iload_n hx hb dX4_readSum_8 rfl (lv_at hl 3 rfl) ?_
      refine lv_iconst (v := (nI (4))) hx hb dX4_readSum_9 (by decide) ?_
      refine z_ge_n (tgt := 40) hx hb dX4_readSum_10 (by decide) (by omega) (by omega) (fun h10_2 => ?_) (fun h10_2 => ?_)
      · skip
        refine lv_iload_n hx hb dX4_readSum_40 rfl (lv_at hl 2 rfl) ?_
        exact z_iret (w := wX cI cZ ad) (S1 := S) hx hb hr hlk hF hR dX4_readSum_41 (⟨by rw [show (4 : Nat) = k from by omega], rfl⟩)
      · skip
        refine lv_iload_n hx hb dX4_readSum_13 rfl (lv_at hl 2 rfl) ?_
        refine lv_aload_n hx hb dX4_readSum_14 rfl (lv_at hl 0 rfl) ?_
        refine z_get (own := RX4) (C := RX4) (T := TX4) (N := 14) (k := 0) (v := .ref (ad 1)) hx hb hts hinX4 hown hF hR (wX_c0 S) rfl (by decide) (by decide +kernel) rfl rfl dX4_readSum_15 ?_
        refine lv_iload_n hx hb dX4_readSum_18 rfl (lv_at hl 3 rfl) ?_
        refine lv_aload_n hx hb dX4_readSum_19 rfl (lv_at hl 0 rfl) ?_
        refine z_get (own := RX4) (C := RX4) (T := TX4) (N := 14) (k := 1) (v := .ref (ad 4)) hx hb hts hinX4 hown hF hR (wX_c0 S) rfl (by decide) (by decide +kernel) rfl rfl dX4_readSum_20 ?_
        refine z_get (own := RX4) (C := RX2) (T := TX2) (N := 4) (k := 0) (v := .ref (ad 5)) hx hb hts hinX2 hown hF hR (wX_c4 S) rfl (by decide) (by decide +kernel) rfl rfl dX4_readSum_23 ?_
        refine lv_iload_n hx hb dX4_readSum_26 rfl (lv_at hl 3 rfl) ?_
        refine z_iald_n (f := S 2) hx hb hF hR (wX_c5 S) zT_0 dX4_readSum_27 (by decide) (by omega) ?_
        refine lv_topi (fun v4 ev4 => ?_)
        obtain rfl : v4 = (nI (zn S 2 (k))) := ev4.trans (zOK.n2 hO _).1
        have hb27_3 := (zOK.n2 hO (k)).2
        refine lv_iload_n hx hb dX4_readSum_28 rfl (lv_at hl 1 rfl) ?_
        refine z_callV_i (As := [.int (nI (k)), .int (nI (zn S 2 (k))), .int (nI (key))]) (rest := [.int (sp_rs S key k)]) (w := wX cI cZ ad) ⟨hx, hb, hml, hown, hts⟩ hF hR (c_X1_sumAhead hG S k (zn S 2 (k)) key hO (by omega) (by omega) (by omega)) (cwV 3 hts gX4_readSum_X1_sumAhead rfl rfl rfl (by decide +kernel) ⟨Nat.le_of_ble_eq_true rfl, Nat.le_of_ble_eq_true rfl⟩) (wX_c1 S) rfl rfl rfl hl rfl (Nat.le_of_ble_eq_true rfl) (by decide) dX4_readSum_29 (fun r5 S5 H locs hp5 hR => ?_)
        obtain ⟨hr5, hs5⟩ := hp5
        subst r5
        subst S5
        refine lv_iadd hx hb dX4_readSum_32 ?_
        refine lv_istore_n (lv' := [(2, .int ((sp_rs S key k) + (sp_ek S key k (zn S 2 (k))))), (0, .ref (ad 0)), (1, .int (nI (key))), (3, .int (nI (k)))]) hx hb dX4_readSum_33 rfl hl (by decide) rfl (fun ls hl => ?_)
        refine lv_iinc (v := (nI (k + 1))) (lv' := [(3, .int (nI (k + 1))), (2, .int ((sp_rs S key k) + (sp_ek S key k (zn S 2 (k))))), (0, .ref (ad 0)), (1, .int (nI (key)))]) hx hb dX4_readSum_34 hl (k := 3) rfl (z_inc _) (by decide) rfl (fun ls hl => ?_)
        refine lv_goto (tgt := 8) hx hb dX4_readSum_37 (by decide) ?_
        exact ih8 (k + 1) (by omega) (by omega) _ _ hR ls (lv_sub hl [2, 3, 1, 0] rfl)
  exact loop8 _ 0 (by omega) (Nat.lt_succ_self _) _ _ hR ls (lv_sub hl [2, 3, 1, 0] rfl)
set_option maxHeartbeats 4000000 in
set_option maxRecDepth 100000 in
theorem c_X4_groupsOf_e1 {l : Launch} {D : va_G} {cI cZ : ClassId} {ad : Nat → Nat} {B : Nat → Prop} (hG : ∀ S : zS, va_D B (wX cI cZ ad S)) (hfl : l.stackTraces = false) (S : zS) (x : Int32) (hO : zOK S) (hxb : zbad x (zn S 22 0)) : zMXi l yX4_groupsOf wsX4_groupsOf ({ frames := 7, cells := 1, slots := 6, locals := 103 } : Room) [.ref (ad 0), .int (x)] D (zT cI cZ) B (wX cI cZ ad) S (fun (_ : Int32) (_ : zS) => False) (fun E => E = zIO) := by
  refine zMXi_of (cc := cX4_groupsOf) (maxL := 5) (ret := (some .int)) (by decide) rfl (Nat.le_of_ble_eq_true rfl) ?_
  intro pg en s mm below meth cd hx hb hr hml hown hts hlk hex hF hR ls hl
  have hinX4 : ∀ w ∈ wsX40, w ∈ wsX4_groupsOf := by decide +kernel
  have hl : lv_has ls 5 [(0, .ref (ad 0)), (1, .int (x))] := hl
  refine lv_aload_n hx hb dX4_groupsOf_0 rfl (lv_at hl 0 rfl) ?_
  refine lv_iload_n hx hb dX4_groupsOf_1 rfl (lv_at hl 1 rfl) ?_
  exact z_badV (As := [.int (x)]) (rest := []) (w := wX cI cZ ad) ⟨hx, hb, hml, hown, hts⟩ hlk hex hF hR (c_X4_requireWorker_bad hG hfl S ((x)) hO hxb) (cwV 1 hts gX4_groupsOf_X4_requireWorker rfl rfl rfl (by decide +kernel) ⟨Nat.le_of_ble_eq_true rfl, Nat.le_of_ble_eq_true rfl⟩) (wX_c0 S) rfl rfl rfl hl rfl (Nat.le_of_ble_eq_true rfl) (by decide) dX4_groupsOf_2 (fun E h => h)
set_option maxHeartbeats 4000000 in
set_option maxRecDepth 100000 in
theorem c_X4_groupsOf_ok {l : Launch} {D : va_G} {cI cZ : ClassId} {ad : Nat → Nat} {B : Nat → Prop} (hG : ∀ S : zS, va_D B (wX cI cZ ad S)) (S : zS) (w : Nat) (hO : zOK S) (hw : w < zn S 22 0) : zMi l yX4_groupsOf wsX4_groupsOf ({ frames := 7, cells := 0, slots := 0, locals := 103 } : Room) [.ref (ad 0), .int (nI (w))] D (zT cI cZ) B (wX cI cZ ad) S (fun (r : Int32) (S1 : zS) => r = (nI (10 * sp_gf (zn S 22 0) w 8 + sp_go (zn S 22 0) w 8)) ∧ S1 = S) := by
  refine zMi_of (cc := cX4_groupsOf) (maxL := 5) (ret := (some .int)) (by decide) rfl (Nat.le_of_ble_eq_true rfl) ?_
  intro pg en s mm below meth cd hx hb hr hml hown hts hlk hF hR ls hl
  have hinX4 : ∀ w ∈ wsX40, w ∈ wsX4_groupsOf := by decide +kernel
  have hl : lv_has ls 5 [(0, .ref (ad 0)), (1, .int (nI (w)))] := hl
  have hW1 := (zOK.w hO).2.1
  have hW4 := (zOK.w hO).2.2
  refine lv_aload_n hx hb dX4_groupsOf_0 rfl (lv_at hl 0 rfl) ?_
  refine lv_iload_n hx hb dX4_groupsOf_1 rfl (lv_at hl 1 rfl) ?_
  refine z_callV_v (As := [.int (nI (w))]) (rest := []) (w := wX cI cZ ad) ⟨hx, hb, hml, hown, hts⟩ hF hR (c_X4_requireWorker_ok hG S w hO (by omega)) (cwV 1 hts gX4_groupsOf_X4_requireWorker rfl rfl rfl (by decide +kernel) ⟨Nat.le_of_ble_eq_true rfl, Nat.le_of_ble_eq_true rfl⟩) (wX_c0 S) rfl rfl rfl hl rfl (Nat.le_of_ble_eq_true rfl) (by decide) dX4_groupsOf_2 (fun S1 H locs hp1 hR => ?_)
  subst S1
  refine lv_bipush (v := (nI (8))) hx hb dX4_groupsOf_5 (by decide) ?_
  refine lv_istore_n (lv' := [(2, .int (nI (8))), (0, .ref (ad 0)), (1, .int (nI (w)))]) hx hb dX4_groupsOf_7 rfl hl (by decide) rfl (fun ls hl => ?_)
  refine lv_iconst (v := (nI (0))) hx hb dX4_groupsOf_8 (by decide) ?_
  refine lv_istore_n (lv' := [(3, .int (nI (0))), (2, .int (nI (8))), (0, .ref (ad 0)), (1, .int (nI (w)))]) hx hb dX4_groupsOf_9 rfl hl (by decide) rfl (fun ls hl => ?_)
  refine lv_bipush (v := (nI (7))) hx hb dX4_groupsOf_10 (by decide) ?_
  refine lv_istore (lv' := [(4, .int (nI (7))), (3, .int (nI (0))), (2, .int (nI (8))), (0, .ref (ad 0)), (1, .int (nI (w)))]) hx hb dX4_groupsOf_12 hl (by decide) rfl (fun ls hl => ?_)
  have loop14 : ∀ (nf14 : Nat) (t : Nat), (t ≤ 8) → 8 - t < nf14 → ∀ (H : Heap) (locs : List Loc), zR D B (wX cI cZ ad S) s H locs → ∀ ls : Array Slot, lv_has ls 5 [(0, .ref (ad 0)), (1, .int (nI (w))), (2, .int (nI (sp_gf (zn S 22 0) w t))), (3, .int (nI (sp_go (zn S 22 0) w t))), (4, .int (zdn (8 - t)))] → W pg l en ({ frames := 7, cells := 0, slots := 0, locals := 103 } : Room) s mm ([.ref (ad 0), .int (nI (w))] : List Value).toArray below meth cd H locs 0 0 (MQ below (va_Qi (fun (r : Int32) (S1 : zS) => r = (nI (10 * sp_gf (zn S 22 0) w 8 + sp_go (zn S 22 0) w 8)) ∧ S1 = S) (zB D (zT cI cZ) (wX cI cZ ad)) (zA B s.heap.size)) ([.ref (ad 0), .int (nI (w))] : List Value).toArray s 0 0 (zA B s.heap.size)) (F0 mm 14 ls []) := by
    intro nf14
    induction nf14 with
    | zero => intro t ht hn; exact absurd hn (Nat.not_lt_zero _)
    | succ nf14 ih14 =>
      intro t ht hn H locs hR ls hl
      refine lv_iload hx hb dX4_groupsOf_14 (lv_at hl 4 rfl) ?_
      refine lv_if_lt (tgt := 44) hx hb dX4_groupsOf_16 (by decide) (fun h16_2 => ?_) (fun h16_2 => ?_)
      · skip
        have q16 := zdn_lt (by omega) h16_2
        refine lv_bipush (v := (nI (10))) hx hb dX4_groupsOf_44 (by decide) ?_
        refine lv_iload_n hx hb dX4_groupsOf_46 rfl (lv_at hl 2 rfl) ?_
        refine z_imul_n hx hb dX4_groupsOf_47 ?_
        refine lv_iload_n hx hb dX4_groupsOf_48 rfl (lv_at hl 3 rfl) ?_
        refine z_iadd_n hx hb dX4_groupsOf_49 ?_
        exact z_iret (w := wX cI cZ ad) (S1 := S) hx hb hr hlk hF hR dX4_groupsOf_50 (⟨by rw [show t = 8 from by omega], rfl⟩)
      · skip
        have q16 := zdn_nlt h16_2
        have hl : lv_has ls 5 [(0, .ref (ad 0)), (1, .int (nI (w))), (2, .int (nI (sp_gf (zn S 22 0) w t))), (3, .int (nI (sp_go (zn S 22 0) w t))), (4, .int (nI (7 - t)))] := (by rw [show nI (7 - t) = zdn (8 - t) from by rw [zdn_p q16]; exact congrArg nI (by omega)]; exact hl)
        refine lv_iload hx hb dX4_groupsOf_19 (lv_at hl 4 rfl) ?_
        refine lv_aload_n hx hb dX4_groupsOf_21 rfl (lv_at hl 0 rfl) ?_
        refine z_get (own := RX4) (C := RX4) (T := TX4) (N := 14) (k := 10) (v := .int (S 22 0)) hx hb hts hinX4 hown hF hR (wX_c0 S) rfl (by decide) (by decide +kernel) rfl rfl dX4_groupsOf_22 ?_
        refine lv_topi (fun v3 ev3 => ?_)
        obtain rfl : v3 = (nI (zn S 22 0)) := ev3.trans (zOK.w hO).1
        refine z_callS_i (As := [.int (nI (7 - t)), .int (nI (zn S 22 0))]) (rest := []) (w := wX cI cZ ad) ⟨hx, hb, hml, hown, hts⟩ hF hR (c_X4_ownerOfGroup hG S (7 - t) (zn S 22 0) (by omega) (by omega)) (va_cwS 2 hts gX4_groupsOf_X4_ownerOfGroup rfl rfl rfl (by decide +kernel) ⟨Nat.le_of_ble_eq_true rfl, Nat.le_of_ble_eq_true rfl⟩) rfl hl rfl (Nat.le_of_ble_eq_true rfl) (by decide) dX4_groupsOf_25 (fun r4 S4 H locs hp4 hR => ?_)
        obtain ⟨hr4, hs4⟩ := hp4
        subst r4
        subst S4
        refine lv_iload_n hx hb dX4_groupsOf_28 rfl (lv_at hl 1 rfl) ?_
        refine z_ne_n (tgt := 38) hx hb dX4_groupsOf_29 (by decide) (by have := Nat.mul_le_mul (show 7 - t ≤ 7 by omega) (show zn S 22 0 ≤ 4 by omega); omega) (by omega) (fun h29_5 => ?_) (fun h29_5 => ?_)
        · skip
          have q29 := h29_5
          have hl : lv_has ls 5 [(0, .ref (ad 0)), (1, .int (nI (w))), (2, .int (nI (sp_gf (zn S 22 0) w (t + 1)))), (3, .int (nI (sp_go (zn S 22 0) w (t + 1)))), (4, .int (nI (7 - t)))] := (by rw [show sp_gf (zn S 22 0) w (t + 1) = if (7 - t) * zn S 22 0 / 8 = w then 7 - t else sp_gf (zn S 22 0) w t from rfl, show sp_go (zn S 22 0) w (t + 1) = if (7 - t) * zn S 22 0 / 8 = w then sp_go (zn S 22 0) w t + 1 else sp_go (zn S 22 0) w t from rfl]; first | (rw [if_pos q29, if_pos q29]; exact hl) | (rw [if_neg q29, if_neg q29]; exact hl))
          refine lv_iinc (v := (zdn (8 - (t + 1)))) (lv' := [(4, .int (zdn (8 - (t + 1)))), (0, .ref (ad 0)), (1, .int (nI (w))), (2, .int (nI (sp_gf (zn S 22 0) w (t + 1)))), (3, .int (nI (sp_go (zn S 22 0) w (t + 1))))]) hx hb dX4_groupsOf_38 hl (k := 4) rfl (zdn_d (by omega)) (by decide) rfl (fun ls hl => ?_)
          refine lv_goto (tgt := 14) hx hb dX4_groupsOf_41 (by decide) ?_
          exact ih14 (t + 1) (by omega) (by omega) _ _ hR ls (lv_sub hl [1, 2, 3, 4, 0] rfl)
        · skip
          have q29 := h29_5
          refine lv_iload hx hb dX4_groupsOf_32 (lv_at hl 4 rfl) ?_
          refine lv_istore_n (lv' := [(2, .int (nI (7 - t))), (0, .ref (ad 0)), (1, .int (nI (w))), (3, .int (nI (sp_go (zn S 22 0) w t))), (4, .int (nI (7 - t)))]) hx hb dX4_groupsOf_34 rfl hl (by decide) rfl (fun ls hl => ?_)
          refine lv_iinc (v := (nI (sp_go (zn S 22 0) w t + 1))) (lv' := [(3, .int (nI (sp_go (zn S 22 0) w t + 1))), (2, .int (nI (7 - t))), (0, .ref (ad 0)), (1, .int (nI (w))), (4, .int (nI (7 - t)))]) hx hb dX4_groupsOf_35 hl (k := 3) rfl (z_inc _) (by decide) rfl (fun ls hl => ?_)
          have hl : lv_has ls 5 [(3, .int (nI (sp_go (zn S 22 0) w (t + 1)))), (2, .int (nI (sp_gf (zn S 22 0) w (t + 1)))), (0, .ref (ad 0)), (1, .int (nI (w))), (4, .int (nI (7 - t)))] := (by rw [show sp_gf (zn S 22 0) w (t + 1) = if (7 - t) * zn S 22 0 / 8 = w then 7 - t else sp_gf (zn S 22 0) w t from rfl, show sp_go (zn S 22 0) w (t + 1) = if (7 - t) * zn S 22 0 / 8 = w then sp_go (zn S 22 0) w t + 1 else sp_go (zn S 22 0) w t from rfl]; first | (rw [if_pos q29, if_pos q29]; exact hl) | (rw [if_neg q29, if_neg q29]; exact hl))
          refine lv_iinc (v := (zdn (8 - (t + 1)))) (lv' := [(4, .int (zdn (8 - (t + 1)))), (3, .int (nI (sp_go (zn S 22 0) w (t + 1)))), (2, .int (nI (sp_gf (zn S 22 0) w (t + 1)))), (0, .ref (ad 0)), (1, .int (nI (w)))]) hx hb dX4_groupsOf_38 hl (k := 4) rfl (zdn_d (by omega)) (by decide) rfl (fun ls hl => ?_)
          refine lv_goto (tgt := 14) hx hb dX4_groupsOf_41 (by decide) ?_
          exact ih14 (t + 1) (by omega) (by omega) _ _ hR ls (lv_sub hl [3, 4, 2, 1, 0] rfl)
  exact loop14 _ 0 (by omega) (Nat.lt_succ_self _) _ _ hR ls (lv_sub hl [3, 4, 2, 1, 0] rfl)
set_option maxHeartbeats 4000000 in
set_option maxRecDepth 100000 in
theorem c_X4_open_e1 {l : Launch} {D : va_G} {cI cZ : ClassId} {ad : Nat → Nat} {B : Nat → Prop} (hG : ∀ S : zS, va_D B (wX cI cZ ad S)) (hfl : l.stackTraces = false) (S : zS) (x : Int32) (hO : zOK S) (hxb : zbad x (zn S 22 0)) : zMXi l yX4_open wsX4_open ({ frames := 7, cells := 1, slots := 6, locals := 103 } : Room) [.ref (ad 0), .int (x)] D (zT cI cZ) B (wX cI cZ ad) S (fun (_ : Int32) (_ : zS) => False) (fun E => E = zIO) := by
  refine zMXi_of (cc := cX4_open) (maxL := 4) (ret := (some .int)) (by decide) rfl (Nat.le_of_ble_eq_true rfl) ?_
  intro pg en s mm below meth cd hx hb hr hml hown hts hlk hex hF hR ls hl
  have hinX3 : ∀ w ∈ wsX30, w ∈ wsX4_open := by decide +kernel
  have hinX4 : ∀ w ∈ wsX40, w ∈ wsX4_open := by decide +kernel
  have hl : lv_has ls 4 [(0, .ref (ad 0)), (1, .int (x))] := hl
  refine lv_aload_n hx hb dX4_open_0 rfl (lv_at hl 0 rfl) ?_
  refine lv_iload_n hx hb dX4_open_1 rfl (lv_at hl 1 rfl) ?_
  exact z_badV (As := [.int (x)]) (rest := []) (w := wX cI cZ ad) ⟨hx, hb, hml, hown, hts⟩ hlk hex hF hR (c_X4_requireWorker_bad hG hfl S ((x)) hO hxb) (cwV 1 hts gX4_open_X4_requireWorker rfl rfl rfl (by decide +kernel) ⟨Nat.le_of_ble_eq_true rfl, Nat.le_of_ble_eq_true rfl⟩) (wX_c0 S) rfl rfl rfl hl rfl (Nat.le_of_ble_eq_true rfl) (by decide) dX4_open_2 (fun E h => h)
set_option maxHeartbeats 4000000 in
set_option maxRecDepth 100000 in
theorem c_X4_open_ok {l : Launch} {D : va_G} {cI cZ : ClassId} {ad : Nat → Nat} {B : Nat → Prop} (hG : ∀ S : zS, va_D B (wX cI cZ ad S)) (S : zS) (w : Nat) (hO : zOK S) (hw : w < zn S 22 0) : zMi l yX4_open wsX4_open ({ frames := 7, cells := 0, slots := 0, locals := 103 } : Room) [.ref (ad 0), .int (nI (w))] D (zT cI cZ) B (wX cI cZ ad) S (fun (r : Int32) (S1 : zS) => r = (sp_op S w 32) ∧ S1 = S) := by
  refine zMi_of (cc := cX4_open) (maxL := 4) (ret := (some .int)) (by decide) rfl (Nat.le_of_ble_eq_true rfl) ?_
  intro pg en s mm below meth cd hx hb hr hml hown hts hlk hF hR ls hl
  have hinX3 : ∀ w ∈ wsX30, w ∈ wsX4_open := by decide +kernel
  have hinX4 : ∀ w ∈ wsX40, w ∈ wsX4_open := by decide +kernel
  have hl : lv_has ls 4 [(0, .ref (ad 0)), (1, .int (nI (w)))] := hl
  have hW1 := (zOK.w hO).2.1
  have hW4 := (zOK.w hO).2.2
  refine lv_aload_n hx hb dX4_open_0 rfl (lv_at hl 0 rfl) ?_
  refine lv_iload_n hx hb dX4_open_1 rfl (lv_at hl 1 rfl) ?_
  refine z_callV_v (As := [.int (nI (w))]) (rest := []) (w := wX cI cZ ad) ⟨hx, hb, hml, hown, hts⟩ hF hR (c_X4_requireWorker_ok hG S w hO (by omega)) (cwV 1 hts gX4_open_X4_requireWorker rfl rfl rfl (by decide +kernel) ⟨Nat.le_of_ble_eq_true rfl, Nat.le_of_ble_eq_true rfl⟩) (wX_c0 S) rfl rfl rfl hl rfl (Nat.le_of_ble_eq_true rfl) (by decide) dX4_open_2 (fun S1 H locs hp1 hR => ?_)
  subst S1
  refine lv_iconst (v := (nI (0))) hx hb dX4_open_5 (by decide) ?_
  refine lv_istore_n (lv' := [(2, .int (nI (0))), (0, .ref (ad 0)), (1, .int (nI (w)))]) hx hb dX4_open_6 rfl hl (by decide) rfl (fun ls hl => ?_)
  refine lv_iconst (v := (nI (0))) hx hb dX4_open_7 (by decide) ?_
  refine lv_istore_n (lv' := [(3, .int (nI (0))), (2, .int (nI (0))), (0, .ref (ad 0)), (1, .int (nI (w)))]) hx hb dX4_open_8 rfl hl (by decide) rfl (fun ls hl => ?_)
  have loop9 : ∀ (nf9 : Nat) (k : Nat), (k ≤ 32) → 32 - k < nf9 → ∀ (H : Heap) (locs : List Loc), zR D B (wX cI cZ ad S) s H locs → ∀ ls : Array Slot, lv_has ls 4 [(0, .ref (ad 0)), (1, .int (nI (w))), (2, .int (sp_op S w k)), (3, .int (nI (k)))] → W pg l en ({ frames := 7, cells := 0, slots := 0, locals := 103 } : Room) s mm ([.ref (ad 0), .int (nI (w))] : List Value).toArray below meth cd H locs 0 0 (MQ below (va_Qi (fun (r : Int32) (S1 : zS) => r = (sp_op S w 32) ∧ S1 = S) (zB D (zT cI cZ) (wX cI cZ ad)) (zA B s.heap.size)) ([.ref (ad 0), .int (nI (w))] : List Value).toArray s 0 0 (zA B s.heap.size)) (F0 mm 9 ls []) := by
    intro nf9
    induction nf9 with
    | zero => intro k hk4 hn; exact absurd hn (Nat.not_lt_zero _)
    | succ nf9 ih9 =>
      intro k hk4 hn H locs hR ls hl
      refine lv_iload_n hx hb dX4_open_9 rfl (lv_at hl 3 rfl) ?_
      refine lv_bipush (v := (nI (32))) hx hb dX4_open_10 (by decide) ?_
      refine z_ge_n (tgt := 42) hx hb dX4_open_12 (by decide) (by omega) (by omega) (fun h12_2 => ?_) (fun h12_2 => ?_)
      · skip
        refine lv_iload_n hx hb dX4_open_42 rfl (lv_at hl 2 rfl) ?_
        exact z_iret (w := wX cI cZ ad) (S1 := S) hx hb hr hlk hF hR dX4_open_43 (⟨by rw [show k = 32 from by omega], rfl⟩)
      · skip
        refine lv_aload_n hx hb dX4_open_15 rfl (lv_at hl 0 rfl) ?_
        refine lv_iload_n hx hb dX4_open_16 rfl (lv_at hl 3 rfl) ?_
        refine z_callV_i (As := [.int (nI (k))]) (rest := []) (w := wX cI cZ ad) ⟨hx, hb, hml, hown, hts⟩ hF hR (c_X4_ownerOfKey hG S k hO (by omega)) (cwV 1 hts gX4_open_X4_ownerOfKey rfl rfl rfl (by decide +kernel) ⟨Nat.le_of_ble_eq_true rfl, Nat.le_of_ble_eq_true rfl⟩) (wX_c0 S) rfl rfl rfl hl rfl (Nat.le_of_ble_eq_true rfl) (by decide) dX4_open_17 (fun r3 S3 H locs hp3 hR => ?_)
        obtain ⟨hr3, hs3⟩ := hp3
        subst r3
        subst S3
        have hb17 := (hO.own k).2
        refine lv_iload_n hx hb dX4_open_20 rfl (lv_at hl 1 rfl) ?_
        refine z_ne_n (tgt := 36) hx hb dX4_open_21 (by decide) (by omega) (by omega) (fun h21_4 => ?_) (fun h21_4 => ?_)
        · skip
          have q21 := h21_4
          have hl : lv_has ls 4 [(0, .ref (ad 0)), (1, .int (nI (w))), (2, .int (sp_op S w (k + 1))), (3, .int (nI (k)))] := (by rw [show sp_op S w (k + 1) = if zown (zn S 22 0) k = w then sp_op S w k + S 11 k else sp_op S w k from rfl]; first | (rw [if_pos q21]; exact hl) | (rw [if_neg q21]; exact hl))
          refine lv_iinc (v := (nI (k + 1))) (lv' := [(3, .int (nI (k + 1))), (0, .ref (ad 0)), (1, .int (nI (w))), (2, .int (sp_op S w (k + 1)))]) hx hb dX4_open_36 hl (k := 3) rfl (z_inc _) (by decide) rfl (fun ls hl => ?_)
          refine lv_goto (tgt := 9) hx hb dX4_open_39 (by decide) ?_
          exact ih9 (k + 1) (by omega) (by omega) _ _ hR ls (lv_sub hl [1, 2, 3, 0] rfl)
        · skip
          have q21 := h21_4
          refine lv_iload_n hx hb dX4_open_24 rfl (lv_at hl 2 rfl) ?_
          refine lv_aload_n hx hb dX4_open_25 rfl (lv_at hl 0 rfl) ?_
          refine z_get (own := RX4) (C := RX4) (T := TX4) (N := 14) (k := 4) (v := .ref (ad 16)) hx hb hts hinX4 hown hF hR (wX_c0 S) rfl (by decide) (by decide +kernel) rfl rfl dX4_open_26 ?_
          refine z_get (own := RX4) (C := RX3) (T := TX3) (N := 2) (k := 0) (v := .ref (ad 17)) hx hb hts hinX3 hown hF hR (wX_c16 S) rfl (by decide) (by decide +kernel) rfl rfl dX4_open_29 ?_
          refine lv_iload_n hx hb dX4_open_32 rfl (lv_at hl 3 rfl) ?_
          refine z_iald_n (f := S 11) hx hb hF hR (wX_c17 S) zT_0 dX4_open_33 (by decide) (by omega) ?_
          refine lv_iadd hx hb dX4_open_34 ?_
          refine lv_istore_n (lv' := [(2, .int ((sp_op S w k) + (S 11 (k)))), (0, .ref (ad 0)), (1, .int (nI (w))), (3, .int (nI (k)))]) hx hb dX4_open_35 rfl hl (by decide) rfl (fun ls hl => ?_)
          have hl : lv_has ls 4 [(2, .int (sp_op S w (k + 1))), (0, .ref (ad 0)), (1, .int (nI (w))), (3, .int (nI (k)))] := (by rw [show sp_op S w (k + 1) = if zown (zn S 22 0) k = w then sp_op S w k + S 11 k else sp_op S w k from rfl]; first | (rw [if_pos q21]; exact hl) | (rw [if_neg q21]; exact hl))
          refine lv_iinc (v := (nI (k + 1))) (lv' := [(3, .int (nI (k + 1))), (2, .int (sp_op S w (k + 1))), (0, .ref (ad 0)), (1, .int (nI (w)))]) hx hb dX4_open_36 hl (k := 3) rfl (z_inc _) (by decide) rfl (fun ls hl => ?_)
          refine lv_goto (tgt := 9) hx hb dX4_open_39 (by decide) ?_
          exact ih9 (k + 1) (by omega) (by omega) _ _ hR ls (lv_sub hl [2, 3, 1, 0] rfl)
  exact loop9 _ 0 (by omega) (Nat.lt_succ_self _) _ _ hR ls (lv_sub hl [2, 3, 1, 0] rfl)
set_option maxHeartbeats 4000000 in
set_option maxRecDepth 100000 in
theorem c_X4_sealed_e1 {l : Launch} {D : va_G} {cI cZ : ClassId} {ad : Nat → Nat} {B : Nat → Prop} (hG : ∀ S : zS, va_D B (wX cI cZ ad S)) (hfl : l.stackTraces = false) (S : zS) (x : Int32) (hO : zOK S) (hxb : zbad x (zn S 22 0)) : zMXi l yX4_sealed wsX4_sealed ({ frames := 7, cells := 1, slots := 6, locals := 103 } : Room) [.ref (ad 0), .int (x)] D (zT cI cZ) B (wX cI cZ ad) S (fun (_ : Int32) (_ : zS) => False) (fun E => E = zIO) := by
  refine zMXi_of (cc := cX4_sealed) (maxL := 2) (ret := (some .int)) (by decide) rfl (Nat.le_of_ble_eq_true rfl) ?_
  intro pg en s mm below meth cd hx hb hr hml hown hts hlk hex hF hR ls hl
  have hinX4 : ∀ w ∈ wsX40, w ∈ wsX4_sealed := by decide +kernel
  have hl : lv_has ls 2 [(0, .ref (ad 0)), (1, .int (x))] := hl
  refine lv_aload_n hx hb dX4_sealed_0 rfl (lv_at hl 0 rfl) ?_
  refine lv_iload_n hx hb dX4_sealed_1 rfl (lv_at hl 1 rfl) ?_
  exact z_badV (As := [.int (x)]) (rest := []) (w := wX cI cZ ad) ⟨hx, hb, hml, hown, hts⟩ hlk hex hF hR (c_X4_requireWorker_bad hG hfl S ((x)) hO hxb) (cwV 1 hts gX4_sealed_X4_requireWorker rfl rfl rfl (by decide +kernel) ⟨Nat.le_of_ble_eq_true rfl, Nat.le_of_ble_eq_true rfl⟩) (wX_c0 S) rfl rfl rfl hl rfl (Nat.le_of_ble_eq_true rfl) (by decide) dX4_sealed_2 (fun E h => h)
set_option maxHeartbeats 4000000 in
set_option maxRecDepth 100000 in
theorem c_X4_sealed_ok {l : Launch} {D : va_G} {cI cZ : ClassId} {ad : Nat → Nat} {B : Nat → Prop} (hG : ∀ S : zS, va_D B (wX cI cZ ad S)) (S : zS) (w : Nat) (hO : zOK S) (hw : w < zn S 22 0) : zMi l yX4_sealed wsX4_sealed ({ frames := 7, cells := 0, slots := 0, locals := 103 } : Room) [.ref (ad 0), .int (nI (w))] D (zT cI cZ) B (wX cI cZ ad) S (fun (r : Int32) (S1 : zS) => r = (S 21 w) ∧ S1 = S) := by
  refine zMi_of (cc := cX4_sealed) (maxL := 2) (ret := (some .int)) (by decide) rfl (Nat.le_of_ble_eq_true rfl) ?_
  intro pg en s mm below meth cd hx hb hr hml hown hts hlk hF hR ls hl
  have hinX4 : ∀ w ∈ wsX40, w ∈ wsX4_sealed := by decide +kernel
  have hl : lv_has ls 2 [(0, .ref (ad 0)), (1, .int (nI (w)))] := hl
  have hW1 := (zOK.w hO).2.1
  have hW4 := (zOK.w hO).2.2
  refine lv_aload_n hx hb dX4_sealed_0 rfl (lv_at hl 0 rfl) ?_
  refine lv_iload_n hx hb dX4_sealed_1 rfl (lv_at hl 1 rfl) ?_
  refine z_callV_v (As := [.int (nI (w))]) (rest := []) (w := wX cI cZ ad) ⟨hx, hb, hml, hown, hts⟩ hF hR (c_X4_requireWorker_ok hG S w hO (by omega)) (cwV 1 hts gX4_sealed_X4_requireWorker rfl rfl rfl (by decide +kernel) ⟨Nat.le_of_ble_eq_true rfl, Nat.le_of_ble_eq_true rfl⟩) (wX_c0 S) rfl rfl rfl hl rfl (Nat.le_of_ble_eq_true rfl) (by decide) dX4_sealed_2 (fun S1 H locs hp1 hR => ?_)
  subst S1
  refine lv_aload_n hx hb dX4_sealed_5 rfl (lv_at hl 0 rfl) ?_
  refine z_get (own := RX4) (C := RX4) (T := TX4) (N := 14) (k := 9) (v := .ref (ad 31)) hx hb hts hinX4 hown hF hR (wX_c0 S) rfl (by decide) (by decide +kernel) rfl rfl dX4_sealed_6 ?_
  refine lv_iload_n hx hb dX4_sealed_9 rfl (lv_at hl 1 rfl) ?_
  refine z_iald_n (f := S 21) hx hb hF hR (wX_c31 S) zT_0 dX4_sealed_10 (by decide) (by omega) ?_
  exact z_iret (w := wX cI cZ ad) (S1 := S) hx hb hr hlk hF hR dX4_sealed_11 (⟨rfl, rfl⟩)
set_option maxHeartbeats 4000000 in
set_option maxRecDepth 100000 in
theorem c_X4_hasSent_e1 {l : Launch} {D : va_G} {cI cZ : ClassId} {ad : Nat → Nat} {B : Nat → Prop} (hG : ∀ S : zS, va_D B (wX cI cZ ad S)) (hfl : l.stackTraces = false) (S : zS) (x : Int32) (hO : zOK S) (hxb : zbad x 4) : zMXi l yX4_hasSent wsX4_hasSent ({ frames := 7, cells := 1, slots := 6, locals := 102 } : Room) [.ref (ad 0), .int (x)] D (zT cI cZ) B (wX cI cZ ad) S (fun (_ : Int32) (_ : zS) => False) (fun E => E = zIO) := by
  refine zMXi_of (cc := cX4_hasSent) (maxL := 2) (ret := (some .boolean)) (by decide) rfl (Nat.le_of_ble_eq_true rfl) ?_
  intro pg en s mm below meth cd hx hb hr hml hown hts hlk hex hF hR ls hl
  have hinX2 : ∀ w ∈ wsX20, w ∈ wsX4_hasSent := by decide +kernel
  have hinX4 : ∀ w ∈ wsX40, w ∈ wsX4_hasSent := by decide +kernel
  have hl : lv_has ls 2 [(0, .ref (ad 0)), (1, .int (x))] := hl
  refine lv_iload_n hx hb dX4_hasSent_0 rfl (lv_at hl 1 rfl) ?_
  exact z_badS (As := [.int (x)]) (rest := []) (w := wX cI cZ ad) ⟨hx, hb, hml, hown, hts⟩ hlk hex hF hR (c_X4_requirePartition_bad hG hfl S ((x)) hxb) (va_cwS 1 hts gX4_hasSent_X4_requirePartition rfl rfl rfl (by decide +kernel) ⟨Nat.le_of_ble_eq_true rfl, Nat.le_of_ble_eq_true rfl⟩) rfl hl rfl (Nat.le_of_ble_eq_true rfl) (by decide) dX4_hasSent_1 (fun E h => h)
set_option maxHeartbeats 4000000 in
set_option maxRecDepth 100000 in
theorem c_X4_hasSent_ok {l : Launch} {D : va_G} {cI cZ : ClassId} {ad : Nat → Nat} {B : Nat → Prop} (hG : ∀ S : zS, va_D B (wX cI cZ ad S)) (S : zS) (p : Nat) (hO : zOK S) (hp : p < 4) : zMi l yX4_hasSent wsX4_hasSent ({ frames := 7, cells := 0, slots := 0, locals := 102 } : Room) [.ref (ad 0), .int (nI (p))] D (zT cI cZ) B (wX cI cZ ad) S (fun (r : Int32) (S1 : zS) => (((¬ S 22 2 = (-1) ∧ S 4 p = nI 1) ∧ r = nI 1) ∨ (¬ (¬ S 22 2 = (-1) ∧ S 4 p = nI 1) ∧ r = nI 0)) ∧ S1 = S) := by
  refine zMi_of (cc := cX4_hasSent) (maxL := 2) (ret := (some .boolean)) (by decide) rfl (Nat.le_of_ble_eq_true rfl) ?_
  intro pg en s mm below meth cd hx hb hr hml hown hts hlk hF hR ls hl
  have hinX2 : ∀ w ∈ wsX20, w ∈ wsX4_hasSent := by decide +kernel
  have hinX4 : ∀ w ∈ wsX40, w ∈ wsX4_hasSent := by decide +kernel
  have hl : lv_has ls 2 [(0, .ref (ad 0)), (1, .int (nI (p)))] := hl
  refine lv_iload_n hx hb dX4_hasSent_0 rfl (lv_at hl 1 rfl) ?_
  refine z_callS_v (As := [.int (nI (p))]) (rest := []) (w := wX cI cZ ad) ⟨hx, hb, hml, hown, hts⟩ hF hR (c_X4_requirePartition_ok hG S p (by omega)) (va_cwS 1 hts gX4_hasSent_X4_requirePartition rfl rfl rfl (by decide +kernel) ⟨Nat.le_of_ble_eq_true rfl, Nat.le_of_ble_eq_true rfl⟩) rfl hl rfl (Nat.le_of_ble_eq_true rfl) (by decide) dX4_hasSent_1 (fun S1 H locs hp1 hR => ?_)
  subst S1
  refine lv_aload_n hx hb dX4_hasSent_4 rfl (lv_at hl 0 rfl) ?_
  refine z_get (own := RX4) (C := RX4) (T := TX4) (N := 14) (k := 12) (v := .int (S 22 2)) hx hb hts hinX4 hown hF hR (wX_c0 S) rfl (by decide) (by decide +kernel) rfl rfl dX4_hasSent_5 ?_
  refine lv_iconst (v := ((-1))) hx hb dX4_hasSent_8 (by decide) ?_
  refine lv_icmp_eq (tgt := 28) hx hb dX4_hasSent_9 (by decide) (fun h9_2 => ?_) (fun h9_2 => ?_)
  · skip
    have q9 := h9_2
    refine lv_iconst (v := (nI (0))) hx hb dX4_hasSent_28 (by decide) ?_
    exact z_zret (w := wX cI cZ ad) (S1 := S) hx hb hr hlk hF hR dX4_hasSent_29 (by decide) (⟨Or.inr ⟨fun q => by first | exact q.1 q9 | exact absurd (q.2.symm.trans q21) (by decide), rfl⟩, rfl⟩)
  · skip
    have q9 := h9_2
    refine lv_aload_n hx hb dX4_hasSent_12 rfl (lv_at hl 0 rfl) ?_
    refine z_get (own := RX4) (C := RX4) (T := TX4) (N := 14) (k := 1) (v := .ref (ad 4)) hx hb hts hinX4 hown hF hR (wX_c0 S) rfl (by decide) (by decide +kernel) rfl rfl dX4_hasSent_13 ?_
    refine z_get (own := RX4) (C := RX2) (T := TX2) (N := 4) (k := 2) (v := .ref (ad 7)) hx hb hts hinX2 hown hF hR (wX_c4 S) rfl (by decide) (by decide +kernel) rfl rfl dX4_hasSent_16 ?_
    refine lv_iload_n hx hb dX4_hasSent_19 rfl (lv_at hl 1 rfl) ?_
    refine z_zald_n (f := S 4) hx hb hF hR (wX_c7 S) zT_1 dX4_hasSent_20 (by decide) (by omega) ?_
    refine lv_if_eq (tgt := 28) hx hb dX4_hasSent_21 (by decide) (fun h21_3 => ?_) (fun h21_3 => ?_)
    · skip
      have q21 := h21_3
      refine lv_iconst (v := (nI (0))) hx hb dX4_hasSent_28 (by decide) ?_
      exact z_zret (w := wX cI cZ ad) (S1 := S) hx hb hr hlk hF hR dX4_hasSent_29 (by decide) (⟨Or.inr ⟨fun q => by first | exact q.1 q9 | exact absurd (q.2.symm.trans q21) (by decide), rfl⟩, rfl⟩)
    · skip
      have q21 := h21_3
      refine lv_iconst (v := (nI (1))) hx hb dX4_hasSent_24 (by decide) ?_
      refine lv_goto (tgt := 29) hx hb dX4_hasSent_25 (by decide) ?_
      exact z_zret (w := wX cI cZ ad) (S1 := S) hx hb hr hlk hF hR dX4_hasSent_29 (by decide) (⟨Or.inl ⟨⟨q9, (zOK.b4 hO p).elim (fun q => absurd (q.trans nI_0) q21) id⟩, rfl⟩, rfl⟩)
set_option maxHeartbeats 4000000 in
set_option maxRecDepth 100000 in
theorem c_X4_committed {l : Launch} {D : va_G} {cI cZ : ClassId} {ad : Nat → Nat} {B : Nat → Prop} (hG : ∀ S : zS, va_D B (wX cI cZ ad S)) (S : zS) (hO : zOK S) : zMi l yX4_committed wsX4_committed ({ frames := 0, cells := 0, slots := 0, locals := 0 } : Room) [.ref (ad 0)] D (zT cI cZ) B (wX cI cZ ad) S (fun (r : Int32) (S1 : zS) => r = (sp_cm S 32) ∧ S1 = S) := by
  refine zMi_of (cc := cX4_committed) (maxL := 3) (ret := (some .int)) (by decide) rfl (Nat.le_of_ble_eq_true rfl) ?_
  intro pg en s mm below meth cd hx hb hr hml hown hts hlk hF hR ls hl
  have hinX3 : ∀ w ∈ wsX30, w ∈ wsX4_committed := by decide +kernel
  have hinX4 : ∀ w ∈ wsX40, w ∈ wsX4_committed := by decide +kernel
  have hl : lv_has ls 3 [(0, .ref (ad 0))] := hl
  refine lv_iconst (v := (nI (0))) hx hb dX4_committed_0 (by decide) ?_
  refine lv_istore_n (lv' := [(1, .int (nI (0))), (0, .ref (ad 0))]) hx hb dX4_committed_1 rfl hl (by decide) rfl (fun ls hl => ?_)
  refine lv_iconst (v := (nI (0))) hx hb dX4_committed_2 (by decide) ?_
  refine lv_istore_n (lv' := [(2, .int (nI (0))), (1, .int (nI (0))), (0, .ref (ad 0))]) hx hb dX4_committed_3 rfl hl (by decide) rfl (fun ls hl => ?_)
  have loop4 : ∀ (nf4 : Nat) (k : Nat), (k ≤ 32) → 32 - k < nf4 → ∀ (H : Heap) (locs : List Loc), zR D B (wX cI cZ ad S) s H locs → ∀ ls : Array Slot, lv_has ls 3 [(0, .ref (ad 0)), (1, .int (sp_cm S k)), (2, .int (nI (k)))] → W pg l en ({ frames := 0, cells := 0, slots := 0, locals := 0 } : Room) s mm ([.ref (ad 0)] : List Value).toArray below meth cd H locs 0 0 (MQ below (va_Qi (fun (r : Int32) (S1 : zS) => r = (sp_cm S 32) ∧ S1 = S) (zB D (zT cI cZ) (wX cI cZ ad)) (zA B s.heap.size)) ([.ref (ad 0)] : List Value).toArray s 0 0 (zA B s.heap.size)) (F0 mm 4 ls []) := by
    intro nf4
    induction nf4 with
    | zero => intro k hk4 hn; exact absurd hn (Nat.not_lt_zero _)
    | succ nf4 ih4 =>
      intro k hk4 hn H locs hR ls hl
      refine lv_iload_n hx hb dX4_committed_4 rfl (lv_at hl 2 rfl) ?_
      refine lv_bipush (v := (nI (32))) hx hb dX4_committed_5 (by decide) ?_
      refine z_ge_n (tgt := 28) hx hb dX4_committed_7 (by decide) (by omega) (by omega) (fun h7_1 => ?_) (fun h7_1 => ?_)
      · skip
        refine lv_iload_n hx hb dX4_committed_28 rfl (lv_at hl 1 rfl) ?_
        exact z_iret (w := wX cI cZ ad) (S1 := S) hx hb hr hlk hF hR dX4_committed_29 (⟨by rw [show (32 : Nat) = k from by omega], rfl⟩)
      · skip
        refine lv_iload_n hx hb dX4_committed_10 rfl (lv_at hl 1 rfl) ?_
        refine lv_aload_n hx hb dX4_committed_11 rfl (lv_at hl 0 rfl) ?_
        refine z_get (own := RX4) (C := RX4) (T := TX4) (N := 14) (k := 8) (v := .ref (ad 28)) hx hb hts hinX4 hown hF hR (wX_c0 S) rfl (by decide) (by decide +kernel) rfl rfl dX4_committed_12 ?_
        refine z_get (own := RX4) (C := RX3) (T := TX3) (N := 2) (k := 0) (v := .ref (ad 29)) hx hb hts hinX3 hown hF hR (wX_c28 S) rfl (by decide) (by decide +kernel) rfl rfl dX4_committed_15 ?_
        refine lv_iload_n hx hb dX4_committed_18 rfl (lv_at hl 2 rfl) ?_
        refine z_iald_n (f := S 19) hx hb hF hR (wX_c29 S) zT_0 dX4_committed_19 (by decide) (by omega) ?_
        refine lv_iadd hx hb dX4_committed_20 ?_
        refine lv_istore_n (lv' := [(1, .int ((sp_cm S k) + (S 19 (k)))), (0, .ref (ad 0)), (2, .int (nI (k)))]) hx hb dX4_committed_21 rfl hl (by decide) rfl (fun ls hl => ?_)
        refine lv_iinc (v := (nI (k + 1))) (lv' := [(2, .int (nI (k + 1))), (1, .int ((sp_cm S k) + (S 19 (k)))), (0, .ref (ad 0))]) hx hb dX4_committed_22 hl (k := 2) rfl (z_inc _) (by decide) rfl (fun ls hl => ?_)
        refine lv_goto (tgt := 4) hx hb dX4_committed_25 (by decide) ?_
        exact ih4 (k + 1) (by omega) (by omega) _ _ hR ls (lv_sub hl [2, 1, 0] rfl)
  exact loop4 _ 0 (by omega) (Nat.lt_succ_self _) _ _ hR ls (lv_sub hl [2, 1, 0] rfl)
