set_option maxHeartbeats 4000000 in
set_option maxRecDepth 100000 in
theorem c_X5_append_e1 {l : Launch} {D : va_G} {cI cZ : ClassId} {ad : Nat → Nat} {B : Nat → Prop} (hG : ∀ S : zS, va_D B (wM cI cZ ad S)) (S : zS) (x y z : Int32) (hO : zOK S) (hxb : zbad x 4) : zMi l yX5_append wsX5_append ({ frames := 2, cells := 0, slots := 0, locals := 42 } : Room) [.ref (ad 0), .int (x), .int (y), .int (z)] D (zT cI cZ) B (wM cI cZ ad) S (fun (r : Int32) (S1 : zS) => r = (nI (0)) ∧ S1 = zth S 1) := by
  refine zMi_of (cc := cX5_append) (maxL := 5) (ret := (some .int)) (by decide) rfl (Nat.le_of_ble_eq_true rfl) ?_
  intro pg en s mm below meth cd hx hb hr hml hown hts hlk hF hR ls hl
  have hinX5 : ∀ w ∈ wsX50, w ∈ wsX5_append := by decide +kernel
  have hl : lv_has ls 5 [(0, .ref (ad 0)), (1, .int (x)), (2, .int (y)), (3, .int (z))] := hl
  refine lv_iload_n hx hb dX5_append_0 rfl (lv_at hl 1 rfl) ?_
  refine z_callS_i (As := [.int (x)]) (rest := []) (w := wM cI cZ ad) ⟨hx, hb, hml, hown, hts⟩ hF hR (c_X5_isPartition_bad hG S ((x)) hxb) (va_cwS 1 hts gX5_append_X5_isPartition rfl rfl rfl (by decide +kernel) ⟨Nat.le_of_ble_eq_true rfl, Nat.le_of_ble_eq_true rfl⟩) rfl hl rfl (Nat.le_of_ble_eq_true rfl) (by decide) dX5_append_1 (fun r1 S1 H locs hp1 hR => ?_)
  obtain ⟨hr1, hs1⟩ := hp1
  subst r1
  subst S1
  refine z_if_eq_n (tgt := 18) hx hb dX5_append_4 (by decide) (by omega) (fun h4_2 => ?_) (fun h4_2 => by omega)
  refine lv_iconst (v := (nI (0))) hx hb dX5_append_18 (by decide) ?_
  refine lv_istore (lv' := [(4, .int (nI (0))), (0, .ref (ad 0)), (1, .int (x)), (2, .int (y)), (3, .int (z))]) hx hb dX5_append_19 hl (by decide) rfl (fun ls hl => ?_)
  refine lv_aload_n hx hb dX5_append_21 rfl (lv_at hl 1 rfl) ?_
  refine lv_iload hx hb dX5_append_22 (lv_at hl 0 rfl) ?_
  refine z_if_ne_n (tgt := 31) hx hb dX5_append_24 (by decide) (by omega) (fun h24_3 => by omega) (fun h24_3 => ?_)
  refine lv_iconst (v := (nI (1))) hx hb dX5_append_27 (by decide) ?_
  refine lv_goto (tgt := 61) hx hb dX5_append_28 (by decide) ?_
  refine z_callV_i (As := [.int (nI (1))]) (rest := []) (w := wM cI cZ ad) ⟨hx, hb, hml, hown, hts⟩ hF hR (c_X5_holds_nz hG S 1 (by decide) (by decide)) (cwV 1 hts gX5_append_X5_holds rfl rfl rfl (by decide +kernel) ⟨Nat.le_of_ble_eq_true rfl, Nat.le_of_ble_eq_true rfl⟩) (wM_c0 S) rfl rfl rfl hl rfl (Nat.le_of_ble_eq_true rfl) (by decide) dX5_append_61 (fun r4 S4 H locs hp4 hR => ?_)
  obtain ⟨hr4, hs4⟩ := hp4
  subst r4
  subst S4
  have hO4 := (zOK_th (i := 1) hO)
  refine z_if_ne_n (tgt := 69) hx hb dX5_append_64 (by decide) (by omega) (fun h64_5 => by omega) (fun h64_5 => ?_)
  refine lv_iconst (v := (nI (0))) hx hb dX5_append_67 (by decide) ?_
  exact z_iret (w := wM cI cZ ad) (S1 := (zth S 1)) hx hb hr hlk hF hR dX5_append_68 (⟨rfl, rfl⟩)
set_option maxHeartbeats 4000000 in
set_option maxRecDepth 100000 in
theorem c_X5_append_e2 {l : Launch} {D : va_G} {cI cZ : ClassId} {ad : Nat → Nat} {B : Nat → Prop} (hG : ∀ S : zS, va_D B (wM cI cZ ad S)) (S : zS) (p : Nat) (y z : Int32) (hO : zOK S) (hp : p < 4) (hxb : zbad y 32) : zMi l yX5_append wsX5_append ({ frames := 2, cells := 0, slots := 0, locals := 42 } : Room) [.ref (ad 0), .int (nI (p)), .int (y), .int (z)] D (zT cI cZ) B (wM cI cZ ad) S (fun (r : Int32) (S1 : zS) => r = (nI (0)) ∧ S1 = zth S 1) := by
  refine zMi_of (cc := cX5_append) (maxL := 5) (ret := (some .int)) (by decide) rfl (Nat.le_of_ble_eq_true rfl) ?_
  intro pg en s mm below meth cd hx hb hr hml hown hts hlk hF hR ls hl
  have hinX5 : ∀ w ∈ wsX50, w ∈ wsX5_append := by decide +kernel
  have hl : lv_has ls 5 [(0, .ref (ad 0)), (1, .int (nI (p))), (2, .int (y)), (3, .int (z))] := hl
  refine lv_iload_n hx hb dX5_append_0 rfl (lv_at hl 1 rfl) ?_
  refine z_callS_i (As := [.int (nI (p))]) (rest := []) (w := wM cI cZ ad) ⟨hx, hb, hml, hown, hts⟩ hF hR (c_X5_isPartition_ok hG S p (by omega)) (va_cwS 1 hts gX5_append_X5_isPartition rfl rfl rfl (by decide +kernel) ⟨Nat.le_of_ble_eq_true rfl, Nat.le_of_ble_eq_true rfl⟩) rfl hl rfl (Nat.le_of_ble_eq_true rfl) (by decide) dX5_append_1 (fun r1 S1 H locs hp1 hR => ?_)
  obtain ⟨hr1, hs1⟩ := hp1
  subst r1
  subst S1
  refine z_if_eq_n (tgt := 18) hx hb dX5_append_4 (by decide) (by omega) (fun h4_2 => by omega) (fun h4_2 => ?_)
  refine lv_iload_n hx hb dX5_append_7 rfl (lv_at hl 2 rfl) ?_
  refine z_callS_i (As := [.int (y)]) (rest := []) (w := wM cI cZ ad) ⟨hx, hb, hml, hown, hts⟩ hF hR (c_X5_isKey_bad hG S ((y)) hxb) (va_cwS 1 hts gX5_append_X5_isKey rfl rfl rfl (by decide +kernel) ⟨Nat.le_of_ble_eq_true rfl, Nat.le_of_ble_eq_true rfl⟩) rfl hl rfl (Nat.le_of_ble_eq_true rfl) (by decide) dX5_append_8 (fun r3 S3 H locs hp3 hR => ?_)
  obtain ⟨hr3, hs3⟩ := hp3
  subst r3
  subst S3
  refine z_if_eq_n (tgt := 18) hx hb dX5_append_11 (by decide) (by omega) (fun h11_4 => ?_) (fun h11_4 => by omega)
  refine lv_iconst (v := (nI (0))) hx hb dX5_append_18 (by decide) ?_
  refine lv_istore (lv' := [(4, .int (nI (0))), (0, .ref (ad 0)), (1, .int (nI (p))), (2, .int (y)), (3, .int (z))]) hx hb dX5_append_19 hl (by decide) rfl (fun ls hl => ?_)
  refine lv_aload_n hx hb dX5_append_21 rfl (lv_at hl 1 rfl) ?_
  refine lv_iload hx hb dX5_append_22 (lv_at hl 0 rfl) ?_
  refine z_if_ne_n (tgt := 31) hx hb dX5_append_24 (by decide) (by omega) (fun h24_5 => by omega) (fun h24_5 => ?_)
  refine lv_iconst (v := (nI (1))) hx hb dX5_append_27 (by decide) ?_
  refine lv_goto (tgt := 61) hx hb dX5_append_28 (by decide) ?_
  refine z_callV_i (As := [.int (nI (1))]) (rest := []) (w := wM cI cZ ad) ⟨hx, hb, hml, hown, hts⟩ hF hR (c_X5_holds_nz hG S 1 (by decide) (by decide)) (cwV 1 hts gX5_append_X5_holds rfl rfl rfl (by decide +kernel) ⟨Nat.le_of_ble_eq_true rfl, Nat.le_of_ble_eq_true rfl⟩) (wM_c0 S) rfl rfl rfl hl rfl (Nat.le_of_ble_eq_true rfl) (by decide) dX5_append_61 (fun r6 S6 H locs hp6 hR => ?_)
  obtain ⟨hr6, hs6⟩ := hp6
  subst r6
  subst S6
  have hO6 := (zOK_th (i := 1) hO)
  refine z_if_ne_n (tgt := 69) hx hb dX5_append_64 (by decide) (by omega) (fun h64_7 => by omega) (fun h64_7 => ?_)
  refine lv_iconst (v := (nI (0))) hx hb dX5_append_67 (by decide) ?_
  exact z_iret (w := wM cI cZ ad) (S1 := (zth S 1)) hx hb hr hlk hF hR dX5_append_68 (⟨rfl, rfl⟩)
set_option maxHeartbeats 4000000 in
set_option maxRecDepth 100000 in
theorem c_X5_append_e3 {l : Launch} {D : va_G} {cI cZ : ClassId} {ad : Nat → Nat} {B : Nat → Prop} (hG : ∀ S : zS, va_D B (wM cI cZ ad S)) (S : zS) (p key : Nat) (z : Int32) (hO : zOK S) (hp : p < 4) (hk : key < 32) (hz9 : zbadv z 1 100) : zMi l yX5_append wsX5_append ({ frames := 2, cells := 0, slots := 0, locals := 42 } : Room) [.ref (ad 0), .int (nI (p)), .int (nI (key)), .int (z)] D (zT cI cZ) B (wM cI cZ ad) S (fun (r : Int32) (S1 : zS) => r = (nI (0)) ∧ S1 = zth S 2) := by
  refine zMi_of (cc := cX5_append) (maxL := 5) (ret := (some .int)) (by decide) rfl (Nat.le_of_ble_eq_true rfl) ?_
  intro pg en s mm below meth cd hx hb hr hml hown hts hlk hF hR ls hl
  have hinX5 : ∀ w ∈ wsX50, w ∈ wsX5_append := by decide +kernel
  have hl : lv_has ls 5 [(0, .ref (ad 0)), (1, .int (nI (p))), (2, .int (nI (key))), (3, .int (z))] := hl
  refine lv_iload_n hx hb dX5_append_0 rfl (lv_at hl 1 rfl) ?_
  refine z_callS_i (As := [.int (nI (p))]) (rest := []) (w := wM cI cZ ad) ⟨hx, hb, hml, hown, hts⟩ hF hR (c_X5_isPartition_ok hG S p (by omega)) (va_cwS 1 hts gX5_append_X5_isPartition rfl rfl rfl (by decide +kernel) ⟨Nat.le_of_ble_eq_true rfl, Nat.le_of_ble_eq_true rfl⟩) rfl hl rfl (Nat.le_of_ble_eq_true rfl) (by decide) dX5_append_1 (fun r1 S1 H locs hp1 hR => ?_)
  obtain ⟨hr1, hs1⟩ := hp1
  subst r1
  subst S1
  refine z_if_eq_n (tgt := 18) hx hb dX5_append_4 (by decide) (by omega) (fun h4_2 => by omega) (fun h4_2 => ?_)
  refine lv_iload_n hx hb dX5_append_7 rfl (lv_at hl 2 rfl) ?_
  refine z_callS_i (As := [.int (nI (key))]) (rest := []) (w := wM cI cZ ad) ⟨hx, hb, hml, hown, hts⟩ hF hR (c_X5_isKey_ok hG S key (by omega)) (va_cwS 1 hts gX5_append_X5_isKey rfl rfl rfl (by decide +kernel) ⟨Nat.le_of_ble_eq_true rfl, Nat.le_of_ble_eq_true rfl⟩) rfl hl rfl (Nat.le_of_ble_eq_true rfl) (by decide) dX5_append_8 (fun r3 S3 H locs hp3 hR => ?_)
  obtain ⟨hr3, hs3⟩ := hp3
  subst r3
  subst S3
  refine z_if_eq_n (tgt := 18) hx hb dX5_append_11 (by decide) (by omega) (fun h11_4 => by omega) (fun h11_4 => ?_)
  refine lv_iconst (v := (nI (1))) hx hb dX5_append_14 (by decide) ?_
  refine lv_goto (tgt := 19) hx hb dX5_append_15 (by decide) ?_
  refine lv_istore (lv' := [(4, .int (nI (1))), (0, .ref (ad 0)), (1, .int (nI (p))), (2, .int (nI (key))), (3, .int (z))]) hx hb dX5_append_19 hl (by decide) rfl (fun ls hl => ?_)
  refine lv_aload_n hx hb dX5_append_21 rfl (lv_at hl 1 rfl) ?_
  refine lv_iload hx hb dX5_append_22 (lv_at hl 0 rfl) ?_
  refine z_if_ne_n (tgt := 31) hx hb dX5_append_24 (by decide) (by omega) (fun h24_5 => ?_) (fun h24_5 => by omega)
  refine lv_iload_n hx hb dX5_append_31 rfl (lv_at hl 4 rfl) ?_
  refine lv_iconst (v := (nI (1))) hx hb dX5_append_32 (by decide) ?_
  refine lv_bipush (v := (nI (100))) hx hb dX5_append_33 (by decide) ?_
  refine z_callS_i (As := [.int (z), .int (nI (1)), .int (nI (100))]) (rest := [.ref (ad 0)]) (w := wM cI cZ ad) ⟨hx, hb, hml, hown, hts⟩ hF hR (c_X5_in_i hG S ((z)) ((nI (1))) ((nI (100)))) (va_cwS 3 hts gX5_append_X5_in rfl rfl rfl (by decide +kernel) ⟨Nat.le_of_ble_eq_true rfl, Nat.le_of_ble_eq_true rfl⟩) rfl hl rfl (Nat.le_of_ble_eq_true rfl) (by decide) dX5_append_35 (fun r6 S6 H locs hp6 hR => ?_)
  obtain ⟨hp6, hs6⟩ := hp6
  subst S6
  rcases hp6 with ⟨hb35, hr6⟩ | ⟨hb35, hr6⟩
  · exact absurd hb35 (zbadv_in hz9)
  · subst r6
    refine z_if_ne_n (tgt := 45) hx hb dX5_append_38 (by decide) (by omega) (fun h38_7 => by omega) (fun h38_7 => ?_)
    refine lv_iconst (v := (nI (2))) hx hb dX5_append_41 (by decide) ?_
    refine lv_goto (tgt := 61) hx hb dX5_append_42 (by decide) ?_
    refine z_callV_i (As := [.int (nI (2))]) (rest := []) (w := wM cI cZ ad) ⟨hx, hb, hml, hown, hts⟩ hF hR (c_X5_holds_nz hG S 2 (by decide) (by decide)) (cwV 1 hts gX5_append_X5_holds rfl rfl rfl (by decide +kernel) ⟨Nat.le_of_ble_eq_true rfl, Nat.le_of_ble_eq_true rfl⟩) (wM_c0 S) rfl rfl rfl hl rfl (Nat.le_of_ble_eq_true rfl) (by decide) dX5_append_61 (fun r8 S8 H locs hp8 hR => ?_)
    obtain ⟨hr8, hs8⟩ := hp8
    subst r8
    subst S8
    have hO8 := (zOK_th (i := 2) hO)
    refine z_if_ne_n (tgt := 69) hx hb dX5_append_64 (by decide) (by omega) (fun h64_9 => by omega) (fun h64_9 => ?_)
    refine lv_iconst (v := (nI (0))) hx hb dX5_append_67 (by decide) ?_
    exact z_iret (w := wM cI cZ ad) (S1 := (zth S 2)) hx hb hr hlk hF hR dX5_append_68 (⟨rfl, rfl⟩)
set_option maxHeartbeats 4000000 in
set_option maxRecDepth 100000 in
theorem c_X5_append_e4 {l : Launch} {D : va_G} {cI cZ : ClassId} {ad : Nat → Nat} {B : Nat → Prop} (hG : ∀ S : zS, va_D B (wM cI cZ ad S)) (S : zS) (p key v : Nat) (hO : zOK S) (hp : p < 4) (hk : key < 32) (hv : 1 ≤ v) (hv2 : v ≤ 100) (hn : ¬ zn S 0 p < 60) : zMi l yX5_append wsX5_append ({ frames := 2, cells := 0, slots := 0, locals := 42 } : Room) [.ref (ad 0), .int (nI (p)), .int (nI (key)), .int (nI (v))] D (zT cI cZ) B (wM cI cZ ad) S (fun (r : Int32) (S1 : zS) => r = (nI (0)) ∧ S1 = zth S 3) := by
  refine zMi_of (cc := cX5_append) (maxL := 5) (ret := (some .int)) (by decide) rfl (Nat.le_of_ble_eq_true rfl) ?_
  intro pg en s mm below meth cd hx hb hr hml hown hts hlk hF hR ls hl
  have hinX5 : ∀ w ∈ wsX50, w ∈ wsX5_append := by decide +kernel
  have hl : lv_has ls 5 [(0, .ref (ad 0)), (1, .int (nI (p))), (2, .int (nI (key))), (3, .int (nI (v)))] := hl
  refine lv_iload_n hx hb dX5_append_0 rfl (lv_at hl 1 rfl) ?_
  refine z_callS_i (As := [.int (nI (p))]) (rest := []) (w := wM cI cZ ad) ⟨hx, hb, hml, hown, hts⟩ hF hR (c_X5_isPartition_ok hG S p (by omega)) (va_cwS 1 hts gX5_append_X5_isPartition rfl rfl rfl (by decide +kernel) ⟨Nat.le_of_ble_eq_true rfl, Nat.le_of_ble_eq_true rfl⟩) rfl hl rfl (Nat.le_of_ble_eq_true rfl) (by decide) dX5_append_1 (fun r1 S1 H locs hp1 hR => ?_)
  obtain ⟨hr1, hs1⟩ := hp1
  subst r1
  subst S1
  refine z_if_eq_n (tgt := 18) hx hb dX5_append_4 (by decide) (by omega) (fun h4_2 => by omega) (fun h4_2 => ?_)
  refine lv_iload_n hx hb dX5_append_7 rfl (lv_at hl 2 rfl) ?_
  refine z_callS_i (As := [.int (nI (key))]) (rest := []) (w := wM cI cZ ad) ⟨hx, hb, hml, hown, hts⟩ hF hR (c_X5_isKey_ok hG S key (by omega)) (va_cwS 1 hts gX5_append_X5_isKey rfl rfl rfl (by decide +kernel) ⟨Nat.le_of_ble_eq_true rfl, Nat.le_of_ble_eq_true rfl⟩) rfl hl rfl (Nat.le_of_ble_eq_true rfl) (by decide) dX5_append_8 (fun r3 S3 H locs hp3 hR => ?_)
  obtain ⟨hr3, hs3⟩ := hp3
  subst r3
  subst S3
  refine z_if_eq_n (tgt := 18) hx hb dX5_append_11 (by decide) (by omega) (fun h11_4 => by omega) (fun h11_4 => ?_)
  refine lv_iconst (v := (nI (1))) hx hb dX5_append_14 (by decide) ?_
  refine lv_goto (tgt := 19) hx hb dX5_append_15 (by decide) ?_
  refine lv_istore (lv' := [(4, .int (nI (1))), (0, .ref (ad 0)), (1, .int (nI (p))), (2, .int (nI (key))), (3, .int (nI (v)))]) hx hb dX5_append_19 hl (by decide) rfl (fun ls hl => ?_)
  refine lv_aload_n hx hb dX5_append_21 rfl (lv_at hl 1 rfl) ?_
  refine lv_iload hx hb dX5_append_22 (lv_at hl 0 rfl) ?_
  refine z_if_ne_n (tgt := 31) hx hb dX5_append_24 (by decide) (by omega) (fun h24_5 => ?_) (fun h24_5 => by omega)
  refine lv_iload_n hx hb dX5_append_31 rfl (lv_at hl 4 rfl) ?_
  refine lv_iconst (v := (nI (1))) hx hb dX5_append_32 (by decide) ?_
  refine lv_bipush (v := (nI (100))) hx hb dX5_append_33 (by decide) ?_
  refine z_callS_i (As := [.int (nI (v)), .int (nI (1)), .int (nI (100))]) (rest := [.ref (ad 0)]) (w := wM cI cZ ad) ⟨hx, hb, hml, hown, hts⟩ hF hR (c_X5_in_n hG S v 1 100 (by omega) (by omega) (by omega)) (va_cwS 3 hts gX5_append_X5_in rfl rfl rfl (by decide +kernel) ⟨Nat.le_of_ble_eq_true rfl, Nat.le_of_ble_eq_true rfl⟩) rfl hl rfl (Nat.le_of_ble_eq_true rfl) (by decide) dX5_append_35 (fun r6 S6 H locs hp6 hR => ?_)
  obtain ⟨hp6, hs6⟩ := hp6
  subst S6
  rcases hp6 with ⟨hb35, hr6⟩ | ⟨hb35, hr6⟩
  · subst r6
    refine z_if_ne_n (tgt := 45) hx hb dX5_append_38 (by decide) (by omega) (fun h38_7 => ?_) (fun h38_7 => by omega)
    refine lv_aload_n hx hb dX5_append_45 rfl (lv_at hl 1 rfl) ?_
    refine z_get (own := RX5) (C := RX5) (T := TX5) (N := 27) (k := 2) (v := .ref (ad 1)) hx hb hts hinX5 hown hF hR (wM_c0 S) rfl (by decide) (by decide +kernel) rfl rfl dX5_append_46 ?_
    refine lv_iload_n hx hb dX5_append_49 rfl (lv_at hl 2 rfl) ?_
    refine z_iald_n (f := S 0) hx hb hF hR (wM_c1 S) zT_0 dX5_append_50 (by decide) (by omega) ?_
    refine lv_topi (fun v9 ev9 => ?_)
    obtain rfl : v9 = (nI (zn S 0 (p))) := ev9.trans (zOK.n0 hO _).1
    have hb50_8 := (zOK.n0 hO (p)).2
    refine lv_bipush (v := (nI (60))) hx hb dX5_append_51 (by decide) ?_
    refine z_ne_n (tgt := 60) hx hb dX5_append_53 (by decide) (by omega) (by omega) (fun h53_10 => by omega) (fun h53_10 => ?_)
    refine lv_iconst (v := (nI (3))) hx hb dX5_append_56 (by decide) ?_
    refine lv_goto (tgt := 61) hx hb dX5_append_57 (by decide) ?_
    refine z_callV_i (As := [.int (nI (3))]) (rest := []) (w := wM cI cZ ad) ⟨hx, hb, hml, hown, hts⟩ hF hR (c_X5_holds_nz hG S 3 (by decide) (by decide)) (cwV 1 hts gX5_append_X5_holds rfl rfl rfl (by decide +kernel) ⟨Nat.le_of_ble_eq_true rfl, Nat.le_of_ble_eq_true rfl⟩) (wM_c0 S) rfl rfl rfl hl rfl (Nat.le_of_ble_eq_true rfl) (by decide) dX5_append_61 (fun r11 S11 H locs hp11 hR => ?_)
    obtain ⟨hr11, hs11⟩ := hp11
    subst r11
    subst S11
    have hO11 := (zOK_th (i := 3) hO)
    refine z_if_ne_n (tgt := 69) hx hb dX5_append_64 (by decide) (by omega) (fun h64_12 => by omega) (fun h64_12 => ?_)
    refine lv_iconst (v := (nI (0))) hx hb dX5_append_67 (by decide) ?_
    exact z_iret (w := wM cI cZ ad) (S1 := (zth S 3)) hx hb hr hlk hF hR dX5_append_68 (⟨rfl, rfl⟩)
  · exact absurd ⟨by omega, by omega⟩ hb35
set_option maxHeartbeats 4000000 in
set_option maxRecDepth 100000 in
theorem c_X5_append_ok {l : Launch} {D : va_G} {cI cZ : ClassId} {ad : Nat → Nat} {B : Nat → Prop} (hG : ∀ S : zS, va_D B (wM cI cZ ad S)) (S : zS) (p key v : Nat) (hO : zOK S) (hp : p < 4) (hk : key < 32) (hv : 1 ≤ v) (hv2 : v ≤ 100) (hn : zn S 0 p < 60) : zMi l yX5_append wsX5_append ({ frames := 2, cells := 0, slots := 0, locals := 42 } : Room) [.ref (ad 0), .int (nI (p)), .int (nI (key)), .int (nI (v))] D (zT cI cZ) B (wM cI cZ ad) S (fun (r : Int32) (S1 : zS) => r = (nI (zn S 0 p)) ∧ S1 = sp_app (zth S 0) p (nI (1000 * key + v))) := by
  refine zMi_of (cc := cX5_append) (maxL := 5) (ret := (some .int)) (by decide) rfl (Nat.le_of_ble_eq_true rfl) ?_
  intro pg en s mm below meth cd hx hb hr hml hown hts hlk hF hR ls hl
  have hinX5 : ∀ w ∈ wsX50, w ∈ wsX5_append := by decide +kernel
  have hl : lv_has ls 5 [(0, .ref (ad 0)), (1, .int (nI (p))), (2, .int (nI (key))), (3, .int (nI (v)))] := hl
  have hn0 : zn (zth S 0) 0 p < 60 := hn
  refine lv_iload_n hx hb dX5_append_0 rfl (lv_at hl 1 rfl) ?_
  refine z_callS_i (As := [.int (nI (p))]) (rest := []) (w := wM cI cZ ad) ⟨hx, hb, hml, hown, hts⟩ hF hR (c_X5_isPartition_ok hG S p (by omega)) (va_cwS 1 hts gX5_append_X5_isPartition rfl rfl rfl (by decide +kernel) ⟨Nat.le_of_ble_eq_true rfl, Nat.le_of_ble_eq_true rfl⟩) rfl hl rfl (Nat.le_of_ble_eq_true rfl) (by decide) dX5_append_1 (fun r1 S1 H locs hp1 hR => ?_)
  obtain ⟨hr1, hs1⟩ := hp1
  subst r1
  subst S1
  refine z_if_eq_n (tgt := 18) hx hb dX5_append_4 (by decide) (by omega) (fun h4_2 => by omega) (fun h4_2 => ?_)
  refine lv_iload_n hx hb dX5_append_7 rfl (lv_at hl 2 rfl) ?_
  refine z_callS_i (As := [.int (nI (key))]) (rest := []) (w := wM cI cZ ad) ⟨hx, hb, hml, hown, hts⟩ hF hR (c_X5_isKey_ok hG S key (by omega)) (va_cwS 1 hts gX5_append_X5_isKey rfl rfl rfl (by decide +kernel) ⟨Nat.le_of_ble_eq_true rfl, Nat.le_of_ble_eq_true rfl⟩) rfl hl rfl (Nat.le_of_ble_eq_true rfl) (by decide) dX5_append_8 (fun r3 S3 H locs hp3 hR => ?_)
  obtain ⟨hr3, hs3⟩ := hp3
  subst r3
  subst S3
  refine z_if_eq_n (tgt := 18) hx hb dX5_append_11 (by decide) (by omega) (fun h11_4 => by omega) (fun h11_4 => ?_)
  refine lv_iconst (v := (nI (1))) hx hb dX5_append_14 (by decide) ?_
  refine lv_goto (tgt := 19) hx hb dX5_append_15 (by decide) ?_
  refine lv_istore (lv' := [(4, .int (nI (1))), (0, .ref (ad 0)), (1, .int (nI (p))), (2, .int (nI (key))), (3, .int (nI (v)))]) hx hb dX5_append_19 hl (by decide) rfl (fun ls hl => ?_)
  refine lv_aload_n hx hb dX5_append_21 rfl (lv_at hl 1 rfl) ?_
  refine lv_iload hx hb dX5_append_22 (lv_at hl 0 rfl) ?_
  refine z_if_ne_n (tgt := 31) hx hb dX5_append_24 (by decide) (by omega) (fun h24_5 => ?_) (fun h24_5 => by omega)
  refine lv_iload_n hx hb dX5_append_31 rfl (lv_at hl 4 rfl) ?_
  refine lv_iconst (v := (nI (1))) hx hb dX5_append_32 (by decide) ?_
  refine lv_bipush (v := (nI (100))) hx hb dX5_append_33 (by decide) ?_
  refine z_callS_i (As := [.int (nI (v)), .int (nI (1)), .int (nI (100))]) (rest := [.ref (ad 0)]) (w := wM cI cZ ad) ⟨hx, hb, hml, hown, hts⟩ hF hR (c_X5_in_n hG S v 1 100 (by omega) (by omega) (by omega)) (va_cwS 3 hts gX5_append_X5_in rfl rfl rfl (by decide +kernel) ⟨Nat.le_of_ble_eq_true rfl, Nat.le_of_ble_eq_true rfl⟩) rfl hl rfl (Nat.le_of_ble_eq_true rfl) (by decide) dX5_append_35 (fun r6 S6 H locs hp6 hR => ?_)
  obtain ⟨hp6, hs6⟩ := hp6
  subst S6
  rcases hp6 with ⟨hb35, hr6⟩ | ⟨hb35, hr6⟩
  · subst r6
    refine z_if_ne_n (tgt := 45) hx hb dX5_append_38 (by decide) (by omega) (fun h38_7 => ?_) (fun h38_7 => by omega)
    refine lv_aload_n hx hb dX5_append_45 rfl (lv_at hl 1 rfl) ?_
    refine z_get (own := RX5) (C := RX5) (T := TX5) (N := 27) (k := 2) (v := .ref (ad 1)) hx hb hts hinX5 hown hF hR (wM_c0 S) rfl (by decide) (by decide +kernel) rfl rfl dX5_append_46 ?_
    refine lv_iload_n hx hb dX5_append_49 rfl (lv_at hl 2 rfl) ?_
    refine z_iald_n (f := S 0) hx hb hF hR (wM_c1 S) zT_0 dX5_append_50 (by decide) (by omega) ?_
    refine lv_topi (fun v9 ev9 => ?_)
    obtain rfl : v9 = (nI (zn S 0 (p))) := ev9.trans (zOK.n0 hO _).1
    have hb50_8 := (zOK.n0 hO (p)).2
    refine lv_bipush (v := (nI (60))) hx hb dX5_append_51 (by decide) ?_
    refine z_ne_n (tgt := 60) hx hb dX5_append_53 (by decide) (by omega) (by omega) (fun h53_10 => ?_) (fun h53_10 => by omega)
    refine lv_iconst (v := (nI (0))) hx hb dX5_append_60 (by decide) ?_
    refine z_callV_i (As := [.int (nI (0))]) (rest := []) (w := wM cI cZ ad) ⟨hx, hb, hml, hown, hts⟩ hF hR (c_X5_holds_z hG S ) (cwV 1 hts gX5_append_X5_holds rfl rfl rfl (by decide +kernel) ⟨Nat.le_of_ble_eq_true rfl, Nat.le_of_ble_eq_true rfl⟩) (wM_c0 S) rfl rfl rfl hl rfl (Nat.le_of_ble_eq_true rfl) (by decide) dX5_append_61 (fun r11 S11 H locs hp11 hR => ?_)
    obtain ⟨hr11, hs11⟩ := hp11
    subst r11
    subst S11
    have hO11 := (zOK_th (i := 0) hO)
    refine z_if_ne_n (tgt := 69) hx hb dX5_append_64 (by decide) (by omega) (fun h64_12 => ?_) (fun h64_12 => by omega)
    refine lv_aload_n hx hb dX5_append_69 rfl (lv_at hl 1 rfl) ?_
    refine z_get (own := RX5) (C := RX5) (T := TX5) (N := 27) (k := 4) (v := .ref (ad 2)) hx hb hts hinX5 hown hF hR (wM_c0 (zth S 0)) rfl (by decide) (by decide +kernel) rfl rfl dX5_append_70 ?_
    refine lv_bipush (v := (nI (60))) hx hb dX5_append_73 (by decide) ?_
    refine lv_iload_n hx hb dX5_append_75 rfl (lv_at hl 2 rfl) ?_
    refine z_imul_n hx hb dX5_append_76 ?_
    refine lv_aload_n hx hb dX5_append_77 rfl (lv_at hl 1 rfl) ?_
    refine z_get (own := RX5) (C := RX5) (T := TX5) (N := 27) (k := 2) (v := .ref (ad 1)) hx hb hts hinX5 hown hF hR (wM_c0 (zth S 0)) rfl (by decide) (by decide +kernel) rfl rfl dX5_append_78 ?_
    refine lv_iload_n hx hb dX5_append_81 rfl (lv_at hl 2 rfl) ?_
    refine z_iald_n (f := (zth S 0) 0) hx hb hF hR (wM_c1 (zth S 0)) zT_0 dX5_append_82 (by decide) (by omega) ?_
    refine lv_topi (fun v14 ev14 => ?_)
    obtain rfl : v14 = (nI (zn (zth S 0) 0 (p))) := ev14.trans (zOK.n0 hO11 _).1
    have hb82_13 := (zOK.n0 hO11 (p)).2
    refine z_iadd_n hx hb dX5_append_83 ?_
    refine lv_sipush (v := (nI (1000))) hx hb dX5_append_84 (by decide) ?_
    refine lv_iload_n hx hb dX5_append_87 rfl (lv_at hl 3 rfl) ?_
    refine z_imul_n hx hb dX5_append_88 ?_
    refine lv_iload_n hx hb dX5_append_89 rfl (lv_at hl 4 rfl) ?_
    refine z_iadd_n hx hb dX5_append_90 ?_
    refine z_iast_n (f := (zth S 0) 1) hx hb hF (hG (zth S 0)) hR (wM_c2 (zth S 0)) zT_0 (wM_s1 (zth S 0) (upd ((zth S 0) 1) ((60 * p) + (zn (zth S 0) 0 (p))) (nI ((1000 * key) + v)))) dX5_append_91 (by decide) (by omega) (fun H locs hR => ?_)
    refine lv_aload_n hx hb dX5_append_92 rfl (lv_at hl 1 rfl) ?_
    refine z_get (own := RX5) (C := RX5) (T := TX5) (N := 27) (k := 2) (v := .ref (ad 1)) hx hb hts hinX5 hown hF hR (wM_c0 (zU (zth S 0) 1 (upd ((zth S 0) 1) ((60 * p) + (zn (zth S 0) 0 (p))) (nI ((1000 * key) + v))))) rfl (by decide) (by decide +kernel) rfl rfl dX5_append_93 ?_
    refine lv_iload_n hx hb dX5_append_96 rfl (lv_at hl 2 rfl) ?_
    refine lv_dup2_11 hx hb dX5_append_97 rfl rfl ?_
    refine z_iald_n (f := (zth S 0) 0) hx hb hF hR (wM_c1 (zU (zth S 0) 1 (upd ((zth S 0) 1) ((60 * p) + (zn (zth S 0) 0 (p))) (nI ((1000 * key) + v))))) zT_0 dX5_append_98 (by decide) (by omega) ?_
    refine lv_topi (fun v16 ev16 => ?_)
    obtain rfl : v16 = (nI (zn (zth S 0) 0 (p))) := ev16.trans (zOK.n0 hO11 _).1
    have hb98_15 := (zOK.n0 hO11 (p)).2
    refine lv_iconst (v := (nI (1))) hx hb dX5_append_99 (by decide) ?_
    refine z_iadd_n hx hb dX5_append_100 ?_
    refine z_iast_n (f := (zth S 0) 0) hx hb hF (hG (zU (zth S 0) 1 (upd ((zth S 0) 1) ((60 * p) + (zn (zth S 0) 0 (p))) (nI ((1000 * key) + v))))) hR (wM_c1 (zU (zth S 0) 1 (upd ((zth S 0) 1) ((60 * p) + (zn (zth S 0) 0 (p))) (nI ((1000 * key) + v))))) zT_0 (wM_s0 (zU (zth S 0) 1 (upd ((zth S 0) 1) ((60 * p) + (zn (zth S 0) 0 (p))) (nI ((1000 * key) + v)))) (upd ((zth S 0) 0) (p) (nI ((zn (zth S 0) 0 (p)) + 1)))) dX5_append_101 (by decide) (by omega) (fun H locs hR => ?_)
    refine lv_aload_n hx hb dX5_append_102 rfl (lv_at hl 1 rfl) ?_
    refine z_get (own := RX5) (C := RX5) (T := TX5) (N := 27) (k := 2) (v := .ref (ad 1)) hx hb hts hinX5 hown hF hR (wM_c0 (zU (zU (zth S 0) 1 (upd ((zth S 0) 1) ((60 * p) + (zn (zth S 0) 0 (p))) (nI ((1000 * key) + v)))) 0 (upd ((zth S 0) 0) (p) (nI ((zn (zth S 0) 0 (p)) + 1))))) rfl (by decide) (by decide +kernel) rfl rfl dX5_append_103 ?_
    refine lv_iload_n hx hb dX5_append_106 rfl (lv_at hl 2 rfl) ?_
    refine z_iald_n (f := (upd ((zth S 0) 0) (p) (nI ((zn (zth S 0) 0 (p)) + 1)))) hx hb hF hR (wM_c1 (zU (zU (zth S 0) 1 (upd ((zth S 0) 1) ((60 * p) + (zn (zth S 0) 0 (p))) (nI ((1000 * key) + v)))) 0 (upd ((zth S 0) 0) (p) (nI ((zn (zth S 0) 0 (p)) + 1))))) zT_0 dX5_append_107 (by decide) (by omega) ?_
    refine lv_topi (fun v17 ev17 => ?_)
    obtain rfl : v17 = (nI (zn (zth S 0) 0 p + 1)) := ev17.trans (pk_us)
    refine lv_iconst (v := (nI (1))) hx hb dX5_append_108 (by decide) ?_
    refine z_isub_n hx hb dX5_append_109 (by omega) ?_
    exact z_iret (w := wM cI cZ ad) (S1 := (zU (zU (zth S 0) 1 (upd ((zth S 0) 1) ((60 * p) + (zn (zth S 0) 0 (p))) (nI ((1000 * key) + v)))) 0 (upd ((zth S 0) 0) (p) (nI ((zn (zth S 0) 0 (p)) + 1))))) hx hb hr hlk hF hR dX5_append_110 (⟨rfl, rfl⟩)
  · exact absurd ⟨by omega, by omega⟩ hb35
set_option maxHeartbeats 4000000 in
set_option maxRecDepth 100000 in
theorem c_X5_read_e1 {l : Launch} {D : va_G} {cI cZ : ClassId} {ad : Nat → Nat} {B : Nat → Prop} (hG : ∀ S : zS, va_D B (wM cI cZ ad S)) (S : zS) (x : Int32) (hO : zOK S) (hxb : zbad x 4) : zMi l yX5_read wsX5_read ({ frames := 3, cells := 0, slots := 0, locals := 65 } : Room) [.ref (ad 0), .int (x)] D (zT cI cZ) B (wM cI cZ ad) S (fun (r : Int32) (S1 : zS) => r = (nI (0)) ∧ S1 = zth S 1) := by
  refine zMi_of (cc := cX5_read) (maxL := 2) (ret := (some .int)) (by decide) rfl (Nat.le_of_ble_eq_true rfl) ?_
  intro pg en s mm below meth cd hx hb hr hml hown hts hlk hF hR ls hl
  have hl : lv_has ls 2 [(0, .ref (ad 0)), (1, .int (x))] := hl
  refine lv_aload_n hx hb dX5_read_0 rfl (lv_at hl 0 rfl) ?_
  refine lv_iload_n hx hb dX5_read_1 rfl (lv_at hl 1 rfl) ?_
  refine z_callS_i (As := [.int (x)]) (rest := [.ref (ad 0)]) (w := wM cI cZ ad) ⟨hx, hb, hml, hown, hts⟩ hF hR (c_X5_isPartition_bad hG S ((x)) hxb) (va_cwS 1 hts gX5_read_X5_isPartition rfl rfl rfl (by decide +kernel) ⟨Nat.le_of_ble_eq_true rfl, Nat.le_of_ble_eq_true rfl⟩) rfl hl rfl (Nat.le_of_ble_eq_true rfl) (by decide) dX5_read_2 (fun r1 S1 H locs hp1 hR => ?_)
  obtain ⟨hr1, hs1⟩ := hp1
  subst r1
  subst S1
  refine z_if_ne_n (tgt := 12) hx hb dX5_read_5 (by decide) (by omega) (fun h5_2 => by omega) (fun h5_2 => ?_)
  refine lv_iconst (v := (nI (1))) hx hb dX5_read_8 (by decide) ?_
  refine lv_goto (tgt := 25) hx hb dX5_read_9 (by decide) ?_
  refine z_callV_i (As := [.int (nI (1))]) (rest := []) (w := wM cI cZ ad) ⟨hx, hb, hml, hown, hts⟩ hF hR (c_X5_holds_nz hG S 1 (by decide) (by decide)) (cwV 1 hts gX5_read_X5_holds rfl rfl rfl (by decide +kernel) ⟨Nat.le_of_ble_eq_true rfl, Nat.le_of_ble_eq_true rfl⟩) (wM_c0 S) rfl rfl rfl hl rfl (Nat.le_of_ble_eq_true rfl) (by decide) dX5_read_25 (fun r3 S3 H locs hp3 hR => ?_)
  obtain ⟨hr3, hs3⟩ := hp3
  subst r3
  subst S3
  have hO3 := (zOK_th (i := 1) hO)
  refine z_if_eq_n (tgt := 39) hx hb dX5_read_28 (by decide) (by omega) (fun h28_4 => ?_) (fun h28_4 => by omega)
  refine lv_iconst (v := (nI (0))) hx hb dX5_read_39 (by decide) ?_
  exact z_iret (w := wM cI cZ ad) (S1 := (zth S 1)) hx hb hr hlk hF hR dX5_read_40 (⟨rfl, rfl⟩)
set_option maxHeartbeats 4000000 in
set_option maxRecDepth 100000 in
theorem c_X5_read_e2 {l : Launch} {D : va_G} {cI cZ : ClassId} {ad : Nat → Nat} {B : Nat → Prop} (hG : ∀ S : zS, va_D B (wM cI cZ ad S)) (S : zS) (p : Nat) (hO : zOK S) (hp : p < 4) (hc : ¬ zcanR S p) : zMi l yX5_read wsX5_read ({ frames := 3, cells := 0, slots := 0, locals := 65 } : Room) [.ref (ad 0), .int (nI (p))] D (zT cI cZ) B (wM cI cZ ad) S (fun (r : Int32) (S1 : zS) => r = (nI (0)) ∧ S1 = zth S 2) := by
  refine zMi_of (cc := cX5_read) (maxL := 2) (ret := (some .int)) (by decide) rfl (Nat.le_of_ble_eq_true rfl) ?_
  intro pg en s mm below meth cd hx hb hr hml hown hts hlk hF hR ls hl
  have hl : lv_has ls 2 [(0, .ref (ad 0)), (1, .int (nI (p)))] := hl
  refine lv_aload_n hx hb dX5_read_0 rfl (lv_at hl 0 rfl) ?_
  refine lv_iload_n hx hb dX5_read_1 rfl (lv_at hl 1 rfl) ?_
  refine z_callS_i (As := [.int (nI (p))]) (rest := [.ref (ad 0)]) (w := wM cI cZ ad) ⟨hx, hb, hml, hown, hts⟩ hF hR (c_X5_isPartition_ok hG S p (by omega)) (va_cwS 1 hts gX5_read_X5_isPartition rfl rfl rfl (by decide +kernel) ⟨Nat.le_of_ble_eq_true rfl, Nat.le_of_ble_eq_true rfl⟩) rfl hl rfl (Nat.le_of_ble_eq_true rfl) (by decide) dX5_read_2 (fun r1 S1 H locs hp1 hR => ?_)
  obtain ⟨hr1, hs1⟩ := hp1
  subst r1
  subst S1
  refine z_if_ne_n (tgt := 12) hx hb dX5_read_5 (by decide) (by omega) (fun h5_2 => ?_) (fun h5_2 => by omega)
  refine lv_aload_n hx hb dX5_read_12 rfl (lv_at hl 0 rfl) ?_
  refine lv_iload_n hx hb dX5_read_13 rfl (lv_at hl 1 rfl) ?_
  refine z_callV_i (As := [.int (nI (p))]) (rest := [.ref (ad 0)]) (w := wM cI cZ ad) ⟨hx, hb, hml, hown, hts⟩ hF hR (c_X5_canRead hG S p hO (by omega)) (cwV 1 hts gX5_read_X5_canRead rfl rfl rfl (by decide +kernel) ⟨Nat.le_of_ble_eq_true rfl, Nat.le_of_ble_eq_true rfl⟩) (wM_c0 S) rfl rfl rfl hl rfl (Nat.le_of_ble_eq_true rfl) (by decide) dX5_read_14 (fun r3 S3 H locs hp3 hR => ?_)
  obtain ⟨hp3, hs3⟩ := hp3
  subst S3
  rcases hp3 with ⟨hb14, hr3⟩ | ⟨hb14, hr3⟩
  · exact absurd hb14 hc
  · subst r3
    refine z_if_eq_n (tgt := 24) hx hb dX5_read_17 (by decide) (by omega) (fun h17_4 => ?_) (fun h17_4 => by omega)
    refine lv_iconst (v := (nI (2))) hx hb dX5_read_24 (by decide) ?_
    refine z_callV_i (As := [.int (nI (2))]) (rest := []) (w := wM cI cZ ad) ⟨hx, hb, hml, hown, hts⟩ hF hR (c_X5_holds_nz hG S 2 (by decide) (by decide)) (cwV 1 hts gX5_read_X5_holds rfl rfl rfl (by decide +kernel) ⟨Nat.le_of_ble_eq_true rfl, Nat.le_of_ble_eq_true rfl⟩) (wM_c0 S) rfl rfl rfl hl rfl (Nat.le_of_ble_eq_true rfl) (by decide) dX5_read_25 (fun r5 S5 H locs hp5 hR => ?_)
    obtain ⟨hr5, hs5⟩ := hp5
    subst r5
    subst S5
    have hO5 := (zOK_th (i := 2) hO)
    refine z_if_eq_n (tgt := 39) hx hb dX5_read_28 (by decide) (by omega) (fun h28_6 => ?_) (fun h28_6 => by omega)
    refine lv_iconst (v := (nI (0))) hx hb dX5_read_39 (by decide) ?_
    exact z_iret (w := wM cI cZ ad) (S1 := (zth S 2)) hx hb hr hlk hF hR dX5_read_40 (⟨rfl, rfl⟩)
set_option maxHeartbeats 4000000 in
set_option maxRecDepth 100000 in
theorem c_X5_read_ok {l : Launch} {D : va_G} {cI cZ : ClassId} {ad : Nat → Nat} {B : Nat → Prop} (hG : ∀ S : zS, va_D B (wM cI cZ ad S)) (S : zS) (p : Nat) (hO : zOK S) (hp : p < 4) (hc : zcanR S p) : zMi l yX5_read wsX5_read ({ frames := 3, cells := 0, slots := 0, locals := 65 } : Room) [.ref (ad 0), .int (nI (p))] D (zT cI cZ) B (wM cI cZ ad) S (fun (r : Int32) (S1 : zS) => r = (nI (zrw S p)) ∧ S1 = sp_read (zth S 0) p) := by
  refine zMi_of (cc := cX5_read) (maxL := 2) (ret := (some .int)) (by decide) rfl (Nat.le_of_ble_eq_true rfl) ?_
  intro pg en s mm below meth cd hx hb hr hml hown hts hlk hF hR ls hl
  have hl : lv_has ls 2 [(0, .ref (ad 0)), (1, .int (nI (p)))] := hl
  refine lv_aload_n hx hb dX5_read_0 rfl (lv_at hl 0 rfl) ?_
  refine lv_iload_n hx hb dX5_read_1 rfl (lv_at hl 1 rfl) ?_
  refine z_callS_i (As := [.int (nI (p))]) (rest := [.ref (ad 0)]) (w := wM cI cZ ad) ⟨hx, hb, hml, hown, hts⟩ hF hR (c_X5_isPartition_ok hG S p (by omega)) (va_cwS 1 hts gX5_read_X5_isPartition rfl rfl rfl (by decide +kernel) ⟨Nat.le_of_ble_eq_true rfl, Nat.le_of_ble_eq_true rfl⟩) rfl hl rfl (Nat.le_of_ble_eq_true rfl) (by decide) dX5_read_2 (fun r1 S1 H locs hp1 hR => ?_)
  obtain ⟨hr1, hs1⟩ := hp1
  subst r1
  subst S1
  refine z_if_ne_n (tgt := 12) hx hb dX5_read_5 (by decide) (by omega) (fun h5_2 => ?_) (fun h5_2 => by omega)
  refine lv_aload_n hx hb dX5_read_12 rfl (lv_at hl 0 rfl) ?_
  refine lv_iload_n hx hb dX5_read_13 rfl (lv_at hl 1 rfl) ?_
  refine z_callV_i (As := [.int (nI (p))]) (rest := [.ref (ad 0)]) (w := wM cI cZ ad) ⟨hx, hb, hml, hown, hts⟩ hF hR (c_X5_canRead hG S p hO (by omega)) (cwV 1 hts gX5_read_X5_canRead rfl rfl rfl (by decide +kernel) ⟨Nat.le_of_ble_eq_true rfl, Nat.le_of_ble_eq_true rfl⟩) (wM_c0 S) rfl rfl rfl hl rfl (Nat.le_of_ble_eq_true rfl) (by decide) dX5_read_14 (fun r3 S3 H locs hp3 hR => ?_)
  obtain ⟨hp3, hs3⟩ := hp3
  subst S3
  rcases hp3 with ⟨hb14, hr3⟩ | ⟨hb14, hr3⟩
  · subst r3
    refine z_if_eq_n (tgt := 24) hx hb dX5_read_17 (by decide) (by omega) (fun h17_4 => by omega) (fun h17_4 => ?_)
    refine lv_iconst (v := (nI (0))) hx hb dX5_read_20 (by decide) ?_
    refine lv_goto (tgt := 25) hx hb dX5_read_21 (by decide) ?_
    refine z_callV_i (As := [.int (nI (0))]) (rest := []) (w := wM cI cZ ad) ⟨hx, hb, hml, hown, hts⟩ hF hR (c_X5_holds_z hG S ) (cwV 1 hts gX5_read_X5_holds rfl rfl rfl (by decide +kernel) ⟨Nat.le_of_ble_eq_true rfl, Nat.le_of_ble_eq_true rfl⟩) (wM_c0 S) rfl rfl rfl hl rfl (Nat.le_of_ble_eq_true rfl) (by decide) dX5_read_25 (fun r5 S5 H locs hp5 hR => ?_)
    obtain ⟨hr5, hs5⟩ := hp5
    subst r5
    subst S5
    have hO5 := (zOK_th (i := 0) hO)
    refine z_if_eq_n (tgt := 39) hx hb dX5_read_28 (by decide) (by omega) (fun h28_6 => by omega) (fun h28_6 => ?_)
    refine lv_aload_n hx hb dX5_read_31 rfl (lv_at hl 0 rfl) ?_
    refine lv_iload_n hx hb dX5_read_32 rfl (lv_at hl 1 rfl) ?_
    refine z_callV_i (As := [.int (nI (p))]) (rest := []) (w := wM cI cZ ad) ⟨hx, hb, hml, hown, hts⟩ hF hR (c_X5_reads hG (zth S 0) p (zOK_th hO) (by omega) hc) (cwV 1 hts gX5_read_X5_reads rfl rfl rfl (by decide +kernel) ⟨Nat.le_of_ble_eq_true rfl, Nat.le_of_ble_eq_true rfl⟩) (wM_c0 (zth S 0)) rfl rfl rfl hl rfl (Nat.le_of_ble_eq_true rfl) (by decide) dX5_read_33 (fun r7 S7 H locs hp7 hR => ?_)
    obtain ⟨hr7, hs7⟩ := hp7
    subst r7
    subst S7
    refine lv_goto (tgt := 40) hx hb dX5_read_36 (by decide) ?_
    exact z_iret (w := wM cI cZ ad) (S1 := (sp_read (zth S 0) p)) hx hb hr hlk hF hR dX5_read_40 (⟨rfl, rfl⟩)
  · exact absurd hc hb14
set_option maxHeartbeats 4000000 in
set_option maxRecDepth 100000 in
theorem c_X5_sendBarrier_e1 {l : Launch} {D : va_G} {cI cZ : ClassId} {ad : Nat → Nat} {B : Nat → Prop} (hG : ∀ S : zS, va_D B (wM cI cZ ad S)) (S : zS) (x : Int32) (hO : zOK S) (hxb : zbad x 4) : zMi l yX5_sendBarrier wsX5_sendBarrier ({ frames := 2, cells := 0, slots := 0, locals := 44 } : Room) [.ref (ad 0), .int (x)] D (zT cI cZ) B (wM cI cZ ad) S (fun (r : Int32) (S1 : zS) => r = (nI (0)) ∧ S1 = zth S 1) := by
  refine zMi_of (cc := cX5_sendBarrier) (maxL := 3) (ret := (some .int)) (by decide) rfl (Nat.le_of_ble_eq_true rfl) ?_
  intro pg en s mm below meth cd hx hb hr hml hown hts hlk hF hR ls hl
  have hinX5 : ∀ w ∈ wsX50, w ∈ wsX5_sendBarrier := by decide +kernel
  have hl : lv_has ls 3 [(0, .ref (ad 0)), (1, .int (x))] := hl
  refine lv_aload_n hx hb dX5_sendBarrier_0 rfl (lv_at hl 0 rfl) ?_
  refine lv_iload_n hx hb dX5_sendBarrier_1 rfl (lv_at hl 1 rfl) ?_
  refine z_callS_i (As := [.int (x)]) (rest := [.ref (ad 0)]) (w := wM cI cZ ad) ⟨hx, hb, hml, hown, hts⟩ hF hR (c_X5_isPartition_bad hG S ((x)) hxb) (va_cwS 1 hts gX5_sendBarrier_X5_isPartition rfl rfl rfl (by decide +kernel) ⟨Nat.le_of_ble_eq_true rfl, Nat.le_of_ble_eq_true rfl⟩) rfl hl rfl (Nat.le_of_ble_eq_true rfl) (by decide) dX5_sendBarrier_2 (fun r1 S1 H locs hp1 hR => ?_)
  obtain ⟨hr1, hs1⟩ := hp1
  subst r1
  subst S1
  refine z_if_ne_n (tgt := 12) hx hb dX5_sendBarrier_5 (by decide) (by omega) (fun h5_2 => by omega) (fun h5_2 => ?_)
  refine lv_iconst (v := (nI (1))) hx hb dX5_sendBarrier_8 (by decide) ?_
  refine lv_goto (tgt := 25) hx hb dX5_sendBarrier_9 (by decide) ?_
  refine z_callV_i (As := [.int (nI (1))]) (rest := []) (w := wM cI cZ ad) ⟨hx, hb, hml, hown, hts⟩ hF hR (c_X5_holds_nz hG S 1 (by decide) (by decide)) (cwV 1 hts gX5_sendBarrier_X5_holds rfl rfl rfl (by decide +kernel) ⟨Nat.le_of_ble_eq_true rfl, Nat.le_of_ble_eq_true rfl⟩) (wM_c0 S) rfl rfl rfl hl rfl (Nat.le_of_ble_eq_true rfl) (by decide) dX5_sendBarrier_25 (fun r3 S3 H locs hp3 hR => ?_)
  obtain ⟨hr3, hs3⟩ := hp3
  subst r3
  subst S3
  have hO3 := (zOK_th (i := 1) hO)
  refine z_if_ne_n (tgt := 33) hx hb dX5_sendBarrier_28 (by decide) (by omega) (fun h28_4 => by omega) (fun h28_4 => ?_)
  refine lv_iconst (v := (nI (0))) hx hb dX5_sendBarrier_31 (by decide) ?_
  exact z_iret (w := wM cI cZ ad) (S1 := (zth S 1)) hx hb hr hlk hF hR dX5_sendBarrier_32 (⟨rfl, rfl⟩)
set_option maxHeartbeats 4000000 in
set_option maxRecDepth 100000 in
theorem c_X5_sendBarrier_e2 {l : Launch} {D : va_G} {cI cZ : ClassId} {ad : Nat → Nat} {B : Nat → Prop} (hG : ∀ S : zS, va_D B (wM cI cZ ad S)) (S : zS) (p : Nat) (hO : zOK S) (hp : p < 4) (hc : ¬ ((¬ S 22 2 = (-1) ∧ S 4 p = nI 0) ∧ ∀ w, w < zn S 22 0 → zn S 7 (4 * p + w) < 8)) : zMi l yX5_sendBarrier wsX5_sendBarrier ({ frames := 2, cells := 0, slots := 0, locals := 44 } : Room) [.ref (ad 0), .int (nI (p))] D (zT cI cZ) B (wM cI cZ ad) S (fun (r : Int32) (S1 : zS) => r = (nI (0)) ∧ S1 = zth S 2) := by
  refine zMi_of (cc := cX5_sendBarrier) (maxL := 3) (ret := (some .int)) (by decide) rfl (Nat.le_of_ble_eq_true rfl) ?_
  intro pg en s mm below meth cd hx hb hr hml hown hts hlk hF hR ls hl
  have hinX5 : ∀ w ∈ wsX50, w ∈ wsX5_sendBarrier := by decide +kernel
  have hl : lv_has ls 3 [(0, .ref (ad 0)), (1, .int (nI (p)))] := hl
  refine lv_aload_n hx hb dX5_sendBarrier_0 rfl (lv_at hl 0 rfl) ?_
  refine lv_iload_n hx hb dX5_sendBarrier_1 rfl (lv_at hl 1 rfl) ?_
  refine z_callS_i (As := [.int (nI (p))]) (rest := [.ref (ad 0)]) (w := wM cI cZ ad) ⟨hx, hb, hml, hown, hts⟩ hF hR (c_X5_isPartition_ok hG S p (by omega)) (va_cwS 1 hts gX5_sendBarrier_X5_isPartition rfl rfl rfl (by decide +kernel) ⟨Nat.le_of_ble_eq_true rfl, Nat.le_of_ble_eq_true rfl⟩) rfl hl rfl (Nat.le_of_ble_eq_true rfl) (by decide) dX5_sendBarrier_2 (fun r1 S1 H locs hp1 hR => ?_)
  obtain ⟨hr1, hs1⟩ := hp1
  subst r1
  subst S1
  refine z_if_ne_n (tgt := 12) hx hb dX5_sendBarrier_5 (by decide) (by omega) (fun h5_2 => ?_) (fun h5_2 => by omega)
  refine lv_aload_n hx hb dX5_sendBarrier_12 rfl (lv_at hl 0 rfl) ?_
  refine lv_iload_n hx hb dX5_sendBarrier_13 rfl (lv_at hl 1 rfl) ?_
  refine z_callV_i (As := [.int (nI (p))]) (rest := [.ref (ad 0)]) (w := wM cI cZ ad) ⟨hx, hb, hml, hown, hts⟩ hF hR (c_X5_canSend hG S p hO (by omega)) (cwV 1 hts gX5_sendBarrier_X5_canSend rfl rfl rfl (by decide +kernel) ⟨Nat.le_of_ble_eq_true rfl, Nat.le_of_ble_eq_true rfl⟩) (wM_c0 S) rfl rfl rfl hl rfl (Nat.le_of_ble_eq_true rfl) (by decide) dX5_sendBarrier_14 (fun r3 S3 H locs hp3 hR => ?_)
  obtain ⟨hp3, hs3⟩ := hp3
  subst S3
  rcases hp3 with ⟨hb14, hr3⟩ | ⟨hb14, hr3⟩
  · exact absurd hb14 hc
  · subst r3
    refine z_if_eq_n (tgt := 24) hx hb dX5_sendBarrier_17 (by decide) (by omega) (fun h17_4 => ?_) (fun h17_4 => by omega)
    refine lv_iconst (v := (nI (2))) hx hb dX5_sendBarrier_24 (by decide) ?_
    refine z_callV_i (As := [.int (nI (2))]) (rest := []) (w := wM cI cZ ad) ⟨hx, hb, hml, hown, hts⟩ hF hR (c_X5_holds_nz hG S 2 (by decide) (by decide)) (cwV 1 hts gX5_sendBarrier_X5_holds rfl rfl rfl (by decide +kernel) ⟨Nat.le_of_ble_eq_true rfl, Nat.le_of_ble_eq_true rfl⟩) (wM_c0 S) rfl rfl rfl hl rfl (Nat.le_of_ble_eq_true rfl) (by decide) dX5_sendBarrier_25 (fun r5 S5 H locs hp5 hR => ?_)
    obtain ⟨hr5, hs5⟩ := hp5
    subst r5
    subst S5
    have hO5 := (zOK_th (i := 2) hO)
    refine z_if_ne_n (tgt := 33) hx hb dX5_sendBarrier_28 (by decide) (by omega) (fun h28_6 => by omega) (fun h28_6 => ?_)
    refine lv_iconst (v := (nI (0))) hx hb dX5_sendBarrier_31 (by decide) ?_
    exact z_iret (w := wM cI cZ ad) (S1 := (zth S 2)) hx hb hr hlk hF hR dX5_sendBarrier_32 (⟨rfl, rfl⟩)
set_option maxHeartbeats 4000000 in
set_option maxRecDepth 100000 in
theorem c_X5_sendBarrier_ok {l : Launch} {D : va_G} {cI cZ : ClassId} {ad : Nat → Nat} {B : Nat → Prop} (hG : ∀ S : zS, va_D B (wM cI cZ ad S)) (S : zS) (p : Nat) (hO : zOK S) (hp : p < 4) (hc : (¬ S 22 2 = (-1) ∧ S 4 p = nI 0) ∧ ∀ w, w < zn S 22 0 → zn S 7 (4 * p + w) < 8) (hxb : (-(S 22 2)).toInt ≤ 31100) : zMi l yX5_sendBarrier wsX5_sendBarrier ({ frames := 2, cells := 0, slots := 0, locals := 44 } : Room) [.ref (ad 0), .int (nI (p))] D (zT cI cZ) B (wM cI cZ ad) S (fun (r : Int32) (S1 : zS) => r = (nI (zn (mo_send (zth S 0) p) 2 p)) ∧ S1 = mo_send (zth S 0) p) := by
  refine zMi_of (cc := cX5_sendBarrier) (maxL := 3) (ret := (some .int)) (by decide) rfl (Nat.le_of_ble_eq_true rfl) ?_
  intro pg en s mm below meth cd hx hb hr hml hown hts hlk hF hR ls hl
  have hinX5 : ∀ w ∈ wsX50, w ∈ wsX5_sendBarrier := by decide +kernel
  have hl : lv_has ls 3 [(0, .ref (ad 0)), (1, .int (nI (p)))] := hl
  have hW1 := (zOK.w hO).2.1
  have hW4 := (zOK.w hO).2.2
  have hK : zOK (sp_keep (zth S 0) p) := zOK_keep (zOK_th hO)
  refine lv_aload_n hx hb dX5_sendBarrier_0 rfl (lv_at hl 0 rfl) ?_
  refine lv_iload_n hx hb dX5_sendBarrier_1 rfl (lv_at hl 1 rfl) ?_
  refine z_callS_i (As := [.int (nI (p))]) (rest := [.ref (ad 0)]) (w := wM cI cZ ad) ⟨hx, hb, hml, hown, hts⟩ hF hR (c_X5_isPartition_ok hG S p (by omega)) (va_cwS 1 hts gX5_sendBarrier_X5_isPartition rfl rfl rfl (by decide +kernel) ⟨Nat.le_of_ble_eq_true rfl, Nat.le_of_ble_eq_true rfl⟩) rfl hl rfl (Nat.le_of_ble_eq_true rfl) (by decide) dX5_sendBarrier_2 (fun r1 S1 H locs hp1 hR => ?_)
  obtain ⟨hr1, hs1⟩ := hp1
  subst r1
  subst S1
  refine z_if_ne_n (tgt := 12) hx hb dX5_sendBarrier_5 (by decide) (by omega) (fun h5_2 => ?_) (fun h5_2 => by omega)
  refine lv_aload_n hx hb dX5_sendBarrier_12 rfl (lv_at hl 0 rfl) ?_
  refine lv_iload_n hx hb dX5_sendBarrier_13 rfl (lv_at hl 1 rfl) ?_
  refine z_callV_i (As := [.int (nI (p))]) (rest := [.ref (ad 0)]) (w := wM cI cZ ad) ⟨hx, hb, hml, hown, hts⟩ hF hR (c_X5_canSend hG S p hO (by omega)) (cwV 1 hts gX5_sendBarrier_X5_canSend rfl rfl rfl (by decide +kernel) ⟨Nat.le_of_ble_eq_true rfl, Nat.le_of_ble_eq_true rfl⟩) (wM_c0 S) rfl rfl rfl hl rfl (Nat.le_of_ble_eq_true rfl) (by decide) dX5_sendBarrier_14 (fun r3 S3 H locs hp3 hR => ?_)
  obtain ⟨hp3, hs3⟩ := hp3
  subst S3
  rcases hp3 with ⟨hb14, hr3⟩ | ⟨hb14, hr3⟩
  · subst r3
    refine z_if_eq_n (tgt := 24) hx hb dX5_sendBarrier_17 (by decide) (by omega) (fun h17_4 => by omega) (fun h17_4 => ?_)
    refine lv_iconst (v := (nI (0))) hx hb dX5_sendBarrier_20 (by decide) ?_
    refine lv_goto (tgt := 25) hx hb dX5_sendBarrier_21 (by decide) ?_
    refine z_callV_i (As := [.int (nI (0))]) (rest := []) (w := wM cI cZ ad) ⟨hx, hb, hml, hown, hts⟩ hF hR (c_X5_holds_z hG S ) (cwV 1 hts gX5_sendBarrier_X5_holds rfl rfl rfl (by decide +kernel) ⟨Nat.le_of_ble_eq_true rfl, Nat.le_of_ble_eq_true rfl⟩) (wM_c0 S) rfl rfl rfl hl rfl (Nat.le_of_ble_eq_true rfl) (by decide) dX5_sendBarrier_25 (fun r5 S5 H locs hp5 hR => ?_)
    obtain ⟨hr5, hs5⟩ := hp5
    subst r5
    subst S5
    have hO5 := (zOK_th (i := 0) hO)
    refine z_if_ne_n (tgt := 33) hx hb dX5_sendBarrier_28 (by decide) (by omega) (fun h28_6 => ?_) (fun h28_6 => by omega)
    refine lv_aload_n hx hb dX5_sendBarrier_33 rfl (lv_at hl 0 rfl) ?_
    refine z_get (own := RX5) (C := RX5) (T := TX5) (N := 27) (k := 20) (v := .ref (ad 5)) hx hb hts hinX5 hown hF hR (wM_c0 (zth S 0)) rfl (by decide) (by decide +kernel) rfl rfl dX5_sendBarrier_34 ?_
    refine lv_iload_n hx hb dX5_sendBarrier_37 rfl (lv_at hl 1 rfl) ?_
    refine lv_iconst (v := (nI (1))) hx hb dX5_sendBarrier_38 (by decide) ?_
    refine z_zast_n (f := (zth S 0) 4) hx hb hF (hG (zth S 0)) hR (wM_c5 (zth S 0)) zT_1 (wM_s4 (zth S 0) (upd ((zth S 0) 4) (p) (nI (1)))) dX5_sendBarrier_39 (by decide) (by omega) (by decide +kernel) (fun H locs hR => ?_)
    refine lv_aload_n hx hb dX5_sendBarrier_40 rfl (lv_at hl 0 rfl) ?_
    refine z_get (own := RX5) (C := RX5) (T := TX5) (N := 27) (k := 21) (v := .ref (ad 6)) hx hb hts hinX5 hown hF hR (wM_c0 (zU (zth S 0) 4 (upd ((zth S 0) 4) (p) (nI (1))))) rfl (by decide) (by decide +kernel) rfl rfl dX5_sendBarrier_41 ?_
    refine lv_iload_n hx hb dX5_sendBarrier_44 rfl (lv_at hl 1 rfl) ?_
    refine lv_aload_n hx hb dX5_sendBarrier_45 rfl (lv_at hl 0 rfl) ?_
    refine z_get (own := RX5) (C := RX5) (T := TX5) (N := 27) (k := 3) (v := .ref (ad 3)) hx hb hts hinX5 hown hF hR (wM_c0 (zU (zth S 0) 4 (upd ((zth S 0) 4) (p) (nI (1))))) rfl (by decide) (by decide +kernel) rfl rfl dX5_sendBarrier_46 ?_
    refine lv_iload_n hx hb dX5_sendBarrier_49 rfl (lv_at hl 1 rfl) ?_
    refine z_iald_n (f := (zth S 0) 2) hx hb hF hR (wM_c3 (zU (zth S 0) 4 (upd ((zth S 0) 4) (p) (nI (1))))) zT_0 dX5_sendBarrier_50 (by decide) (by omega) ?_
    refine lv_topi (fun v8 ev8 => ?_)
    obtain rfl : v8 = (nI (zn (zth S 0) 2 (p))) := ev8.trans (zOK.n2 hO5 _).1
    have hb50_7 := (zOK.n2 hO5 (p)).2
    refine z_iast_n (f := (zth S 0) 5) hx hb hF (hG (zU (zth S 0) 4 (upd ((zth S 0) 4) (p) (nI (1))))) hR (wM_c6 (zU (zth S 0) 4 (upd ((zth S 0) 4) (p) (nI (1))))) zT_0 (wM_s5 (zU (zth S 0) 4 (upd ((zth S 0) 4) (p) (nI (1)))) (upd ((zth S 0) 5) (p) (nI (zn (zth S 0) 2 (p))))) dX5_sendBarrier_51 (by decide) (by omega) (fun H locs hR => ?_)
    have hR : zR D B (wM cI cZ ad (sp_keep (zth S 0) p)) s H locs := by rw [show (sp_keep (zth S 0) p) = (zU (zU (zth S 0) 4 (upd ((zth S 0) 4) (p) (nI (1)))) 5 (upd ((zth S 0) 5) (p) (nI (zn (zth S 0) 2 (p))))) from rfl]; exact hR
    refine lv_iconst (v := (nI (0))) hx hb dX5_sendBarrier_52 (by decide) ?_
    refine lv_istore_n (lv' := [(2, .int (nI (0))), (0, .ref (ad 0)), (1, .int (nI (p)))]) hx hb dX5_sendBarrier_53 rfl hl (by decide) rfl (fun ls hl => ?_)
    have loop54 : ∀ (nf54 : Nat) (k : Nat), (k ≤ zn S 22 0) → zn S 22 0 - k < nf54 → ∀ (H : Heap) (locs : List Loc), zR D B (wM cI cZ ad (sp_sb (sp_keep (zth S 0) p) p k)) s H locs → ∀ ls : Array Slot, lv_has ls 3 [(0, .ref (ad 0)), (1, .int (nI (p))), (2, .int (nI (k)))] → W pg l en ({ frames := 2, cells := 0, slots := 0, locals := 44 } : Room) s mm ([.ref (ad 0), .int (nI (p))] : List Value).toArray below meth cd H locs 0 0 (MQ below (va_Qi (fun (r : Int32) (S1 : zS) => r = (nI (zn (mo_send (zth S 0) p) 2 p)) ∧ S1 = mo_send (zth S 0) p) (zB D (zT cI cZ) (wM cI cZ ad)) (zA B s.heap.size)) ([.ref (ad 0), .int (nI (p))] : List Value).toArray s 0 0 (zA B s.heap.size)) (F0 mm 54 ls []) := by
      intro nf54
      induction nf54 with
      | zero => intro k hk4 hn; exact absurd hn (Nat.not_lt_zero _)
      | succ nf54 ih54 =>
        intro k hk4 hn H locs hR ls hl
        have hOk : zOK (sp_sb (sp_keep (zth S 0) p) p k) := zOK_sb hK hxb hc.2 k hk4
        refine lv_iload_n hx hb dX5_sendBarrier_54 rfl (lv_at hl 2 rfl) ?_
        refine lv_aload_n hx hb dX5_sendBarrier_55 rfl (lv_at hl 0 rfl) ?_
        refine z_get (own := RX5) (C := RX5) (T := TX5) (N := 27) (k := 1) (v := .int ((sp_sb (sp_keep (zth S 0) p) p k) 22 0)) hx hb hts hinX5 hown hF hR (wM_c0 (sp_sb (sp_keep (zth S 0) p) p k)) rfl (by decide) (by decide +kernel) rfl rfl dX5_sendBarrier_56 ?_
        refine lv_topi (fun v9 ev9 => ?_)
        obtain rfl : v9 = (nI (zn S 22 0)) := ev9.trans ((zOK.w hOk).1.trans (congrArg nI (congrArg Int32.toNatClampNeg (w2_sb (sp_keep (zth S 0) p) p 0 k))))
        refine z_ge_n (tgt := 82) hx hb dX5_sendBarrier_59 (by decide) (by omega) (by omega) (fun h59_10 => ?_) (fun h59_10 => ?_)
        · skip
          have hO9 : zOK (mo_send (zth S 0) p) := zOK_sb hK hxb hc.2 (zn S 22 0) (Nat.le_refl _)
          have hR : zR D B (wM cI cZ ad (mo_send (zth S 0) p)) s H locs := by rw [show (mo_send (zth S 0) p) = (sp_sb (sp_keep (zth S 0) p) p k) from by rw [show k = zn S 22 0 from by omega]; rfl]; exact hR
          refine lv_aload_n hx hb dX5_sendBarrier_82 rfl (lv_at hl 0 rfl) ?_
          refine z_get (own := RX5) (C := RX5) (T := TX5) (N := 27) (k := 3) (v := .ref (ad 3)) hx hb hts hinX5 hown hF hR (wM_c0 (mo_send (zth S 0) p)) rfl (by decide) (by decide +kernel) rfl rfl dX5_sendBarrier_83 ?_
          refine lv_iload_n hx hb dX5_sendBarrier_86 rfl (lv_at hl 1 rfl) ?_
          refine z_iald_n (f := (mo_send (zth S 0) p) 2) hx hb hF hR (wM_c3 (mo_send (zth S 0) p)) zT_0 dX5_sendBarrier_87 (by decide) (by omega) ?_
          refine lv_topi (fun v12 ev12 => ?_)
          obtain rfl : v12 = (nI (zn (mo_send (zth S 0) p) 2 (p))) := ev12.trans (zOK.n2 hO9 _).1
          have hb87_11 := (zOK.n2 hO9 (p)).2
          exact z_iret (w := wM cI cZ ad) (S1 := (mo_send (zth S 0) p)) hx hb hr hlk hF hR dX5_sendBarrier_88 (⟨rfl, rfl⟩)
        · skip
          refine lv_aload_n hx hb dX5_sendBarrier_62 rfl (lv_at hl 0 rfl) ?_
          refine lv_iload_n hx hb dX5_sendBarrier_63 rfl (lv_at hl 1 rfl) ?_
          refine lv_iload_n hx hb dX5_sendBarrier_64 rfl (lv_at hl 2 rfl) ?_
          refine z_callS_i (As := [.int (nI (p)), .int (nI (k))]) (rest := [.ref (ad 0)]) (w := wM cI cZ ad) ⟨hx, hb, hml, hown, hts⟩ hF hR (c_X5_channel hG (sp_sb (sp_keep (zth S 0) p) p k) p k) (va_cwS 2 hts gX5_sendBarrier_X5_channel rfl rfl rfl (by decide +kernel) ⟨Nat.le_of_ble_eq_true rfl, Nat.le_of_ble_eq_true rfl⟩) rfl hl rfl (Nat.le_of_ble_eq_true rfl) (by decide) dX5_sendBarrier_65 (fun r13 S13 H locs hp13 hR => ?_)
          obtain ⟨hr13, hs13⟩ := hp13
          subst r13
          subst S13
          refine lv_aload_n hx hb dX5_sendBarrier_68 rfl (lv_at hl 0 rfl) ?_
          refine z_get (own := RX5) (C := RX5) (T := TX5) (N := 27) (k := 18) (v := .int ((sp_sb (sp_keep (zth S 0) p) p k) 22 2)) hx hb hts hinX5 hown hF hR (wM_c0 (sp_sb (sp_keep (zth S 0) p) p k)) rfl (by decide) (by decide +kernel) rfl rfl dX5_sendBarrier_69 ?_
          refine lv_ineg hx hb dX5_sendBarrier_72 ?_
          refine z_callV_v (As := [.int (nI (4 * p + k)), .int (-((sp_sb (sp_keep (zth S 0) p) p k) 22 2))]) (rest := []) (w := wM cI cZ ad) ⟨hx, hb, hml, hown, hts⟩ hF hR (c_X5_puts hG (sp_sb (sp_keep (zth S 0) p) p k) (4 * p + k) (-(sp_sb (sp_keep (zth S 0) p) p k 22 2)) hOk (by omega) (by rw [zn_sb7 (sp_keep (zth S 0) p) p k _ (by omega)]; exact hc.2 k (by omega))) (cwV 2 hts gX5_sendBarrier_X5_puts rfl rfl rfl (by decide +kernel) ⟨Nat.le_of_ble_eq_true rfl, Nat.le_of_ble_eq_true rfl⟩) (wM_c0 (sp_sb (sp_keep (zth S 0) p) p k)) rfl rfl rfl hl rfl (Nat.le_of_ble_eq_true rfl) (by decide) dX5_sendBarrier_73 (fun S14 H locs hp14 hR => ?_)
          subst S14
          refine lv_iinc (v := (nI (k + 1))) (lv' := [(2, .int (nI (k + 1))), (0, .ref (ad 0)), (1, .int (nI (p)))]) hx hb dX5_sendBarrier_76 hl (k := 2) rfl (z_inc _) (by decide) rfl (fun ls hl => ?_)
          refine lv_goto (tgt := 54) hx hb dX5_sendBarrier_79 (by decide) ?_
          exact ih54 (k + 1) (by omega) (by omega) _ _ (by rw [show sp_sb (sp_keep (zth S 0) p) p (k + 1) = (sp_put (sp_sb (sp_keep (zth S 0) p) p k) (4 * p + k) ((-((sp_sb (sp_keep (zth S 0) p) p k) 22 2)))) from rfl]; exact hR) ls (lv_sub hl [1, 2, 0] rfl)
    exact loop54 _ 0 (by omega) (Nat.lt_succ_self _) _ _ (by rw [show sp_sb (sp_keep (zth S 0) p) p 0 = (sp_keep (zth S 0) p) from rfl]; exact hR) ls (lv_sub hl [1, 2, 0] rfl)
  · exact absurd hc hb14
set_option maxHeartbeats 4000000 in
set_option maxRecDepth 100000 in
theorem c_X5_take_e1 {l : Launch} {D : va_G} {cI cZ : ClassId} {ad : Nat → Nat} {B : Nat → Prop} (hG : ∀ S : zS, va_D B (wM cI cZ ad S)) (S : zS) (x y : Int32) (hO : zOK S) (hxb : zbad x (zn S 22 0)) : zMi l yX5_take wsX5_take ({ frames := 4, cells := 0, slots := 0, locals := 90 } : Room) [.ref (ad 0), .int (x), .int (y)] D (zT cI cZ) B (wM cI cZ ad) S (fun (r : Int32) (S1 : zS) => r = (nI (0)) ∧ S1 = zth S 1) := by
  refine zMi_of (cc := cX5_take) (maxL := 3) (ret := (some .int)) (by decide) rfl (Nat.le_of_ble_eq_true rfl) ?_
  intro pg en s mm below meth cd hx hb hr hml hown hts hlk hF hR ls hl
  have hl : lv_has ls 3 [(0, .ref (ad 0)), (1, .int (x)), (2, .int (y))] := hl
  refine lv_aload_n hx hb dX5_take_0 rfl (lv_at hl 0 rfl) ?_
  refine lv_aload_n hx hb dX5_take_1 rfl (lv_at hl 0 rfl) ?_
  refine lv_iload_n hx hb dX5_take_2 rfl (lv_at hl 1 rfl) ?_
  refine z_callV_i (As := [.int (x)]) (rest := [.ref (ad 0)]) (w := wM cI cZ ad) ⟨hx, hb, hml, hown, hts⟩ hF hR (c_X5_isWorker_bad hG S ((x)) hO hxb) (cwV 1 hts gX5_take_X5_isWorker rfl rfl rfl (by decide +kernel) ⟨Nat.le_of_ble_eq_true rfl, Nat.le_of_ble_eq_true rfl⟩) (wM_c0 S) rfl rfl rfl hl rfl (Nat.le_of_ble_eq_true rfl) (by decide) dX5_take_3 (fun r1 S1 H locs hp1 hR => ?_)
  obtain ⟨hr1, hs1⟩ := hp1
  subst r1
  subst S1
  refine z_if_eq_n (tgt := 16) hx hb dX5_take_6 (by decide) (by omega) (fun h6_2 => ?_) (fun h6_2 => by omega)
  refine lv_iconst (v := (nI (1))) hx hb dX5_take_16 (by decide) ?_
  refine lv_goto (tgt := 34) hx hb dX5_take_17 (by decide) ?_
  refine z_callV_i (As := [.int (nI (1))]) (rest := []) (w := wM cI cZ ad) ⟨hx, hb, hml, hown, hts⟩ hF hR (c_X5_holds_nz hG S 1 (by decide) (by decide)) (cwV 1 hts gX5_take_X5_holds rfl rfl rfl (by decide +kernel) ⟨Nat.le_of_ble_eq_true rfl, Nat.le_of_ble_eq_true rfl⟩) (wM_c0 S) rfl rfl rfl hl rfl (Nat.le_of_ble_eq_true rfl) (by decide) dX5_take_34 (fun r3 S3 H locs hp3 hR => ?_)
  obtain ⟨hr3, hs3⟩ := hp3
  subst r3
  subst S3
  have hO3 := (zOK_th (i := 1) hO)
  refine z_if_eq_n (tgt := 49) hx hb dX5_take_37 (by decide) (by omega) (fun h37_4 => ?_) (fun h37_4 => by omega)
  refine lv_iconst (v := (nI (0))) hx hb dX5_take_49 (by decide) ?_
  exact z_iret (w := wM cI cZ ad) (S1 := (zth S 1)) hx hb hr hlk hF hR dX5_take_50 (⟨rfl, rfl⟩)
set_option maxHeartbeats 4000000 in
set_option maxRecDepth 100000 in
theorem c_X5_take_e2 {l : Launch} {D : va_G} {cI cZ : ClassId} {ad : Nat → Nat} {B : Nat → Prop} (hG : ∀ S : zS, va_D B (wM cI cZ ad S)) (S : zS) (w : Nat) (y : Int32) (hO : zOK S) (hw : w < zn S 22 0) (hxb : zbad y 4) : zMi l yX5_take wsX5_take ({ frames := 4, cells := 0, slots := 0, locals := 90 } : Room) [.ref (ad 0), .int (nI (w)), .int (y)] D (zT cI cZ) B (wM cI cZ ad) S (fun (r : Int32) (S1 : zS) => r = (nI (0)) ∧ S1 = zth S 1) := by
  refine zMi_of (cc := cX5_take) (maxL := 3) (ret := (some .int)) (by decide) rfl (Nat.le_of_ble_eq_true rfl) ?_
  intro pg en s mm below meth cd hx hb hr hml hown hts hlk hF hR ls hl
  have hl : lv_has ls 3 [(0, .ref (ad 0)), (1, .int (nI (w))), (2, .int (y))] := hl
  refine lv_aload_n hx hb dX5_take_0 rfl (lv_at hl 0 rfl) ?_
  refine lv_aload_n hx hb dX5_take_1 rfl (lv_at hl 0 rfl) ?_
  refine lv_iload_n hx hb dX5_take_2 rfl (lv_at hl 1 rfl) ?_
  refine z_callV_i (As := [.int (nI (w))]) (rest := [.ref (ad 0)]) (w := wM cI cZ ad) ⟨hx, hb, hml, hown, hts⟩ hF hR (c_X5_isWorker_ok hG S w hO (by omega)) (cwV 1 hts gX5_take_X5_isWorker rfl rfl rfl (by decide +kernel) ⟨Nat.le_of_ble_eq_true rfl, Nat.le_of_ble_eq_true rfl⟩) (wM_c0 S) rfl rfl rfl hl rfl (Nat.le_of_ble_eq_true rfl) (by decide) dX5_take_3 (fun r1 S1 H locs hp1 hR => ?_)
  obtain ⟨hr1, hs1⟩ := hp1
  subst r1
  subst S1
  refine z_if_eq_n (tgt := 16) hx hb dX5_take_6 (by decide) (by omega) (fun h6_2 => by omega) (fun h6_2 => ?_)
  refine lv_iload_n hx hb dX5_take_9 rfl (lv_at hl 2 rfl) ?_
  refine z_callS_i (As := [.int (y)]) (rest := [.ref (ad 0)]) (w := wM cI cZ ad) ⟨hx, hb, hml, hown, hts⟩ hF hR (c_X5_isPartition_bad hG S ((y)) hxb) (va_cwS 1 hts gX5_take_X5_isPartition rfl rfl rfl (by decide +kernel) ⟨Nat.le_of_ble_eq_true rfl, Nat.le_of_ble_eq_true rfl⟩) rfl hl rfl (Nat.le_of_ble_eq_true rfl) (by decide) dX5_take_10 (fun r3 S3 H locs hp3 hR => ?_)
  obtain ⟨hr3, hs3⟩ := hp3
  subst r3
  subst S3
  refine z_if_ne_n (tgt := 20) hx hb dX5_take_13 (by decide) (by omega) (fun h13_4 => by omega) (fun h13_4 => ?_)
  refine lv_iconst (v := (nI (1))) hx hb dX5_take_16 (by decide) ?_
  refine lv_goto (tgt := 34) hx hb dX5_take_17 (by decide) ?_
  refine z_callV_i (As := [.int (nI (1))]) (rest := []) (w := wM cI cZ ad) ⟨hx, hb, hml, hown, hts⟩ hF hR (c_X5_holds_nz hG S 1 (by decide) (by decide)) (cwV 1 hts gX5_take_X5_holds rfl rfl rfl (by decide +kernel) ⟨Nat.le_of_ble_eq_true rfl, Nat.le_of_ble_eq_true rfl⟩) (wM_c0 S) rfl rfl rfl hl rfl (Nat.le_of_ble_eq_true rfl) (by decide) dX5_take_34 (fun r5 S5 H locs hp5 hR => ?_)
  obtain ⟨hr5, hs5⟩ := hp5
  subst r5
  subst S5
  have hO5 := (zOK_th (i := 1) hO)
  refine z_if_eq_n (tgt := 49) hx hb dX5_take_37 (by decide) (by omega) (fun h37_6 => ?_) (fun h37_6 => by omega)
  refine lv_iconst (v := (nI (0))) hx hb dX5_take_49 (by decide) ?_
  exact z_iret (w := wM cI cZ ad) (S1 := (zth S 1)) hx hb hr hlk hF hR dX5_take_50 (⟨rfl, rfl⟩)
set_option maxHeartbeats 4000000 in
set_option maxRecDepth 100000 in
theorem c_X5_take_e3 {l : Launch} {D : va_G} {cI cZ : ClassId} {ad : Nat → Nat} {B : Nat → Prop} (hG : ∀ S : zS, va_D B (wM cI cZ ad S)) (S : zS) (w p : Nat) (hO : zOK S) (hw : w < zn S 22 0) (hp : p < 4) (hc : ¬ zcanT S p w) : zMi l yX5_take wsX5_take ({ frames := 4, cells := 0, slots := 0, locals := 90 } : Room) [.ref (ad 0), .int (nI (w)), .int (nI (p))] D (zT cI cZ) B (wM cI cZ ad) S (fun (r : Int32) (S1 : zS) => r = (nI (0)) ∧ S1 = zth S 2) := by
  refine zMi_of (cc := cX5_take) (maxL := 3) (ret := (some .int)) (by decide) rfl (Nat.le_of_ble_eq_true rfl) ?_
  intro pg en s mm below meth cd hx hb hr hml hown hts hlk hF hR ls hl
  have hl : lv_has ls 3 [(0, .ref (ad 0)), (1, .int (nI (w))), (2, .int (nI (p)))] := hl
  have hW1 := (zOK.w hO).2.1
  have hW4 := (zOK.w hO).2.2
  refine lv_aload_n hx hb dX5_take_0 rfl (lv_at hl 0 rfl) ?_
  refine lv_aload_n hx hb dX5_take_1 rfl (lv_at hl 0 rfl) ?_
  refine lv_iload_n hx hb dX5_take_2 rfl (lv_at hl 1 rfl) ?_
  refine z_callV_i (As := [.int (nI (w))]) (rest := [.ref (ad 0)]) (w := wM cI cZ ad) ⟨hx, hb, hml, hown, hts⟩ hF hR (c_X5_isWorker_ok hG S w hO (by omega)) (cwV 1 hts gX5_take_X5_isWorker rfl rfl rfl (by decide +kernel) ⟨Nat.le_of_ble_eq_true rfl, Nat.le_of_ble_eq_true rfl⟩) (wM_c0 S) rfl rfl rfl hl rfl (Nat.le_of_ble_eq_true rfl) (by decide) dX5_take_3 (fun r1 S1 H locs hp1 hR => ?_)
  obtain ⟨hr1, hs1⟩ := hp1
  subst r1
  subst S1
  refine z_if_eq_n (tgt := 16) hx hb dX5_take_6 (by decide) (by omega) (fun h6_2 => by omega) (fun h6_2 => ?_)
  refine lv_iload_n hx hb dX5_take_9 rfl (lv_at hl 2 rfl) ?_
  refine z_callS_i (As := [.int (nI (p))]) (rest := [.ref (ad 0)]) (w := wM cI cZ ad) ⟨hx, hb, hml, hown, hts⟩ hF hR (c_X5_isPartition_ok hG S p (by omega)) (va_cwS 1 hts gX5_take_X5_isPartition rfl rfl rfl (by decide +kernel) ⟨Nat.le_of_ble_eq_true rfl, Nat.le_of_ble_eq_true rfl⟩) rfl hl rfl (Nat.le_of_ble_eq_true rfl) (by decide) dX5_take_10 (fun r3 S3 H locs hp3 hR => ?_)
  obtain ⟨hr3, hs3⟩ := hp3
  subst r3
  subst S3
  refine z_if_ne_n (tgt := 20) hx hb dX5_take_13 (by decide) (by omega) (fun h13_4 => ?_) (fun h13_4 => by omega)
  refine lv_aload_n hx hb dX5_take_20 rfl (lv_at hl 0 rfl) ?_
  refine lv_iload_n hx hb dX5_take_21 rfl (lv_at hl 1 rfl) ?_
  refine lv_iload_n hx hb dX5_take_22 rfl (lv_at hl 2 rfl) ?_
  refine z_callV_i (As := [.int (nI (w)), .int (nI (p))]) (rest := [.ref (ad 0)]) (w := wM cI cZ ad) ⟨hx, hb, hml, hown, hts⟩ hF hR (c_X5_canTake hG S w p hO (by omega) (by omega)) (cwV 2 hts gX5_take_X5_canTake rfl rfl rfl (by decide +kernel) ⟨Nat.le_of_ble_eq_true rfl, Nat.le_of_ble_eq_true rfl⟩) (wM_c0 S) rfl rfl rfl hl rfl (Nat.le_of_ble_eq_true rfl) (by decide) dX5_take_23 (fun r5 S5 H locs hp5 hR => ?_)
  obtain ⟨hp5, hs5⟩ := hp5
  subst S5
  rcases hp5 with ⟨hb23, hr5⟩ | ⟨hb23, hr5⟩
  · exact absurd hb23 hc
  · subst r5
    refine z_if_eq_n (tgt := 33) hx hb dX5_take_26 (by decide) (by omega) (fun h26_6 => ?_) (fun h26_6 => by omega)
    refine lv_iconst (v := (nI (2))) hx hb dX5_take_33 (by decide) ?_
    refine z_callV_i (As := [.int (nI (2))]) (rest := []) (w := wM cI cZ ad) ⟨hx, hb, hml, hown, hts⟩ hF hR (c_X5_holds_nz hG S 2 (by decide) (by decide)) (cwV 1 hts gX5_take_X5_holds rfl rfl rfl (by decide +kernel) ⟨Nat.le_of_ble_eq_true rfl, Nat.le_of_ble_eq_true rfl⟩) (wM_c0 S) rfl rfl rfl hl rfl (Nat.le_of_ble_eq_true rfl) (by decide) dX5_take_34 (fun r7 S7 H locs hp7 hR => ?_)
    obtain ⟨hr7, hs7⟩ := hp7
    subst r7
    subst S7
    have hO7 := (zOK_th (i := 2) hO)
    refine z_if_eq_n (tgt := 49) hx hb dX5_take_37 (by decide) (by omega) (fun h37_8 => ?_) (fun h37_8 => by omega)
    refine lv_iconst (v := (nI (0))) hx hb dX5_take_49 (by decide) ?_
    exact z_iret (w := wM cI cZ ad) (S1 := (zth S 2)) hx hb hr hlk hF hR dX5_take_50 (⟨rfl, rfl⟩)
set_option maxHeartbeats 4000000 in
set_option maxRecDepth 100000 in
theorem c_X5_take_ok {l : Launch} {D : va_G} {cI cZ : ClassId} {ad : Nat → Nat} {B : Nat → Prop} (hG : ∀ S : zS, va_D B (wM cI cZ ad S)) (S : zS) (w p : Nat) (hO : zOK S) (hw : w < zn S 22 0) (hp : p < 4) (hc : zcanT S p w) : zMi l yX5_take wsX5_take ({ frames := 4, cells := 0, slots := 0, locals := 90 } : Room) [.ref (ad 0), .int (nI (w)), .int (nI (p))] D (zT cI cZ) B (wM cI cZ ad) S (fun (r : Int32) (S1 : zS) => r = (mo_tfr (zth S 0) p w) ∧ S1 = mo_tf (zth S 0) p w) := by
  refine zMi_of (cc := cX5_take) (maxL := 3) (ret := (some .int)) (by decide) rfl (Nat.le_of_ble_eq_true rfl) ?_
  intro pg en s mm below meth cd hx hb hr hml hown hts hlk hF hR ls hl
  have hl : lv_has ls 3 [(0, .ref (ad 0)), (1, .int (nI (w))), (2, .int (nI (p)))] := hl
  have hW1 := (zOK.w hO).2.1
  have hW4 := (zOK.w hO).2.2
  refine lv_aload_n hx hb dX5_take_0 rfl (lv_at hl 0 rfl) ?_
  refine lv_aload_n hx hb dX5_take_1 rfl (lv_at hl 0 rfl) ?_
  refine lv_iload_n hx hb dX5_take_2 rfl (lv_at hl 1 rfl) ?_
  refine z_callV_i (As := [.int (nI (w))]) (rest := [.ref (ad 0)]) (w := wM cI cZ ad) ⟨hx, hb, hml, hown, hts⟩ hF hR (c_X5_isWorker_ok hG S w hO (by omega)) (cwV 1 hts gX5_take_X5_isWorker rfl rfl rfl (by decide +kernel) ⟨Nat.le_of_ble_eq_true rfl, Nat.le_of_ble_eq_true rfl⟩) (wM_c0 S) rfl rfl rfl hl rfl (Nat.le_of_ble_eq_true rfl) (by decide) dX5_take_3 (fun r1 S1 H locs hp1 hR => ?_)
  obtain ⟨hr1, hs1⟩ := hp1
  subst r1
  subst S1
  refine z_if_eq_n (tgt := 16) hx hb dX5_take_6 (by decide) (by omega) (fun h6_2 => by omega) (fun h6_2 => ?_)
  refine lv_iload_n hx hb dX5_take_9 rfl (lv_at hl 2 rfl) ?_
  refine z_callS_i (As := [.int (nI (p))]) (rest := [.ref (ad 0)]) (w := wM cI cZ ad) ⟨hx, hb, hml, hown, hts⟩ hF hR (c_X5_isPartition_ok hG S p (by omega)) (va_cwS 1 hts gX5_take_X5_isPartition rfl rfl rfl (by decide +kernel) ⟨Nat.le_of_ble_eq_true rfl, Nat.le_of_ble_eq_true rfl⟩) rfl hl rfl (Nat.le_of_ble_eq_true rfl) (by decide) dX5_take_10 (fun r3 S3 H locs hp3 hR => ?_)
  obtain ⟨hr3, hs3⟩ := hp3
  subst r3
  subst S3
  refine z_if_ne_n (tgt := 20) hx hb dX5_take_13 (by decide) (by omega) (fun h13_4 => ?_) (fun h13_4 => by omega)
  refine lv_aload_n hx hb dX5_take_20 rfl (lv_at hl 0 rfl) ?_
  refine lv_iload_n hx hb dX5_take_21 rfl (lv_at hl 1 rfl) ?_
  refine lv_iload_n hx hb dX5_take_22 rfl (lv_at hl 2 rfl) ?_
  refine z_callV_i (As := [.int (nI (w)), .int (nI (p))]) (rest := [.ref (ad 0)]) (w := wM cI cZ ad) ⟨hx, hb, hml, hown, hts⟩ hF hR (c_X5_canTake hG S w p hO (by omega) (by omega)) (cwV 2 hts gX5_take_X5_canTake rfl rfl rfl (by decide +kernel) ⟨Nat.le_of_ble_eq_true rfl, Nat.le_of_ble_eq_true rfl⟩) (wM_c0 S) rfl rfl rfl hl rfl (Nat.le_of_ble_eq_true rfl) (by decide) dX5_take_23 (fun r5 S5 H locs hp5 hR => ?_)
  obtain ⟨hp5, hs5⟩ := hp5
  subst S5
  rcases hp5 with ⟨hb23, hr5⟩ | ⟨hb23, hr5⟩
  · subst r5
    refine z_if_eq_n (tgt := 33) hx hb dX5_take_26 (by decide) (by omega) (fun h26_6 => by omega) (fun h26_6 => ?_)
    refine lv_iconst (v := (nI (0))) hx hb dX5_take_29 (by decide) ?_
    refine lv_goto (tgt := 34) hx hb dX5_take_30 (by decide) ?_
    refine z_callV_i (As := [.int (nI (0))]) (rest := []) (w := wM cI cZ ad) ⟨hx, hb, hml, hown, hts⟩ hF hR (c_X5_holds_z hG S ) (cwV 1 hts gX5_take_X5_holds rfl rfl rfl (by decide +kernel) ⟨Nat.le_of_ble_eq_true rfl, Nat.le_of_ble_eq_true rfl⟩) (wM_c0 S) rfl rfl rfl hl rfl (Nat.le_of_ble_eq_true rfl) (by decide) dX5_take_34 (fun r7 S7 H locs hp7 hR => ?_)
    obtain ⟨hr7, hs7⟩ := hp7
    subst r7
    subst S7
    have hO7 := (zOK_th (i := 0) hO)
    refine z_if_eq_n (tgt := 49) hx hb dX5_take_37 (by decide) (by omega) (fun h37_8 => by omega) (fun h37_8 => ?_)
    refine lv_aload_n hx hb dX5_take_40 rfl (lv_at hl 0 rfl) ?_
    refine lv_iload_n hx hb dX5_take_41 rfl (lv_at hl 1 rfl) ?_
    refine lv_iload_n hx hb dX5_take_42 rfl (lv_at hl 2 rfl) ?_
    refine z_callV_i (As := [.int (nI (w)), .int (nI (p))]) (rest := []) (w := wM cI cZ ad) ⟨hx, hb, hml, hown, hts⟩ hF hR (c_X5_takes hG (zth S 0) w p (zOK_th hO) (by omega) (by omega) hc.1) (cwV 2 hts gX5_take_X5_takes rfl rfl rfl (by decide +kernel) ⟨Nat.le_of_ble_eq_true rfl, Nat.le_of_ble_eq_true rfl⟩) (wM_c0 (zth S 0)) rfl rfl rfl hl rfl (Nat.le_of_ble_eq_true rfl) (by decide) dX5_take_43 (fun r9 S9 H locs hp9 hR => ?_)
    obtain ⟨hr9, hs9⟩ := hp9
    subst r9
    subst S9
    have hO9 := (zOK_mtf (p := p) (w := w) hO7)
    refine lv_goto (tgt := 50) hx hb dX5_take_46 (by decide) ?_
    exact z_iret (w := wM cI cZ ad) (S1 := (mo_tf (zth S 0) p w)) hx hb hr hlk hF hR dX5_take_50 (⟨rfl, rfl⟩)
  · exact absurd hc hb23
set_option maxHeartbeats 4000000 in
set_option maxRecDepth 100000 in
theorem c_X5_pump_e1 {l : Launch} {D : va_G} {cI cZ : ClassId} {ad : Nat → Nat} {B : Nat → Prop} (hG : ∀ S : zS, va_D B (wM cI cZ ad S)) (S : zS) (z : Int32) (hO : zOK S) (hz9 : zbadv z 1 20) : zMi l yX5_pump wsX5_pump ({ frames := 4, cells := 0, slots := 0, locals := 90 } : Room) [.ref (ad 0), .int (z)] D (zT cI cZ) B (wM cI cZ ad) S (fun (r : Int32) (S1 : zS) => r = (nI (0)) ∧ S1 = zth S 1) := by
  refine zMi_of (cc := cX5_pump) (maxL := 6) (ret := (some .int)) (by decide) rfl (Nat.le_of_ble_eq_true rfl) ?_
  intro pg en s mm below meth cd hx hb hr hml hown hts hlk hF hR ls hl
  have hinX5 : ∀ w ∈ wsX50, w ∈ wsX5_pump := by decide +kernel
  have hl : lv_has ls 6 [(0, .ref (ad 0)), (1, .int (z))] := hl
  refine lv_aload_n hx hb dX5_pump_0 rfl (lv_at hl 0 rfl) ?_
  refine lv_iload_n hx hb dX5_pump_1 rfl (lv_at hl 1 rfl) ?_
  refine lv_iconst (v := (nI (1))) hx hb dX5_pump_2 (by decide) ?_
  refine lv_bipush (v := (nI (20))) hx hb dX5_pump_3 (by decide) ?_
  refine z_callS_i (As := [.int (z), .int (nI (1)), .int (nI (20))]) (rest := [.ref (ad 0)]) (w := wM cI cZ ad) ⟨hx, hb, hml, hown, hts⟩ hF hR (c_X5_in_i hG S ((z)) ((nI (1))) ((nI (20)))) (va_cwS 3 hts gX5_pump_X5_in rfl rfl rfl (by decide +kernel) ⟨Nat.le_of_ble_eq_true rfl, Nat.le_of_ble_eq_true rfl⟩) rfl hl rfl (Nat.le_of_ble_eq_true rfl) (by decide) dX5_pump_5 (fun r1 S1 H locs hp1 hR => ?_)
  obtain ⟨hp1, hs1⟩ := hp1
  subst S1
  rcases hp1 with ⟨hb5, hr1⟩ | ⟨hb5, hr1⟩
  · exact absurd hb5 (zbadv_in hz9)
  · subst r1
    refine z_if_eq_n (tgt := 15) hx hb dX5_pump_8 (by decide) (by omega) (fun h8_2 => ?_) (fun h8_2 => by omega)
    refine lv_iconst (v := (nI (1))) hx hb dX5_pump_15 (by decide) ?_
    refine z_callV_i (As := [.int (nI (1))]) (rest := []) (w := wM cI cZ ad) ⟨hx, hb, hml, hown, hts⟩ hF hR (c_X5_holds_nz hG S 1 (by decide) (by decide)) (cwV 1 hts gX5_pump_X5_holds rfl rfl rfl (by decide +kernel) ⟨Nat.le_of_ble_eq_true rfl, Nat.le_of_ble_eq_true rfl⟩) (wM_c0 S) rfl rfl rfl hl rfl (Nat.le_of_ble_eq_true rfl) (by decide) dX5_pump_16 (fun r3 S3 H locs hp3 hR => ?_)
    obtain ⟨hr3, hs3⟩ := hp3
    subst r3
    subst S3
    have hO3 := (zOK_th (i := 1) hO)
    refine z_if_ne_n (tgt := 24) hx hb dX5_pump_19 (by decide) (by omega) (fun h19_4 => by omega) (fun h19_4 => ?_)
    refine lv_iconst (v := (nI (0))) hx hb dX5_pump_22 (by decide) ?_
    exact z_iret (w := wM cI cZ ad) (S1 := (zth S 1)) hx hb hr hlk hF hR dX5_pump_23 (⟨rfl, rfl⟩)
set_option maxHeartbeats 4000000 in
set_option maxRecDepth 100000 in
theorem c_X5_pump_ok {l : Launch} {D : va_G} {cI cZ : ClassId} {ad : Nat → Nat} {B : Nat → Prop} (hG : ∀ S : zS, va_D B (wM cI cZ ad S)) (S : zS) (t : Nat) (hO : zOK S) (hv : 1 ≤ t) (hv2 : t ≤ 20) : zMi l yX5_pump wsX5_pump ({ frames := 4, cells := 0, slots := 0, locals := 90 } : Room) [.ref (ad 0), .int (nI (t))] D (zT cI cZ) B (wM cI cZ ad) S (fun (r : Int32) (S1 : zS) => r = (nI (mo_psc (zth S 0) (t * 4 * (zn S 22 0 + 1)))) ∧ S1 = mo_ps (zth S 0) (t * 4 * (zn S 22 0 + 1))) := by
  refine zMi_of (cc := cX5_pump) (maxL := 6) (ret := (some .int)) (by decide) rfl (Nat.le_of_ble_eq_true rfl) ?_
  intro pg en s mm below meth cd hx hb hr hml hown hts hlk hF hR ls hl
  have hinX5 : ∀ w ∈ wsX50, w ∈ wsX5_pump := by decide +kernel
  have hl : lv_has ls 6 [(0, .ref (ad 0)), (1, .int (nI (t)))] := hl
  have hW1 := (zOK.w hO).2.1
  have hW4 := (zOK.w hO).2.2
  have hT : t * 4 * (zn S 22 0 + 1) ≤ 400 := by have := Nat.mul_le_mul (show t * 4 ≤ 80 by omega) (show zn S 22 0 + 1 ≤ 5 by omega); omega
  refine lv_aload_n hx hb dX5_pump_0 rfl (lv_at hl 0 rfl) ?_
  refine lv_iload_n hx hb dX5_pump_1 rfl (lv_at hl 1 rfl) ?_
  refine lv_iconst (v := (nI (1))) hx hb dX5_pump_2 (by decide) ?_
  refine lv_bipush (v := (nI (20))) hx hb dX5_pump_3 (by decide) ?_
  refine z_callS_i (As := [.int (nI (t)), .int (nI (1)), .int (nI (20))]) (rest := [.ref (ad 0)]) (w := wM cI cZ ad) ⟨hx, hb, hml, hown, hts⟩ hF hR (c_X5_in_n hG S t 1 20 (by omega) (by omega) (by omega)) (va_cwS 3 hts gX5_pump_X5_in rfl rfl rfl (by decide +kernel) ⟨Nat.le_of_ble_eq_true rfl, Nat.le_of_ble_eq_true rfl⟩) rfl hl rfl (Nat.le_of_ble_eq_true rfl) (by decide) dX5_pump_5 (fun r1 S1 H locs hp1 hR => ?_)
  obtain ⟨hp1, hs1⟩ := hp1
  subst S1
  rcases hp1 with ⟨hb5, hr1⟩ | ⟨hb5, hr1⟩
  · subst r1
    refine z_if_eq_n (tgt := 15) hx hb dX5_pump_8 (by decide) (by omega) (fun h8_2 => by omega) (fun h8_2 => ?_)
    refine lv_iconst (v := (nI (0))) hx hb dX5_pump_11 (by decide) ?_
    refine lv_goto (tgt := 16) hx hb dX5_pump_12 (by decide) ?_
    refine z_callV_i (As := [.int (nI (0))]) (rest := []) (w := wM cI cZ ad) ⟨hx, hb, hml, hown, hts⟩ hF hR (c_X5_holds_z hG S ) (cwV 1 hts gX5_pump_X5_holds rfl rfl rfl (by decide +kernel) ⟨Nat.le_of_ble_eq_true rfl, Nat.le_of_ble_eq_true rfl⟩) (wM_c0 S) rfl rfl rfl hl rfl (Nat.le_of_ble_eq_true rfl) (by decide) dX5_pump_16 (fun r3 S3 H locs hp3 hR => ?_)
    obtain ⟨hr3, hs3⟩ := hp3
    subst r3
    subst S3
    have hO3 := (zOK_th (i := 0) hO)
    refine z_if_ne_n (tgt := 24) hx hb dX5_pump_19 (by decide) (by omega) (fun h19_4 => ?_) (fun h19_4 => by omega)
    refine lv_iconst (v := (nI (0))) hx hb dX5_pump_24 (by decide) ?_
    refine lv_istore_n (lv' := [(2, .int (nI (0))), (0, .ref (ad 0)), (1, .int (nI (t)))]) hx hb dX5_pump_25 rfl hl (by decide) rfl (fun ls hl => ?_)
    refine lv_iconst (v := (nI (0))) hx hb dX5_pump_26 (by decide) ?_
    refine lv_istore_n (lv' := [(3, .int (nI (0))), (2, .int (nI (0))), (0, .ref (ad 0)), (1, .int (nI (t)))]) hx hb dX5_pump_27 rfl hl (by decide) rfl (fun ls hl => ?_)
    have loop28 : ∀ (nf28 : Nat) (k : Nat), (k ≤ t * 4 * (zn S 22 0 + 1)) → t * 4 * (zn S 22 0 + 1) - k < nf28 → ∀ (H : Heap) (locs : List Loc), zR D B (wM cI cZ ad (mo_ps (zth S 0) k)) s H locs → ∀ ls : Array Slot, lv_has ls 6 [(0, .ref (ad 0)), (1, .int (nI (t))), (2, .int (nI (mo_psc (zth S 0) k))), (3, .int (nI (k)))] → W pg l en ({ frames := 4, cells := 0, slots := 0, locals := 90 } : Room) s mm ([.ref (ad 0), .int (nI (t))] : List Value).toArray below meth cd H locs 0 0 (MQ below (va_Qi (fun (r : Int32) (S1 : zS) => r = (nI (mo_psc (zth S 0) (t * 4 * (zn S 22 0 + 1)))) ∧ S1 = mo_ps (zth S 0) (t * 4 * (zn S 22 0 + 1))) (zB D (zT cI cZ) (wM cI cZ ad)) (zA B s.heap.size)) ([.ref (ad 0), .int (nI (t))] : List Value).toArray s 0 0 (zA B s.heap.size)) (F0 mm 28 ls []) := by
      intro nf28
      induction nf28 with
      | zero => intro k hk4 hn; exact absurd hn (Nat.not_lt_zero _)
      | succ nf28 ih28 =>
        intro k hk4 hn H locs hR ls hl
        have hOk := zOK_ps (zOK_th (i := 0) hO) k
        refine lv_iload_n hx hb dX5_pump_28 rfl (lv_at hl 3 rfl) ?_
        refine lv_iload_n hx hb dX5_pump_29 rfl (lv_at hl 1 rfl) ?_
        refine lv_iconst (v := (nI (4))) hx hb dX5_pump_30 (by decide) ?_
        refine z_imul_n hx hb dX5_pump_31 ?_
        refine lv_aload_n hx hb dX5_pump_32 rfl (lv_at hl 0 rfl) ?_
        refine z_get (own := RX5) (C := RX5) (T := TX5) (N := 27) (k := 1) (v := .int ((mo_ps (zth S 0) k) 22 0)) hx hb hts hinX5 hown hF hR (wM_c0 (mo_ps (zth S 0) k)) rfl (by decide) (by decide +kernel) rfl rfl dX5_pump_33 ?_
        refine lv_topi (fun v5 ev5 => ?_)
        obtain rfl : v5 = (nI (zn S 22 0)) := ev5.trans ((zOK.w hOk).1.trans (congrArg nI (zn_ps (zth S 0) k)))
        refine lv_iconst (v := (nI (1))) hx hb dX5_pump_36 (by decide) ?_
        refine z_iadd_n hx hb dX5_pump_37 ?_
        refine z_imul_n hx hb dX5_pump_38 ?_
        refine z_ge_n (tgt := 124) hx hb dX5_pump_39 (by decide) (by omega) (by omega) (fun h39_6 => ?_) (fun h39_6 => ?_)
        · skip
          refine lv_iload_n hx hb dX5_pump_124 rfl (lv_at hl 2 rfl) ?_
          exact z_iret (w := wM cI cZ ad) (S1 := (mo_ps (zth S 0) k)) hx hb hr hlk hF hR dX5_pump_125 (⟨by rw [show t * 4 * (zn S 22 0 + 1) = k from by omega], by rw [show t * 4 * (zn S 22 0 + 1) = k from by omega]⟩)
        · skip
          refine lv_iload_n hx hb dX5_pump_42 rfl (lv_at hl 3 rfl) ?_
          refine lv_iconst (v := (nI (4))) hx hb dX5_pump_43 (by decide) ?_
          refine lv_aload_n hx hb dX5_pump_44 rfl (lv_at hl 0 rfl) ?_
          refine z_get (own := RX5) (C := RX5) (T := TX5) (N := 27) (k := 1) (v := .int ((mo_ps (zth S 0) k) 22 0)) hx hb hts hinX5 hown hF hR (wM_c0 (mo_ps (zth S 0) k)) rfl (by decide) (by decide +kernel) rfl rfl dX5_pump_45 ?_
          refine lv_topi (fun v7 ev7 => ?_)
          obtain rfl : v7 = (nI (zn S 22 0)) := ev7.trans ((zOK.w hOk).1.trans (congrArg nI (zn_ps (zth S 0) k)))
          refine lv_iconst (v := (nI (1))) hx hb dX5_pump_48 (by decide) ?_
          refine z_iadd_n hx hb dX5_pump_49 ?_
          refine z_imul_n hx hb dX5_pump_50 ?_
          refine z_irem_n hx hb dX5_pump_51 (by omega) (by omega) (by omega) ?_
          refine lv_istore (lv' := [(4, .int (nI (k % (4 * ((zn S 22 0) + 1))))), (0, .ref (ad 0)), (1, .int (nI (t))), (2, .int (nI (mo_psc (zth S 0) k))), (3, .int (nI (k)))]) hx hb dX5_pump_52 hl (by decide) rfl (fun ls hl => ?_)
          obtain ⟨st, hst⟩ : ∃ z, z = k % (4 * (zn S 22 0 + 1)) := ⟨_, rfl⟩
          have hst2 : st < 4 * (zn S 22 0 + 1) := by rw [hst]; exact Nat.mod_lt _ (by omega)
          have hl : lv_has ls 6 [(4, .int (nI (st))), (0, .ref (ad 0)), (1, .int (nI (t))), (2, .int (nI (mo_psc (zth S 0) k))), (3, .int (nI (k)))] := (by rw [hst]; exact hl)
          refine lv_iload hx hb dX5_pump_54 (lv_at hl 0 rfl) ?_
          refine lv_iconst (v := (nI (4))) hx hb dX5_pump_56 (by decide) ?_
          refine z_idiv_n hx hb dX5_pump_57 (by omega) (by omega) (by omega) ?_
          refine lv_iconst (v := (nI (1))) hx hb dX5_pump_58 (by decide) ?_
          refine lv_isub hx hb dX5_pump_59 ?_
          refine lv_topi (fun v8 ev8 => ?_)
          obtain rfl : v8 = (zdn (st / 4)) := ev8.trans (zdn_of _)
          refine lv_istore (lv' := [(5, .int (zdn (st / 4))), (4, .int (nI (st))), (0, .ref (ad 0)), (1, .int (nI (t))), (2, .int (nI (mo_psc (zth S 0) k))), (3, .int (nI (k)))]) hx hb dX5_pump_60 hl (by decide) rfl (fun ls hl => ?_)
          refine lv_iload hx hb dX5_pump_62 (lv_at hl 0 rfl) ?_
          refine lv_if_ge (tgt := 86) hx hb dX5_pump_64 (by decide) (fun h64_9 => ?_) (fun h64_9 => ?_)
          · skip
            have q64 := zdn_ge h64_9
            have hO1 := zOK_p1 (i := st) hOk
            have hl : lv_has ls 6 [(5, .int (zdn (st / 4))), (4, .int (nI (st))), (0, .ref (ad 0)), (1, .int (nI (t))), (2, .int (nI (mo_psc (zth S 0) k + mo_c1 (mo_ps (zth S 0) k) st))), (3, .int (nI (k)))] := (by unfold mo_c1; first | (rw [if_pos ⟨q64, hb70⟩]; exact hl) | (rw [if_neg (fun q => hb70 q.2)]; exact hl) | (rw [if_neg (fun q => absurd q.1 (by omega))]; exact hl))
            have hR : zR D B (wM cI cZ ad (mo_p1 (mo_ps (zth S 0) k) st)) s H locs := by rw [show (mo_p1 (mo_ps (zth S 0) k) st) = (mo_ps (zth S 0) k) from by first | exact if_neg (fun q => hb70 q.2) | exact if_neg (fun q => absurd q.1 (by omega))]; exact hR
            refine lv_iload hx hb dX5_pump_86 (lv_at hl 0 rfl) ?_
            refine lv_if_lt (tgt := 118) hx hb dX5_pump_88 (by decide) (fun h88_10 => ?_) (fun h88_10 => ?_)
            · skip
              have q88 := zdn_lt (by omega) h88_10
              have hl : lv_has ls 6 [(5, .int (zdn (st / 4))), (4, .int (nI (st))), (0, .ref (ad 0)), (1, .int (nI (t))), (2, .int (nI (mo_psc (zth S 0) (k + 1)))), (3, .int (nI (k)))] := (by rw [show mo_psc (zth S 0) (k + 1) = mo_psc (zth S 0) k + mo_c1 (mo_ps (zth S 0) k) st + mo_c2 (mo_p1 (mo_ps (zth S 0) k) st) st from by rw [hst]; rfl]; unfold mo_c2; first | (rw [if_pos ⟨q88, hb98⟩]; exact hl) | (rw [if_neg (fun q => hb98 q.2)]; exact hl) | (rw [if_neg (fun q => absurd q.1 (by omega))]; exact hl))
              have hR : zR D B (wM cI cZ ad (mo_p2 (mo_p1 (mo_ps (zth S 0) k) st) st)) s H locs := by rw [show (mo_p2 (mo_p1 (mo_ps (zth S 0) k) st) st) = (mo_p1 (mo_ps (zth S 0) k) st) from by first | exact if_neg (fun q => hb98 q.2) | exact if_neg (fun q => absurd q.1 (by omega))]; exact hR
              refine lv_iinc (v := (nI (k + 1))) (lv' := [(3, .int (nI (k + 1))), (5, .int (zdn (st / 4))), (4, .int (nI (st))), (0, .ref (ad 0)), (1, .int (nI (t))), (2, .int (nI (mo_psc (zth S 0) (k + 1))))]) hx hb dX5_pump_118 hl (k := 5) rfl (z_inc _) (by decide) rfl (fun ls hl => ?_)
              refine lv_goto (tgt := 28) hx hb dX5_pump_121 (by decide) ?_
              exact ih28 (k + 1) (by omega) (by omega) _ _ (by rw [show mo_ps (zth S 0) (k + 1) = (mo_p2 (mo_p1 (mo_ps (zth S 0) k) st) st) from by rw [hst]; rfl]; exact hR) ls (lv_sub hl [3, 4, 5, 0] rfl)
            · skip
              have q88 := zdn_nlt h88_10
              have hl : lv_has ls 6 [(5, .int (nI (st / 4 - 1))), (4, .int (nI (st))), (0, .ref (ad 0)), (1, .int (nI (t))), (2, .int (nI (mo_psc (zth S 0) k + mo_c1 (mo_ps (zth S 0) k) st))), (3, .int (nI (k)))] := (by rw [← zdn_p q88]; exact hl)
              refine lv_aload_n hx hb dX5_pump_91 rfl (lv_at hl 2 rfl) ?_
              refine lv_iload hx hb dX5_pump_92 (lv_at hl 0 rfl) ?_
              refine lv_iload hx hb dX5_pump_94 (lv_at hl 1 rfl) ?_
              refine lv_iconst (v := (nI (4))) hx hb dX5_pump_96 (by decide) ?_
              refine z_irem_n hx hb dX5_pump_97 (by omega) (by omega) (by omega) ?_
              refine z_callV_i (As := [.int (nI (st / 4 - 1)), .int (nI (st % 4))]) (rest := []) (w := wM cI cZ ad) ⟨hx, hb, hml, hown, hts⟩ hF hR (c_X5_canTake hG (mo_p1 (mo_ps (zth S 0) k) st) (st / 4 - 1) (st % 4) hO1 (by omega) (by omega)) (cwV 2 hts gX5_pump_X5_canTake rfl rfl rfl (by decide +kernel) ⟨Nat.le_of_ble_eq_true rfl, Nat.le_of_ble_eq_true rfl⟩) (wM_c0 (mo_p1 (mo_ps (zth S 0) k) st)) rfl rfl rfl hl rfl (Nat.le_of_ble_eq_true rfl) (by decide) dX5_pump_98 (fun r11 S11 H locs hp11 hR => ?_)
              obtain ⟨hp11, hs11⟩ := hp11
              subst S11
              rcases hp11 with ⟨hb98, hr11⟩ | ⟨hb98, hr11⟩
              · subst r11
                refine z_if_eq_n (tgt := 118) hx hb dX5_pump_101 (by decide) (by omega) (fun h101_12 => by omega) (fun h101_12 => ?_)
                refine lv_aload_n hx hb dX5_pump_104 rfl (lv_at hl 2 rfl) ?_
                refine lv_iload hx hb dX5_pump_105 (lv_at hl 0 rfl) ?_
                refine lv_iload hx hb dX5_pump_107 (lv_at hl 1 rfl) ?_
                refine lv_iconst (v := (nI (4))) hx hb dX5_pump_109 (by decide) ?_
                refine z_irem_n hx hb dX5_pump_110 (by omega) (by omega) (by omega) ?_
                refine z_callV_i (As := [.int (nI (st / 4 - 1)), .int (nI (st % 4))]) (rest := []) (w := wM cI cZ ad) ⟨hx, hb, hml, hown, hts⟩ hF hR (c_X5_takes hG (mo_p1 (mo_ps (zth S 0) k) st) (st / 4 - 1) (st % 4) hO1 (by omega) (by omega) hb98.1) (cwV 2 hts gX5_pump_X5_takes rfl rfl rfl (by decide +kernel) ⟨Nat.le_of_ble_eq_true rfl, Nat.le_of_ble_eq_true rfl⟩) (wM_c0 (mo_p1 (mo_ps (zth S 0) k) st)) rfl rfl rfl hl rfl (Nat.le_of_ble_eq_true rfl) (by decide) dX5_pump_111 (fun r13 S13 H locs hp13 hR => ?_)
                obtain ⟨hr13, hs13⟩ := hp13
                subst r13
                subst S13
                have hO13 := (zOK_mtf (p := (st % 4)) (w := (st / 4 - 1)) hO1)
                refine lv_pop hx hb dX5_pump_114 rfl ?_
                refine lv_iinc (v := (nI (mo_psc (zth S 0) k + mo_c1 (mo_ps (zth S 0) k) st + 1))) (lv' := [(2, .int (nI (mo_psc (zth S 0) k + mo_c1 (mo_ps (zth S 0) k) st + 1))), (5, .int (nI (st / 4 - 1))), (4, .int (nI (st))), (0, .ref (ad 0)), (1, .int (nI (t))), (3, .int (nI (k)))]) hx hb dX5_pump_115 hl (k := 4) rfl (z_inc _) (by decide) rfl (fun ls hl => ?_)
                have hl : lv_has ls 6 [(2, .int (nI (mo_psc (zth S 0) (k + 1)))), (5, .int (nI (st / 4 - 1))), (4, .int (nI (st))), (0, .ref (ad 0)), (1, .int (nI (t))), (3, .int (nI (k)))] := (by rw [show mo_psc (zth S 0) (k + 1) = mo_psc (zth S 0) k + mo_c1 (mo_ps (zth S 0) k) st + mo_c2 (mo_p1 (mo_ps (zth S 0) k) st) st from by rw [hst]; rfl]; unfold mo_c2; first | (rw [if_pos ⟨q88, hb98⟩]; exact hl) | (rw [if_neg (fun q => hb98 q.2)]; exact hl) | (rw [if_neg (fun q => absurd q.1 (by omega))]; exact hl))
                have hR : zR D B (wM cI cZ ad (mo_p2 (mo_p1 (mo_ps (zth S 0) k) st) st)) s H locs := by rw [show (mo_p2 (mo_p1 (mo_ps (zth S 0) k) st) st) = (mo_tf (mo_p1 (mo_ps (zth S 0) k) st) (st % 4) (st / 4 - 1)) from if_pos ⟨q88, hb98⟩]; exact hR
                refine lv_iinc (v := (nI (k + 1))) (lv' := [(3, .int (nI (k + 1))), (2, .int (nI (mo_psc (zth S 0) (k + 1)))), (5, .int (nI (st / 4 - 1))), (4, .int (nI (st))), (0, .ref (ad 0)), (1, .int (nI (t)))]) hx hb dX5_pump_118 hl (k := 5) rfl (z_inc _) (by decide) rfl (fun ls hl => ?_)
                refine lv_goto (tgt := 28) hx hb dX5_pump_121 (by decide) ?_
                exact ih28 (k + 1) (by omega) (by omega) _ _ (by rw [show mo_ps (zth S 0) (k + 1) = (mo_p2 (mo_p1 (mo_ps (zth S 0) k) st) st) from by rw [hst]; rfl]; exact hR) ls (lv_sub hl [4, 5, 1, 0] rfl)
              · subst r11
                refine z_if_eq_n (tgt := 118) hx hb dX5_pump_101 (by decide) (by omega) (fun h101_14 => ?_) (fun h101_14 => by omega)
                have hl : lv_has ls 6 [(5, .int (nI (st / 4 - 1))), (4, .int (nI (st))), (0, .ref (ad 0)), (1, .int (nI (t))), (2, .int (nI (mo_psc (zth S 0) (k + 1)))), (3, .int (nI (k)))] := (by rw [show mo_psc (zth S 0) (k + 1) = mo_psc (zth S 0) k + mo_c1 (mo_ps (zth S 0) k) st + mo_c2 (mo_p1 (mo_ps (zth S 0) k) st) st from by rw [hst]; rfl]; unfold mo_c2; first | (rw [if_pos ⟨q88, hb98⟩]; exact hl) | (rw [if_neg (fun q => hb98 q.2)]; exact hl) | (rw [if_neg (fun q => absurd q.1 (by omega))]; exact hl))
                have hR : zR D B (wM cI cZ ad (mo_p2 (mo_p1 (mo_ps (zth S 0) k) st) st)) s H locs := by rw [show (mo_p2 (mo_p1 (mo_ps (zth S 0) k) st) st) = (mo_p1 (mo_ps (zth S 0) k) st) from by first | exact if_neg (fun q => hb98 q.2) | exact if_neg (fun q => absurd q.1 (by omega))]; exact hR
                refine lv_iinc (v := (nI (k + 1))) (lv' := [(3, .int (nI (k + 1))), (5, .int (nI (st / 4 - 1))), (4, .int (nI (st))), (0, .ref (ad 0)), (1, .int (nI (t))), (2, .int (nI (mo_psc (zth S 0) (k + 1))))]) hx hb dX5_pump_118 hl (k := 5) rfl (z_inc _) (by decide) rfl (fun ls hl => ?_)
                refine lv_goto (tgt := 28) hx hb dX5_pump_121 (by decide) ?_
                exact ih28 (k + 1) (by omega) (by omega) _ _ (by rw [show mo_ps (zth S 0) (k + 1) = (mo_p2 (mo_p1 (mo_ps (zth S 0) k) st) st) from by rw [hst]; rfl]; exact hR) ls (lv_sub hl [3, 4, 5, 0] rfl)
          · skip
            have q64 := zdn_nge (by omega) h64_9
            refine lv_aload_n hx hb dX5_pump_67 rfl (lv_at hl 2 rfl) ?_
            refine lv_iload hx hb dX5_pump_68 (lv_at hl 1 rfl) ?_
            refine z_callV_i (As := [.int (nI (st))]) (rest := []) (w := wM cI cZ ad) ⟨hx, hb, hml, hown, hts⟩ hF hR (c_X5_canRead hG (mo_ps (zth S 0) k) st hOk (by omega)) (cwV 1 hts gX5_pump_X5_canRead rfl rfl rfl (by decide +kernel) ⟨Nat.le_of_ble_eq_true rfl, Nat.le_of_ble_eq_true rfl⟩) (wM_c0 (mo_ps (zth S 0) k)) rfl rfl rfl hl rfl (Nat.le_of_ble_eq_true rfl) (by decide) dX5_pump_70 (fun r15 S15 H locs hp15 hR => ?_)
            obtain ⟨hp15, hs15⟩ := hp15
            subst S15
            rcases hp15 with ⟨hb70, hr15⟩ | ⟨hb70, hr15⟩
            · subst r15
              refine z_if_eq_n (tgt := 86) hx hb dX5_pump_73 (by decide) (by omega) (fun h73_16 => by omega) (fun h73_16 => ?_)
              refine lv_aload_n hx hb dX5_pump_76 rfl (lv_at hl 2 rfl) ?_
              refine lv_iload hx hb dX5_pump_77 (lv_at hl 1 rfl) ?_
              refine z_callV_i (As := [.int (nI (st))]) (rest := []) (w := wM cI cZ ad) ⟨hx, hb, hml, hown, hts⟩ hF hR (c_X5_reads hG (mo_ps (zth S 0) k) st hOk (by omega) hb70) (cwV 1 hts gX5_pump_X5_reads rfl rfl rfl (by decide +kernel) ⟨Nat.le_of_ble_eq_true rfl, Nat.le_of_ble_eq_true rfl⟩) (wM_c0 (mo_ps (zth S 0) k)) rfl rfl rfl hl rfl (Nat.le_of_ble_eq_true rfl) (by decide) dX5_pump_79 (fun r17 S17 H locs hp17 hR => ?_)
              obtain ⟨hr17, hs17⟩ := hp17
              subst r17
              subst S17
              refine lv_pop hx hb dX5_pump_82 rfl ?_
              refine lv_iinc (v := (nI (mo_psc (zth S 0) k + 1))) (lv' := [(2, .int (nI (mo_psc (zth S 0) k + 1))), (5, .int (zdn (st / 4))), (4, .int (nI (st))), (0, .ref (ad 0)), (1, .int (nI (t))), (3, .int (nI (k)))]) hx hb dX5_pump_83 hl (k := 4) rfl (z_inc _) (by decide) rfl (fun ls hl => ?_)
              have hO1 := zOK_p1 (i := st) hOk
              have hl : lv_has ls 6 [(2, .int (nI (mo_psc (zth S 0) k + mo_c1 (mo_ps (zth S 0) k) st))), (5, .int (zdn (st / 4))), (4, .int (nI (st))), (0, .ref (ad 0)), (1, .int (nI (t))), (3, .int (nI (k)))] := (by unfold mo_c1; first | (rw [if_pos ⟨q64, hb70⟩]; exact hl) | (rw [if_neg (fun q => hb70 q.2)]; exact hl) | (rw [if_neg (fun q => absurd q.1 (by omega))]; exact hl))
              have hR : zR D B (wM cI cZ ad (mo_p1 (mo_ps (zth S 0) k) st)) s H locs := by rw [show (mo_p1 (mo_ps (zth S 0) k) st) = (sp_read (mo_ps (zth S 0) k) st) from if_pos ⟨q64, hb70⟩]; exact hR
              refine lv_iload hx hb dX5_pump_86 (lv_at hl 1 rfl) ?_
              refine lv_if_lt (tgt := 118) hx hb dX5_pump_88 (by decide) (fun h88_18 => ?_) (fun h88_18 => ?_)
              · skip
                have q88 := zdn_lt (by omega) h88_18
                have hl : lv_has ls 6 [(2, .int (nI (mo_psc (zth S 0) (k + 1)))), (5, .int (zdn (st / 4))), (4, .int (nI (st))), (0, .ref (ad 0)), (1, .int (nI (t))), (3, .int (nI (k)))] := (by rw [show mo_psc (zth S 0) (k + 1) = mo_psc (zth S 0) k + mo_c1 (mo_ps (zth S 0) k) st + mo_c2 (mo_p1 (mo_ps (zth S 0) k) st) st from by rw [hst]; rfl]; unfold mo_c2; first | (rw [if_pos ⟨q88, hb98⟩]; exact hl) | (rw [if_neg (fun q => hb98 q.2)]; exact hl) | (rw [if_neg (fun q => absurd q.1 (by omega))]; exact hl))
                have hR : zR D B (wM cI cZ ad (mo_p2 (mo_p1 (mo_ps (zth S 0) k) st) st)) s H locs := by rw [show (mo_p2 (mo_p1 (mo_ps (zth S 0) k) st) st) = (mo_p1 (mo_ps (zth S 0) k) st) from by first | exact if_neg (fun q => hb98 q.2) | exact if_neg (fun q => absurd q.1 (by omega))]; exact hR
                refine lv_iinc (v := (nI (k + 1))) (lv' := [(3, .int (nI (k + 1))), (2, .int (nI (mo_psc (zth S 0) (k + 1)))), (5, .int (zdn (st / 4))), (4, .int (nI (st))), (0, .ref (ad 0)), (1, .int (nI (t)))]) hx hb dX5_pump_118 hl (k := 5) rfl (z_inc _) (by decide) rfl (fun ls hl => ?_)
                refine lv_goto (tgt := 28) hx hb dX5_pump_121 (by decide) ?_
                exact ih28 (k + 1) (by omega) (by omega) _ _ (by rw [show mo_ps (zth S 0) (k + 1) = (mo_p2 (mo_p1 (mo_ps (zth S 0) k) st) st) from by rw [hst]; rfl]; exact hR) ls (lv_sub hl [4, 5, 1, 0] rfl)
              · skip
                have q88 := zdn_nlt h88_18
                have hl : lv_has ls 6 [(2, .int (nI (mo_psc (zth S 0) k + mo_c1 (mo_ps (zth S 0) k) st))), (5, .int (nI (st / 4 - 1))), (4, .int (nI (st))), (0, .ref (ad 0)), (1, .int (nI (t))), (3, .int (nI (k)))] := (by rw [← zdn_p q88]; exact hl)
                refine lv_aload_n hx hb dX5_pump_91 rfl (lv_at hl 3 rfl) ?_
                refine lv_iload hx hb dX5_pump_92 (lv_at hl 1 rfl) ?_
                refine lv_iload hx hb dX5_pump_94 (lv_at hl 2 rfl) ?_
                refine lv_iconst (v := (nI (4))) hx hb dX5_pump_96 (by decide) ?_
                refine z_irem_n hx hb dX5_pump_97 (by omega) (by omega) (by omega) ?_
                refine z_callV_i (As := [.int (nI (st / 4 - 1)), .int (nI (st % 4))]) (rest := []) (w := wM cI cZ ad) ⟨hx, hb, hml, hown, hts⟩ hF hR (c_X5_canTake hG (mo_p1 (mo_ps (zth S 0) k) st) (st / 4 - 1) (st % 4) hO1 (by omega) (by omega)) (cwV 2 hts gX5_pump_X5_canTake rfl rfl rfl (by decide +kernel) ⟨Nat.le_of_ble_eq_true rfl, Nat.le_of_ble_eq_true rfl⟩) (wM_c0 (mo_p1 (mo_ps (zth S 0) k) st)) rfl rfl rfl hl rfl (Nat.le_of_ble_eq_true rfl) (by decide) dX5_pump_98 (fun r19 S19 H locs hp19 hR => ?_)
                obtain ⟨hp19, hs19⟩ := hp19
                subst S19
                rcases hp19 with ⟨hb98, hr19⟩ | ⟨hb98, hr19⟩
                · subst r19
                  refine z_if_eq_n (tgt := 118) hx hb dX5_pump_101 (by decide) (by omega) (fun h101_20 => by omega) (fun h101_20 => ?_)
                  refine lv_aload_n hx hb dX5_pump_104 rfl (lv_at hl 3 rfl) ?_
                  refine lv_iload hx hb dX5_pump_105 (lv_at hl 1 rfl) ?_
                  refine lv_iload hx hb dX5_pump_107 (lv_at hl 2 rfl) ?_
                  refine lv_iconst (v := (nI (4))) hx hb dX5_pump_109 (by decide) ?_
                  refine z_irem_n hx hb dX5_pump_110 (by omega) (by omega) (by omega) ?_
                  refine z_callV_i (As := [.int (nI (st / 4 - 1)), .int (nI (st % 4))]) (rest := []) (w := wM cI cZ ad) ⟨hx, hb, hml, hown, hts⟩ hF hR (c_X5_takes hG (mo_p1 (mo_ps (zth S 0) k) st) (st / 4 - 1) (st % 4) hO1 (by omega) (by omega) hb98.1) (cwV 2 hts gX5_pump_X5_takes rfl rfl rfl (by decide +kernel) ⟨Nat.le_of_ble_eq_true rfl, Nat.le_of_ble_eq_true rfl⟩) (wM_c0 (mo_p1 (mo_ps (zth S 0) k) st)) rfl rfl rfl hl rfl (Nat.le_of_ble_eq_true rfl) (by decide) dX5_pump_111 (fun r21 S21 H locs hp21 hR => ?_)
                  obtain ⟨hr21, hs21⟩ := hp21
                  subst r21
                  subst S21
                  have hO21 := (zOK_mtf (p := (st % 4)) (w := (st / 4 - 1)) hO1)
                  refine lv_pop hx hb dX5_pump_114 rfl ?_
                  refine lv_iinc (v := (nI (mo_psc (zth S 0) k + mo_c1 (mo_ps (zth S 0) k) st + 1))) (lv' := [(2, .int (nI (mo_psc (zth S 0) k + mo_c1 (mo_ps (zth S 0) k) st + 1))), (5, .int (nI (st / 4 - 1))), (4, .int (nI (st))), (0, .ref (ad 0)), (1, .int (nI (t))), (3, .int (nI (k)))]) hx hb dX5_pump_115 hl (k := 0) rfl (z_inc _) (by decide) rfl (fun ls hl => ?_)
                  have hl : lv_has ls 6 [(2, .int (nI (mo_psc (zth S 0) (k + 1)))), (5, .int (nI (st / 4 - 1))), (4, .int (nI (st))), (0, .ref (ad 0)), (1, .int (nI (t))), (3, .int (nI (k)))] := (by rw [show mo_psc (zth S 0) (k + 1) = mo_psc (zth S 0) k + mo_c1 (mo_ps (zth S 0) k) st + mo_c2 (mo_p1 (mo_ps (zth S 0) k) st) st from by rw [hst]; rfl]; unfold mo_c2; first | (rw [if_pos ⟨q88, hb98⟩]; exact hl) | (rw [if_neg (fun q => hb98 q.2)]; exact hl) | (rw [if_neg (fun q => absurd q.1 (by omega))]; exact hl))
                  have hR : zR D B (wM cI cZ ad (mo_p2 (mo_p1 (mo_ps (zth S 0) k) st) st)) s H locs := by rw [show (mo_p2 (mo_p1 (mo_ps (zth S 0) k) st) st) = (mo_tf (mo_p1 (mo_ps (zth S 0) k) st) (st % 4) (st / 4 - 1)) from if_pos ⟨q88, hb98⟩]; exact hR
                  refine lv_iinc (v := (nI (k + 1))) (lv' := [(3, .int (nI (k + 1))), (2, .int (nI (mo_psc (zth S 0) (k + 1)))), (5, .int (nI (st / 4 - 1))), (4, .int (nI (st))), (0, .ref (ad 0)), (1, .int (nI (t)))]) hx hb dX5_pump_118 hl (k := 5) rfl (z_inc _) (by decide) rfl (fun ls hl => ?_)
                  refine lv_goto (tgt := 28) hx hb dX5_pump_121 (by decide) ?_
                  exact ih28 (k + 1) (by omega) (by omega) _ _ (by rw [show mo_ps (zth S 0) (k + 1) = (mo_p2 (mo_p1 (mo_ps (zth S 0) k) st) st) from by rw [hst]; rfl]; exact hR) ls (lv_sub hl [4, 5, 1, 0] rfl)
                · subst r19
                  refine z_if_eq_n (tgt := 118) hx hb dX5_pump_101 (by decide) (by omega) (fun h101_22 => ?_) (fun h101_22 => by omega)
                  have hl : lv_has ls 6 [(2, .int (nI (mo_psc (zth S 0) (k + 1)))), (5, .int (nI (st / 4 - 1))), (4, .int (nI (st))), (0, .ref (ad 0)), (1, .int (nI (t))), (3, .int (nI (k)))] := (by rw [show mo_psc (zth S 0) (k + 1) = mo_psc (zth S 0) k + mo_c1 (mo_ps (zth S 0) k) st + mo_c2 (mo_p1 (mo_ps (zth S 0) k) st) st from by rw [hst]; rfl]; unfold mo_c2; first | (rw [if_pos ⟨q88, hb98⟩]; exact hl) | (rw [if_neg (fun q => hb98 q.2)]; exact hl) | (rw [if_neg (fun q => absurd q.1 (by omega))]; exact hl))
                  have hR : zR D B (wM cI cZ ad (mo_p2 (mo_p1 (mo_ps (zth S 0) k) st) st)) s H locs := by rw [show (mo_p2 (mo_p1 (mo_ps (zth S 0) k) st) st) = (mo_p1 (mo_ps (zth S 0) k) st) from by first | exact if_neg (fun q => hb98 q.2) | exact if_neg (fun q => absurd q.1 (by omega))]; exact hR
                  refine lv_iinc (v := (nI (k + 1))) (lv' := [(3, .int (nI (k + 1))), (2, .int (nI (mo_psc (zth S 0) (k + 1)))), (5, .int (nI (st / 4 - 1))), (4, .int (nI (st))), (0, .ref (ad 0)), (1, .int (nI (t)))]) hx hb dX5_pump_118 hl (k := 5) rfl (z_inc _) (by decide) rfl (fun ls hl => ?_)
                  refine lv_goto (tgt := 28) hx hb dX5_pump_121 (by decide) ?_
                  exact ih28 (k + 1) (by omega) (by omega) _ _ (by rw [show mo_ps (zth S 0) (k + 1) = (mo_p2 (mo_p1 (mo_ps (zth S 0) k) st) st) from by rw [hst]; rfl]; exact hR) ls (lv_sub hl [4, 5, 1, 0] rfl)
            · subst r15
              refine z_if_eq_n (tgt := 86) hx hb dX5_pump_73 (by decide) (by omega) (fun h73_23 => ?_) (fun h73_23 => by omega)
              have hO1 := zOK_p1 (i := st) hOk
              have hl : lv_has ls 6 [(5, .int (zdn (st / 4))), (4, .int (nI (st))), (0, .ref (ad 0)), (1, .int (nI (t))), (2, .int (nI (mo_psc (zth S 0) k + mo_c1 (mo_ps (zth S 0) k) st))), (3, .int (nI (k)))] := (by unfold mo_c1; first | (rw [if_pos ⟨q64, hb70⟩]; exact hl) | (rw [if_neg (fun q => hb70 q.2)]; exact hl) | (rw [if_neg (fun q => absurd q.1 (by omega))]; exact hl))
              have hR : zR D B (wM cI cZ ad (mo_p1 (mo_ps (zth S 0) k) st)) s H locs := by rw [show (mo_p1 (mo_ps (zth S 0) k) st) = (mo_ps (zth S 0) k) from by first | exact if_neg (fun q => hb70 q.2) | exact if_neg (fun q => absurd q.1 (by omega))]; exact hR
              refine lv_iload hx hb dX5_pump_86 (lv_at hl 0 rfl) ?_
              refine lv_if_lt (tgt := 118) hx hb dX5_pump_88 (by decide) (fun h88_24 => ?_) (fun h88_24 => ?_)
              · skip
                have q88 := zdn_lt (by omega) h88_24
                have hl : lv_has ls 6 [(5, .int (zdn (st / 4))), (4, .int (nI (st))), (0, .ref (ad 0)), (1, .int (nI (t))), (2, .int (nI (mo_psc (zth S 0) (k + 1)))), (3, .int (nI (k)))] := (by rw [show mo_psc (zth S 0) (k + 1) = mo_psc (zth S 0) k + mo_c1 (mo_ps (zth S 0) k) st + mo_c2 (mo_p1 (mo_ps (zth S 0) k) st) st from by rw [hst]; rfl]; unfold mo_c2; first | (rw [if_pos ⟨q88, hb98⟩]; exact hl) | (rw [if_neg (fun q => hb98 q.2)]; exact hl) | (rw [if_neg (fun q => absurd q.1 (by omega))]; exact hl))
                have hR : zR D B (wM cI cZ ad (mo_p2 (mo_p1 (mo_ps (zth S 0) k) st) st)) s H locs := by rw [show (mo_p2 (mo_p1 (mo_ps (zth S 0) k) st) st) = (mo_p1 (mo_ps (zth S 0) k) st) from by first | exact if_neg (fun q => hb98 q.2) | exact if_neg (fun q => absurd q.1 (by omega))]; exact hR
                refine lv_iinc (v := (nI (k + 1))) (lv' := [(3, .int (nI (k + 1))), (5, .int (zdn (st / 4))), (4, .int (nI (st))), (0, .ref (ad 0)), (1, .int (nI (t))), (2, .int (nI (mo_psc (zth S 0) (k + 1))))]) hx hb dX5_pump_118 hl (k := 5) rfl (z_inc _) (by decide) rfl (fun ls hl => ?_)
                refine lv_goto (tgt := 28) hx hb dX5_pump_121 (by decide) ?_
                exact ih28 (k + 1) (by omega) (by omega) _ _ (by rw [show mo_ps (zth S 0) (k + 1) = (mo_p2 (mo_p1 (mo_ps (zth S 0) k) st) st) from by rw [hst]; rfl]; exact hR) ls (lv_sub hl [3, 4, 5, 0] rfl)
              · skip
                have q88 := zdn_nlt h88_24
                have hl : lv_has ls 6 [(5, .int (nI (st / 4 - 1))), (4, .int (nI (st))), (0, .ref (ad 0)), (1, .int (nI (t))), (2, .int (nI (mo_psc (zth S 0) k + mo_c1 (mo_ps (zth S 0) k) st))), (3, .int (nI (k)))] := (by rw [← zdn_p q88]; exact hl)
                refine lv_aload_n hx hb dX5_pump_91 rfl (lv_at hl 2 rfl) ?_
                refine lv_iload hx hb dX5_pump_92 (lv_at hl 0 rfl) ?_
                refine lv_iload hx hb dX5_pump_94 (lv_at hl 1 rfl) ?_
                refine lv_iconst (v := (nI (4))) hx hb dX5_pump_96 (by decide) ?_
                refine z_irem_n hx hb dX5_pump_97 (by omega) (by omega) (by omega) ?_
                refine z_callV_i (As := [.int (nI (st / 4 - 1)), .int (nI (st % 4))]) (rest := []) (w := wM cI cZ ad) ⟨hx, hb, hml, hown, hts⟩ hF hR (c_X5_canTake hG (mo_p1 (mo_ps (zth S 0) k) st) (st / 4 - 1) (st % 4) hO1 (by omega) (by omega)) (cwV 2 hts gX5_pump_X5_canTake rfl rfl rfl (by decide +kernel) ⟨Nat.le_of_ble_eq_true rfl, Nat.le_of_ble_eq_true rfl⟩) (wM_c0 (mo_p1 (mo_ps (zth S 0) k) st)) rfl rfl rfl hl rfl (Nat.le_of_ble_eq_true rfl) (by decide) dX5_pump_98 (fun r25 S25 H locs hp25 hR => ?_)
                obtain ⟨hp25, hs25⟩ := hp25
                subst S25
                rcases hp25 with ⟨hb98, hr25⟩ | ⟨hb98, hr25⟩
                · subst r25
                  refine z_if_eq_n (tgt := 118) hx hb dX5_pump_101 (by decide) (by omega) (fun h101_26 => by omega) (fun h101_26 => ?_)
                  refine lv_aload_n hx hb dX5_pump_104 rfl (lv_at hl 2 rfl) ?_
                  refine lv_iload hx hb dX5_pump_105 (lv_at hl 0 rfl) ?_
                  refine lv_iload hx hb dX5_pump_107 (lv_at hl 1 rfl) ?_
                  refine lv_iconst (v := (nI (4))) hx hb dX5_pump_109 (by decide) ?_
                  refine z_irem_n hx hb dX5_pump_110 (by omega) (by omega) (by omega) ?_
                  refine z_callV_i (As := [.int (nI (st / 4 - 1)), .int (nI (st % 4))]) (rest := []) (w := wM cI cZ ad) ⟨hx, hb, hml, hown, hts⟩ hF hR (c_X5_takes hG (mo_p1 (mo_ps (zth S 0) k) st) (st / 4 - 1) (st % 4) hO1 (by omega) (by omega) hb98.1) (cwV 2 hts gX5_pump_X5_takes rfl rfl rfl (by decide +kernel) ⟨Nat.le_of_ble_eq_true rfl, Nat.le_of_ble_eq_true rfl⟩) (wM_c0 (mo_p1 (mo_ps (zth S 0) k) st)) rfl rfl rfl hl rfl (Nat.le_of_ble_eq_true rfl) (by decide) dX5_pump_111 (fun r27 S27 H locs hp27 hR => ?_)
                  obtain ⟨hr27, hs27⟩ := hp27
                  subst r27
                  subst S27
                  have hO27 := (zOK_mtf (p := (st % 4)) (w := (st / 4 - 1)) hO1)
                  refine lv_pop hx hb dX5_pump_114 rfl ?_
                  refine lv_iinc (v := (nI (mo_psc (zth S 0) k + mo_c1 (mo_ps (zth S 0) k) st + 1))) (lv' := [(2, .int (nI (mo_psc (zth S 0) k + mo_c1 (mo_ps (zth S 0) k) st + 1))), (5, .int (nI (st / 4 - 1))), (4, .int (nI (st))), (0, .ref (ad 0)), (1, .int (nI (t))), (3, .int (nI (k)))]) hx hb dX5_pump_115 hl (k := 4) rfl (z_inc _) (by decide) rfl (fun ls hl => ?_)
                  have hl : lv_has ls 6 [(2, .int (nI (mo_psc (zth S 0) (k + 1)))), (5, .int (nI (st / 4 - 1))), (4, .int (nI (st))), (0, .ref (ad 0)), (1, .int (nI (t))), (3, .int (nI (k)))] := (by rw [show mo_psc (zth S 0) (k + 1) = mo_psc (zth S 0) k + mo_c1 (mo_ps (zth S 0) k) st + mo_c2 (mo_p1 (mo_ps (zth S 0) k) st) st from by rw [hst]; rfl]; unfold mo_c2; first | (rw [if_pos ⟨q88, hb98⟩]; exact hl) | (rw [if_neg (fun q => hb98 q.2)]; exact hl) | (rw [if_neg (fun q => absurd q.1 (by omega))]; exact hl))
                  have hR : zR D B (wM cI cZ ad (mo_p2 (mo_p1 (mo_ps (zth S 0) k) st) st)) s H locs := by rw [show (mo_p2 (mo_p1 (mo_ps (zth S 0) k) st) st) = (mo_tf (mo_p1 (mo_ps (zth S 0) k) st) (st % 4) (st / 4 - 1)) from if_pos ⟨q88, hb98⟩]; exact hR
                  refine lv_iinc (v := (nI (k + 1))) (lv' := [(3, .int (nI (k + 1))), (2, .int (nI (mo_psc (zth S 0) (k + 1)))), (5, .int (nI (st / 4 - 1))), (4, .int (nI (st))), (0, .ref (ad 0)), (1, .int (nI (t)))]) hx hb dX5_pump_118 hl (k := 5) rfl (z_inc _) (by decide) rfl (fun ls hl => ?_)
                  refine lv_goto (tgt := 28) hx hb dX5_pump_121 (by decide) ?_
                  exact ih28 (k + 1) (by omega) (by omega) _ _ (by rw [show mo_ps (zth S 0) (k + 1) = (mo_p2 (mo_p1 (mo_ps (zth S 0) k) st) st) from by rw [hst]; rfl]; exact hR) ls (lv_sub hl [4, 5, 1, 0] rfl)
                · subst r25
                  refine z_if_eq_n (tgt := 118) hx hb dX5_pump_101 (by decide) (by omega) (fun h101_28 => ?_) (fun h101_28 => by omega)
                  have hl : lv_has ls 6 [(5, .int (nI (st / 4 - 1))), (4, .int (nI (st))), (0, .ref (ad 0)), (1, .int (nI (t))), (2, .int (nI (mo_psc (zth S 0) (k + 1)))), (3, .int (nI (k)))] := (by rw [show mo_psc (zth S 0) (k + 1) = mo_psc (zth S 0) k + mo_c1 (mo_ps (zth S 0) k) st + mo_c2 (mo_p1 (mo_ps (zth S 0) k) st) st from by rw [hst]; rfl]; unfold mo_c2; first | (rw [if_pos ⟨q88, hb98⟩]; exact hl) | (rw [if_neg (fun q => hb98 q.2)]; exact hl) | (rw [if_neg (fun q => absurd q.1 (by omega))]; exact hl))
                  have hR : zR D B (wM cI cZ ad (mo_p2 (mo_p1 (mo_ps (zth S 0) k) st) st)) s H locs := by rw [show (mo_p2 (mo_p1 (mo_ps (zth S 0) k) st) st) = (mo_p1 (mo_ps (zth S 0) k) st) from by first | exact if_neg (fun q => hb98 q.2) | exact if_neg (fun q => absurd q.1 (by omega))]; exact hR
                  refine lv_iinc (v := (nI (k + 1))) (lv' := [(3, .int (nI (k + 1))), (5, .int (nI (st / 4 - 1))), (4, .int (nI (st))), (0, .ref (ad 0)), (1, .int (nI (t))), (2, .int (nI (mo_psc (zth S 0) (k + 1))))]) hx hb dX5_pump_118 hl (k := 5) rfl (z_inc _) (by decide) rfl (fun ls hl => ?_)
                  refine lv_goto (tgt := 28) hx hb dX5_pump_121 (by decide) ?_
                  exact ih28 (k + 1) (by omega) (by omega) _ _ (by rw [show mo_ps (zth S 0) (k + 1) = (mo_p2 (mo_p1 (mo_ps (zth S 0) k) st) st) from by rw [hst]; rfl]; exact hR) ls (lv_sub hl [3, 4, 5, 0] rfl)
    exact loop28 _ 0 (by omega) (Nat.lt_succ_self _) _ _ (by rw [show mo_ps (zth S 0) 0 = (zth S 0) from rfl]; exact hR) ls (lv_sub hl [2, 3, 1, 0] rfl)
  · exact absurd ⟨by omega, by omega⟩ hb5
set_option maxHeartbeats 4000000 in
set_option maxRecDepth 100000 in
theorem c_X5_commit_e1 {l : Launch} {D : va_G} {cI cZ : ClassId} {ad : Nat → Nat} {B : Nat → Prop} (hG : ∀ S : zS, va_D B (wM cI cZ ad S)) (S : zS) (x : Int32) (hO : zOK S) (hxb : zbad x (zn S 22 0)) : zMi l yX5_commit wsX5_commit ({ frames := 3, cells := 0, slots := 0, locals := 65 } : Room) [.ref (ad 0), .int (x)] D (zT cI cZ) B (wM cI cZ ad) S (fun (r : Int32) (S1 : zS) => r = (nI (0)) ∧ S1 = zth S 1) := by
  refine zMi_of (cc := cX5_commit) (maxL := 2) (ret := (some .int)) (by decide) rfl (Nat.le_of_ble_eq_true rfl) ?_
  intro pg en s mm below meth cd hx hb hr hml hown hts hlk hF hR ls hl
  have hl : lv_has ls 2 [(0, .ref (ad 0)), (1, .int (x))] := hl
  refine lv_aload_n hx hb dX5_commit_0 rfl (lv_at hl 0 rfl) ?_
  refine lv_aload_n hx hb dX5_commit_1 rfl (lv_at hl 0 rfl) ?_
  refine lv_iload_n hx hb dX5_commit_2 rfl (lv_at hl 1 rfl) ?_
  refine z_callV_i (As := [.int (x)]) (rest := [.ref (ad 0)]) (w := wM cI cZ ad) ⟨hx, hb, hml, hown, hts⟩ hF hR (c_X5_isWorker_bad hG S ((x)) hO hxb) (cwV 1 hts gX5_commit_X5_isWorker rfl rfl rfl (by decide +kernel) ⟨Nat.le_of_ble_eq_true rfl, Nat.le_of_ble_eq_true rfl⟩) (wM_c0 S) rfl rfl rfl hl rfl (Nat.le_of_ble_eq_true rfl) (by decide) dX5_commit_3 (fun r1 S1 H locs hp1 hR => ?_)
  obtain ⟨hr1, hs1⟩ := hp1
  subst r1
  subst S1
  refine z_if_ne_n (tgt := 13) hx hb dX5_commit_6 (by decide) (by omega) (fun h6_2 => by omega) (fun h6_2 => ?_)
  refine lv_iconst (v := (nI (1))) hx hb dX5_commit_9 (by decide) ?_
  refine lv_goto (tgt := 26) hx hb dX5_commit_10 (by decide) ?_
  refine z_callV_i (As := [.int (nI (1))]) (rest := []) (w := wM cI cZ ad) ⟨hx, hb, hml, hown, hts⟩ hF hR (c_X5_holds_nz hG S 1 (by decide) (by decide)) (cwV 1 hts gX5_commit_X5_holds rfl rfl rfl (by decide +kernel) ⟨Nat.le_of_ble_eq_true rfl, Nat.le_of_ble_eq_true rfl⟩) (wM_c0 S) rfl rfl rfl hl rfl (Nat.le_of_ble_eq_true rfl) (by decide) dX5_commit_26 (fun r3 S3 H locs hp3 hR => ?_)
  obtain ⟨hr3, hs3⟩ := hp3
  subst r3
  subst S3
  have hO3 := (zOK_th (i := 1) hO)
  refine z_if_eq_n (tgt := 40) hx hb dX5_commit_29 (by decide) (by omega) (fun h29_4 => ?_) (fun h29_4 => by omega)
  refine lv_iconst (v := (nI (0))) hx hb dX5_commit_40 (by decide) ?_
  exact z_iret (w := wM cI cZ ad) (S1 := (zth S 1)) hx hb hr hlk hF hR dX5_commit_41 (⟨rfl, rfl⟩)
set_option maxHeartbeats 4000000 in
set_option maxRecDepth 100000 in
theorem c_X5_commit_e2 {l : Launch} {D : va_G} {cI cZ : ClassId} {ad : Nat → Nat} {B : Nat → Prop} (hG : ∀ S : zS, va_D B (wM cI cZ ad S)) (S : zS) (w : Nat) (hO : zOK S) (hw : w < zn S 22 0) (hc : ¬ zmay S w) : zMi l yX5_commit wsX5_commit ({ frames := 3, cells := 0, slots := 0, locals := 65 } : Room) [.ref (ad 0), .int (nI (w))] D (zT cI cZ) B (wM cI cZ ad) S (fun (r : Int32) (S1 : zS) => r = (nI (0)) ∧ S1 = zth S 2) := by
  refine zMi_of (cc := cX5_commit) (maxL := 2) (ret := (some .int)) (by decide) rfl (Nat.le_of_ble_eq_true rfl) ?_
  intro pg en s mm below meth cd hx hb hr hml hown hts hlk hF hR ls hl
  have hl : lv_has ls 2 [(0, .ref (ad 0)), (1, .int (nI (w)))] := hl
  have hW1 := (zOK.w hO).2.1
  have hW4 := (zOK.w hO).2.2
  refine lv_aload_n hx hb dX5_commit_0 rfl (lv_at hl 0 rfl) ?_
  refine lv_aload_n hx hb dX5_commit_1 rfl (lv_at hl 0 rfl) ?_
  refine lv_iload_n hx hb dX5_commit_2 rfl (lv_at hl 1 rfl) ?_
  refine z_callV_i (As := [.int (nI (w))]) (rest := [.ref (ad 0)]) (w := wM cI cZ ad) ⟨hx, hb, hml, hown, hts⟩ hF hR (c_X5_isWorker_ok hG S w hO (by omega)) (cwV 1 hts gX5_commit_X5_isWorker rfl rfl rfl (by decide +kernel) ⟨Nat.le_of_ble_eq_true rfl, Nat.le_of_ble_eq_true rfl⟩) (wM_c0 S) rfl rfl rfl hl rfl (Nat.le_of_ble_eq_true rfl) (by decide) dX5_commit_3 (fun r1 S1 H locs hp1 hR => ?_)
  obtain ⟨hr1, hs1⟩ := hp1
  subst r1
  subst S1
  refine z_if_ne_n (tgt := 13) hx hb dX5_commit_6 (by decide) (by omega) (fun h6_2 => ?_) (fun h6_2 => by omega)
  refine lv_aload_n hx hb dX5_commit_13 rfl (lv_at hl 0 rfl) ?_
  refine lv_iload_n hx hb dX5_commit_14 rfl (lv_at hl 1 rfl) ?_
  refine z_callV_i (As := [.int (nI (w))]) (rest := [.ref (ad 0)]) (w := wM cI cZ ad) ⟨hx, hb, hml, hown, hts⟩ hF hR (c_X5_mayCommit hG S w (by omega)) (cwV 1 hts gX5_commit_X5_mayCommit rfl rfl rfl (by decide +kernel) ⟨Nat.le_of_ble_eq_true rfl, Nat.le_of_ble_eq_true rfl⟩) (wM_c0 S) rfl rfl rfl hl rfl (Nat.le_of_ble_eq_true rfl) (by decide) dX5_commit_15 (fun r3 S3 H locs hp3 hR => ?_)
  obtain ⟨hp3, hs3⟩ := hp3
  subst S3
  rcases hp3 with ⟨hb15, hr3⟩ | ⟨hb15, hr3⟩
  · exact absurd hb15 hc
  · subst r3
    refine z_if_eq_n (tgt := 25) hx hb dX5_commit_18 (by decide) (by omega) (fun h18_4 => ?_) (fun h18_4 => by omega)
    refine lv_iconst (v := (nI (2))) hx hb dX5_commit_25 (by decide) ?_
    refine z_callV_i (As := [.int (nI (2))]) (rest := []) (w := wM cI cZ ad) ⟨hx, hb, hml, hown, hts⟩ hF hR (c_X5_holds_nz hG S 2 (by decide) (by decide)) (cwV 1 hts gX5_commit_X5_holds rfl rfl rfl (by decide +kernel) ⟨Nat.le_of_ble_eq_true rfl, Nat.le_of_ble_eq_true rfl⟩) (wM_c0 S) rfl rfl rfl hl rfl (Nat.le_of_ble_eq_true rfl) (by decide) dX5_commit_26 (fun r5 S5 H locs hp5 hR => ?_)
    obtain ⟨hr5, hs5⟩ := hp5
    subst r5
    subst S5
    have hO5 := (zOK_th (i := 2) hO)
    refine z_if_eq_n (tgt := 40) hx hb dX5_commit_29 (by decide) (by omega) (fun h29_6 => ?_) (fun h29_6 => by omega)
    refine lv_iconst (v := (nI (0))) hx hb dX5_commit_40 (by decide) ?_
    exact z_iret (w := wM cI cZ ad) (S1 := (zth S 2)) hx hb hr hlk hF hR dX5_commit_41 (⟨rfl, rfl⟩)
set_option maxHeartbeats 4000000 in
set_option maxRecDepth 100000 in
theorem c_X5_commit_ok {l : Launch} {D : va_G} {cI cZ : ClassId} {ad : Nat → Nat} {B : Nat → Prop} (hG : ∀ S : zS, va_D B (wM cI cZ ad S)) (S : zS) (w : Nat) (hO : zOK S) (hw : w < zn S 22 0) (hc : zmay S w) : zMi l yX5_commit wsX5_commit ({ frames := 3, cells := 0, slots := 0, locals := 65 } : Room) [.ref (ad 0), .int (nI (w))] D (zT cI cZ) B (wM cI cZ ad) S (fun (r : Int32) (S1 : zS) => r = (mo_comc (zth S 0) w 32) ∧ S1 = mo_com (zth S 0) w) := by
  refine zMi_of (cc := cX5_commit) (maxL := 2) (ret := (some .int)) (by decide) rfl (Nat.le_of_ble_eq_true rfl) ?_
  intro pg en s mm below meth cd hx hb hr hml hown hts hlk hF hR ls hl
  have hl : lv_has ls 2 [(0, .ref (ad 0)), (1, .int (nI (w)))] := hl
  have hW1 := (zOK.w hO).2.1
  have hW4 := (zOK.w hO).2.2
  refine lv_aload_n hx hb dX5_commit_0 rfl (lv_at hl 0 rfl) ?_
  refine lv_aload_n hx hb dX5_commit_1 rfl (lv_at hl 0 rfl) ?_
  refine lv_iload_n hx hb dX5_commit_2 rfl (lv_at hl 1 rfl) ?_
  refine z_callV_i (As := [.int (nI (w))]) (rest := [.ref (ad 0)]) (w := wM cI cZ ad) ⟨hx, hb, hml, hown, hts⟩ hF hR (c_X5_isWorker_ok hG S w hO (by omega)) (cwV 1 hts gX5_commit_X5_isWorker rfl rfl rfl (by decide +kernel) ⟨Nat.le_of_ble_eq_true rfl, Nat.le_of_ble_eq_true rfl⟩) (wM_c0 S) rfl rfl rfl hl rfl (Nat.le_of_ble_eq_true rfl) (by decide) dX5_commit_3 (fun r1 S1 H locs hp1 hR => ?_)
  obtain ⟨hr1, hs1⟩ := hp1
  subst r1
  subst S1
  refine z_if_ne_n (tgt := 13) hx hb dX5_commit_6 (by decide) (by omega) (fun h6_2 => ?_) (fun h6_2 => by omega)
  refine lv_aload_n hx hb dX5_commit_13 rfl (lv_at hl 0 rfl) ?_
  refine lv_iload_n hx hb dX5_commit_14 rfl (lv_at hl 1 rfl) ?_
  refine z_callV_i (As := [.int (nI (w))]) (rest := [.ref (ad 0)]) (w := wM cI cZ ad) ⟨hx, hb, hml, hown, hts⟩ hF hR (c_X5_mayCommit hG S w (by omega)) (cwV 1 hts gX5_commit_X5_mayCommit rfl rfl rfl (by decide +kernel) ⟨Nat.le_of_ble_eq_true rfl, Nat.le_of_ble_eq_true rfl⟩) (wM_c0 S) rfl rfl rfl hl rfl (Nat.le_of_ble_eq_true rfl) (by decide) dX5_commit_15 (fun r3 S3 H locs hp3 hR => ?_)
  obtain ⟨hp3, hs3⟩ := hp3
  subst S3
  rcases hp3 with ⟨hb15, hr3⟩ | ⟨hb15, hr3⟩
  · subst r3
    refine z_if_eq_n (tgt := 25) hx hb dX5_commit_18 (by decide) (by omega) (fun h18_4 => by omega) (fun h18_4 => ?_)
    refine lv_iconst (v := (nI (0))) hx hb dX5_commit_21 (by decide) ?_
    refine lv_goto (tgt := 26) hx hb dX5_commit_22 (by decide) ?_
    refine z_callV_i (As := [.int (nI (0))]) (rest := []) (w := wM cI cZ ad) ⟨hx, hb, hml, hown, hts⟩ hF hR (c_X5_holds_z hG S ) (cwV 1 hts gX5_commit_X5_holds rfl rfl rfl (by decide +kernel) ⟨Nat.le_of_ble_eq_true rfl, Nat.le_of_ble_eq_true rfl⟩) (wM_c0 S) rfl rfl rfl hl rfl (Nat.le_of_ble_eq_true rfl) (by decide) dX5_commit_26 (fun r5 S5 H locs hp5 hR => ?_)
    obtain ⟨hr5, hs5⟩ := hp5
    subst r5
    subst S5
    have hO5 := (zOK_th (i := 0) hO)
    refine z_if_eq_n (tgt := 40) hx hb dX5_commit_29 (by decide) (by omega) (fun h29_6 => by omega) (fun h29_6 => ?_)
    refine lv_aload_n hx hb dX5_commit_32 rfl (lv_at hl 0 rfl) ?_
    refine lv_iload_n hx hb dX5_commit_33 rfl (lv_at hl 1 rfl) ?_
    refine z_callV_i (As := [.int (nI (w))]) (rest := []) (w := wM cI cZ ad) ⟨hx, hb, hml, hown, hts⟩ hF hR (c_X5_commits hG (zth S 0) w hO5 (by omega)) (cwV 1 hts gX5_commit_X5_commits rfl rfl rfl (by decide +kernel) ⟨Nat.le_of_ble_eq_true rfl, Nat.le_of_ble_eq_true rfl⟩) (wM_c0 (zth S 0)) rfl rfl rfl hl rfl (Nat.le_of_ble_eq_true rfl) (by decide) dX5_commit_34 (fun r7 S7 H locs hp7 hR => ?_)
    obtain ⟨hr7, hs7⟩ := hp7
    subst r7
    subst S7
    have hO7 := (zOK_mcom (w := w) hO5)
    refine lv_goto (tgt := 41) hx hb dX5_commit_37 (by decide) ?_
    exact z_iret (w := wM cI cZ ad) (S1 := (mo_com (zth S 0) w)) hx hb hr hlk hF hR dX5_commit_41 (⟨rfl, rfl⟩)
  · exact absurd hc hb15
set_option maxHeartbeats 4000000 in
set_option maxRecDepth 100000 in
theorem c_X5_beginCheckpoint_e1 {l : Launch} {D : va_G} {cI cZ : ClassId} {ad : Nat → Nat} {B : Nat → Prop} (hG : ∀ S : zS, va_D B (wM cI cZ ad S)) (S : zS) (hO : zOK S) (hc : ¬ S 22 2 = (-1) ∨ ¬ (S 21 0 = (-1) ∧ S 21 1 = (-1) ∧ S 21 2 = (-1) ∧ S 21 3 = (-1))) : zMi l yX5_beginCheckpoint wsX5_beginCheckpoint ({ frames := 1, cells := 0, slots := 0, locals := 21 } : Room) [.ref (ad 0)] D (zT cI cZ) B (wM cI cZ ad) S (fun (r : Int32) (S1 : zS) => r = (nI (0)) ∧ S1 = zth S 1) := by
  refine zMi_of (cc := cX5_beginCheckpoint) (maxL := 1) (ret := (some .int)) (by decide) rfl (Nat.le_of_ble_eq_true rfl) ?_
  intro pg en s mm below meth cd hx hb hr hml hown hts hlk hF hR ls hl
  have hinX5 : ∀ w ∈ wsX50, w ∈ wsX5_beginCheckpoint := by decide +kernel
  have hl : lv_has ls 1 [(0, .ref (ad 0))] := hl
  refine lv_aload_n hx hb dX5_beginCheckpoint_0 rfl (lv_at hl 0 rfl) ?_
  refine lv_aload_n hx hb dX5_beginCheckpoint_1 rfl (lv_at hl 0 rfl) ?_
  refine z_get (own := RX5) (C := RX5) (T := TX5) (N := 27) (k := 18) (v := .int (S 22 2)) hx hb hts hinX5 hown hF hR (wM_c0 S) rfl (by decide) (by decide +kernel) rfl rfl dX5_beginCheckpoint_2 ?_
  refine lv_iconst (v := ((-1))) hx hb dX5_beginCheckpoint_5 (by decide) ?_
  refine lv_icmp_ne (tgt := 16) hx hb dX5_beginCheckpoint_6 (by decide) (fun h6_1 => ?_) (fun h6_1 => ?_)
  · skip
    refine lv_iconst (v := (nI (1))) hx hb dX5_beginCheckpoint_16 (by decide) ?_
    refine lv_goto (tgt := 21) hx hb dX5_beginCheckpoint_17 (by decide) ?_
    refine z_callV_i (As := [.int (nI (1))]) (rest := []) (w := wM cI cZ ad) ⟨hx, hb, hml, hown, hts⟩ hF hR (c_X5_holds_nz hG S 1 (by decide) (by decide)) (cwV 1 hts gX5_beginCheckpoint_X5_holds rfl rfl rfl (by decide +kernel) ⟨Nat.le_of_ble_eq_true rfl, Nat.le_of_ble_eq_true rfl⟩) (wM_c0 S) rfl rfl rfl hl rfl (Nat.le_of_ble_eq_true rfl) (by decide) dX5_beginCheckpoint_21 (fun r2 S2 H locs hp2 hR => ?_)
    obtain ⟨hr2, hs2⟩ := hp2
    subst r2
    subst S2
    have hO2 := (zOK_th (i := 1) hO)
    refine z_if_ne_n (tgt := 29) hx hb dX5_beginCheckpoint_24 (by decide) (by omega) (fun h24_3 => by omega) (fun h24_3 => ?_)
    refine lv_iconst (v := (nI (0))) hx hb dX5_beginCheckpoint_27 (by decide) ?_
    exact z_iret (w := wM cI cZ ad) (S1 := (zth S 1)) hx hb hr hlk hF hR dX5_beginCheckpoint_28 (⟨rfl, rfl⟩)
  · skip
    have q6 := h6_1
    refine lv_aload_n hx hb dX5_beginCheckpoint_9 rfl (lv_at hl 0 rfl) ?_
    refine z_callV_i (As := []) (rest := [.ref (ad 0)]) (w := wM cI cZ ad) ⟨hx, hb, hml, hown, hts⟩ hF hR (c_X5_isAnySealed hG S ) (cwV 0 hts gX5_beginCheckpoint_X5_isAnySealed rfl rfl rfl (by decide +kernel) ⟨Nat.le_of_ble_eq_true rfl, Nat.le_of_ble_eq_true rfl⟩) (wM_c0 S) rfl rfl rfl hl rfl (Nat.le_of_ble_eq_true rfl) (by decide) dX5_beginCheckpoint_10 (fun r4 S4 H locs hp4 hR => ?_)
    obtain ⟨hp4, hs4⟩ := hp4
    subst S4
    rcases hp4 with ⟨hb10, hr4⟩ | ⟨hb10, hr4⟩
    · subst r4
      refine z_if_eq_n (tgt := 20) hx hb dX5_beginCheckpoint_13 (by decide) (by omega) (fun h13_5 => by omega) (fun h13_5 => ?_)
      refine lv_iconst (v := (nI (1))) hx hb dX5_beginCheckpoint_16 (by decide) ?_
      refine lv_goto (tgt := 21) hx hb dX5_beginCheckpoint_17 (by decide) ?_
      refine z_callV_i (As := [.int (nI (1))]) (rest := []) (w := wM cI cZ ad) ⟨hx, hb, hml, hown, hts⟩ hF hR (c_X5_holds_nz hG S 1 (by decide) (by decide)) (cwV 1 hts gX5_beginCheckpoint_X5_holds rfl rfl rfl (by decide +kernel) ⟨Nat.le_of_ble_eq_true rfl, Nat.le_of_ble_eq_true rfl⟩) (wM_c0 S) rfl rfl rfl hl rfl (Nat.le_of_ble_eq_true rfl) (by decide) dX5_beginCheckpoint_21 (fun r6 S6 H locs hp6 hR => ?_)
      obtain ⟨hr6, hs6⟩ := hp6
      subst r6
      subst S6
      have hO6 := (zOK_th (i := 1) hO)
      refine z_if_ne_n (tgt := 29) hx hb dX5_beginCheckpoint_24 (by decide) (by omega) (fun h24_7 => by omega) (fun h24_7 => ?_)
      refine lv_iconst (v := (nI (0))) hx hb dX5_beginCheckpoint_27 (by decide) ?_
      exact z_iret (w := wM cI cZ ad) (S1 := (zth S 1)) hx hb hr hlk hF hR dX5_beginCheckpoint_28 (⟨rfl, rfl⟩)
    · exact absurd q6 (hc.elim id (fun q => absurd (Classical.not_not.mp hb10) q))
set_option maxHeartbeats 4000000 in
set_option maxRecDepth 100000 in
theorem c_X5_beginCheckpoint_ok {l : Launch} {D : va_G} {cI cZ : ClassId} {ad : Nat → Nat} {B : Nat → Prop} (hG : ∀ S : zS, va_D B (wM cI cZ ad S)) (S : zS) (hO : zOK S) (hc1 : S 22 2 = (-1)) (hc : (S 21 0 = (-1) ∧ S 21 1 = (-1) ∧ S 21 2 = (-1) ∧ S 21 3 = (-1))) : zMi l yX5_beginCheckpoint wsX5_beginCheckpoint ({ frames := 1, cells := 0, slots := 0, locals := 21 } : Room) [.ref (ad 0)] D (zT cI cZ) B (wM cI cZ ad) S (fun (r : Int32) (S1 : zS) => r = ((zth S 0) 22 1 + nI 1) ∧ S1 = mo_beg (zth S 0)) := by
  refine zMi_of (cc := cX5_beginCheckpoint) (maxL := 1) (ret := (some .int)) (by decide) rfl (Nat.le_of_ble_eq_true rfl) ?_
  intro pg en s mm below meth cd hx hb hr hml hown hts hlk hF hR ls hl
  have hinX5 : ∀ w ∈ wsX50, w ∈ wsX5_beginCheckpoint := by decide +kernel
  have hl : lv_has ls 1 [(0, .ref (ad 0))] := hl
  refine lv_aload_n hx hb dX5_beginCheckpoint_0 rfl (lv_at hl 0 rfl) ?_
  refine lv_aload_n hx hb dX5_beginCheckpoint_1 rfl (lv_at hl 0 rfl) ?_
  refine z_get (own := RX5) (C := RX5) (T := TX5) (N := 27) (k := 18) (v := .int (S 22 2)) hx hb hts hinX5 hown hF hR (wM_c0 S) rfl (by decide) (by decide +kernel) rfl rfl dX5_beginCheckpoint_2 ?_
  refine lv_iconst (v := ((-1))) hx hb dX5_beginCheckpoint_5 (by decide) ?_
  refine lv_icmp_ne (tgt := 16) hx hb dX5_beginCheckpoint_6 (by decide) (fun h6_1 => absurd hc1 h6_1) (fun h6_1 => ?_)
  refine lv_aload_n hx hb dX5_beginCheckpoint_9 rfl (lv_at hl 0 rfl) ?_
  refine z_callV_i (As := []) (rest := [.ref (ad 0)]) (w := wM cI cZ ad) ⟨hx, hb, hml, hown, hts⟩ hF hR (c_X5_isAnySealed hG S ) (cwV 0 hts gX5_beginCheckpoint_X5_isAnySealed rfl rfl rfl (by decide +kernel) ⟨Nat.le_of_ble_eq_true rfl, Nat.le_of_ble_eq_true rfl⟩) (wM_c0 S) rfl rfl rfl hl rfl (Nat.le_of_ble_eq_true rfl) (by decide) dX5_beginCheckpoint_10 (fun r2 S2 H locs hp2 hR => ?_)
  obtain ⟨hp2, hs2⟩ := hp2
  subst S2
  rcases hp2 with ⟨hb10, hr2⟩ | ⟨hb10, hr2⟩
  · exact absurd hc hb10
  · subst r2
    refine z_if_eq_n (tgt := 20) hx hb dX5_beginCheckpoint_13 (by decide) (by omega) (fun h13_3 => ?_) (fun h13_3 => by omega)
    refine lv_iconst (v := (nI (0))) hx hb dX5_beginCheckpoint_20 (by decide) ?_
    refine z_callV_i (As := [.int (nI (0))]) (rest := []) (w := wM cI cZ ad) ⟨hx, hb, hml, hown, hts⟩ hF hR (c_X5_holds_z hG S ) (cwV 1 hts gX5_beginCheckpoint_X5_holds rfl rfl rfl (by decide +kernel) ⟨Nat.le_of_ble_eq_true rfl, Nat.le_of_ble_eq_true rfl⟩) (wM_c0 S) rfl rfl rfl hl rfl (Nat.le_of_ble_eq_true rfl) (by decide) dX5_beginCheckpoint_21 (fun r4 S4 H locs hp4 hR => ?_)
    obtain ⟨hr4, hs4⟩ := hp4
    subst r4
    subst S4
    have hO4 := (zOK_th (i := 0) hO)
    refine z_if_ne_n (tgt := 29) hx hb dX5_beginCheckpoint_24 (by decide) (by omega) (fun h24_5 => ?_) (fun h24_5 => by omega)
    refine lv_aload_n hx hb dX5_beginCheckpoint_29 rfl (lv_at hl 0 rfl) ?_
    refine lv_dup hx hb dX5_beginCheckpoint_30 rfl ?_
    refine z_get (own := RX5) (C := RX5) (T := TX5) (N := 27) (k := 17) (v := .int ((zth S 0) 22 1)) hx hb hts hinX5 hown hF hR (wM_c0 (zth S 0)) rfl (by decide) (by decide +kernel) rfl rfl dX5_beginCheckpoint_31 ?_
    refine lv_iconst (v := (nI (1))) hx hb dX5_beginCheckpoint_34 (by decide) ?_
    refine lv_iadd hx hb dX5_beginCheckpoint_35 ?_
    refine z_put (own := RX5) (C := RX5) (T := TX5) (N := 27) (k := 17) (ty := .int) hx hb hts hinX5 tyX5 tyX5_ok nmX5 hown hF (hG (zth S 0)) hR (wM_c0 (zth S 0)) rfl (by decide) (by decide +kernel) rfl rfl (by decide +kernel) rfl rfl (Nat.le_of_ble_eq_true rfl) (wM_p1 (zth S 0) (((zth S 0) 22 1) + (nI (1)))) dX5_beginCheckpoint_36 (fun H locs hR => ?_)
    refine lv_aload_n hx hb dX5_beginCheckpoint_39 rfl (lv_at hl 0 rfl) ?_
    refine lv_aload_n hx hb dX5_beginCheckpoint_40 rfl (lv_at hl 0 rfl) ?_
    refine z_get (own := RX5) (C := RX5) (T := TX5) (N := 27) (k := 17) (v := .int (((upd ((zth S 0) 22) 1 (((zth S 0) 22 1) + (nI (1))))) 1)) hx hb hts hinX5 hown hF hR (wM_c0 (zU (zth S 0) 22 (upd ((zth S 0) 22) 1 (((zth S 0) 22 1) + (nI (1)))))) rfl (by decide) (by decide +kernel) rfl rfl dX5_beginCheckpoint_41 ?_
    refine lv_topi (fun v6 ev6 => ?_)
    obtain rfl : v6 = ((zth S 0) 22 1 + nI 1) := ev6.trans (pk_us)
    refine z_put (own := RX5) (C := RX5) (T := TX5) (N := 27) (k := 18) (ty := .int) hx hb hts hinX5 tyX5 tyX5_ok nmX5 hown hF (hG (zU (zth S 0) 22 (upd ((zth S 0) 22) 1 (((zth S 0) 22 1) + (nI (1)))))) hR (wM_c0 (zU (zth S 0) 22 (upd ((zth S 0) 22) 1 (((zth S 0) 22 1) + (nI (1)))))) rfl (by decide) (by decide +kernel) rfl rfl (by decide +kernel) rfl rfl (Nat.le_of_ble_eq_true rfl) (wM_p2 (zU (zth S 0) 22 (upd ((zth S 0) 22) 1 (((zth S 0) 22 1) + (nI (1))))) ((zth S 0) 22 1 + nI 1)) dX5_beginCheckpoint_44 (fun H locs hR => ?_)
    have hR : zR D B (wM cI cZ ad (zU (zth S 0) 22 (upd ((upd ((zth S 0) 22) 1 (((zth S 0) 22 1) + (nI (1))))) 2 ((zth S 0) 22 1 + nI 1)))) s H locs := by rw [show (zU (zth S 0) 22 (upd ((upd ((zth S 0) 22) 1 (((zth S 0) 22 1) + (nI (1))))) 2 ((zth S 0) 22 1 + nI 1))) = zU (zU (zth S 0) 22 (upd ((zth S 0) 22) 1 (((zth S 0) 22 1) + (nI (1))))) 22 (upd ((upd ((zth S 0) 22) 1 (((zth S 0) 22 1) + (nI (1))))) 2 ((zth S 0) 22 1 + nI 1)) from (zU_U _ _ _ _).symm]; exact hR
    have hR : zR D B (wM cI cZ ad (zU (zth S 0) 22 (upd (upd ((zth S 0) 22) 1 ((zth S 0) 22 1 + nI 1)) 2 ((zth S 0) 22 1 + nI 1)))) s H locs := by rw [show (zU (zth S 0) 22 (upd (upd ((zth S 0) 22) 1 ((zth S 0) 22 1 + nI 1)) 2 ((zth S 0) 22 1 + nI 1))) = (zU (zth S 0) 22 (upd ((upd ((zth S 0) 22) 1 (((zth S 0) 22 1) + (nI (1))))) 2 ((zth S 0) 22 1 + nI 1))) from rfl]; exact hR
    refine lv_aload_n hx hb dX5_beginCheckpoint_47 rfl (lv_at hl 0 rfl) ?_
    refine z_callV_v (As := []) (rest := []) (w := wM cI cZ ad) ⟨hx, hb, hml, hown, hts⟩ hF hR (c_X5_lifts hG (zU (zth S 0) 22 (upd (upd ((zth S 0) 22) 1 ((zth S 0) 22 1 + nI 1)) 2 ((zth S 0) 22 1 + nI 1))) ) (cwV 0 hts gX5_beginCheckpoint_X5_lifts rfl rfl rfl (by decide +kernel) ⟨Nat.le_of_ble_eq_true rfl, Nat.le_of_ble_eq_true rfl⟩) (wM_c0 (zU (zth S 0) 22 (upd (upd ((zth S 0) 22) 1 ((zth S 0) 22 1 + nI 1)) 2 ((zth S 0) 22 1 + nI 1)))) rfl rfl rfl hl rfl (Nat.le_of_ble_eq_true rfl) (by decide) dX5_beginCheckpoint_48 (fun S7 H locs hp7 hR => ?_)
    subst S7
    refine lv_aload_n hx hb dX5_beginCheckpoint_51 rfl (lv_at hl 0 rfl) ?_
    refine z_get (own := RX5) (C := RX5) (T := TX5) (N := 27) (k := 18) (v := .int ((mo_lift (zU (zth S 0) 22 (upd (upd ((zth S 0) 22) 1 ((zth S 0) 22 1 + nI 1)) 2 ((zth S 0) 22 1 + nI 1)))) 22 2)) hx hb hts hinX5 hown hF hR (wM_c0 (mo_lift (zU (zth S 0) 22 (upd (upd ((zth S 0) 22) 1 ((zth S 0) 22 1 + nI 1)) 2 ((zth S 0) 22 1 + nI 1))))) rfl (by decide) (by decide +kernel) rfl rfl dX5_beginCheckpoint_52 ?_
    refine lv_topi (fun v8 ev8 => ?_)
    obtain rfl : v8 = ((zth S 0) 22 1 + nI 1) := ev8.trans (show upd (upd ((zth S 0) 22) 1 ((zth S 0) 22 1 + nI 1)) 2 ((zth S 0) 22 1 + nI 1) 2 = (zth S 0) 22 1 + nI 1 from pk_us)
    exact z_iret (w := wM cI cZ ad) (S1 := (mo_lift (zU (zth S 0) 22 (upd (upd ((zth S 0) 22) 1 ((zth S 0) 22 1 + nI 1)) 2 ((zth S 0) 22 1 + nI 1))))) hx hb hr hlk hF hR dX5_beginCheckpoint_55 (⟨rfl, rfl⟩)
set_option maxHeartbeats 4000000 in
set_option maxRecDepth 100000 in
theorem c_X5_abandon_e1 {l : Launch} {D : va_G} {cI cZ : ClassId} {ad : Nat → Nat} {B : Nat → Prop} (hG : ∀ S : zS, va_D B (wM cI cZ ad S)) (S : zS) (hO : zOK S) (hc : S 22 2 = (-1)) : zMi l yX5_abandon wsX5_abandon ({ frames := 2, cells := 0, slots := 0, locals := 42 } : Room) [.ref (ad 0)] D (zT cI cZ) B (wM cI cZ ad) S (fun (r : Int32) (S1 : zS) => r = (nI (0)) ∧ S1 = zth S 1) := by
  refine zMi_of (cc := cX5_abandon) (maxL := 2) (ret := (some .int)) (by decide) rfl (Nat.le_of_ble_eq_true rfl) ?_
  intro pg en s mm below meth cd hx hb hr hml hown hts hlk hF hR ls hl
  have hinX5 : ∀ w ∈ wsX50, w ∈ wsX5_abandon := by decide +kernel
  have hl : lv_has ls 2 [(0, .ref (ad 0))] := hl
  refine lv_aload_n hx hb dX5_abandon_0 rfl (lv_at hl 0 rfl) ?_
  refine lv_aload_n hx hb dX5_abandon_1 rfl (lv_at hl 0 rfl) ?_
  refine z_get (own := RX5) (C := RX5) (T := TX5) (N := 27) (k := 18) (v := .int (S 22 2)) hx hb hts hinX5 hown hF hR (wM_c0 S) rfl (by decide) (by decide +kernel) rfl rfl dX5_abandon_2 ?_
  refine lv_iconst (v := ((-1))) hx hb dX5_abandon_5 (by decide) ?_
  refine lv_icmp_ne (tgt := 13) hx hb dX5_abandon_6 (by decide) (fun h6_1 => absurd hc h6_1) (fun h6_1 => ?_)
  refine lv_iconst (v := (nI (1))) hx hb dX5_abandon_9 (by decide) ?_
  refine lv_goto (tgt := 14) hx hb dX5_abandon_10 (by decide) ?_
  refine z_callV_i (As := [.int (nI (1))]) (rest := []) (w := wM cI cZ ad) ⟨hx, hb, hml, hown, hts⟩ hF hR (c_X5_holds_nz hG S 1 (by decide) (by decide)) (cwV 1 hts gX5_abandon_X5_holds rfl rfl rfl (by decide +kernel) ⟨Nat.le_of_ble_eq_true rfl, Nat.le_of_ble_eq_true rfl⟩) (wM_c0 S) rfl rfl rfl hl rfl (Nat.le_of_ble_eq_true rfl) (by decide) dX5_abandon_14 (fun r2 S2 H locs hp2 hR => ?_)
  obtain ⟨hr2, hs2⟩ := hp2
  subst r2
  subst S2
  have hO2 := (zOK_th (i := 1) hO)
  refine z_if_ne_n (tgt := 22) hx hb dX5_abandon_17 (by decide) (by omega) (fun h17_3 => by omega) (fun h17_3 => ?_)
  refine lv_iconst (v := (nI (0))) hx hb dX5_abandon_20 (by decide) ?_
  exact z_iret (w := wM cI cZ ad) (S1 := (zth S 1)) hx hb hr hlk hF hR dX5_abandon_21 (⟨rfl, rfl⟩)
set_option maxHeartbeats 4000000 in
set_option maxRecDepth 100000 in
theorem c_X5_abandon_ok {l : Launch} {D : va_G} {cI cZ : ClassId} {ad : Nat → Nat} {B : Nat → Prop} (hG : ∀ S : zS, va_D B (wM cI cZ ad S)) (S : zS) (hO : zOK S) (hc : ¬ S 22 2 = (-1)) : zMi l yX5_abandon wsX5_abandon ({ frames := 2, cells := 0, slots := 0, locals := 42 } : Room) [.ref (ad 0)] D (zT cI cZ) B (wM cI cZ ad) S (fun (r : Int32) (S1 : zS) => r = ((mo_ab1 (zth S 0) 32) 22 2) ∧ S1 = mo_ab (zth S 0)) := by
  refine zMi_of (cc := cX5_abandon) (maxL := 2) (ret := (some .int)) (by decide) rfl (Nat.le_of_ble_eq_true rfl) ?_
  intro pg en s mm below meth cd hx hb hr hml hown hts hlk hF hR ls hl
  have hinX5 : ∀ w ∈ wsX50, w ∈ wsX5_abandon := by decide +kernel
  have hl : lv_has ls 2 [(0, .ref (ad 0))] := hl
  refine lv_aload_n hx hb dX5_abandon_0 rfl (lv_at hl 0 rfl) ?_
  refine lv_aload_n hx hb dX5_abandon_1 rfl (lv_at hl 0 rfl) ?_
  refine z_get (own := RX5) (C := RX5) (T := TX5) (N := 27) (k := 18) (v := .int (S 22 2)) hx hb hts hinX5 hown hF hR (wM_c0 S) rfl (by decide) (by decide +kernel) rfl rfl dX5_abandon_2 ?_
  refine lv_iconst (v := ((-1))) hx hb dX5_abandon_5 (by decide) ?_
  refine lv_icmp_ne (tgt := 13) hx hb dX5_abandon_6 (by decide) (fun h6_1 => ?_) (fun h6_1 => absurd h6_1 hc)
  refine lv_iconst (v := (nI (0))) hx hb dX5_abandon_13 (by decide) ?_
  refine z_callV_i (As := [.int (nI (0))]) (rest := []) (w := wM cI cZ ad) ⟨hx, hb, hml, hown, hts⟩ hF hR (c_X5_holds_z hG S ) (cwV 1 hts gX5_abandon_X5_holds rfl rfl rfl (by decide +kernel) ⟨Nat.le_of_ble_eq_true rfl, Nat.le_of_ble_eq_true rfl⟩) (wM_c0 S) rfl rfl rfl hl rfl (Nat.le_of_ble_eq_true rfl) (by decide) dX5_abandon_14 (fun r2 S2 H locs hp2 hR => ?_)
  obtain ⟨hr2, hs2⟩ := hp2
  subst r2
  subst S2
  have hO2 := (zOK_th (i := 0) hO)
  refine z_if_ne_n (tgt := 22) hx hb dX5_abandon_17 (by decide) (by omega) (fun h17_3 => ?_) (fun h17_3 => by omega)
  refine lv_iconst (v := (nI (0))) hx hb dX5_abandon_22 (by decide) ?_
  refine lv_istore_n (lv' := [(1, .int (nI (0))), (0, .ref (ad 0))]) hx hb dX5_abandon_23 rfl hl (by decide) rfl (fun ls hl => ?_)
  have loop24 : ∀ (nf24 : Nat) (k : Nat), (k ≤ 32) → 32 - k < nf24 → ∀ (H : Heap) (locs : List Loc), zR D B (wM cI cZ ad (mo_ab1 (zth S 0) k)) s H locs → ∀ ls : Array Slot, lv_has ls 2 [(0, .ref (ad 0)), (1, .int (nI (k)))] → W pg l en ({ frames := 2, cells := 0, slots := 0, locals := 42 } : Room) s mm ([.ref (ad 0)] : List Value).toArray below meth cd H locs 0 0 (MQ below (va_Qi (fun (r : Int32) (S1 : zS) => r = ((mo_ab1 (zth S 0) 32) 22 2) ∧ S1 = mo_ab (zth S 0)) (zB D (zT cI cZ) (wM cI cZ ad)) (zA B s.heap.size)) ([.ref (ad 0)] : List Value).toArray s 0 0 (zA B s.heap.size)) (F0 mm 24 ls []) := by
    intro nf24
    induction nf24 with
    | zero => intro k hk4 hn; exact absurd hn (Nat.not_lt_zero _)
    | succ nf24 ih24 =>
      intro k hk4 hn H locs hR ls hl
      have hOk := zOK_mab1 (zOK_th (i := 0) hO) k
      refine lv_iload_n hx hb dX5_abandon_24 rfl (lv_at hl 1 rfl) ?_
      refine lv_bipush (v := (nI (32))) hx hb dX5_abandon_25 (by decide) ?_
      refine z_ge_n (tgt := 83) hx hb dX5_abandon_27 (by decide) (by omega) (by omega) (fun h27_4 => ?_) (fun h27_4 => ?_)
      · skip
        have hO8 := zOK_mab1 (zOK_th (i := 0) hO) 32
        have hR : zR D B (wM cI cZ ad (mo_ab1 (zth S 0) 32)) s H locs := by rw [show (mo_ab1 (zth S 0) 32) = (mo_ab1 (zth S 0) k) from by rw [show (32 : Nat) = k from by omega]]; exact hR
        refine lv_aload_n hx hb dX5_abandon_83 rfl (lv_at hl 0 rfl) ?_
        refine z_get (own := RX5) (C := RX5) (T := TX5) (N := 27) (k := 18) (v := .int ((mo_ab1 (zth S 0) 32) 22 2)) hx hb hts hinX5 hown hF hR (wM_c0 (mo_ab1 (zth S 0) 32)) rfl (by decide) (by decide +kernel) rfl rfl dX5_abandon_84 ?_
        refine lv_istore_n (lv' := [(1, .int ((mo_ab1 (zth S 0) 32) 22 2)), (0, .ref (ad 0))]) hx hb dX5_abandon_87 rfl hl (by decide) rfl (fun ls hl => ?_)
        refine lv_aload_n hx hb dX5_abandon_88 rfl (lv_at hl 1 rfl) ?_
        refine z_callV_v (As := []) (rest := []) (w := wM cI cZ ad) ⟨hx, hb, hml, hown, hts⟩ hF hR (c_X5_unseals hG (mo_ab1 (zth S 0) 32) ) (cwV 0 hts gX5_abandon_X5_unseals rfl rfl rfl (by decide +kernel) ⟨Nat.le_of_ble_eq_true rfl, Nat.le_of_ble_eq_true rfl⟩) (wM_c0 (mo_ab1 (zth S 0) 32)) rfl rfl rfl hl rfl (Nat.le_of_ble_eq_true rfl) (by decide) dX5_abandon_89 (fun S5 H locs hp5 hR => ?_)
        subst S5
        have hO5 := (zOK_uns hO8)
        refine lv_aload_n hx hb dX5_abandon_92 rfl (lv_at hl 1 rfl) ?_
        refine z_callV_v (As := []) (rest := []) (w := wM cI cZ ad) ⟨hx, hb, hml, hown, hts⟩ hF hR (c_X5_lifts hG (mo_uns (mo_ab1 (zth S 0) 32)) ) (cwV 0 hts gX5_abandon_X5_lifts rfl rfl rfl (by decide +kernel) ⟨Nat.le_of_ble_eq_true rfl, Nat.le_of_ble_eq_true rfl⟩) (wM_c0 (mo_uns (mo_ab1 (zth S 0) 32))) rfl rfl rfl hl rfl (Nat.le_of_ble_eq_true rfl) (by decide) dX5_abandon_93 (fun S6 H locs hp6 hR => ?_)
        subst S6
        have hO6 := (zOK_lift hO5)
        refine lv_aload_n hx hb dX5_abandon_96 rfl (lv_at hl 1 rfl) ?_
        refine lv_iconst (v := ((-1))) hx hb dX5_abandon_97 (by decide) ?_
        refine z_put (own := RX5) (C := RX5) (T := TX5) (N := 27) (k := 18) (ty := .int) hx hb hts hinX5 tyX5 tyX5_ok nmX5 hown hF (hG (mo_lift (mo_uns (mo_ab1 (zth S 0) 32)))) hR (wM_c0 (mo_lift (mo_uns (mo_ab1 (zth S 0) 32)))) rfl (by decide) (by decide +kernel) rfl rfl (by decide +kernel) rfl rfl (Nat.le_of_ble_eq_true rfl) (wM_p2 (mo_lift (mo_uns (mo_ab1 (zth S 0) 32))) ((-1))) dX5_abandon_98 (fun H locs hR => ?_)
        refine lv_iload_n hx hb dX5_abandon_101 rfl (lv_at hl 0 rfl) ?_
        exact z_iret (w := wM cI cZ ad) (S1 := (zU (mo_lift (mo_uns (mo_ab1 (zth S 0) 32))) 22 (upd ((mo_lift (mo_uns (mo_ab1 (zth S 0) 32))) 22) 2 ((-1))))) hx hb hr hlk hF hR dX5_abandon_102 (⟨rfl, rfl⟩)
      · skip
        refine lv_aload_n hx hb dX5_abandon_30 rfl (lv_at hl 0 rfl) ?_
        refine z_get (own := RX5) (C := RX5) (T := TX5) (N := 27) (k := 14) (v := .ref (ad 22)) hx hb hts hinX5 hown hF hR (wM_c0 (mo_ab1 (zth S 0) k)) rfl (by decide) (by decide +kernel) rfl rfl dX5_abandon_31 ?_
        refine lv_aload_n hx hb dX5_abandon_34 rfl (lv_at hl 0 rfl) ?_
        refine lv_iload_n hx hb dX5_abandon_35 rfl (lv_at hl 1 rfl) ?_
        refine z_callV_i (As := [.int (nI (k))]) (rest := [.ref (ad 22)]) (w := wM cI cZ ad) ⟨hx, hb, hml, hown, hts⟩ hF hR (c_X5_workerOfKey hG (mo_ab1 (zth S 0) k) k hOk (by omega)) (cwV 1 hts gX5_abandon_X5_workerOfKey rfl rfl rfl (by decide +kernel) ⟨Nat.le_of_ble_eq_true rfl, Nat.le_of_ble_eq_true rfl⟩) (wM_c0 (mo_ab1 (zth S 0) k)) rfl rfl rfl hl rfl (Nat.le_of_ble_eq_true rfl) (by decide) dX5_abandon_36 (fun r7 S7 H locs hp7 hR => ?_)
        obtain ⟨hr7, hs7⟩ := hp7
        subst r7
        subst S7
        have hb36 := (hOk.own k).2
        refine z_iald_n (f := (mo_ab1 (zth S 0) k) 21) hx hb hF hR (wM_c22 (mo_ab1 (zth S 0) k)) zT_0 dX5_abandon_39 (by decide) (by omega) ?_
        refine lv_aload_n hx hb dX5_abandon_40 rfl (lv_at hl 0 rfl) ?_
        refine z_get (own := RX5) (C := RX5) (T := TX5) (N := 27) (k := 18) (v := .int ((mo_ab1 (zth S 0) k) 22 2)) hx hb hts hinX5 hown hF hR (wM_c0 (mo_ab1 (zth S 0) k)) rfl (by decide) (by decide +kernel) rfl rfl dX5_abandon_41 ?_
        refine lv_icmp_ne (tgt := 77) hx hb dX5_abandon_44 (by decide) (fun h44_8 => ?_) (fun h44_8 => ?_)
        · skip
          have q44 := h44_8
          refine lv_iinc (v := (nI (k + 1))) (lv' := [(1, .int (nI (k + 1))), (0, .ref (ad 0))]) hx hb dX5_abandon_77 hl (k := 1) rfl (z_inc _) (by decide) rfl (fun ls hl => ?_)
          refine lv_goto (tgt := 24) hx hb dX5_abandon_80 (by decide) ?_
          exact ih24 (k + 1) (by omega) (by omega) _ _ (by rw [show mo_ab1 (zth S 0) (k + 1) = (mo_ab1 (zth S 0) k) from if_neg q44]; exact hR) ls (lv_sub hl [1, 0] rfl)
        · skip
          have q44 := h44_8
          refine lv_aload_n hx hb dX5_abandon_47 rfl (lv_at hl 0 rfl) ?_
          refine z_get (own := RX5) (C := RX5) (T := TX5) (N := 27) (k := 10) (v := .ref (ad 12)) hx hb hts hinX5 hown hF hR (wM_c0 (mo_ab1 (zth S 0) k)) rfl (by decide) (by decide +kernel) rfl rfl dX5_abandon_48 ?_
          refine lv_iload_n hx hb dX5_abandon_51 rfl (lv_at hl 1 rfl) ?_
          refine lv_dup2_11 hx hb dX5_abandon_52 rfl rfl ?_
          refine z_iald_n (f := (mo_ab1 (zth S 0) k) 11) hx hb hF hR (wM_c12 (mo_ab1 (zth S 0) k)) zT_0 dX5_abandon_53 (by decide) (by omega) ?_
          refine lv_aload_n hx hb dX5_abandon_54 rfl (lv_at hl 0 rfl) ?_
          refine z_get (own := RX5) (C := RX5) (T := TX5) (N := 27) (k := 12) (v := .ref (ad 14)) hx hb hts hinX5 hown hF hR (wM_c0 (mo_ab1 (zth S 0) k)) rfl (by decide) (by decide +kernel) rfl rfl dX5_abandon_55 ?_
          refine lv_iload_n hx hb dX5_abandon_58 rfl (lv_at hl 1 rfl) ?_
          refine z_iald_n (f := (mo_ab1 (zth S 0) k) 13) hx hb hF hR (wM_c14 (mo_ab1 (zth S 0) k)) zT_0 dX5_abandon_59 (by decide) (by omega) ?_
          refine lv_iadd hx hb dX5_abandon_60 ?_
          refine z_iast_n (f := (mo_ab1 (zth S 0) k) 11) hx hb hF (hG (mo_ab1 (zth S 0) k)) hR (wM_c12 (mo_ab1 (zth S 0) k)) zT_0 (wM_s11 (mo_ab1 (zth S 0) k) (upd ((mo_ab1 (zth S 0) k) 11) (k) (((mo_ab1 (zth S 0) k) 11 (k)) + ((mo_ab1 (zth S 0) k) 13 (k))))) dX5_abandon_61 (by decide) (by omega) (fun H locs hR => ?_)
          refine lv_aload_n hx hb dX5_abandon_62 rfl (lv_at hl 0 rfl) ?_
          refine z_get (own := RX5) (C := RX5) (T := TX5) (N := 27) (k := 11) (v := .ref (ad 13)) hx hb hts hinX5 hown hF hR (wM_c0 (zU (mo_ab1 (zth S 0) k) 11 (upd ((mo_ab1 (zth S 0) k) 11) (k) (((mo_ab1 (zth S 0) k) 11 (k)) + ((mo_ab1 (zth S 0) k) 13 (k)))))) rfl (by decide) (by decide +kernel) rfl rfl dX5_abandon_63 ?_
          refine lv_iload_n hx hb dX5_abandon_66 rfl (lv_at hl 1 rfl) ?_
          refine lv_dup2_11 hx hb dX5_abandon_67 rfl rfl ?_
          refine z_iald_n (f := (mo_ab1 (zth S 0) k) 12) hx hb hF hR (wM_c13 (zU (mo_ab1 (zth S 0) k) 11 (upd ((mo_ab1 (zth S 0) k) 11) (k) (((mo_ab1 (zth S 0) k) 11 (k)) + ((mo_ab1 (zth S 0) k) 13 (k)))))) zT_0 dX5_abandon_68 (by decide) (by omega) ?_
          refine lv_aload_n hx hb dX5_abandon_69 rfl (lv_at hl 0 rfl) ?_
          refine z_get (own := RX5) (C := RX5) (T := TX5) (N := 27) (k := 13) (v := .ref (ad 15)) hx hb hts hinX5 hown hF hR (wM_c0 (zU (mo_ab1 (zth S 0) k) 11 (upd ((mo_ab1 (zth S 0) k) 11) (k) (((mo_ab1 (zth S 0) k) 11 (k)) + ((mo_ab1 (zth S 0) k) 13 (k)))))) rfl (by decide) (by decide +kernel) rfl rfl dX5_abandon_70 ?_
          refine lv_iload_n hx hb dX5_abandon_73 rfl (lv_at hl 1 rfl) ?_
          refine z_iald_n (f := (mo_ab1 (zth S 0) k) 14) hx hb hF hR (wM_c15 (zU (mo_ab1 (zth S 0) k) 11 (upd ((mo_ab1 (zth S 0) k) 11) (k) (((mo_ab1 (zth S 0) k) 11 (k)) + ((mo_ab1 (zth S 0) k) 13 (k)))))) zT_0 dX5_abandon_74 (by decide) (by omega) ?_
          refine lv_iadd hx hb dX5_abandon_75 ?_
          refine z_iast_n (f := (mo_ab1 (zth S 0) k) 12) hx hb hF (hG (zU (mo_ab1 (zth S 0) k) 11 (upd ((mo_ab1 (zth S 0) k) 11) (k) (((mo_ab1 (zth S 0) k) 11 (k)) + ((mo_ab1 (zth S 0) k) 13 (k)))))) hR (wM_c13 (zU (mo_ab1 (zth S 0) k) 11 (upd ((mo_ab1 (zth S 0) k) 11) (k) (((mo_ab1 (zth S 0) k) 11 (k)) + ((mo_ab1 (zth S 0) k) 13 (k)))))) zT_0 (wM_s12 (zU (mo_ab1 (zth S 0) k) 11 (upd ((mo_ab1 (zth S 0) k) 11) (k) (((mo_ab1 (zth S 0) k) 11 (k)) + ((mo_ab1 (zth S 0) k) 13 (k))))) (upd ((mo_ab1 (zth S 0) k) 12) (k) (((mo_ab1 (zth S 0) k) 12 (k)) + ((mo_ab1 (zth S 0) k) 14 (k))))) dX5_abandon_76 (by decide) (by omega) (fun H locs hR => ?_)
          refine lv_iinc (v := (nI (k + 1))) (lv' := [(1, .int (nI (k + 1))), (0, .ref (ad 0))]) hx hb dX5_abandon_77 hl (k := 1) rfl (z_inc _) (by decide) rfl (fun ls hl => ?_)
          refine lv_goto (tgt := 24) hx hb dX5_abandon_80 (by decide) ?_
          exact ih24 (k + 1) (by omega) (by omega) _ _ (by rw [show mo_ab1 (zth S 0) (k + 1) = (zU (zU (mo_ab1 (zth S 0) k) 11 (upd ((mo_ab1 (zth S 0) k) 11) (k) (((mo_ab1 (zth S 0) k) 11 (k)) + ((mo_ab1 (zth S 0) k) 13 (k))))) 12 (upd ((mo_ab1 (zth S 0) k) 12) (k) (((mo_ab1 (zth S 0) k) 12 (k)) + ((mo_ab1 (zth S 0) k) 14 (k))))) from if_pos q44]; exact hR) ls (lv_sub hl [1, 0] rfl)
  exact loop24 _ 0 (by omega) (Nat.lt_succ_self _) _ _ (by rw [show mo_ab1 (zth S 0) 0 = (zth S 0) from rfl]; exact hR) ls (lv_sub hl [1, 0] rfl)
set_option maxHeartbeats 4000000 in
set_option maxRecDepth 100000 in
theorem c_X5_crash {l : Launch} {D : va_G} {cI cZ : ClassId} {ad : Nat → Nat} {B : Nat → Prop} (hG : ∀ S : zS, va_D B (wM cI cZ ad S)) (S : zS) (hO : zOK S) : zMi l yX5_crash wsX5_crash ({ frames := 4, cells := 0, slots := 0, locals := 87 } : Room) [.ref (ad 0)] D (zT cI cZ) B (wM cI cZ ad) S (fun (r : Int32) (S1 : zS) => r = (mo_cr (zth S 0)) ∧ S1 = mo_sa (zth S 0) (zn S 22 0)) := by
  refine zMi_of (cc := cX5_crash) (maxL := 1) (ret := (some .int)) (by decide) rfl (Nat.le_of_ble_eq_true rfl) ?_
  intro pg en s mm below meth cd hx hb hr hml hown hts hlk hF hR ls hl
  have hinX5 : ∀ w ∈ wsX50, w ∈ wsX5_crash := by decide +kernel
  have hl : lv_has ls 1 [(0, .ref (ad 0))] := hl
  have hW1 := (zOK.w hO).2.1
  have hW4 := (zOK.w hO).2.2
  refine lv_aload_n hx hb dX5_crash_0 rfl (lv_at hl 0 rfl) ?_
  refine lv_iconst (v := (nI (0))) hx hb dX5_crash_1 (by decide) ?_
  refine z_put (own := RX5) (C := RX5) (T := TX5) (N := 27) (k := 0) (ty := .int) hx hb hts hinX5 tyX5 tyX5_ok nmX5 hown hF (hG S) hR (wM_c0 S) rfl (by decide) (by decide +kernel) rfl rfl (by decide +kernel) rfl rfl (Nat.le_of_ble_eq_true rfl) (wM_p4 S (nI (0))) dX5_crash_2 (fun H locs hR => ?_)
  have hO2 := zOK_th (i := 0) hO
  have hR : zR D B (wM cI cZ ad (zth S 0)) s H locs := by rw [show (zth S 0) = (zU S 22 (upd (S 22) 4 (nI (0)))) from rfl]; exact hR
  refine lv_aload_n hx hb dX5_crash_5 rfl (lv_at hl 0 rfl) ?_
  refine lv_aload_n hx hb dX5_crash_6 rfl (lv_at hl 0 rfl) ?_
  refine z_get (own := RX5) (C := RX5) (T := TX5) (N := 27) (k := 1) (v := .int ((zth S 0) 22 0)) hx hb hts hinX5 hown hF hR (wM_c0 (zth S 0)) rfl (by decide) (by decide +kernel) rfl rfl dX5_crash_7 ?_
  refine lv_topi (fun v1 ev1 => ?_)
  obtain rfl : v1 = (nI (zn S 22 0)) := ev1.trans (zOK.w hO2).1
  refine z_callV_v (As := [.int (nI (zn S 22 0))]) (rest := []) (w := wM cI cZ ad) ⟨hx, hb, hml, hown, hts⟩ hF hR (c_X5_startsAgain hG (zth S 0) (zn S 22 0) hO2 (by omega) (by omega)) (cwV 1 hts gX5_crash_X5_startsAgain rfl rfl rfl (by decide +kernel) ⟨Nat.le_of_ble_eq_true rfl, Nat.le_of_ble_eq_true rfl⟩) (wM_c0 (zth S 0)) rfl rfl rfl hl rfl (Nat.le_of_ble_eq_true rfl) (by decide) dX5_crash_10 (fun S2 H locs hp2 hR => ?_)
  subst S2
  have hO2 := (zOK_msa hO2 (by omega) (by omega))
  refine lv_aload_n hx hb dX5_crash_13 rfl (lv_at hl 0 rfl) ?_
  refine z_get (own := RX5) (C := RX5) (T := TX5) (N := 27) (k := 19) (v := .int ((mo_sa (zth S 0) (zn S 22 0)) 22 3)) hx hb hts hinX5 hown hF hR (wM_c0 (mo_sa (zth S 0) (zn S 22 0))) rfl (by decide) (by decide +kernel) rfl rfl dX5_crash_14 ?_
  refine lv_iconst (v := ((-1))) hx hb dX5_crash_17 (by decide) ?_
  refine lv_icmp_ne (tgt := 25) hx hb dX5_crash_18 (by decide) (fun h18_3 => ?_) (fun h18_3 => ?_)
  · skip
    have q18 := h18_3
    refine lv_aload_n hx hb dX5_crash_25 rfl (lv_at hl 0 rfl) ?_
    refine z_get (own := RX5) (C := RX5) (T := TX5) (N := 27) (k := 19) (v := .int ((mo_sa (zth S 0) (zn S 22 0)) 22 3)) hx hb hts hinX5 hown hF hR (wM_c0 (mo_sa (zth S 0) (zn S 22 0))) rfl (by decide) (by decide +kernel) rfl rfl dX5_crash_26 ?_
    exact z_iret (w := wM cI cZ ad) (S1 := (mo_sa (zth S 0) (zn S 22 0))) hx hb hr hlk hF hR dX5_crash_29 (⟨by show _ = (if mo_sa (zth S 0) (zn S 22 0) 22 3 = (-1) then nI 0 else mo_sa (zth S 0) (zn S 22 0) 22 3); first | rw [if_pos q18] | rw [if_neg q18], rfl⟩)
  · skip
    have q18 := h18_3
    refine lv_iconst (v := (nI (0))) hx hb dX5_crash_21 (by decide) ?_
    refine lv_goto (tgt := 29) hx hb dX5_crash_22 (by decide) ?_
    exact z_iret (w := wM cI cZ ad) (S1 := (mo_sa (zth S 0) (zn S 22 0))) hx hb hr hlk hF hR dX5_crash_29 (⟨by show _ = (if mo_sa (zth S 0) (zn S 22 0) 22 3 = (-1) then nI 0 else mo_sa (zth S 0) (zn S 22 0) 22 3); first | rw [if_pos q18] | rw [if_neg q18], rfl⟩)
set_option maxHeartbeats 4000000 in
set_option maxRecDepth 100000 in
theorem c_X5_rescale_e1 {l : Launch} {D : va_G} {cI cZ : ClassId} {ad : Nat → Nat} {B : Nat → Prop} (hG : ∀ S : zS, va_D B (wM cI cZ ad S)) (S : zS) (z : Int32) (hO : zOK S) (hz9 : zbadv z 1 4) : zMi l yX5_rescale wsX5_rescale ({ frames := 4, cells := 0, slots := 0, locals := 87 } : Room) [.ref (ad 0), .int (z)] D (zT cI cZ) B (wM cI cZ ad) S (fun (r : Int32) (S1 : zS) => r = (nI (0)) ∧ S1 = zth S 1) := by
  refine zMi_of (cc := cX5_rescale) (maxL := 4) (ret := (some .int)) (by decide) rfl (Nat.le_of_ble_eq_true rfl) ?_
  intro pg en s mm below meth cd hx hb hr hml hown hts hlk hF hR ls hl
  have hinX5 : ∀ w ∈ wsX50, w ∈ wsX5_rescale := by decide +kernel
  have hl : lv_has ls 4 [(0, .ref (ad 0)), (1, .int (z))] := hl
  refine lv_aload_n hx hb dX5_rescale_0 rfl (lv_at hl 0 rfl) ?_
  refine lv_iload_n hx hb dX5_rescale_1 rfl (lv_at hl 1 rfl) ?_
  refine lv_iconst (v := (nI (1))) hx hb dX5_rescale_2 (by decide) ?_
  refine lv_iconst (v := (nI (4))) hx hb dX5_rescale_3 (by decide) ?_
  refine z_callS_i (As := [.int (z), .int (nI (1)), .int (nI (4))]) (rest := [.ref (ad 0)]) (w := wM cI cZ ad) ⟨hx, hb, hml, hown, hts⟩ hF hR (c_X5_in_i hG S ((z)) ((nI (1))) ((nI (4)))) (va_cwS 3 hts gX5_rescale_X5_in rfl rfl rfl (by decide +kernel) ⟨Nat.le_of_ble_eq_true rfl, Nat.le_of_ble_eq_true rfl⟩) rfl hl rfl (Nat.le_of_ble_eq_true rfl) (by decide) dX5_rescale_4 (fun r1 S1 H locs hp1 hR => ?_)
  obtain ⟨hp1, hs1⟩ := hp1
  subst S1
  rcases hp1 with ⟨hb4, hr1⟩ | ⟨hb4, hr1⟩
  · exact absurd hb4 (zbadv_in hz9)
  · subst r1
    refine z_if_eq_n (tgt := 14) hx hb dX5_rescale_7 (by decide) (by omega) (fun h7_2 => ?_) (fun h7_2 => by omega)
    refine lv_iconst (v := (nI (1))) hx hb dX5_rescale_14 (by decide) ?_
    refine z_callV_i (As := [.int (nI (1))]) (rest := []) (w := wM cI cZ ad) ⟨hx, hb, hml, hown, hts⟩ hF hR (c_X5_holds_nz hG S 1 (by decide) (by decide)) (cwV 1 hts gX5_rescale_X5_holds rfl rfl rfl (by decide +kernel) ⟨Nat.le_of_ble_eq_true rfl, Nat.le_of_ble_eq_true rfl⟩) (wM_c0 S) rfl rfl rfl hl rfl (Nat.le_of_ble_eq_true rfl) (by decide) dX5_rescale_15 (fun r3 S3 H locs hp3 hR => ?_)
    obtain ⟨hr3, hs3⟩ := hp3
    subst r3
    subst S3
    have hO3 := (zOK_th (i := 1) hO)
    refine z_if_ne_n (tgt := 23) hx hb dX5_rescale_18 (by decide) (by omega) (fun h18_4 => by omega) (fun h18_4 => ?_)
    refine lv_iconst (v := (nI (0))) hx hb dX5_rescale_21 (by decide) ?_
    exact z_iret (w := wM cI cZ ad) (S1 := (zth S 1)) hx hb hr hlk hF hR dX5_rescale_22 (⟨rfl, rfl⟩)
set_option maxHeartbeats 4000000 in
set_option maxRecDepth 100000 in
theorem c_X5_rescale_ok {l : Launch} {D : va_G} {cI cZ : ClassId} {ad : Nat → Nat} {B : Nat → Prop} (hG : ∀ S : zS, va_D B (wM cI cZ ad S)) (S : zS) (v : Nat) (hO : zOK S) (hv : 1 ≤ v) (hv2 : v ≤ 4) : zMi l yX5_rescale wsX5_rescale ({ frames := 4, cells := 0, slots := 0, locals := 87 } : Room) [.ref (ad 0), .int (nI (v))] D (zT cI cZ) B (wM cI cZ ad) S (fun (r : Int32) (S1 : zS) => r = (nI (mo_mg v (zn S 22 0) 8)) ∧ S1 = mo_sa (zth S 0) v) := by
  refine zMi_of (cc := cX5_rescale) (maxL := 4) (ret := (some .int)) (by decide) rfl (Nat.le_of_ble_eq_true rfl) ?_
  intro pg en s mm below meth cd hx hb hr hml hown hts hlk hF hR ls hl
  have hinX5 : ∀ w ∈ wsX50, w ∈ wsX5_rescale := by decide +kernel
  have hl : lv_has ls 4 [(0, .ref (ad 0)), (1, .int (nI (v)))] := hl
  have hW1 := (zOK.w hO).2.1
  have hW4 := (zOK.w hO).2.2
  refine lv_aload_n hx hb dX5_rescale_0 rfl (lv_at hl 0 rfl) ?_
  refine lv_iload_n hx hb dX5_rescale_1 rfl (lv_at hl 1 rfl) ?_
  refine lv_iconst (v := (nI (1))) hx hb dX5_rescale_2 (by decide) ?_
  refine lv_iconst (v := (nI (4))) hx hb dX5_rescale_3 (by decide) ?_
  refine z_callS_i (As := [.int (nI (v)), .int (nI (1)), .int (nI (4))]) (rest := [.ref (ad 0)]) (w := wM cI cZ ad) ⟨hx, hb, hml, hown, hts⟩ hF hR (c_X5_in_n hG S v 1 4 (by omega) (by omega) (by omega)) (va_cwS 3 hts gX5_rescale_X5_in rfl rfl rfl (by decide +kernel) ⟨Nat.le_of_ble_eq_true rfl, Nat.le_of_ble_eq_true rfl⟩) rfl hl rfl (Nat.le_of_ble_eq_true rfl) (by decide) dX5_rescale_4 (fun r1 S1 H locs hp1 hR => ?_)
  obtain ⟨hp1, hs1⟩ := hp1
  subst S1
  rcases hp1 with ⟨hb4, hr1⟩ | ⟨hb4, hr1⟩
  · subst r1
    refine z_if_eq_n (tgt := 14) hx hb dX5_rescale_7 (by decide) (by omega) (fun h7_2 => by omega) (fun h7_2 => ?_)
    refine lv_iconst (v := (nI (0))) hx hb dX5_rescale_10 (by decide) ?_
    refine lv_goto (tgt := 15) hx hb dX5_rescale_11 (by decide) ?_
    refine z_callV_i (As := [.int (nI (0))]) (rest := []) (w := wM cI cZ ad) ⟨hx, hb, hml, hown, hts⟩ hF hR (c_X5_holds_z hG S ) (cwV 1 hts gX5_rescale_X5_holds rfl rfl rfl (by decide +kernel) ⟨Nat.le_of_ble_eq_true rfl, Nat.le_of_ble_eq_true rfl⟩) (wM_c0 S) rfl rfl rfl hl rfl (Nat.le_of_ble_eq_true rfl) (by decide) dX5_rescale_15 (fun r3 S3 H locs hp3 hR => ?_)
    obtain ⟨hr3, hs3⟩ := hp3
    subst r3
    subst S3
    have hO3 := (zOK_th (i := 0) hO)
    have hO2 := zOK_th (i := 0) hO
    refine z_if_ne_n (tgt := 23) hx hb dX5_rescale_18 (by decide) (by omega) (fun h18_4 => ?_) (fun h18_4 => by omega)
    refine lv_iconst (v := (nI (0))) hx hb dX5_rescale_23 (by decide) ?_
    refine lv_istore_n (lv' := [(2, .int (nI (0))), (0, .ref (ad 0)), (1, .int (nI (v)))]) hx hb dX5_rescale_24 rfl hl (by decide) rfl (fun ls hl => ?_)
    refine lv_iconst (v := (nI (0))) hx hb dX5_rescale_25 (by decide) ?_
    refine lv_istore_n (lv' := [(3, .int (nI (0))), (2, .int (nI (0))), (0, .ref (ad 0)), (1, .int (nI (v)))]) hx hb dX5_rescale_26 rfl hl (by decide) rfl (fun ls hl => ?_)
    have loop27 : ∀ (nf27 : Nat) (k : Nat), (k ≤ 8) → 8 - k < nf27 → ∀ (H : Heap) (locs : List Loc), zR D B (wM cI cZ ad (zth S 0)) s H locs → ∀ ls : Array Slot, lv_has ls 4 [(0, .ref (ad 0)), (1, .int (nI (v))), (2, .int (nI (mo_mg v (zn S 22 0) k))), (3, .int (nI (k)))] → W pg l en ({ frames := 4, cells := 0, slots := 0, locals := 87 } : Room) s mm ([.ref (ad 0), .int (nI (v))] : List Value).toArray below meth cd H locs 0 0 (MQ below (va_Qi (fun (r : Int32) (S1 : zS) => r = (nI (mo_mg v (zn S 22 0) 8)) ∧ S1 = mo_sa (zth S 0) v) (zB D (zT cI cZ) (wM cI cZ ad)) (zA B s.heap.size)) ([.ref (ad 0), .int (nI (v))] : List Value).toArray s 0 0 (zA B s.heap.size)) (F0 mm 27 ls []) := by
      intro nf27
      induction nf27 with
      | zero => intro k hk4 hn; exact absurd hn (Nat.not_lt_zero _)
      | succ nf27 ih27 =>
        intro k hk4 hn H locs hR ls hl
        refine lv_iload_n hx hb dX5_rescale_27 rfl (lv_at hl 3 rfl) ?_
        refine lv_bipush (v := (nI (8))) hx hb dX5_rescale_28 (by decide) ?_
        refine z_ge_n (tgt := 63) hx hb dX5_rescale_30 (by decide) (by omega) (by omega) (fun h30_5 => ?_) (fun h30_5 => ?_)
        · skip
          refine lv_aload_n hx hb dX5_rescale_63 rfl (lv_at hl 0 rfl) ?_
          refine lv_iload_n hx hb dX5_rescale_64 rfl (lv_at hl 1 rfl) ?_
          refine z_callV_v (As := [.int (nI (v))]) (rest := []) (w := wM cI cZ ad) ⟨hx, hb, hml, hown, hts⟩ hF hR (c_X5_startsAgain hG (zth S 0) v hO2 (by omega) (by omega)) (cwV 1 hts gX5_rescale_X5_startsAgain rfl rfl rfl (by decide +kernel) ⟨Nat.le_of_ble_eq_true rfl, Nat.le_of_ble_eq_true rfl⟩) (wM_c0 (zth S 0)) rfl rfl rfl hl rfl (Nat.le_of_ble_eq_true rfl) (by decide) dX5_rescale_65 (fun S6 H locs hp6 hR => ?_)
          subst S6
          have hO6 := (zOK_msa hO2 (by omega) (by omega))
          refine lv_iload_n hx hb dX5_rescale_68 rfl (lv_at hl 2 rfl) ?_
          exact z_iret (w := wM cI cZ ad) (S1 := (mo_sa (zth S 0) v)) hx hb hr hlk hF hR dX5_rescale_69 (⟨by rw [show (8 : Nat) = k from by omega], rfl⟩)
        · skip
          refine lv_iload_n hx hb dX5_rescale_33 rfl (lv_at hl 2 rfl) ?_
          refine lv_iload_n hx hb dX5_rescale_34 rfl (lv_at hl 3 rfl) ?_
          refine lv_iload_n hx hb dX5_rescale_35 rfl (lv_at hl 1 rfl) ?_
          refine z_callS_i (As := [.int (nI (k)), .int (nI (v))]) (rest := [.int (nI (mo_mg v (zn S 22 0) k))]) (w := wM cI cZ ad) ⟨hx, hb, hml, hown, hts⟩ hF hR (c_X5_workerOfGroup hG (zth S 0) k v (by omega) (by omega)) (va_cwS 2 hts gX5_rescale_X5_workerOfGroup rfl rfl rfl (by decide +kernel) ⟨Nat.le_of_ble_eq_true rfl, Nat.le_of_ble_eq_true rfl⟩) rfl hl rfl (Nat.le_of_ble_eq_true rfl) (by decide) dX5_rescale_36 (fun r7 S7 H locs hp7 hR => ?_)
          obtain ⟨hr7, hs7⟩ := hp7
          subst r7
          subst S7
          refine lv_iload_n hx hb dX5_rescale_39 rfl (lv_at hl 3 rfl) ?_
          refine lv_aload_n hx hb dX5_rescale_40 rfl (lv_at hl 0 rfl) ?_
          refine z_get (own := RX5) (C := RX5) (T := TX5) (N := 27) (k := 1) (v := .int ((zth S 0) 22 0)) hx hb hts hinX5 hown hF hR (wM_c0 (zth S 0)) rfl (by decide) (by decide +kernel) rfl rfl dX5_rescale_41 ?_
          refine lv_topi (fun v8 ev8 => ?_)
          obtain rfl : v8 = (nI (zn S 22 0)) := ev8.trans (zOK.w hO2).1
          refine z_callS_i (As := [.int (nI (k)), .int (nI (zn S 22 0))]) (rest := [.int (nI (k * v / 8)), .int (nI (mo_mg v (zn S 22 0) k))]) (w := wM cI cZ ad) ⟨hx, hb, hml, hown, hts⟩ hF hR (c_X5_workerOfGroup hG (zth S 0) k (zn S 22 0) (by omega) (by omega)) (va_cwS 2 hts gX5_rescale_X5_workerOfGroup rfl rfl rfl (by decide +kernel) ⟨Nat.le_of_ble_eq_true rfl, Nat.le_of_ble_eq_true rfl⟩) rfl hl rfl (Nat.le_of_ble_eq_true rfl) (by decide) dX5_rescale_44 (fun r9 S9 H locs hp9 hR => ?_)
          obtain ⟨hr9, hs9⟩ := hp9
          subst r9
          subst S9
          refine z_ne_n (tgt := 54) hx hb dX5_rescale_47 (by decide) (by have := Nat.mul_le_mul (show k ≤ 7 by omega) (show v ≤ 4 by omega); omega) (by have := Nat.mul_le_mul (show k ≤ 7 by omega) (show zn S 22 0 ≤ 4 by omega); omega) (fun h47_10 => ?_) (fun h47_10 => ?_)
          · skip
            have q47 := h47_10
            refine lv_iconst (v := (nI (1))) hx hb dX5_rescale_54 (by decide) ?_
            refine z_iadd_n hx hb dX5_rescale_55 ?_
            refine lv_istore_n (lv' := [(2, .int (nI ((mo_mg v (zn S 22 0) k) + 1))), (0, .ref (ad 0)), (1, .int (nI (v))), (3, .int (nI (k)))]) hx hb dX5_rescale_56 rfl hl (by decide) rfl (fun ls hl => ?_)
            have hl : lv_has ls 4 [(2, .int (nI (mo_mg v (zn S 22 0) (k + 1)))), (0, .ref (ad 0)), (1, .int (nI (v))), (3, .int (nI (k)))] := (by rw [show mo_mg v (zn S 22 0) (k + 1) = mo_mg v (zn S 22 0) k + (if k * v / 8 = k * zn S 22 0 / 8 then 0 else 1) from rfl]; first | (rw [if_pos q47]; exact hl) | (rw [if_neg q47]; exact hl))
            refine lv_iinc (v := (nI (k + 1))) (lv' := [(3, .int (nI (k + 1))), (2, .int (nI (mo_mg v (zn S 22 0) (k + 1)))), (0, .ref (ad 0)), (1, .int (nI (v)))]) hx hb dX5_rescale_57 hl (k := 3) rfl (z_inc _) (by decide) rfl (fun ls hl => ?_)
            refine lv_goto (tgt := 27) hx hb dX5_rescale_60 (by decide) ?_
            exact ih27 (k + 1) (by omega) (by omega) _ _ hR ls (lv_sub hl [2, 3, 1, 0] rfl)
          · skip
            have q47 := h47_10
            refine lv_iconst (v := (nI (0))) hx hb dX5_rescale_50 (by decide) ?_
            refine lv_goto (tgt := 55) hx hb dX5_rescale_51 (by decide) ?_
            refine z_iadd_n hx hb dX5_rescale_55 ?_
            refine lv_istore_n (lv' := [(2, .int (nI ((mo_mg v (zn S 22 0) k) + 0))), (0, .ref (ad 0)), (1, .int (nI (v))), (3, .int (nI (k)))]) hx hb dX5_rescale_56 rfl hl (by decide) rfl (fun ls hl => ?_)
            have hl : lv_has ls 4 [(2, .int (nI (mo_mg v (zn S 22 0) (k + 1)))), (0, .ref (ad 0)), (1, .int (nI (v))), (3, .int (nI (k)))] := (by rw [show mo_mg v (zn S 22 0) (k + 1) = mo_mg v (zn S 22 0) k + (if k * v / 8 = k * zn S 22 0 / 8 then 0 else 1) from rfl]; first | (rw [if_pos q47]; exact hl) | (rw [if_neg q47]; exact hl))
            refine lv_iinc (v := (nI (k + 1))) (lv' := [(3, .int (nI (k + 1))), (2, .int (nI (mo_mg v (zn S 22 0) (k + 1)))), (0, .ref (ad 0)), (1, .int (nI (v)))]) hx hb dX5_rescale_57 hl (k := 3) rfl (z_inc _) (by decide) rfl (fun ls hl => ?_)
            refine lv_goto (tgt := 27) hx hb dX5_rescale_60 (by decide) ?_
            exact ih27 (k + 1) (by omega) (by omega) _ _ hR ls (lv_sub hl [2, 3, 1, 0] rfl)
    exact loop27 _ 0 (by omega) (Nat.lt_succ_self _) _ _ hR ls (lv_sub hl [2, 3, 1, 0] rfl)
  · exact absurd ⟨by omega, by omega⟩ hb4
set_option maxHeartbeats 4000000 in
set_option maxRecDepth 100000 in
theorem c_X5_events_e1 {l : Launch} {D : va_G} {cI cZ : ClassId} {ad : Nat → Nat} {B : Nat → Prop} (hG : ∀ S : zS, va_D B (wM cI cZ ad S)) (S : zS) (x : Int32) (hO : zOK S) (hxb : zbad x 4) : zMi l yX5_events wsX5_events ({ frames := 2, cells := 0, slots := 0, locals := 42 } : Room) [.ref (ad 0), .int (x)] D (zT cI cZ) B (wM cI cZ ad) S (fun (r : Int32) (S1 : zS) => r = (nI (0)) ∧ S1 = zth S 1) := by
  refine zMi_of (cc := cX5_events) (maxL := 2) (ret := (some .int)) (by decide) rfl (Nat.le_of_ble_eq_true rfl) ?_
  intro pg en s mm below meth cd hx hb hr hml hown hts hlk hF hR ls hl
  have hinX5 : ∀ w ∈ wsX50, w ∈ wsX5_events := by decide +kernel
  have hl : lv_has ls 2 [(0, .ref (ad 0)), (1, .int (x))] := hl
  refine lv_aload_n hx hb dX5_events_0 rfl (lv_at hl 0 rfl) ?_
  refine lv_iload_n hx hb dX5_events_1 rfl (lv_at hl 1 rfl) ?_
  refine z_callS_i (As := [.int (x)]) (rest := [.ref (ad 0)]) (w := wM cI cZ ad) ⟨hx, hb, hml, hown, hts⟩ hF hR (c_X5_isPartition_bad hG S ((x)) hxb) (va_cwS 1 hts gX5_events_X5_isPartition rfl rfl rfl (by decide +kernel) ⟨Nat.le_of_ble_eq_true rfl, Nat.le_of_ble_eq_true rfl⟩) rfl hl rfl (Nat.le_of_ble_eq_true rfl) (by decide) dX5_events_2 (fun r1 S1 H locs hp1 hR => ?_)
  obtain ⟨hr1, hs1⟩ := hp1
  subst r1
  subst S1
  refine z_if_eq_n (tgt := 12) hx hb dX5_events_5 (by decide) (by omega) (fun h5_2 => ?_) (fun h5_2 => by omega)
  refine lv_iconst (v := (nI (1))) hx hb dX5_events_12 (by decide) ?_
  refine z_callV_i (As := [.int (nI (1))]) (rest := []) (w := wM cI cZ ad) ⟨hx, hb, hml, hown, hts⟩ hF hR (c_X5_holds_nz hG S 1 (by decide) (by decide)) (cwV 1 hts gX5_events_X5_holds rfl rfl rfl (by decide +kernel) ⟨Nat.le_of_ble_eq_true rfl, Nat.le_of_ble_eq_true rfl⟩) (wM_c0 S) rfl rfl rfl hl rfl (Nat.le_of_ble_eq_true rfl) (by decide) dX5_events_13 (fun r3 S3 H locs hp3 hR => ?_)
  obtain ⟨hr3, hs3⟩ := hp3
  subst r3
  subst S3
  have hO3 := (zOK_th (i := 1) hO)
  refine z_if_eq_n (tgt := 28) hx hb dX5_events_16 (by decide) (by omega) (fun h16_4 => ?_) (fun h16_4 => by omega)
  refine lv_iconst (v := (nI (0))) hx hb dX5_events_28 (by decide) ?_
  exact z_iret (w := wM cI cZ ad) (S1 := (zth S 1)) hx hb hr hlk hF hR dX5_events_29 (⟨rfl, rfl⟩)
set_option maxHeartbeats 4000000 in
set_option maxRecDepth 100000 in
theorem c_X5_events_ok {l : Launch} {D : va_G} {cI cZ : ClassId} {ad : Nat → Nat} {B : Nat → Prop} (hG : ∀ S : zS, va_D B (wM cI cZ ad S)) (S : zS) (p : Nat) (hO : zOK S) (hp : p < 4) : zMi l yX5_events wsX5_events ({ frames := 2, cells := 0, slots := 0, locals := 42 } : Room) [.ref (ad 0), .int (nI (p))] D (zT cI cZ) B (wM cI cZ ad) S (fun (r : Int32) (S1 : zS) => r = (nI (zn (zth S 0) 0 p)) ∧ S1 = zth S 0) := by
  refine zMi_of (cc := cX5_events) (maxL := 2) (ret := (some .int)) (by decide) rfl (Nat.le_of_ble_eq_true rfl) ?_
  intro pg en s mm below meth cd hx hb hr hml hown hts hlk hF hR ls hl
  have hinX5 : ∀ w ∈ wsX50, w ∈ wsX5_events := by decide +kernel
  have hl : lv_has ls 2 [(0, .ref (ad 0)), (1, .int (nI (p)))] := hl
  refine lv_aload_n hx hb dX5_events_0 rfl (lv_at hl 0 rfl) ?_
  refine lv_iload_n hx hb dX5_events_1 rfl (lv_at hl 1 rfl) ?_
  refine z_callS_i (As := [.int (nI (p))]) (rest := [.ref (ad 0)]) (w := wM cI cZ ad) ⟨hx, hb, hml, hown, hts⟩ hF hR (c_X5_isPartition_ok hG S p (by omega)) (va_cwS 1 hts gX5_events_X5_isPartition rfl rfl rfl (by decide +kernel) ⟨Nat.le_of_ble_eq_true rfl, Nat.le_of_ble_eq_true rfl⟩) rfl hl rfl (Nat.le_of_ble_eq_true rfl) (by decide) dX5_events_2 (fun r1 S1 H locs hp1 hR => ?_)
  obtain ⟨hr1, hs1⟩ := hp1
  subst r1
  subst S1
  refine z_if_eq_n (tgt := 12) hx hb dX5_events_5 (by decide) (by omega) (fun h5_2 => by omega) (fun h5_2 => ?_)
  refine lv_iconst (v := (nI (0))) hx hb dX5_events_8 (by decide) ?_
  refine lv_goto (tgt := 13) hx hb dX5_events_9 (by decide) ?_
  refine z_callV_i (As := [.int (nI (0))]) (rest := []) (w := wM cI cZ ad) ⟨hx, hb, hml, hown, hts⟩ hF hR (c_X5_holds_z hG S ) (cwV 1 hts gX5_events_X5_holds rfl rfl rfl (by decide +kernel) ⟨Nat.le_of_ble_eq_true rfl, Nat.le_of_ble_eq_true rfl⟩) (wM_c0 S) rfl rfl rfl hl rfl (Nat.le_of_ble_eq_true rfl) (by decide) dX5_events_13 (fun r3 S3 H locs hp3 hR => ?_)
  obtain ⟨hr3, hs3⟩ := hp3
  subst r3
  subst S3
  have hO3 := (zOK_th (i := 0) hO)
  refine z_if_eq_n (tgt := 28) hx hb dX5_events_16 (by decide) (by omega) (fun h16_4 => by omega) (fun h16_4 => ?_)
  refine lv_aload_n hx hb dX5_events_19 rfl (lv_at hl 0 rfl) ?_
  refine z_get (own := RX5) (C := RX5) (T := TX5) (N := 27) (k := 2) (v := .ref (ad 1)) hx hb hts hinX5 hown hF hR (wM_c0 (zth S 0)) rfl (by decide) (by decide +kernel) rfl rfl dX5_events_20 ?_
  refine lv_iload_n hx hb dX5_events_23 rfl (lv_at hl 1 rfl) ?_
  refine z_iald_n (f := (zth S 0) 0) hx hb hF hR (wM_c1 (zth S 0)) zT_0 dX5_events_24 (by decide) (by omega) ?_
  refine lv_topi (fun v6 ev6 => ?_)
  obtain rfl : v6 = (nI (zn (zth S 0) 0 (p))) := ev6.trans (zOK.n0 hO3 _).1
  have hb24_5 := (zOK.n0 hO3 (p)).2
  refine lv_goto (tgt := 29) hx hb dX5_events_25 (by decide) ?_
  exact z_iret (w := wM cI cZ ad) (S1 := (zth S 0)) hx hb hr hlk hF hR dX5_events_29 (⟨rfl, rfl⟩)
set_option maxHeartbeats 4000000 in
set_option maxRecDepth 100000 in
theorem c_X5_offset_e1 {l : Launch} {D : va_G} {cI cZ : ClassId} {ad : Nat → Nat} {B : Nat → Prop} (hG : ∀ S : zS, va_D B (wM cI cZ ad S)) (S : zS) (x : Int32) (hO : zOK S) (hxb : zbad x 4) : zMi l yX5_offset wsX5_offset ({ frames := 2, cells := 0, slots := 0, locals := 42 } : Room) [.ref (ad 0), .int (x)] D (zT cI cZ) B (wM cI cZ ad) S (fun (r : Int32) (S1 : zS) => r = (nI (0)) ∧ S1 = zth S 1) := by
  refine zMi_of (cc := cX5_offset) (maxL := 2) (ret := (some .int)) (by decide) rfl (Nat.le_of_ble_eq_true rfl) ?_
  intro pg en s mm below meth cd hx hb hr hml hown hts hlk hF hR ls hl
  have hinX5 : ∀ w ∈ wsX50, w ∈ wsX5_offset := by decide +kernel
  have hl : lv_has ls 2 [(0, .ref (ad 0)), (1, .int (x))] := hl
  refine lv_aload_n hx hb dX5_offset_0 rfl (lv_at hl 0 rfl) ?_
  refine lv_iload_n hx hb dX5_offset_1 rfl (lv_at hl 1 rfl) ?_
  refine z_callS_i (As := [.int (x)]) (rest := [.ref (ad 0)]) (w := wM cI cZ ad) ⟨hx, hb, hml, hown, hts⟩ hF hR (c_X5_isPartition_bad hG S ((x)) hxb) (va_cwS 1 hts gX5_offset_X5_isPartition rfl rfl rfl (by decide +kernel) ⟨Nat.le_of_ble_eq_true rfl, Nat.le_of_ble_eq_true rfl⟩) rfl hl rfl (Nat.le_of_ble_eq_true rfl) (by decide) dX5_offset_2 (fun r1 S1 H locs hp1 hR => ?_)
  obtain ⟨hr1, hs1⟩ := hp1
  subst r1
  subst S1
  refine z_if_eq_n (tgt := 12) hx hb dX5_offset_5 (by decide) (by omega) (fun h5_2 => ?_) (fun h5_2 => by omega)
  refine lv_iconst (v := (nI (1))) hx hb dX5_offset_12 (by decide) ?_
  refine z_callV_i (As := [.int (nI (1))]) (rest := []) (w := wM cI cZ ad) ⟨hx, hb, hml, hown, hts⟩ hF hR (c_X5_holds_nz hG S 1 (by decide) (by decide)) (cwV 1 hts gX5_offset_X5_holds rfl rfl rfl (by decide +kernel) ⟨Nat.le_of_ble_eq_true rfl, Nat.le_of_ble_eq_true rfl⟩) (wM_c0 S) rfl rfl rfl hl rfl (Nat.le_of_ble_eq_true rfl) (by decide) dX5_offset_13 (fun r3 S3 H locs hp3 hR => ?_)
  obtain ⟨hr3, hs3⟩ := hp3
  subst r3
  subst S3
  have hO3 := (zOK_th (i := 1) hO)
  refine z_if_eq_n (tgt := 28) hx hb dX5_offset_16 (by decide) (by omega) (fun h16_4 => ?_) (fun h16_4 => by omega)
  refine lv_iconst (v := (nI (0))) hx hb dX5_offset_28 (by decide) ?_
  exact z_iret (w := wM cI cZ ad) (S1 := (zth S 1)) hx hb hr hlk hF hR dX5_offset_29 (⟨rfl, rfl⟩)
set_option maxHeartbeats 4000000 in
set_option maxRecDepth 100000 in
theorem c_X5_offset_ok {l : Launch} {D : va_G} {cI cZ : ClassId} {ad : Nat → Nat} {B : Nat → Prop} (hG : ∀ S : zS, va_D B (wM cI cZ ad S)) (S : zS) (p : Nat) (hO : zOK S) (hp : p < 4) : zMi l yX5_offset wsX5_offset ({ frames := 2, cells := 0, slots := 0, locals := 42 } : Room) [.ref (ad 0), .int (nI (p))] D (zT cI cZ) B (wM cI cZ ad) S (fun (r : Int32) (S1 : zS) => r = (nI (zn (zth S 0) 2 p)) ∧ S1 = zth S 0) := by
  refine zMi_of (cc := cX5_offset) (maxL := 2) (ret := (some .int)) (by decide) rfl (Nat.le_of_ble_eq_true rfl) ?_
  intro pg en s mm below meth cd hx hb hr hml hown hts hlk hF hR ls hl
  have hinX5 : ∀ w ∈ wsX50, w ∈ wsX5_offset := by decide +kernel
  have hl : lv_has ls 2 [(0, .ref (ad 0)), (1, .int (nI (p)))] := hl
  refine lv_aload_n hx hb dX5_offset_0 rfl (lv_at hl 0 rfl) ?_
  refine lv_iload_n hx hb dX5_offset_1 rfl (lv_at hl 1 rfl) ?_
  refine z_callS_i (As := [.int (nI (p))]) (rest := [.ref (ad 0)]) (w := wM cI cZ ad) ⟨hx, hb, hml, hown, hts⟩ hF hR (c_X5_isPartition_ok hG S p (by omega)) (va_cwS 1 hts gX5_offset_X5_isPartition rfl rfl rfl (by decide +kernel) ⟨Nat.le_of_ble_eq_true rfl, Nat.le_of_ble_eq_true rfl⟩) rfl hl rfl (Nat.le_of_ble_eq_true rfl) (by decide) dX5_offset_2 (fun r1 S1 H locs hp1 hR => ?_)
  obtain ⟨hr1, hs1⟩ := hp1
  subst r1
  subst S1
  refine z_if_eq_n (tgt := 12) hx hb dX5_offset_5 (by decide) (by omega) (fun h5_2 => by omega) (fun h5_2 => ?_)
  refine lv_iconst (v := (nI (0))) hx hb dX5_offset_8 (by decide) ?_
  refine lv_goto (tgt := 13) hx hb dX5_offset_9 (by decide) ?_
  refine z_callV_i (As := [.int (nI (0))]) (rest := []) (w := wM cI cZ ad) ⟨hx, hb, hml, hown, hts⟩ hF hR (c_X5_holds_z hG S ) (cwV 1 hts gX5_offset_X5_holds rfl rfl rfl (by decide +kernel) ⟨Nat.le_of_ble_eq_true rfl, Nat.le_of_ble_eq_true rfl⟩) (wM_c0 S) rfl rfl rfl hl rfl (Nat.le_of_ble_eq_true rfl) (by decide) dX5_offset_13 (fun r3 S3 H locs hp3 hR => ?_)
  obtain ⟨hr3, hs3⟩ := hp3
  subst r3
  subst S3
  have hO3 := (zOK_th (i := 0) hO)
  refine z_if_eq_n (tgt := 28) hx hb dX5_offset_16 (by decide) (by omega) (fun h16_4 => by omega) (fun h16_4 => ?_)
  refine lv_aload_n hx hb dX5_offset_19 rfl (lv_at hl 0 rfl) ?_
  refine z_get (own := RX5) (C := RX5) (T := TX5) (N := 27) (k := 3) (v := .ref (ad 3)) hx hb hts hinX5 hown hF hR (wM_c0 (zth S 0)) rfl (by decide) (by decide +kernel) rfl rfl dX5_offset_20 ?_
  refine lv_iload_n hx hb dX5_offset_23 rfl (lv_at hl 1 rfl) ?_
  refine z_iald_n (f := (zth S 0) 2) hx hb hF hR (wM_c3 (zth S 0)) zT_0 dX5_offset_24 (by decide) (by omega) ?_
  refine lv_topi (fun v6 ev6 => ?_)
  obtain rfl : v6 = (nI (zn (zth S 0) 2 (p))) := ev6.trans (zOK.n2 hO3 _).1
  have hb24_5 := (zOK.n2 hO3 (p)).2
  refine lv_goto (tgt := 29) hx hb dX5_offset_25 (by decide) ?_
  exact z_iret (w := wM cI cZ ad) (S1 := (zth S 0)) hx hb hr hlk hF hR dX5_offset_29 (⟨rfl, rfl⟩)
set_option maxHeartbeats 4000000 in
set_option maxRecDepth 100000 in
theorem c_X5_keptOffset_e1 {l : Launch} {D : va_G} {cI cZ : ClassId} {ad : Nat → Nat} {B : Nat → Prop} (hG : ∀ S : zS, va_D B (wM cI cZ ad S)) (S : zS) (x : Int32) (hO : zOK S) (hxb : zbad x 4) : zMi l yX5_keptOffset wsX5_keptOffset ({ frames := 2, cells := 0, slots := 0, locals := 42 } : Room) [.ref (ad 0), .int (x)] D (zT cI cZ) B (wM cI cZ ad) S (fun (r : Int32) (S1 : zS) => r = (nI (0)) ∧ S1 = zth S 1) := by
  refine zMi_of (cc := cX5_keptOffset) (maxL := 2) (ret := (some .int)) (by decide) rfl (Nat.le_of_ble_eq_true rfl) ?_
  intro pg en s mm below meth cd hx hb hr hml hown hts hlk hF hR ls hl
  have hinX5 : ∀ w ∈ wsX50, w ∈ wsX5_keptOffset := by decide +kernel
  have hl : lv_has ls 2 [(0, .ref (ad 0)), (1, .int (x))] := hl
  refine lv_aload_n hx hb dX5_keptOffset_0 rfl (lv_at hl 0 rfl) ?_
  refine lv_iload_n hx hb dX5_keptOffset_1 rfl (lv_at hl 1 rfl) ?_
  refine z_callS_i (As := [.int (x)]) (rest := [.ref (ad 0)]) (w := wM cI cZ ad) ⟨hx, hb, hml, hown, hts⟩ hF hR (c_X5_isPartition_bad hG S ((x)) hxb) (va_cwS 1 hts gX5_keptOffset_X5_isPartition rfl rfl rfl (by decide +kernel) ⟨Nat.le_of_ble_eq_true rfl, Nat.le_of_ble_eq_true rfl⟩) rfl hl rfl (Nat.le_of_ble_eq_true rfl) (by decide) dX5_keptOffset_2 (fun r1 S1 H locs hp1 hR => ?_)
  obtain ⟨hr1, hs1⟩ := hp1
  subst r1
  subst S1
  refine z_if_eq_n (tgt := 12) hx hb dX5_keptOffset_5 (by decide) (by omega) (fun h5_2 => ?_) (fun h5_2 => by omega)
  refine lv_iconst (v := (nI (1))) hx hb dX5_keptOffset_12 (by decide) ?_
  refine z_callV_i (As := [.int (nI (1))]) (rest := []) (w := wM cI cZ ad) ⟨hx, hb, hml, hown, hts⟩ hF hR (c_X5_holds_nz hG S 1 (by decide) (by decide)) (cwV 1 hts gX5_keptOffset_X5_holds rfl rfl rfl (by decide +kernel) ⟨Nat.le_of_ble_eq_true rfl, Nat.le_of_ble_eq_true rfl⟩) (wM_c0 S) rfl rfl rfl hl rfl (Nat.le_of_ble_eq_true rfl) (by decide) dX5_keptOffset_13 (fun r3 S3 H locs hp3 hR => ?_)
  obtain ⟨hr3, hs3⟩ := hp3
  subst r3
  subst S3
  have hO3 := (zOK_th (i := 1) hO)
  refine z_if_eq_n (tgt := 28) hx hb dX5_keptOffset_16 (by decide) (by omega) (fun h16_4 => ?_) (fun h16_4 => by omega)
  refine lv_iconst (v := (nI (0))) hx hb dX5_keptOffset_28 (by decide) ?_
  exact z_iret (w := wM cI cZ ad) (S1 := (zth S 1)) hx hb hr hlk hF hR dX5_keptOffset_29 (⟨rfl, rfl⟩)
set_option maxHeartbeats 4000000 in
set_option maxRecDepth 100000 in
theorem c_X5_keptOffset_ok {l : Launch} {D : va_G} {cI cZ : ClassId} {ad : Nat → Nat} {B : Nat → Prop} (hG : ∀ S : zS, va_D B (wM cI cZ ad S)) (S : zS) (p : Nat) (hO : zOK S) (hp : p < 4) : zMi l yX5_keptOffset wsX5_keptOffset ({ frames := 2, cells := 0, slots := 0, locals := 42 } : Room) [.ref (ad 0), .int (nI (p))] D (zT cI cZ) B (wM cI cZ ad) S (fun (r : Int32) (S1 : zS) => r = (nI (zn (zth S 0) 3 p)) ∧ S1 = zth S 0) := by
  refine zMi_of (cc := cX5_keptOffset) (maxL := 2) (ret := (some .int)) (by decide) rfl (Nat.le_of_ble_eq_true rfl) ?_
  intro pg en s mm below meth cd hx hb hr hml hown hts hlk hF hR ls hl
  have hinX5 : ∀ w ∈ wsX50, w ∈ wsX5_keptOffset := by decide +kernel
  have hl : lv_has ls 2 [(0, .ref (ad 0)), (1, .int (nI (p)))] := hl
  refine lv_aload_n hx hb dX5_keptOffset_0 rfl (lv_at hl 0 rfl) ?_
  refine lv_iload_n hx hb dX5_keptOffset_1 rfl (lv_at hl 1 rfl) ?_
  refine z_callS_i (As := [.int (nI (p))]) (rest := [.ref (ad 0)]) (w := wM cI cZ ad) ⟨hx, hb, hml, hown, hts⟩ hF hR (c_X5_isPartition_ok hG S p (by omega)) (va_cwS 1 hts gX5_keptOffset_X5_isPartition rfl rfl rfl (by decide +kernel) ⟨Nat.le_of_ble_eq_true rfl, Nat.le_of_ble_eq_true rfl⟩) rfl hl rfl (Nat.le_of_ble_eq_true rfl) (by decide) dX5_keptOffset_2 (fun r1 S1 H locs hp1 hR => ?_)
  obtain ⟨hr1, hs1⟩ := hp1
  subst r1
  subst S1
  refine z_if_eq_n (tgt := 12) hx hb dX5_keptOffset_5 (by decide) (by omega) (fun h5_2 => by omega) (fun h5_2 => ?_)
  refine lv_iconst (v := (nI (0))) hx hb dX5_keptOffset_8 (by decide) ?_
  refine lv_goto (tgt := 13) hx hb dX5_keptOffset_9 (by decide) ?_
  refine z_callV_i (As := [.int (nI (0))]) (rest := []) (w := wM cI cZ ad) ⟨hx, hb, hml, hown, hts⟩ hF hR (c_X5_holds_z hG S ) (cwV 1 hts gX5_keptOffset_X5_holds rfl rfl rfl (by decide +kernel) ⟨Nat.le_of_ble_eq_true rfl, Nat.le_of_ble_eq_true rfl⟩) (wM_c0 S) rfl rfl rfl hl rfl (Nat.le_of_ble_eq_true rfl) (by decide) dX5_keptOffset_13 (fun r3 S3 H locs hp3 hR => ?_)
  obtain ⟨hr3, hs3⟩ := hp3
  subst r3
  subst S3
  have hO3 := (zOK_th (i := 0) hO)
  refine z_if_eq_n (tgt := 28) hx hb dX5_keptOffset_16 (by decide) (by omega) (fun h16_4 => by omega) (fun h16_4 => ?_)
  refine lv_aload_n hx hb dX5_keptOffset_19 rfl (lv_at hl 0 rfl) ?_
  refine z_get (own := RX5) (C := RX5) (T := TX5) (N := 27) (k := 24) (v := .ref (ad 4)) hx hb hts hinX5 hown hF hR (wM_c0 (zth S 0)) rfl (by decide) (by decide +kernel) rfl rfl dX5_keptOffset_20 ?_
  refine lv_iload_n hx hb dX5_keptOffset_23 rfl (lv_at hl 1 rfl) ?_
  refine z_iald_n (f := (zth S 0) 3) hx hb hF hR (wM_c4 (zth S 0)) zT_0 dX5_keptOffset_24 (by decide) (by omega) ?_
  refine lv_topi (fun v6 ev6 => ?_)
  obtain rfl : v6 = (nI (zn (zth S 0) 3 (p))) := ev6.trans (zOK.n3 hO3 _).1
  have hb24_5 := (zOK.n3 hO3 (p)).2
  refine lv_goto (tgt := 29) hx hb dX5_keptOffset_25 (by decide) ?_
  exact z_iret (w := wM cI cZ ad) (S1 := (zth S 0)) hx hb hr hlk hF hR dX5_keptOffset_29 (⟨rfl, rfl⟩)
set_option maxHeartbeats 4000000 in
set_option maxRecDepth 100000 in
theorem c_X5_eventAt_e1 {l : Launch} {D : va_G} {cI cZ : ClassId} {ad : Nat → Nat} {B : Nat → Prop} (hG : ∀ S : zS, va_D B (wM cI cZ ad S)) (S : zS) (x y : Int32) (hO : zOK S) (hxb : zbad x 4) : zMi l yX5_eventAt wsX5_eventAt ({ frames := 2, cells := 0, slots := 0, locals := 42 } : Room) [.ref (ad 0), .int (x), .int (y)] D (zT cI cZ) B (wM cI cZ ad) S (fun (r : Int32) (S1 : zS) => r = (nI (0)) ∧ S1 = zth S 1) := by
  refine zMi_of (cc := cX5_eventAt) (maxL := 3) (ret := (some .int)) (by decide) rfl (Nat.le_of_ble_eq_true rfl) ?_
  intro pg en s mm below meth cd hx hb hr hml hown hts hlk hF hR ls hl
  have hinX5 : ∀ w ∈ wsX50, w ∈ wsX5_eventAt := by decide +kernel
  have hl : lv_has ls 3 [(0, .ref (ad 0)), (1, .int (x)), (2, .int (y))] := hl
  refine lv_aload_n hx hb dX5_eventAt_0 rfl (lv_at hl 0 rfl) ?_
  refine lv_iload_n hx hb dX5_eventAt_1 rfl (lv_at hl 1 rfl) ?_
  refine z_callS_i (As := [.int (x)]) (rest := [.ref (ad 0)]) (w := wM cI cZ ad) ⟨hx, hb, hml, hown, hts⟩ hF hR (c_X5_isPartition_bad hG S ((x)) hxb) (va_cwS 1 hts gX5_eventAt_X5_isPartition rfl rfl rfl (by decide +kernel) ⟨Nat.le_of_ble_eq_true rfl, Nat.le_of_ble_eq_true rfl⟩) rfl hl rfl (Nat.le_of_ble_eq_true rfl) (by decide) dX5_eventAt_2 (fun r1 S1 H locs hp1 hR => ?_)
  obtain ⟨hr1, hs1⟩ := hp1
  subst r1
  subst S1
  refine z_if_eq_n (tgt := 28) hx hb dX5_eventAt_5 (by decide) (by omega) (fun h5_2 => ?_) (fun h5_2 => by omega)
  refine lv_iconst (v := (nI (1))) hx hb dX5_eventAt_28 (by decide) ?_
  refine z_callV_i (As := [.int (nI (1))]) (rest := []) (w := wM cI cZ ad) ⟨hx, hb, hml, hown, hts⟩ hF hR (c_X5_holds_nz hG S 1 (by decide) (by decide)) (cwV 1 hts gX5_eventAt_X5_holds rfl rfl rfl (by decide +kernel) ⟨Nat.le_of_ble_eq_true rfl, Nat.le_of_ble_eq_true rfl⟩) (wM_c0 S) rfl rfl rfl hl rfl (Nat.le_of_ble_eq_true rfl) (by decide) dX5_eventAt_29 (fun r3 S3 H locs hp3 hR => ?_)
  obtain ⟨hr3, hs3⟩ := hp3
  subst r3
  subst S3
  have hO3 := (zOK_th (i := 1) hO)
  refine z_if_eq_n (tgt := 49) hx hb dX5_eventAt_32 (by decide) (by omega) (fun h32_4 => ?_) (fun h32_4 => by omega)
  refine lv_iconst (v := (nI (0))) hx hb dX5_eventAt_49 (by decide) ?_
  exact z_iret (w := wM cI cZ ad) (S1 := (zth S 1)) hx hb hr hlk hF hR dX5_eventAt_50 (⟨rfl, rfl⟩)
set_option maxHeartbeats 4000000 in
set_option maxRecDepth 100000 in
theorem c_X5_eventAt_e2 {l : Launch} {D : va_G} {cI cZ : ClassId} {ad : Nat → Nat} {B : Nat → Prop} (hG : ∀ S : zS, va_D B (wM cI cZ ad S)) (S : zS) (p : Nat) (y : Int32) (hO : zOK S) (hp : p < 4) (hx9 : zbad y (zn S 0 p)) : zMi l yX5_eventAt wsX5_eventAt ({ frames := 2, cells := 0, slots := 0, locals := 42 } : Room) [.ref (ad 0), .int (nI (p)), .int (y)] D (zT cI cZ) B (wM cI cZ ad) S (fun (r : Int32) (S1 : zS) => r = (nI (0)) ∧ S1 = zth S 1) := by
  refine zMi_of (cc := cX5_eventAt) (maxL := 3) (ret := (some .int)) (by decide) rfl (Nat.le_of_ble_eq_true rfl) ?_
  intro pg en s mm below meth cd hx hb hr hml hown hts hlk hF hR ls hl
  have hinX5 : ∀ w ∈ wsX50, w ∈ wsX5_eventAt := by decide +kernel
  have hl : lv_has ls 3 [(0, .ref (ad 0)), (1, .int (nI (p))), (2, .int (y))] := hl
  refine lv_aload_n hx hb dX5_eventAt_0 rfl (lv_at hl 0 rfl) ?_
  refine lv_iload_n hx hb dX5_eventAt_1 rfl (lv_at hl 1 rfl) ?_
  refine z_callS_i (As := [.int (nI (p))]) (rest := [.ref (ad 0)]) (w := wM cI cZ ad) ⟨hx, hb, hml, hown, hts⟩ hF hR (c_X5_isPartition_ok hG S p (by omega)) (va_cwS 1 hts gX5_eventAt_X5_isPartition rfl rfl rfl (by decide +kernel) ⟨Nat.le_of_ble_eq_true rfl, Nat.le_of_ble_eq_true rfl⟩) rfl hl rfl (Nat.le_of_ble_eq_true rfl) (by decide) dX5_eventAt_2 (fun r1 S1 H locs hp1 hR => ?_)
  obtain ⟨hr1, hs1⟩ := hp1
  subst r1
  subst S1
  refine z_if_eq_n (tgt := 28) hx hb dX5_eventAt_5 (by decide) (by omega) (fun h5_2 => by omega) (fun h5_2 => ?_)
  refine lv_iload_n hx hb dX5_eventAt_8 rfl (lv_at hl 2 rfl) ?_
  refine lv_iconst (v := (nI (0))) hx hb dX5_eventAt_9 (by decide) ?_
  refine lv_aload_n hx hb dX5_eventAt_10 rfl (lv_at hl 0 rfl) ?_
  refine z_get (own := RX5) (C := RX5) (T := TX5) (N := 27) (k := 2) (v := .ref (ad 1)) hx hb hts hinX5 hown hF hR (wM_c0 S) rfl (by decide) (by decide +kernel) rfl rfl dX5_eventAt_11 ?_
  refine lv_iload_n hx hb dX5_eventAt_14 rfl (lv_at hl 1 rfl) ?_
  refine z_iald_n (f := S 0) hx hb hF hR (wM_c1 S) zT_0 dX5_eventAt_15 (by decide) (by omega) ?_
  refine lv_topi (fun v4 ev4 => ?_)
  obtain rfl : v4 = (nI (zn S 0 (p))) := ev4.trans (zOK.n0 hO _).1
  have hb15_3 := (zOK.n0 hO (p)).2
  refine lv_iconst (v := (nI (1))) hx hb dX5_eventAt_16 (by decide) ?_
  refine lv_isub hx hb dX5_eventAt_17 ?_
  refine z_callS_i (As := [.int (y), .int (nI (0)), .int ((nI (zn S 0 (p))) - (nI (1)))]) (rest := [.ref (ad 0)]) (w := wM cI cZ ad) ⟨hx, hb, hml, hown, hts⟩ hF hR (c_X5_in_i hG S ((y)) ((nI (0))) (((nI (zn S 0 (p))) - (nI (1))))) (va_cwS 3 hts gX5_eventAt_X5_in rfl rfl rfl (by decide +kernel) ⟨Nat.le_of_ble_eq_true rfl, Nat.le_of_ble_eq_true rfl⟩) rfl hl rfl (Nat.le_of_ble_eq_true rfl) (by decide) dX5_eventAt_18 (fun r5 S5 H locs hp5 hR => ?_)
  obtain ⟨hp5, hs5⟩ := hp5
  subst S5
  rcases hp5 with ⟨hb18, hr5⟩ | ⟨hb18, hr5⟩
  · exact absurd hb18 (zbad_in1 hx9 (zOK.n0 hO p).2)
  · subst r5
    refine z_if_eq_n (tgt := 28) hx hb dX5_eventAt_21 (by decide) (by omega) (fun h21_6 => ?_) (fun h21_6 => by omega)
    refine lv_iconst (v := (nI (1))) hx hb dX5_eventAt_28 (by decide) ?_
    refine z_callV_i (As := [.int (nI (1))]) (rest := []) (w := wM cI cZ ad) ⟨hx, hb, hml, hown, hts⟩ hF hR (c_X5_holds_nz hG S 1 (by decide) (by decide)) (cwV 1 hts gX5_eventAt_X5_holds rfl rfl rfl (by decide +kernel) ⟨Nat.le_of_ble_eq_true rfl, Nat.le_of_ble_eq_true rfl⟩) (wM_c0 S) rfl rfl rfl hl rfl (Nat.le_of_ble_eq_true rfl) (by decide) dX5_eventAt_29 (fun r7 S7 H locs hp7 hR => ?_)
    obtain ⟨hr7, hs7⟩ := hp7
    subst r7
    subst S7
    have hO7 := (zOK_th (i := 1) hO)
    refine z_if_eq_n (tgt := 49) hx hb dX5_eventAt_32 (by decide) (by omega) (fun h32_8 => ?_) (fun h32_8 => by omega)
    refine lv_iconst (v := (nI (0))) hx hb dX5_eventAt_49 (by decide) ?_
    exact z_iret (w := wM cI cZ ad) (S1 := (zth S 1)) hx hb hr hlk hF hR dX5_eventAt_50 (⟨rfl, rfl⟩)
set_option maxHeartbeats 4000000 in
set_option maxRecDepth 100000 in
theorem c_X5_eventAt_ok {l : Launch} {D : va_G} {cI cZ : ClassId} {ad : Nat → Nat} {B : Nat → Prop} (hG : ∀ S : zS, va_D B (wM cI cZ ad S)) (S : zS) (p o : Nat) (hO : zOK S) (hp : p < 4) (ho : o < zn S 0 p) : zMi l yX5_eventAt wsX5_eventAt ({ frames := 2, cells := 0, slots := 0, locals := 42 } : Room) [.ref (ad 0), .int (nI (p)), .int (nI (o))] D (zT cI cZ) B (wM cI cZ ad) S (fun (r : Int32) (S1 : zS) => r = (nI (zn (zth S 0) 1 (60 * p + o))) ∧ S1 = zth S 0) := by
  refine zMi_of (cc := cX5_eventAt) (maxL := 3) (ret := (some .int)) (by decide) rfl (Nat.le_of_ble_eq_true rfl) ?_
  intro pg en s mm below meth cd hx hb hr hml hown hts hlk hF hR ls hl
  have hinX5 : ∀ w ∈ wsX50, w ∈ wsX5_eventAt := by decide +kernel
  have hl : lv_has ls 3 [(0, .ref (ad 0)), (1, .int (nI (p))), (2, .int (nI (o)))] := hl
  have hb0 := (zOK.n0 hO p).2
  refine lv_aload_n hx hb dX5_eventAt_0 rfl (lv_at hl 0 rfl) ?_
  refine lv_iload_n hx hb dX5_eventAt_1 rfl (lv_at hl 1 rfl) ?_
  refine z_callS_i (As := [.int (nI (p))]) (rest := [.ref (ad 0)]) (w := wM cI cZ ad) ⟨hx, hb, hml, hown, hts⟩ hF hR (c_X5_isPartition_ok hG S p (by omega)) (va_cwS 1 hts gX5_eventAt_X5_isPartition rfl rfl rfl (by decide +kernel) ⟨Nat.le_of_ble_eq_true rfl, Nat.le_of_ble_eq_true rfl⟩) rfl hl rfl (Nat.le_of_ble_eq_true rfl) (by decide) dX5_eventAt_2 (fun r1 S1 H locs hp1 hR => ?_)
  obtain ⟨hr1, hs1⟩ := hp1
  subst r1
  subst S1
  refine z_if_eq_n (tgt := 28) hx hb dX5_eventAt_5 (by decide) (by omega) (fun h5_2 => by omega) (fun h5_2 => ?_)
  refine lv_iload_n hx hb dX5_eventAt_8 rfl (lv_at hl 2 rfl) ?_
  refine lv_iconst (v := (nI (0))) hx hb dX5_eventAt_9 (by decide) ?_
  refine lv_aload_n hx hb dX5_eventAt_10 rfl (lv_at hl 0 rfl) ?_
  refine z_get (own := RX5) (C := RX5) (T := TX5) (N := 27) (k := 2) (v := .ref (ad 1)) hx hb hts hinX5 hown hF hR (wM_c0 S) rfl (by decide) (by decide +kernel) rfl rfl dX5_eventAt_11 ?_
  refine lv_iload_n hx hb dX5_eventAt_14 rfl (lv_at hl 1 rfl) ?_
  refine z_iald_n (f := S 0) hx hb hF hR (wM_c1 S) zT_0 dX5_eventAt_15 (by decide) (by omega) ?_
  refine lv_topi (fun v4 ev4 => ?_)
  obtain rfl : v4 = (nI (zn S 0 (p))) := ev4.trans (zOK.n0 hO _).1
  have hb15_3 := (zOK.n0 hO (p)).2
  refine lv_iconst (v := (nI (1))) hx hb dX5_eventAt_16 (by decide) ?_
  refine z_isub_n hx hb dX5_eventAt_17 (by omega) ?_
  refine z_callS_i (As := [.int (nI (o)), .int (nI (0)), .int (nI ((zn S 0 (p)) - 1))]) (rest := [.ref (ad 0)]) (w := wM cI cZ ad) ⟨hx, hb, hml, hown, hts⟩ hF hR (c_X5_in_n hG S o 0 ((zn S 0 (p)) - 1) (by omega) (by omega) (by omega)) (va_cwS 3 hts gX5_eventAt_X5_in rfl rfl rfl (by decide +kernel) ⟨Nat.le_of_ble_eq_true rfl, Nat.le_of_ble_eq_true rfl⟩) rfl hl rfl (Nat.le_of_ble_eq_true rfl) (by decide) dX5_eventAt_18 (fun r5 S5 H locs hp5 hR => ?_)
  obtain ⟨hp5, hs5⟩ := hp5
  subst S5
  rcases hp5 with ⟨hb18, hr5⟩ | ⟨hb18, hr5⟩
  · subst r5
    refine z_if_eq_n (tgt := 28) hx hb dX5_eventAt_21 (by decide) (by omega) (fun h21_6 => by omega) (fun h21_6 => ?_)
    refine lv_iconst (v := (nI (0))) hx hb dX5_eventAt_24 (by decide) ?_
    refine lv_goto (tgt := 29) hx hb dX5_eventAt_25 (by decide) ?_
    refine z_callV_i (As := [.int (nI (0))]) (rest := []) (w := wM cI cZ ad) ⟨hx, hb, hml, hown, hts⟩ hF hR (c_X5_holds_z hG S ) (cwV 1 hts gX5_eventAt_X5_holds rfl rfl rfl (by decide +kernel) ⟨Nat.le_of_ble_eq_true rfl, Nat.le_of_ble_eq_true rfl⟩) (wM_c0 S) rfl rfl rfl hl rfl (Nat.le_of_ble_eq_true rfl) (by decide) dX5_eventAt_29 (fun r7 S7 H locs hp7 hR => ?_)
    obtain ⟨hr7, hs7⟩ := hp7
    subst r7
    subst S7
    have hO7 := (zOK_th (i := 0) hO)
    refine z_if_eq_n (tgt := 49) hx hb dX5_eventAt_32 (by decide) (by omega) (fun h32_8 => by omega) (fun h32_8 => ?_)
    refine lv_aload_n hx hb dX5_eventAt_35 rfl (lv_at hl 0 rfl) ?_
    refine z_get (own := RX5) (C := RX5) (T := TX5) (N := 27) (k := 4) (v := .ref (ad 2)) hx hb hts hinX5 hown hF hR (wM_c0 (zth S 0)) rfl (by decide) (by decide +kernel) rfl rfl dX5_eventAt_36 ?_
    refine lv_bipush (v := (nI (60))) hx hb dX5_eventAt_39 (by decide) ?_
    refine lv_iload_n hx hb dX5_eventAt_41 rfl (lv_at hl 1 rfl) ?_
    refine z_imul_n hx hb dX5_eventAt_42 ?_
    refine lv_iload_n hx hb dX5_eventAt_43 rfl (lv_at hl 2 rfl) ?_
    refine z_iadd_n hx hb dX5_eventAt_44 ?_
    refine z_iald_n (f := (zth S 0) 1) hx hb hF hR (wM_c2 (zth S 0)) zT_0 dX5_eventAt_45 (by decide) (by omega) ?_
    refine lv_topi (fun v10 ev10 => ?_)
    obtain rfl : v10 = (nI (zn (zth S 0) 1 ((60 * p) + o))) := ev10.trans (zOK.n1 hO7 _).1
    have hb45_9 := (zOK.n1 hO7 ((60 * p) + o)).2
    refine lv_goto (tgt := 50) hx hb dX5_eventAt_46 (by decide) ?_
    exact z_iret (w := wM cI cZ ad) (S1 := (zth S 0)) hx hb hr hlk hF hR dX5_eventAt_50 (⟨rfl, rfl⟩)
  · exact absurd ⟨by omega, by omega⟩ hb18
set_option maxHeartbeats 4000000 in
set_option maxRecDepth 100000 in
theorem c_X5_queued_e1 {l : Launch} {D : va_G} {cI cZ : ClassId} {ad : Nat → Nat} {B : Nat → Prop} (hG : ∀ S : zS, va_D B (wM cI cZ ad S)) (S : zS) (x y : Int32) (hO : zOK S) (hxb : zbad x 4) : zMi l yX5_queued wsX5_queued ({ frames := 3, cells := 0, slots := 0, locals := 65 } : Room) [.ref (ad 0), .int (x), .int (y)] D (zT cI cZ) B (wM cI cZ ad) S (fun (r : Int32) (S1 : zS) => r = (nI (0)) ∧ S1 = zth S 1) := by
  refine zMi_of (cc := cX5_queued) (maxL := 3) (ret := (some .int)) (by decide) rfl (Nat.le_of_ble_eq_true rfl) ?_
  intro pg en s mm below meth cd hx hb hr hml hown hts hlk hF hR ls hl
  have hinX5 : ∀ w ∈ wsX50, w ∈ wsX5_queued := by decide +kernel
  have hl : lv_has ls 3 [(0, .ref (ad 0)), (1, .int (x)), (2, .int (y))] := hl
  refine lv_aload_n hx hb dX5_queued_0 rfl (lv_at hl 0 rfl) ?_
  refine lv_aload_n hx hb dX5_queued_1 rfl (lv_at hl 0 rfl) ?_
  refine lv_iload_n hx hb dX5_queued_2 rfl (lv_at hl 1 rfl) ?_
  refine lv_iload_n hx hb dX5_queued_3 rfl (lv_at hl 2 rfl) ?_
  refine z_callV_i (As := [.int (x), .int (y)]) (rest := [.ref (ad 0)]) (w := wM cI cZ ad) ⟨hx, hb, hml, hown, hts⟩ hF hR (c_X5_isChannel_b1 hG S ((x)) ((y)) hO hxb) (cwV 2 hts gX5_queued_X5_isChannel rfl rfl rfl (by decide +kernel) ⟨Nat.le_of_ble_eq_true rfl, Nat.le_of_ble_eq_true rfl⟩) (wM_c0 S) rfl rfl rfl hl rfl (Nat.le_of_ble_eq_true rfl) (by decide) dX5_queued_4 (fun r1 S1 H locs hp1 hR => ?_)
  obtain ⟨hr1, hs1⟩ := hp1
  subst r1
  subst S1
  refine z_if_eq_n (tgt := 14) hx hb dX5_queued_7 (by decide) (by omega) (fun h7_2 => ?_) (fun h7_2 => by omega)
  refine lv_iconst (v := (nI (1))) hx hb dX5_queued_14 (by decide) ?_
  refine z_callV_i (As := [.int (nI (1))]) (rest := []) (w := wM cI cZ ad) ⟨hx, hb, hml, hown, hts⟩ hF hR (c_X5_holds_nz hG S 1 (by decide) (by decide)) (cwV 1 hts gX5_queued_X5_holds rfl rfl rfl (by decide +kernel) ⟨Nat.le_of_ble_eq_true rfl, Nat.le_of_ble_eq_true rfl⟩) (wM_c0 S) rfl rfl rfl hl rfl (Nat.le_of_ble_eq_true rfl) (by decide) dX5_queued_15 (fun r3 S3 H locs hp3 hR => ?_)
  obtain ⟨hr3, hs3⟩ := hp3
  subst r3
  subst S3
  have hO3 := (zOK_th (i := 1) hO)
  refine z_if_eq_n (tgt := 34) hx hb dX5_queued_18 (by decide) (by omega) (fun h18_4 => ?_) (fun h18_4 => by omega)
  refine lv_iconst (v := (nI (0))) hx hb dX5_queued_34 (by decide) ?_
  exact z_iret (w := wM cI cZ ad) (S1 := (zth S 1)) hx hb hr hlk hF hR dX5_queued_35 (⟨rfl, rfl⟩)
set_option maxHeartbeats 4000000 in
set_option maxRecDepth 100000 in
theorem c_X5_queued_e2 {l : Launch} {D : va_G} {cI cZ : ClassId} {ad : Nat → Nat} {B : Nat → Prop} (hG : ∀ S : zS, va_D B (wM cI cZ ad S)) (S : zS) (p : Nat) (y : Int32) (hO : zOK S) (hp : p < 4) (hxb : zbad y (zn S 22 0)) : zMi l yX5_queued wsX5_queued ({ frames := 3, cells := 0, slots := 0, locals := 65 } : Room) [.ref (ad 0), .int (nI (p)), .int (y)] D (zT cI cZ) B (wM cI cZ ad) S (fun (r : Int32) (S1 : zS) => r = (nI (0)) ∧ S1 = zth S 1) := by
  refine zMi_of (cc := cX5_queued) (maxL := 3) (ret := (some .int)) (by decide) rfl (Nat.le_of_ble_eq_true rfl) ?_
  intro pg en s mm below meth cd hx hb hr hml hown hts hlk hF hR ls hl
  have hinX5 : ∀ w ∈ wsX50, w ∈ wsX5_queued := by decide +kernel
  have hl : lv_has ls 3 [(0, .ref (ad 0)), (1, .int (nI (p))), (2, .int (y))] := hl
  refine lv_aload_n hx hb dX5_queued_0 rfl (lv_at hl 0 rfl) ?_
  refine lv_aload_n hx hb dX5_queued_1 rfl (lv_at hl 0 rfl) ?_
  refine lv_iload_n hx hb dX5_queued_2 rfl (lv_at hl 1 rfl) ?_
  refine lv_iload_n hx hb dX5_queued_3 rfl (lv_at hl 2 rfl) ?_
  refine z_callV_i (As := [.int (nI (p)), .int (y)]) (rest := [.ref (ad 0)]) (w := wM cI cZ ad) ⟨hx, hb, hml, hown, hts⟩ hF hR (c_X5_isChannel_b2 hG S p ((y)) hO (by omega) hxb) (cwV 2 hts gX5_queued_X5_isChannel rfl rfl rfl (by decide +kernel) ⟨Nat.le_of_ble_eq_true rfl, Nat.le_of_ble_eq_true rfl⟩) (wM_c0 S) rfl rfl rfl hl rfl (Nat.le_of_ble_eq_true rfl) (by decide) dX5_queued_4 (fun r1 S1 H locs hp1 hR => ?_)
  obtain ⟨hr1, hs1⟩ := hp1
  subst r1
  subst S1
  refine z_if_eq_n (tgt := 14) hx hb dX5_queued_7 (by decide) (by omega) (fun h7_2 => ?_) (fun h7_2 => by omega)
  refine lv_iconst (v := (nI (1))) hx hb dX5_queued_14 (by decide) ?_
  refine z_callV_i (As := [.int (nI (1))]) (rest := []) (w := wM cI cZ ad) ⟨hx, hb, hml, hown, hts⟩ hF hR (c_X5_holds_nz hG S 1 (by decide) (by decide)) (cwV 1 hts gX5_queued_X5_holds rfl rfl rfl (by decide +kernel) ⟨Nat.le_of_ble_eq_true rfl, Nat.le_of_ble_eq_true rfl⟩) (wM_c0 S) rfl rfl rfl hl rfl (Nat.le_of_ble_eq_true rfl) (by decide) dX5_queued_15 (fun r3 S3 H locs hp3 hR => ?_)
  obtain ⟨hr3, hs3⟩ := hp3
  subst r3
  subst S3
  have hO3 := (zOK_th (i := 1) hO)
  refine z_if_eq_n (tgt := 34) hx hb dX5_queued_18 (by decide) (by omega) (fun h18_4 => ?_) (fun h18_4 => by omega)
  refine lv_iconst (v := (nI (0))) hx hb dX5_queued_34 (by decide) ?_
  exact z_iret (w := wM cI cZ ad) (S1 := (zth S 1)) hx hb hr hlk hF hR dX5_queued_35 (⟨rfl, rfl⟩)
set_option maxHeartbeats 4000000 in
set_option maxRecDepth 100000 in
theorem c_X5_isBlocked_e1 {l : Launch} {D : va_G} {cI cZ : ClassId} {ad : Nat → Nat} {B : Nat → Prop} (hG : ∀ S : zS, va_D B (wM cI cZ ad S)) (S : zS) (x y : Int32) (hO : zOK S) (hxb : zbad x 4) : zMi l yX5_isBlocked wsX5_isBlocked ({ frames := 3, cells := 0, slots := 0, locals := 65 } : Room) [.ref (ad 0), .int (x), .int (y)] D (zT cI cZ) B (wM cI cZ ad) S (fun (r : Int32) (S1 : zS) => r = (nI (0)) ∧ S1 = zth S 1) := by
  refine zMi_of (cc := cX5_isBlocked) (maxL := 3) (ret := (some .boolean)) (by decide) rfl (Nat.le_of_ble_eq_true rfl) ?_
  intro pg en s mm below meth cd hx hb hr hml hown hts hlk hF hR ls hl
  have hinX5 : ∀ w ∈ wsX50, w ∈ wsX5_isBlocked := by decide +kernel
  have hl : lv_has ls 3 [(0, .ref (ad 0)), (1, .int (x)), (2, .int (y))] := hl
  refine lv_aload_n hx hb dX5_isBlocked_0 rfl (lv_at hl 0 rfl) ?_
  refine lv_aload_n hx hb dX5_isBlocked_1 rfl (lv_at hl 0 rfl) ?_
  refine lv_iload_n hx hb dX5_isBlocked_2 rfl (lv_at hl 1 rfl) ?_
  refine lv_iload_n hx hb dX5_isBlocked_3 rfl (lv_at hl 2 rfl) ?_
  refine z_callV_i (As := [.int (x), .int (y)]) (rest := [.ref (ad 0)]) (w := wM cI cZ ad) ⟨hx, hb, hml, hown, hts⟩ hF hR (c_X5_isChannel_b1 hG S ((x)) ((y)) hO hxb) (cwV 2 hts gX5_isBlocked_X5_isChannel rfl rfl rfl (by decide +kernel) ⟨Nat.le_of_ble_eq_true rfl, Nat.le_of_ble_eq_true rfl⟩) (wM_c0 S) rfl rfl rfl hl rfl (Nat.le_of_ble_eq_true rfl) (by decide) dX5_isBlocked_4 (fun r1 S1 H locs hp1 hR => ?_)
  obtain ⟨hr1, hs1⟩ := hp1
  subst r1
  subst S1
  refine z_if_eq_n (tgt := 14) hx hb dX5_isBlocked_7 (by decide) (by omega) (fun h7_2 => ?_) (fun h7_2 => by omega)
  refine lv_iconst (v := (nI (1))) hx hb dX5_isBlocked_14 (by decide) ?_
  refine z_callV_i (As := [.int (nI (1))]) (rest := []) (w := wM cI cZ ad) ⟨hx, hb, hml, hown, hts⟩ hF hR (c_X5_holds_nz hG S 1 (by decide) (by decide)) (cwV 1 hts gX5_isBlocked_X5_holds rfl rfl rfl (by decide +kernel) ⟨Nat.le_of_ble_eq_true rfl, Nat.le_of_ble_eq_true rfl⟩) (wM_c0 S) rfl rfl rfl hl rfl (Nat.le_of_ble_eq_true rfl) (by decide) dX5_isBlocked_15 (fun r3 S3 H locs hp3 hR => ?_)
  obtain ⟨hr3, hs3⟩ := hp3
  subst r3
  subst S3
  have hO3 := (zOK_th (i := 1) hO)
  refine z_if_eq_n (tgt := 38) hx hb dX5_isBlocked_18 (by decide) (by omega) (fun h18_4 => ?_) (fun h18_4 => by omega)
  refine lv_iconst (v := (nI (0))) hx hb dX5_isBlocked_38 (by decide) ?_
  exact z_zret (w := wM cI cZ ad) (S1 := (zth S 1)) hx hb hr hlk hF hR dX5_isBlocked_39 (by decide) (⟨rfl, rfl⟩)
set_option maxHeartbeats 4000000 in
set_option maxRecDepth 100000 in
theorem c_X5_isBlocked_e2 {l : Launch} {D : va_G} {cI cZ : ClassId} {ad : Nat → Nat} {B : Nat → Prop} (hG : ∀ S : zS, va_D B (wM cI cZ ad S)) (S : zS) (p : Nat) (y : Int32) (hO : zOK S) (hp : p < 4) (hxb : zbad y (zn S 22 0)) : zMi l yX5_isBlocked wsX5_isBlocked ({ frames := 3, cells := 0, slots := 0, locals := 65 } : Room) [.ref (ad 0), .int (nI (p)), .int (y)] D (zT cI cZ) B (wM cI cZ ad) S (fun (r : Int32) (S1 : zS) => r = (nI (0)) ∧ S1 = zth S 1) := by
  refine zMi_of (cc := cX5_isBlocked) (maxL := 3) (ret := (some .boolean)) (by decide) rfl (Nat.le_of_ble_eq_true rfl) ?_
  intro pg en s mm below meth cd hx hb hr hml hown hts hlk hF hR ls hl
  have hinX5 : ∀ w ∈ wsX50, w ∈ wsX5_isBlocked := by decide +kernel
  have hl : lv_has ls 3 [(0, .ref (ad 0)), (1, .int (nI (p))), (2, .int (y))] := hl
  refine lv_aload_n hx hb dX5_isBlocked_0 rfl (lv_at hl 0 rfl) ?_
  refine lv_aload_n hx hb dX5_isBlocked_1 rfl (lv_at hl 0 rfl) ?_
  refine lv_iload_n hx hb dX5_isBlocked_2 rfl (lv_at hl 1 rfl) ?_
  refine lv_iload_n hx hb dX5_isBlocked_3 rfl (lv_at hl 2 rfl) ?_
  refine z_callV_i (As := [.int (nI (p)), .int (y)]) (rest := [.ref (ad 0)]) (w := wM cI cZ ad) ⟨hx, hb, hml, hown, hts⟩ hF hR (c_X5_isChannel_b2 hG S p ((y)) hO (by omega) hxb) (cwV 2 hts gX5_isBlocked_X5_isChannel rfl rfl rfl (by decide +kernel) ⟨Nat.le_of_ble_eq_true rfl, Nat.le_of_ble_eq_true rfl⟩) (wM_c0 S) rfl rfl rfl hl rfl (Nat.le_of_ble_eq_true rfl) (by decide) dX5_isBlocked_4 (fun r1 S1 H locs hp1 hR => ?_)
  obtain ⟨hr1, hs1⟩ := hp1
  subst r1
  subst S1
  refine z_if_eq_n (tgt := 14) hx hb dX5_isBlocked_7 (by decide) (by omega) (fun h7_2 => ?_) (fun h7_2 => by omega)
  refine lv_iconst (v := (nI (1))) hx hb dX5_isBlocked_14 (by decide) ?_
  refine z_callV_i (As := [.int (nI (1))]) (rest := []) (w := wM cI cZ ad) ⟨hx, hb, hml, hown, hts⟩ hF hR (c_X5_holds_nz hG S 1 (by decide) (by decide)) (cwV 1 hts gX5_isBlocked_X5_holds rfl rfl rfl (by decide +kernel) ⟨Nat.le_of_ble_eq_true rfl, Nat.le_of_ble_eq_true rfl⟩) (wM_c0 S) rfl rfl rfl hl rfl (Nat.le_of_ble_eq_true rfl) (by decide) dX5_isBlocked_15 (fun r3 S3 H locs hp3 hR => ?_)
  obtain ⟨hr3, hs3⟩ := hp3
  subst r3
  subst S3
  have hO3 := (zOK_th (i := 1) hO)
  refine z_if_eq_n (tgt := 38) hx hb dX5_isBlocked_18 (by decide) (by omega) (fun h18_4 => ?_) (fun h18_4 => by omega)
  refine lv_iconst (v := (nI (0))) hx hb dX5_isBlocked_38 (by decide) ?_
  exact z_zret (w := wM cI cZ ad) (S1 := (zth S 1)) hx hb hr hlk hF hR dX5_isBlocked_39 (by decide) (⟨rfl, rfl⟩)
set_option maxHeartbeats 4000000 in
set_option maxRecDepth 100000 in
theorem c_X5_queued_ok {l : Launch} {D : va_G} {cI cZ : ClassId} {ad : Nat → Nat} {B : Nat → Prop} (hG : ∀ S : zS, va_D B (wM cI cZ ad S)) (S : zS) (p w : Nat) (hO : zOK S) (hp : p < 4) (hw : w < zn S 22 0) : zMi l yX5_queued wsX5_queued ({ frames := 3, cells := 0, slots := 0, locals := 65 } : Room) [.ref (ad 0), .int (nI (p)), .int (nI (w))] D (zT cI cZ) B (wM cI cZ ad) S (fun (r : Int32) (S1 : zS) => r = (nI (zn (zth S 0) 7 (4 * p + w))) ∧ S1 = zth S 0) := by
  refine zMi_of (cc := cX5_queued) (maxL := 3) (ret := (some .int)) (by decide) rfl (Nat.le_of_ble_eq_true rfl) ?_
  intro pg en s mm below meth cd hx hb hr hml hown hts hlk hF hR ls hl
  have hinX5 : ∀ w ∈ wsX50, w ∈ wsX5_queued := by decide +kernel
  have hl : lv_has ls 3 [(0, .ref (ad 0)), (1, .int (nI (p))), (2, .int (nI (w)))] := hl
  have hW1 := (zOK.w hO).2.1
  have hW4 := (zOK.w hO).2.2
  refine lv_aload_n hx hb dX5_queued_0 rfl (lv_at hl 0 rfl) ?_
  refine lv_aload_n hx hb dX5_queued_1 rfl (lv_at hl 0 rfl) ?_
  refine lv_iload_n hx hb dX5_queued_2 rfl (lv_at hl 1 rfl) ?_
  refine lv_iload_n hx hb dX5_queued_3 rfl (lv_at hl 2 rfl) ?_
  refine z_callV_i (As := [.int (nI (p)), .int (nI (w))]) (rest := [.ref (ad 0)]) (w := wM cI cZ ad) ⟨hx, hb, hml, hown, hts⟩ hF hR (c_X5_isChannel_ok hG S p w hO (by omega) (by omega)) (cwV 2 hts gX5_queued_X5_isChannel rfl rfl rfl (by decide +kernel) ⟨Nat.le_of_ble_eq_true rfl, Nat.le_of_ble_eq_true rfl⟩) (wM_c0 S) rfl rfl rfl hl rfl (Nat.le_of_ble_eq_true rfl) (by decide) dX5_queued_4 (fun r1 S1 H locs hp1 hR => ?_)
  obtain ⟨hr1, hs1⟩ := hp1
  subst r1
  subst S1
  refine z_if_eq_n (tgt := 14) hx hb dX5_queued_7 (by decide) (by omega) (fun h7_2 => by omega) (fun h7_2 => ?_)
  refine lv_iconst (v := (nI (0))) hx hb dX5_queued_10 (by decide) ?_
  refine lv_goto (tgt := 15) hx hb dX5_queued_11 (by decide) ?_
  refine z_callV_i (As := [.int (nI (0))]) (rest := []) (w := wM cI cZ ad) ⟨hx, hb, hml, hown, hts⟩ hF hR (c_X5_holds_z hG S ) (cwV 1 hts gX5_queued_X5_holds rfl rfl rfl (by decide +kernel) ⟨Nat.le_of_ble_eq_true rfl, Nat.le_of_ble_eq_true rfl⟩) (wM_c0 S) rfl rfl rfl hl rfl (Nat.le_of_ble_eq_true rfl) (by decide) dX5_queued_15 (fun r3 S3 H locs hp3 hR => ?_)
  obtain ⟨hr3, hs3⟩ := hp3
  subst r3
  subst S3
  have hO3 := (zOK_th (i := 0) hO)
  refine z_if_eq_n (tgt := 34) hx hb dX5_queued_18 (by decide) (by omega) (fun h18_4 => by omega) (fun h18_4 => ?_)
  refine lv_aload_n hx hb dX5_queued_21 rfl (lv_at hl 0 rfl) ?_
  refine z_get (own := RX5) (C := RX5) (T := TX5) (N := 27) (k := 6) (v := .ref (ad 8)) hx hb hts hinX5 hown hF hR (wM_c0 (zth S 0)) rfl (by decide) (by decide +kernel) rfl rfl dX5_queued_22 ?_
  refine lv_iload_n hx hb dX5_queued_25 rfl (lv_at hl 1 rfl) ?_
  refine lv_iload_n hx hb dX5_queued_26 rfl (lv_at hl 2 rfl) ?_
  refine z_callS_i (As := [.int (nI (p)), .int (nI (w))]) (rest := [.ref (ad 8)]) (w := wM cI cZ ad) ⟨hx, hb, hml, hown, hts⟩ hF hR (c_X5_channel hG (zth S 0) p w) (va_cwS 2 hts gX5_queued_X5_channel rfl rfl rfl (by decide +kernel) ⟨Nat.le_of_ble_eq_true rfl, Nat.le_of_ble_eq_true rfl⟩) rfl hl rfl (Nat.le_of_ble_eq_true rfl) (by decide) dX5_queued_27 (fun r5 S5 H locs hp5 hR => ?_)
  obtain ⟨hr5, hs5⟩ := hp5
  subst r5
  subst S5
  refine z_iald_n (f := (zth S 0) 7) hx hb hF hR (wM_c8 (zth S 0)) zT_0 dX5_queued_30 (by decide) (by omega) ?_
  refine lv_topi (fun v7 ev7 => ?_)
  obtain rfl : v7 = (nI (zn (zth S 0) 7 (4 * p + w))) := ev7.trans (zOK.n7 hO3 _).1
  have hb30_6 := (zOK.n7 hO3 (4 * p + w)).2
  refine lv_goto (tgt := 35) hx hb dX5_queued_31 (by decide) ?_
  exact z_iret (w := wM cI cZ ad) (S1 := (zth S 0)) hx hb hr hlk hF hR dX5_queued_35 (⟨rfl, rfl⟩)
set_option maxHeartbeats 4000000 in
set_option maxRecDepth 100000 in
theorem c_X5_isBlocked_ok {l : Launch} {D : va_G} {cI cZ : ClassId} {ad : Nat → Nat} {B : Nat → Prop} (hG : ∀ S : zS, va_D B (wM cI cZ ad S)) (S : zS) (p w : Nat) (hO : zOK S) (hp : p < 4) (hw : w < zn S 22 0) : zMi l yX5_isBlocked wsX5_isBlocked ({ frames := 3, cells := 0, slots := 0, locals := 65 } : Room) [.ref (ad 0), .int (nI (p)), .int (nI (w))] D (zT cI cZ) B (wM cI cZ ad) S (fun (r : Int32) (S1 : zS) => (((S 8 (4 * p + w) = nI 1) ∧ r = nI 1) ∨ (¬ (S 8 (4 * p + w) = nI 1) ∧ r = nI 0)) ∧ S1 = zth S 0) := by
  refine zMi_of (cc := cX5_isBlocked) (maxL := 3) (ret := (some .boolean)) (by decide) rfl (Nat.le_of_ble_eq_true rfl) ?_
  intro pg en s mm below meth cd hx hb hr hml hown hts hlk hF hR ls hl
  have hinX5 : ∀ w ∈ wsX50, w ∈ wsX5_isBlocked := by decide +kernel
  have hl : lv_has ls 3 [(0, .ref (ad 0)), (1, .int (nI (p))), (2, .int (nI (w)))] := hl
  have hW1 := (zOK.w hO).2.1
  have hW4 := (zOK.w hO).2.2
  refine lv_aload_n hx hb dX5_isBlocked_0 rfl (lv_at hl 0 rfl) ?_
  refine lv_aload_n hx hb dX5_isBlocked_1 rfl (lv_at hl 0 rfl) ?_
  refine lv_iload_n hx hb dX5_isBlocked_2 rfl (lv_at hl 1 rfl) ?_
  refine lv_iload_n hx hb dX5_isBlocked_3 rfl (lv_at hl 2 rfl) ?_
  refine z_callV_i (As := [.int (nI (p)), .int (nI (w))]) (rest := [.ref (ad 0)]) (w := wM cI cZ ad) ⟨hx, hb, hml, hown, hts⟩ hF hR (c_X5_isChannel_ok hG S p w hO (by omega) (by omega)) (cwV 2 hts gX5_isBlocked_X5_isChannel rfl rfl rfl (by decide +kernel) ⟨Nat.le_of_ble_eq_true rfl, Nat.le_of_ble_eq_true rfl⟩) (wM_c0 S) rfl rfl rfl hl rfl (Nat.le_of_ble_eq_true rfl) (by decide) dX5_isBlocked_4 (fun r1 S1 H locs hp1 hR => ?_)
  obtain ⟨hr1, hs1⟩ := hp1
  subst r1
  subst S1
  refine z_if_eq_n (tgt := 14) hx hb dX5_isBlocked_7 (by decide) (by omega) (fun h7_2 => by omega) (fun h7_2 => ?_)
  refine lv_iconst (v := (nI (0))) hx hb dX5_isBlocked_10 (by decide) ?_
  refine lv_goto (tgt := 15) hx hb dX5_isBlocked_11 (by decide) ?_
  refine z_callV_i (As := [.int (nI (0))]) (rest := []) (w := wM cI cZ ad) ⟨hx, hb, hml, hown, hts⟩ hF hR (c_X5_holds_z hG S ) (cwV 1 hts gX5_isBlocked_X5_holds rfl rfl rfl (by decide +kernel) ⟨Nat.le_of_ble_eq_true rfl, Nat.le_of_ble_eq_true rfl⟩) (wM_c0 S) rfl rfl rfl hl rfl (Nat.le_of_ble_eq_true rfl) (by decide) dX5_isBlocked_15 (fun r3 S3 H locs hp3 hR => ?_)
  obtain ⟨hr3, hs3⟩ := hp3
  subst r3
  subst S3
  have hO3 := (zOK_th (i := 0) hO)
  refine z_if_eq_n (tgt := 38) hx hb dX5_isBlocked_18 (by decide) (by omega) (fun h18_4 => by omega) (fun h18_4 => ?_)
  refine lv_aload_n hx hb dX5_isBlocked_21 rfl (lv_at hl 0 rfl) ?_
  refine z_get (own := RX5) (C := RX5) (T := TX5) (N := 27) (k := 7) (v := .ref (ad 9)) hx hb hts hinX5 hown hF hR (wM_c0 (zth S 0)) rfl (by decide) (by decide +kernel) rfl rfl dX5_isBlocked_22 ?_
  refine lv_iload_n hx hb dX5_isBlocked_25 rfl (lv_at hl 1 rfl) ?_
  refine lv_iload_n hx hb dX5_isBlocked_26 rfl (lv_at hl 2 rfl) ?_
  refine z_callS_i (As := [.int (nI (p)), .int (nI (w))]) (rest := [.ref (ad 9)]) (w := wM cI cZ ad) ⟨hx, hb, hml, hown, hts⟩ hF hR (c_X5_channel hG (zth S 0) p w) (va_cwS 2 hts gX5_isBlocked_X5_channel rfl rfl rfl (by decide +kernel) ⟨Nat.le_of_ble_eq_true rfl, Nat.le_of_ble_eq_true rfl⟩) rfl hl rfl (Nat.le_of_ble_eq_true rfl) (by decide) dX5_isBlocked_27 (fun r5 S5 H locs hp5 hR => ?_)
  obtain ⟨hr5, hs5⟩ := hp5
  subst r5
  subst S5
  refine z_zald_n (f := (zth S 0) 8) hx hb hF hR (wM_c9 (zth S 0)) zT_1 dX5_isBlocked_30 (by decide) (by omega) ?_
  refine lv_if_eq (tgt := 38) hx hb dX5_isBlocked_31 (by decide) (fun h31_6 => ?_) (fun h31_6 => ?_)
  · skip
    have q31 := h31_6
    refine lv_iconst (v := (nI (0))) hx hb dX5_isBlocked_38 (by decide) ?_
    exact z_zret (w := wM cI cZ ad) (S1 := (zth S 0)) hx hb hr hlk hF hR dX5_isBlocked_39 (by decide) (⟨Or.inr ⟨fun q => absurd (q.symm.trans q31) (by decide), rfl⟩, rfl⟩)
  · skip
    have q31 := h31_6
    refine lv_iconst (v := (nI (1))) hx hb dX5_isBlocked_34 (by decide) ?_
    refine lv_goto (tgt := 39) hx hb dX5_isBlocked_35 (by decide) ?_
    exact z_zret (w := wM cI cZ ad) (S1 := (zth S 0)) hx hb hr hlk hF hR dX5_isBlocked_39 (by decide) (⟨Or.inl ⟨(zOK.b8 hO (4 * p + w)).elim (fun q => absurd (q.trans nI_0) q31) id, rfl⟩, rfl⟩)
set_option maxHeartbeats 4000000 in
set_option maxRecDepth 100000 in
theorem c_X5_itemAt_e1 {l : Launch} {D : va_G} {cI cZ : ClassId} {ad : Nat → Nat} {B : Nat → Prop} (hG : ∀ S : zS, va_D B (wM cI cZ ad S)) (S : zS) (x y z : Int32) (hO : zOK S) (hxb : zbad x 4) : zMi l yX5_itemAt wsX5_itemAt ({ frames := 3, cells := 0, slots := 0, locals := 65 } : Room) [.ref (ad 0), .int (x), .int (y), .int (z)] D (zT cI cZ) B (wM cI cZ ad) S (fun (r : Int32) (S1 : zS) => r = (nI (0)) ∧ S1 = zth S 1) := by
  refine zMi_of (cc := cX5_itemAt) (maxL := 5) (ret := (some .int)) (by decide) rfl (Nat.le_of_ble_eq_true rfl) ?_
  intro pg en s mm below meth cd hx hb hr hml hown hts hlk hF hR ls hl
  have hinX5 : ∀ w ∈ wsX50, w ∈ wsX5_itemAt := by decide +kernel
  have hl : lv_has ls 5 [(0, .ref (ad 0)), (1, .int (x)), (2, .int (y)), (3, .int (z))] := hl
  refine lv_aload_n hx hb dX5_itemAt_0 rfl (lv_at hl 0 rfl) ?_
  refine lv_iload_n hx hb dX5_itemAt_1 rfl (lv_at hl 1 rfl) ?_
  refine lv_iload_n hx hb dX5_itemAt_2 rfl (lv_at hl 2 rfl) ?_
  refine z_callV_i (As := [.int (x), .int (y)]) (rest := []) (w := wM cI cZ ad) ⟨hx, hb, hml, hown, hts⟩ hF hR (c_X5_isChannel_b1 hG S ((x)) ((y)) hO hxb) (cwV 2 hts gX5_itemAt_X5_isChannel rfl rfl rfl (by decide +kernel) ⟨Nat.le_of_ble_eq_true rfl, Nat.le_of_ble_eq_true rfl⟩) (wM_c0 S) rfl rfl rfl hl rfl (Nat.le_of_ble_eq_true rfl) (by decide) dX5_itemAt_3 (fun r1 S1 H locs hp1 hR => ?_)
  obtain ⟨hr1, hs1⟩ := hp1
  subst r1
  subst S1
  refine z_if_eq_n (tgt := 33) hx hb dX5_itemAt_6 (by decide) (by omega) (fun h6_2 => ?_) (fun h6_2 => by omega)
  refine lv_iconst (v := (nI (0))) hx hb dX5_itemAt_33 (by decide) ?_
  refine lv_istore (lv' := [(4, .int (nI (0))), (0, .ref (ad 0)), (1, .int (x)), (2, .int (y)), (3, .int (z))]) hx hb dX5_itemAt_34 hl (by decide) rfl (fun ls hl => ?_)
  refine lv_aload_n hx hb dX5_itemAt_36 rfl (lv_at hl 1 rfl) ?_
  refine lv_iload hx hb dX5_itemAt_37 (lv_at hl 0 rfl) ?_
  refine z_if_eq_n (tgt := 46) hx hb dX5_itemAt_39 (by decide) (by omega) (fun h39_3 => ?_) (fun h39_3 => by omega)
  refine lv_iconst (v := (nI (1))) hx hb dX5_itemAt_46 (by decide) ?_
  refine z_callV_i (As := [.int (nI (1))]) (rest := []) (w := wM cI cZ ad) ⟨hx, hb, hml, hown, hts⟩ hF hR (c_X5_holds_nz hG S 1 (by decide) (by decide)) (cwV 1 hts gX5_itemAt_X5_holds rfl rfl rfl (by decide +kernel) ⟨Nat.le_of_ble_eq_true rfl, Nat.le_of_ble_eq_true rfl⟩) (wM_c0 S) rfl rfl rfl hl rfl (Nat.le_of_ble_eq_true rfl) (by decide) dX5_itemAt_47 (fun r4 S4 H locs hp4 hR => ?_)
  obtain ⟨hr4, hs4⟩ := hp4
  subst r4
  subst S4
  have hO4 := (zOK_th (i := 1) hO)
  refine z_if_eq_n (tgt := 71) hx hb dX5_itemAt_50 (by decide) (by omega) (fun h50_5 => ?_) (fun h50_5 => by omega)
  refine lv_iconst (v := (nI (0))) hx hb dX5_itemAt_71 (by decide) ?_
  exact z_iret (w := wM cI cZ ad) (S1 := (zth S 1)) hx hb hr hlk hF hR dX5_itemAt_72 (⟨rfl, rfl⟩)
set_option maxHeartbeats 4000000 in
set_option maxRecDepth 100000 in
theorem c_X5_itemAt_e2 {l : Launch} {D : va_G} {cI cZ : ClassId} {ad : Nat → Nat} {B : Nat → Prop} (hG : ∀ S : zS, va_D B (wM cI cZ ad S)) (S : zS) (p : Nat) (y z : Int32) (hO : zOK S) (hp : p < 4) (hxb : zbad y (zn S 22 0)) : zMi l yX5_itemAt wsX5_itemAt ({ frames := 3, cells := 0, slots := 0, locals := 65 } : Room) [.ref (ad 0), .int (nI (p)), .int (y), .int (z)] D (zT cI cZ) B (wM cI cZ ad) S (fun (r : Int32) (S1 : zS) => r = (nI (0)) ∧ S1 = zth S 1) := by
  refine zMi_of (cc := cX5_itemAt) (maxL := 5) (ret := (some .int)) (by decide) rfl (Nat.le_of_ble_eq_true rfl) ?_
  intro pg en s mm below meth cd hx hb hr hml hown hts hlk hF hR ls hl
  have hinX5 : ∀ w ∈ wsX50, w ∈ wsX5_itemAt := by decide +kernel
  have hl : lv_has ls 5 [(0, .ref (ad 0)), (1, .int (nI (p))), (2, .int (y)), (3, .int (z))] := hl
  refine lv_aload_n hx hb dX5_itemAt_0 rfl (lv_at hl 0 rfl) ?_
  refine lv_iload_n hx hb dX5_itemAt_1 rfl (lv_at hl 1 rfl) ?_
  refine lv_iload_n hx hb dX5_itemAt_2 rfl (lv_at hl 2 rfl) ?_
  refine z_callV_i (As := [.int (nI (p)), .int (y)]) (rest := []) (w := wM cI cZ ad) ⟨hx, hb, hml, hown, hts⟩ hF hR (c_X5_isChannel_b2 hG S p ((y)) hO (by omega) hxb) (cwV 2 hts gX5_itemAt_X5_isChannel rfl rfl rfl (by decide +kernel) ⟨Nat.le_of_ble_eq_true rfl, Nat.le_of_ble_eq_true rfl⟩) (wM_c0 S) rfl rfl rfl hl rfl (Nat.le_of_ble_eq_true rfl) (by decide) dX5_itemAt_3 (fun r1 S1 H locs hp1 hR => ?_)
  obtain ⟨hr1, hs1⟩ := hp1
  subst r1
  subst S1
  refine z_if_eq_n (tgt := 33) hx hb dX5_itemAt_6 (by decide) (by omega) (fun h6_2 => ?_) (fun h6_2 => by omega)
  refine lv_iconst (v := (nI (0))) hx hb dX5_itemAt_33 (by decide) ?_
  refine lv_istore (lv' := [(4, .int (nI (0))), (0, .ref (ad 0)), (1, .int (nI (p))), (2, .int (y)), (3, .int (z))]) hx hb dX5_itemAt_34 hl (by decide) rfl (fun ls hl => ?_)
  refine lv_aload_n hx hb dX5_itemAt_36 rfl (lv_at hl 1 rfl) ?_
  refine lv_iload hx hb dX5_itemAt_37 (lv_at hl 0 rfl) ?_
  refine z_if_eq_n (tgt := 46) hx hb dX5_itemAt_39 (by decide) (by omega) (fun h39_3 => ?_) (fun h39_3 => by omega)
  refine lv_iconst (v := (nI (1))) hx hb dX5_itemAt_46 (by decide) ?_
  refine z_callV_i (As := [.int (nI (1))]) (rest := []) (w := wM cI cZ ad) ⟨hx, hb, hml, hown, hts⟩ hF hR (c_X5_holds_nz hG S 1 (by decide) (by decide)) (cwV 1 hts gX5_itemAt_X5_holds rfl rfl rfl (by decide +kernel) ⟨Nat.le_of_ble_eq_true rfl, Nat.le_of_ble_eq_true rfl⟩) (wM_c0 S) rfl rfl rfl hl rfl (Nat.le_of_ble_eq_true rfl) (by decide) dX5_itemAt_47 (fun r4 S4 H locs hp4 hR => ?_)
  obtain ⟨hr4, hs4⟩ := hp4
  subst r4
  subst S4
  have hO4 := (zOK_th (i := 1) hO)
  refine z_if_eq_n (tgt := 71) hx hb dX5_itemAt_50 (by decide) (by omega) (fun h50_5 => ?_) (fun h50_5 => by omega)
  refine lv_iconst (v := (nI (0))) hx hb dX5_itemAt_71 (by decide) ?_
  exact z_iret (w := wM cI cZ ad) (S1 := (zth S 1)) hx hb hr hlk hF hR dX5_itemAt_72 (⟨rfl, rfl⟩)
set_option maxHeartbeats 4000000 in
set_option maxRecDepth 100000 in
theorem c_X5_itemAt_e3 {l : Launch} {D : va_G} {cI cZ : ClassId} {ad : Nat → Nat} {B : Nat → Prop} (hG : ∀ S : zS, va_D B (wM cI cZ ad S)) (S : zS) (p w : Nat) (z : Int32) (hO : zOK S) (hp : p < 4) (hw : w < zn S 22 0) (hx9 : zbad z (zn S 7 (4 * p + w))) : zMi l yX5_itemAt wsX5_itemAt ({ frames := 3, cells := 0, slots := 0, locals := 65 } : Room) [.ref (ad 0), .int (nI (p)), .int (nI (w)), .int (z)] D (zT cI cZ) B (wM cI cZ ad) S (fun (r : Int32) (S1 : zS) => r = (nI (0)) ∧ S1 = zth S 1) := by
  refine zMi_of (cc := cX5_itemAt) (maxL := 5) (ret := (some .int)) (by decide) rfl (Nat.le_of_ble_eq_true rfl) ?_
  intro pg en s mm below meth cd hx hb hr hml hown hts hlk hF hR ls hl
  have hinX5 : ∀ w ∈ wsX50, w ∈ wsX5_itemAt := by decide +kernel
  have hl : lv_has ls 5 [(0, .ref (ad 0)), (1, .int (nI (p))), (2, .int (nI (w))), (3, .int (z))] := hl
  have hW1 := (zOK.w hO).2.1
  have hW4 := (zOK.w hO).2.2
  refine lv_aload_n hx hb dX5_itemAt_0 rfl (lv_at hl 0 rfl) ?_
  refine lv_iload_n hx hb dX5_itemAt_1 rfl (lv_at hl 1 rfl) ?_
  refine lv_iload_n hx hb dX5_itemAt_2 rfl (lv_at hl 2 rfl) ?_
  refine z_callV_i (As := [.int (nI (p)), .int (nI (w))]) (rest := []) (w := wM cI cZ ad) ⟨hx, hb, hml, hown, hts⟩ hF hR (c_X5_isChannel_ok hG S p w hO (by omega) (by omega)) (cwV 2 hts gX5_itemAt_X5_isChannel rfl rfl rfl (by decide +kernel) ⟨Nat.le_of_ble_eq_true rfl, Nat.le_of_ble_eq_true rfl⟩) (wM_c0 S) rfl rfl rfl hl rfl (Nat.le_of_ble_eq_true rfl) (by decide) dX5_itemAt_3 (fun r1 S1 H locs hp1 hR => ?_)
  obtain ⟨hr1, hs1⟩ := hp1
  subst r1
  subst S1
  refine z_if_eq_n (tgt := 33) hx hb dX5_itemAt_6 (by decide) (by omega) (fun h6_2 => by omega) (fun h6_2 => ?_)
  refine lv_iload_n hx hb dX5_itemAt_9 rfl (lv_at hl 3 rfl) ?_
  refine lv_iconst (v := (nI (0))) hx hb dX5_itemAt_10 (by decide) ?_
  refine lv_aload_n hx hb dX5_itemAt_11 rfl (lv_at hl 0 rfl) ?_
  refine z_get (own := RX5) (C := RX5) (T := TX5) (N := 27) (k := 6) (v := .ref (ad 8)) hx hb hts hinX5 hown hF hR (wM_c0 S) rfl (by decide) (by decide +kernel) rfl rfl dX5_itemAt_12 ?_
  refine lv_iload_n hx hb dX5_itemAt_15 rfl (lv_at hl 1 rfl) ?_
  refine lv_iload_n hx hb dX5_itemAt_16 rfl (lv_at hl 2 rfl) ?_
  refine z_callS_i (As := [.int (nI (p)), .int (nI (w))]) (rest := [.ref (ad 8), .int (nI (0)), .int (z)]) (w := wM cI cZ ad) ⟨hx, hb, hml, hown, hts⟩ hF hR (c_X5_channel hG S p w) (va_cwS 2 hts gX5_itemAt_X5_channel rfl rfl rfl (by decide +kernel) ⟨Nat.le_of_ble_eq_true rfl, Nat.le_of_ble_eq_true rfl⟩) rfl hl rfl (Nat.le_of_ble_eq_true rfl) (by decide) dX5_itemAt_17 (fun r3 S3 H locs hp3 hR => ?_)
  obtain ⟨hr3, hs3⟩ := hp3
  subst r3
  subst S3
  refine z_iald_n (f := S 7) hx hb hF hR (wM_c8 S) zT_0 dX5_itemAt_20 (by decide) (by omega) ?_
  refine lv_topi (fun v5 ev5 => ?_)
  obtain rfl : v5 = (nI (zn S 7 (4 * p + w))) := ev5.trans (zOK.n7 hO _).1
  have hb20_4 := (zOK.n7 hO (4 * p + w)).2
  refine lv_iconst (v := (nI (1))) hx hb dX5_itemAt_21 (by decide) ?_
  refine lv_isub hx hb dX5_itemAt_22 ?_
  refine z_callS_i (As := [.int (z), .int (nI (0)), .int ((nI (zn S 7 (4 * p + w))) - (nI (1)))]) (rest := []) (w := wM cI cZ ad) ⟨hx, hb, hml, hown, hts⟩ hF hR (c_X5_in_i hG S ((z)) ((nI (0))) (((nI (zn S 7 (4 * p + w))) - (nI (1))))) (va_cwS 3 hts gX5_itemAt_X5_in rfl rfl rfl (by decide +kernel) ⟨Nat.le_of_ble_eq_true rfl, Nat.le_of_ble_eq_true rfl⟩) rfl hl rfl (Nat.le_of_ble_eq_true rfl) (by decide) dX5_itemAt_23 (fun r6 S6 H locs hp6 hR => ?_)
  obtain ⟨hp6, hs6⟩ := hp6
  subst S6
  rcases hp6 with ⟨hb23, hr6⟩ | ⟨hb23, hr6⟩
  · exact absurd hb23 (zbad_in1 hx9 (Nat.le_trans (zOK.n7 hO (4 * p + w)).2 (by decide)))
  · subst r6
    refine z_if_eq_n (tgt := 33) hx hb dX5_itemAt_26 (by decide) (by omega) (fun h26_7 => ?_) (fun h26_7 => by omega)
    refine lv_iconst (v := (nI (0))) hx hb dX5_itemAt_33 (by decide) ?_
    refine lv_istore (lv' := [(4, .int (nI (0))), (0, .ref (ad 0)), (1, .int (nI (p))), (2, .int (nI (w))), (3, .int (z))]) hx hb dX5_itemAt_34 hl (by decide) rfl (fun ls hl => ?_)
    refine lv_aload_n hx hb dX5_itemAt_36 rfl (lv_at hl 1 rfl) ?_
    refine lv_iload hx hb dX5_itemAt_37 (lv_at hl 0 rfl) ?_
    refine z_if_eq_n (tgt := 46) hx hb dX5_itemAt_39 (by decide) (by omega) (fun h39_8 => ?_) (fun h39_8 => by omega)
    refine lv_iconst (v := (nI (1))) hx hb dX5_itemAt_46 (by decide) ?_
    refine z_callV_i (As := [.int (nI (1))]) (rest := []) (w := wM cI cZ ad) ⟨hx, hb, hml, hown, hts⟩ hF hR (c_X5_holds_nz hG S 1 (by decide) (by decide)) (cwV 1 hts gX5_itemAt_X5_holds rfl rfl rfl (by decide +kernel) ⟨Nat.le_of_ble_eq_true rfl, Nat.le_of_ble_eq_true rfl⟩) (wM_c0 S) rfl rfl rfl hl rfl (Nat.le_of_ble_eq_true rfl) (by decide) dX5_itemAt_47 (fun r9 S9 H locs hp9 hR => ?_)
    obtain ⟨hr9, hs9⟩ := hp9
    subst r9
    subst S9
    have hO9 := (zOK_th (i := 1) hO)
    refine z_if_eq_n (tgt := 71) hx hb dX5_itemAt_50 (by decide) (by omega) (fun h50_10 => ?_) (fun h50_10 => by omega)
    refine lv_iconst (v := (nI (0))) hx hb dX5_itemAt_71 (by decide) ?_
    exact z_iret (w := wM cI cZ ad) (S1 := (zth S 1)) hx hb hr hlk hF hR dX5_itemAt_72 (⟨rfl, rfl⟩)
set_option maxHeartbeats 4000000 in
set_option maxRecDepth 100000 in
theorem c_X5_itemAt_ok {l : Launch} {D : va_G} {cI cZ : ClassId} {ad : Nat → Nat} {B : Nat → Prop} (hG : ∀ S : zS, va_D B (wM cI cZ ad S)) (S : zS) (p w o : Nat) (hO : zOK S) (hp : p < 4) (hw : w < zn S 22 0) (ho : o < zn S 7 (4 * p + w)) : zMi l yX5_itemAt wsX5_itemAt ({ frames := 3, cells := 0, slots := 0, locals := 65 } : Room) [.ref (ad 0), .int (nI (p)), .int (nI (w)), .int (nI (o))] D (zT cI cZ) B (wM cI cZ ad) S (fun (r : Int32) (S1 : zS) => r = ((zth S 0) 6 (8 * (4 * p + w) + o)) ∧ S1 = zth S 0) := by
  refine zMi_of (cc := cX5_itemAt) (maxL := 5) (ret := (some .int)) (by decide) rfl (Nat.le_of_ble_eq_true rfl) ?_
  intro pg en s mm below meth cd hx hb hr hml hown hts hlk hF hR ls hl
  have hinX5 : ∀ w ∈ wsX50, w ∈ wsX5_itemAt := by decide +kernel
  have hl : lv_has ls 5 [(0, .ref (ad 0)), (1, .int (nI (p))), (2, .int (nI (w))), (3, .int (nI (o)))] := hl
  have hW1 := (zOK.w hO).2.1
  have hW4 := (zOK.w hO).2.2
  have hb7 := (zOK.n7 hO (4 * p + w)).2
  refine lv_aload_n hx hb dX5_itemAt_0 rfl (lv_at hl 0 rfl) ?_
  refine lv_iload_n hx hb dX5_itemAt_1 rfl (lv_at hl 1 rfl) ?_
  refine lv_iload_n hx hb dX5_itemAt_2 rfl (lv_at hl 2 rfl) ?_
  refine z_callV_i (As := [.int (nI (p)), .int (nI (w))]) (rest := []) (w := wM cI cZ ad) ⟨hx, hb, hml, hown, hts⟩ hF hR (c_X5_isChannel_ok hG S p w hO (by omega) (by omega)) (cwV 2 hts gX5_itemAt_X5_isChannel rfl rfl rfl (by decide +kernel) ⟨Nat.le_of_ble_eq_true rfl, Nat.le_of_ble_eq_true rfl⟩) (wM_c0 S) rfl rfl rfl hl rfl (Nat.le_of_ble_eq_true rfl) (by decide) dX5_itemAt_3 (fun r1 S1 H locs hp1 hR => ?_)
  obtain ⟨hr1, hs1⟩ := hp1
  subst r1
  subst S1
  refine z_if_eq_n (tgt := 33) hx hb dX5_itemAt_6 (by decide) (by omega) (fun h6_2 => by omega) (fun h6_2 => ?_)
  refine lv_iload_n hx hb dX5_itemAt_9 rfl (lv_at hl 3 rfl) ?_
  refine lv_iconst (v := (nI (0))) hx hb dX5_itemAt_10 (by decide) ?_
  refine lv_aload_n hx hb dX5_itemAt_11 rfl (lv_at hl 0 rfl) ?_
  refine z_get (own := RX5) (C := RX5) (T := TX5) (N := 27) (k := 6) (v := .ref (ad 8)) hx hb hts hinX5 hown hF hR (wM_c0 S) rfl (by decide) (by decide +kernel) rfl rfl dX5_itemAt_12 ?_
  refine lv_iload_n hx hb dX5_itemAt_15 rfl (lv_at hl 1 rfl) ?_
  refine lv_iload_n hx hb dX5_itemAt_16 rfl (lv_at hl 2 rfl) ?_
  refine z_callS_i (As := [.int (nI (p)), .int (nI (w))]) (rest := [.ref (ad 8), .int (nI (0)), .int (nI (o))]) (w := wM cI cZ ad) ⟨hx, hb, hml, hown, hts⟩ hF hR (c_X5_channel hG S p w) (va_cwS 2 hts gX5_itemAt_X5_channel rfl rfl rfl (by decide +kernel) ⟨Nat.le_of_ble_eq_true rfl, Nat.le_of_ble_eq_true rfl⟩) rfl hl rfl (Nat.le_of_ble_eq_true rfl) (by decide) dX5_itemAt_17 (fun r3 S3 H locs hp3 hR => ?_)
  obtain ⟨hr3, hs3⟩ := hp3
  subst r3
  subst S3
  refine z_iald_n (f := S 7) hx hb hF hR (wM_c8 S) zT_0 dX5_itemAt_20 (by decide) (by omega) ?_
  refine lv_topi (fun v5 ev5 => ?_)
  obtain rfl : v5 = (nI (zn S 7 (4 * p + w))) := ev5.trans (zOK.n7 hO _).1
  have hb20_4 := (zOK.n7 hO (4 * p + w)).2
  refine lv_iconst (v := (nI (1))) hx hb dX5_itemAt_21 (by decide) ?_
  refine z_isub_n hx hb dX5_itemAt_22 (by omega) ?_
  refine z_callS_i (As := [.int (nI (o)), .int (nI (0)), .int (nI ((zn S 7 (4 * p + w)) - 1))]) (rest := []) (w := wM cI cZ ad) ⟨hx, hb, hml, hown, hts⟩ hF hR (c_X5_in_n hG S o 0 ((zn S 7 (4 * p + w)) - 1) (by omega) (by omega) (by omega)) (va_cwS 3 hts gX5_itemAt_X5_in rfl rfl rfl (by decide +kernel) ⟨Nat.le_of_ble_eq_true rfl, Nat.le_of_ble_eq_true rfl⟩) rfl hl rfl (Nat.le_of_ble_eq_true rfl) (by decide) dX5_itemAt_23 (fun r6 S6 H locs hp6 hR => ?_)
  obtain ⟨hp6, hs6⟩ := hp6
  subst S6
  rcases hp6 with ⟨hb23, hr6⟩ | ⟨hb23, hr6⟩
  · subst r6
    refine z_if_eq_n (tgt := 33) hx hb dX5_itemAt_26 (by decide) (by omega) (fun h26_7 => by omega) (fun h26_7 => ?_)
    refine lv_iconst (v := (nI (1))) hx hb dX5_itemAt_29 (by decide) ?_
    refine lv_goto (tgt := 34) hx hb dX5_itemAt_30 (by decide) ?_
    refine lv_istore (lv' := [(4, .int (nI (1))), (0, .ref (ad 0)), (1, .int (nI (p))), (2, .int (nI (w))), (3, .int (nI (o)))]) hx hb dX5_itemAt_34 hl (by decide) rfl (fun ls hl => ?_)
    refine lv_aload_n hx hb dX5_itemAt_36 rfl (lv_at hl 1 rfl) ?_
    refine lv_iload hx hb dX5_itemAt_37 (lv_at hl 0 rfl) ?_
    refine z_if_eq_n (tgt := 46) hx hb dX5_itemAt_39 (by decide) (by omega) (fun h39_8 => by omega) (fun h39_8 => ?_)
    refine lv_iconst (v := (nI (0))) hx hb dX5_itemAt_42 (by decide) ?_
    refine lv_goto (tgt := 47) hx hb dX5_itemAt_43 (by decide) ?_
    refine z_callV_i (As := [.int (nI (0))]) (rest := []) (w := wM cI cZ ad) ⟨hx, hb, hml, hown, hts⟩ hF hR (c_X5_holds_z hG S ) (cwV 1 hts gX5_itemAt_X5_holds rfl rfl rfl (by decide +kernel) ⟨Nat.le_of_ble_eq_true rfl, Nat.le_of_ble_eq_true rfl⟩) (wM_c0 S) rfl rfl rfl hl rfl (Nat.le_of_ble_eq_true rfl) (by decide) dX5_itemAt_47 (fun r9 S9 H locs hp9 hR => ?_)
    obtain ⟨hr9, hs9⟩ := hp9
    subst r9
    subst S9
    have hO9 := (zOK_th (i := 0) hO)
    refine z_if_eq_n (tgt := 71) hx hb dX5_itemAt_50 (by decide) (by omega) (fun h50_10 => by omega) (fun h50_10 => ?_)
    refine lv_aload_n hx hb dX5_itemAt_53 rfl (lv_at hl 1 rfl) ?_
    refine z_get (own := RX5) (C := RX5) (T := TX5) (N := 27) (k := 5) (v := .ref (ad 7)) hx hb hts hinX5 hown hF hR (wM_c0 (zth S 0)) rfl (by decide) (by decide +kernel) rfl rfl dX5_itemAt_54 ?_
    refine lv_bipush (v := (nI (8))) hx hb dX5_itemAt_57 (by decide) ?_
    refine lv_iload_n hx hb dX5_itemAt_59 rfl (lv_at hl 2 rfl) ?_
    refine lv_iload_n hx hb dX5_itemAt_60 rfl (lv_at hl 3 rfl) ?_
    refine z_callS_i (As := [.int (nI (p)), .int (nI (w))]) (rest := [.int (nI (8)), .ref (ad 7)]) (w := wM cI cZ ad) ⟨hx, hb, hml, hown, hts⟩ hF hR (c_X5_channel hG (zth S 0) p w) (va_cwS 2 hts gX5_itemAt_X5_channel rfl rfl rfl (by decide +kernel) ⟨Nat.le_of_ble_eq_true rfl, Nat.le_of_ble_eq_true rfl⟩) rfl hl rfl (Nat.le_of_ble_eq_true rfl) (by decide) dX5_itemAt_61 (fun r11 S11 H locs hp11 hR => ?_)
    obtain ⟨hr11, hs11⟩ := hp11
    subst r11
    subst S11
    refine z_imul_n hx hb dX5_itemAt_64 ?_
    refine lv_iload_n hx hb dX5_itemAt_65 rfl (lv_at hl 4 rfl) ?_
    refine z_iadd_n hx hb dX5_itemAt_66 ?_
    refine z_iald_n (f := (zth S 0) 6) hx hb hF hR (wM_c7 (zth S 0)) zT_0 dX5_itemAt_67 (by decide) (by omega) ?_
    refine lv_goto (tgt := 72) hx hb dX5_itemAt_68 (by decide) ?_
    exact z_iret (w := wM cI cZ ad) (S1 := (zth S 0)) hx hb hr hlk hF hR dX5_itemAt_72 (⟨rfl, rfl⟩)
  · exact absurd ⟨by omega, by omega⟩ hb23
set_option maxHeartbeats 4000000 in
set_option maxRecDepth 100000 in
theorem c_X5_workers {l : Launch} {D : va_G} {cI cZ : ClassId} {ad : Nat → Nat} {B : Nat → Prop} (hG : ∀ S : zS, va_D B (wM cI cZ ad S)) (S : zS) (hO : zOK S) : zMi l yX5_workers wsX5_workers ({ frames := 0, cells := 0, slots := 0, locals := 0 } : Room) [.ref (ad 0)] D (zT cI cZ) B (wM cI cZ ad) S (fun (r : Int32) (S1 : zS) => r = (nI (zn S 22 0)) ∧ S1 = zth S 0) := by
  refine zMi_of (cc := cX5_workers) (maxL := 1) (ret := (some .int)) (by decide) rfl (Nat.le_of_ble_eq_true rfl) ?_
  intro pg en s mm below meth cd hx hb hr hml hown hts hlk hF hR ls hl
  have hinX5 : ∀ w ∈ wsX50, w ∈ wsX5_workers := by decide +kernel
  have hl : lv_has ls 1 [(0, .ref (ad 0))] := hl
  refine lv_aload_n hx hb dX5_workers_0 rfl (lv_at hl 0 rfl) ?_
  refine lv_iconst (v := (nI (0))) hx hb dX5_workers_1 (by decide) ?_
  refine z_put (own := RX5) (C := RX5) (T := TX5) (N := 27) (k := 0) (ty := .int) hx hb hts hinX5 tyX5 tyX5_ok nmX5 hown hF (hG S) hR (wM_c0 S) rfl (by decide) (by decide +kernel) rfl rfl (by decide +kernel) rfl rfl (Nat.le_of_ble_eq_true rfl) (wM_p4 S (nI (0))) dX5_workers_2 (fun H locs hR => ?_)
  have hR : zR D B (wM cI cZ ad (zth S 0)) s H locs := by rw [show (zth S 0) = (zU S 22 (upd (S 22) 4 (nI (0)))) from rfl]; exact hR
  refine lv_aload_n hx hb dX5_workers_5 rfl (lv_at hl 0 rfl) ?_
  refine z_get (own := RX5) (C := RX5) (T := TX5) (N := 27) (k := 1) (v := .int ((zth S 0) 22 0)) hx hb hts hinX5 hown hF hR (wM_c0 (zth S 0)) rfl (by decide) (by decide +kernel) rfl rfl dX5_workers_6 ?_
  refine lv_topi (fun v1 ev1 => ?_)
  obtain rfl : v1 = (nI (zn S 22 0)) := ev1.trans (zOK.w hO).1
  exact z_iret (w := wM cI cZ ad) (S1 := (zth S 0)) hx hb hr hlk hF hR dX5_workers_9 (⟨rfl, rfl⟩)
set_option maxHeartbeats 4000000 in
set_option maxRecDepth 100000 in
theorem c_X5_underWay {l : Launch} {D : va_G} {cI cZ : ClassId} {ad : Nat → Nat} {B : Nat → Prop} (hG : ∀ S : zS, va_D B (wM cI cZ ad S)) (S : zS) (hO : zOK S) : zMi l yX5_underWay wsX5_underWay ({ frames := 0, cells := 0, slots := 0, locals := 0 } : Room) [.ref (ad 0)] D (zT cI cZ) B (wM cI cZ ad) S (fun (r : Int32) (S1 : zS) => r = ((zth S 0) 22 2) ∧ S1 = zth S 0) := by
  refine zMi_of (cc := cX5_underWay) (maxL := 1) (ret := (some .int)) (by decide) rfl (Nat.le_of_ble_eq_true rfl) ?_
  intro pg en s mm below meth cd hx hb hr hml hown hts hlk hF hR ls hl
  have hinX5 : ∀ w ∈ wsX50, w ∈ wsX5_underWay := by decide +kernel
  have hl : lv_has ls 1 [(0, .ref (ad 0))] := hl
  refine lv_aload_n hx hb dX5_underWay_0 rfl (lv_at hl 0 rfl) ?_
  refine lv_iconst (v := (nI (0))) hx hb dX5_underWay_1 (by decide) ?_
  refine z_put (own := RX5) (C := RX5) (T := TX5) (N := 27) (k := 0) (ty := .int) hx hb hts hinX5 tyX5 tyX5_ok nmX5 hown hF (hG S) hR (wM_c0 S) rfl (by decide) (by decide +kernel) rfl rfl (by decide +kernel) rfl rfl (Nat.le_of_ble_eq_true rfl) (wM_p4 S (nI (0))) dX5_underWay_2 (fun H locs hR => ?_)
  have hR : zR D B (wM cI cZ ad (zth S 0)) s H locs := by rw [show (zth S 0) = (zU S 22 (upd (S 22) 4 (nI (0)))) from rfl]; exact hR
  refine lv_aload_n hx hb dX5_underWay_5 rfl (lv_at hl 0 rfl) ?_
  refine z_get (own := RX5) (C := RX5) (T := TX5) (N := 27) (k := 18) (v := .int ((zth S 0) 22 2)) hx hb hts hinX5 hown hF hR (wM_c0 (zth S 0)) rfl (by decide) (by decide +kernel) rfl rfl dX5_underWay_6 ?_
  exact z_iret (w := wM cI cZ ad) (S1 := (zth S 0)) hx hb hr hlk hF hR dX5_underWay_9 (⟨rfl, rfl⟩)
set_option maxHeartbeats 4000000 in
set_option maxRecDepth 100000 in
theorem c_X5_complete {l : Launch} {D : va_G} {cI cZ : ClassId} {ad : Nat → Nat} {B : Nat → Prop} (hG : ∀ S : zS, va_D B (wM cI cZ ad S)) (S : zS) (hO : zOK S) : zMi l yX5_complete wsX5_complete ({ frames := 0, cells := 0, slots := 0, locals := 0 } : Room) [.ref (ad 0)] D (zT cI cZ) B (wM cI cZ ad) S (fun (r : Int32) (S1 : zS) => r = ((zth S 0) 22 3) ∧ S1 = zth S 0) := by
  refine zMi_of (cc := cX5_complete) (maxL := 1) (ret := (some .int)) (by decide) rfl (Nat.le_of_ble_eq_true rfl) ?_
  intro pg en s mm below meth cd hx hb hr hml hown hts hlk hF hR ls hl
  have hinX5 : ∀ w ∈ wsX50, w ∈ wsX5_complete := by decide +kernel
  have hl : lv_has ls 1 [(0, .ref (ad 0))] := hl
  refine lv_aload_n hx hb dX5_complete_0 rfl (lv_at hl 0 rfl) ?_
  refine lv_iconst (v := (nI (0))) hx hb dX5_complete_1 (by decide) ?_
  refine z_put (own := RX5) (C := RX5) (T := TX5) (N := 27) (k := 0) (ty := .int) hx hb hts hinX5 tyX5 tyX5_ok nmX5 hown hF (hG S) hR (wM_c0 S) rfl (by decide) (by decide +kernel) rfl rfl (by decide +kernel) rfl rfl (Nat.le_of_ble_eq_true rfl) (wM_p4 S (nI (0))) dX5_complete_2 (fun H locs hR => ?_)
  have hR : zR D B (wM cI cZ ad (zth S 0)) s H locs := by rw [show (zth S 0) = (zU S 22 (upd (S 22) 4 (nI (0)))) from rfl]; exact hR
  refine lv_aload_n hx hb dX5_complete_5 rfl (lv_at hl 0 rfl) ?_
  refine z_get (own := RX5) (C := RX5) (T := TX5) (N := 27) (k := 19) (v := .int ((zth S 0) 22 3)) hx hb hts hinX5 hown hF hR (wM_c0 (zth S 0)) rfl (by decide) (by decide +kernel) rfl rfl dX5_complete_6 ?_
  exact z_iret (w := wM cI cZ ad) (S1 := (zth S 0)) hx hb hr hlk hF hR dX5_complete_9 (⟨rfl, rfl⟩)
set_option maxHeartbeats 4000000 in
set_option maxRecDepth 100000 in
theorem c_X5_workerOf_e1 {l : Launch} {D : va_G} {cI cZ : ClassId} {ad : Nat → Nat} {B : Nat → Prop} (hG : ∀ S : zS, va_D B (wM cI cZ ad S)) (S : zS) (x : Int32) (hO : zOK S) (hxb : zbad x 32) : zMi l yX5_workerOf wsX5_workerOf ({ frames := 2, cells := 0, slots := 0, locals := 42 } : Room) [.ref (ad 0), .int (x)] D (zT cI cZ) B (wM cI cZ ad) S (fun (r : Int32) (S1 : zS) => r = (nI (0)) ∧ S1 = zth S 1) := by
  refine zMi_of (cc := cX5_workerOf) (maxL := 2) (ret := (some .int)) (by decide) rfl (Nat.le_of_ble_eq_true rfl) ?_
  intro pg en s mm below meth cd hx hb hr hml hown hts hlk hF hR ls hl
  have hl : lv_has ls 2 [(0, .ref (ad 0)), (1, .int (x))] := hl
  refine lv_aload_n hx hb dX5_workerOf_0 rfl (lv_at hl 0 rfl) ?_
  refine lv_iload_n hx hb dX5_workerOf_1 rfl (lv_at hl 1 rfl) ?_
  refine z_callS_i (As := [.int (x)]) (rest := [.ref (ad 0)]) (w := wM cI cZ ad) ⟨hx, hb, hml, hown, hts⟩ hF hR (c_X5_isKey_bad hG S ((x)) hxb) (va_cwS 1 hts gX5_workerOf_X5_isKey rfl rfl rfl (by decide +kernel) ⟨Nat.le_of_ble_eq_true rfl, Nat.le_of_ble_eq_true rfl⟩) rfl hl rfl (Nat.le_of_ble_eq_true rfl) (by decide) dX5_workerOf_2 (fun r1 S1 H locs hp1 hR => ?_)
  obtain ⟨hr1, hs1⟩ := hp1
  subst r1
  subst S1
  refine z_if_eq_n (tgt := 12) hx hb dX5_workerOf_5 (by decide) (by omega) (fun h5_2 => ?_) (fun h5_2 => by omega)
  refine lv_iconst (v := (nI (1))) hx hb dX5_workerOf_12 (by decide) ?_
  refine z_callV_i (As := [.int (nI (1))]) (rest := []) (w := wM cI cZ ad) ⟨hx, hb, hml, hown, hts⟩ hF hR (c_X5_holds_nz hG S 1 (by decide) (by decide)) (cwV 1 hts gX5_workerOf_X5_holds rfl rfl rfl (by decide +kernel) ⟨Nat.le_of_ble_eq_true rfl, Nat.le_of_ble_eq_true rfl⟩) (wM_c0 S) rfl rfl rfl hl rfl (Nat.le_of_ble_eq_true rfl) (by decide) dX5_workerOf_13 (fun r3 S3 H locs hp3 hR => ?_)
  obtain ⟨hr3, hs3⟩ := hp3
  subst r3
  subst S3
  have hO3 := (zOK_th (i := 1) hO)
  refine z_if_eq_n (tgt := 27) hx hb dX5_workerOf_16 (by decide) (by omega) (fun h16_4 => ?_) (fun h16_4 => by omega)
  refine lv_iconst (v := (nI (0))) hx hb dX5_workerOf_27 (by decide) ?_
  exact z_iret (w := wM cI cZ ad) (S1 := (zth S 1)) hx hb hr hlk hF hR dX5_workerOf_28 (⟨rfl, rfl⟩)
set_option maxHeartbeats 4000000 in
set_option maxRecDepth 100000 in
theorem c_X5_workerOf_ok {l : Launch} {D : va_G} {cI cZ : ClassId} {ad : Nat → Nat} {B : Nat → Prop} (hG : ∀ S : zS, va_D B (wM cI cZ ad S)) (S : zS) (key : Nat) (hO : zOK S) (hk : key < 32) : zMi l yX5_workerOf wsX5_workerOf ({ frames := 2, cells := 0, slots := 0, locals := 42 } : Room) [.ref (ad 0), .int (nI (key))] D (zT cI cZ) B (wM cI cZ ad) S (fun (r : Int32) (S1 : zS) => r = (nI (zown (zn (zth S 0) 22 0) key)) ∧ S1 = zth S 0) := by
  refine zMi_of (cc := cX5_workerOf) (maxL := 2) (ret := (some .int)) (by decide) rfl (Nat.le_of_ble_eq_true rfl) ?_
  intro pg en s mm below meth cd hx hb hr hml hown hts hlk hF hR ls hl
  have hl : lv_has ls 2 [(0, .ref (ad 0)), (1, .int (nI (key)))] := hl
  refine lv_aload_n hx hb dX5_workerOf_0 rfl (lv_at hl 0 rfl) ?_
  refine lv_iload_n hx hb dX5_workerOf_1 rfl (lv_at hl 1 rfl) ?_
  refine z_callS_i (As := [.int (nI (key))]) (rest := [.ref (ad 0)]) (w := wM cI cZ ad) ⟨hx, hb, hml, hown, hts⟩ hF hR (c_X5_isKey_ok hG S key (by omega)) (va_cwS 1 hts gX5_workerOf_X5_isKey rfl rfl rfl (by decide +kernel) ⟨Nat.le_of_ble_eq_true rfl, Nat.le_of_ble_eq_true rfl⟩) rfl hl rfl (Nat.le_of_ble_eq_true rfl) (by decide) dX5_workerOf_2 (fun r1 S1 H locs hp1 hR => ?_)
  obtain ⟨hr1, hs1⟩ := hp1
  subst r1
  subst S1
  refine z_if_eq_n (tgt := 12) hx hb dX5_workerOf_5 (by decide) (by omega) (fun h5_2 => by omega) (fun h5_2 => ?_)
  refine lv_iconst (v := (nI (0))) hx hb dX5_workerOf_8 (by decide) ?_
  refine lv_goto (tgt := 13) hx hb dX5_workerOf_9 (by decide) ?_
  refine z_callV_i (As := [.int (nI (0))]) (rest := []) (w := wM cI cZ ad) ⟨hx, hb, hml, hown, hts⟩ hF hR (c_X5_holds_z hG S ) (cwV 1 hts gX5_workerOf_X5_holds rfl rfl rfl (by decide +kernel) ⟨Nat.le_of_ble_eq_true rfl, Nat.le_of_ble_eq_true rfl⟩) (wM_c0 S) rfl rfl rfl hl rfl (Nat.le_of_ble_eq_true rfl) (by decide) dX5_workerOf_13 (fun r3 S3 H locs hp3 hR => ?_)
  obtain ⟨hr3, hs3⟩ := hp3
  subst r3
  subst S3
  have hO3 := (zOK_th (i := 0) hO)
  refine z_if_eq_n (tgt := 27) hx hb dX5_workerOf_16 (by decide) (by omega) (fun h16_4 => by omega) (fun h16_4 => ?_)
  refine lv_aload_n hx hb dX5_workerOf_19 rfl (lv_at hl 0 rfl) ?_
  refine lv_iload_n hx hb dX5_workerOf_20 rfl (lv_at hl 1 rfl) ?_
  refine z_callV_i (As := [.int (nI (key))]) (rest := []) (w := wM cI cZ ad) ⟨hx, hb, hml, hown, hts⟩ hF hR (c_X5_workerOfKey hG (zth S 0) key hO3 (by omega)) (cwV 1 hts gX5_workerOf_X5_workerOfKey rfl rfl rfl (by decide +kernel) ⟨Nat.le_of_ble_eq_true rfl, Nat.le_of_ble_eq_true rfl⟩) (wM_c0 (zth S 0)) rfl rfl rfl hl rfl (Nat.le_of_ble_eq_true rfl) (by decide) dX5_workerOf_21 (fun r5 S5 H locs hp5 hR => ?_)
  obtain ⟨hr5, hs5⟩ := hp5
  subst r5
  subst S5
  refine lv_goto (tgt := 28) hx hb dX5_workerOf_24 (by decide) ?_
  exact z_iret (w := wM cI cZ ad) (S1 := (zth S 0)) hx hb hr hlk hF hR dX5_workerOf_28 (⟨rfl, rfl⟩)
set_option maxHeartbeats 4000000 in
set_option maxRecDepth 100000 in
theorem c_X5_count_e1 {l : Launch} {D : va_G} {cI cZ : ClassId} {ad : Nat → Nat} {B : Nat → Prop} (hG : ∀ S : zS, va_D B (wM cI cZ ad S)) (S : zS) (x : Int32) (hO : zOK S) (hxb : zbad x 32) : zMi l yX5_count wsX5_count ({ frames := 3, cells := 0, slots := 0, locals := 64 } : Room) [.ref (ad 0), .int (x)] D (zT cI cZ) B (wM cI cZ ad) S (fun (r : Int32) (S1 : zS) => r = (nI (0)) ∧ S1 = zth S 1) := by
  refine zMi_of (cc := cX5_count) (maxL := 2) (ret := (some .int)) (by decide) rfl (Nat.le_of_ble_eq_true rfl) ?_
  intro pg en s mm below meth cd hx hb hr hml hown hts hlk hF hR ls hl
  have hinX5 : ∀ w ∈ wsX50, w ∈ wsX5_count := by decide +kernel
  have hl : lv_has ls 2 [(0, .ref (ad 0)), (1, .int (x))] := hl
  refine lv_aload_n hx hb dX5_count_0 rfl (lv_at hl 0 rfl) ?_
  refine lv_aload_n hx hb dX5_count_1 rfl (lv_at hl 0 rfl) ?_
  refine z_get (own := RX5) (C := RX5) (T := TX5) (N := 27) (k := 8) (v := .ref (ad 10)) hx hb hts hinX5 hown hF hR (wM_c0 S) rfl (by decide) (by decide +kernel) rfl rfl dX5_count_2 ?_
  refine lv_iload_n hx hb dX5_count_5 rfl (lv_at hl 1 rfl) ?_
  refine z_callV_i (As := [.ref (ad 10), .int (x)]) (rest := []) (w := wM cI cZ ad) ⟨hx, hb, hml, hown, hts⟩ hF hR (c_X5_ofKey_e9 hG S ((x)) hO hxb) (cwV 2 hts gX5_count_X5_ofKey rfl rfl rfl (by decide +kernel) ⟨Nat.le_of_ble_eq_true rfl, Nat.le_of_ble_eq_true rfl⟩) (wM_c0 S) rfl rfl rfl hl rfl (Nat.le_of_ble_eq_true rfl) (by decide) dX5_count_6 (fun r1 S1 H locs hp1 hR => ?_)
  obtain ⟨hr1, hs1⟩ := hp1
  subst r1
  subst S1
  have hO1 := (zOK_th (i := 1) hO)
  exact z_iret (w := wM cI cZ ad) (S1 := (zth S 1)) hx hb hr hlk hF hR dX5_count_9 (⟨rfl, rfl⟩)
set_option maxHeartbeats 4000000 in
set_option maxRecDepth 100000 in
theorem c_X5_count_ok {l : Launch} {D : va_G} {cI cZ : ClassId} {ad : Nat → Nat} {B : Nat → Prop} (hG : ∀ S : zS, va_D B (wM cI cZ ad S)) (S : zS) (key : Nat) (hO : zOK S) (hk : key < 32) : zMi l yX5_count wsX5_count ({ frames := 3, cells := 0, slots := 0, locals := 64 } : Room) [.ref (ad 0), .int (nI (key))] D (zT cI cZ) B (wM cI cZ ad) S (fun (r : Int32) (S1 : zS) => r = ((zth S 0) 9 key) ∧ S1 = zth S 0) := by
  refine zMi_of (cc := cX5_count) (maxL := 2) (ret := (some .int)) (by decide) rfl (Nat.le_of_ble_eq_true rfl) ?_
  intro pg en s mm below meth cd hx hb hr hml hown hts hlk hF hR ls hl
  have hinX5 : ∀ w ∈ wsX50, w ∈ wsX5_count := by decide +kernel
  have hl : lv_has ls 2 [(0, .ref (ad 0)), (1, .int (nI (key)))] := hl
  refine lv_aload_n hx hb dX5_count_0 rfl (lv_at hl 0 rfl) ?_
  refine lv_aload_n hx hb dX5_count_1 rfl (lv_at hl 0 rfl) ?_
  refine z_get (own := RX5) (C := RX5) (T := TX5) (N := 27) (k := 8) (v := .ref (ad 10)) hx hb hts hinX5 hown hF hR (wM_c0 S) rfl (by decide) (by decide +kernel) rfl rfl dX5_count_2 ?_
  refine lv_iload_n hx hb dX5_count_5 rfl (lv_at hl 1 rfl) ?_
  refine z_callV_i (As := [.ref (ad 10), .int (nI (key))]) (rest := []) (w := wM cI cZ ad) ⟨hx, hb, hml, hown, hts⟩ hF hR (c_X5_ofKey_k9 hG S key hO (by omega)) (cwV 2 hts gX5_count_X5_ofKey rfl rfl rfl (by decide +kernel) ⟨Nat.le_of_ble_eq_true rfl, Nat.le_of_ble_eq_true rfl⟩) (wM_c0 S) rfl rfl rfl hl rfl (Nat.le_of_ble_eq_true rfl) (by decide) dX5_count_6 (fun r1 S1 H locs hp1 hR => ?_)
  obtain ⟨hr1, hs1⟩ := hp1
  subst r1
  subst S1
  have hO1 := (zOK_th (i := 0) hO)
  exact z_iret (w := wM cI cZ ad) (S1 := (zth S 0)) hx hb hr hlk hF hR dX5_count_9 (⟨rfl, rfl⟩)
set_option maxHeartbeats 4000000 in
set_option maxRecDepth 100000 in
theorem c_X5_sum_e1 {l : Launch} {D : va_G} {cI cZ : ClassId} {ad : Nat → Nat} {B : Nat → Prop} (hG : ∀ S : zS, va_D B (wM cI cZ ad S)) (S : zS) (x : Int32) (hO : zOK S) (hxb : zbad x 32) : zMi l yX5_sum wsX5_sum ({ frames := 3, cells := 0, slots := 0, locals := 64 } : Room) [.ref (ad 0), .int (x)] D (zT cI cZ) B (wM cI cZ ad) S (fun (r : Int32) (S1 : zS) => r = (nI (0)) ∧ S1 = zth S 1) := by
  refine zMi_of (cc := cX5_sum) (maxL := 2) (ret := (some .int)) (by decide) rfl (Nat.le_of_ble_eq_true rfl) ?_
  intro pg en s mm below meth cd hx hb hr hml hown hts hlk hF hR ls hl
  have hinX5 : ∀ w ∈ wsX50, w ∈ wsX5_sum := by decide +kernel
  have hl : lv_has ls 2 [(0, .ref (ad 0)), (1, .int (x))] := hl
  refine lv_aload_n hx hb dX5_sum_0 rfl (lv_at hl 0 rfl) ?_
  refine lv_aload_n hx hb dX5_sum_1 rfl (lv_at hl 0 rfl) ?_
  refine z_get (own := RX5) (C := RX5) (T := TX5) (N := 27) (k := 9) (v := .ref (ad 11)) hx hb hts hinX5 hown hF hR (wM_c0 S) rfl (by decide) (by decide +kernel) rfl rfl dX5_sum_2 ?_
  refine lv_iload_n hx hb dX5_sum_5 rfl (lv_at hl 1 rfl) ?_
  refine z_callV_i (As := [.ref (ad 11), .int (x)]) (rest := []) (w := wM cI cZ ad) ⟨hx, hb, hml, hown, hts⟩ hF hR (c_X5_ofKey_e10 hG S ((x)) hO hxb) (cwV 2 hts gX5_sum_X5_ofKey rfl rfl rfl (by decide +kernel) ⟨Nat.le_of_ble_eq_true rfl, Nat.le_of_ble_eq_true rfl⟩) (wM_c0 S) rfl rfl rfl hl rfl (Nat.le_of_ble_eq_true rfl) (by decide) dX5_sum_6 (fun r1 S1 H locs hp1 hR => ?_)
  obtain ⟨hr1, hs1⟩ := hp1
  subst r1
  subst S1
  have hO1 := (zOK_th (i := 1) hO)
  exact z_iret (w := wM cI cZ ad) (S1 := (zth S 1)) hx hb hr hlk hF hR dX5_sum_9 (⟨rfl, rfl⟩)
set_option maxHeartbeats 4000000 in
set_option maxRecDepth 100000 in
theorem c_X5_sum_ok {l : Launch} {D : va_G} {cI cZ : ClassId} {ad : Nat → Nat} {B : Nat → Prop} (hG : ∀ S : zS, va_D B (wM cI cZ ad S)) (S : zS) (key : Nat) (hO : zOK S) (hk : key < 32) : zMi l yX5_sum wsX5_sum ({ frames := 3, cells := 0, slots := 0, locals := 64 } : Room) [.ref (ad 0), .int (nI (key))] D (zT cI cZ) B (wM cI cZ ad) S (fun (r : Int32) (S1 : zS) => r = ((zth S 0) 10 key) ∧ S1 = zth S 0) := by
  refine zMi_of (cc := cX5_sum) (maxL := 2) (ret := (some .int)) (by decide) rfl (Nat.le_of_ble_eq_true rfl) ?_
  intro pg en s mm below meth cd hx hb hr hml hown hts hlk hF hR ls hl
  have hinX5 : ∀ w ∈ wsX50, w ∈ wsX5_sum := by decide +kernel
  have hl : lv_has ls 2 [(0, .ref (ad 0)), (1, .int (nI (key)))] := hl
  refine lv_aload_n hx hb dX5_sum_0 rfl (lv_at hl 0 rfl) ?_
  refine lv_aload_n hx hb dX5_sum_1 rfl (lv_at hl 0 rfl) ?_
  refine z_get (own := RX5) (C := RX5) (T := TX5) (N := 27) (k := 9) (v := .ref (ad 11)) hx hb hts hinX5 hown hF hR (wM_c0 S) rfl (by decide) (by decide +kernel) rfl rfl dX5_sum_2 ?_
  refine lv_iload_n hx hb dX5_sum_5 rfl (lv_at hl 1 rfl) ?_
  refine z_callV_i (As := [.ref (ad 11), .int (nI (key))]) (rest := []) (w := wM cI cZ ad) ⟨hx, hb, hml, hown, hts⟩ hF hR (c_X5_ofKey_k10 hG S key hO (by omega)) (cwV 2 hts gX5_sum_X5_ofKey rfl rfl rfl (by decide +kernel) ⟨Nat.le_of_ble_eq_true rfl, Nat.le_of_ble_eq_true rfl⟩) (wM_c0 S) rfl rfl rfl hl rfl (Nat.le_of_ble_eq_true rfl) (by decide) dX5_sum_6 (fun r1 S1 H locs hp1 hR => ?_)
  obtain ⟨hr1, hs1⟩ := hp1
  subst r1
  subst S1
  have hO1 := (zOK_th (i := 0) hO)
  exact z_iret (w := wM cI cZ ad) (S1 := (zth S 0)) hx hb hr hlk hF hR dX5_sum_9 (⟨rfl, rfl⟩)
set_option maxHeartbeats 4000000 in
set_option maxRecDepth 100000 in
theorem c_X5_keptSum_e1 {l : Launch} {D : va_G} {cI cZ : ClassId} {ad : Nat → Nat} {B : Nat → Prop} (hG : ∀ S : zS, va_D B (wM cI cZ ad S)) (S : zS) (x : Int32) (hO : zOK S) (hxb : zbad x 32) : zMi l yX5_keptSum wsX5_keptSum ({ frames := 3, cells := 0, slots := 0, locals := 64 } : Room) [.ref (ad 0), .int (x)] D (zT cI cZ) B (wM cI cZ ad) S (fun (r : Int32) (S1 : zS) => r = (nI (0)) ∧ S1 = zth S 1) := by
  refine zMi_of (cc := cX5_keptSum) (maxL := 2) (ret := (some .int)) (by decide) rfl (Nat.le_of_ble_eq_true rfl) ?_
  intro pg en s mm below meth cd hx hb hr hml hown hts hlk hF hR ls hl
  have hinX5 : ∀ w ∈ wsX50, w ∈ wsX5_keptSum := by decide +kernel
  have hl : lv_has ls 2 [(0, .ref (ad 0)), (1, .int (x))] := hl
  refine lv_aload_n hx hb dX5_keptSum_0 rfl (lv_at hl 0 rfl) ?_
  refine lv_aload_n hx hb dX5_keptSum_1 rfl (lv_at hl 0 rfl) ?_
  refine z_get (own := RX5) (C := RX5) (T := TX5) (N := 27) (k := 26) (v := .ref (ad 19)) hx hb hts hinX5 hown hF hR (wM_c0 S) rfl (by decide) (by decide +kernel) rfl rfl dX5_keptSum_2 ?_
  refine lv_iload_n hx hb dX5_keptSum_5 rfl (lv_at hl 1 rfl) ?_
  refine z_callV_i (As := [.ref (ad 19), .int (x)]) (rest := []) (w := wM cI cZ ad) ⟨hx, hb, hml, hown, hts⟩ hF hR (c_X5_ofKey_e18 hG S ((x)) hO hxb) (cwV 2 hts gX5_keptSum_X5_ofKey rfl rfl rfl (by decide +kernel) ⟨Nat.le_of_ble_eq_true rfl, Nat.le_of_ble_eq_true rfl⟩) (wM_c0 S) rfl rfl rfl hl rfl (Nat.le_of_ble_eq_true rfl) (by decide) dX5_keptSum_6 (fun r1 S1 H locs hp1 hR => ?_)
  obtain ⟨hr1, hs1⟩ := hp1
  subst r1
  subst S1
  have hO1 := (zOK_th (i := 1) hO)
  exact z_iret (w := wM cI cZ ad) (S1 := (zth S 1)) hx hb hr hlk hF hR dX5_keptSum_9 (⟨rfl, rfl⟩)
set_option maxHeartbeats 4000000 in
set_option maxRecDepth 100000 in
theorem c_X5_keptSum_ok {l : Launch} {D : va_G} {cI cZ : ClassId} {ad : Nat → Nat} {B : Nat → Prop} (hG : ∀ S : zS, va_D B (wM cI cZ ad S)) (S : zS) (key : Nat) (hO : zOK S) (hk : key < 32) : zMi l yX5_keptSum wsX5_keptSum ({ frames := 3, cells := 0, slots := 0, locals := 64 } : Room) [.ref (ad 0), .int (nI (key))] D (zT cI cZ) B (wM cI cZ ad) S (fun (r : Int32) (S1 : zS) => r = ((zth S 0) 18 key) ∧ S1 = zth S 0) := by
  refine zMi_of (cc := cX5_keptSum) (maxL := 2) (ret := (some .int)) (by decide) rfl (Nat.le_of_ble_eq_true rfl) ?_
  intro pg en s mm below meth cd hx hb hr hml hown hts hlk hF hR ls hl
  have hinX5 : ∀ w ∈ wsX50, w ∈ wsX5_keptSum := by decide +kernel
  have hl : lv_has ls 2 [(0, .ref (ad 0)), (1, .int (nI (key)))] := hl
  refine lv_aload_n hx hb dX5_keptSum_0 rfl (lv_at hl 0 rfl) ?_
  refine lv_aload_n hx hb dX5_keptSum_1 rfl (lv_at hl 0 rfl) ?_
  refine z_get (own := RX5) (C := RX5) (T := TX5) (N := 27) (k := 26) (v := .ref (ad 19)) hx hb hts hinX5 hown hF hR (wM_c0 S) rfl (by decide) (by decide +kernel) rfl rfl dX5_keptSum_2 ?_
  refine lv_iload_n hx hb dX5_keptSum_5 rfl (lv_at hl 1 rfl) ?_
  refine z_callV_i (As := [.ref (ad 19), .int (nI (key))]) (rest := []) (w := wM cI cZ ad) ⟨hx, hb, hml, hown, hts⟩ hF hR (c_X5_ofKey_k18 hG S key hO (by omega)) (cwV 2 hts gX5_keptSum_X5_ofKey rfl rfl rfl (by decide +kernel) ⟨Nat.le_of_ble_eq_true rfl, Nat.le_of_ble_eq_true rfl⟩) (wM_c0 S) rfl rfl rfl hl rfl (Nat.le_of_ble_eq_true rfl) (by decide) dX5_keptSum_6 (fun r1 S1 H locs hp1 hR => ?_)
  obtain ⟨hr1, hs1⟩ := hp1
  subst r1
  subst S1
  have hO1 := (zOK_th (i := 0) hO)
  exact z_iret (w := wM cI cZ ad) (S1 := (zth S 0)) hx hb hr hlk hF hR dX5_keptSum_9 (⟨rfl, rfl⟩)
set_option maxHeartbeats 4000000 in
set_option maxRecDepth 100000 in
theorem c_X5_committedCount_e1 {l : Launch} {D : va_G} {cI cZ : ClassId} {ad : Nat → Nat} {B : Nat → Prop} (hG : ∀ S : zS, va_D B (wM cI cZ ad S)) (S : zS) (x : Int32) (hO : zOK S) (hxb : zbad x 32) : zMi l yX5_committedCount wsX5_committedCount ({ frames := 3, cells := 0, slots := 0, locals := 64 } : Room) [.ref (ad 0), .int (x)] D (zT cI cZ) B (wM cI cZ ad) S (fun (r : Int32) (S1 : zS) => r = (nI (0)) ∧ S1 = zth S 1) := by
  refine zMi_of (cc := cX5_committedCount) (maxL := 2) (ret := (some .int)) (by decide) rfl (Nat.le_of_ble_eq_true rfl) ?_
  intro pg en s mm below meth cd hx hb hr hml hown hts hlk hF hR ls hl
  have hinX5 : ∀ w ∈ wsX50, w ∈ wsX5_committedCount := by decide +kernel
  have hl : lv_has ls 2 [(0, .ref (ad 0)), (1, .int (x))] := hl
  refine lv_aload_n hx hb dX5_committedCount_0 rfl (lv_at hl 0 rfl) ?_
  refine lv_aload_n hx hb dX5_committedCount_1 rfl (lv_at hl 0 rfl) ?_
  refine z_get (own := RX5) (C := RX5) (T := TX5) (N := 27) (k := 15) (v := .ref (ad 20)) hx hb hts hinX5 hown hF hR (wM_c0 S) rfl (by decide) (by decide +kernel) rfl rfl dX5_committedCount_2 ?_
  refine lv_iload_n hx hb dX5_committedCount_5 rfl (lv_at hl 1 rfl) ?_
  refine z_callV_i (As := [.ref (ad 20), .int (x)]) (rest := []) (w := wM cI cZ ad) ⟨hx, hb, hml, hown, hts⟩ hF hR (c_X5_ofKey_e19 hG S ((x)) hO hxb) (cwV 2 hts gX5_committedCount_X5_ofKey rfl rfl rfl (by decide +kernel) ⟨Nat.le_of_ble_eq_true rfl, Nat.le_of_ble_eq_true rfl⟩) (wM_c0 S) rfl rfl rfl hl rfl (Nat.le_of_ble_eq_true rfl) (by decide) dX5_committedCount_6 (fun r1 S1 H locs hp1 hR => ?_)
  obtain ⟨hr1, hs1⟩ := hp1
  subst r1
  subst S1
  have hO1 := (zOK_th (i := 1) hO)
  exact z_iret (w := wM cI cZ ad) (S1 := (zth S 1)) hx hb hr hlk hF hR dX5_committedCount_9 (⟨rfl, rfl⟩)
set_option maxHeartbeats 4000000 in
set_option maxRecDepth 100000 in
theorem c_X5_committedCount_ok {l : Launch} {D : va_G} {cI cZ : ClassId} {ad : Nat → Nat} {B : Nat → Prop} (hG : ∀ S : zS, va_D B (wM cI cZ ad S)) (S : zS) (key : Nat) (hO : zOK S) (hk : key < 32) : zMi l yX5_committedCount wsX5_committedCount ({ frames := 3, cells := 0, slots := 0, locals := 64 } : Room) [.ref (ad 0), .int (nI (key))] D (zT cI cZ) B (wM cI cZ ad) S (fun (r : Int32) (S1 : zS) => r = ((zth S 0) 19 key) ∧ S1 = zth S 0) := by
  refine zMi_of (cc := cX5_committedCount) (maxL := 2) (ret := (some .int)) (by decide) rfl (Nat.le_of_ble_eq_true rfl) ?_
  intro pg en s mm below meth cd hx hb hr hml hown hts hlk hF hR ls hl
  have hinX5 : ∀ w ∈ wsX50, w ∈ wsX5_committedCount := by decide +kernel
  have hl : lv_has ls 2 [(0, .ref (ad 0)), (1, .int (nI (key)))] := hl
  refine lv_aload_n hx hb dX5_committedCount_0 rfl (lv_at hl 0 rfl) ?_
  refine lv_aload_n hx hb dX5_committedCount_1 rfl (lv_at hl 0 rfl) ?_
  refine z_get (own := RX5) (C := RX5) (T := TX5) (N := 27) (k := 15) (v := .ref (ad 20)) hx hb hts hinX5 hown hF hR (wM_c0 S) rfl (by decide) (by decide +kernel) rfl rfl dX5_committedCount_2 ?_
  refine lv_iload_n hx hb dX5_committedCount_5 rfl (lv_at hl 1 rfl) ?_
  refine z_callV_i (As := [.ref (ad 20), .int (nI (key))]) (rest := []) (w := wM cI cZ ad) ⟨hx, hb, hml, hown, hts⟩ hF hR (c_X5_ofKey_k19 hG S key hO (by omega)) (cwV 2 hts gX5_committedCount_X5_ofKey rfl rfl rfl (by decide +kernel) ⟨Nat.le_of_ble_eq_true rfl, Nat.le_of_ble_eq_true rfl⟩) (wM_c0 S) rfl rfl rfl hl rfl (Nat.le_of_ble_eq_true rfl) (by decide) dX5_committedCount_6 (fun r1 S1 H locs hp1 hR => ?_)
  obtain ⟨hr1, hs1⟩ := hp1
  subst r1
  subst S1
  have hO1 := (zOK_th (i := 0) hO)
  exact z_iret (w := wM cI cZ ad) (S1 := (zth S 0)) hx hb hr hlk hF hR dX5_committedCount_9 (⟨rfl, rfl⟩)
set_option maxHeartbeats 4000000 in
set_option maxRecDepth 100000 in
theorem c_X5_committedSum_e1 {l : Launch} {D : va_G} {cI cZ : ClassId} {ad : Nat → Nat} {B : Nat → Prop} (hG : ∀ S : zS, va_D B (wM cI cZ ad S)) (S : zS) (x : Int32) (hO : zOK S) (hxb : zbad x 32) : zMi l yX5_committedSum wsX5_committedSum ({ frames := 3, cells := 0, slots := 0, locals := 64 } : Room) [.ref (ad 0), .int (x)] D (zT cI cZ) B (wM cI cZ ad) S (fun (r : Int32) (S1 : zS) => r = (nI (0)) ∧ S1 = zth S 1) := by
  refine zMi_of (cc := cX5_committedSum) (maxL := 2) (ret := (some .int)) (by decide) rfl (Nat.le_of_ble_eq_true rfl) ?_
  intro pg en s mm below meth cd hx hb hr hml hown hts hlk hF hR ls hl
  have hinX5 : ∀ w ∈ wsX50, w ∈ wsX5_committedSum := by decide +kernel
  have hl : lv_has ls 2 [(0, .ref (ad 0)), (1, .int (x))] := hl
  refine lv_aload_n hx hb dX5_committedSum_0 rfl (lv_at hl 0 rfl) ?_
  refine lv_aload_n hx hb dX5_committedSum_1 rfl (lv_at hl 0 rfl) ?_
  refine z_get (own := RX5) (C := RX5) (T := TX5) (N := 27) (k := 16) (v := .ref (ad 21)) hx hb hts hinX5 hown hF hR (wM_c0 S) rfl (by decide) (by decide +kernel) rfl rfl dX5_committedSum_2 ?_
  refine lv_iload_n hx hb dX5_committedSum_5 rfl (lv_at hl 1 rfl) ?_
  refine z_callV_i (As := [.ref (ad 21), .int (x)]) (rest := []) (w := wM cI cZ ad) ⟨hx, hb, hml, hown, hts⟩ hF hR (c_X5_ofKey_e20 hG S ((x)) hO hxb) (cwV 2 hts gX5_committedSum_X5_ofKey rfl rfl rfl (by decide +kernel) ⟨Nat.le_of_ble_eq_true rfl, Nat.le_of_ble_eq_true rfl⟩) (wM_c0 S) rfl rfl rfl hl rfl (Nat.le_of_ble_eq_true rfl) (by decide) dX5_committedSum_6 (fun r1 S1 H locs hp1 hR => ?_)
  obtain ⟨hr1, hs1⟩ := hp1
  subst r1
  subst S1
  have hO1 := (zOK_th (i := 1) hO)
  exact z_iret (w := wM cI cZ ad) (S1 := (zth S 1)) hx hb hr hlk hF hR dX5_committedSum_9 (⟨rfl, rfl⟩)
set_option maxHeartbeats 4000000 in
set_option maxRecDepth 100000 in
theorem c_X5_committedSum_ok {l : Launch} {D : va_G} {cI cZ : ClassId} {ad : Nat → Nat} {B : Nat → Prop} (hG : ∀ S : zS, va_D B (wM cI cZ ad S)) (S : zS) (key : Nat) (hO : zOK S) (hk : key < 32) : zMi l yX5_committedSum wsX5_committedSum ({ frames := 3, cells := 0, slots := 0, locals := 64 } : Room) [.ref (ad 0), .int (nI (key))] D (zT cI cZ) B (wM cI cZ ad) S (fun (r : Int32) (S1 : zS) => r = ((zth S 0) 20 key) ∧ S1 = zth S 0) := by
  refine zMi_of (cc := cX5_committedSum) (maxL := 2) (ret := (some .int)) (by decide) rfl (Nat.le_of_ble_eq_true rfl) ?_
  intro pg en s mm below meth cd hx hb hr hml hown hts hlk hF hR ls hl
  have hinX5 : ∀ w ∈ wsX50, w ∈ wsX5_committedSum := by decide +kernel
  have hl : lv_has ls 2 [(0, .ref (ad 0)), (1, .int (nI (key)))] := hl
  refine lv_aload_n hx hb dX5_committedSum_0 rfl (lv_at hl 0 rfl) ?_
  refine lv_aload_n hx hb dX5_committedSum_1 rfl (lv_at hl 0 rfl) ?_
  refine z_get (own := RX5) (C := RX5) (T := TX5) (N := 27) (k := 16) (v := .ref (ad 21)) hx hb hts hinX5 hown hF hR (wM_c0 S) rfl (by decide) (by decide +kernel) rfl rfl dX5_committedSum_2 ?_
  refine lv_iload_n hx hb dX5_committedSum_5 rfl (lv_at hl 1 rfl) ?_
  refine z_callV_i (As := [.ref (ad 21), .int (nI (key))]) (rest := []) (w := wM cI cZ ad) ⟨hx, hb, hml, hown, hts⟩ hF hR (c_X5_ofKey_k20 hG S key hO (by omega)) (cwV 2 hts gX5_committedSum_X5_ofKey rfl rfl rfl (by decide +kernel) ⟨Nat.le_of_ble_eq_true rfl, Nat.le_of_ble_eq_true rfl⟩) (wM_c0 S) rfl rfl rfl hl rfl (Nat.le_of_ble_eq_true rfl) (by decide) dX5_committedSum_6 (fun r1 S1 H locs hp1 hR => ?_)
  obtain ⟨hr1, hs1⟩ := hp1
  subst r1
  subst S1
  have hO1 := (zOK_th (i := 0) hO)
  exact z_iret (w := wM cI cZ ad) (S1 := (zth S 0)) hx hb hr hlk hF hR dX5_committedSum_9 (⟨rfl, rfl⟩)
set_option maxHeartbeats 4000000 in
set_option maxRecDepth 100000 in
theorem c_X5_sealed_e1 {l : Launch} {D : va_G} {cI cZ : ClassId} {ad : Nat → Nat} {B : Nat → Prop} (hG : ∀ S : zS, va_D B (wM cI cZ ad S)) (S : zS) (x : Int32) (hO : zOK S) (hxb : zbad x (zn S 22 0)) : zMi l yX5_sealed wsX5_sealed ({ frames := 2, cells := 0, slots := 0, locals := 43 } : Room) [.ref (ad 0), .int (x)] D (zT cI cZ) B (wM cI cZ ad) S (fun (r : Int32) (S1 : zS) => r = (nI (0)) ∧ S1 = zth S 1) := by
  refine zMi_of (cc := cX5_sealed) (maxL := 2) (ret := (some .int)) (by decide) rfl (Nat.le_of_ble_eq_true rfl) ?_
  intro pg en s mm below meth cd hx hb hr hml hown hts hlk hF hR ls hl
  have hinX5 : ∀ w ∈ wsX50, w ∈ wsX5_sealed := by decide +kernel
  have hl : lv_has ls 2 [(0, .ref (ad 0)), (1, .int (x))] := hl
  refine lv_aload_n hx hb dX5_sealed_0 rfl (lv_at hl 0 rfl) ?_
  refine lv_aload_n hx hb dX5_sealed_1 rfl (lv_at hl 0 rfl) ?_
  refine lv_iload_n hx hb dX5_sealed_2 rfl (lv_at hl 1 rfl) ?_
  refine z_callV_i (As := [.int (x)]) (rest := [.ref (ad 0)]) (w := wM cI cZ ad) ⟨hx, hb, hml, hown, hts⟩ hF hR (c_X5_isWorker_bad hG S ((x)) hO hxb) (cwV 1 hts gX5_sealed_X5_isWorker rfl rfl rfl (by decide +kernel) ⟨Nat.le_of_ble_eq_true rfl, Nat.le_of_ble_eq_true rfl⟩) (wM_c0 S) rfl rfl rfl hl rfl (Nat.le_of_ble_eq_true rfl) (by decide) dX5_sealed_3 (fun r1 S1 H locs hp1 hR => ?_)
  obtain ⟨hr1, hs1⟩ := hp1
  subst r1
  subst S1
  refine z_if_eq_n (tgt := 13) hx hb dX5_sealed_6 (by decide) (by omega) (fun h6_2 => ?_) (fun h6_2 => by omega)
  refine lv_iconst (v := (nI (1))) hx hb dX5_sealed_13 (by decide) ?_
  refine z_callV_i (As := [.int (nI (1))]) (rest := []) (w := wM cI cZ ad) ⟨hx, hb, hml, hown, hts⟩ hF hR (c_X5_holds_nz hG S 1 (by decide) (by decide)) (cwV 1 hts gX5_sealed_X5_holds rfl rfl rfl (by decide +kernel) ⟨Nat.le_of_ble_eq_true rfl, Nat.le_of_ble_eq_true rfl⟩) (wM_c0 S) rfl rfl rfl hl rfl (Nat.le_of_ble_eq_true rfl) (by decide) dX5_sealed_14 (fun r3 S3 H locs hp3 hR => ?_)
  obtain ⟨hr3, hs3⟩ := hp3
  subst r3
  subst S3
  have hO3 := (zOK_th (i := 1) hO)
  refine z_if_eq_n (tgt := 29) hx hb dX5_sealed_17 (by decide) (by omega) (fun h17_4 => ?_) (fun h17_4 => by omega)
  refine lv_iconst (v := (nI (0))) hx hb dX5_sealed_29 (by decide) ?_
  exact z_iret (w := wM cI cZ ad) (S1 := (zth S 1)) hx hb hr hlk hF hR dX5_sealed_30 (⟨rfl, rfl⟩)
set_option maxHeartbeats 4000000 in
set_option maxRecDepth 100000 in
theorem c_X5_sealed_ok {l : Launch} {D : va_G} {cI cZ : ClassId} {ad : Nat → Nat} {B : Nat → Prop} (hG : ∀ S : zS, va_D B (wM cI cZ ad S)) (S : zS) (w : Nat) (hO : zOK S) (hw : w < zn S 22 0) : zMi l yX5_sealed wsX5_sealed ({ frames := 2, cells := 0, slots := 0, locals := 43 } : Room) [.ref (ad 0), .int (nI (w))] D (zT cI cZ) B (wM cI cZ ad) S (fun (r : Int32) (S1 : zS) => r = ((zth S 0) 21 w) ∧ S1 = zth S 0) := by
  refine zMi_of (cc := cX5_sealed) (maxL := 2) (ret := (some .int)) (by decide) rfl (Nat.le_of_ble_eq_true rfl) ?_
  intro pg en s mm below meth cd hx hb hr hml hown hts hlk hF hR ls hl
  have hinX5 : ∀ w ∈ wsX50, w ∈ wsX5_sealed := by decide +kernel
  have hl : lv_has ls 2 [(0, .ref (ad 0)), (1, .int (nI (w)))] := hl
  have hW1 := (zOK.w hO).2.1
  have hW4 := (zOK.w hO).2.2
  refine lv_aload_n hx hb dX5_sealed_0 rfl (lv_at hl 0 rfl) ?_
  refine lv_aload_n hx hb dX5_sealed_1 rfl (lv_at hl 0 rfl) ?_
  refine lv_iload_n hx hb dX5_sealed_2 rfl (lv_at hl 1 rfl) ?_
  refine z_callV_i (As := [.int (nI (w))]) (rest := [.ref (ad 0)]) (w := wM cI cZ ad) ⟨hx, hb, hml, hown, hts⟩ hF hR (c_X5_isWorker_ok hG S w hO (by omega)) (cwV 1 hts gX5_sealed_X5_isWorker rfl rfl rfl (by decide +kernel) ⟨Nat.le_of_ble_eq_true rfl, Nat.le_of_ble_eq_true rfl⟩) (wM_c0 S) rfl rfl rfl hl rfl (Nat.le_of_ble_eq_true rfl) (by decide) dX5_sealed_3 (fun r1 S1 H locs hp1 hR => ?_)
  obtain ⟨hr1, hs1⟩ := hp1
  subst r1
  subst S1
  refine z_if_eq_n (tgt := 13) hx hb dX5_sealed_6 (by decide) (by omega) (fun h6_2 => by omega) (fun h6_2 => ?_)
  refine lv_iconst (v := (nI (0))) hx hb dX5_sealed_9 (by decide) ?_
  refine lv_goto (tgt := 14) hx hb dX5_sealed_10 (by decide) ?_
  refine z_callV_i (As := [.int (nI (0))]) (rest := []) (w := wM cI cZ ad) ⟨hx, hb, hml, hown, hts⟩ hF hR (c_X5_holds_z hG S ) (cwV 1 hts gX5_sealed_X5_holds rfl rfl rfl (by decide +kernel) ⟨Nat.le_of_ble_eq_true rfl, Nat.le_of_ble_eq_true rfl⟩) (wM_c0 S) rfl rfl rfl hl rfl (Nat.le_of_ble_eq_true rfl) (by decide) dX5_sealed_14 (fun r3 S3 H locs hp3 hR => ?_)
  obtain ⟨hr3, hs3⟩ := hp3
  subst r3
  subst S3
  have hO3 := (zOK_th (i := 0) hO)
  refine z_if_eq_n (tgt := 29) hx hb dX5_sealed_17 (by decide) (by omega) (fun h17_4 => by omega) (fun h17_4 => ?_)
  refine lv_aload_n hx hb dX5_sealed_20 rfl (lv_at hl 0 rfl) ?_
  refine z_get (own := RX5) (C := RX5) (T := TX5) (N := 27) (k := 14) (v := .ref (ad 22)) hx hb hts hinX5 hown hF hR (wM_c0 (zth S 0)) rfl (by decide) (by decide +kernel) rfl rfl dX5_sealed_21 ?_
  refine lv_iload_n hx hb dX5_sealed_24 rfl (lv_at hl 1 rfl) ?_
  refine z_iald_n (f := (zth S 0) 21) hx hb hF hR (wM_c22 (zth S 0)) zT_0 dX5_sealed_25 (by decide) (by omega) ?_
  refine lv_goto (tgt := 30) hx hb dX5_sealed_26 (by decide) ?_
  exact z_iret (w := wM cI cZ ad) (S1 := (zth S 0)) hx hb hr hlk hF hR dX5_sealed_30 (⟨rfl, rfl⟩)
set_option maxHeartbeats 4000000 in
set_option maxRecDepth 100000 in
theorem c_X5_hasSent_e1 {l : Launch} {D : va_G} {cI cZ : ClassId} {ad : Nat → Nat} {B : Nat → Prop} (hG : ∀ S : zS, va_D B (wM cI cZ ad S)) (S : zS) (x : Int32) (hO : zOK S) (hxb : zbad x 4) : zMi l yX5_hasSent wsX5_hasSent ({ frames := 2, cells := 0, slots := 0, locals := 42 } : Room) [.ref (ad 0), .int (x)] D (zT cI cZ) B (wM cI cZ ad) S (fun (r : Int32) (S1 : zS) => r = (nI (0)) ∧ S1 = zth S 1) := by
  refine zMi_of (cc := cX5_hasSent) (maxL := 2) (ret := (some .boolean)) (by decide) rfl (Nat.le_of_ble_eq_true rfl) ?_
  intro pg en s mm below meth cd hx hb hr hml hown hts hlk hF hR ls hl
  have hinX5 : ∀ w ∈ wsX50, w ∈ wsX5_hasSent := by decide +kernel
  have hl : lv_has ls 2 [(0, .ref (ad 0)), (1, .int (x))] := hl
  refine lv_aload_n hx hb dX5_hasSent_0 rfl (lv_at hl 0 rfl) ?_
  refine lv_iload_n hx hb dX5_hasSent_1 rfl (lv_at hl 1 rfl) ?_
  refine z_callS_i (As := [.int (x)]) (rest := [.ref (ad 0)]) (w := wM cI cZ ad) ⟨hx, hb, hml, hown, hts⟩ hF hR (c_X5_isPartition_bad hG S ((x)) hxb) (va_cwS 1 hts gX5_hasSent_X5_isPartition rfl rfl rfl (by decide +kernel) ⟨Nat.le_of_ble_eq_true rfl, Nat.le_of_ble_eq_true rfl⟩) rfl hl rfl (Nat.le_of_ble_eq_true rfl) (by decide) dX5_hasSent_2 (fun r1 S1 H locs hp1 hR => ?_)
  obtain ⟨hr1, hs1⟩ := hp1
  subst r1
  subst S1
  refine z_if_eq_n (tgt := 12) hx hb dX5_hasSent_5 (by decide) (by omega) (fun h5_2 => ?_) (fun h5_2 => by omega)
  refine lv_iconst (v := (nI (1))) hx hb dX5_hasSent_12 (by decide) ?_
  refine z_callV_i (As := [.int (nI (1))]) (rest := []) (w := wM cI cZ ad) ⟨hx, hb, hml, hown, hts⟩ hF hR (c_X5_holds_nz hG S 1 (by decide) (by decide)) (cwV 1 hts gX5_hasSent_X5_holds rfl rfl rfl (by decide +kernel) ⟨Nat.le_of_ble_eq_true rfl, Nat.le_of_ble_eq_true rfl⟩) (wM_c0 S) rfl rfl rfl hl rfl (Nat.le_of_ble_eq_true rfl) (by decide) dX5_hasSent_13 (fun r3 S3 H locs hp3 hR => ?_)
  obtain ⟨hr3, hs3⟩ := hp3
  subst r3
  subst S3
  have hO3 := (zOK_th (i := 1) hO)
  refine z_if_eq_n (tgt := 40) hx hb dX5_hasSent_16 (by decide) (by omega) (fun h16_4 => ?_) (fun h16_4 => by omega)
  refine lv_iconst (v := (nI (0))) hx hb dX5_hasSent_40 (by decide) ?_
  exact z_zret (w := wM cI cZ ad) (S1 := (zth S 1)) hx hb hr hlk hF hR dX5_hasSent_41 (by decide) (⟨rfl, rfl⟩)
set_option maxHeartbeats 4000000 in
set_option maxRecDepth 100000 in
theorem c_X5_hasSent_ok {l : Launch} {D : va_G} {cI cZ : ClassId} {ad : Nat → Nat} {B : Nat → Prop} (hG : ∀ S : zS, va_D B (wM cI cZ ad S)) (S : zS) (p : Nat) (hO : zOK S) (hp : p < 4) : zMi l yX5_hasSent wsX5_hasSent ({ frames := 2, cells := 0, slots := 0, locals := 42 } : Room) [.ref (ad 0), .int (nI (p))] D (zT cI cZ) B (wM cI cZ ad) S (fun (r : Int32) (S1 : zS) => (((¬ S 22 2 = (-1) ∧ S 4 p = nI 1) ∧ r = nI 1) ∨ (¬ (¬ S 22 2 = (-1) ∧ S 4 p = nI 1) ∧ r = nI 0)) ∧ S1 = zth S 0) := by
  refine zMi_of (cc := cX5_hasSent) (maxL := 2) (ret := (some .boolean)) (by decide) rfl (Nat.le_of_ble_eq_true rfl) ?_
  intro pg en s mm below meth cd hx hb hr hml hown hts hlk hF hR ls hl
  have hinX5 : ∀ w ∈ wsX50, w ∈ wsX5_hasSent := by decide +kernel
  have hl : lv_has ls 2 [(0, .ref (ad 0)), (1, .int (nI (p)))] := hl
  refine lv_aload_n hx hb dX5_hasSent_0 rfl (lv_at hl 0 rfl) ?_
  refine lv_iload_n hx hb dX5_hasSent_1 rfl (lv_at hl 1 rfl) ?_
  refine z_callS_i (As := [.int (nI (p))]) (rest := [.ref (ad 0)]) (w := wM cI cZ ad) ⟨hx, hb, hml, hown, hts⟩ hF hR (c_X5_isPartition_ok hG S p (by omega)) (va_cwS 1 hts gX5_hasSent_X5_isPartition rfl rfl rfl (by decide +kernel) ⟨Nat.le_of_ble_eq_true rfl, Nat.le_of_ble_eq_true rfl⟩) rfl hl rfl (Nat.le_of_ble_eq_true rfl) (by decide) dX5_hasSent_2 (fun r1 S1 H locs hp1 hR => ?_)
  obtain ⟨hr1, hs1⟩ := hp1
  subst r1
  subst S1
  refine z_if_eq_n (tgt := 12) hx hb dX5_hasSent_5 (by decide) (by omega) (fun h5_2 => by omega) (fun h5_2 => ?_)
  refine lv_iconst (v := (nI (0))) hx hb dX5_hasSent_8 (by decide) ?_
  refine lv_goto (tgt := 13) hx hb dX5_hasSent_9 (by decide) ?_
  refine z_callV_i (As := [.int (nI (0))]) (rest := []) (w := wM cI cZ ad) ⟨hx, hb, hml, hown, hts⟩ hF hR (c_X5_holds_z hG S ) (cwV 1 hts gX5_hasSent_X5_holds rfl rfl rfl (by decide +kernel) ⟨Nat.le_of_ble_eq_true rfl, Nat.le_of_ble_eq_true rfl⟩) (wM_c0 S) rfl rfl rfl hl rfl (Nat.le_of_ble_eq_true rfl) (by decide) dX5_hasSent_13 (fun r3 S3 H locs hp3 hR => ?_)
  obtain ⟨hr3, hs3⟩ := hp3
  subst r3
  subst S3
  have hO3 := (zOK_th (i := 0) hO)
  refine z_if_eq_n (tgt := 40) hx hb dX5_hasSent_16 (by decide) (by omega) (fun h16_4 => by omega) (fun h16_4 => ?_)
  refine lv_aload_n hx hb dX5_hasSent_19 rfl (lv_at hl 0 rfl) ?_
  refine z_get (own := RX5) (C := RX5) (T := TX5) (N := 27) (k := 18) (v := .int ((zth S 0) 22 2)) hx hb hts hinX5 hown hF hR (wM_c0 (zth S 0)) rfl (by decide) (by decide +kernel) rfl rfl dX5_hasSent_20 ?_
  refine lv_iconst (v := ((-1))) hx hb dX5_hasSent_23 (by decide) ?_
  refine lv_icmp_eq (tgt := 40) hx hb dX5_hasSent_24 (by decide) (fun h24_5 => ?_) (fun h24_5 => ?_)
  · skip
    have q24 : S 22 2 = (-1) := h24_5
    refine lv_iconst (v := (nI (0))) hx hb dX5_hasSent_40 (by decide) ?_
    exact z_zret (w := wM cI cZ ad) (S1 := (zth S 0)) hx hb hr hlk hF hR dX5_hasSent_41 (by decide) (⟨Or.inr ⟨fun q => by first | exact q.1 q24 | exact absurd (q.2.symm.trans q33) (by decide), rfl⟩, rfl⟩)
  · skip
    have q24 : ¬ S 22 2 = (-1) := h24_5
    refine lv_aload_n hx hb dX5_hasSent_27 rfl (lv_at hl 0 rfl) ?_
    refine z_get (own := RX5) (C := RX5) (T := TX5) (N := 27) (k := 20) (v := .ref (ad 5)) hx hb hts hinX5 hown hF hR (wM_c0 (zth S 0)) rfl (by decide) (by decide +kernel) rfl rfl dX5_hasSent_28 ?_
    refine lv_iload_n hx hb dX5_hasSent_31 rfl (lv_at hl 1 rfl) ?_
    refine z_zald_n (f := (zth S 0) 4) hx hb hF hR (wM_c5 (zth S 0)) zT_1 dX5_hasSent_32 (by decide) (by omega) ?_
    refine lv_if_eq (tgt := 40) hx hb dX5_hasSent_33 (by decide) (fun h33_6 => ?_) (fun h33_6 => ?_)
    · skip
      have q33 : S 4 p = 0 := h33_6
      refine lv_iconst (v := (nI (0))) hx hb dX5_hasSent_40 (by decide) ?_
      exact z_zret (w := wM cI cZ ad) (S1 := (zth S 0)) hx hb hr hlk hF hR dX5_hasSent_41 (by decide) (⟨Or.inr ⟨fun q => by first | exact q.1 q24 | exact absurd (q.2.symm.trans q33) (by decide), rfl⟩, rfl⟩)
    · skip
      have q33 : ¬ S 4 p = 0 := h33_6
      refine lv_iconst (v := (nI (1))) hx hb dX5_hasSent_36 (by decide) ?_
      refine lv_goto (tgt := 41) hx hb dX5_hasSent_37 (by decide) ?_
      exact z_zret (w := wM cI cZ ad) (S1 := (zth S 0)) hx hb hr hlk hF hR dX5_hasSent_41 (by decide) (⟨Or.inl ⟨⟨q24, (zOK.b4 hO p).elim (fun q => absurd (q.trans nI_0) q33) id⟩, rfl⟩, rfl⟩)
set_option maxHeartbeats 4000000 in
set_option maxRecDepth 100000 in
theorem c_X5_groupsOf_e1 {l : Launch} {D : va_G} {cI cZ : ClassId} {ad : Nat → Nat} {B : Nat → Prop} (hG : ∀ S : zS, va_D B (wM cI cZ ad S)) (S : zS) (x : Int32) (hO : zOK S) (hxb : zbad x (zn S 22 0)) : zMi l yX5_groupsOf wsX5_groupsOf ({ frames := 2, cells := 0, slots := 0, locals := 43 } : Room) [.ref (ad 0), .int (x)] D (zT cI cZ) B (wM cI cZ ad) S (fun (r : Int32) (S1 : zS) => r = (nI (0)) ∧ S1 = zth S 1) := by
  refine zMi_of (cc := cX5_groupsOf) (maxL := 4) (ret := (some .int)) (by decide) rfl (Nat.le_of_ble_eq_true rfl) ?_
  intro pg en s mm below meth cd hx hb hr hml hown hts hlk hF hR ls hl
  have hinX5 : ∀ w ∈ wsX50, w ∈ wsX5_groupsOf := by decide +kernel
  have hl : lv_has ls 4 [(0, .ref (ad 0)), (1, .int (x))] := hl
  refine lv_aload_n hx hb dX5_groupsOf_0 rfl (lv_at hl 0 rfl) ?_
  refine lv_aload_n hx hb dX5_groupsOf_1 rfl (lv_at hl 0 rfl) ?_
  refine lv_iload_n hx hb dX5_groupsOf_2 rfl (lv_at hl 1 rfl) ?_
  refine z_callV_i (As := [.int (x)]) (rest := [.ref (ad 0)]) (w := wM cI cZ ad) ⟨hx, hb, hml, hown, hts⟩ hF hR (c_X5_isWorker_bad hG S ((x)) hO hxb) (cwV 1 hts gX5_groupsOf_X5_isWorker rfl rfl rfl (by decide +kernel) ⟨Nat.le_of_ble_eq_true rfl, Nat.le_of_ble_eq_true rfl⟩) (wM_c0 S) rfl rfl rfl hl rfl (Nat.le_of_ble_eq_true rfl) (by decide) dX5_groupsOf_3 (fun r1 S1 H locs hp1 hR => ?_)
  obtain ⟨hr1, hs1⟩ := hp1
  subst r1
  subst S1
  refine z_if_eq_n (tgt := 13) hx hb dX5_groupsOf_6 (by decide) (by omega) (fun h6_2 => ?_) (fun h6_2 => by omega)
  refine lv_iconst (v := (nI (1))) hx hb dX5_groupsOf_13 (by decide) ?_
  refine z_callV_i (As := [.int (nI (1))]) (rest := []) (w := wM cI cZ ad) ⟨hx, hb, hml, hown, hts⟩ hF hR (c_X5_holds_nz hG S 1 (by decide) (by decide)) (cwV 1 hts gX5_groupsOf_X5_holds rfl rfl rfl (by decide +kernel) ⟨Nat.le_of_ble_eq_true rfl, Nat.le_of_ble_eq_true rfl⟩) (wM_c0 S) rfl rfl rfl hl rfl (Nat.le_of_ble_eq_true rfl) (by decide) dX5_groupsOf_14 (fun r3 S3 H locs hp3 hR => ?_)
  obtain ⟨hr3, hs3⟩ := hp3
  subst r3
  subst S3
  have hO3 := (zOK_th (i := 1) hO)
  refine z_if_ne_n (tgt := 22) hx hb dX5_groupsOf_17 (by decide) (by omega) (fun h17_4 => by omega) (fun h17_4 => ?_)
  refine lv_iconst (v := (nI (0))) hx hb dX5_groupsOf_20 (by decide) ?_
  exact z_iret (w := wM cI cZ ad) (S1 := (zth S 1)) hx hb hr hlk hF hR dX5_groupsOf_21 (⟨rfl, rfl⟩)
set_option maxHeartbeats 4000000 in
set_option maxRecDepth 100000 in
theorem c_X5_groupsOf_ok {l : Launch} {D : va_G} {cI cZ : ClassId} {ad : Nat → Nat} {B : Nat → Prop} (hG : ∀ S : zS, va_D B (wM cI cZ ad S)) (S : zS) (w : Nat) (hO : zOK S) (hw : w < zn S 22 0) : zMi l yX5_groupsOf wsX5_groupsOf ({ frames := 2, cells := 0, slots := 0, locals := 43 } : Room) [.ref (ad 0), .int (nI (w))] D (zT cI cZ) B (wM cI cZ ad) S (fun (r : Int32) (S1 : zS) => r = (nI (mo_gs (zn S 22 0) w 8)) ∧ S1 = zth S 0) := by
  refine zMi_of (cc := cX5_groupsOf) (maxL := 4) (ret := (some .int)) (by decide) rfl (Nat.le_of_ble_eq_true rfl) ?_
  intro pg en s mm below meth cd hx hb hr hml hown hts hlk hF hR ls hl
  have hinX5 : ∀ w ∈ wsX50, w ∈ wsX5_groupsOf := by decide +kernel
  have hl : lv_has ls 4 [(0, .ref (ad 0)), (1, .int (nI (w)))] := hl
  have hW1 := (zOK.w hO).2.1
  have hW4 := (zOK.w hO).2.2
  refine lv_aload_n hx hb dX5_groupsOf_0 rfl (lv_at hl 0 rfl) ?_
  refine lv_aload_n hx hb dX5_groupsOf_1 rfl (lv_at hl 0 rfl) ?_
  refine lv_iload_n hx hb dX5_groupsOf_2 rfl (lv_at hl 1 rfl) ?_
  refine z_callV_i (As := [.int (nI (w))]) (rest := [.ref (ad 0)]) (w := wM cI cZ ad) ⟨hx, hb, hml, hown, hts⟩ hF hR (c_X5_isWorker_ok hG S w hO (by omega)) (cwV 1 hts gX5_groupsOf_X5_isWorker rfl rfl rfl (by decide +kernel) ⟨Nat.le_of_ble_eq_true rfl, Nat.le_of_ble_eq_true rfl⟩) (wM_c0 S) rfl rfl rfl hl rfl (Nat.le_of_ble_eq_true rfl) (by decide) dX5_groupsOf_3 (fun r1 S1 H locs hp1 hR => ?_)
  obtain ⟨hr1, hs1⟩ := hp1
  subst r1
  subst S1
  refine z_if_eq_n (tgt := 13) hx hb dX5_groupsOf_6 (by decide) (by omega) (fun h6_2 => by omega) (fun h6_2 => ?_)
  refine lv_iconst (v := (nI (0))) hx hb dX5_groupsOf_9 (by decide) ?_
  refine lv_goto (tgt := 14) hx hb dX5_groupsOf_10 (by decide) ?_
  refine z_callV_i (As := [.int (nI (0))]) (rest := []) (w := wM cI cZ ad) ⟨hx, hb, hml, hown, hts⟩ hF hR (c_X5_holds_z hG S ) (cwV 1 hts gX5_groupsOf_X5_holds rfl rfl rfl (by decide +kernel) ⟨Nat.le_of_ble_eq_true rfl, Nat.le_of_ble_eq_true rfl⟩) (wM_c0 S) rfl rfl rfl hl rfl (Nat.le_of_ble_eq_true rfl) (by decide) dX5_groupsOf_14 (fun r3 S3 H locs hp3 hR => ?_)
  obtain ⟨hr3, hs3⟩ := hp3
  subst r3
  subst S3
  have hO3 := (zOK_th (i := 0) hO)
  have hO2 := zOK_th (i := 0) hO
  refine z_if_ne_n (tgt := 22) hx hb dX5_groupsOf_17 (by decide) (by omega) (fun h17_4 => ?_) (fun h17_4 => by omega)
  refine lv_iconst (v := (nI (0))) hx hb dX5_groupsOf_22 (by decide) ?_
  refine lv_istore_n (lv' := [(2, .int (nI (0))), (0, .ref (ad 0)), (1, .int (nI (w)))]) hx hb dX5_groupsOf_23 rfl hl (by decide) rfl (fun ls hl => ?_)
  refine lv_bipush (v := (nI (7))) hx hb dX5_groupsOf_24 (by decide) ?_
  refine lv_istore_n (lv' := [(3, .int (nI (7))), (2, .int (nI (0))), (0, .ref (ad 0)), (1, .int (nI (w)))]) hx hb dX5_groupsOf_26 rfl hl (by decide) rfl (fun ls hl => ?_)
  have loop27 : ∀ (nf27 : Nat) (t : Nat), (t ≤ 8) → 8 - t < nf27 → ∀ (H : Heap) (locs : List Loc), zR D B (wM cI cZ ad (zth S 0)) s H locs → ∀ ls : Array Slot, lv_has ls 4 [(0, .ref (ad 0)), (1, .int (nI (w))), (2, .int (nI (mo_gs (zn S 22 0) w t))), (3, .int (zdn (8 - t)))] → W pg l en ({ frames := 2, cells := 0, slots := 0, locals := 43 } : Room) s mm ([.ref (ad 0), .int (nI (w))] : List Value).toArray below meth cd H locs 0 0 (MQ below (va_Qi (fun (r : Int32) (S1 : zS) => r = (nI (mo_gs (zn S 22 0) w 8)) ∧ S1 = zth S 0) (zB D (zT cI cZ) (wM cI cZ ad)) (zA B s.heap.size)) ([.ref (ad 0), .int (nI (w))] : List Value).toArray s 0 0 (zA B s.heap.size)) (F0 mm 27 ls []) := by
    intro nf27
    induction nf27 with
    | zero => intro t ht hn; exact absurd hn (Nat.not_lt_zero _)
    | succ nf27 ih27 =>
      intro t ht hn H locs hR ls hl
      have hgs := mo_gs_le (zn S 22 0) w t
      refine lv_iload_n hx hb dX5_groupsOf_27 rfl (lv_at hl 3 rfl) ?_
      refine lv_if_lt (tgt := 65) hx hb dX5_groupsOf_28 (by decide) (fun h28_5 => ?_) (fun h28_5 => ?_)
      · skip
        have q28 := zdn_lt (by omega) h28_5
        refine lv_iload_n hx hb dX5_groupsOf_65 rfl (lv_at hl 2 rfl) ?_
        exact z_iret (w := wM cI cZ ad) (S1 := (zth S 0)) hx hb hr hlk hF hR dX5_groupsOf_66 (⟨by rw [show t = 8 from by omega], rfl⟩)
      · skip
        have q28 := zdn_nlt h28_5
        have hl : lv_has ls 4 [(0, .ref (ad 0)), (1, .int (nI (w))), (2, .int (nI (mo_gs (zn S 22 0) w t))), (3, .int (nI (7 - t)))] := (by rw [show nI (7 - t) = zdn (8 - t) from by rw [zdn_p q28]; exact congrArg nI (by omega)]; exact hl)
        refine lv_iload_n hx hb dX5_groupsOf_31 rfl (lv_at hl 3 rfl) ?_
        refine lv_aload_n hx hb dX5_groupsOf_32 rfl (lv_at hl 0 rfl) ?_
        refine z_get (own := RX5) (C := RX5) (T := TX5) (N := 27) (k := 1) (v := .int ((zth S 0) 22 0)) hx hb hts hinX5 hown hF hR (wM_c0 (zth S 0)) rfl (by decide) (by decide +kernel) rfl rfl dX5_groupsOf_33 ?_
        refine lv_topi (fun v6 ev6 => ?_)
        obtain rfl : v6 = (nI (zn S 22 0)) := ev6.trans (zOK.w hO2).1
        refine z_callS_i (As := [.int (nI (7 - t)), .int (nI (zn S 22 0))]) (rest := []) (w := wM cI cZ ad) ⟨hx, hb, hml, hown, hts⟩ hF hR (c_X5_workerOfGroup hG (zth S 0) (7 - t) (zn S 22 0) (by omega) (by omega)) (va_cwS 2 hts gX5_groupsOf_X5_workerOfGroup rfl rfl rfl (by decide +kernel) ⟨Nat.le_of_ble_eq_true rfl, Nat.le_of_ble_eq_true rfl⟩) rfl hl rfl (Nat.le_of_ble_eq_true rfl) (by decide) dX5_groupsOf_36 (fun r7 S7 H locs hp7 hR => ?_)
        obtain ⟨hr7, hs7⟩ := hp7
        subst r7
        subst S7
        refine lv_iload_n hx hb dX5_groupsOf_39 rfl (lv_at hl 1 rfl) ?_
        refine z_ne_n (tgt := 57) hx hb dX5_groupsOf_40 (by decide) (by have := Nat.mul_le_mul (show 7 - t ≤ 7 by omega) (show zn S 22 0 ≤ 4 by omega); omega) (by omega) (fun h40_8 => ?_) (fun h40_8 => ?_)
        · skip
          have q40 := h40_8
          refine lv_iload_n hx hb dX5_groupsOf_57 rfl (lv_at hl 2 rfl) ?_
          refine lv_istore_n (lv' := [(2, .int (nI (mo_gs (zn S 22 0) w t))), (0, .ref (ad 0)), (1, .int (nI (w))), (3, .int (nI (7 - t)))]) hx hb dX5_groupsOf_58 rfl hl (by decide) rfl (fun ls hl => ?_)
          have hl : lv_has ls 4 [(2, .int (nI (mo_gs (zn S 22 0) w (t + 1)))), (0, .ref (ad 0)), (1, .int (nI (w))), (3, .int (nI (7 - t)))] := (by rw [show mo_gs (zn S 22 0) w (t + 1) = if (7 - t) * zn S 22 0 / 8 = w then 10 * (7 - t) + mo_gs (zn S 22 0) w t % 10 + 1 else mo_gs (zn S 22 0) w t from rfl]; first | (rw [if_pos q40]; exact hl) | (rw [if_neg q40]; exact hl))
          refine lv_iinc (v := (zdn (8 - (t + 1)))) (lv' := [(3, .int (zdn (8 - (t + 1)))), (2, .int (nI (mo_gs (zn S 22 0) w (t + 1)))), (0, .ref (ad 0)), (1, .int (nI (w)))]) hx hb dX5_groupsOf_59 hl (k := 3) rfl (zdn_d (by omega)) (by decide) rfl (fun ls hl => ?_)
          refine lv_goto (tgt := 27) hx hb dX5_groupsOf_62 (by decide) ?_
          exact ih27 (t + 1) (by omega) (by omega) _ _ hR ls (lv_sub hl [2, 3, 1, 0] rfl)
        · skip
          have q40 := h40_8
          refine lv_bipush (v := (nI (10))) hx hb dX5_groupsOf_43 (by decide) ?_
          refine lv_iload_n hx hb dX5_groupsOf_45 rfl (lv_at hl 3 rfl) ?_
          refine z_imul_n hx hb dX5_groupsOf_46 ?_
          refine lv_iload_n hx hb dX5_groupsOf_47 rfl (lv_at hl 2 rfl) ?_
          refine lv_bipush (v := (nI (10))) hx hb dX5_groupsOf_48 (by decide) ?_
          refine z_irem_n hx hb dX5_groupsOf_50 (by omega) (by omega) (by omega) ?_
          refine z_iadd_n hx hb dX5_groupsOf_51 ?_
          refine lv_iconst (v := (nI (1))) hx hb dX5_groupsOf_52 (by decide) ?_
          refine z_iadd_n hx hb dX5_groupsOf_53 ?_
          refine lv_goto (tgt := 58) hx hb dX5_groupsOf_54 (by decide) ?_
          refine lv_istore_n (lv' := [(2, .int (nI (((10 * (7 - t)) + ((mo_gs (zn S 22 0) w t) % 10)) + 1))), (0, .ref (ad 0)), (1, .int (nI (w))), (3, .int (nI (7 - t)))]) hx hb dX5_groupsOf_58 rfl hl (by decide) rfl (fun ls hl => ?_)
          have hl : lv_has ls 4 [(2, .int (nI (mo_gs (zn S 22 0) w (t + 1)))), (0, .ref (ad 0)), (1, .int (nI (w))), (3, .int (nI (7 - t)))] := (by rw [show mo_gs (zn S 22 0) w (t + 1) = if (7 - t) * zn S 22 0 / 8 = w then 10 * (7 - t) + mo_gs (zn S 22 0) w t % 10 + 1 else mo_gs (zn S 22 0) w t from rfl]; first | (rw [if_pos q40]; exact hl) | (rw [if_neg q40]; exact hl))
          refine lv_iinc (v := (zdn (8 - (t + 1)))) (lv' := [(3, .int (zdn (8 - (t + 1)))), (2, .int (nI (mo_gs (zn S 22 0) w (t + 1)))), (0, .ref (ad 0)), (1, .int (nI (w)))]) hx hb dX5_groupsOf_59 hl (k := 3) rfl (zdn_d (by omega)) (by decide) rfl (fun ls hl => ?_)
          refine lv_goto (tgt := 27) hx hb dX5_groupsOf_62 (by decide) ?_
          exact ih27 (t + 1) (by omega) (by omega) _ _ hR ls (lv_sub hl [2, 3, 1, 0] rfl)
  exact loop27 _ 0 (by omega) (Nat.lt_succ_self _) _ _ hR ls (lv_sub hl [2, 3, 1, 0] rfl)
set_option maxHeartbeats 4000000 in
set_option maxRecDepth 100000 in
theorem c_X5_open_e1 {l : Launch} {D : va_G} {cI cZ : ClassId} {ad : Nat → Nat} {B : Nat → Prop} (hG : ∀ S : zS, va_D B (wM cI cZ ad S)) (S : zS) (x : Int32) (hO : zOK S) (hxb : zbad x (zn S 22 0)) : zMi l yX5_open wsX5_open ({ frames := 2, cells := 0, slots := 0, locals := 43 } : Room) [.ref (ad 0), .int (x)] D (zT cI cZ) B (wM cI cZ ad) S (fun (r : Int32) (S1 : zS) => r = (nI (0)) ∧ S1 = zth S 1) := by
  refine zMi_of (cc := cX5_open) (maxL := 4) (ret := (some .int)) (by decide) rfl (Nat.le_of_ble_eq_true rfl) ?_
  intro pg en s mm below meth cd hx hb hr hml hown hts hlk hF hR ls hl
  have hinX5 : ∀ w ∈ wsX50, w ∈ wsX5_open := by decide +kernel
  have hl : lv_has ls 4 [(0, .ref (ad 0)), (1, .int (x))] := hl
  refine lv_aload_n hx hb dX5_open_0 rfl (lv_at hl 0 rfl) ?_
  refine lv_aload_n hx hb dX5_open_1 rfl (lv_at hl 0 rfl) ?_
  refine lv_iload_n hx hb dX5_open_2 rfl (lv_at hl 1 rfl) ?_
  refine z_callV_i (As := [.int (x)]) (rest := [.ref (ad 0)]) (w := wM cI cZ ad) ⟨hx, hb, hml, hown, hts⟩ hF hR (c_X5_isWorker_bad hG S ((x)) hO hxb) (cwV 1 hts gX5_open_X5_isWorker rfl rfl rfl (by decide +kernel) ⟨Nat.le_of_ble_eq_true rfl, Nat.le_of_ble_eq_true rfl⟩) (wM_c0 S) rfl rfl rfl hl rfl (Nat.le_of_ble_eq_true rfl) (by decide) dX5_open_3 (fun r1 S1 H locs hp1 hR => ?_)
  obtain ⟨hr1, hs1⟩ := hp1
  subst r1
  subst S1
  refine z_if_eq_n (tgt := 13) hx hb dX5_open_6 (by decide) (by omega) (fun h6_2 => ?_) (fun h6_2 => by omega)
  refine lv_iconst (v := (nI (1))) hx hb dX5_open_13 (by decide) ?_
  refine z_callV_i (As := [.int (nI (1))]) (rest := []) (w := wM cI cZ ad) ⟨hx, hb, hml, hown, hts⟩ hF hR (c_X5_holds_nz hG S 1 (by decide) (by decide)) (cwV 1 hts gX5_open_X5_holds rfl rfl rfl (by decide +kernel) ⟨Nat.le_of_ble_eq_true rfl, Nat.le_of_ble_eq_true rfl⟩) (wM_c0 S) rfl rfl rfl hl rfl (Nat.le_of_ble_eq_true rfl) (by decide) dX5_open_14 (fun r3 S3 H locs hp3 hR => ?_)
  obtain ⟨hr3, hs3⟩ := hp3
  subst r3
  subst S3
  have hO3 := (zOK_th (i := 1) hO)
  refine z_if_ne_n (tgt := 22) hx hb dX5_open_17 (by decide) (by omega) (fun h17_4 => by omega) (fun h17_4 => ?_)
  refine lv_iconst (v := (nI (0))) hx hb dX5_open_20 (by decide) ?_
  exact z_iret (w := wM cI cZ ad) (S1 := (zth S 1)) hx hb hr hlk hF hR dX5_open_21 (⟨rfl, rfl⟩)
set_option maxHeartbeats 4000000 in
set_option maxRecDepth 100000 in
theorem c_X5_open_ok {l : Launch} {D : va_G} {cI cZ : ClassId} {ad : Nat → Nat} {B : Nat → Prop} (hG : ∀ S : zS, va_D B (wM cI cZ ad S)) (S : zS) (w : Nat) (hO : zOK S) (hw : w < zn S 22 0) : zMi l yX5_open wsX5_open ({ frames := 2, cells := 0, slots := 0, locals := 43 } : Room) [.ref (ad 0), .int (nI (w))] D (zT cI cZ) B (wM cI cZ ad) S (fun (r : Int32) (S1 : zS) => r = (mo_op (zth S 0) w 32) ∧ S1 = zth S 0) := by
  refine zMi_of (cc := cX5_open) (maxL := 4) (ret := (some .int)) (by decide) rfl (Nat.le_of_ble_eq_true rfl) ?_
  intro pg en s mm below meth cd hx hb hr hml hown hts hlk hF hR ls hl
  have hinX5 : ∀ w ∈ wsX50, w ∈ wsX5_open := by decide +kernel
  have hl : lv_has ls 4 [(0, .ref (ad 0)), (1, .int (nI (w)))] := hl
  have hW1 := (zOK.w hO).2.1
  have hW4 := (zOK.w hO).2.2
  refine lv_aload_n hx hb dX5_open_0 rfl (lv_at hl 0 rfl) ?_
  refine lv_aload_n hx hb dX5_open_1 rfl (lv_at hl 0 rfl) ?_
  refine lv_iload_n hx hb dX5_open_2 rfl (lv_at hl 1 rfl) ?_
  refine z_callV_i (As := [.int (nI (w))]) (rest := [.ref (ad 0)]) (w := wM cI cZ ad) ⟨hx, hb, hml, hown, hts⟩ hF hR (c_X5_isWorker_ok hG S w hO (by omega)) (cwV 1 hts gX5_open_X5_isWorker rfl rfl rfl (by decide +kernel) ⟨Nat.le_of_ble_eq_true rfl, Nat.le_of_ble_eq_true rfl⟩) (wM_c0 S) rfl rfl rfl hl rfl (Nat.le_of_ble_eq_true rfl) (by decide) dX5_open_3 (fun r1 S1 H locs hp1 hR => ?_)
  obtain ⟨hr1, hs1⟩ := hp1
  subst r1
  subst S1
  refine z_if_eq_n (tgt := 13) hx hb dX5_open_6 (by decide) (by omega) (fun h6_2 => by omega) (fun h6_2 => ?_)
  refine lv_iconst (v := (nI (0))) hx hb dX5_open_9 (by decide) ?_
  refine lv_goto (tgt := 14) hx hb dX5_open_10 (by decide) ?_
  refine z_callV_i (As := [.int (nI (0))]) (rest := []) (w := wM cI cZ ad) ⟨hx, hb, hml, hown, hts⟩ hF hR (c_X5_holds_z hG S ) (cwV 1 hts gX5_open_X5_holds rfl rfl rfl (by decide +kernel) ⟨Nat.le_of_ble_eq_true rfl, Nat.le_of_ble_eq_true rfl⟩) (wM_c0 S) rfl rfl rfl hl rfl (Nat.le_of_ble_eq_true rfl) (by decide) dX5_open_14 (fun r3 S3 H locs hp3 hR => ?_)
  obtain ⟨hr3, hs3⟩ := hp3
  subst r3
  subst S3
  have hO3 := (zOK_th (i := 0) hO)
  have hO2 := zOK_th (i := 0) hO
  refine z_if_ne_n (tgt := 22) hx hb dX5_open_17 (by decide) (by omega) (fun h17_4 => ?_) (fun h17_4 => by omega)
  refine lv_iconst (v := (nI (0))) hx hb dX5_open_22 (by decide) ?_
  refine lv_istore_n (lv' := [(2, .int (nI (0))), (0, .ref (ad 0)), (1, .int (nI (w)))]) hx hb dX5_open_23 rfl hl (by decide) rfl (fun ls hl => ?_)
  refine lv_iconst (v := (nI (0))) hx hb dX5_open_24 (by decide) ?_
  refine lv_istore_n (lv' := [(3, .int (nI (0))), (2, .int (nI (0))), (0, .ref (ad 0)), (1, .int (nI (w)))]) hx hb dX5_open_25 rfl hl (by decide) rfl (fun ls hl => ?_)
  have loop26 : ∀ (nf26 : Nat) (k : Nat), (k ≤ 32) → 32 - k < nf26 → ∀ (H : Heap) (locs : List Loc), zR D B (wM cI cZ ad (zth S 0)) s H locs → ∀ ls : Array Slot, lv_has ls 4 [(0, .ref (ad 0)), (1, .int (nI (w))), (2, .int (mo_op (zth S 0) w k)), (3, .int (nI (k)))] → W pg l en ({ frames := 2, cells := 0, slots := 0, locals := 43 } : Room) s mm ([.ref (ad 0), .int (nI (w))] : List Value).toArray below meth cd H locs 0 0 (MQ below (va_Qi (fun (r : Int32) (S1 : zS) => r = (mo_op (zth S 0) w 32) ∧ S1 = zth S 0) (zB D (zT cI cZ) (wM cI cZ ad)) (zA B s.heap.size)) ([.ref (ad 0), .int (nI (w))] : List Value).toArray s 0 0 (zA B s.heap.size)) (F0 mm 26 ls []) := by
    intro nf26
    induction nf26 with
    | zero => intro k hk4 hn; exact absurd hn (Nat.not_lt_zero _)
    | succ nf26 ih26 =>
      intro k hk4 hn H locs hR ls hl
      refine lv_iload_n hx hb dX5_open_26 rfl (lv_at hl 3 rfl) ?_
      refine lv_bipush (v := (nI (32))) hx hb dX5_open_27 (by decide) ?_
      refine z_ge_n (tgt := 60) hx hb dX5_open_29 (by decide) (by omega) (by omega) (fun h29_5 => ?_) (fun h29_5 => ?_)
      · skip
        refine lv_iload_n hx hb dX5_open_60 rfl (lv_at hl 2 rfl) ?_
        exact z_iret (w := wM cI cZ ad) (S1 := (zth S 0)) hx hb hr hlk hF hR dX5_open_61 (⟨by rw [show (32 : Nat) = k from by omega], rfl⟩)
      · skip
        refine lv_iload_n hx hb dX5_open_32 rfl (lv_at hl 2 rfl) ?_
        refine lv_aload_n hx hb dX5_open_33 rfl (lv_at hl 0 rfl) ?_
        refine lv_iload_n hx hb dX5_open_34 rfl (lv_at hl 3 rfl) ?_
        refine z_callV_i (As := [.int (nI (k))]) (rest := [.int (mo_op (zth S 0) w k)]) (w := wM cI cZ ad) ⟨hx, hb, hml, hown, hts⟩ hF hR (c_X5_workerOfKey hG (zth S 0) k hO2 (by omega)) (cwV 1 hts gX5_open_X5_workerOfKey rfl rfl rfl (by decide +kernel) ⟨Nat.le_of_ble_eq_true rfl, Nat.le_of_ble_eq_true rfl⟩) (wM_c0 (zth S 0)) rfl rfl rfl hl rfl (Nat.le_of_ble_eq_true rfl) (by decide) dX5_open_35 (fun r6 S6 H locs hp6 hR => ?_)
        obtain ⟨hr6, hs6⟩ := hp6
        subst r6
        subst S6
        have hb35 := (hO2.own k).2
        refine lv_iload_n hx hb dX5_open_38 rfl (lv_at hl 1 rfl) ?_
        refine z_ne_n (tgt := 51) hx hb dX5_open_39 (by decide) (by omega) (by omega) (fun h39_7 => ?_) (fun h39_7 => ?_)
        · skip
          have q39 := h39_7
          refine lv_iconst (v := (nI (0))) hx hb dX5_open_51 (by decide) ?_
          refine lv_iadd hx hb dX5_open_52 ?_
          refine lv_istore_n (lv' := [(2, .int ((mo_op (zth S 0) w k) + (nI (0)))), (0, .ref (ad 0)), (1, .int (nI (w))), (3, .int (nI (k)))]) hx hb dX5_open_53 rfl hl (by decide) rfl (fun ls hl => ?_)
          have hl : lv_has ls 4 [(2, .int (mo_op (zth S 0) w (k + 1))), (0, .ref (ad 0)), (1, .int (nI (w))), (3, .int (nI (k)))] := (by rw [show mo_op (zth S 0) w (k + 1) = mo_op (zth S 0) w k + (if zown (zn (zth S 0) 22 0) k = w then (zth S 0) 11 k else nI 0) from rfl]; first | (rw [if_pos q39]; exact hl) | (rw [if_neg q39]; exact hl))
          refine lv_iinc (v := (nI (k + 1))) (lv' := [(3, .int (nI (k + 1))), (2, .int (mo_op (zth S 0) w (k + 1))), (0, .ref (ad 0)), (1, .int (nI (w)))]) hx hb dX5_open_54 hl (k := 3) rfl (z_inc _) (by decide) rfl (fun ls hl => ?_)
          refine lv_goto (tgt := 26) hx hb dX5_open_57 (by decide) ?_
          exact ih26 (k + 1) (by omega) (by omega) _ _ hR ls (lv_sub hl [2, 3, 1, 0] rfl)
        · skip
          have q39 := h39_7
          refine lv_aload_n hx hb dX5_open_42 rfl (lv_at hl 0 rfl) ?_
          refine z_get (own := RX5) (C := RX5) (T := TX5) (N := 27) (k := 10) (v := .ref (ad 12)) hx hb hts hinX5 hown hF hR (wM_c0 (zth S 0)) rfl (by decide) (by decide +kernel) rfl rfl dX5_open_43 ?_
          refine lv_iload_n hx hb dX5_open_46 rfl (lv_at hl 3 rfl) ?_
          refine z_iald_n (f := (zth S 0) 11) hx hb hF hR (wM_c12 (zth S 0)) zT_0 dX5_open_47 (by decide) (by omega) ?_
          refine lv_goto (tgt := 52) hx hb dX5_open_48 (by decide) ?_
          refine lv_iadd hx hb dX5_open_52 ?_
          refine lv_istore_n (lv' := [(2, .int ((mo_op (zth S 0) w k) + ((zth S 0) 11 (k)))), (0, .ref (ad 0)), (1, .int (nI (w))), (3, .int (nI (k)))]) hx hb dX5_open_53 rfl hl (by decide) rfl (fun ls hl => ?_)
          have hl : lv_has ls 4 [(2, .int (mo_op (zth S 0) w (k + 1))), (0, .ref (ad 0)), (1, .int (nI (w))), (3, .int (nI (k)))] := (by rw [show mo_op (zth S 0) w (k + 1) = mo_op (zth S 0) w k + (if zown (zn (zth S 0) 22 0) k = w then (zth S 0) 11 k else nI 0) from rfl]; first | (rw [if_pos q39]; exact hl) | (rw [if_neg q39]; exact hl))
          refine lv_iinc (v := (nI (k + 1))) (lv' := [(3, .int (nI (k + 1))), (2, .int (mo_op (zth S 0) w (k + 1))), (0, .ref (ad 0)), (1, .int (nI (w)))]) hx hb dX5_open_54 hl (k := 3) rfl (z_inc _) (by decide) rfl (fun ls hl => ?_)
          refine lv_goto (tgt := 26) hx hb dX5_open_57 (by decide) ?_
          exact ih26 (k + 1) (by omega) (by omega) _ _ hR ls (lv_sub hl [2, 3, 1, 0] rfl)
  exact loop26 _ 0 (by omega) (Nat.lt_succ_self _) _ _ hR ls (lv_sub hl [2, 3, 1, 0] rfl)
set_option maxHeartbeats 4000000 in
set_option maxRecDepth 100000 in
theorem c_X5_committed {l : Launch} {D : va_G} {cI cZ : ClassId} {ad : Nat → Nat} {B : Nat → Prop} (hG : ∀ S : zS, va_D B (wM cI cZ ad S)) (S : zS) (hO : zOK S) : zMi l yX5_committed wsX5_committed ({ frames := 0, cells := 0, slots := 0, locals := 0 } : Room) [.ref (ad 0)] D (zT cI cZ) B (wM cI cZ ad) S (fun (r : Int32) (S1 : zS) => r = (sp_cm (zth S 0) 32) ∧ S1 = zth S 0) := by
  refine zMi_of (cc := cX5_committed) (maxL := 3) (ret := (some .int)) (by decide) rfl (Nat.le_of_ble_eq_true rfl) ?_
  intro pg en s mm below meth cd hx hb hr hml hown hts hlk hF hR ls hl
  have hinX5 : ∀ w ∈ wsX50, w ∈ wsX5_committed := by decide +kernel
  have hl : lv_has ls 3 [(0, .ref (ad 0))] := hl
  refine lv_aload_n hx hb dX5_committed_0 rfl (lv_at hl 0 rfl) ?_
  refine lv_iconst (v := (nI (0))) hx hb dX5_committed_1 (by decide) ?_
  refine z_put (own := RX5) (C := RX5) (T := TX5) (N := 27) (k := 0) (ty := .int) hx hb hts hinX5 tyX5 tyX5_ok nmX5 hown hF (hG S) hR (wM_c0 S) rfl (by decide) (by decide +kernel) rfl rfl (by decide +kernel) rfl rfl (Nat.le_of_ble_eq_true rfl) (wM_p4 S (nI (0))) dX5_committed_2 (fun H locs hR => ?_)
  have hR : zR D B (wM cI cZ ad (zth S 0)) s H locs := by rw [show (zth S 0) = (zU S 22 (upd (S 22) 4 (nI (0)))) from rfl]; exact hR
  refine lv_iconst (v := (nI (0))) hx hb dX5_committed_5 (by decide) ?_
  refine lv_istore_n (lv' := [(1, .int (nI (0))), (0, .ref (ad 0))]) hx hb dX5_committed_6 rfl hl (by decide) rfl (fun ls hl => ?_)
  refine lv_iconst (v := (nI (0))) hx hb dX5_committed_7 (by decide) ?_
  refine lv_istore_n (lv' := [(2, .int (nI (0))), (1, .int (nI (0))), (0, .ref (ad 0))]) hx hb dX5_committed_8 rfl hl (by decide) rfl (fun ls hl => ?_)
  have loop9 : ∀ (nf9 : Nat) (k : Nat), (k ≤ 32) → 32 - k < nf9 → ∀ (H : Heap) (locs : List Loc), zR D B (wM cI cZ ad (zth S 0)) s H locs → ∀ ls : Array Slot, lv_has ls 3 [(0, .ref (ad 0)), (1, .int (sp_cm (zth S 0) k)), (2, .int (nI (k)))] → W pg l en ({ frames := 0, cells := 0, slots := 0, locals := 0 } : Room) s mm ([.ref (ad 0)] : List Value).toArray below meth cd H locs 0 0 (MQ below (va_Qi (fun (r : Int32) (S1 : zS) => r = (sp_cm (zth S 0) 32) ∧ S1 = zth S 0) (zB D (zT cI cZ) (wM cI cZ ad)) (zA B s.heap.size)) ([.ref (ad 0)] : List Value).toArray s 0 0 (zA B s.heap.size)) (F0 mm 9 ls []) := by
    intro nf9
    induction nf9 with
    | zero => intro k hk4 hn; exact absurd hn (Nat.not_lt_zero _)
    | succ nf9 ih9 =>
      intro k hk4 hn H locs hR ls hl
      refine lv_iload_n hx hb dX5_committed_9 rfl (lv_at hl 2 rfl) ?_
      refine lv_bipush (v := (nI (32))) hx hb dX5_committed_10 (by decide) ?_
      refine z_ge_n (tgt := 30) hx hb dX5_committed_12 (by decide) (by omega) (by omega) (fun h12_1 => ?_) (fun h12_1 => ?_)
      · skip
        refine lv_iload_n hx hb dX5_committed_30 rfl (lv_at hl 1 rfl) ?_
        exact z_iret (w := wM cI cZ ad) (S1 := (zth S 0)) hx hb hr hlk hF hR dX5_committed_31 (⟨by rw [show (32 : Nat) = k from by omega], rfl⟩)
      · skip
        refine lv_iload_n hx hb dX5_committed_15 rfl (lv_at hl 1 rfl) ?_
        refine lv_aload_n hx hb dX5_committed_16 rfl (lv_at hl 0 rfl) ?_
        refine z_get (own := RX5) (C := RX5) (T := TX5) (N := 27) (k := 15) (v := .ref (ad 20)) hx hb hts hinX5 hown hF hR (wM_c0 (zth S 0)) rfl (by decide) (by decide +kernel) rfl rfl dX5_committed_17 ?_
        refine lv_iload_n hx hb dX5_committed_20 rfl (lv_at hl 2 rfl) ?_
        refine z_iald_n (f := (zth S 0) 19) hx hb hF hR (wM_c20 (zth S 0)) zT_0 dX5_committed_21 (by decide) (by omega) ?_
        refine lv_iadd hx hb dX5_committed_22 ?_
        refine lv_istore_n (lv' := [(1, .int ((sp_cm (zth S 0) k) + ((zth S 0) 19 (k)))), (0, .ref (ad 0)), (2, .int (nI (k)))]) hx hb dX5_committed_23 rfl hl (by decide) rfl (fun ls hl => ?_)
        refine lv_iinc (v := (nI (k + 1))) (lv' := [(2, .int (nI (k + 1))), (1, .int ((sp_cm (zth S 0) k) + ((zth S 0) 19 (k)))), (0, .ref (ad 0))]) hx hb dX5_committed_24 hl (k := 2) rfl (z_inc _) (by decide) rfl (fun ls hl => ?_)
        refine lv_goto (tgt := 9) hx hb dX5_committed_27 (by decide) ?_
        exact ih9 (k + 1) (by omega) (by omega) _ _ hR ls (lv_sub hl [2, 1, 0] rfl)
  exact loop9 _ 0 (by omega) (Nat.lt_succ_self _) _ _ hR ls (lv_sub hl [2, 1, 0] rfl)
set_option maxHeartbeats 4000000 in
set_option maxRecDepth 100000 in
theorem c_X5_readSum_e1 {l : Launch} {D : va_G} {cI cZ : ClassId} {ad : Nat → Nat} {B : Nat → Prop} (hG : ∀ S : zS, va_D B (wM cI cZ ad S)) (S : zS) (x : Int32) (hO : zOK S) (hxb : zbad x 32) : zMi l yX5_readSum wsX5_readSum ({ frames := 2, cells := 0, slots := 0, locals := 42 } : Room) [.ref (ad 0), .int (x)] D (zT cI cZ) B (wM cI cZ ad) S (fun (r : Int32) (S1 : zS) => r = (nI (0)) ∧ S1 = zth S 1) := by
  refine zMi_of (cc := cX5_readSum) (maxL := 6) (ret := (some .int)) (by decide) rfl (Nat.le_of_ble_eq_true rfl) ?_
  intro pg en s mm below meth cd hx hb hr hml hown hts hlk hF hR ls hl
  have hinX5 : ∀ w ∈ wsX50, w ∈ wsX5_readSum := by decide +kernel
  have hl : lv_has ls 6 [(0, .ref (ad 0)), (1, .int (x))] := hl
  refine lv_aload_n hx hb dX5_readSum_0 rfl (lv_at hl 0 rfl) ?_
  refine lv_iload_n hx hb dX5_readSum_1 rfl (lv_at hl 1 rfl) ?_
  refine z_callS_i (As := [.int (x)]) (rest := [.ref (ad 0)]) (w := wM cI cZ ad) ⟨hx, hb, hml, hown, hts⟩ hF hR (c_X5_isKey_bad hG S ((x)) hxb) (va_cwS 1 hts gX5_readSum_X5_isKey rfl rfl rfl (by decide +kernel) ⟨Nat.le_of_ble_eq_true rfl, Nat.le_of_ble_eq_true rfl⟩) rfl hl rfl (Nat.le_of_ble_eq_true rfl) (by decide) dX5_readSum_2 (fun r1 S1 H locs hp1 hR => ?_)
  obtain ⟨hr1, hs1⟩ := hp1
  subst r1
  subst S1
  refine z_if_eq_n (tgt := 12) hx hb dX5_readSum_5 (by decide) (by omega) (fun h5_2 => ?_) (fun h5_2 => by omega)
  refine lv_iconst (v := (nI (1))) hx hb dX5_readSum_12 (by decide) ?_
  refine z_callV_i (As := [.int (nI (1))]) (rest := []) (w := wM cI cZ ad) ⟨hx, hb, hml, hown, hts⟩ hF hR (c_X5_holds_nz hG S 1 (by decide) (by decide)) (cwV 1 hts gX5_readSum_X5_holds rfl rfl rfl (by decide +kernel) ⟨Nat.le_of_ble_eq_true rfl, Nat.le_of_ble_eq_true rfl⟩) (wM_c0 S) rfl rfl rfl hl rfl (Nat.le_of_ble_eq_true rfl) (by decide) dX5_readSum_13 (fun r3 S3 H locs hp3 hR => ?_)
  obtain ⟨hr3, hs3⟩ := hp3
  subst r3
  subst S3
  have hO3 := (zOK_th (i := 1) hO)
  refine z_if_ne_n (tgt := 21) hx hb dX5_readSum_16 (by decide) (by omega) (fun h16_4 => by omega) (fun h16_4 => ?_)
  refine lv_iconst (v := (nI (0))) hx hb dX5_readSum_19 (by decide) ?_
  exact z_iret (w := wM cI cZ ad) (S1 := (zth S 1)) hx hb hr hlk hF hR dX5_readSum_20 (⟨rfl, rfl⟩)
set_option maxHeartbeats 4000000 in
set_option maxRecDepth 100000 in
theorem c_X5_readSum_ok {l : Launch} {D : va_G} {cI cZ : ClassId} {ad : Nat → Nat} {B : Nat → Prop} (hG : ∀ S : zS, va_D B (wM cI cZ ad S)) (S : zS) (key : Nat) (hO : zOK S) (hk : key < 32) : zMi l yX5_readSum wsX5_readSum ({ frames := 2, cells := 0, slots := 0, locals := 42 } : Room) [.ref (ad 0), .int (nI (key))] D (zT cI cZ) B (wM cI cZ ad) S (fun (r : Int32) (S1 : zS) => r = (mo_rs (zth S 0) key 4) ∧ S1 = zth S 0) := by
  refine zMi_of (cc := cX5_readSum) (maxL := 6) (ret := (some .int)) (by decide) rfl (Nat.le_of_ble_eq_true rfl) ?_
  intro pg en s mm below meth cd hx hb hr hml hown hts hlk hF hR ls hl
  have hinX5 : ∀ w ∈ wsX50, w ∈ wsX5_readSum := by decide +kernel
  have hl : lv_has ls 6 [(0, .ref (ad 0)), (1, .int (nI (key)))] := hl
  refine lv_aload_n hx hb dX5_readSum_0 rfl (lv_at hl 0 rfl) ?_
  refine lv_iload_n hx hb dX5_readSum_1 rfl (lv_at hl 1 rfl) ?_
  refine z_callS_i (As := [.int (nI (key))]) (rest := [.ref (ad 0)]) (w := wM cI cZ ad) ⟨hx, hb, hml, hown, hts⟩ hF hR (c_X5_isKey_ok hG S key (by omega)) (va_cwS 1 hts gX5_readSum_X5_isKey rfl rfl rfl (by decide +kernel) ⟨Nat.le_of_ble_eq_true rfl, Nat.le_of_ble_eq_true rfl⟩) rfl hl rfl (Nat.le_of_ble_eq_true rfl) (by decide) dX5_readSum_2 (fun r1 S1 H locs hp1 hR => ?_)
  obtain ⟨hr1, hs1⟩ := hp1
  subst r1
  subst S1
  refine z_if_eq_n (tgt := 12) hx hb dX5_readSum_5 (by decide) (by omega) (fun h5_2 => by omega) (fun h5_2 => ?_)
  refine lv_iconst (v := (nI (0))) hx hb dX5_readSum_8 (by decide) ?_
  refine lv_goto (tgt := 13) hx hb dX5_readSum_9 (by decide) ?_
  refine z_callV_i (As := [.int (nI (0))]) (rest := []) (w := wM cI cZ ad) ⟨hx, hb, hml, hown, hts⟩ hF hR (c_X5_holds_z hG S ) (cwV 1 hts gX5_readSum_X5_holds rfl rfl rfl (by decide +kernel) ⟨Nat.le_of_ble_eq_true rfl, Nat.le_of_ble_eq_true rfl⟩) (wM_c0 S) rfl rfl rfl hl rfl (Nat.le_of_ble_eq_true rfl) (by decide) dX5_readSum_13 (fun r3 S3 H locs hp3 hR => ?_)
  obtain ⟨hr3, hs3⟩ := hp3
  subst r3
  subst S3
  have hO3 := (zOK_th (i := 0) hO)
  have hO2 := zOK_th (i := 0) hO
  refine z_if_ne_n (tgt := 21) hx hb dX5_readSum_16 (by decide) (by omega) (fun h16_4 => ?_) (fun h16_4 => by omega)
  refine lv_iconst (v := (nI (0))) hx hb dX5_readSum_21 (by decide) ?_
  refine lv_istore_n (lv' := [(2, .int (nI (0))), (0, .ref (ad 0)), (1, .int (nI (key)))]) hx hb dX5_readSum_22 rfl hl (by decide) rfl (fun ls hl => ?_)
  refine lv_iconst (v := (nI (0))) hx hb dX5_readSum_23 (by decide) ?_
  refine lv_istore_n (lv' := [(3, .int (nI (0))), (2, .int (nI (0))), (0, .ref (ad 0)), (1, .int (nI (key)))]) hx hb dX5_readSum_24 rfl hl (by decide) rfl (fun ls hl => ?_)
  have loop25 : ∀ (nf25 : Nat) (k : Nat), (k ≤ 4) → 4 - k < nf25 → ∀ (H : Heap) (locs : List Loc), zR D B (wM cI cZ ad (zth S 0)) s H locs → ∀ ls : Array Slot, lv_has ls 6 [(0, .ref (ad 0)), (1, .int (nI (key))), (2, .int (mo_rs (zth S 0) key k)), (3, .int (nI (k)))] → W pg l en ({ frames := 2, cells := 0, slots := 0, locals := 42 } : Room) s mm ([.ref (ad 0), .int (nI (key))] : List Value).toArray below meth cd H locs 0 0 (MQ below (va_Qi (fun (r : Int32) (S1 : zS) => r = (mo_rs (zth S 0) key 4) ∧ S1 = zth S 0) (zB D (zT cI cZ) (wM cI cZ ad)) (zA B s.heap.size)) ([.ref (ad 0), .int (nI (key))] : List Value).toArray s 0 0 (zA B s.heap.size)) (F0 mm 25 ls []) := by
    intro nf25
    induction nf25 with
    | zero => intro k hk4 hn; exact absurd hn (Nat.not_lt_zero _)
    | succ nf25 ih25 =>
      intro k hk4 hn H locs hR ls hl
      refine lv_iload_n hx hb dX5_readSum_25 rfl (lv_at hl 3 rfl) ?_
      refine lv_iconst (v := (nI (4))) hx hb dX5_readSum_26 (by decide) ?_
      refine z_ge_n (tgt := 93) hx hb dX5_readSum_27 (by decide) (by omega) (by omega) (fun h27_5 => ?_) (fun h27_5 => ?_)
      · skip
        refine lv_iload_n hx hb dX5_readSum_93 rfl (lv_at hl 2 rfl) ?_
        exact z_iret (w := wM cI cZ ad) (S1 := (zth S 0)) hx hb hr hlk hF hR dX5_readSum_94 (⟨by rw [show (4 : Nat) = k from by omega], rfl⟩)
      · skip
        refine lv_iconst (v := (nI (0))) hx hb dX5_readSum_30 (by decide) ?_
        refine lv_istore (lv' := [(4, .int (nI (0))), (0, .ref (ad 0)), (1, .int (nI (key))), (2, .int (mo_rs (zth S 0) key k)), (3, .int (nI (k)))]) hx hb dX5_readSum_31 hl (by decide) rfl (fun ls hl => ?_)
        have loop33 : ∀ (nf33 : Nat) (o : Nat), (o ≤ zn (zth S 0) 2 k) → zn (zth S 0) 2 k - o < nf33 → ∀ (H : Heap) (locs : List Loc), zR D B (wM cI cZ ad (zth S 0)) s H locs → ∀ ls : Array Slot, lv_has ls 6 [(0, .ref (ad 0)), (1, .int (nI (key))), (2, .int (mo_ek (zth S 0) key k (mo_rs (zth S 0) key k) o)), (3, .int (nI (k))), (4, .int (nI (o)))] → W pg l en ({ frames := 2, cells := 0, slots := 0, locals := 42 } : Room) s mm ([.ref (ad 0), .int (nI (key))] : List Value).toArray below meth cd H locs 0 0 (MQ below (va_Qi (fun (r : Int32) (S1 : zS) => r = (mo_rs (zth S 0) key 4) ∧ S1 = zth S 0) (zB D (zT cI cZ) (wM cI cZ ad)) (zA B s.heap.size)) ([.ref (ad 0), .int (nI (key))] : List Value).toArray s 0 0 (zA B s.heap.size)) (F0 mm 33 ls []) := by
          intro nf33
          induction nf33 with
          | zero => intro o ho hn; exact absurd hn (Nat.not_lt_zero _)
          | succ nf33 ih33 =>
            intro o ho hn H locs hR ls hl
            refine lv_iload hx hb dX5_readSum_33 (lv_at hl 4 rfl) ?_
            refine lv_aload_n hx hb dX5_readSum_35 rfl (lv_at hl 0 rfl) ?_
            refine z_get (own := RX5) (C := RX5) (T := TX5) (N := 27) (k := 3) (v := .ref (ad 3)) hx hb hts hinX5 hown hF hR (wM_c0 (zth S 0)) rfl (by decide) (by decide +kernel) rfl rfl dX5_readSum_36 ?_
            refine lv_iload_n hx hb dX5_readSum_39 rfl (lv_at hl 3 rfl) ?_
            refine z_iald_n (f := (zth S 0) 2) hx hb hF hR (wM_c3 (zth S 0)) zT_0 dX5_readSum_40 (by decide) (by omega) ?_
            refine lv_topi (fun v7 ev7 => ?_)
            obtain rfl : v7 = (nI (zn (zth S 0) 2 (k))) := ev7.trans (zOK.n2 hO2 _).1
            have hb40_6 := (zOK.n2 hO2 (k)).2
            refine z_ge_n (tgt := 87) hx hb dX5_readSum_41 (by decide) (by omega) (by omega) (fun h41_8 => ?_) (fun h41_8 => ?_)
            · skip
              have hl : lv_has ls 6 [(0, .ref (ad 0)), (1, .int (nI (key))), (2, .int (mo_rs (zth S 0) key (k + 1))), (3, .int (nI (k))), (4, .int (nI (o)))] := (by rw [show mo_rs (zth S 0) key (k + 1) = mo_ek (zth S 0) key k (mo_rs (zth S 0) key k) o from by rw [show o = zn (zth S 0) 2 k from by omega]; rfl]; exact hl)
              refine lv_iinc (v := (nI (k + 1))) (lv' := [(3, .int (nI (k + 1))), (0, .ref (ad 0)), (1, .int (nI (key))), (2, .int (mo_rs (zth S 0) key (k + 1))), (4, .int (nI (o)))]) hx hb dX5_readSum_87 hl (k := 3) rfl (z_inc _) (by decide) rfl (fun ls hl => ?_)
              refine lv_goto (tgt := 25) hx hb dX5_readSum_90 (by decide) ?_
              exact ih25 (k + 1) (by omega) (by omega) _ _ hR ls (lv_sub hl [1, 2, 3, 0] rfl)
            · skip
              refine lv_aload_n hx hb dX5_readSum_44 rfl (lv_at hl 0 rfl) ?_
              refine z_get (own := RX5) (C := RX5) (T := TX5) (N := 27) (k := 4) (v := .ref (ad 2)) hx hb hts hinX5 hown hF hR (wM_c0 (zth S 0)) rfl (by decide) (by decide +kernel) rfl rfl dX5_readSum_45 ?_
              refine lv_bipush (v := (nI (60))) hx hb dX5_readSum_48 (by decide) ?_
              refine lv_iload_n hx hb dX5_readSum_50 rfl (lv_at hl 3 rfl) ?_
              refine z_imul_n hx hb dX5_readSum_51 ?_
              refine lv_iload hx hb dX5_readSum_52 (lv_at hl 4 rfl) ?_
              refine z_iadd_n hx hb dX5_readSum_54 ?_
              refine z_iald_n (f := (zth S 0) 1) hx hb hF hR (wM_c2 (zth S 0)) zT_0 dX5_readSum_55 (by decide) (by omega) ?_
              refine lv_topi (fun v10 ev10 => ?_)
              obtain rfl : v10 = (nI (zn (zth S 0) 1 ((60 * k) + o))) := ev10.trans (zOK.n1 hO2 _).1
              have hb55_9 := (zOK.n1 hO2 ((60 * k) + o)).2
              refine lv_istore (lv' := [(5, .int (nI (zn (zth S 0) 1 ((60 * k) + o)))), (0, .ref (ad 0)), (1, .int (nI (key))), (2, .int (mo_ek (zth S 0) key k (mo_rs (zth S 0) key k) o)), (3, .int (nI (k))), (4, .int (nI (o)))]) hx hb dX5_readSum_56 hl (by decide) rfl (fun ls hl => ?_)
              refine lv_iload_n hx hb dX5_readSum_58 rfl (lv_at hl 3 rfl) ?_
              refine lv_iload hx hb dX5_readSum_59 (lv_at hl 0 rfl) ?_
              refine lv_sipush (v := (nI (1000))) hx hb dX5_readSum_61 (by decide) ?_
              refine z_idiv_n hx hb dX5_readSum_64 (by omega) (by omega) (by omega) ?_
              refine lv_iload_n hx hb dX5_readSum_65 rfl (lv_at hl 2 rfl) ?_
              refine z_ne_n (tgt := 78) hx hb dX5_readSum_66 (by decide) (by omega) (by omega) (fun h66_11 => ?_) (fun h66_11 => ?_)
              · skip
                have q66 := h66_11
                refine lv_iconst (v := (nI (0))) hx hb dX5_readSum_78 (by decide) ?_
                refine lv_iadd hx hb dX5_readSum_79 ?_
                refine lv_istore_n (lv' := [(2, .int ((mo_ek (zth S 0) key k (mo_rs (zth S 0) key k) o) + (nI (0)))), (5, .int (nI (zn (zth S 0) 1 ((60 * k) + o)))), (0, .ref (ad 0)), (1, .int (nI (key))), (3, .int (nI (k))), (4, .int (nI (o)))]) hx hb dX5_readSum_80 rfl hl (by decide) rfl (fun ls hl => ?_)
                have hl : lv_has ls 6 [(2, .int (mo_ek (zth S 0) key k (mo_rs (zth S 0) key k) (o + 1))), (5, .int (nI (zn (zth S 0) 1 ((60 * k) + o)))), (0, .ref (ad 0)), (1, .int (nI (key))), (3, .int (nI (k))), (4, .int (nI (o)))] := (by rw [show mo_ek (zth S 0) key k (mo_rs (zth S 0) key k) (o + 1) = mo_ek (zth S 0) key k (mo_rs (zth S 0) key k) o + (if zn (zth S 0) 1 (60 * k + o) / 1000 = key then nI (zn (zth S 0) 1 (60 * k + o) % 1000) else nI 0) from rfl]; first | (rw [if_pos q66]; exact hl) | (rw [if_neg q66]; exact hl))
                refine lv_iinc (v := (nI (o + 1))) (lv' := [(4, .int (nI (o + 1))), (2, .int (mo_ek (zth S 0) key k (mo_rs (zth S 0) key k) (o + 1))), (5, .int (nI (zn (zth S 0) 1 ((60 * k) + o)))), (0, .ref (ad 0)), (1, .int (nI (key))), (3, .int (nI (k)))]) hx hb dX5_readSum_81 hl (k := 5) rfl (z_inc _) (by decide) rfl (fun ls hl => ?_)
                refine lv_goto (tgt := 33) hx hb dX5_readSum_84 (by decide) ?_
                exact ih33 (o + 1) (by omega) (by omega) _ _ hR ls (lv_sub hl [3, 4, 1, 5, 0] rfl)
              · skip
                have q66 := h66_11
                refine lv_iload hx hb dX5_readSum_69 (lv_at hl 0 rfl) ?_
                refine lv_sipush (v := (nI (1000))) hx hb dX5_readSum_71 (by decide) ?_
                refine z_irem_n hx hb dX5_readSum_74 (by omega) (by omega) (by omega) ?_
                refine lv_goto (tgt := 79) hx hb dX5_readSum_75 (by decide) ?_
                refine lv_iadd hx hb dX5_readSum_79 ?_
                refine lv_istore_n (lv' := [(2, .int ((mo_ek (zth S 0) key k (mo_rs (zth S 0) key k) o) + (nI ((zn (zth S 0) 1 ((60 * k) + o)) % 1000)))), (5, .int (nI (zn (zth S 0) 1 ((60 * k) + o)))), (0, .ref (ad 0)), (1, .int (nI (key))), (3, .int (nI (k))), (4, .int (nI (o)))]) hx hb dX5_readSum_80 rfl hl (by decide) rfl (fun ls hl => ?_)
                have hl : lv_has ls 6 [(2, .int (mo_ek (zth S 0) key k (mo_rs (zth S 0) key k) (o + 1))), (5, .int (nI (zn (zth S 0) 1 ((60 * k) + o)))), (0, .ref (ad 0)), (1, .int (nI (key))), (3, .int (nI (k))), (4, .int (nI (o)))] := (by rw [show mo_ek (zth S 0) key k (mo_rs (zth S 0) key k) (o + 1) = mo_ek (zth S 0) key k (mo_rs (zth S 0) key k) o + (if zn (zth S 0) 1 (60 * k + o) / 1000 = key then nI (zn (zth S 0) 1 (60 * k + o) % 1000) else nI 0) from rfl]; first | (rw [if_pos q66]; exact hl) | (rw [if_neg q66]; exact hl))
                refine lv_iinc (v := (nI (o + 1))) (lv' := [(4, .int (nI (o + 1))), (2, .int (mo_ek (zth S 0) key k (mo_rs (zth S 0) key k) (o + 1))), (5, .int (nI (zn (zth S 0) 1 ((60 * k) + o)))), (0, .ref (ad 0)), (1, .int (nI (key))), (3, .int (nI (k)))]) hx hb dX5_readSum_81 hl (k := 5) rfl (z_inc _) (by decide) rfl (fun ls hl => ?_)
                refine lv_goto (tgt := 33) hx hb dX5_readSum_84 (by decide) ?_
                exact ih33 (o + 1) (by omega) (by omega) _ _ hR ls (lv_sub hl [3, 4, 1, 5, 0] rfl)
        exact loop33 _ 0 (by omega) (Nat.lt_succ_self _) _ _ hR ls (lv_sub hl [1, 2, 3, 4, 0] rfl)
  exact loop25 _ 0 (by omega) (Nat.lt_succ_self _) _ _ hR ls (lv_sub hl [2, 3, 1, 0] rfl)
set_option maxHeartbeats 4000000 in
set_option maxRecDepth 100000 in
theorem c_X5_sumInChannels_e1 {l : Launch} {D : va_G} {cI cZ : ClassId} {ad : Nat → Nat} {B : Nat → Prop} (hG : ∀ S : zS, va_D B (wM cI cZ ad S)) (S : zS) (x : Int32) (hO : zOK S) (hxb : zbad x 32) : zMi l yX5_sumInChannels wsX5_sumInChannels ({ frames := 2, cells := 0, slots := 0, locals := 42 } : Room) [.ref (ad 0), .int (x)] D (zT cI cZ) B (wM cI cZ ad) S (fun (r : Int32) (S1 : zS) => r = (nI (0)) ∧ S1 = zth S 1) := by
  refine zMi_of (cc := cX5_sumInChannels) (maxL := 6) (ret := (some .int)) (by decide) rfl (Nat.le_of_ble_eq_true rfl) ?_
  intro pg en s mm below meth cd hx hb hr hml hown hts hlk hF hR ls hl
  have hinX5 : ∀ w ∈ wsX50, w ∈ wsX5_sumInChannels := by decide +kernel
  have hl : lv_has ls 6 [(0, .ref (ad 0)), (1, .int (x))] := hl
  refine lv_aload_n hx hb dX5_sumInChannels_0 rfl (lv_at hl 0 rfl) ?_
  refine lv_iload_n hx hb dX5_sumInChannels_1 rfl (lv_at hl 1 rfl) ?_
  refine z_callS_i (As := [.int (x)]) (rest := [.ref (ad 0)]) (w := wM cI cZ ad) ⟨hx, hb, hml, hown, hts⟩ hF hR (c_X5_isKey_bad hG S ((x)) hxb) (va_cwS 1 hts gX5_sumInChannels_X5_isKey rfl rfl rfl (by decide +kernel) ⟨Nat.le_of_ble_eq_true rfl, Nat.le_of_ble_eq_true rfl⟩) rfl hl rfl (Nat.le_of_ble_eq_true rfl) (by decide) dX5_sumInChannels_2 (fun r1 S1 H locs hp1 hR => ?_)
  obtain ⟨hr1, hs1⟩ := hp1
  subst r1
  subst S1
  refine z_if_eq_n (tgt := 12) hx hb dX5_sumInChannels_5 (by decide) (by omega) (fun h5_2 => ?_) (fun h5_2 => by omega)
  refine lv_iconst (v := (nI (1))) hx hb dX5_sumInChannels_12 (by decide) ?_
  refine z_callV_i (As := [.int (nI (1))]) (rest := []) (w := wM cI cZ ad) ⟨hx, hb, hml, hown, hts⟩ hF hR (c_X5_holds_nz hG S 1 (by decide) (by decide)) (cwV 1 hts gX5_sumInChannels_X5_holds rfl rfl rfl (by decide +kernel) ⟨Nat.le_of_ble_eq_true rfl, Nat.le_of_ble_eq_true rfl⟩) (wM_c0 S) rfl rfl rfl hl rfl (Nat.le_of_ble_eq_true rfl) (by decide) dX5_sumInChannels_13 (fun r3 S3 H locs hp3 hR => ?_)
  obtain ⟨hr3, hs3⟩ := hp3
  subst r3
  subst S3
  have hO3 := (zOK_th (i := 1) hO)
  refine z_if_ne_n (tgt := 21) hx hb dX5_sumInChannels_16 (by decide) (by omega) (fun h16_4 => by omega) (fun h16_4 => ?_)
  refine lv_iconst (v := (nI (0))) hx hb dX5_sumInChannels_19 (by decide) ?_
  exact z_iret (w := wM cI cZ ad) (S1 := (zth S 1)) hx hb hr hlk hF hR dX5_sumInChannels_20 (⟨rfl, rfl⟩)
set_option maxHeartbeats 4000000 in
set_option maxRecDepth 100000 in
theorem c_X5_sumInChannels_ok {l : Launch} {D : va_G} {cI cZ : ClassId} {ad : Nat → Nat} {B : Nat → Prop} (hG : ∀ S : zS, va_D B (wM cI cZ ad S)) (S : zS) (key : Nat) (hO : zOK S) (hk : key < 32) : zMi l yX5_sumInChannels wsX5_sumInChannels ({ frames := 2, cells := 0, slots := 0, locals := 42 } : Room) [.ref (ad 0), .int (nI (key))] D (zT cI cZ) B (wM cI cZ ad) S (fun (r : Int32) (S1 : zS) => r = (mo_sc (zth S 0) key 16) ∧ S1 = zth S 0) := by
  refine zMi_of (cc := cX5_sumInChannels) (maxL := 6) (ret := (some .int)) (by decide) rfl (Nat.le_of_ble_eq_true rfl) ?_
  intro pg en s mm below meth cd hx hb hr hml hown hts hlk hF hR ls hl
  have hinX5 : ∀ w ∈ wsX50, w ∈ wsX5_sumInChannels := by decide +kernel
  have hl : lv_has ls 6 [(0, .ref (ad 0)), (1, .int (nI (key)))] := hl
  refine lv_aload_n hx hb dX5_sumInChannels_0 rfl (lv_at hl 0 rfl) ?_
  refine lv_iload_n hx hb dX5_sumInChannels_1 rfl (lv_at hl 1 rfl) ?_
  refine z_callS_i (As := [.int (nI (key))]) (rest := [.ref (ad 0)]) (w := wM cI cZ ad) ⟨hx, hb, hml, hown, hts⟩ hF hR (c_X5_isKey_ok hG S key (by omega)) (va_cwS 1 hts gX5_sumInChannels_X5_isKey rfl rfl rfl (by decide +kernel) ⟨Nat.le_of_ble_eq_true rfl, Nat.le_of_ble_eq_true rfl⟩) rfl hl rfl (Nat.le_of_ble_eq_true rfl) (by decide) dX5_sumInChannels_2 (fun r1 S1 H locs hp1 hR => ?_)
  obtain ⟨hr1, hs1⟩ := hp1
  subst r1
  subst S1
  refine z_if_eq_n (tgt := 12) hx hb dX5_sumInChannels_5 (by decide) (by omega) (fun h5_2 => by omega) (fun h5_2 => ?_)
  refine lv_iconst (v := (nI (0))) hx hb dX5_sumInChannels_8 (by decide) ?_
  refine lv_goto (tgt := 13) hx hb dX5_sumInChannels_9 (by decide) ?_
  refine z_callV_i (As := [.int (nI (0))]) (rest := []) (w := wM cI cZ ad) ⟨hx, hb, hml, hown, hts⟩ hF hR (c_X5_holds_z hG S ) (cwV 1 hts gX5_sumInChannels_X5_holds rfl rfl rfl (by decide +kernel) ⟨Nat.le_of_ble_eq_true rfl, Nat.le_of_ble_eq_true rfl⟩) (wM_c0 S) rfl rfl rfl hl rfl (Nat.le_of_ble_eq_true rfl) (by decide) dX5_sumInChannels_13 (fun r3 S3 H locs hp3 hR => ?_)
  obtain ⟨hr3, hs3⟩ := hp3
  subst r3
  subst S3
  have hO3 := (zOK_th (i := 0) hO)
  have hO2 := zOK_th (i := 0) hO
  refine z_if_ne_n (tgt := 21) hx hb dX5_sumInChannels_16 (by decide) (by omega) (fun h16_4 => ?_) (fun h16_4 => by omega)
  refine lv_iconst (v := (nI (0))) hx hb dX5_sumInChannels_21 (by decide) ?_
  refine lv_istore_n (lv' := [(2, .int (nI (0))), (0, .ref (ad 0)), (1, .int (nI (key)))]) hx hb dX5_sumInChannels_22 rfl hl (by decide) rfl (fun ls hl => ?_)
  refine lv_iconst (v := (nI (0))) hx hb dX5_sumInChannels_23 (by decide) ?_
  refine lv_istore_n (lv' := [(3, .int (nI (0))), (2, .int (nI (0))), (0, .ref (ad 0)), (1, .int (nI (key)))]) hx hb dX5_sumInChannels_24 rfl hl (by decide) rfl (fun ls hl => ?_)
  have loop25 : ∀ (nf25 : Nat) (k : Nat), (k ≤ 16) → 16 - k < nf25 → ∀ (H : Heap) (locs : List Loc), zR D B (wM cI cZ ad (zth S 0)) s H locs → ∀ ls : Array Slot, lv_has ls 6 [(0, .ref (ad 0)), (1, .int (nI (key))), (2, .int (mo_sc (zth S 0) key k)), (3, .int (nI (k)))] → W pg l en ({ frames := 2, cells := 0, slots := 0, locals := 42 } : Room) s mm ([.ref (ad 0), .int (nI (key))] : List Value).toArray below meth cd H locs 0 0 (MQ below (va_Qi (fun (r : Int32) (S1 : zS) => r = (mo_sc (zth S 0) key 16) ∧ S1 = zth S 0) (zB D (zT cI cZ) (wM cI cZ ad)) (zA B s.heap.size)) ([.ref (ad 0), .int (nI (key))] : List Value).toArray s 0 0 (zA B s.heap.size)) (F0 mm 25 ls []) := by
    intro nf25
    induction nf25 with
    | zero => intro k hk4 hn; exact absurd hn (Nat.not_lt_zero _)
    | succ nf25 ih25 =>
      intro k hk4 hn H locs hR ls hl
      refine lv_iload_n hx hb dX5_sumInChannels_25 rfl (lv_at hl 3 rfl) ?_
      refine lv_bipush (v := (nI (16))) hx hb dX5_sumInChannels_26 (by decide) ?_
      refine z_ge_n (tgt := 99) hx hb dX5_sumInChannels_28 (by decide) (by omega) (by omega) (fun h28_5 => ?_) (fun h28_5 => ?_)
      · skip
        refine lv_iload_n hx hb dX5_sumInChannels_99 rfl (lv_at hl 2 rfl) ?_
        exact z_iret (w := wM cI cZ ad) (S1 := (zth S 0)) hx hb hr hlk hF hR dX5_sumInChannels_100 (⟨by rw [show (16 : Nat) = k from by omega], rfl⟩)
      · skip
        refine lv_iconst (v := (nI (0))) hx hb dX5_sumInChannels_31 (by decide) ?_
        refine lv_istore (lv' := [(4, .int (nI (0))), (0, .ref (ad 0)), (1, .int (nI (key))), (2, .int (mo_sc (zth S 0) key k)), (3, .int (nI (k)))]) hx hb dX5_sumInChannels_32 hl (by decide) rfl (fun ls hl => ?_)
        have loop34 : ∀ (nf34 : Nat) (o : Nat), (o ≤ zn (zth S 0) 7 k) → zn (zth S 0) 7 k - o < nf34 → ∀ (H : Heap) (locs : List Loc), zR D B (wM cI cZ ad (zth S 0)) s H locs → ∀ ls : Array Slot, lv_has ls 6 [(0, .ref (ad 0)), (1, .int (nI (key))), (2, .int (mo_sk ((zth S 0) 6) key (8 * k) (mo_sc (zth S 0) key k) o)), (3, .int (nI (k))), (4, .int (nI (o)))] → W pg l en ({ frames := 2, cells := 0, slots := 0, locals := 42 } : Room) s mm ([.ref (ad 0), .int (nI (key))] : List Value).toArray below meth cd H locs 0 0 (MQ below (va_Qi (fun (r : Int32) (S1 : zS) => r = (mo_sc (zth S 0) key 16) ∧ S1 = zth S 0) (zB D (zT cI cZ) (wM cI cZ ad)) (zA B s.heap.size)) ([.ref (ad 0), .int (nI (key))] : List Value).toArray s 0 0 (zA B s.heap.size)) (F0 mm 34 ls []) := by
          intro nf34
          induction nf34 with
          | zero => intro o ho hn; exact absurd hn (Nat.not_lt_zero _)
          | succ nf34 ih34 =>
            intro o ho hn H locs hR ls hl
            refine lv_iload hx hb dX5_sumInChannels_34 (lv_at hl 4 rfl) ?_
            refine lv_aload_n hx hb dX5_sumInChannels_36 rfl (lv_at hl 0 rfl) ?_
            refine z_get (own := RX5) (C := RX5) (T := TX5) (N := 27) (k := 6) (v := .ref (ad 8)) hx hb hts hinX5 hown hF hR (wM_c0 (zth S 0)) rfl (by decide) (by decide +kernel) rfl rfl dX5_sumInChannels_37 ?_
            refine lv_iload_n hx hb dX5_sumInChannels_40 rfl (lv_at hl 3 rfl) ?_
            refine z_iald_n (f := (zth S 0) 7) hx hb hF hR (wM_c8 (zth S 0)) zT_0 dX5_sumInChannels_41 (by decide) (by omega) ?_
            refine lv_topi (fun v7 ev7 => ?_)
            obtain rfl : v7 = (nI (zn (zth S 0) 7 (k))) := ev7.trans (zOK.n7 hO2 _).1
            have hb41_6 := (zOK.n7 hO2 (k)).2
            refine z_ge_n (tgt := 93) hx hb dX5_sumInChannels_42 (by decide) (by omega) (by omega) (fun h42_8 => ?_) (fun h42_8 => ?_)
            · skip
              have hl : lv_has ls 6 [(0, .ref (ad 0)), (1, .int (nI (key))), (2, .int (mo_sc (zth S 0) key (k + 1))), (3, .int (nI (k))), (4, .int (nI (o)))] := (by rw [show mo_sc (zth S 0) key (k + 1) = mo_sk ((zth S 0) 6) key (8 * k) (mo_sc (zth S 0) key k) o from by rw [show o = zn (zth S 0) 7 k from by omega]; rfl]; exact hl)
              refine lv_iinc (v := (nI (k + 1))) (lv' := [(3, .int (nI (k + 1))), (0, .ref (ad 0)), (1, .int (nI (key))), (2, .int (mo_sc (zth S 0) key (k + 1))), (4, .int (nI (o)))]) hx hb dX5_sumInChannels_93 hl (k := 3) rfl (z_inc _) (by decide) rfl (fun ls hl => ?_)
              refine lv_goto (tgt := 25) hx hb dX5_sumInChannels_96 (by decide) ?_
              exact ih25 (k + 1) (by omega) (by omega) _ _ hR ls (lv_sub hl [1, 2, 3, 0] rfl)
            · skip
              refine lv_aload_n hx hb dX5_sumInChannels_45 rfl (lv_at hl 0 rfl) ?_
              refine z_get (own := RX5) (C := RX5) (T := TX5) (N := 27) (k := 5) (v := .ref (ad 7)) hx hb hts hinX5 hown hF hR (wM_c0 (zth S 0)) rfl (by decide) (by decide +kernel) rfl rfl dX5_sumInChannels_46 ?_
              refine lv_bipush (v := (nI (8))) hx hb dX5_sumInChannels_49 (by decide) ?_
              refine lv_iload_n hx hb dX5_sumInChannels_51 rfl (lv_at hl 3 rfl) ?_
              refine z_imul_n hx hb dX5_sumInChannels_52 ?_
              refine lv_iload hx hb dX5_sumInChannels_53 (lv_at hl 4 rfl) ?_
              refine z_iadd_n hx hb dX5_sumInChannels_55 ?_
              refine z_iald_n (f := (zth S 0) 6) hx hb hF hR (wM_c7 (zth S 0)) zT_0 dX5_sumInChannels_56 (by decide) (by omega) ?_
              refine lv_istore (lv' := [(5, .int ((zth S 0) 6 ((8 * k) + o))), (0, .ref (ad 0)), (1, .int (nI (key))), (2, .int (mo_sk ((zth S 0) 6) key (8 * k) (mo_sc (zth S 0) key k) o)), (3, .int (nI (k))), (4, .int (nI (o)))]) hx hb dX5_sumInChannels_57 hl (by decide) rfl (fun ls hl => ?_)
              refine lv_iload_n hx hb dX5_sumInChannels_59 rfl (lv_at hl 3 rfl) ?_
              refine lv_iload hx hb dX5_sumInChannels_60 (lv_at hl 0 rfl) ?_
              refine lv_if_le (tgt := 84) hx hb dX5_sumInChannels_62 (by decide) (fun h62_9 => ?_) (fun h62_9 => ?_)
              · skip
                have q62 := h62_9
                refine lv_iconst (v := (nI (0))) hx hb dX5_sumInChannels_84 (by decide) ?_
                refine lv_iadd hx hb dX5_sumInChannels_85 ?_
                refine lv_istore_n (lv' := [(2, .int ((mo_sk ((zth S 0) 6) key (8 * k) (mo_sc (zth S 0) key k) o) + (nI (0)))), (5, .int ((zth S 0) 6 ((8 * k) + o))), (0, .ref (ad 0)), (1, .int (nI (key))), (3, .int (nI (k))), (4, .int (nI (o)))]) hx hb dX5_sumInChannels_86 rfl hl (by decide) rfl (fun ls hl => ?_)
                have hl : lv_has ls 6 [(2, .int (mo_sk ((zth S 0) 6) key (8 * k) (mo_sc (zth S 0) key k) (o + 1))), (5, .int ((zth S 0) 6 ((8 * k) + o))), (0, .ref (ad 0)), (1, .int (nI (key))), (3, .int (nI (k))), (4, .int (nI (o)))] := (by rw [show mo_sk ((zth S 0) 6) key (8 * k) (mo_sc (zth S 0) key k) (o + 1) = mo_sk ((zth S 0) 6) key (8 * k) (mo_sc (zth S 0) key k) o + (if 0 < (zth S 0) 6 (8 * k + o) ∧ ((zth S 0) 6 (8 * k + o)).toNatClampNeg / 1000 = key then nI (((zth S 0) 6 (8 * k + o)).toNatClampNeg % 1000) else nI 0) from rfl]; first | (rw [if_pos ⟨q62, q72⟩]; exact hl) | (rw [if_neg (fun q => q72 q.2)]; exact hl) | (rw [if_neg (fun q => absurd q.1 (Int32.not_lt.mpr q62))]; exact hl))
                refine lv_iinc (v := (nI (o + 1))) (lv' := [(4, .int (nI (o + 1))), (2, .int (mo_sk ((zth S 0) 6) key (8 * k) (mo_sc (zth S 0) key k) (o + 1))), (5, .int ((zth S 0) 6 ((8 * k) + o))), (0, .ref (ad 0)), (1, .int (nI (key))), (3, .int (nI (k)))]) hx hb dX5_sumInChannels_87 hl (k := 5) rfl (z_inc _) (by decide) rfl (fun ls hl => ?_)
                refine lv_goto (tgt := 34) hx hb dX5_sumInChannels_90 (by decide) ?_
                exact ih34 (o + 1) (by omega) (by omega) _ _ hR ls (lv_sub hl [3, 4, 1, 5, 0] rfl)
              · skip
                have q62 : 0 < (zth S 0) 6 (8 * k + o) := Int32.not_le.mp h62_9
                have hb62 := (zOK.pos hO2 q62).2
                have hl : lv_has ls 6 [(5, .int (nI (zn (zth S 0) 6 (8 * k + o)))), (0, .ref (ad 0)), (1, .int (nI (key))), (2, .int (mo_sk ((zth S 0) 6) key (8 * k) (mo_sc (zth S 0) key k) o)), (3, .int (nI (k))), (4, .int (nI (o)))] := (by rw [← (zOK.pos hO2 q62).1]; exact hl)
                refine lv_iload hx hb dX5_sumInChannels_65 (lv_at hl 0 rfl) ?_
                refine lv_sipush (v := (nI (1000))) hx hb dX5_sumInChannels_67 (by decide) ?_
                refine z_idiv_n hx hb dX5_sumInChannels_70 (by omega) (by omega) (by omega) ?_
                refine lv_iload_n hx hb dX5_sumInChannels_71 rfl (lv_at hl 2 rfl) ?_
                refine z_ne_n (tgt := 84) hx hb dX5_sumInChannels_72 (by decide) (by omega) (by omega) (fun h72_10 => ?_) (fun h72_10 => ?_)
                · skip
                  have q72 := h72_10
                  refine lv_iconst (v := (nI (0))) hx hb dX5_sumInChannels_84 (by decide) ?_
                  refine lv_iadd hx hb dX5_sumInChannels_85 ?_
                  refine lv_istore_n (lv' := [(2, .int ((mo_sk ((zth S 0) 6) key (8 * k) (mo_sc (zth S 0) key k) o) + (nI (0)))), (5, .int (nI (zn (zth S 0) 6 (8 * k + o)))), (0, .ref (ad 0)), (1, .int (nI (key))), (3, .int (nI (k))), (4, .int (nI (o)))]) hx hb dX5_sumInChannels_86 rfl hl (by decide) rfl (fun ls hl => ?_)
                  have hl : lv_has ls 6 [(2, .int (mo_sk ((zth S 0) 6) key (8 * k) (mo_sc (zth S 0) key k) (o + 1))), (5, .int (nI (zn (zth S 0) 6 (8 * k + o)))), (0, .ref (ad 0)), (1, .int (nI (key))), (3, .int (nI (k))), (4, .int (nI (o)))] := (by rw [show mo_sk ((zth S 0) 6) key (8 * k) (mo_sc (zth S 0) key k) (o + 1) = mo_sk ((zth S 0) 6) key (8 * k) (mo_sc (zth S 0) key k) o + (if 0 < (zth S 0) 6 (8 * k + o) ∧ ((zth S 0) 6 (8 * k + o)).toNatClampNeg / 1000 = key then nI (((zth S 0) 6 (8 * k + o)).toNatClampNeg % 1000) else nI 0) from rfl]; first | (rw [if_pos ⟨q62, q72⟩]; exact hl) | (rw [if_neg (fun q => q72 q.2)]; exact hl) | (rw [if_neg (fun q => absurd q.1 (Int32.not_lt.mpr q62))]; exact hl))
                  refine lv_iinc (v := (nI (o + 1))) (lv' := [(4, .int (nI (o + 1))), (2, .int (mo_sk ((zth S 0) 6) key (8 * k) (mo_sc (zth S 0) key k) (o + 1))), (5, .int (nI (zn (zth S 0) 6 (8 * k + o)))), (0, .ref (ad 0)), (1, .int (nI (key))), (3, .int (nI (k)))]) hx hb dX5_sumInChannels_87 hl (k := 5) rfl (z_inc _) (by decide) rfl (fun ls hl => ?_)
                  refine lv_goto (tgt := 34) hx hb dX5_sumInChannels_90 (by decide) ?_
                  exact ih34 (o + 1) (by omega) (by omega) _ _ hR ls (lv_sub hl [3, 4, 1, 5, 0] rfl)
                · skip
                  have q72 := h72_10
                  refine lv_iload hx hb dX5_sumInChannels_75 (lv_at hl 0 rfl) ?_
                  refine lv_sipush (v := (nI (1000))) hx hb dX5_sumInChannels_77 (by decide) ?_
                  refine z_irem_n hx hb dX5_sumInChannels_80 (by omega) (by omega) (by omega) ?_
                  refine lv_goto (tgt := 85) hx hb dX5_sumInChannels_81 (by decide) ?_
                  refine lv_iadd hx hb dX5_sumInChannels_85 ?_
                  refine lv_istore_n (lv' := [(2, .int ((mo_sk ((zth S 0) 6) key (8 * k) (mo_sc (zth S 0) key k) o) + (nI ((zn (zth S 0) 6 (8 * k + o)) % 1000)))), (5, .int (nI (zn (zth S 0) 6 (8 * k + o)))), (0, .ref (ad 0)), (1, .int (nI (key))), (3, .int (nI (k))), (4, .int (nI (o)))]) hx hb dX5_sumInChannels_86 rfl hl (by decide) rfl (fun ls hl => ?_)
                  have hl : lv_has ls 6 [(2, .int (mo_sk ((zth S 0) 6) key (8 * k) (mo_sc (zth S 0) key k) (o + 1))), (5, .int (nI (zn (zth S 0) 6 (8 * k + o)))), (0, .ref (ad 0)), (1, .int (nI (key))), (3, .int (nI (k))), (4, .int (nI (o)))] := (by rw [show mo_sk ((zth S 0) 6) key (8 * k) (mo_sc (zth S 0) key k) (o + 1) = mo_sk ((zth S 0) 6) key (8 * k) (mo_sc (zth S 0) key k) o + (if 0 < (zth S 0) 6 (8 * k + o) ∧ ((zth S 0) 6 (8 * k + o)).toNatClampNeg / 1000 = key then nI (((zth S 0) 6 (8 * k + o)).toNatClampNeg % 1000) else nI 0) from rfl]; first | (rw [if_pos ⟨q62, q72⟩]; exact hl) | (rw [if_neg (fun q => q72 q.2)]; exact hl) | (rw [if_neg (fun q => absurd q.1 (Int32.not_lt.mpr q62))]; exact hl))
                  refine lv_iinc (v := (nI (o + 1))) (lv' := [(4, .int (nI (o + 1))), (2, .int (mo_sk ((zth S 0) 6) key (8 * k) (mo_sc (zth S 0) key k) (o + 1))), (5, .int (nI (zn (zth S 0) 6 (8 * k + o)))), (0, .ref (ad 0)), (1, .int (nI (key))), (3, .int (nI (k)))]) hx hb dX5_sumInChannels_87 hl (k := 5) rfl (z_inc _) (by decide) rfl (fun ls hl => ?_)
                  refine lv_goto (tgt := 34) hx hb dX5_sumInChannels_90 (by decide) ?_
                  exact ih34 (o + 1) (by omega) (by omega) _ _ hR ls (lv_sub hl [3, 4, 1, 5, 0] rfl)
        have hn8 := (zOK.n7 hO2 k).2
        exact loop34 _ 0 (by omega) (Nat.lt_succ_self _) _ _ hR ls (lv_sub hl [1, 2, 3, 4, 0] rfl)
  exact loop25 _ 0 (by omega) (Nat.lt_succ_self _) _ _ hR ls (lv_sub hl [2, 3, 1, 0] rfl)
