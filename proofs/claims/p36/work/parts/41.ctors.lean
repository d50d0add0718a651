set_option maxHeartbeats 8000000 in
set_option maxRecDepth 100000 in
theorem c_X0_init (l : Launch) {D : va_G} {cI cZ : ClassId} (h0 : Nat) : zMn l yX0_init wsX0_init ({ frames := 1, cells := 3, slots := 160, locals := 12 } : Room) h0 D (zT cI cZ) [(h0, .inr (0, [.null, .null, .null]))] (fun w1 => ∃ q1 q2 q3 : Nat, w1 = [(h0, .inr (0, [.ref q1, .ref q2, .ref q3])), (q1, .inl (cI, 128, .inl (fun _ => 0))), (q2, .inl (cI, 16, .inl (fun _ => 0))), (q3, .inl (cZ, 16, .inl (fun _ => 0)))]) 3 160 := by
  refine zMn_of (cc := cX0_init) (maxL := 1) (by decide) rfl (Nat.le_of_ble_eq_true rfl) rfl rfl (fun q h => by cases h; rfl) ?_
  intro pg en s mm below meth cd hx hb hr hml hown hts hlk hni hK hE hR ls hl
  have hinX0 : ∀ w ∈ wsX00, w ∈ wsX0_init := by decide +kernel
  refine lv_aload_n hx hb dX0_init_0 rfl (lv_at hl 0 rfl) ?_
  refine W.objInit hx hb hown (hts (.methodLink RX0 3 objectInit) (by decide +kernel)) (hts (.instanceMethod objectInit) (by decide +kernel)) (hts (.code objectInit ⟨#[0xb1]⟩ 1 none) (by decide +kernel)) rfl (by rw [hml]; exact hl.1) rfl dX0_init_1 (Nat.le_of_ble_eq_true rfl) (Nat.le_of_ble_eq_true rfl) ?_
  refine W.eq (g2 := F0 mm 4 ls []) rfl ?_
  refine lv_aload_n hx hb dX0_init_4 rfl (lv_at hl 0 rfl) ?_
  refine lv_sipush (v := (nI 128)) hx hb dX0_init_5 (by decide) ?_
  refine z_newa (atype := .int) (ty := .int) (cA := cI) (n := 128) (a0 := (128, .inl (fun _ => 0))) hx hb hts (by decide +kernel) rfl hK zT_0 (fun h => h) hR (z_a0i 128) (by decide) (by decide) (by decide) (by decide) dX0_init_8 (fun a1 H hR => ?_)
  have hR : zN D h0 s H _ [(h0, .inr (0, [.null, .null, .null])), (a1, .inl (cI, 128, .inl (fun _ => 0)))] := hR
  refine z_nputF (own := RX0) (C := RX0) (T := TX0) (N := 3) (k := 0) (ci := 0) (q0 := 0) (ty := .array .int) hx hb hts hinX0 tyX0 tyX0_ok nmX0 hown hni hK hR rfl rfl (by decide) (by decide +kernel) rfl rfl rfl (by decide +kernel) rfl rfl (Nat.le_of_ble_eq_true rfl) rfl dX0_init_10 (fun H locs hR => ?_)
  have hR : zN D h0 s H locs [(h0, .inr (0, [.ref a1, .null, .null])), (a1, .inl (cI, 128, .inl (fun _ => 0)))] := hR
  refine lv_aload_n hx hb dX0_init_13 rfl (lv_at hl 0 rfl) ?_
  refine lv_bipush (v := (nI 16)) hx hb dX0_init_14 (by decide) ?_
  refine z_newa (atype := .int) (ty := .int) (cA := cI) (n := 16) (a0 := (16, .inl (fun _ => 0))) hx hb hts (by decide +kernel) rfl hK zT_0 (fun h => h) hR (z_a0i 16) (by decide) (by decide) (by decide) (by decide) dX0_init_16 (fun a2 H hR => ?_)
  have hR : zN D h0 s H _ [(h0, .inr (0, [.ref a1, .null, .null])), (a1, .inl (cI, 128, .inl (fun _ => 0))), (a2, .inl (cI, 16, .inl (fun _ => 0)))] := hR
  refine z_nputF (own := RX0) (C := RX0) (T := TX0) (N := 3) (k := 1) (ci := 0) (q0 := 0) (ty := .array .int) hx hb hts hinX0 tyX0 tyX0_ok nmX0 hown hni hK hR rfl rfl (by decide) (by decide +kernel) rfl rfl rfl (by decide +kernel) rfl rfl (Nat.le_of_ble_eq_true rfl) rfl dX0_init_18 (fun H locs hR => ?_)
  have hR : zN D h0 s H locs [(h0, .inr (0, [.ref a1, .ref a2, .null])), (a1, .inl (cI, 128, .inl (fun _ => 0))), (a2, .inl (cI, 16, .inl (fun _ => 0)))] := hR
  refine lv_aload_n hx hb dX0_init_21 rfl (lv_at hl 0 rfl) ?_
  refine lv_bipush (v := (nI 16)) hx hb dX0_init_22 (by decide) ?_
  refine z_newa (atype := .boolean) (ty := .boolean) (cA := cZ) (n := 16) (a0 := (16, .inl (fun _ => 0))) hx hb hts (by decide +kernel) rfl hK zT_1 (fun h => h) hR (z_a0z 16) (by decide) (by decide) (by decide) (by decide) dX0_init_24 (fun a3 H hR => ?_)
  have hR : zN D h0 s H _ [(h0, .inr (0, [.ref a1, .ref a2, .null])), (a1, .inl (cI, 128, .inl (fun _ => 0))), (a2, .inl (cI, 16, .inl (fun _ => 0))), (a3, .inl (cZ, 16, .inl (fun _ => 0)))] := hR
  refine z_nputF (own := RX0) (C := RX0) (T := TX0) (N := 3) (k := 2) (ci := 0) (q0 := 0) (ty := .array .boolean) hx hb hts hinX0 tyX0 tyX0_ok nmX0 hown hni hK hR rfl rfl (by decide) (by decide +kernel) rfl rfl rfl (by decide +kernel) rfl rfl (Nat.le_of_ble_eq_true rfl) rfl dX0_init_26 (fun H locs hR => ?_)
  have hR : zN D h0 s H locs [(h0, .inr (0, [.ref a1, .ref a2, .ref a3])), (a1, .inl (cI, 128, .inl (fun _ => 0))), (a2, .inl (cI, 16, .inl (fun _ => 0))), (a3, .inl (cZ, 16, .inl (fun _ => 0)))] := hR
  refine W.widen (k := 3) (n := 160) (by decide) (by decide) ?_
  exact z_nvret hx hb hr hlk hK hR dX0_init_29 ⟨a1, a2, a3, rfl⟩
set_option maxHeartbeats 8000000 in
set_option maxRecDepth 100000 in
theorem c_X1_init (l : Launch) {D : va_G} {cI cZ : ClassId} (h0 : Nat) : zMn l yX1_init wsX1_init ({ frames := 1, cells := 2, slots := 244, locals := 12 } : Room) h0 D (zT cI cZ) [(h0, .inr (1, [.null, .null]))] (fun w1 => ∃ q1 q2 : Nat, w1 = [(h0, .inr (1, [.ref q1, .ref q2])), (q1, .inl (cI, 4, .inl (fun _ => 0))), (q2, .inl (cI, 240, .inl (fun _ => 0)))]) 2 244 := by
  refine zMn_of (cc := cX1_init) (maxL := 1) (by decide) rfl (Nat.le_of_ble_eq_true rfl) rfl rfl (fun q h => by cases h; rfl) ?_
  intro pg en s mm below meth cd hx hb hr hml hown hts hlk hni hK hE hR ls hl
  have hinX1 : ∀ w ∈ wsX10, w ∈ wsX1_init := by decide +kernel
  refine lv_aload_n hx hb dX1_init_0 rfl (lv_at hl 0 rfl) ?_
  refine W.objInit hx hb hown (hts (.methodLink RX1 3 objectInit) (by decide +kernel)) (hts (.instanceMethod objectInit) (by decide +kernel)) (hts (.code objectInit ⟨#[0xb1]⟩ 1 none) (by decide +kernel)) rfl (by rw [hml]; exact hl.1) rfl dX1_init_1 (Nat.le_of_ble_eq_true rfl) (Nat.le_of_ble_eq_true rfl) ?_
  refine W.eq (g2 := F0 mm 4 ls []) rfl ?_
  refine lv_aload_n hx hb dX1_init_4 rfl (lv_at hl 0 rfl) ?_
  refine lv_iconst (v := (nI 4)) hx hb dX1_init_5 (by decide) ?_
  refine z_newa (atype := .int) (ty := .int) (cA := cI) (n := 4) (a0 := (4, .inl (fun _ => 0))) hx hb hts (by decide +kernel) rfl hK zT_0 (fun h => h) hR (z_a0i 4) (by decide) (by decide) (by decide) (by decide) dX1_init_6 (fun a1 H hR => ?_)
  have hR : zN D h0 s H _ [(h0, .inr (1, [.null, .null])), (a1, .inl (cI, 4, .inl (fun _ => 0)))] := hR
  refine z_nputF (own := RX1) (C := RX1) (T := TX1) (N := 2) (k := 0) (ci := 1) (q0 := 0) (ty := .array .int) hx hb hts hinX1 tyX1 tyX1_ok nmX1 hown hni hK hR rfl rfl (by decide) (by decide +kernel) rfl rfl rfl (by decide +kernel) rfl rfl (Nat.le_of_ble_eq_true rfl) rfl dX1_init_8 (fun H locs hR => ?_)
  have hR : zN D h0 s H locs [(h0, .inr (1, [.ref a1, .null])), (a1, .inl (cI, 4, .inl (fun _ => 0)))] := hR
  refine lv_aload_n hx hb dX1_init_11 rfl (lv_at hl 0 rfl) ?_
  refine lv_sipush (v := (nI 240)) hx hb dX1_init_12 (by decide) ?_
  refine z_newa (atype := .int) (ty := .int) (cA := cI) (n := 240) (a0 := (240, .inl (fun _ => 0))) hx hb hts (by decide +kernel) rfl hK zT_0 (fun h => h) hR (z_a0i 240) (by decide) (by decide) (by decide) (by decide) dX1_init_15 (fun a2 H hR => ?_)
  have hR : zN D h0 s H _ [(h0, .inr (1, [.ref a1, .null])), (a1, .inl (cI, 4, .inl (fun _ => 0))), (a2, .inl (cI, 240, .inl (fun _ => 0)))] := hR
  refine z_nputF (own := RX1) (C := RX1) (T := TX1) (N := 2) (k := 1) (ci := 1) (q0 := 0) (ty := .array .int) hx hb hts hinX1 tyX1 tyX1_ok nmX1 hown hni hK hR rfl rfl (by decide) (by decide +kernel) rfl rfl rfl (by decide +kernel) rfl rfl (Nat.le_of_ble_eq_true rfl) rfl dX1_init_17 (fun H locs hR => ?_)
  have hR : zN D h0 s H locs [(h0, .inr (1, [.ref a1, .ref a2])), (a1, .inl (cI, 4, .inl (fun _ => 0))), (a2, .inl (cI, 240, .inl (fun _ => 0)))] := hR
  refine W.widen (k := 2) (n := 244) (by decide) (by decide) ?_
  exact z_nvret hx hb hr hlk hK hR dX1_init_20 ⟨a1, a2, rfl⟩
set_option maxHeartbeats 8000000 in
set_option maxRecDepth 100000 in
theorem c_X2_init (l : Launch) {D : va_G} {cI cZ : ClassId} (h0 : Nat) : zMn l yX2_init wsX2_init ({ frames := 1, cells := 4, slots := 16, locals := 12 } : Room) h0 D (zT cI cZ) [(h0, .inr (2, [.null, .null, .null, .null]))] (fun w1 => ∃ q1 q2 q3 q4 : Nat, w1 = [(h0, .inr (2, [.ref q1, .ref q2, .ref q3, .ref q4])), (q1, .inl (cI, 4, .inl (fun _ => 0))), (q2, .inl (cI, 4, .inl (fun _ => 0))), (q3, .inl (cZ, 4, .inl (fun _ => 0))), (q4, .inl (cI, 4, .inl (fun _ => 0)))]) 4 16 := by
  refine zMn_of (cc := cX2_init) (maxL := 1) (by decide) rfl (Nat.le_of_ble_eq_true rfl) rfl rfl (fun q h => by cases h; rfl) ?_
  intro pg en s mm below meth cd hx hb hr hml hown hts hlk hni hK hE hR ls hl
  have hinX2 : ∀ w ∈ wsX20, w ∈ wsX2_init := by decide +kernel
  refine lv_aload_n hx hb dX2_init_0 rfl (lv_at hl 0 rfl) ?_
  refine W.objInit hx hb hown (hts (.methodLink RX2 3 objectInit) (by decide +kernel)) (hts (.instanceMethod objectInit) (by decide +kernel)) (hts (.code objectInit ⟨#[0xb1]⟩ 1 none) (by decide +kernel)) rfl (by rw [hml]; exact hl.1) rfl dX2_init_1 (Nat.le_of_ble_eq_true rfl) (Nat.le_of_ble_eq_true rfl) ?_
  refine W.eq (g2 := F0 mm 4 ls []) rfl ?_
  refine lv_aload_n hx hb dX2_init_4 rfl (lv_at hl 0 rfl) ?_
  refine lv_iconst (v := (nI 4)) hx hb dX2_init_5 (by decide) ?_
  refine z_newa (atype := .int) (ty := .int) (cA := cI) (n := 4) (a0 := (4, .inl (fun _ => 0))) hx hb hts (by decide +kernel) rfl hK zT_0 (fun h => h) hR (z_a0i 4) (by decide) (by decide) (by decide) (by decide) dX2_init_6 (fun a1 H hR => ?_)
  have hR : zN D h0 s H _ [(h0, .inr (2, [.null, .null, .null, .null])), (a1, .inl (cI, 4, .inl (fun _ => 0)))] := hR
  refine z_nputF (own := RX2) (C := RX2) (T := TX2) (N := 4) (k := 0) (ci := 2) (q0 := 0) (ty := .array .int) hx hb hts hinX2 tyX2 tyX2_ok nmX2 hown hni hK hR rfl rfl (by decide) (by decide +kernel) rfl rfl rfl (by decide +kernel) rfl rfl (Nat.le_of_ble_eq_true rfl) rfl dX2_init_8 (fun H locs hR => ?_)
  have hR : zN D h0 s H locs [(h0, .inr (2, [.ref a1, .null, .null, .null])), (a1, .inl (cI, 4, .inl (fun _ => 0)))] := hR
  refine lv_aload_n hx hb dX2_init_11 rfl (lv_at hl 0 rfl) ?_
  refine lv_iconst (v := (nI 4)) hx hb dX2_init_12 (by decide) ?_
  refine z_newa (atype := .int) (ty := .int) (cA := cI) (n := 4) (a0 := (4, .inl (fun _ => 0))) hx hb hts (by decide +kernel) rfl hK zT_0 (fun h => h) hR (z_a0i 4) (by decide) (by decide) (by decide) (by decide) dX2_init_13 (fun a2 H hR => ?_)
  have hR : zN D h0 s H _ [(h0, .inr (2, [.ref a1, .null, .null, .null])), (a1, .inl (cI, 4, .inl (fun _ => 0))), (a2, .inl (cI, 4, .inl (fun _ => 0)))] := hR
  refine z_nputF (own := RX2) (C := RX2) (T := TX2) (N := 4) (k := 1) (ci := 2) (q0 := 0) (ty := .array .int) hx hb hts hinX2 tyX2 tyX2_ok nmX2 hown hni hK hR rfl rfl (by decide) (by decide +kernel) rfl rfl rfl (by decide +kernel) rfl rfl (Nat.le_of_ble_eq_true rfl) rfl dX2_init_15 (fun H locs hR => ?_)
  have hR : zN D h0 s H locs [(h0, .inr (2, [.ref a1, .ref a2, .null, .null])), (a1, .inl (cI, 4, .inl (fun _ => 0))), (a2, .inl (cI, 4, .inl (fun _ => 0)))] := hR
  refine lv_aload_n hx hb dX2_init_18 rfl (lv_at hl 0 rfl) ?_
  refine lv_iconst (v := (nI 4)) hx hb dX2_init_19 (by decide) ?_
  refine z_newa (atype := .boolean) (ty := .boolean) (cA := cZ) (n := 4) (a0 := (4, .inl (fun _ => 0))) hx hb hts (by decide +kernel) rfl hK zT_1 (fun h => h) hR (z_a0z 4) (by decide) (by decide) (by decide) (by decide) dX2_init_20 (fun a3 H hR => ?_)
  have hR : zN D h0 s H _ [(h0, .inr (2, [.ref a1, .ref a2, .null, .null])), (a1, .inl (cI, 4, .inl (fun _ => 0))), (a2, .inl (cI, 4, .inl (fun _ => 0))), (a3, .inl (cZ, 4, .inl (fun _ => 0)))] := hR
  refine z_nputF (own := RX2) (C := RX2) (T := TX2) (N := 4) (k := 2) (ci := 2) (q0 := 0) (ty := .array .boolean) hx hb hts hinX2 tyX2 tyX2_ok nmX2 hown hni hK hR rfl rfl (by decide) (by decide +kernel) rfl rfl rfl (by decide +kernel) rfl rfl (Nat.le_of_ble_eq_true rfl) rfl dX2_init_22 (fun H locs hR => ?_)
  have hR : zN D h0 s H locs [(h0, .inr (2, [.ref a1, .ref a2, .ref a3, .null])), (a1, .inl (cI, 4, .inl (fun _ => 0))), (a2, .inl (cI, 4, .inl (fun _ => 0))), (a3, .inl (cZ, 4, .inl (fun _ => 0)))] := hR
  refine lv_aload_n hx hb dX2_init_25 rfl (lv_at hl 0 rfl) ?_
  refine lv_iconst (v := (nI 4)) hx hb dX2_init_26 (by decide) ?_
  refine z_newa (atype := .int) (ty := .int) (cA := cI) (n := 4) (a0 := (4, .inl (fun _ => 0))) hx hb hts (by decide +kernel) rfl hK zT_0 (fun h => h) hR (z_a0i 4) (by decide) (by decide) (by decide) (by decide) dX2_init_27 (fun a4 H hR => ?_)
  have hR : zN D h0 s H _ [(h0, .inr (2, [.ref a1, .ref a2, .ref a3, .null])), (a1, .inl (cI, 4, .inl (fun _ => 0))), (a2, .inl (cI, 4, .inl (fun _ => 0))), (a3, .inl (cZ, 4, .inl (fun _ => 0))), (a4, .inl (cI, 4, .inl (fun _ => 0)))] := hR
  refine z_nputF (own := RX2) (C := RX2) (T := TX2) (N := 4) (k := 3) (ci := 2) (q0 := 0) (ty := .array .int) hx hb hts hinX2 tyX2 tyX2_ok nmX2 hown hni hK hR rfl rfl (by decide) (by decide +kernel) rfl rfl rfl (by decide +kernel) rfl rfl (Nat.le_of_ble_eq_true rfl) rfl dX2_init_29 (fun H locs hR => ?_)
  have hR : zN D h0 s H locs [(h0, .inr (2, [.ref a1, .ref a2, .ref a3, .ref a4])), (a1, .inl (cI, 4, .inl (fun _ => 0))), (a2, .inl (cI, 4, .inl (fun _ => 0))), (a3, .inl (cZ, 4, .inl (fun _ => 0))), (a4, .inl (cI, 4, .inl (fun _ => 0)))] := hR
  refine W.widen (k := 4) (n := 16) (by decide) (by decide) ?_
  exact z_nvret hx hb hr hlk hK hR dX2_init_32 ⟨a1, a2, a3, a4, rfl⟩
set_option maxHeartbeats 8000000 in
set_option maxRecDepth 100000 in
theorem c_X3_init (l : Launch) {D : va_G} {cI cZ : ClassId} (h0 : Nat) : zMn l yX3_init wsX3_init ({ frames := 1, cells := 2, slots := 64, locals := 12 } : Room) h0 D (zT cI cZ) [(h0, .inr (3, [.null, .null]))] (fun w1 => ∃ q1 q2 : Nat, w1 = [(h0, .inr (3, [.ref q1, .ref q2])), (q1, .inl (cI, 32, .inl (fun _ => 0))), (q2, .inl (cI, 32, .inl (fun _ => 0)))]) 2 64 := by
  refine zMn_of (cc := cX3_init) (maxL := 1) (by decide) rfl (Nat.le_of_ble_eq_true rfl) rfl rfl (fun q h => by cases h; rfl) ?_
  intro pg en s mm below meth cd hx hb hr hml hown hts hlk hni hK hE hR ls hl
  have hinX3 : ∀ w ∈ wsX30, w ∈ wsX3_init := by decide +kernel
  refine lv_aload_n hx hb dX3_init_0 rfl (lv_at hl 0 rfl) ?_
  refine W.objInit hx hb hown (hts (.methodLink RX3 3 objectInit) (by decide +kernel)) (hts (.instanceMethod objectInit) (by decide +kernel)) (hts (.code objectInit ⟨#[0xb1]⟩ 1 none) (by decide +kernel)) rfl (by rw [hml]; exact hl.1) rfl dX3_init_1 (Nat.le_of_ble_eq_true rfl) (Nat.le_of_ble_eq_true rfl) ?_
  refine W.eq (g2 := F0 mm 4 ls []) rfl ?_
  refine lv_aload_n hx hb dX3_init_4 rfl (lv_at hl 0 rfl) ?_
  refine lv_bipush (v := (nI 32)) hx hb dX3_init_5 (by decide) ?_
  refine z_newa (atype := .int) (ty := .int) (cA := cI) (n := 32) (a0 := (32, .inl (fun _ => 0))) hx hb hts (by decide +kernel) rfl hK zT_0 (fun h => h) hR (z_a0i 32) (by decide) (by decide) (by decide) (by decide) dX3_init_7 (fun a1 H hR => ?_)
  have hR : zN D h0 s H _ [(h0, .inr (3, [.null, .null])), (a1, .inl (cI, 32, .inl (fun _ => 0)))] := hR
  refine z_nputF (own := RX3) (C := RX3) (T := TX3) (N := 2) (k := 0) (ci := 3) (q0 := 0) (ty := .array .int) hx hb hts hinX3 tyX3 tyX3_ok nmX3 hown hni hK hR rfl rfl (by decide) (by decide +kernel) rfl rfl rfl (by decide +kernel) rfl rfl (Nat.le_of_ble_eq_true rfl) rfl dX3_init_9 (fun H locs hR => ?_)
  have hR : zN D h0 s H locs [(h0, .inr (3, [.ref a1, .null])), (a1, .inl (cI, 32, .inl (fun _ => 0)))] := hR
  refine lv_aload_n hx hb dX3_init_12 rfl (lv_at hl 0 rfl) ?_
  refine lv_bipush (v := (nI 32)) hx hb dX3_init_13 (by decide) ?_
  refine z_newa (atype := .int) (ty := .int) (cA := cI) (n := 32) (a0 := (32, .inl (fun _ => 0))) hx hb hts (by decide +kernel) rfl hK zT_0 (fun h => h) hR (z_a0i 32) (by decide) (by decide) (by decide) (by decide) dX3_init_15 (fun a2 H hR => ?_)
  have hR : zN D h0 s H _ [(h0, .inr (3, [.ref a1, .null])), (a1, .inl (cI, 32, .inl (fun _ => 0))), (a2, .inl (cI, 32, .inl (fun _ => 0)))] := hR
  refine z_nputF (own := RX3) (C := RX3) (T := TX3) (N := 2) (k := 1) (ci := 3) (q0 := 0) (ty := .array .int) hx hb hts hinX3 tyX3 tyX3_ok nmX3 hown hni hK hR rfl rfl (by decide) (by decide +kernel) rfl rfl rfl (by decide +kernel) rfl rfl (Nat.le_of_ble_eq_true rfl) rfl dX3_init_17 (fun H locs hR => ?_)
  have hR : zN D h0 s H locs [(h0, .inr (3, [.ref a1, .ref a2])), (a1, .inl (cI, 32, .inl (fun _ => 0))), (a2, .inl (cI, 32, .inl (fun _ => 0)))] := hR
  refine W.widen (k := 2) (n := 64) (by decide) (by decide) ?_
  exact z_nvret hx hb hr hlk hK hR dX3_init_20 ⟨a1, a2, rfl⟩
