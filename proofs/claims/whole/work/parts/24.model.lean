set_option maxHeartbeats 4000000 in
set_option maxRecDepth 100000 in
theorem c_X5_thrown {l : Launch} {D : va_G} {cI cZ : ClassId} {ad : Nat → Nat} {B : Nat → Prop} (hG : ∀ S : zS, va_D B (wM cI cZ ad S)) (S : zS)  : zMi l yX5_thrown wsX5_thrown ({ frames := 0, cells := 0, slots := 0, locals := 0 } : Room) [.ref (ad 0)] D (zT cI cZ) B (wM cI cZ ad) S (fun (r : Int32) (S1 : zS) => r = (S 22 4) ∧ S1 = S) := by
  refine zMi_of (cc := cX5_thrown) (maxL := 1) (ret := (some .int)) (by decide) rfl (Nat.le_of_ble_eq_true rfl) ?_
  intro pg en s mm below meth cd hx hb hr hml hown hts hlk hF hR ls hl
  have hinX5 : ∀ w ∈ wsX50, w ∈ wsX5_thrown := by decide +kernel
  have hl : lv_has ls 1 [(0, .ref (ad 0))] := hl
  refine lv_aload_n hx hb dX5_thrown_0 rfl (lv_at hl 0 rfl) ?_
  refine z_get (own := RX5) (C := RX5) (T := TX5) (N := 27) (k := 0) (v := .int (S 22 4)) hx hb hts hinX5 hown hF hR (wM_c0 S) rfl (by decide) (by decide +kernel) rfl rfl dX5_thrown_1 ?_
  exact z_iret (w := wM cI cZ ad) (S1 := S) hx hb hr hlk hF hR dX5_thrown_4 (⟨rfl, rfl⟩)
set_option maxHeartbeats 4000000 in
set_option maxRecDepth 100000 in
theorem c_X5_holds_z {l : Launch} {D : va_G} {cI cZ : ClassId} {ad : Nat → Nat} {B : Nat → Prop} (hG : ∀ S : zS, va_D B (wM cI cZ ad S)) (S : zS)  : zMi l yX5_holds wsX5_holds ({ frames := 0, cells := 0, slots := 0, locals := 0 } : Room) [.ref (ad 0), .int (nI (0))] D (zT cI cZ) B (wM cI cZ ad) S (fun (r : Int32) (S1 : zS) => r = (nI (1)) ∧ S1 = zth S 0) := by
  refine zMi_of (cc := cX5_holds) (maxL := 2) (ret := (some .boolean)) (by decide) rfl (Nat.le_of_ble_eq_true rfl) ?_
  intro pg en s mm below meth cd hx hb hr hml hown hts hlk hF hR ls hl
  have hinX5 : ∀ w ∈ wsX50, w ∈ wsX5_holds := by decide +kernel
  have hl : lv_has ls 2 [(0, .ref (ad 0)), (1, .int (nI (0)))] := hl
  refine lv_aload_n hx hb dX5_holds_0 rfl (lv_at hl 0 rfl) ?_
  refine lv_iload_n hx hb dX5_holds_1 rfl (lv_at hl 1 rfl) ?_
  refine z_put (own := RX5) (C := RX5) (T := TX5) (N := 27) (k := 0) (ty := .int) hx hb hts hinX5 tyX5 tyX5_ok nmX5 hown hF (hG S) hR (wM_c0 S) rfl (by decide) (by decide +kernel) rfl rfl (by decide +kernel) rfl rfl (Nat.le_of_ble_eq_true rfl) (wM_p4 S (nI (0))) dX5_holds_2 (fun H locs hR => ?_)
  refine lv_iload_n hx hb dX5_holds_5 rfl (lv_at hl 1 rfl) ?_
  refine z_if_ne_n (tgt := 13) hx hb dX5_holds_6 (by decide) (by omega) (fun h6_1 => by omega) (fun h6_1 => ?_)
  refine lv_iconst (v := (nI (1))) hx hb dX5_holds_9 (by decide) ?_
  refine lv_goto (tgt := 14) hx hb dX5_holds_10 (by decide) ?_
  exact z_zret (w := wM cI cZ ad) (S1 := (zU S 22 (upd (S 22) 4 (nI (0))))) hx hb hr hlk hF hR dX5_holds_14 (by decide) (⟨rfl, rfl⟩)
set_option maxHeartbeats 4000000 in
set_option maxRecDepth 100000 in
theorem c_X5_holds_nz {l : Launch} {D : va_G} {cI cZ : ClassId} {ad : Nat → Nat} {B : Nat → Prop} (hG : ∀ S : zS, va_D B (wM cI cZ ad S)) (S : zS) (i : Nat) (hi : 0 < i) (hi2 : i ≤ 3) : zMi l yX5_holds wsX5_holds ({ frames := 0, cells := 0, slots := 0, locals := 0 } : Room) [.ref (ad 0), .int (nI (i))] D (zT cI cZ) B (wM cI cZ ad) S (fun (r : Int32) (S1 : zS) => r = (nI (0)) ∧ S1 = zth S i) := by
  refine zMi_of (cc := cX5_holds) (maxL := 2) (ret := (some .boolean)) (by decide) rfl (Nat.le_of_ble_eq_true rfl) ?_
  intro pg en s mm below meth cd hx hb hr hml hown hts hlk hF hR ls hl
  have hinX5 : ∀ w ∈ wsX50, w ∈ wsX5_holds := by decide +kernel
  have hl : lv_has ls 2 [(0, .ref (ad 0)), (1, .int (nI (i)))] := hl
  refine lv_aload_n hx hb dX5_holds_0 rfl (lv_at hl 0 rfl) ?_
  refine lv_iload_n hx hb dX5_holds_1 rfl (lv_at hl 1 rfl) ?_
  refine z_put (own := RX5) (C := RX5) (T := TX5) (N := 27) (k := 0) (ty := .int) hx hb hts hinX5 tyX5 tyX5_ok nmX5 hown hF (hG S) hR (wM_c0 S) rfl (by decide) (by decide +kernel) rfl rfl (by decide +kernel) rfl rfl (Nat.le_of_ble_eq_true rfl) (wM_p4 S (nI (i))) dX5_holds_2 (fun H locs hR => ?_)
  refine lv_iload_n hx hb dX5_holds_5 rfl (lv_at hl 1 rfl) ?_
  refine z_if_ne_n (tgt := 13) hx hb dX5_holds_6 (by decide) (by omega) (fun h6_1 => ?_) (fun h6_1 => by omega)
  refine lv_iconst (v := (nI (0))) hx hb dX5_holds_13 (by decide) ?_
  exact z_zret (w := wM cI cZ ad) (S1 := (zU S 22 (upd (S 22) 4 (nI (i))))) hx hb hr hlk hF hR dX5_holds_14 (by decide) (⟨rfl, rfl⟩)
set_option maxHeartbeats 4000000 in
set_option maxRecDepth 100000 in
theorem c_X5_in_n {l : Launch} {D : va_G} {cI cZ : ClassId} {ad : Nat → Nat} {B : Nat → Prop} (hG : ∀ S : zS, va_D B (wM cI cZ ad S)) (S : zS) (v a b : Nat) (hv : v < 2147483648) (ha : a < 2147483648) (hb2 : b < 2147483648) : zMi l yX5_in wsX5_in ({ frames := 0, cells := 0, slots := 0, locals := 0 } : Room) [.int (nI (v)), .int (nI (a)), .int (nI (b))] D (zT cI cZ) B (wM cI cZ ad) S (fun (r : Int32) (S1 : zS) => (((a ≤ v ∧ v ≤ b) ∧ r = nI 1) ∨ (¬ (a ≤ v ∧ v ≤ b) ∧ r = nI 0)) ∧ S1 = S) := by
  refine zMi_of (cc := cX5_in) (maxL := 3) (ret := (some .boolean)) (by decide) rfl (Nat.le_of_ble_eq_true rfl) ?_
  intro pg en s mm below meth cd hx hb hr hml hown hts hlk hF hR ls hl
  have hl : lv_has ls 3 [(0, .int (nI (v))), (1, .int (nI (a))), (2, .int (nI (b)))] := hl
  refine lv_iload_n hx hb dX5_in_0 rfl (lv_at hl 0 rfl) ?_
  refine lv_iload_n hx hb dX5_in_1 rfl (lv_at hl 1 rfl) ?_
  refine z_lt_n (tgt := 14) hx hb dX5_in_2 (by decide) (by omega) (by omega) (fun h2_1 => ?_) (fun h2_1 => ?_)
  · skip
    have q2 := h2_1
    refine lv_iconst (v := (nI (0))) hx hb dX5_in_14 (by decide) ?_
    exact z_zret (w := wM cI cZ ad) (S1 := S) hx hb hr hlk hF hR dX5_in_15 (by decide) (⟨Or.inr ⟨by omega, rfl⟩, rfl⟩)
  · skip
    have q2 := h2_1
    refine lv_iload_n hx hb dX5_in_5 rfl (lv_at hl 0 rfl) ?_
    refine lv_iload_n hx hb dX5_in_6 rfl (lv_at hl 2 rfl) ?_
    refine z_gt_n (tgt := 14) hx hb dX5_in_7 (by decide) (by omega) (by omega) (fun h7_2 => ?_) (fun h7_2 => ?_)
    · skip
      have q7 := h7_2
      refine lv_iconst (v := (nI (0))) hx hb dX5_in_14 (by decide) ?_
      exact z_zret (w := wM cI cZ ad) (S1 := S) hx hb hr hlk hF hR dX5_in_15 (by decide) (⟨Or.inr ⟨by omega, rfl⟩, rfl⟩)
    · skip
      have q7 := h7_2
      refine lv_iconst (v := (nI (1))) hx hb dX5_in_10 (by decide) ?_
      refine lv_goto (tgt := 15) hx hb dX5_in_11 (by decide) ?_
      exact z_zret (w := wM cI cZ ad) (S1 := S) hx hb hr hlk hF hR dX5_in_15 (by decide) (⟨Or.inl ⟨by omega, rfl⟩, rfl⟩)
set_option maxHeartbeats 4000000 in
set_option maxRecDepth 100000 in
theorem c_X5_in_i {l : Launch} {D : va_G} {cI cZ : ClassId} {ad : Nat → Nat} {B : Nat → Prop} (hG : ∀ S : zS, va_D B (wM cI cZ ad S)) (S : zS) (v a b : Int32) : zMi l yX5_in wsX5_in ({ frames := 0, cells := 0, slots := 0, locals := 0 } : Room) [.int (v), .int (a), .int (b)] D (zT cI cZ) B (wM cI cZ ad) S (fun (r : Int32) (S1 : zS) => (((a ≤ v ∧ v ≤ b) ∧ r = nI 1) ∨ (¬ (a ≤ v ∧ v ≤ b) ∧ r = nI 0)) ∧ S1 = S) := by
  refine zMi_of (cc := cX5_in) (maxL := 3) (ret := (some .boolean)) (by decide) rfl (Nat.le_of_ble_eq_true rfl) ?_
  intro pg en s mm below meth cd hx hb hr hml hown hts hlk hF hR ls hl
  have hl : lv_has ls 3 [(0, .int (v)), (1, .int (a)), (2, .int (b))] := hl
  refine lv_iload_n hx hb dX5_in_0 rfl (lv_at hl 0 rfl) ?_
  refine lv_iload_n hx hb dX5_in_1 rfl (lv_at hl 1 rfl) ?_
  refine lv_icmp_lt (tgt := 14) hx hb dX5_in_2 (by decide) (fun h2_1 => ?_) (fun h2_1 => ?_)
  · skip
    have q2 := h2_1
    refine lv_iconst (v := (nI (0))) hx hb dX5_in_14 (by decide) ?_
    exact z_zret (w := wM cI cZ ad) (S1 := S) hx hb hr hlk hF hR dX5_in_15 (by decide) (⟨Or.inr ⟨fun q => by first | exact absurd q2 (Int32.not_lt.mpr q.1) | exact absurd q7 (Int32.not_lt.mpr q.2), rfl⟩, rfl⟩)
  · skip
    have q2 := h2_1
    refine lv_iload_n hx hb dX5_in_5 rfl (lv_at hl 0 rfl) ?_
    refine lv_iload_n hx hb dX5_in_6 rfl (lv_at hl 2 rfl) ?_
    refine lv_icmp_gt (tgt := 14) hx hb dX5_in_7 (by decide) (fun h7_2 => ?_) (fun h7_2 => ?_)
    · skip
      have q7 := h7_2
      refine lv_iconst (v := (nI (0))) hx hb dX5_in_14 (by decide) ?_
      exact z_zret (w := wM cI cZ ad) (S1 := S) hx hb hr hlk hF hR dX5_in_15 (by decide) (⟨Or.inr ⟨fun q => by first | exact absurd q2 (Int32.not_lt.mpr q.1) | exact absurd q7 (Int32.not_lt.mpr q.2), rfl⟩, rfl⟩)
    · skip
      have q7 := h7_2
      refine lv_iconst (v := (nI (1))) hx hb dX5_in_10 (by decide) ?_
      refine lv_goto (tgt := 15) hx hb dX5_in_11 (by decide) ?_
      exact z_zret (w := wM cI cZ ad) (S1 := S) hx hb hr hlk hF hR dX5_in_15 (by decide) (⟨Or.inl ⟨⟨Int32.not_lt.mp q2, Int32.not_lt.mp q7⟩, rfl⟩, rfl⟩)
set_option maxHeartbeats 4000000 in
set_option maxRecDepth 100000 in
theorem c_X5_isPartition_ok {l : Launch} {D : va_G} {cI cZ : ClassId} {ad : Nat → Nat} {B : Nat → Prop} (hG : ∀ S : zS, va_D B (wM cI cZ ad S)) (S : zS) (p : Nat) (hp : p < 4) : zMi l yX5_isPartition wsX5_isPartition ({ frames := 1, cells := 0, slots := 0, locals := 22 } : Room) [.int (nI (p))] D (zT cI cZ) B (wM cI cZ ad) S (fun (r : Int32) (S1 : zS) => r = (nI (1)) ∧ S1 = S) := by
  refine zMi_of (cc := cX5_isPartition) (maxL := 1) (ret := (some .boolean)) (by decide) rfl (Nat.le_of_ble_eq_true rfl) ?_
  intro pg en s mm below meth cd hx hb hr hml hown hts hlk hF hR ls hl
  have hl : lv_has ls 1 [(0, .int (nI (p)))] := hl
  refine lv_iload_n hx hb dX5_isPartition_0 rfl (lv_at hl 0 rfl) ?_
  refine lv_iconst (v := (nI (0))) hx hb dX5_isPartition_1 (by decide) ?_
  refine lv_iconst (v := (nI (3))) hx hb dX5_isPartition_2 (by decide) ?_
  refine z_callS_i (As := [.int (nI (p)), .int (nI (0)), .int (nI (3))]) (rest := []) (w := wM cI cZ ad) ⟨hx, hb, hml, hown, hts⟩ hF hR (c_X5_in_n hG S p 0 3 (by omega) (by omega) (by omega)) (va_cwS 3 hts gX5_isPartition_X5_in rfl rfl rfl (by decide +kernel) ⟨Nat.le_of_ble_eq_true rfl, Nat.le_of_ble_eq_true rfl⟩) rfl hl rfl (Nat.le_of_ble_eq_true rfl) (by decide) dX5_isPartition_3 (fun r1 S1 H locs hp1 hR => ?_)
  obtain ⟨hp1, hs1⟩ := hp1
  subst S1
  rcases hp1 with ⟨hb3, hr1⟩ | ⟨hb3, hr1⟩
  · subst r1
    exact z_zret (w := wM cI cZ ad) (S1 := S) hx hb hr hlk hF hR dX5_isPartition_6 (by decide) (⟨rfl, rfl⟩)
  · exact absurd ⟨Nat.zero_le _, by omega⟩ hb3
set_option maxHeartbeats 4000000 in
set_option maxRecDepth 100000 in
theorem c_X5_isPartition_bad {l : Launch} {D : va_G} {cI cZ : ClassId} {ad : Nat → Nat} {B : Nat → Prop} (hG : ∀ S : zS, va_D B (wM cI cZ ad S)) (S : zS) (x : Int32) (hxb : zbad x 4) : zMi l yX5_isPartition wsX5_isPartition ({ frames := 1, cells := 0, slots := 0, locals := 22 } : Room) [.int (x)] D (zT cI cZ) B (wM cI cZ ad) S (fun (r : Int32) (S1 : zS) => r = (nI (0)) ∧ S1 = S) := by
  refine zMi_of (cc := cX5_isPartition) (maxL := 1) (ret := (some .boolean)) (by decide) rfl (Nat.le_of_ble_eq_true rfl) ?_
  intro pg en s mm below meth cd hx hb hr hml hown hts hlk hF hR ls hl
  have hl : lv_has ls 1 [(0, .int (x))] := hl
  refine lv_iload_n hx hb dX5_isPartition_0 rfl (lv_at hl 0 rfl) ?_
  refine lv_iconst (v := (nI (0))) hx hb dX5_isPartition_1 (by decide) ?_
  refine lv_iconst (v := (nI (3))) hx hb dX5_isPartition_2 (by decide) ?_
  refine z_callS_i (As := [.int (x), .int (nI (0)), .int (nI (3))]) (rest := []) (w := wM cI cZ ad) ⟨hx, hb, hml, hown, hts⟩ hF hR (c_X5_in_i hG S ((x)) ((nI (0))) ((nI (3)))) (va_cwS 3 hts gX5_isPartition_X5_in rfl rfl rfl (by decide +kernel) ⟨Nat.le_of_ble_eq_true rfl, Nat.le_of_ble_eq_true rfl⟩) rfl hl rfl (Nat.le_of_ble_eq_true rfl) (by decide) dX5_isPartition_3 (fun r1 S1 H locs hp1 hR => ?_)
  obtain ⟨hp1, hs1⟩ := hp1
  subst S1
  rcases hp1 with ⟨hb3, hr1⟩ | ⟨hb3, hr1⟩
  · exact absurd hb3 (zbad_in hxb rfl (by decide))
  · subst r1
    exact z_zret (w := wM cI cZ ad) (S1 := S) hx hb hr hlk hF hR dX5_isPartition_6 (by decide) (⟨rfl, rfl⟩)
set_option maxHeartbeats 4000000 in
set_option maxRecDepth 100000 in
theorem c_X5_isKey_ok {l : Launch} {D : va_G} {cI cZ : ClassId} {ad : Nat → Nat} {B : Nat → Prop} (hG : ∀ S : zS, va_D B (wM cI cZ ad S)) (S : zS) (p : Nat) (hp : p < 32) : zMi l yX5_isKey wsX5_isKey ({ frames := 1, cells := 0, slots := 0, locals := 22 } : Room) [.int (nI (p))] D (zT cI cZ) B (wM cI cZ ad) S (fun (r : Int32) (S1 : zS) => r = (nI (1)) ∧ S1 = S) := by
  refine zMi_of (cc := cX5_isKey) (maxL := 1) (ret := (some .boolean)) (by decide) rfl (Nat.le_of_ble_eq_true rfl) ?_
  intro pg en s mm below meth cd hx hb hr hml hown hts hlk hF hR ls hl
  have hl : lv_has ls 1 [(0, .int (nI (p)))] := hl
  refine lv_iload_n hx hb dX5_isKey_0 rfl (lv_at hl 0 rfl) ?_
  refine lv_iconst (v := (nI (0))) hx hb dX5_isKey_1 (by decide) ?_
  refine lv_bipush (v := (nI (31))) hx hb dX5_isKey_2 (by decide) ?_
  refine z_callS_i (As := [.int (nI (p)), .int (nI (0)), .int (nI (31))]) (rest := []) (w := wM cI cZ ad) ⟨hx, hb, hml, hown, hts⟩ hF hR (c_X5_in_n hG S p 0 31 (by omega) (by omega) (by omega)) (va_cwS 3 hts gX5_isKey_X5_in rfl rfl rfl (by decide +kernel) ⟨Nat.le_of_ble_eq_true rfl, Nat.le_of_ble_eq_true rfl⟩) rfl hl rfl (Nat.le_of_ble_eq_true rfl) (by decide) dX5_isKey_4 (fun r1 S1 H locs hp1 hR => ?_)
  obtain ⟨hp1, hs1⟩ := hp1
  subst S1
  rcases hp1 with ⟨hb4, hr1⟩ | ⟨hb4, hr1⟩
  · subst r1
    exact z_zret (w := wM cI cZ ad) (S1 := S) hx hb hr hlk hF hR dX5_isKey_7 (by decide) (⟨rfl, rfl⟩)
  · exact absurd ⟨Nat.zero_le _, by omega⟩ hb4
set_option maxHeartbeats 4000000 in
set_option maxRecDepth 100000 in
theorem c_X5_isKey_bad {l : Launch} {D : va_G} {cI cZ : ClassId} {ad : Nat → Nat} {B : Nat → Prop} (hG : ∀ S : zS, va_D B (wM cI cZ ad S)) (S : zS) (x : Int32) (hxb : zbad x 32) : zMi l yX5_isKey wsX5_isKey ({ frames := 1, cells := 0, slots := 0, locals := 22 } : Room) [.int (x)] D (zT cI cZ) B (wM cI cZ ad) S (fun (r : Int32) (S1 : zS) => r = (nI (0)) ∧ S1 = S) := by
  refine zMi_of (cc := cX5_isKey) (maxL := 1) (ret := (some .boolean)) (by decide) rfl (Nat.le_of_ble_eq_true rfl) ?_
  intro pg en s mm below meth cd hx hb hr hml hown hts hlk hF hR ls hl
  have hl : lv_has ls 1 [(0, .int (x))] := hl
  refine lv_iload_n hx hb dX5_isKey_0 rfl (lv_at hl 0 rfl) ?_
  refine lv_iconst (v := (nI (0))) hx hb dX5_isKey_1 (by decide) ?_
  refine lv_bipush (v := (nI (31))) hx hb dX5_isKey_2 (by decide) ?_
  refine z_callS_i (As := [.int (x), .int (nI (0)), .int (nI (31))]) (rest := []) (w := wM cI cZ ad) ⟨hx, hb, hml, hown, hts⟩ hF hR (c_X5_in_i hG S ((x)) ((nI (0))) ((nI (31)))) (va_cwS 3 hts gX5_isKey_X5_in rfl rfl rfl (by decide +kernel) ⟨Nat.le_of_ble_eq_true rfl, Nat.le_of_ble_eq_true rfl⟩) rfl hl rfl (Nat.le_of_ble_eq_true rfl) (by decide) dX5_isKey_4 (fun r1 S1 H locs hp1 hR => ?_)
  obtain ⟨hp1, hs1⟩ := hp1
  subst S1
  rcases hp1 with ⟨hb4, hr1⟩ | ⟨hb4, hr1⟩
  · exact absurd hb4 (zbad_in hxb rfl (by decide))
  · subst r1
    exact z_zret (w := wM cI cZ ad) (S1 := S) hx hb hr hlk hF hR dX5_isKey_7 (by decide) (⟨rfl, rfl⟩)
set_option maxHeartbeats 4000000 in
set_option maxRecDepth 100000 in
theorem c_X5_isWorker_ok {l : Launch} {D : va_G} {cI cZ : ClassId} {ad : Nat → Nat} {B : Nat → Prop} (hG : ∀ S : zS, va_D B (wM cI cZ ad S)) (S : zS) (w : Nat) (hO : zOK S) (hw : w < zn S 22 0) : zMi l yX5_isWorker wsX5_isWorker ({ frames := 1, cells := 0, slots := 0, locals := 22 } : Room) [.ref (ad 0), .int (nI (w))] D (zT cI cZ) B (wM cI cZ ad) S (fun (r : Int32) (S1 : zS) => r = (nI (1)) ∧ S1 = S) := by
  refine zMi_of (cc := cX5_isWorker) (maxL := 2) (ret := (some .boolean)) (by decide) rfl (Nat.le_of_ble_eq_true rfl) ?_
  intro pg en s mm below meth cd hx hb hr hml hown hts hlk hF hR ls hl
  have hinX5 : ∀ w ∈ wsX50, w ∈ wsX5_isWorker := by decide +kernel
  have hl : lv_has ls 2 [(0, .ref (ad 0)), (1, .int (nI (w)))] := hl
  have hW1 := (zOK.w hO).2.1
  have hW4 := (zOK.w hO).2.2
  refine lv_iload_n hx hb dX5_isWorker_0 rfl (lv_at hl 1 rfl) ?_
  refine lv_iconst (v := (nI (0))) hx hb dX5_isWorker_1 (by decide) ?_
  refine lv_aload_n hx hb dX5_isWorker_2 rfl (lv_at hl 0 rfl) ?_
  refine z_get (own := RX5) (C := RX5) (T := TX5) (N := 27) (k := 1) (v := .int (S 22 0)) hx hb hts hinX5 hown hF hR (wM_c0 S) rfl (by decide) (by decide +kernel) rfl rfl dX5_isWorker_3 ?_
  refine lv_topi (fun v1 ev1 => ?_)
  obtain rfl : v1 = (nI (zn S 22 0)) := ev1.trans (zOK.w hO).1
  refine lv_iconst (v := (nI (1))) hx hb dX5_isWorker_6 (by decide) ?_
  refine z_isub_n hx hb dX5_isWorker_7 (by omega) ?_
  refine z_callS_i (As := [.int (nI (w)), .int (nI (0)), .int (nI ((zn S 22 0) - 1))]) (rest := []) (w := wM cI cZ ad) ⟨hx, hb, hml, hown, hts⟩ hF hR (c_X5_in_n hG S w 0 ((zn S 22 0) - 1) (by omega) (by omega) (by omega)) (va_cwS 3 hts gX5_isWorker_X5_in rfl rfl rfl (by decide +kernel) ⟨Nat.le_of_ble_eq_true rfl, Nat.le_of_ble_eq_true rfl⟩) rfl hl rfl (Nat.le_of_ble_eq_true rfl) (by decide) dX5_isWorker_8 (fun r2 S2 H locs hp2 hR => ?_)
  obtain ⟨hp2, hs2⟩ := hp2
  subst S2
  rcases hp2 with ⟨hb8, hr2⟩ | ⟨hb8, hr2⟩
  · subst r2
    exact z_zret (w := wM cI cZ ad) (S1 := S) hx hb hr hlk hF hR dX5_isWorker_11 (by decide) (⟨rfl, rfl⟩)
  · exact absurd ⟨Nat.zero_le _, by omega⟩ hb8
set_option maxHeartbeats 4000000 in
set_option maxRecDepth 100000 in
theorem c_X5_isWorker_bad {l : Launch} {D : va_G} {cI cZ : ClassId} {ad : Nat → Nat} {B : Nat → Prop} (hG : ∀ S : zS, va_D B (wM cI cZ ad S)) (S : zS) (x : Int32) (hO : zOK S) (hxb : zbad x (zn S 22 0)) : zMi l yX5_isWorker wsX5_isWorker ({ frames := 1, cells := 0, slots := 0, locals := 22 } : Room) [.ref (ad 0), .int (x)] D (zT cI cZ) B (wM cI cZ ad) S (fun (r : Int32) (S1 : zS) => r = (nI (0)) ∧ S1 = S) := by
  refine zMi_of (cc := cX5_isWorker) (maxL := 2) (ret := (some .boolean)) (by decide) rfl (Nat.le_of_ble_eq_true rfl) ?_
  intro pg en s mm below meth cd hx hb hr hml hown hts hlk hF hR ls hl
  have hinX5 : ∀ w ∈ wsX50, w ∈ wsX5_isWorker := by decide +kernel
  have hl : lv_has ls 2 [(0, .ref (ad 0)), (1, .int (x))] := hl
  have hW1 := (zOK.w hO).2.1
  have hW4 := (zOK.w hO).2.2
  refine lv_iload_n hx hb dX5_isWorker_0 rfl (lv_at hl 1 rfl) ?_
  refine lv_iconst (v := (nI (0))) hx hb dX5_isWorker_1 (by decide) ?_
  refine lv_aload_n hx hb dX5_isWorker_2 rfl (lv_at hl 0 rfl) ?_
  refine z_get (own := RX5) (C := RX5) (T := TX5) (N := 27) (k := 1) (v := .int (S 22 0)) hx hb hts hinX5 hown hF hR (wM_c0 S) rfl (by decide) (by decide +kernel) rfl rfl dX5_isWorker_3 ?_
  refine lv_topi (fun v1 ev1 => ?_)
  obtain rfl : v1 = (nI (zn S 22 0)) := ev1.trans (zOK.w hO).1
  refine lv_iconst (v := (nI (1))) hx hb dX5_isWorker_6 (by decide) ?_
  refine z_isub_n hx hb dX5_isWorker_7 (by omega) ?_
  refine z_callS_i (As := [.int (x), .int (nI (0)), .int (nI ((zn S 22 0) - 1))]) (rest := []) (w := wM cI cZ ad) ⟨hx, hb, hml, hown, hts⟩ hF hR (c_X5_in_i hG S ((x)) ((nI (0))) ((nI ((zn S 22 0) - 1)))) (va_cwS 3 hts gX5_isWorker_X5_in rfl rfl rfl (by decide +kernel) ⟨Nat.le_of_ble_eq_true rfl, Nat.le_of_ble_eq_true rfl⟩) rfl hl rfl (Nat.le_of_ble_eq_true rfl) (by decide) dX5_isWorker_8 (fun r2 S2 H locs hp2 hR => ?_)
  obtain ⟨hp2, hs2⟩ := hp2
  subst S2
  rcases hp2 with ⟨hb8, hr2⟩ | ⟨hb8, hr2⟩
  · exact absurd hb8 (zbad_in hxb (by omega) (by omega))
  · subst r2
    exact z_zret (w := wM cI cZ ad) (S1 := S) hx hb hr hlk hF hR dX5_isWorker_11 (by decide) (⟨rfl, rfl⟩)
set_option maxHeartbeats 4000000 in
set_option maxRecDepth 100000 in
theorem c_X5_isChannel_ok {l : Launch} {D : va_G} {cI cZ : ClassId} {ad : Nat → Nat} {B : Nat → Prop} (hG : ∀ S : zS, va_D B (wM cI cZ ad S)) (S : zS) (p w : Nat) (hO : zOK S) (hp : p < 4) (hw : w < zn S 22 0) : zMi l yX5_isChannel wsX5_isChannel ({ frames := 2, cells := 0, slots := 0, locals := 43 } : Room) [.ref (ad 0), .int (nI (p)), .int (nI (w))] D (zT cI cZ) B (wM cI cZ ad) S (fun (r : Int32) (S1 : zS) => r = (nI (1)) ∧ S1 = S) := by
  refine zMi_of (cc := cX5_isChannel) (maxL := 3) (ret := (some .boolean)) (by decide) rfl (Nat.le_of_ble_eq_true rfl) ?_
  intro pg en s mm below meth cd hx hb hr hml hown hts hlk hF hR ls hl
  have hl : lv_has ls 3 [(0, .ref (ad 0)), (1, .int (nI (p))), (2, .int (nI (w)))] := hl
  refine lv_iload_n hx hb dX5_isChannel_0 rfl (lv_at hl 1 rfl) ?_
  refine z_callS_i (As := [.int (nI (p))]) (rest := []) (w := wM cI cZ ad) ⟨hx, hb, hml, hown, hts⟩ hF hR (c_X5_isPartition_ok hG S p (by omega)) (va_cwS 1 hts gX5_isChannel_X5_isPartition rfl rfl rfl (by decide +kernel) ⟨Nat.le_of_ble_eq_true rfl, Nat.le_of_ble_eq_true rfl⟩) rfl hl rfl (Nat.le_of_ble_eq_true rfl) (by decide) dX5_isChannel_1 (fun r1 S1 H locs hp1 hR => ?_)
  obtain ⟨hr1, hs1⟩ := hp1
  subst r1
  subst S1
  refine z_if_eq_n (tgt := 19) hx hb dX5_isChannel_4 (by decide) (by omega) (fun h4_2 => by omega) (fun h4_2 => ?_)
  refine lv_aload_n hx hb dX5_isChannel_7 rfl (lv_at hl 0 rfl) ?_
  refine lv_iload_n hx hb dX5_isChannel_8 rfl (lv_at hl 2 rfl) ?_
  refine z_callV_i (As := [.int (nI (w))]) (rest := []) (w := wM cI cZ ad) ⟨hx, hb, hml, hown, hts⟩ hF hR (c_X5_isWorker_ok hG S w hO (by omega)) (cwV 1 hts gX5_isChannel_X5_isWorker rfl rfl rfl (by decide +kernel) ⟨Nat.le_of_ble_eq_true rfl, Nat.le_of_ble_eq_true rfl⟩) (wM_c0 S) rfl rfl rfl hl rfl (Nat.le_of_ble_eq_true rfl) (by decide) dX5_isChannel_9 (fun r3 S3 H locs hp3 hR => ?_)
  obtain ⟨hr3, hs3⟩ := hp3
  subst r3
  subst S3
  refine z_if_eq_n (tgt := 19) hx hb dX5_isChannel_12 (by decide) (by omega) (fun h12_4 => by omega) (fun h12_4 => ?_)
  refine lv_iconst (v := (nI (1))) hx hb dX5_isChannel_15 (by decide) ?_
  refine lv_goto (tgt := 20) hx hb dX5_isChannel_16 (by decide) ?_
  exact z_zret (w := wM cI cZ ad) (S1 := S) hx hb hr hlk hF hR dX5_isChannel_20 (by decide) (⟨rfl, rfl⟩)
set_option maxHeartbeats 4000000 in
set_option maxRecDepth 100000 in
theorem c_X5_isChannel_b1 {l : Launch} {D : va_G} {cI cZ : ClassId} {ad : Nat → Nat} {B : Nat → Prop} (hG : ∀ S : zS, va_D B (wM cI cZ ad S)) (S : zS) (x y : Int32) (hO : zOK S) (hxb : zbad x 4) : zMi l yX5_isChannel wsX5_isChannel ({ frames := 2, cells := 0, slots := 0, locals := 43 } : Room) [.ref (ad 0), .int (x), .int (y)] D (zT cI cZ) B (wM cI cZ ad) S (fun (r : Int32) (S1 : zS) => r = (nI (0)) ∧ S1 = S) := by
  refine zMi_of (cc := cX5_isChannel) (maxL := 3) (ret := (some .boolean)) (by decide) rfl (Nat.le_of_ble_eq_true rfl) ?_
  intro pg en s mm below meth cd hx hb hr hml hown hts hlk hF hR ls hl
  have hl : lv_has ls 3 [(0, .ref (ad 0)), (1, .int (x)), (2, .int (y))] := hl
  refine lv_iload_n hx hb dX5_isChannel_0 rfl (lv_at hl 1 rfl) ?_
  refine z_callS_i (As := [.int (x)]) (rest := []) (w := wM cI cZ ad) ⟨hx, hb, hml, hown, hts⟩ hF hR (c_X5_isPartition_bad hG S ((x)) hxb) (va_cwS 1 hts gX5_isChannel_X5_isPartition rfl rfl rfl (by decide +kernel) ⟨Nat.le_of_ble_eq_true rfl, Nat.le_of_ble_eq_true rfl⟩) rfl hl rfl (Nat.le_of_ble_eq_true rfl) (by decide) dX5_isChannel_1 (fun r1 S1 H locs hp1 hR => ?_)
  obtain ⟨hr1, hs1⟩ := hp1
  subst r1
  subst S1
  refine z_if_eq_n (tgt := 19) hx hb dX5_isChannel_4 (by decide) (by omega) (fun h4_2 => ?_) (fun h4_2 => by omega)
  refine lv_iconst (v := (nI (0))) hx hb dX5_isChannel_19 (by decide) ?_
  exact z_zret (w := wM cI cZ ad) (S1 := S) hx hb hr hlk hF hR dX5_isChannel_20 (by decide) (⟨rfl, rfl⟩)
set_option maxHeartbeats 4000000 in
set_option maxRecDepth 100000 in
theorem c_X5_isChannel_b2 {l : Launch} {D : va_G} {cI cZ : ClassId} {ad : Nat → Nat} {B : Nat → Prop} (hG : ∀ S : zS, va_D B (wM cI cZ ad S)) (S : zS) (p : Nat) (x : Int32) (hO : zOK S) (hp : p < 4) (hxb : zbad x (zn S 22 0)) : zMi l yX5_isChannel wsX5_isChannel ({ frames := 2, cells := 0, slots := 0, locals := 43 } : Room) [.ref (ad 0), .int (nI (p)), .int (x)] D (zT cI cZ) B (wM cI cZ ad) S (fun (r : Int32) (S1 : zS) => r = (nI (0)) ∧ S1 = S) := by
  refine zMi_of (cc := cX5_isChannel) (maxL := 3) (ret := (some .boolean)) (by decide) rfl (Nat.le_of_ble_eq_true rfl) ?_
  intro pg en s mm below meth cd hx hb hr hml hown hts hlk hF hR ls hl
  have hl : lv_has ls 3 [(0, .ref (ad 0)), (1, .int (nI (p))), (2, .int (x))] := hl
  refine lv_iload_n hx hb dX5_isChannel_0 rfl (lv_at hl 1 rfl) ?_
  refine z_callS_i (As := [.int (nI (p))]) (rest := []) (w := wM cI cZ ad) ⟨hx, hb, hml, hown, hts⟩ hF hR (c_X5_isPartition_ok hG S p (by omega)) (va_cwS 1 hts gX5_isChannel_X5_isPartition rfl rfl rfl (by decide +kernel) ⟨Nat.le_of_ble_eq_true rfl, Nat.le_of_ble_eq_true rfl⟩) rfl hl rfl (Nat.le_of_ble_eq_true rfl) (by decide) dX5_isChannel_1 (fun r1 S1 H locs hp1 hR => ?_)
  obtain ⟨hr1, hs1⟩ := hp1
  subst r1
  subst S1
  refine z_if_eq_n (tgt := 19) hx hb dX5_isChannel_4 (by decide) (by omega) (fun h4_2 => by omega) (fun h4_2 => ?_)
  refine lv_aload_n hx hb dX5_isChannel_7 rfl (lv_at hl 0 rfl) ?_
  refine lv_iload_n hx hb dX5_isChannel_8 rfl (lv_at hl 2 rfl) ?_
  refine z_callV_i (As := [.int (x)]) (rest := []) (w := wM cI cZ ad) ⟨hx, hb, hml, hown, hts⟩ hF hR (c_X5_isWorker_bad hG S ((x)) hO hxb) (cwV 1 hts gX5_isChannel_X5_isWorker rfl rfl rfl (by decide +kernel) ⟨Nat.le_of_ble_eq_true rfl, Nat.le_of_ble_eq_true rfl⟩) (wM_c0 S) rfl rfl rfl hl rfl (Nat.le_of_ble_eq_true rfl) (by decide) dX5_isChannel_9 (fun r3 S3 H locs hp3 hR => ?_)
  obtain ⟨hr3, hs3⟩ := hp3
  subst r3
  subst S3
  refine z_if_eq_n (tgt := 19) hx hb dX5_isChannel_12 (by decide) (by omega) (fun h12_4 => ?_) (fun h12_4 => by omega)
  refine lv_iconst (v := (nI (0))) hx hb dX5_isChannel_19 (by decide) ?_
  exact z_zret (w := wM cI cZ ad) (S1 := S) hx hb hr hlk hF hR dX5_isChannel_20 (by decide) (⟨rfl, rfl⟩)
set_option maxHeartbeats 4000000 in
set_option maxRecDepth 100000 in
theorem c_X5_workerOfGroup {l : Launch} {D : va_G} {cI cZ : ClassId} {ad : Nat → Nat} {B : Nat → Prop} (hG : ∀ S : zS, va_D B (wM cI cZ ad S)) (S : zS) (g v : Nat) (hg : g ≤ 7) (hv : v ≤ 4) : zMi l yX5_workerOfGroup wsX5_workerOfGroup ({ frames := 0, cells := 0, slots := 0, locals := 0 } : Room) [.int (nI (g)), .int (nI (v))] D (zT cI cZ) B (wM cI cZ ad) S (fun (r : Int32) (S1 : zS) => r = (nI (g * v / 8)) ∧ S1 = S) := by
  refine zMi_of (cc := cX5_workerOfGroup) (maxL := 2) (ret := (some .int)) (by decide) rfl (Nat.le_of_ble_eq_true rfl) ?_
  intro pg en s mm below meth cd hx hb hr hml hown hts hlk hF hR ls hl
  have hl : lv_has ls 2 [(0, .int (nI (g))), (1, .int (nI (v)))] := hl
  refine lv_iload_n hx hb dX5_workerOfGroup_0 rfl (lv_at hl 0 rfl) ?_
  refine lv_iload_n hx hb dX5_workerOfGroup_1 rfl (lv_at hl 1 rfl) ?_
  refine z_imul_n hx hb dX5_workerOfGroup_2 ?_
  refine lv_bipush (v := (nI (8))) hx hb dX5_workerOfGroup_3 (by decide) ?_
  refine z_idiv_n hx hb dX5_workerOfGroup_5 (by have := Nat.mul_le_mul hg hv; omega) (by omega) (by omega) ?_
  exact z_iret (w := wM cI cZ ad) (S1 := S) hx hb hr hlk hF hR dX5_workerOfGroup_6 (⟨rfl, rfl⟩)
set_option maxHeartbeats 4000000 in
set_option maxRecDepth 100000 in
theorem c_X5_workerOfKey {l : Launch} {D : va_G} {cI cZ : ClassId} {ad : Nat → Nat} {B : Nat → Prop} (hG : ∀ S : zS, va_D B (wM cI cZ ad S)) (S : zS) (key : Nat) (hO : zOK S) (hk : key ≤ 31) : zMi l yX5_workerOfKey wsX5_workerOfKey ({ frames := 1, cells := 0, slots := 0, locals := 21 } : Room) [.ref (ad 0), .int (nI (key))] D (zT cI cZ) B (wM cI cZ ad) S (fun (r : Int32) (S1 : zS) => r = (nI (zown (zn S 22 0) key)) ∧ S1 = S) := by
  refine zMi_of (cc := cX5_workerOfKey) (maxL := 2) (ret := (some .int)) (by decide) rfl (Nat.le_of_ble_eq_true rfl) ?_
  intro pg en s mm below meth cd hx hb hr hml hown hts hlk hF hR ls hl
  have hinX5 : ∀ w ∈ wsX50, w ∈ wsX5_workerOfKey := by decide +kernel
  have hl : lv_has ls 2 [(0, .ref (ad 0)), (1, .int (nI (key)))] := hl
  have hW1 := (zOK.w hO).2.1
  have hW4 := (zOK.w hO).2.2
  refine lv_iload_n hx hb dX5_workerOfKey_0 rfl (lv_at hl 1 rfl) ?_
  refine lv_bipush (v := (nI (8))) hx hb dX5_workerOfKey_1 (by decide) ?_
  refine z_irem_n hx hb dX5_workerOfKey_3 (by omega) (by omega) (by omega) ?_
  refine lv_aload_n hx hb dX5_workerOfKey_4 rfl (lv_at hl 0 rfl) ?_
  refine z_get (own := RX5) (C := RX5) (T := TX5) (N := 27) (k := 1) (v := .int (S 22 0)) hx hb hts hinX5 hown hF hR (wM_c0 S) rfl (by decide) (by decide +kernel) rfl rfl dX5_workerOfKey_5 ?_
  refine lv_topi (fun v1 ev1 => ?_)
  obtain rfl : v1 = (nI (zn S 22 0)) := ev1.trans (zOK.w hO).1
  refine z_callS_i (As := [.int (nI (key % 8)), .int (nI (zn S 22 0))]) (rest := []) (w := wM cI cZ ad) ⟨hx, hb, hml, hown, hts⟩ hF hR (c_X5_workerOfGroup hG S (key % 8) (zn S 22 0) (by omega) (by omega)) (va_cwS 2 hts gX5_workerOfKey_X5_workerOfGroup rfl rfl rfl (by decide +kernel) ⟨Nat.le_of_ble_eq_true rfl, Nat.le_of_ble_eq_true rfl⟩) rfl hl rfl (Nat.le_of_ble_eq_true rfl) (by decide) dX5_workerOfKey_8 (fun r2 S2 H locs hp2 hR => ?_)
  obtain ⟨hr2, hs2⟩ := hp2
  subst r2
  subst S2
  exact z_iret (w := wM cI cZ ad) (S1 := S) hx hb hr hlk hF hR dX5_workerOfKey_11 (⟨rfl, rfl⟩)
set_option maxHeartbeats 4000000 in
set_option maxRecDepth 100000 in
theorem c_X5_channel {l : Launch} {D : va_G} {cI cZ : ClassId} {ad : Nat → Nat} {B : Nat → Prop} (hG : ∀ S : zS, va_D B (wM cI cZ ad S)) (S : zS) (p w : Nat) : zMi l yX5_channel wsX5_channel ({ frames := 0, cells := 0, slots := 0, locals := 0 } : Room) [.int (nI (p)), .int (nI (w))] D (zT cI cZ) B (wM cI cZ ad) S (fun (r : Int32) (S1 : zS) => r = (nI (4 * p + w)) ∧ S1 = S) := by
  refine zMi_of (cc := cX5_channel) (maxL := 2) (ret := (some .int)) (by decide) rfl (Nat.le_of_ble_eq_true rfl) ?_
  intro pg en s mm below meth cd hx hb hr hml hown hts hlk hF hR ls hl
  have hl : lv_has ls 2 [(0, .int (nI (p))), (1, .int (nI (w)))] := hl
  refine lv_iconst (v := (nI (4))) hx hb dX5_channel_0 (by decide) ?_
  refine lv_iload_n hx hb dX5_channel_1 rfl (lv_at hl 0 rfl) ?_
  refine z_imul_n hx hb dX5_channel_2 ?_
  refine lv_iload_n hx hb dX5_channel_3 rfl (lv_at hl 1 rfl) ?_
  refine z_iadd_n hx hb dX5_channel_4 ?_
  exact z_iret (w := wM cI cZ ad) (S1 := S) hx hb hr hlk hF hR dX5_channel_5 (⟨rfl, rfl⟩)
set_option maxHeartbeats 4000000 in
set_option maxRecDepth 100000 in
theorem c_X5_unseals {l : Launch} {D : va_G} {cI cZ : ClassId} {ad : Nat → Nat} {B : Nat → Prop} (hG : ∀ S : zS, va_D B (wM cI cZ ad S)) (S : zS)  : zMv l yX5_unseals wsX5_unseals ({ frames := 0, cells := 0, slots := 0, locals := 0 } : Room) [.ref (ad 0)] D (zT cI cZ) B (wM cI cZ ad) S (fun (S1 : zS) => S1 = mo_uns S) := by
  refine zMv_of (cc := cX5_unseals) (maxL := 2) (ret := none) (by decide) rfl (Nat.le_of_ble_eq_true rfl) ?_
  intro pg en s mm below meth cd hx hb hr hml hown hts hlk hF hR ls hl
  have hinX5 : ∀ w ∈ wsX50, w ∈ wsX5_unseals := by decide +kernel
  have hl : lv_has ls 2 [(0, .ref (ad 0))] := hl
  refine lv_iconst (v := (nI (0))) hx hb dX5_unseals_0 (by decide) ?_
  refine lv_istore_n (lv' := [(1, .int (nI (0))), (0, .ref (ad 0))]) hx hb dX5_unseals_1 rfl hl (by decide) rfl (fun ls hl => ?_)
  have loop2 : ∀ (nf2 : Nat) (k : Nat), (k ≤ 4) → 4 - k < nf2 → ∀ (H : Heap) (locs : List Loc), zR D B (wM cI cZ ad (zU S 21 (sp_m1 (S 21) k))) s H locs → ∀ ls : Array Slot, lv_has ls 2 [(0, .ref (ad 0)), (1, .int (nI (k)))] → W pg l en ({ frames := 0, cells := 0, slots := 0, locals := 0 } : Room) s mm ([.ref (ad 0)] : List Value).toArray below meth cd H locs 0 0 (MQ below (va_Qv (fun (S1 : zS) => S1 = mo_uns S) (zB D (zT cI cZ) (wM cI cZ ad)) (zA B s.heap.size)) ([.ref (ad 0)] : List Value).toArray s 0 0 (zA B s.heap.size)) (F0 mm 2 ls []) := by
    intro nf2
    induction nf2 with
    | zero => intro k hk4 hn; exact absurd hn (Nat.not_lt_zero _)
    | succ nf2 ih2 =>
      intro k hk4 hn H locs hR ls hl
      refine lv_iload_n hx hb dX5_unseals_2 rfl (lv_at hl 1 rfl) ?_
      refine lv_iconst (v := (nI (4))) hx hb dX5_unseals_3 (by decide) ?_
      refine z_ge_n (tgt := 20) hx hb dX5_unseals_4 (by decide) (by omega) (by omega) (fun h4_1 => ?_) (fun h4_1 => ?_)
      · skip
        exact z_vret (w := wM cI cZ ad) (S1 := (zU S 21 (sp_m1 (S 21) k))) hx hb hr hlk hF hR dX5_unseals_20 (by rw [show k = 4 from by omega]; rfl)
      · skip
        refine lv_aload_n hx hb dX5_unseals_7 rfl (lv_at hl 0 rfl) ?_
        refine z_get (own := RX5) (C := RX5) (T := TX5) (N := 27) (k := 14) (v := .ref (ad 22)) hx hb hts hinX5 hown hF hR (wM_c0 (zU S 21 (sp_m1 (S 21) k))) rfl (by decide) (by decide +kernel) rfl rfl dX5_unseals_8 ?_
        refine lv_iload_n hx hb dX5_unseals_11 rfl (lv_at hl 1 rfl) ?_
        refine lv_iconst (v := ((-1))) hx hb dX5_unseals_12 (by decide) ?_
        refine z_iast_n (f := (sp_m1 (S 21) k)) hx hb hF (hG (zU S 21 (sp_m1 (S 21) k))) hR (wM_c22 (zU S 21 (sp_m1 (S 21) k))) zT_0 (wM_s21 (zU S 21 (sp_m1 (S 21) k)) (upd ((sp_m1 (S 21) k)) (k) ((-1)))) dX5_unseals_13 (by decide) (by omega) (fun H locs hR => ?_)
        have hR : zR D B (wM cI cZ ad (zU S 21 (upd ((sp_m1 (S 21) k)) (k) ((-1))))) s H locs := by rw [show (zU S 21 (upd ((sp_m1 (S 21) k)) (k) ((-1)))) = zU (zU S 21 (sp_m1 (S 21) k)) 21 (upd ((sp_m1 (S 21) k)) (k) ((-1))) from (zU_U _ _ _ _).symm]; exact hR
        refine lv_iinc (v := (nI (k + 1))) (lv' := [(1, .int (nI (k + 1))), (0, .ref (ad 0))]) hx hb dX5_unseals_14 hl (k := 1) rfl (z_inc _) (by decide) rfl (fun ls hl => ?_)
        refine lv_goto (tgt := 2) hx hb dX5_unseals_17 (by decide) ?_
        exact ih2 (k + 1) (by omega) (by omega) _ _ (by rw [show zU S 21 (sp_m1 (S 21) (k + 1)) = (zU S 21 (upd ((sp_m1 (S 21) k)) (k) ((-1)))) from rfl]; exact hR) ls (lv_sub hl [1, 0] rfl)
  exact loop2 _ 0 (by omega) (Nat.lt_succ_self _) _ _ (by rw [show zU S 21 (sp_m1 (S 21) 0) = S from zU_self S 21]; exact hR) ls (lv_sub hl [1, 0] rfl)
set_option maxHeartbeats 4000000 in
set_option maxRecDepth 100000 in
theorem c_X5_copies_5_3 {l : Launch} {D : va_G} {cI cZ : ClassId} {ad : Nat → Nat} {B : Nat → Prop} (hG : ∀ S : zS, va_D B (wM cI cZ ad S)) (S : zS)  : zMv l yX5_copies wsX5_copies ({ frames := 0, cells := 0, slots := 0, locals := 0 } : Room) [.ref (ad 6), .ref (ad 4)] D (zT cI cZ) B (wM cI cZ ad) S (fun (S1 : zS) => S1 = mo_cpy S 3 5 4) := by
  refine zMv_of (cc := cX5_copies) (maxL := 3) (ret := none) (by decide) rfl (Nat.le_of_ble_eq_true rfl) ?_
  intro pg en s mm below meth cd hx hb hr hml hown hts hlk hF hR ls hl
  have hl : lv_has ls 3 [(0, .ref (ad 6)), (1, .ref (ad 4))] := hl
  refine lv_iconst (v := (nI (0))) hx hb dX5_copies_0 (by decide) ?_
  refine lv_istore_n (lv' := [(2, .int (nI (0))), (0, .ref (ad 6)), (1, .ref (ad 4))]) hx hb dX5_copies_1 rfl hl (by decide) rfl (fun ls hl => ?_)
  have loop2 : ∀ (nf2 : Nat) (k : Nat), (k ≤ 4) → 4 - k < nf2 → ∀ (H : Heap) (locs : List Loc), zR D B (wM cI cZ ad (zU S 3 (sp_cp (S 3) (S 5) k))) s H locs → ∀ ls : Array Slot, lv_has ls 3 [(0, .ref (ad 6)), (1, .ref (ad 4)), (2, .int (nI (k)))] → W pg l en ({ frames := 0, cells := 0, slots := 0, locals := 0 } : Room) s mm ([.ref (ad 6), .ref (ad 4)] : List Value).toArray below meth cd H locs 0 0 (MQ below (va_Qv (fun (S1 : zS) => S1 = mo_cpy S 3 5 4) (zB D (zT cI cZ) (wM cI cZ ad)) (zA B s.heap.size)) ([.ref (ad 6), .ref (ad 4)] : List Value).toArray s 0 0 (zA B s.heap.size)) (F0 mm 2 ls []) := by
    intro nf2
    induction nf2 with
    | zero => intro k hk4 hn; exact absurd hn (Nat.not_lt_zero _)
    | succ nf2 ih2 =>
      intro k hk4 hn H locs hR ls hl
      refine lv_iload_n hx hb dX5_copies_2 rfl (lv_at hl 2 rfl) ?_
      refine lv_aload_n hx hb dX5_copies_3 rfl (lv_at hl 0 rfl) ?_
      refine z_alen_n (n := 4) hx hb hF hR (wM_c6 (zU S 3 (sp_cp (S 3) (S 5) k))) zT_0 dX5_copies_4 ?_
      refine z_ge_n (tgt := 20) hx hb dX5_copies_5 (by decide) (by omega) (by omega) (fun h5_1 => ?_) (fun h5_1 => ?_)
      · skip
        exact z_vret (w := wM cI cZ ad) (S1 := (zU S 3 (sp_cp (S 3) (S 5) k))) hx hb hr hlk hF hR dX5_copies_20 (by rw [show k = 4 from by omega]; rfl)
      · skip
        refine lv_aload_n hx hb dX5_copies_8 rfl (lv_at hl 1 rfl) ?_
        refine lv_iload_n hx hb dX5_copies_9 rfl (lv_at hl 2 rfl) ?_
        refine lv_aload_n hx hb dX5_copies_10 rfl (lv_at hl 0 rfl) ?_
        refine lv_iload_n hx hb dX5_copies_11 rfl (lv_at hl 2 rfl) ?_
        refine z_iald_n (f := S 5) hx hb hF hR (wM_c6 (zU S 3 (sp_cp (S 3) (S 5) k))) zT_0 dX5_copies_12 (by decide) (by omega) ?_
        refine z_iast_n (f := (sp_cp (S 3) (S 5) k)) hx hb hF (hG (zU S 3 (sp_cp (S 3) (S 5) k))) hR (wM_c4 (zU S 3 (sp_cp (S 3) (S 5) k))) zT_0 (wM_s3 (zU S 3 (sp_cp (S 3) (S 5) k)) (upd ((sp_cp (S 3) (S 5) k)) (k) (S 5 (k)))) dX5_copies_13 (by decide) (by omega) (fun H locs hR => ?_)
        have hR : zR D B (wM cI cZ ad (zU S 3 (upd ((sp_cp (S 3) (S 5) k)) (k) (S 5 (k))))) s H locs := by rw [show (zU S 3 (upd ((sp_cp (S 3) (S 5) k)) (k) (S 5 (k)))) = zU (zU S 3 (sp_cp (S 3) (S 5) k)) 3 (upd ((sp_cp (S 3) (S 5) k)) (k) (S 5 (k))) from (zU_U _ _ _ _).symm]; exact hR
        refine lv_iinc (v := (nI (k + 1))) (lv' := [(2, .int (nI (k + 1))), (0, .ref (ad 6)), (1, .ref (ad 4))]) hx hb dX5_copies_14 hl (k := 2) rfl (z_inc _) (by decide) rfl (fun ls hl => ?_)
        refine lv_goto (tgt := 2) hx hb dX5_copies_17 (by decide) ?_
        exact ih2 (k + 1) (by omega) (by omega) _ _ (by rw [show zU S 3 (sp_cp (S 3) (S 5) (k + 1)) = (zU S 3 (upd ((sp_cp (S 3) (S 5) k)) (k) (S 5 (k)))) from rfl]; exact hR) ls (lv_sub hl [1, 2, 0] rfl)
  exact loop2 _ 0 (by omega) (Nat.lt_succ_self _) _ _ (by rw [show zU S 3 (sp_cp (S 3) (S 5) 0) = S from zU_self S 3]; exact hR) ls (lv_sub hl [1, 2, 0] rfl)
set_option maxHeartbeats 4000000 in
set_option maxRecDepth 100000 in
theorem c_X5_copies_15_17 {l : Launch} {D : va_G} {cI cZ : ClassId} {ad : Nat → Nat} {B : Nat → Prop} (hG : ∀ S : zS, va_D B (wM cI cZ ad S)) (S : zS)  : zMv l yX5_copies wsX5_copies ({ frames := 0, cells := 0, slots := 0, locals := 0 } : Room) [.ref (ad 16), .ref (ad 18)] D (zT cI cZ) B (wM cI cZ ad) S (fun (S1 : zS) => S1 = mo_cpy S 17 15 32) := by
  refine zMv_of (cc := cX5_copies) (maxL := 3) (ret := none) (by decide) rfl (Nat.le_of_ble_eq_true rfl) ?_
  intro pg en s mm below meth cd hx hb hr hml hown hts hlk hF hR ls hl
  have hl : lv_has ls 3 [(0, .ref (ad 16)), (1, .ref (ad 18))] := hl
  refine lv_iconst (v := (nI (0))) hx hb dX5_copies_0 (by decide) ?_
  refine lv_istore_n (lv' := [(2, .int (nI (0))), (0, .ref (ad 16)), (1, .ref (ad 18))]) hx hb dX5_copies_1 rfl hl (by decide) rfl (fun ls hl => ?_)
  have loop2 : ∀ (nf2 : Nat) (k : Nat), (k ≤ 32) → 32 - k < nf2 → ∀ (H : Heap) (locs : List Loc), zR D B (wM cI cZ ad (zU S 17 (sp_cp (S 17) (S 15) k))) s H locs → ∀ ls : Array Slot, lv_has ls 3 [(0, .ref (ad 16)), (1, .ref (ad 18)), (2, .int (nI (k)))] → W pg l en ({ frames := 0, cells := 0, slots := 0, locals := 0 } : Room) s mm ([.ref (ad 16), .ref (ad 18)] : List Value).toArray below meth cd H locs 0 0 (MQ below (va_Qv (fun (S1 : zS) => S1 = mo_cpy S 17 15 32) (zB D (zT cI cZ) (wM cI cZ ad)) (zA B s.heap.size)) ([.ref (ad 16), .ref (ad 18)] : List Value).toArray s 0 0 (zA B s.heap.size)) (F0 mm 2 ls []) := by
    intro nf2
    induction nf2 with
    | zero => intro k hk4 hn; exact absurd hn (Nat.not_lt_zero _)
    | succ nf2 ih2 =>
      intro k hk4 hn H locs hR ls hl
      refine lv_iload_n hx hb dX5_copies_2 rfl (lv_at hl 2 rfl) ?_
      refine lv_aload_n hx hb dX5_copies_3 rfl (lv_at hl 0 rfl) ?_
      refine z_alen_n (n := 32) hx hb hF hR (wM_c16 (zU S 17 (sp_cp (S 17) (S 15) k))) zT_0 dX5_copies_4 ?_
      refine z_ge_n (tgt := 20) hx hb dX5_copies_5 (by decide) (by omega) (by omega) (fun h5_1 => ?_) (fun h5_1 => ?_)
      · skip
        exact z_vret (w := wM cI cZ ad) (S1 := (zU S 17 (sp_cp (S 17) (S 15) k))) hx hb hr hlk hF hR dX5_copies_20 (by rw [show k = 32 from by omega]; rfl)
      · skip
        refine lv_aload_n hx hb dX5_copies_8 rfl (lv_at hl 1 rfl) ?_
        refine lv_iload_n hx hb dX5_copies_9 rfl (lv_at hl 2 rfl) ?_
        refine lv_aload_n hx hb dX5_copies_10 rfl (lv_at hl 0 rfl) ?_
        refine lv_iload_n hx hb dX5_copies_11 rfl (lv_at hl 2 rfl) ?_
        refine z_iald_n (f := S 15) hx hb hF hR (wM_c16 (zU S 17 (sp_cp (S 17) (S 15) k))) zT_0 dX5_copies_12 (by decide) (by omega) ?_
        refine z_iast_n (f := (sp_cp (S 17) (S 15) k)) hx hb hF (hG (zU S 17 (sp_cp (S 17) (S 15) k))) hR (wM_c18 (zU S 17 (sp_cp (S 17) (S 15) k))) zT_0 (wM_s17 (zU S 17 (sp_cp (S 17) (S 15) k)) (upd ((sp_cp (S 17) (S 15) k)) (k) (S 15 (k)))) dX5_copies_13 (by decide) (by omega) (fun H locs hR => ?_)
        have hR : zR D B (wM cI cZ ad (zU S 17 (upd ((sp_cp (S 17) (S 15) k)) (k) (S 15 (k))))) s H locs := by rw [show (zU S 17 (upd ((sp_cp (S 17) (S 15) k)) (k) (S 15 (k)))) = zU (zU S 17 (sp_cp (S 17) (S 15) k)) 17 (upd ((sp_cp (S 17) (S 15) k)) (k) (S 15 (k))) from (zU_U _ _ _ _).symm]; exact hR
        refine lv_iinc (v := (nI (k + 1))) (lv' := [(2, .int (nI (k + 1))), (0, .ref (ad 16)), (1, .ref (ad 18))]) hx hb dX5_copies_14 hl (k := 2) rfl (z_inc _) (by decide) rfl (fun ls hl => ?_)
        refine lv_goto (tgt := 2) hx hb dX5_copies_17 (by decide) ?_
        exact ih2 (k + 1) (by omega) (by omega) _ _ (by rw [show zU S 17 (sp_cp (S 17) (S 15) (k + 1)) = (zU S 17 (upd ((sp_cp (S 17) (S 15) k)) (k) (S 15 (k)))) from rfl]; exact hR) ls (lv_sub hl [1, 2, 0] rfl)
  exact loop2 _ 0 (by omega) (Nat.lt_succ_self _) _ _ (by rw [show zU S 17 (sp_cp (S 17) (S 15) 0) = S from zU_self S 17]; exact hR) ls (lv_sub hl [1, 2, 0] rfl)
set_option maxHeartbeats 4000000 in
set_option maxRecDepth 100000 in
theorem c_X5_copies_16_18 {l : Launch} {D : va_G} {cI cZ : ClassId} {ad : Nat → Nat} {B : Nat → Prop} (hG : ∀ S : zS, va_D B (wM cI cZ ad S)) (S : zS)  : zMv l yX5_copies wsX5_copies ({ frames := 0, cells := 0, slots := 0, locals := 0 } : Room) [.ref (ad 17), .ref (ad 19)] D (zT cI cZ) B (wM cI cZ ad) S (fun (S1 : zS) => S1 = mo_cpy S 18 16 32) := by
  refine zMv_of (cc := cX5_copies) (maxL := 3) (ret := none) (by decide) rfl (Nat.le_of_ble_eq_true rfl) ?_
  intro pg en s mm below meth cd hx hb hr hml hown hts hlk hF hR ls hl
  have hl : lv_has ls 3 [(0, .ref (ad 17)), (1, .ref (ad 19))] := hl
  refine lv_iconst (v := (nI (0))) hx hb dX5_copies_0 (by decide) ?_
  refine lv_istore_n (lv' := [(2, .int (nI (0))), (0, .ref (ad 17)), (1, .ref (ad 19))]) hx hb dX5_copies_1 rfl hl (by decide) rfl (fun ls hl => ?_)
  have loop2 : ∀ (nf2 : Nat) (k : Nat), (k ≤ 32) → 32 - k < nf2 → ∀ (H : Heap) (locs : List Loc), zR D B (wM cI cZ ad (zU S 18 (sp_cp (S 18) (S 16) k))) s H locs → ∀ ls : Array Slot, lv_has ls 3 [(0, .ref (ad 17)), (1, .ref (ad 19)), (2, .int (nI (k)))] → W pg l en ({ frames := 0, cells := 0, slots := 0, locals := 0 } : Room) s mm ([.ref (ad 17), .ref (ad 19)] : List Value).toArray below meth cd H locs 0 0 (MQ below (va_Qv (fun (S1 : zS) => S1 = mo_cpy S 18 16 32) (zB D (zT cI cZ) (wM cI cZ ad)) (zA B s.heap.size)) ([.ref (ad 17), .ref (ad 19)] : List Value).toArray s 0 0 (zA B s.heap.size)) (F0 mm 2 ls []) := by
    intro nf2
    induction nf2 with
    | zero => intro k hk4 hn; exact absurd hn (Nat.not_lt_zero _)
    | succ nf2 ih2 =>
      intro k hk4 hn H locs hR ls hl
      refine lv_iload_n hx hb dX5_copies_2 rfl (lv_at hl 2 rfl) ?_
      refine lv_aload_n hx hb dX5_copies_3 rfl (lv_at hl 0 rfl) ?_
      refine z_alen_n (n := 32) hx hb hF hR (wM_c17 (zU S 18 (sp_cp (S 18) (S 16) k))) zT_0 dX5_copies_4 ?_
      refine z_ge_n (tgt := 20) hx hb dX5_copies_5 (by decide) (by omega) (by omega) (fun h5_1 => ?_) (fun h5_1 => ?_)
      · skip
        exact z_vret (w := wM cI cZ ad) (S1 := (zU S 18 (sp_cp (S 18) (S 16) k))) hx hb hr hlk hF hR dX5_copies_20 (by rw [show k = 32 from by omega]; rfl)
      · skip
        refine lv_aload_n hx hb dX5_copies_8 rfl (lv_at hl 1 rfl) ?_
        refine lv_iload_n hx hb dX5_copies_9 rfl (lv_at hl 2 rfl) ?_
        refine lv_aload_n hx hb dX5_copies_10 rfl (lv_at hl 0 rfl) ?_
        refine lv_iload_n hx hb dX5_copies_11 rfl (lv_at hl 2 rfl) ?_
        refine z_iald_n (f := S 16) hx hb hF hR (wM_c17 (zU S 18 (sp_cp (S 18) (S 16) k))) zT_0 dX5_copies_12 (by decide) (by omega) ?_
        refine z_iast_n (f := (sp_cp (S 18) (S 16) k)) hx hb hF (hG (zU S 18 (sp_cp (S 18) (S 16) k))) hR (wM_c19 (zU S 18 (sp_cp (S 18) (S 16) k))) zT_0 (wM_s18 (zU S 18 (sp_cp (S 18) (S 16) k)) (upd ((sp_cp (S 18) (S 16) k)) (k) (S 16 (k)))) dX5_copies_13 (by decide) (by omega) (fun H locs hR => ?_)
        have hR : zR D B (wM cI cZ ad (zU S 18 (upd ((sp_cp (S 18) (S 16) k)) (k) (S 16 (k))))) s H locs := by rw [show (zU S 18 (upd ((sp_cp (S 18) (S 16) k)) (k) (S 16 (k)))) = zU (zU S 18 (sp_cp (S 18) (S 16) k)) 18 (upd ((sp_cp (S 18) (S 16) k)) (k) (S 16 (k))) from (zU_U _ _ _ _).symm]; exact hR
        refine lv_iinc (v := (nI (k + 1))) (lv' := [(2, .int (nI (k + 1))), (0, .ref (ad 17)), (1, .ref (ad 19))]) hx hb dX5_copies_14 hl (k := 2) rfl (z_inc _) (by decide) rfl (fun ls hl => ?_)
        refine lv_goto (tgt := 2) hx hb dX5_copies_17 (by decide) ?_
        exact ih2 (k + 1) (by omega) (by omega) _ _ (by rw [show zU S 18 (sp_cp (S 18) (S 16) (k + 1)) = (zU S 18 (upd ((sp_cp (S 18) (S 16) k)) (k) (S 16 (k)))) from rfl]; exact hR) ls (lv_sub hl [1, 2, 0] rfl)
  exact loop2 _ 0 (by omega) (Nat.lt_succ_self _) _ _ (by rw [show zU S 18 (sp_cp (S 18) (S 16) 0) = S from zU_self S 18]; exact hR) ls (lv_sub hl [1, 2, 0] rfl)
set_option maxHeartbeats 4000000 in
set_option maxRecDepth 100000 in
theorem c_X5_copies_3_2 {l : Launch} {D : va_G} {cI cZ : ClassId} {ad : Nat → Nat} {B : Nat → Prop} (hG : ∀ S : zS, va_D B (wM cI cZ ad S)) (S : zS)  : zMv l yX5_copies wsX5_copies ({ frames := 0, cells := 0, slots := 0, locals := 0 } : Room) [.ref (ad 4), .ref (ad 3)] D (zT cI cZ) B (wM cI cZ ad) S (fun (S1 : zS) => S1 = mo_cpy S 2 3 4) := by
  refine zMv_of (cc := cX5_copies) (maxL := 3) (ret := none) (by decide) rfl (Nat.le_of_ble_eq_true rfl) ?_
  intro pg en s mm below meth cd hx hb hr hml hown hts hlk hF hR ls hl
  have hl : lv_has ls 3 [(0, .ref (ad 4)), (1, .ref (ad 3))] := hl
  refine lv_iconst (v := (nI (0))) hx hb dX5_copies_0 (by decide) ?_
  refine lv_istore_n (lv' := [(2, .int (nI (0))), (0, .ref (ad 4)), (1, .ref (ad 3))]) hx hb dX5_copies_1 rfl hl (by decide) rfl (fun ls hl => ?_)
  have loop2 : ∀ (nf2 : Nat) (k : Nat), (k ≤ 4) → 4 - k < nf2 → ∀ (H : Heap) (locs : List Loc), zR D B (wM cI cZ ad (zU S 2 (sp_cp (S 2) (S 3) k))) s H locs → ∀ ls : Array Slot, lv_has ls 3 [(0, .ref (ad 4)), (1, .ref (ad 3)), (2, .int (nI (k)))] → W pg l en ({ frames := 0, cells := 0, slots := 0, locals := 0 } : Room) s mm ([.ref (ad 4), .ref (ad 3)] : List Value).toArray below meth cd H locs 0 0 (MQ below (va_Qv (fun (S1 : zS) => S1 = mo_cpy S 2 3 4) (zB D (zT cI cZ) (wM cI cZ ad)) (zA B s.heap.size)) ([.ref (ad 4), .ref (ad 3)] : List Value).toArray s 0 0 (zA B s.heap.size)) (F0 mm 2 ls []) := by
    intro nf2
    induction nf2 with
    | zero => intro k hk4 hn; exact absurd hn (Nat.not_lt_zero _)
    | succ nf2 ih2 =>
      intro k hk4 hn H locs hR ls hl
      refine lv_iload_n hx hb dX5_copies_2 rfl (lv_at hl 2 rfl) ?_
      refine lv_aload_n hx hb dX5_copies_3 rfl (lv_at hl 0 rfl) ?_
      refine z_alen_n (n := 4) hx hb hF hR (wM_c4 (zU S 2 (sp_cp (S 2) (S 3) k))) zT_0 dX5_copies_4 ?_
      refine z_ge_n (tgt := 20) hx hb dX5_copies_5 (by decide) (by omega) (by omega) (fun h5_1 => ?_) (fun h5_1 => ?_)
      · skip
        exact z_vret (w := wM cI cZ ad) (S1 := (zU S 2 (sp_cp (S 2) (S 3) k))) hx hb hr hlk hF hR dX5_copies_20 (by rw [show k = 4 from by omega]; rfl)
      · skip
        refine lv_aload_n hx hb dX5_copies_8 rfl (lv_at hl 1 rfl) ?_
        refine lv_iload_n hx hb dX5_copies_9 rfl (lv_at hl 2 rfl) ?_
        refine lv_aload_n hx hb dX5_copies_10 rfl (lv_at hl 0 rfl) ?_
        refine lv_iload_n hx hb dX5_copies_11 rfl (lv_at hl 2 rfl) ?_
        refine z_iald_n (f := S 3) hx hb hF hR (wM_c4 (zU S 2 (sp_cp (S 2) (S 3) k))) zT_0 dX5_copies_12 (by decide) (by omega) ?_
        refine z_iast_n (f := (sp_cp (S 2) (S 3) k)) hx hb hF (hG (zU S 2 (sp_cp (S 2) (S 3) k))) hR (wM_c3 (zU S 2 (sp_cp (S 2) (S 3) k))) zT_0 (wM_s2 (zU S 2 (sp_cp (S 2) (S 3) k)) (upd ((sp_cp (S 2) (S 3) k)) (k) (S 3 (k)))) dX5_copies_13 (by decide) (by omega) (fun H locs hR => ?_)
        have hR : zR D B (wM cI cZ ad (zU S 2 (upd ((sp_cp (S 2) (S 3) k)) (k) (S 3 (k))))) s H locs := by rw [show (zU S 2 (upd ((sp_cp (S 2) (S 3) k)) (k) (S 3 (k)))) = zU (zU S 2 (sp_cp (S 2) (S 3) k)) 2 (upd ((sp_cp (S 2) (S 3) k)) (k) (S 3 (k))) from (zU_U _ _ _ _).symm]; exact hR
        refine lv_iinc (v := (nI (k + 1))) (lv' := [(2, .int (nI (k + 1))), (0, .ref (ad 4)), (1, .ref (ad 3))]) hx hb dX5_copies_14 hl (k := 2) rfl (z_inc _) (by decide) rfl (fun ls hl => ?_)
        refine lv_goto (tgt := 2) hx hb dX5_copies_17 (by decide) ?_
        exact ih2 (k + 1) (by omega) (by omega) _ _ (by rw [show zU S 2 (sp_cp (S 2) (S 3) (k + 1)) = (zU S 2 (upd ((sp_cp (S 2) (S 3) k)) (k) (S 3 (k)))) from rfl]; exact hR) ls (lv_sub hl [1, 2, 0] rfl)
  exact loop2 _ 0 (by omega) (Nat.lt_succ_self _) _ _ (by rw [show zU S 2 (sp_cp (S 2) (S 3) 0) = S from zU_self S 2]; exact hR) ls (lv_sub hl [1, 2, 0] rfl)
set_option maxHeartbeats 4000000 in
set_option maxRecDepth 100000 in
theorem c_X5_copies_17_9 {l : Launch} {D : va_G} {cI cZ : ClassId} {ad : Nat → Nat} {B : Nat → Prop} (hG : ∀ S : zS, va_D B (wM cI cZ ad S)) (S : zS)  : zMv l yX5_copies wsX5_copies ({ frames := 0, cells := 0, slots := 0, locals := 0 } : Room) [.ref (ad 18), .ref (ad 10)] D (zT cI cZ) B (wM cI cZ ad) S (fun (S1 : zS) => S1 = mo_cpy S 9 17 32) := by
  refine zMv_of (cc := cX5_copies) (maxL := 3) (ret := none) (by decide) rfl (Nat.le_of_ble_eq_true rfl) ?_
  intro pg en s mm below meth cd hx hb hr hml hown hts hlk hF hR ls hl
  have hl : lv_has ls 3 [(0, .ref (ad 18)), (1, .ref (ad 10))] := hl
  refine lv_iconst (v := (nI (0))) hx hb dX5_copies_0 (by decide) ?_
  refine lv_istore_n (lv' := [(2, .int (nI (0))), (0, .ref (ad 18)), (1, .ref (ad 10))]) hx hb dX5_copies_1 rfl hl (by decide) rfl (fun ls hl => ?_)
  have loop2 : ∀ (nf2 : Nat) (k : Nat), (k ≤ 32) → 32 - k < nf2 → ∀ (H : Heap) (locs : List Loc), zR D B (wM cI cZ ad (zU S 9 (sp_cp (S 9) (S 17) k))) s H locs → ∀ ls : Array Slot, lv_has ls 3 [(0, .ref (ad 18)), (1, .ref (ad 10)), (2, .int (nI (k)))] → W pg l en ({ frames := 0, cells := 0, slots := 0, locals := 0 } : Room) s mm ([.ref (ad 18), .ref (ad 10)] : List Value).toArray below meth cd H locs 0 0 (MQ below (va_Qv (fun (S1 : zS) => S1 = mo_cpy S 9 17 32) (zB D (zT cI cZ) (wM cI cZ ad)) (zA B s.heap.size)) ([.ref (ad 18), .ref (ad 10)] : List Value).toArray s 0 0 (zA B s.heap.size)) (F0 mm 2 ls []) := by
    intro nf2
    induction nf2 with
    | zero => intro k hk4 hn; exact absurd hn (Nat.not_lt_zero _)
    | succ nf2 ih2 =>
      intro k hk4 hn H locs hR ls hl
      refine lv_iload_n hx hb dX5_copies_2 rfl (lv_at hl 2 rfl) ?_
      refine lv_aload_n hx hb dX5_copies_3 rfl (lv_at hl 0 rfl) ?_
      refine z_alen_n (n := 32) hx hb hF hR (wM_c18 (zU S 9 (sp_cp (S 9) (S 17) k))) zT_0 dX5_copies_4 ?_
      refine z_ge_n (tgt := 20) hx hb dX5_copies_5 (by decide) (by omega) (by omega) (fun h5_1 => ?_) (fun h5_1 => ?_)
      · skip
        exact z_vret (w := wM cI cZ ad) (S1 := (zU S 9 (sp_cp (S 9) (S 17) k))) hx hb hr hlk hF hR dX5_copies_20 (by rw [show k = 32 from by omega]; rfl)
      · skip
        refine lv_aload_n hx hb dX5_copies_8 rfl (lv_at hl 1 rfl) ?_
        refine lv_iload_n hx hb dX5_copies_9 rfl (lv_at hl 2 rfl) ?_
        refine lv_aload_n hx hb dX5_copies_10 rfl (lv_at hl 0 rfl) ?_
        refine lv_iload_n hx hb dX5_copies_11 rfl (lv_at hl 2 rfl) ?_
        refine z_iald_n (f := S 17) hx hb hF hR (wM_c18 (zU S 9 (sp_cp (S 9) (S 17) k))) zT_0 dX5_copies_12 (by decide) (by omega) ?_
        refine z_iast_n (f := (sp_cp (S 9) (S 17) k)) hx hb hF (hG (zU S 9 (sp_cp (S 9) (S 17) k))) hR (wM_c10 (zU S 9 (sp_cp (S 9) (S 17) k))) zT_0 (wM_s9 (zU S 9 (sp_cp (S 9) (S 17) k)) (upd ((sp_cp (S 9) (S 17) k)) (k) (S 17 (k)))) dX5_copies_13 (by decide) (by omega) (fun H locs hR => ?_)
        have hR : zR D B (wM cI cZ ad (zU S 9 (upd ((sp_cp (S 9) (S 17) k)) (k) (S 17 (k))))) s H locs := by rw [show (zU S 9 (upd ((sp_cp (S 9) (S 17) k)) (k) (S 17 (k)))) = zU (zU S 9 (sp_cp (S 9) (S 17) k)) 9 (upd ((sp_cp (S 9) (S 17) k)) (k) (S 17 (k))) from (zU_U _ _ _ _).symm]; exact hR
        refine lv_iinc (v := (nI (k + 1))) (lv' := [(2, .int (nI (k + 1))), (0, .ref (ad 18)), (1, .ref (ad 10))]) hx hb dX5_copies_14 hl (k := 2) rfl (z_inc _) (by decide) rfl (fun ls hl => ?_)
        refine lv_goto (tgt := 2) hx hb dX5_copies_17 (by decide) ?_
        exact ih2 (k + 1) (by omega) (by omega) _ _ (by rw [show zU S 9 (sp_cp (S 9) (S 17) (k + 1)) = (zU S 9 (upd ((sp_cp (S 9) (S 17) k)) (k) (S 17 (k)))) from rfl]; exact hR) ls (lv_sub hl [1, 2, 0] rfl)
  exact loop2 _ 0 (by omega) (Nat.lt_succ_self _) _ _ (by rw [show zU S 9 (sp_cp (S 9) (S 17) 0) = S from zU_self S 9]; exact hR) ls (lv_sub hl [1, 2, 0] rfl)
set_option maxHeartbeats 4000000 in
set_option maxRecDepth 100000 in
theorem c_X5_copies_18_10 {l : Launch} {D : va_G} {cI cZ : ClassId} {ad : Nat → Nat} {B : Nat → Prop} (hG : ∀ S : zS, va_D B (wM cI cZ ad S)) (S : zS)  : zMv l yX5_copies wsX5_copies ({ frames := 0, cells := 0, slots := 0, locals := 0 } : Room) [.ref (ad 19), .ref (ad 11)] D (zT cI cZ) B (wM cI cZ ad) S (fun (S1 : zS) => S1 = mo_cpy S 10 18 32) := by
  refine zMv_of (cc := cX5_copies) (maxL := 3) (ret := none) (by decide) rfl (Nat.le_of_ble_eq_true rfl) ?_
  intro pg en s mm below meth cd hx hb hr hml hown hts hlk hF hR ls hl
  have hl : lv_has ls 3 [(0, .ref (ad 19)), (1, .ref (ad 11))] := hl
  refine lv_iconst (v := (nI (0))) hx hb dX5_copies_0 (by decide) ?_
  refine lv_istore_n (lv' := [(2, .int (nI (0))), (0, .ref (ad 19)), (1, .ref (ad 11))]) hx hb dX5_copies_1 rfl hl (by decide) rfl (fun ls hl => ?_)
  have loop2 : ∀ (nf2 : Nat) (k : Nat), (k ≤ 32) → 32 - k < nf2 → ∀ (H : Heap) (locs : List Loc), zR D B (wM cI cZ ad (zU S 10 (sp_cp (S 10) (S 18) k))) s H locs → ∀ ls : Array Slot, lv_has ls 3 [(0, .ref (ad 19)), (1, .ref (ad 11)), (2, .int (nI (k)))] → W pg l en ({ frames := 0, cells := 0, slots := 0, locals := 0 } : Room) s mm ([.ref (ad 19), .ref (ad 11)] : List Value).toArray below meth cd H locs 0 0 (MQ below (va_Qv (fun (S1 : zS) => S1 = mo_cpy S 10 18 32) (zB D (zT cI cZ) (wM cI cZ ad)) (zA B s.heap.size)) ([.ref (ad 19), .ref (ad 11)] : List Value).toArray s 0 0 (zA B s.heap.size)) (F0 mm 2 ls []) := by
    intro nf2
    induction nf2 with
    | zero => intro k hk4 hn; exact absurd hn (Nat.not_lt_zero _)
    | succ nf2 ih2 =>
      intro k hk4 hn H locs hR ls hl
      refine lv_iload_n hx hb dX5_copies_2 rfl (lv_at hl 2 rfl) ?_
      refine lv_aload_n hx hb dX5_copies_3 rfl (lv_at hl 0 rfl) ?_
      refine z_alen_n (n := 32) hx hb hF hR (wM_c19 (zU S 10 (sp_cp (S 10) (S 18) k))) zT_0 dX5_copies_4 ?_
      refine z_ge_n (tgt := 20) hx hb dX5_copies_5 (by decide) (by omega) (by omega) (fun h5_1 => ?_) (fun h5_1 => ?_)
      · skip
        exact z_vret (w := wM cI cZ ad) (S1 := (zU S 10 (sp_cp (S 10) (S 18) k))) hx hb hr hlk hF hR dX5_copies_20 (by rw [show k = 32 from by omega]; rfl)
      · skip
        refine lv_aload_n hx hb dX5_copies_8 rfl (lv_at hl 1 rfl) ?_
        refine lv_iload_n hx hb dX5_copies_9 rfl (lv_at hl 2 rfl) ?_
        refine lv_aload_n hx hb dX5_copies_10 rfl (lv_at hl 0 rfl) ?_
        refine lv_iload_n hx hb dX5_copies_11 rfl (lv_at hl 2 rfl) ?_
        refine z_iald_n (f := S 18) hx hb hF hR (wM_c19 (zU S 10 (sp_cp (S 10) (S 18) k))) zT_0 dX5_copies_12 (by decide) (by omega) ?_
        refine z_iast_n (f := (sp_cp (S 10) (S 18) k)) hx hb hF (hG (zU S 10 (sp_cp (S 10) (S 18) k))) hR (wM_c11 (zU S 10 (sp_cp (S 10) (S 18) k))) zT_0 (wM_s10 (zU S 10 (sp_cp (S 10) (S 18) k)) (upd ((sp_cp (S 10) (S 18) k)) (k) (S 18 (k)))) dX5_copies_13 (by decide) (by omega) (fun H locs hR => ?_)
        have hR : zR D B (wM cI cZ ad (zU S 10 (upd ((sp_cp (S 10) (S 18) k)) (k) (S 18 (k))))) s H locs := by rw [show (zU S 10 (upd ((sp_cp (S 10) (S 18) k)) (k) (S 18 (k)))) = zU (zU S 10 (sp_cp (S 10) (S 18) k)) 10 (upd ((sp_cp (S 10) (S 18) k)) (k) (S 18 (k))) from (zU_U _ _ _ _).symm]; exact hR
        refine lv_iinc (v := (nI (k + 1))) (lv' := [(2, .int (nI (k + 1))), (0, .ref (ad 19)), (1, .ref (ad 11))]) hx hb dX5_copies_14 hl (k := 2) rfl (z_inc _) (by decide) rfl (fun ls hl => ?_)
        refine lv_goto (tgt := 2) hx hb dX5_copies_17 (by decide) ?_
        exact ih2 (k + 1) (by omega) (by omega) _ _ (by rw [show zU S 10 (sp_cp (S 10) (S 18) (k + 1)) = (zU S 10 (upd ((sp_cp (S 10) (S 18) k)) (k) (S 18 (k)))) from rfl]; exact hR) ls (lv_sub hl [1, 2, 0] rfl)
  exact loop2 _ 0 (by omega) (Nat.lt_succ_self _) _ _ (by rw [show zU S 10 (sp_cp (S 10) (S 18) 0) = S from zU_self S 10]; exact hR) ls (lv_sub hl [1, 2, 0] rfl)
set_option maxHeartbeats 4000000 in
set_option maxRecDepth 100000 in
theorem c_X5_clears_7 {l : Launch} {D : va_G} {cI cZ : ClassId} {ad : Nat → Nat} {B : Nat → Prop} (hG : ∀ S : zS, va_D B (wM cI cZ ad S)) (S : zS)  : zMv l yX5_clears wsX5_clears ({ frames := 0, cells := 0, slots := 0, locals := 0 } : Room) [.ref (ad 8)] D (zT cI cZ) B (wM cI cZ ad) S (fun (S1 : zS) => S1 = mo_clr S 7 16) := by
  refine zMv_of (cc := cX5_clears) (maxL := 2) (ret := none) (by decide) rfl (Nat.le_of_ble_eq_true rfl) ?_
  intro pg en s mm below meth cd hx hb hr hml hown hts hlk hF hR ls hl
  have hl : lv_has ls 2 [(0, .ref (ad 8))] := hl
  refine lv_iconst (v := (nI (0))) hx hb dX5_clears_0 (by decide) ?_
  refine lv_istore_n (lv' := [(1, .int (nI (0))), (0, .ref (ad 8))]) hx hb dX5_clears_1 rfl hl (by decide) rfl (fun ls hl => ?_)
  have loop2 : ∀ (nf2 : Nat) (k : Nat), (k ≤ 16) → 16 - k < nf2 → ∀ (H : Heap) (locs : List Loc), zR D B (wM cI cZ ad (zU S 7 (sp_z (S 7) k))) s H locs → ∀ ls : Array Slot, lv_has ls 2 [(0, .ref (ad 8)), (1, .int (nI (k)))] → W pg l en ({ frames := 0, cells := 0, slots := 0, locals := 0 } : Room) s mm ([.ref (ad 8)] : List Value).toArray below meth cd H locs 0 0 (MQ below (va_Qv (fun (S1 : zS) => S1 = mo_clr S 7 16) (zB D (zT cI cZ) (wM cI cZ ad)) (zA B s.heap.size)) ([.ref (ad 8)] : List Value).toArray s 0 0 (zA B s.heap.size)) (F0 mm 2 ls []) := by
    intro nf2
    induction nf2 with
    | zero => intro k hk4 hn; exact absurd hn (Nat.not_lt_zero _)
    | succ nf2 ih2 =>
      intro k hk4 hn H locs hR ls hl
      refine lv_iload_n hx hb dX5_clears_2 rfl (lv_at hl 1 rfl) ?_
      refine lv_aload_n hx hb dX5_clears_3 rfl (lv_at hl 0 rfl) ?_
      refine z_alen_n (n := 16) hx hb hF hR (wM_c8 (zU S 7 (sp_z (S 7) k))) zT_0 dX5_clears_4 ?_
      refine z_ge_n (tgt := 18) hx hb dX5_clears_5 (by decide) (by omega) (by omega) (fun h5_1 => ?_) (fun h5_1 => ?_)
      · skip
        exact z_vret (w := wM cI cZ ad) (S1 := (zU S 7 (sp_z (S 7) k))) hx hb hr hlk hF hR dX5_clears_18 (by rw [show k = 16 from by omega]; rfl)
      · skip
        refine lv_aload_n hx hb dX5_clears_8 rfl (lv_at hl 0 rfl) ?_
        refine lv_iload_n hx hb dX5_clears_9 rfl (lv_at hl 1 rfl) ?_
        refine lv_iconst (v := (nI (0))) hx hb dX5_clears_10 (by decide) ?_
        refine z_iast_n (f := (sp_z (S 7) k)) hx hb hF (hG (zU S 7 (sp_z (S 7) k))) hR (wM_c8 (zU S 7 (sp_z (S 7) k))) zT_0 (wM_s7 (zU S 7 (sp_z (S 7) k)) (upd ((sp_z (S 7) k)) (k) (nI (0)))) dX5_clears_11 (by decide) (by omega) (fun H locs hR => ?_)
        have hR : zR D B (wM cI cZ ad (zU S 7 (upd ((sp_z (S 7) k)) (k) (nI (0))))) s H locs := by rw [show (zU S 7 (upd ((sp_z (S 7) k)) (k) (nI (0)))) = zU (zU S 7 (sp_z (S 7) k)) 7 (upd ((sp_z (S 7) k)) (k) (nI (0))) from (zU_U _ _ _ _).symm]; exact hR
        refine lv_iinc (v := (nI (k + 1))) (lv' := [(1, .int (nI (k + 1))), (0, .ref (ad 8))]) hx hb dX5_clears_12 hl (k := 1) rfl (z_inc _) (by decide) rfl (fun ls hl => ?_)
        refine lv_goto (tgt := 2) hx hb dX5_clears_15 (by decide) ?_
        exact ih2 (k + 1) (by omega) (by omega) _ _ (by rw [show zU S 7 (sp_z (S 7) (k + 1)) = (zU S 7 (upd ((sp_z (S 7) k)) (k) (nI (0)))) from rfl]; exact hR) ls (lv_sub hl [1, 0] rfl)
  exact loop2 _ 0 (by omega) (Nat.lt_succ_self _) _ _ (by rw [show zU S 7 (sp_z (S 7) 0) = S from zU_self S 7]; exact hR) ls (lv_sub hl [1, 0] rfl)
set_option maxHeartbeats 4000000 in
set_option maxRecDepth 100000 in
theorem c_X5_clears_11 {l : Launch} {D : va_G} {cI cZ : ClassId} {ad : Nat → Nat} {B : Nat → Prop} (hG : ∀ S : zS, va_D B (wM cI cZ ad S)) (S : zS)  : zMv l yX5_clears wsX5_clears ({ frames := 0, cells := 0, slots := 0, locals := 0 } : Room) [.ref (ad 12)] D (zT cI cZ) B (wM cI cZ ad) S (fun (S1 : zS) => S1 = mo_clr S 11 32) := by
  refine zMv_of (cc := cX5_clears) (maxL := 2) (ret := none) (by decide) rfl (Nat.le_of_ble_eq_true rfl) ?_
  intro pg en s mm below meth cd hx hb hr hml hown hts hlk hF hR ls hl
  have hl : lv_has ls 2 [(0, .ref (ad 12))] := hl
  refine lv_iconst (v := (nI (0))) hx hb dX5_clears_0 (by decide) ?_
  refine lv_istore_n (lv' := [(1, .int (nI (0))), (0, .ref (ad 12))]) hx hb dX5_clears_1 rfl hl (by decide) rfl (fun ls hl => ?_)
  have loop2 : ∀ (nf2 : Nat) (k : Nat), (k ≤ 32) → 32 - k < nf2 → ∀ (H : Heap) (locs : List Loc), zR D B (wM cI cZ ad (zU S 11 (sp_z (S 11) k))) s H locs → ∀ ls : Array Slot, lv_has ls 2 [(0, .ref (ad 12)), (1, .int (nI (k)))] → W pg l en ({ frames := 0, cells := 0, slots := 0, locals := 0 } : Room) s mm ([.ref (ad 12)] : List Value).toArray below meth cd H locs 0 0 (MQ below (va_Qv (fun (S1 : zS) => S1 = mo_clr S 11 32) (zB D (zT cI cZ) (wM cI cZ ad)) (zA B s.heap.size)) ([.ref (ad 12)] : List Value).toArray s 0 0 (zA B s.heap.size)) (F0 mm 2 ls []) := by
    intro nf2
    induction nf2 with
    | zero => intro k hk4 hn; exact absurd hn (Nat.not_lt_zero _)
    | succ nf2 ih2 =>
      intro k hk4 hn H locs hR ls hl
      refine lv_iload_n hx hb dX5_clears_2 rfl (lv_at hl 1 rfl) ?_
      refine lv_aload_n hx hb dX5_clears_3 rfl (lv_at hl 0 rfl) ?_
      refine z_alen_n (n := 32) hx hb hF hR (wM_c12 (zU S 11 (sp_z (S 11) k))) zT_0 dX5_clears_4 ?_
      refine z_ge_n (tgt := 18) hx hb dX5_clears_5 (by decide) (by omega) (by omega) (fun h5_1 => ?_) (fun h5_1 => ?_)
      · skip
        exact z_vret (w := wM cI cZ ad) (S1 := (zU S 11 (sp_z (S 11) k))) hx hb hr hlk hF hR dX5_clears_18 (by rw [show k = 32 from by omega]; rfl)
      · skip
        refine lv_aload_n hx hb dX5_clears_8 rfl (lv_at hl 0 rfl) ?_
        refine lv_iload_n hx hb dX5_clears_9 rfl (lv_at hl 1 rfl) ?_
        refine lv_iconst (v := (nI (0))) hx hb dX5_clears_10 (by decide) ?_
        refine z_iast_n (f := (sp_z (S 11) k)) hx hb hF (hG (zU S 11 (sp_z (S 11) k))) hR (wM_c12 (zU S 11 (sp_z (S 11) k))) zT_0 (wM_s11 (zU S 11 (sp_z (S 11) k)) (upd ((sp_z (S 11) k)) (k) (nI (0)))) dX5_clears_11 (by decide) (by omega) (fun H locs hR => ?_)
        have hR : zR D B (wM cI cZ ad (zU S 11 (upd ((sp_z (S 11) k)) (k) (nI (0))))) s H locs := by rw [show (zU S 11 (upd ((sp_z (S 11) k)) (k) (nI (0)))) = zU (zU S 11 (sp_z (S 11) k)) 11 (upd ((sp_z (S 11) k)) (k) (nI (0))) from (zU_U _ _ _ _).symm]; exact hR
        refine lv_iinc (v := (nI (k + 1))) (lv' := [(1, .int (nI (k + 1))), (0, .ref (ad 12))]) hx hb dX5_clears_12 hl (k := 1) rfl (z_inc _) (by decide) rfl (fun ls hl => ?_)
        refine lv_goto (tgt := 2) hx hb dX5_clears_15 (by decide) ?_
        exact ih2 (k + 1) (by omega) (by omega) _ _ (by rw [show zU S 11 (sp_z (S 11) (k + 1)) = (zU S 11 (upd ((sp_z (S 11) k)) (k) (nI (0)))) from rfl]; exact hR) ls (lv_sub hl [1, 0] rfl)
  exact loop2 _ 0 (by omega) (Nat.lt_succ_self _) _ _ (by rw [show zU S 11 (sp_z (S 11) 0) = S from zU_self S 11]; exact hR) ls (lv_sub hl [1, 0] rfl)
set_option maxHeartbeats 4000000 in
set_option maxRecDepth 100000 in
theorem c_X5_clears_12 {l : Launch} {D : va_G} {cI cZ : ClassId} {ad : Nat → Nat} {B : Nat → Prop} (hG : ∀ S : zS, va_D B (wM cI cZ ad S)) (S : zS)  : zMv l yX5_clears wsX5_clears ({ frames := 0, cells := 0, slots := 0, locals := 0 } : Room) [.ref (ad 13)] D (zT cI cZ) B (wM cI cZ ad) S (fun (S1 : zS) => S1 = mo_clr S 12 32) := by
  refine zMv_of (cc := cX5_clears) (maxL := 2) (ret := none) (by decide) rfl (Nat.le_of_ble_eq_true rfl) ?_
  intro pg en s mm below meth cd hx hb hr hml hown hts hlk hF hR ls hl
  have hl : lv_has ls 2 [(0, .ref (ad 13))] := hl
  refine lv_iconst (v := (nI (0))) hx hb dX5_clears_0 (by decide) ?_
  refine lv_istore_n (lv' := [(1, .int (nI (0))), (0, .ref (ad 13))]) hx hb dX5_clears_1 rfl hl (by decide) rfl (fun ls hl => ?_)
  have loop2 : ∀ (nf2 : Nat) (k : Nat), (k ≤ 32) → 32 - k < nf2 → ∀ (H : Heap) (locs : List Loc), zR D B (wM cI cZ ad (zU S 12 (sp_z (S 12) k))) s H locs → ∀ ls : Array Slot, lv_has ls 2 [(0, .ref (ad 13)), (1, .int (nI (k)))] → W pg l en ({ frames := 0, cells := 0, slots := 0, locals := 0 } : Room) s mm ([.ref (ad 13)] : List Value).toArray below meth cd H locs 0 0 (MQ below (va_Qv (fun (S1 : zS) => S1 = mo_clr S 12 32) (zB D (zT cI cZ) (wM cI cZ ad)) (zA B s.heap.size)) ([.ref (ad 13)] : List Value).toArray s 0 0 (zA B s.heap.size)) (F0 mm 2 ls []) := by
    intro nf2
    induction nf2 with
    | zero => intro k hk4 hn; exact absurd hn (Nat.not_lt_zero _)
    | succ nf2 ih2 =>
      intro k hk4 hn H locs hR ls hl
      refine lv_iload_n hx hb dX5_clears_2 rfl (lv_at hl 1 rfl) ?_
      refine lv_aload_n hx hb dX5_clears_3 rfl (lv_at hl 0 rfl) ?_
      refine z_alen_n (n := 32) hx hb hF hR (wM_c13 (zU S 12 (sp_z (S 12) k))) zT_0 dX5_clears_4 ?_
      refine z_ge_n (tgt := 18) hx hb dX5_clears_5 (by decide) (by omega) (by omega) (fun h5_1 => ?_) (fun h5_1 => ?_)
      · skip
        exact z_vret (w := wM cI cZ ad) (S1 := (zU S 12 (sp_z (S 12) k))) hx hb hr hlk hF hR dX5_clears_18 (by rw [show k = 32 from by omega]; rfl)
      · skip
        refine lv_aload_n hx hb dX5_clears_8 rfl (lv_at hl 0 rfl) ?_
        refine lv_iload_n hx hb dX5_clears_9 rfl (lv_at hl 1 rfl) ?_
        refine lv_iconst (v := (nI (0))) hx hb dX5_clears_10 (by decide) ?_
        refine z_iast_n (f := (sp_z (S 12) k)) hx hb hF (hG (zU S 12 (sp_z (S 12) k))) hR (wM_c13 (zU S 12 (sp_z (S 12) k))) zT_0 (wM_s12 (zU S 12 (sp_z (S 12) k)) (upd ((sp_z (S 12) k)) (k) (nI (0)))) dX5_clears_11 (by decide) (by omega) (fun H locs hR => ?_)
        have hR : zR D B (wM cI cZ ad (zU S 12 (upd ((sp_z (S 12) k)) (k) (nI (0))))) s H locs := by rw [show (zU S 12 (upd ((sp_z (S 12) k)) (k) (nI (0)))) = zU (zU S 12 (sp_z (S 12) k)) 12 (upd ((sp_z (S 12) k)) (k) (nI (0))) from (zU_U _ _ _ _).symm]; exact hR
        refine lv_iinc (v := (nI (k + 1))) (lv' := [(1, .int (nI (k + 1))), (0, .ref (ad 13))]) hx hb dX5_clears_12 hl (k := 1) rfl (z_inc _) (by decide) rfl (fun ls hl => ?_)
        refine lv_goto (tgt := 2) hx hb dX5_clears_15 (by decide) ?_
        exact ih2 (k + 1) (by omega) (by omega) _ _ (by rw [show zU S 12 (sp_z (S 12) (k + 1)) = (zU S 12 (upd ((sp_z (S 12) k)) (k) (nI (0)))) from rfl]; exact hR) ls (lv_sub hl [1, 0] rfl)
  exact loop2 _ 0 (by omega) (Nat.lt_succ_self _) _ _ (by rw [show zU S 12 (sp_z (S 12) 0) = S from zU_self S 12]; exact hR) ls (lv_sub hl [1, 0] rfl)
set_option maxHeartbeats 4000000 in
set_option maxRecDepth 100000 in
theorem c_X5_puts {l : Launch} {D : va_G} {cI cZ : ClassId} {ad : Nat → Nat} {B : Nat → Prop} (hG : ∀ S : zS, va_D B (wM cI cZ ad S)) (S : zS) (c : Nat) (x : Int32) (hO : zOK S) (hc : c < 16) (hn : zn S 7 c < 8) : zMv l yX5_puts wsX5_puts ({ frames := 0, cells := 0, slots := 0, locals := 0 } : Room) [.ref (ad 0), .int (nI (c)), .int (x)] D (zT cI cZ) B (wM cI cZ ad) S (fun (S1 : zS) => S1 = sp_put S c x) := by
  refine zMv_of (cc := cX5_puts) (maxL := 3) (ret := none) (by decide) rfl (Nat.le_of_ble_eq_true rfl) ?_
  intro pg en s mm below meth cd hx hb hr hml hown hts hlk hF hR ls hl
  have hinX5 : ∀ w ∈ wsX50, w ∈ wsX5_puts := by decide +kernel
  have hl : lv_has ls 3 [(0, .ref (ad 0)), (1, .int (nI (c))), (2, .int (x))] := hl
  refine lv_aload_n hx hb dX5_puts_0 rfl (lv_at hl 0 rfl) ?_
  refine z_get (own := RX5) (C := RX5) (T := TX5) (N := 27) (k := 5) (v := .ref (ad 7)) hx hb hts hinX5 hown hF hR (wM_c0 S) rfl (by decide) (by decide +kernel) rfl rfl dX5_puts_1 ?_
  refine lv_bipush (v := (nI (8))) hx hb dX5_puts_4 (by decide) ?_
  refine lv_iload_n hx hb dX5_puts_6 rfl (lv_at hl 1 rfl) ?_
  refine z_imul_n hx hb dX5_puts_7 ?_
  refine lv_aload_n hx hb dX5_puts_8 rfl (lv_at hl 0 rfl) ?_
  refine z_get (own := RX5) (C := RX5) (T := TX5) (N := 27) (k := 6) (v := .ref (ad 8)) hx hb hts hinX5 hown hF hR (wM_c0 S) rfl (by decide) (by decide +kernel) rfl rfl dX5_puts_9 ?_
  refine lv_iload_n hx hb dX5_puts_12 rfl (lv_at hl 1 rfl) ?_
  refine z_iald_n (f := S 7) hx hb hF hR (wM_c8 S) zT_0 dX5_puts_13 (by decide) (by omega) ?_
  refine lv_topi (fun v2 ev2 => ?_)
  obtain rfl : v2 = (nI (zn S 7 (c))) := ev2.trans (zOK.n7 hO _).1
  have hb13_1 := (zOK.n7 hO (c)).2
  refine z_iadd_n hx hb dX5_puts_14 ?_
  refine lv_iload_n hx hb dX5_puts_15 rfl (lv_at hl 2 rfl) ?_
  refine z_iast_n (f := S 6) hx hb hF (hG S) hR (wM_c7 S) zT_0 (wM_s6 S (upd (S 6) ((8 * c) + (zn S 7 (c))) (x))) dX5_puts_16 (by decide) (by omega) (fun H locs hR => ?_)
  refine lv_aload_n hx hb dX5_puts_17 rfl (lv_at hl 0 rfl) ?_
  refine z_get (own := RX5) (C := RX5) (T := TX5) (N := 27) (k := 6) (v := .ref (ad 8)) hx hb hts hinX5 hown hF hR (wM_c0 (zU S 6 (upd (S 6) ((8 * c) + (zn S 7 (c))) (x)))) rfl (by decide) (by decide +kernel) rfl rfl dX5_puts_18 ?_
  refine lv_iload_n hx hb dX5_puts_21 rfl (lv_at hl 1 rfl) ?_
  refine lv_dup2_11 hx hb dX5_puts_22 rfl rfl ?_
  refine z_iald_n (f := S 7) hx hb hF hR (wM_c8 (zU S 6 (upd (S 6) ((8 * c) + (zn S 7 (c))) (x)))) zT_0 dX5_puts_23 (by decide) (by omega) ?_
  refine lv_topi (fun v4 ev4 => ?_)
  obtain rfl : v4 = (nI (zn S 7 (c))) := ev4.trans (zOK.n7 hO _).1
  have hb23_3 := (zOK.n7 hO (c)).2
  refine lv_iconst (v := (nI (1))) hx hb dX5_puts_24 (by decide) ?_
  refine z_iadd_n hx hb dX5_puts_25 ?_
  refine z_iast_n (f := S 7) hx hb hF (hG (zU S 6 (upd (S 6) ((8 * c) + (zn S 7 (c))) (x)))) hR (wM_c8 (zU S 6 (upd (S 6) ((8 * c) + (zn S 7 (c))) (x)))) zT_0 (wM_s7 (zU S 6 (upd (S 6) ((8 * c) + (zn S 7 (c))) (x))) (upd (S 7) (c) (nI ((zn S 7 (c)) + 1)))) dX5_puts_26 (by decide) (by omega) (fun H locs hR => ?_)
  exact z_vret (w := wM cI cZ ad) (S1 := (zU (zU S 6 (upd (S 6) ((8 * c) + (zn S 7 (c))) (x))) 7 (upd (S 7) (c) (nI ((zn S 7 (c)) + 1))))) hx hb hr hlk hF hR dX5_puts_27 (rfl)
set_option maxHeartbeats 4000000 in
set_option maxRecDepth 100000 in
theorem c_X5_nextEvent {l : Launch} {D : va_G} {cI cZ : ClassId} {ad : Nat → Nat} {B : Nat → Prop} (hG : ∀ S : zS, va_D B (wM cI cZ ad S)) (S : zS) (p : Nat) (hO : zOK S) (hp : p < 4) (hn : zn S 2 p < 60) : zMi l yX5_nextEvent wsX5_nextEvent ({ frames := 0, cells := 0, slots := 0, locals := 0 } : Room) [.ref (ad 0), .int (nI (p))] D (zT cI cZ) B (wM cI cZ ad) S (fun (r : Int32) (S1 : zS) => r = (nI (zev S p)) ∧ S1 = S) := by
  refine zMi_of (cc := cX5_nextEvent) (maxL := 2) (ret := (some .int)) (by decide) rfl (Nat.le_of_ble_eq_true rfl) ?_
  intro pg en s mm below meth cd hx hb hr hml hown hts hlk hF hR ls hl
  have hinX5 : ∀ w ∈ wsX50, w ∈ wsX5_nextEvent := by decide +kernel
  have hl : lv_has ls 2 [(0, .ref (ad 0)), (1, .int (nI (p)))] := hl
  refine lv_aload_n hx hb dX5_nextEvent_0 rfl (lv_at hl 0 rfl) ?_
  refine z_get (own := RX5) (C := RX5) (T := TX5) (N := 27) (k := 4) (v := .ref (ad 2)) hx hb hts hinX5 hown hF hR (wM_c0 S) rfl (by decide) (by decide +kernel) rfl rfl dX5_nextEvent_1 ?_
  refine lv_bipush (v := (nI (60))) hx hb dX5_nextEvent_4 (by decide) ?_
  refine lv_iload_n hx hb dX5_nextEvent_6 rfl (lv_at hl 1 rfl) ?_
  refine z_imul_n hx hb dX5_nextEvent_7 ?_
  refine lv_aload_n hx hb dX5_nextEvent_8 rfl (lv_at hl 0 rfl) ?_
  refine z_get (own := RX5) (C := RX5) (T := TX5) (N := 27) (k := 3) (v := .ref (ad 3)) hx hb hts hinX5 hown hF hR (wM_c0 S) rfl (by decide) (by decide +kernel) rfl rfl dX5_nextEvent_9 ?_
  refine lv_iload_n hx hb dX5_nextEvent_12 rfl (lv_at hl 1 rfl) ?_
  refine z_iald_n (f := S 2) hx hb hF hR (wM_c3 S) zT_0 dX5_nextEvent_13 (by decide) (by omega) ?_
  refine lv_topi (fun v2 ev2 => ?_)
  obtain rfl : v2 = (nI (zn S 2 (p))) := ev2.trans (zOK.n2 hO _).1
  have hb13_1 := (zOK.n2 hO (p)).2
  refine z_iadd_n hx hb dX5_nextEvent_14 ?_
  refine z_iald_n (f := S 1) hx hb hF hR (wM_c2 S) zT_0 dX5_nextEvent_15 (by decide) (by omega) ?_
  refine lv_topi (fun v4 ev4 => ?_)
  obtain rfl : v4 = (nI (zn S 1 ((60 * p) + (zn S 2 (p))))) := ev4.trans (zOK.n1 hO _).1
  have hb15_3 := (zOK.n1 hO ((60 * p) + (zn S 2 (p)))).2
  exact z_iret (w := wM cI cZ ad) (S1 := S) hx hb hr hlk hF hR dX5_nextEvent_16 (⟨rfl, rfl⟩)
set_option maxHeartbeats 4000000 in
set_option maxRecDepth 100000 in
theorem c_X5_canRead {l : Launch} {D : va_G} {cI cZ : ClassId} {ad : Nat → Nat} {B : Nat → Prop} (hG : ∀ S : zS, va_D B (wM cI cZ ad S)) (S : zS) (p : Nat) (hO : zOK S) (hp : p < 4) : zMi l yX5_canRead wsX5_canRead ({ frames := 2, cells := 0, slots := 0, locals := 42 } : Room) [.ref (ad 0), .int (nI (p))] D (zT cI cZ) B (wM cI cZ ad) S (fun (r : Int32) (S1 : zS) => (((zcanR S p) ∧ r = nI 1) ∨ (¬ (zcanR S p) ∧ r = nI 0)) ∧ S1 = S) := by
  refine zMi_of (cc := cX5_canRead) (maxL := 2) (ret := (some .boolean)) (by decide) rfl (Nat.le_of_ble_eq_true rfl) ?_
  intro pg en s mm below meth cd hx hb hr hml hown hts hlk hF hR ls hl
  have hinX5 : ∀ w ∈ wsX50, w ∈ wsX5_canRead := by decide +kernel
  have hl : lv_has ls 2 [(0, .ref (ad 0)), (1, .int (nI (p)))] := hl
  have hW1 := (zOK.w hO).2.1
  have hW4 := (zOK.w hO).2.2
  have hz0 := (zOK.n0 hO p).2
  refine lv_aload_n hx hb dX5_canRead_0 rfl (lv_at hl 0 rfl) ?_
  refine z_get (own := RX5) (C := RX5) (T := TX5) (N := 27) (k := 3) (v := .ref (ad 3)) hx hb hts hinX5 hown hF hR (wM_c0 S) rfl (by decide) (by decide +kernel) rfl rfl dX5_canRead_1 ?_
  refine lv_iload_n hx hb dX5_canRead_4 rfl (lv_at hl 1 rfl) ?_
  refine z_iald_n (f := S 2) hx hb hF hR (wM_c3 S) zT_0 dX5_canRead_5 (by decide) (by omega) ?_
  refine lv_topi (fun v2 ev2 => ?_)
  obtain rfl : v2 = (nI (zn S 2 (p))) := ev2.trans (zOK.n2 hO _).1
  have hb5_1 := (zOK.n2 hO (p)).2
  refine lv_aload_n hx hb dX5_canRead_6 rfl (lv_at hl 0 rfl) ?_
  refine z_get (own := RX5) (C := RX5) (T := TX5) (N := 27) (k := 2) (v := .ref (ad 1)) hx hb hts hinX5 hown hF hR (wM_c0 S) rfl (by decide) (by decide +kernel) rfl rfl dX5_canRead_7 ?_
  refine lv_iload_n hx hb dX5_canRead_10 rfl (lv_at hl 1 rfl) ?_
  refine z_iald_n (f := S 0) hx hb hF hR (wM_c1 S) zT_0 dX5_canRead_11 (by decide) (by omega) ?_
  refine lv_topi (fun v4 ev4 => ?_)
  obtain rfl : v4 = (nI (zn S 0 (p))) := ev4.trans (zOK.n0 hO _).1
  have hb11_3 := (zOK.n0 hO (p)).2
  refine z_ge_n (tgt := 46) hx hb dX5_canRead_12 (by decide) (by omega) (by omega) (fun h12_5 => ?_) (fun h12_5 => ?_)
  · skip
    have q12 := h12_5
    refine lv_iconst (v := (nI (0))) hx hb dX5_canRead_46 (by decide) ?_
    exact z_zret (w := wM cI cZ ad) (S1 := S) hx hb hr hlk hF hR dX5_canRead_47 (by decide) (⟨Or.inr ⟨fun q => by first | (have := q.1; omega) | (have := q.2; have := q39; revert q39; exact fun z => absurd q.2 (Nat.not_lt.mpr z)), rfl⟩, rfl⟩)
  · skip
    have q12 := h12_5
    refine lv_aload_n hx hb dX5_canRead_15 rfl (lv_at hl 0 rfl) ?_
    refine z_get (own := RX5) (C := RX5) (T := TX5) (N := 27) (k := 6) (v := .ref (ad 8)) hx hb hts hinX5 hown hF hR (wM_c0 S) rfl (by decide) (by decide +kernel) rfl rfl dX5_canRead_16 ?_
    refine lv_iload_n hx hb dX5_canRead_19 rfl (lv_at hl 1 rfl) ?_
    refine lv_aload_n hx hb dX5_canRead_20 rfl (lv_at hl 0 rfl) ?_
    refine lv_aload_n hx hb dX5_canRead_21 rfl (lv_at hl 0 rfl) ?_
    refine lv_iload_n hx hb dX5_canRead_22 rfl (lv_at hl 1 rfl) ?_
    refine z_callV_i (As := [.int (nI (p))]) (rest := [.ref (ad 0), .int (nI (p)), .ref (ad 8)]) (w := wM cI cZ ad) ⟨hx, hb, hml, hown, hts⟩ hF hR (c_X5_nextEvent hG S p hO (by omega) (by omega)) (cwV 1 hts gX5_canRead_X5_nextEvent rfl rfl rfl (by decide +kernel) ⟨Nat.le_of_ble_eq_true rfl, Nat.le_of_ble_eq_true rfl⟩) (wM_c0 S) rfl rfl rfl hl rfl (Nat.le_of_ble_eq_true rfl) (by decide) dX5_canRead_23 (fun r6 S6 H locs hp6 hR => ?_)
    obtain ⟨hr6, hs6⟩ := hp6
    subst r6
    subst S6
    refine lv_topi (fun v7 ev7 => ?_)
    obtain rfl : v7 = (nI (zn S 1 (60 * p + zn S 2 p))) := ev7.trans (rfl)
    have hb23 := (zOK.n1 hO (60 * p + zn S 2 p)).2
    refine lv_sipush (v := (nI (1000))) hx hb dX5_canRead_26 (by decide) ?_
    refine z_idiv_n hx hb dX5_canRead_29 (by omega) (by omega) (by omega) ?_
    refine z_callV_i (As := [.int (nI ((zn S 1 (60 * p + zn S 2 p)) / 1000))]) (rest := [.int (nI (p)), .ref (ad 8)]) (w := wM cI cZ ad) ⟨hx, hb, hml, hown, hts⟩ hF hR (c_X5_workerOfKey hG S ((zn S 1 (60 * p + zn S 2 p)) / 1000) hO (by omega)) (cwV 1 hts gX5_canRead_X5_workerOfKey rfl rfl rfl (by decide +kernel) ⟨Nat.le_of_ble_eq_true rfl, Nat.le_of_ble_eq_true rfl⟩) (wM_c0 S) rfl rfl rfl hl rfl (Nat.le_of_ble_eq_true rfl) (by decide) dX5_canRead_30 (fun r8 S8 H locs hp8 hR => ?_)
    obtain ⟨hr8, hs8⟩ := hp8
    subst r8
    subst S8
    have hb30 := (hO.own (zn S 1 (60 * p + zn S 2 p) / 1000)).2
    refine z_callS_i (As := [.int (nI (p)), .int (nI (zown (zn S 22 0) ((zn S 1 (60 * p + zn S 2 p)) / 1000)))]) (rest := [.ref (ad 8)]) (w := wM cI cZ ad) ⟨hx, hb, hml, hown, hts⟩ hF hR (c_X5_channel hG S p (zown (zn S 22 0) ((zn S 1 (60 * p + zn S 2 p)) / 1000))) (va_cwS 2 hts gX5_canRead_X5_channel rfl rfl rfl (by decide +kernel) ⟨Nat.le_of_ble_eq_true rfl, Nat.le_of_ble_eq_true rfl⟩) rfl hl rfl (Nat.le_of_ble_eq_true rfl) (by decide) dX5_canRead_33 (fun r9 S9 H locs hp9 hR => ?_)
    obtain ⟨hr9, hs9⟩ := hp9
    subst r9
    subst S9
    refine z_iald_n (f := S 7) hx hb hF hR (wM_c8 S) zT_0 dX5_canRead_36 (by decide) (by omega) ?_
    refine lv_topi (fun v11 ev11 => ?_)
    obtain rfl : v11 = (nI (zn S 7 (4 * p + (zown (zn S 22 0) ((zn S 1 (60 * p + zn S 2 p)) / 1000))))) := ev11.trans (zOK.n7 hO _).1
    have hb36_10 := (zOK.n7 hO (4 * p + (zown (zn S 22 0) ((zn S 1 (60 * p + zn S 2 p)) / 1000)))).2
    refine lv_bipush (v := (nI (8))) hx hb dX5_canRead_37 (by decide) ?_
    refine z_ge_n (tgt := 46) hx hb dX5_canRead_39 (by decide) (by omega) (by omega) (fun h39_12 => ?_) (fun h39_12 => ?_)
    · skip
      have q39 := h39_12
      refine lv_iconst (v := (nI (0))) hx hb dX5_canRead_46 (by decide) ?_
      exact z_zret (w := wM cI cZ ad) (S1 := S) hx hb hr hlk hF hR dX5_canRead_47 (by decide) (⟨Or.inr ⟨fun q => by first | (have := q.1; omega) | (have := q.2; have := q39; revert q39; exact fun z => absurd q.2 (Nat.not_lt.mpr z)), rfl⟩, rfl⟩)
    · skip
      have q39 := h39_12
      refine lv_iconst (v := (nI (1))) hx hb dX5_canRead_42 (by decide) ?_
      refine lv_goto (tgt := 47) hx hb dX5_canRead_43 (by decide) ?_
      exact z_zret (w := wM cI cZ ad) (S1 := S) hx hb hr hlk hF hR dX5_canRead_47 (by decide) (⟨Or.inl ⟨⟨q12, q39⟩, rfl⟩, rfl⟩)
set_option maxHeartbeats 4000000 in
set_option maxRecDepth 100000 in
theorem c_X5_reads {l : Launch} {D : va_G} {cI cZ : ClassId} {ad : Nat → Nat} {B : Nat → Prop} (hG : ∀ S : zS, va_D B (wM cI cZ ad S)) (S : zS) (p : Nat) (hO : zOK S) (hp : p < 4) (hc : zcanR S p) : zMi l yX5_reads wsX5_reads ({ frames := 2, cells := 0, slots := 0, locals := 42 } : Room) [.ref (ad 0), .int (nI (p))] D (zT cI cZ) B (wM cI cZ ad) S (fun (r : Int32) (S1 : zS) => r = (nI (zrw S p)) ∧ S1 = sp_read S p) := by
  refine zMi_of (cc := cX5_reads) (maxL := 4) (ret := (some .int)) (by decide) rfl (Nat.le_of_ble_eq_true rfl) ?_
  intro pg en s mm below meth cd hx hb hr hml hown hts hlk hF hR ls hl
  have hinX5 : ∀ w ∈ wsX50, w ∈ wsX5_reads := by decide +kernel
  have hl : lv_has ls 4 [(0, .ref (ad 0)), (1, .int (nI (p)))] := hl
  have hW1 := (zOK.w hO).2.1
  have hW4 := (zOK.w hO).2.2
  have hz0 := (zOK.n0 hO p).2
  have hc1 := hc.1
  refine lv_aload_n hx hb dX5_reads_0 rfl (lv_at hl 0 rfl) ?_
  refine lv_iload_n hx hb dX5_reads_1 rfl (lv_at hl 1 rfl) ?_
  refine z_callV_i (As := [.int (nI (p))]) (rest := []) (w := wM cI cZ ad) ⟨hx, hb, hml, hown, hts⟩ hF hR (c_X5_nextEvent hG S p hO (by omega) (by omega)) (cwV 1 hts gX5_reads_X5_nextEvent rfl rfl rfl (by decide +kernel) ⟨Nat.le_of_ble_eq_true rfl, Nat.le_of_ble_eq_true rfl⟩) (wM_c0 S) rfl rfl rfl hl rfl (Nat.le_of_ble_eq_true rfl) (by decide) dX5_reads_2 (fun r1 S1 H locs hp1 hR => ?_)
  obtain ⟨hr1, hs1⟩ := hp1
  subst r1
  subst S1
  refine lv_topi (fun v2 ev2 => ?_)
  obtain rfl : v2 = (nI (zn S 1 (60 * p + zn S 2 p))) := ev2.trans (rfl)
  have hb23 := (zOK.n1 hO (60 * p + zn S 2 p)).2
  refine lv_istore_n (lv' := [(2, .int (nI (zn S 1 (60 * p + zn S 2 p)))), (0, .ref (ad 0)), (1, .int (nI (p)))]) hx hb dX5_reads_5 rfl hl (by decide) rfl (fun ls hl => ?_)
  refine lv_aload_n hx hb dX5_reads_6 rfl (lv_at hl 1 rfl) ?_
  refine lv_iload_n hx hb dX5_reads_7 rfl (lv_at hl 0 rfl) ?_
  refine lv_sipush (v := (nI (1000))) hx hb dX5_reads_8 (by decide) ?_
  refine z_idiv_n hx hb dX5_reads_11 (by omega) (by omega) (by omega) ?_
  refine z_callV_i (As := [.int (nI ((zn S 1 (60 * p + zn S 2 p)) / 1000))]) (rest := []) (w := wM cI cZ ad) ⟨hx, hb, hml, hown, hts⟩ hF hR (c_X5_workerOfKey hG S ((zn S 1 (60 * p + zn S 2 p)) / 1000) hO (by omega)) (cwV 1 hts gX5_reads_X5_workerOfKey rfl rfl rfl (by decide +kernel) ⟨Nat.le_of_ble_eq_true rfl, Nat.le_of_ble_eq_true rfl⟩) (wM_c0 S) rfl rfl rfl hl rfl (Nat.le_of_ble_eq_true rfl) (by decide) dX5_reads_12 (fun r3 S3 H locs hp3 hR => ?_)
  obtain ⟨hr3, hs3⟩ := hp3
  subst r3
  subst S3
  have hb30 := (hO.own (zn S 1 (60 * p + zn S 2 p) / 1000)).2
  refine lv_istore_n (lv' := [(3, .int (nI (zown (zn S 22 0) ((zn S 1 (60 * p + zn S 2 p)) / 1000)))), (2, .int (nI (zn S 1 (60 * p + zn S 2 p)))), (0, .ref (ad 0)), (1, .int (nI (p)))]) hx hb dX5_reads_15 rfl hl (by decide) rfl (fun ls hl => ?_)
  refine lv_aload_n hx hb dX5_reads_16 rfl (lv_at hl 2 rfl) ?_
  refine lv_iload_n hx hb dX5_reads_17 rfl (lv_at hl 3 rfl) ?_
  refine lv_iload_n hx hb dX5_reads_18 rfl (lv_at hl 0 rfl) ?_
  refine z_callS_i (As := [.int (nI (p)), .int (nI (zown (zn S 22 0) ((zn S 1 (60 * p + zn S 2 p)) / 1000)))]) (rest := [.ref (ad 0)]) (w := wM cI cZ ad) ⟨hx, hb, hml, hown, hts⟩ hF hR (c_X5_channel hG S p (zown (zn S 22 0) ((zn S 1 (60 * p + zn S 2 p)) / 1000))) (va_cwS 2 hts gX5_reads_X5_channel rfl rfl rfl (by decide +kernel) ⟨Nat.le_of_ble_eq_true rfl, Nat.le_of_ble_eq_true rfl⟩) rfl hl rfl (Nat.le_of_ble_eq_true rfl) (by decide) dX5_reads_19 (fun r4 S4 H locs hp4 hR => ?_)
  obtain ⟨hr4, hs4⟩ := hp4
  subst r4
  subst S4
  refine lv_iload_n hx hb dX5_reads_22 rfl (lv_at hl 1 rfl) ?_
  refine z_callV_v (As := [.int (nI (4 * p + (zown (zn S 22 0) ((zn S 1 (60 * p + zn S 2 p)) / 1000)))), .int (nI (zn S 1 (60 * p + zn S 2 p)))]) (rest := []) (w := wM cI cZ ad) ⟨hx, hb, hml, hown, hts⟩ hF hR (c_X5_puts hG S (4 * p + zown (zn S 22 0) (zn S 1 (60 * p + zn S 2 p) / 1000)) (nI (zn S 1 (60 * p + zn S 2 p))) hO (by omega) hc.2) (cwV 2 hts gX5_reads_X5_puts rfl rfl rfl (by decide +kernel) ⟨Nat.le_of_ble_eq_true rfl, Nat.le_of_ble_eq_true rfl⟩) (wM_c0 S) rfl rfl rfl hl rfl (Nat.le_of_ble_eq_true rfl) (by decide) dX5_reads_23 (fun S5 H locs hp5 hR => ?_)
  subst S5
  have hO2 := zOK_put (x := nI (zn S 1 (60 * p + zn S 2 p))) hO hc.2 (nI_31100 hb23)
  refine lv_aload_n hx hb dX5_reads_26 rfl (lv_at hl 2 rfl) ?_
  refine z_get (own := RX5) (C := RX5) (T := TX5) (N := 27) (k := 3) (v := .ref (ad 3)) hx hb hts hinX5 hown hF hR (wM_c0 (sp_put S (4 * p + (zown (zn S 22 0) ((zn S 1 (60 * p + zn S 2 p)) / 1000))) ((nI (zn S 1 (60 * p + zn S 2 p)))))) rfl (by decide) (by decide +kernel) rfl rfl dX5_reads_27 ?_
  refine lv_iload_n hx hb dX5_reads_30 rfl (lv_at hl 3 rfl) ?_
  refine lv_dup2_11 hx hb dX5_reads_31 rfl rfl ?_
  refine z_iald_n (f := (sp_put S (4 * p + (zown (zn S 22 0) ((zn S 1 (60 * p + zn S 2 p)) / 1000))) ((nI (zn S 1 (60 * p + zn S 2 p))))) 2) hx hb hF hR (wM_c3 (sp_put S (4 * p + (zown (zn S 22 0) ((zn S 1 (60 * p + zn S 2 p)) / 1000))) ((nI (zn S 1 (60 * p + zn S 2 p)))))) zT_0 dX5_reads_32 (by decide) (by omega) ?_
  refine lv_topi (fun v7 ev7 => ?_)
  obtain rfl : v7 = (nI (zn (sp_put S (4 * p + (zown (zn S 22 0) ((zn S 1 (60 * p + zn S 2 p)) / 1000))) ((nI (zn S 1 (60 * p + zn S 2 p))))) 2 (p))) := ev7.trans (zOK.n2 hO2 _).1
  have hb32_6 := (zOK.n2 hO2 (p)).2
  refine lv_iconst (v := (nI (1))) hx hb dX5_reads_33 (by decide) ?_
  refine z_iadd_n hx hb dX5_reads_34 ?_
  refine z_iast_n (f := (sp_put S (4 * p + (zown (zn S 22 0) ((zn S 1 (60 * p + zn S 2 p)) / 1000))) ((nI (zn S 1 (60 * p + zn S 2 p))))) 2) hx hb hF (hG (sp_put S (4 * p + (zown (zn S 22 0) ((zn S 1 (60 * p + zn S 2 p)) / 1000))) ((nI (zn S 1 (60 * p + zn S 2 p)))))) hR (wM_c3 (sp_put S (4 * p + (zown (zn S 22 0) ((zn S 1 (60 * p + zn S 2 p)) / 1000))) ((nI (zn S 1 (60 * p + zn S 2 p)))))) zT_0 (wM_s2 (sp_put S (4 * p + (zown (zn S 22 0) ((zn S 1 (60 * p + zn S 2 p)) / 1000))) ((nI (zn S 1 (60 * p + zn S 2 p))))) (upd ((sp_put S (4 * p + (zown (zn S 22 0) ((zn S 1 (60 * p + zn S 2 p)) / 1000))) ((nI (zn S 1 (60 * p + zn S 2 p))))) 2) (p) (nI ((zn (sp_put S (4 * p + (zown (zn S 22 0) ((zn S 1 (60 * p + zn S 2 p)) / 1000))) ((nI (zn S 1 (60 * p + zn S 2 p))))) 2 (p)) + 1)))) dX5_reads_35 (by decide) (by omega) (fun H locs hR => ?_)
  refine lv_iload_n hx hb dX5_reads_36 rfl (lv_at hl 0 rfl) ?_
  exact z_iret (w := wM cI cZ ad) (S1 := (zU (sp_put S (4 * p + (zown (zn S 22 0) ((zn S 1 (60 * p + zn S 2 p)) / 1000))) ((nI (zn S 1 (60 * p + zn S 2 p))))) 2 (upd ((sp_put S (4 * p + (zown (zn S 22 0) ((zn S 1 (60 * p + zn S 2 p)) / 1000))) ((nI (zn S 1 (60 * p + zn S 2 p))))) 2) (p) (nI ((zn (sp_put S (4 * p + (zown (zn S 22 0) ((zn S 1 (60 * p + zn S 2 p)) / 1000))) ((nI (zn S 1 (60 * p + zn S 2 p))))) 2 (p)) + 1))))) hx hb hr hlk hF hR dX5_reads_37 (⟨rfl, rfl⟩)
set_option maxHeartbeats 4000000 in
set_option maxRecDepth 100000 in
theorem c_X5_canSend {l : Launch} {D : va_G} {cI cZ : ClassId} {ad : Nat → Nat} {B : Nat → Prop} (hG : ∀ S : zS, va_D B (wM cI cZ ad S)) (S : zS) (p : Nat) (hO : zOK S) (hp : p < 4) : zMi l yX5_canSend wsX5_canSend ({ frames := 1, cells := 0, slots := 0, locals := 21 } : Room) [.ref (ad 0), .int (nI (p))] D (zT cI cZ) B (wM cI cZ ad) S (fun (r : Int32) (S1 : zS) => ((((¬ S 22 2 = (-1) ∧ S 4 p = nI 0) ∧ ∀ w, w < zn S 22 0 → zn S 7 (4 * p + w) < 8) ∧ r = nI 1) ∨ (¬ ((¬ S 22 2 = (-1) ∧ S 4 p = nI 0) ∧ ∀ w, w < zn S 22 0 → zn S 7 (4 * p + w) < 8) ∧ r = nI 0)) ∧ S1 = S) := by
  refine zMi_of (cc := cX5_canSend) (maxL := 4) (ret := (some .boolean)) (by decide) rfl (Nat.le_of_ble_eq_true rfl) ?_
  intro pg en s mm below meth cd hx hb hr hml hown hts hlk hF hR ls hl
  have hinX5 : ∀ w ∈ wsX50, w ∈ wsX5_canSend := by decide +kernel
  have hl : lv_has ls 4 [(0, .ref (ad 0)), (1, .int (nI (p)))] := hl
  have hW1 := (zOK.w hO).2.1
  have hW4 := (zOK.w hO).2.2
  refine lv_aload_n hx hb dX5_canSend_0 rfl (lv_at hl 0 rfl) ?_
  refine z_get (own := RX5) (C := RX5) (T := TX5) (N := 27) (k := 18) (v := .int (S 22 2)) hx hb hts hinX5 hown hF hR (wM_c0 S) rfl (by decide) (by decide +kernel) rfl rfl dX5_canSend_1 ?_
  refine lv_iconst (v := ((-1))) hx hb dX5_canSend_4 (by decide) ?_
  refine lv_icmp_eq (tgt := 21) hx hb dX5_canSend_5 (by decide) (fun h5_1 => ?_) (fun h5_1 => ?_)
  · skip
    have q5 := h5_1
    refine lv_iconst (v := (nI (0))) hx hb dX5_canSend_21 (by decide) ?_
    refine lv_istore_n (lv' := [(2, .int (nI (0))), (0, .ref (ad 0)), (1, .int (nI (p)))]) hx hb dX5_canSend_22 rfl hl (by decide) rfl (fun ls hl => ?_)
    refine lv_iconst (v := (nI (0))) hx hb dX5_canSend_23 (by decide) ?_
    refine lv_istore_n (lv' := [(3, .int (nI (0))), (2, .int (nI (0))), (0, .ref (ad 0)), (1, .int (nI (p)))]) hx hb dX5_canSend_24 rfl hl (by decide) rfl (fun ls hl => ?_)
    have loop25 : ∀ (nf25 : Nat) (k : Nat) (t : Nat), (k ≤ zn S 22 0) → ((t = 1 ∧ ((¬ S 22 2 = (-1) ∧ S 4 p = nI 0) ∧ ∀ w, w < k → zn S 7 (4 * p + w) < 8)) ∨ (t = 0 ∧ ¬ ((¬ S 22 2 = (-1) ∧ S 4 p = nI 0) ∧ ∀ w, w < k → zn S 7 (4 * p + w) < 8))) → zn S 22 0 - k < nf25 → ∀ (H : Heap) (locs : List Loc), zR D B (wM cI cZ ad S) s H locs → ∀ ls : Array Slot, lv_has ls 4 [(0, .ref (ad 0)), (1, .int (nI (p))), (2, .int (nI (t))), (3, .int (nI (k)))] → W pg l en ({ frames := 1, cells := 0, slots := 0, locals := 21 } : Room) s mm ([.ref (ad 0), .int (nI (p))] : List Value).toArray below meth cd H locs 0 0 (MQ below (va_Qi (fun (r : Int32) (S1 : zS) => ((((¬ S 22 2 = (-1) ∧ S 4 p = nI 0) ∧ ∀ w, w < zn S 22 0 → zn S 7 (4 * p + w) < 8) ∧ r = nI 1) ∨ (¬ ((¬ S 22 2 = (-1) ∧ S 4 p = nI 0) ∧ ∀ w, w < zn S 22 0 → zn S 7 (4 * p + w) < 8) ∧ r = nI 0)) ∧ S1 = S) (zB D (zT cI cZ) (wM cI cZ ad)) (zA B s.heap.size)) ([.ref (ad 0), .int (nI (p))] : List Value).toArray s 0 0 (zA B s.heap.size)) (F0 mm 25 ls []) := by
      intro nf25
      induction nf25 with
      | zero => intro k t hk4 ht hn; exact absurd hn (Nat.not_lt_zero _)
      | succ nf25 ih25 =>
        intro k t hk4 ht hn H locs hR ls hl
        have ht2 : t ≤ 1 := by rcases ht with h | h <;> omega
        refine lv_iload_n hx hb dX5_canSend_25 rfl (lv_at hl 3 rfl) ?_
        refine lv_aload_n hx hb dX5_canSend_26 rfl (lv_at hl 0 rfl) ?_
        refine z_get (own := RX5) (C := RX5) (T := TX5) (N := 27) (k := 1) (v := .int (S 22 0)) hx hb hts hinX5 hown hF hR (wM_c0 S) rfl (by decide) (by decide +kernel) rfl rfl dX5_canSend_27 ?_
        refine lv_topi (fun v2 ev2 => ?_)
        obtain rfl : v2 = (nI (zn S 22 0)) := ev2.trans (zOK.w hO).1
        refine z_ge_n (tgt := 64) hx hb dX5_canSend_30 (by decide) (by omega) (by omega) (fun h30_3 => ?_) (fun h30_3 => ?_)
        · skip
          refine lv_iload_n hx hb dX5_canSend_64 rfl (lv_at hl 2 rfl) ?_
          exact z_zret (w := wM cI cZ ad) (S1 := S) hx hb hr hlk hF hR dX5_canSend_65 (ht.elim (fun h => Or.inr (congrArg nI h.1)) (fun h => Or.inl (congrArg nI h.1))) (⟨by rw [show zn S 22 0 = k from by omega]; exact ht.elim (fun h => Or.inl ⟨h.2, congrArg nI h.1⟩) (fun h => Or.inr ⟨h.2, congrArg nI h.1⟩), rfl⟩)
        · skip
          refine lv_iload_n hx hb dX5_canSend_33 rfl (lv_at hl 2 rfl) ?_
          refine z_if_eq_n (tgt := 56) hx hb dX5_canSend_34 (by decide) (by omega) (fun h34_4 => ?_) (fun h34_4 => ?_)
          · skip
            have q34 := h34_4
            refine lv_iconst (v := (nI (0))) hx hb dX5_canSend_56 (by decide) ?_
            refine lv_istore_n (lv' := [(2, .int (nI (0))), (0, .ref (ad 0)), (1, .int (nI (p))), (3, .int (nI (k)))]) hx hb dX5_canSend_57 rfl hl (by decide) rfl (fun ls hl => ?_)
            refine lv_iinc (v := (nI (k + 1))) (lv' := [(3, .int (nI (k + 1))), (2, .int (nI (0))), (0, .ref (ad 0)), (1, .int (nI (p)))]) hx hb dX5_canSend_58 hl (k := 3) rfl (z_inc _) (by decide) rfl (fun ls hl => ?_)
            refine lv_goto (tgt := 25) hx hb dX5_canSend_61 (by decide) ?_
            exact ih25 (k + 1) 0 (by omega) (Or.inr ⟨rfl, by first | exact (fun q => absurd (q.2 k (Nat.lt_succ_self k)) (Nat.not_lt.mpr q49)) | exact (fun q => ht.elim (fun h => absurd h.1 (by omega)) (fun h => h.2 ⟨q.1, fun w hw => q.2 w (Nat.lt_succ_of_lt hw)⟩))⟩) (by omega) _ _ hR ls (lv_sub hl [2, 3, 1, 0] rfl)
          · skip
            have q34 := h34_4
            refine lv_aload_n hx hb dX5_canSend_37 rfl (lv_at hl 0 rfl) ?_
            refine z_get (own := RX5) (C := RX5) (T := TX5) (N := 27) (k := 6) (v := .ref (ad 8)) hx hb hts hinX5 hown hF hR (wM_c0 S) rfl (by decide) (by decide +kernel) rfl rfl dX5_canSend_38 ?_
            refine lv_iload_n hx hb dX5_canSend_41 rfl (lv_at hl 1 rfl) ?_
            refine lv_iload_n hx hb dX5_canSend_42 rfl (lv_at hl 3 rfl) ?_
            refine z_callS_i (As := [.int (nI (p)), .int (nI (k))]) (rest := [.ref (ad 8)]) (w := wM cI cZ ad) ⟨hx, hb, hml, hown, hts⟩ hF hR (c_X5_channel hG S p k) (va_cwS 2 hts gX5_canSend_X5_channel rfl rfl rfl (by decide +kernel) ⟨Nat.le_of_ble_eq_true rfl, Nat.le_of_ble_eq_true rfl⟩) rfl hl rfl (Nat.le_of_ble_eq_true rfl) (by decide) dX5_canSend_43 (fun r5 S5 H locs hp5 hR => ?_)
            obtain ⟨hr5, hs5⟩ := hp5
            subst r5
            subst S5
            refine z_iald_n (f := S 7) hx hb hF hR (wM_c8 S) zT_0 dX5_canSend_46 (by decide) (by omega) ?_
            refine lv_topi (fun v7 ev7 => ?_)
            obtain rfl : v7 = (nI (zn S 7 (4 * p + k))) := ev7.trans (zOK.n7 hO _).1
            have hb46_6 := (zOK.n7 hO (4 * p + k)).2
            refine lv_bipush (v := (nI (8))) hx hb dX5_canSend_47 (by decide) ?_
            refine z_ge_n (tgt := 56) hx hb dX5_canSend_49 (by decide) (by omega) (by omega) (fun h49_8 => ?_) (fun h49_8 => ?_)
            · skip
              have q49 := h49_8
              refine lv_iconst (v := (nI (0))) hx hb dX5_canSend_56 (by decide) ?_
              refine lv_istore_n (lv' := [(2, .int (nI (0))), (0, .ref (ad 0)), (1, .int (nI (p))), (3, .int (nI (k)))]) hx hb dX5_canSend_57 rfl hl (by decide) rfl (fun ls hl => ?_)
              refine lv_iinc (v := (nI (k + 1))) (lv' := [(3, .int (nI (k + 1))), (2, .int (nI (0))), (0, .ref (ad 0)), (1, .int (nI (p)))]) hx hb dX5_canSend_58 hl (k := 3) rfl (z_inc _) (by decide) rfl (fun ls hl => ?_)
              refine lv_goto (tgt := 25) hx hb dX5_canSend_61 (by decide) ?_
              exact ih25 (k + 1) 0 (by omega) (Or.inr ⟨rfl, by first | exact (fun q => absurd (q.2 k (Nat.lt_succ_self k)) (Nat.not_lt.mpr q49)) | exact (fun q => ht.elim (fun h => absurd h.1 (by omega)) (fun h => h.2 ⟨q.1, fun w hw => q.2 w (Nat.lt_succ_of_lt hw)⟩))⟩) (by omega) _ _ hR ls (lv_sub hl [2, 3, 1, 0] rfl)
            · skip
              have q49 := h49_8
              refine lv_iconst (v := (nI (1))) hx hb dX5_canSend_52 (by decide) ?_
              refine lv_goto (tgt := 57) hx hb dX5_canSend_53 (by decide) ?_
              refine lv_istore_n (lv' := [(2, .int (nI (1))), (0, .ref (ad 0)), (1, .int (nI (p))), (3, .int (nI (k)))]) hx hb dX5_canSend_57 rfl hl (by decide) rfl (fun ls hl => ?_)
              refine lv_iinc (v := (nI (k + 1))) (lv' := [(3, .int (nI (k + 1))), (2, .int (nI (1))), (0, .ref (ad 0)), (1, .int (nI (p)))]) hx hb dX5_canSend_58 hl (k := 3) rfl (z_inc _) (by decide) rfl (fun ls hl => ?_)
              refine lv_goto (tgt := 25) hx hb dX5_canSend_61 (by decide) ?_
              exact ih25 (k + 1) 1 (by omega) (Or.inl ⟨rfl, ht.elim (fun h => ⟨h.2.1, lt_s h.2.2 q49⟩) (fun h => absurd h.1 q34)⟩) (by omega) _ _ hR ls (lv_sub hl [2, 3, 1, 0] rfl)
    exact loop25 _ 0 0 (by omega) (Or.inr ⟨rfl, by first | exact (fun q => q14 (q.1.2.trans nI_0)) | exact (fun q => q.1.1 q5)⟩) (Nat.lt_succ_self _) _ _ hR ls (lv_sub hl [2, 3, 1, 0] rfl)
  · skip
    have q5 := h5_1
    refine lv_aload_n hx hb dX5_canSend_8 rfl (lv_at hl 0 rfl) ?_
    refine z_get (own := RX5) (C := RX5) (T := TX5) (N := 27) (k := 20) (v := .ref (ad 5)) hx hb hts hinX5 hown hF hR (wM_c0 S) rfl (by decide) (by decide +kernel) rfl rfl dX5_canSend_9 ?_
    refine lv_iload_n hx hb dX5_canSend_12 rfl (lv_at hl 1 rfl) ?_
    refine z_zald_n (f := S 4) hx hb hF hR (wM_c5 S) zT_1 dX5_canSend_13 (by decide) (by omega) ?_
    refine lv_if_ne (tgt := 21) hx hb dX5_canSend_14 (by decide) (fun h14_9 => ?_) (fun h14_9 => ?_)
    · skip
      have q14 := h14_9
      refine lv_iconst (v := (nI (0))) hx hb dX5_canSend_21 (by decide) ?_
      refine lv_istore_n (lv' := [(2, .int (nI (0))), (0, .ref (ad 0)), (1, .int (nI (p)))]) hx hb dX5_canSend_22 rfl hl (by decide) rfl (fun ls hl => ?_)
      refine lv_iconst (v := (nI (0))) hx hb dX5_canSend_23 (by decide) ?_
      refine lv_istore_n (lv' := [(3, .int (nI (0))), (2, .int (nI (0))), (0, .ref (ad 0)), (1, .int (nI (p)))]) hx hb dX5_canSend_24 rfl hl (by decide) rfl (fun ls hl => ?_)
      have loop25 : ∀ (nf25 : Nat) (k : Nat) (t : Nat), (k ≤ zn S 22 0) → ((t = 1 ∧ ((¬ S 22 2 = (-1) ∧ S 4 p = nI 0) ∧ ∀ w, w < k → zn S 7 (4 * p + w) < 8)) ∨ (t = 0 ∧ ¬ ((¬ S 22 2 = (-1) ∧ S 4 p = nI 0) ∧ ∀ w, w < k → zn S 7 (4 * p + w) < 8))) → zn S 22 0 - k < nf25 → ∀ (H : Heap) (locs : List Loc), zR D B (wM cI cZ ad S) s H locs → ∀ ls : Array Slot, lv_has ls 4 [(0, .ref (ad 0)), (1, .int (nI (p))), (2, .int (nI (t))), (3, .int (nI (k)))] → W pg l en ({ frames := 1, cells := 0, slots := 0, locals := 21 } : Room) s mm ([.ref (ad 0), .int (nI (p))] : List Value).toArray below meth cd H locs 0 0 (MQ below (va_Qi (fun (r : Int32) (S1 : zS) => ((((¬ S 22 2 = (-1) ∧ S 4 p = nI 0) ∧ ∀ w, w < zn S 22 0 → zn S 7 (4 * p + w) < 8) ∧ r = nI 1) ∨ (¬ ((¬ S 22 2 = (-1) ∧ S 4 p = nI 0) ∧ ∀ w, w < zn S 22 0 → zn S 7 (4 * p + w) < 8) ∧ r = nI 0)) ∧ S1 = S) (zB D (zT cI cZ) (wM cI cZ ad)) (zA B s.heap.size)) ([.ref (ad 0), .int (nI (p))] : List Value).toArray s 0 0 (zA B s.heap.size)) (F0 mm 25 ls []) := by
        intro nf25
        induction nf25 with
        | zero => intro k t hk4 ht hn; exact absurd hn (Nat.not_lt_zero _)
        | succ nf25 ih25 =>
          intro k t hk4 ht hn H locs hR ls hl
          have ht2 : t ≤ 1 := by rcases ht with h | h <;> omega
          refine lv_iload_n hx hb dX5_canSend_25 rfl (lv_at hl 3 rfl) ?_
          refine lv_aload_n hx hb dX5_canSend_26 rfl (lv_at hl 0 rfl) ?_
          refine z_get (own := RX5) (C := RX5) (T := TX5) (N := 27) (k := 1) (v := .int (S 22 0)) hx hb hts hinX5 hown hF hR (wM_c0 S) rfl (by decide) (by decide +kernel) rfl rfl dX5_canSend_27 ?_
          refine lv_topi (fun v10 ev10 => ?_)
          obtain rfl : v10 = (nI (zn S 22 0)) := ev10.trans (zOK.w hO).1
          refine z_ge_n (tgt := 64) hx hb dX5_canSend_30 (by decide) (by omega) (by omega) (fun h30_11 => ?_) (fun h30_11 => ?_)
          · skip
            refine lv_iload_n hx hb dX5_canSend_64 rfl (lv_at hl 2 rfl) ?_
            exact z_zret (w := wM cI cZ ad) (S1 := S) hx hb hr hlk hF hR dX5_canSend_65 (ht.elim (fun h => Or.inr (congrArg nI h.1)) (fun h => Or.inl (congrArg nI h.1))) (⟨by rw [show zn S 22 0 = k from by omega]; exact ht.elim (fun h => Or.inl ⟨h.2, congrArg nI h.1⟩) (fun h => Or.inr ⟨h.2, congrArg nI h.1⟩), rfl⟩)
          · skip
            refine lv_iload_n hx hb dX5_canSend_33 rfl (lv_at hl 2 rfl) ?_
            refine z_if_eq_n (tgt := 56) hx hb dX5_canSend_34 (by decide) (by omega) (fun h34_12 => ?_) (fun h34_12 => ?_)
            · skip
              have q34 := h34_12
              refine lv_iconst (v := (nI (0))) hx hb dX5_canSend_56 (by decide) ?_
              refine lv_istore_n (lv' := [(2, .int (nI (0))), (0, .ref (ad 0)), (1, .int (nI (p))), (3, .int (nI (k)))]) hx hb dX5_canSend_57 rfl hl (by decide) rfl (fun ls hl => ?_)
              refine lv_iinc (v := (nI (k + 1))) (lv' := [(3, .int (nI (k + 1))), (2, .int (nI (0))), (0, .ref (ad 0)), (1, .int (nI (p)))]) hx hb dX5_canSend_58 hl (k := 3) rfl (z_inc _) (by decide) rfl (fun ls hl => ?_)
              refine lv_goto (tgt := 25) hx hb dX5_canSend_61 (by decide) ?_
              exact ih25 (k + 1) 0 (by omega) (Or.inr ⟨rfl, by first | exact (fun q => absurd (q.2 k (Nat.lt_succ_self k)) (Nat.not_lt.mpr q49)) | exact (fun q => ht.elim (fun h => absurd h.1 (by omega)) (fun h => h.2 ⟨q.1, fun w hw => q.2 w (Nat.lt_succ_of_lt hw)⟩))⟩) (by omega) _ _ hR ls (lv_sub hl [2, 3, 1, 0] rfl)
            · skip
              have q34 := h34_12
              refine lv_aload_n hx hb dX5_canSend_37 rfl (lv_at hl 0 rfl) ?_
              refine z_get (own := RX5) (C := RX5) (T := TX5) (N := 27) (k := 6) (v := .ref (ad 8)) hx hb hts hinX5 hown hF hR (wM_c0 S) rfl (by decide) (by decide +kernel) rfl rfl dX5_canSend_38 ?_
              refine lv_iload_n hx hb dX5_canSend_41 rfl (lv_at hl 1 rfl) ?_
              refine lv_iload_n hx hb dX5_canSend_42 rfl (lv_at hl 3 rfl) ?_
              refine z_callS_i (As := [.int (nI (p)), .int (nI (k))]) (rest := [.ref (ad 8)]) (w := wM cI cZ ad) ⟨hx, hb, hml, hown, hts⟩ hF hR (c_X5_channel hG S p k) (va_cwS 2 hts gX5_canSend_X5_channel rfl rfl rfl (by decide +kernel) ⟨Nat.le_of_ble_eq_true rfl, Nat.le_of_ble_eq_true rfl⟩) rfl hl rfl (Nat.le_of_ble_eq_true rfl) (by decide) dX5_canSend_43 (fun r13 S13 H locs hp13 hR => ?_)
              obtain ⟨hr13, hs13⟩ := hp13
              subst r13
              subst S13
              refine z_iald_n (f := S 7) hx hb hF hR (wM_c8 S) zT_0 dX5_canSend_46 (by decide) (by omega) ?_
              refine lv_topi (fun v15 ev15 => ?_)
              obtain rfl : v15 = (nI (zn S 7 (4 * p + k))) := ev15.trans (zOK.n7 hO _).1
              have hb46_14 := (zOK.n7 hO (4 * p + k)).2
              refine lv_bipush (v := (nI (8))) hx hb dX5_canSend_47 (by decide) ?_
              refine z_ge_n (tgt := 56) hx hb dX5_canSend_49 (by decide) (by omega) (by omega) (fun h49_16 => ?_) (fun h49_16 => ?_)
              · skip
                have q49 := h49_16
                refine lv_iconst (v := (nI (0))) hx hb dX5_canSend_56 (by decide) ?_
                refine lv_istore_n (lv' := [(2, .int (nI (0))), (0, .ref (ad 0)), (1, .int (nI (p))), (3, .int (nI (k)))]) hx hb dX5_canSend_57 rfl hl (by decide) rfl (fun ls hl => ?_)
                refine lv_iinc (v := (nI (k + 1))) (lv' := [(3, .int (nI (k + 1))), (2, .int (nI (0))), (0, .ref (ad 0)), (1, .int (nI (p)))]) hx hb dX5_canSend_58 hl (k := 3) rfl (z_inc _) (by decide) rfl (fun ls hl => ?_)
                refine lv_goto (tgt := 25) hx hb dX5_canSend_61 (by decide) ?_
                exact ih25 (k + 1) 0 (by omega) (Or.inr ⟨rfl, by first | exact (fun q => absurd (q.2 k (Nat.lt_succ_self k)) (Nat.not_lt.mpr q49)) | exact (fun q => ht.elim (fun h => absurd h.1 (by omega)) (fun h => h.2 ⟨q.1, fun w hw => q.2 w (Nat.lt_succ_of_lt hw)⟩))⟩) (by omega) _ _ hR ls (lv_sub hl [2, 3, 1, 0] rfl)
              · skip
                have q49 := h49_16
                refine lv_iconst (v := (nI (1))) hx hb dX5_canSend_52 (by decide) ?_
                refine lv_goto (tgt := 57) hx hb dX5_canSend_53 (by decide) ?_
                refine lv_istore_n (lv' := [(2, .int (nI (1))), (0, .ref (ad 0)), (1, .int (nI (p))), (3, .int (nI (k)))]) hx hb dX5_canSend_57 rfl hl (by decide) rfl (fun ls hl => ?_)
                refine lv_iinc (v := (nI (k + 1))) (lv' := [(3, .int (nI (k + 1))), (2, .int (nI (1))), (0, .ref (ad 0)), (1, .int (nI (p)))]) hx hb dX5_canSend_58 hl (k := 3) rfl (z_inc _) (by decide) rfl (fun ls hl => ?_)
                refine lv_goto (tgt := 25) hx hb dX5_canSend_61 (by decide) ?_
                exact ih25 (k + 1) 1 (by omega) (Or.inl ⟨rfl, ht.elim (fun h => ⟨h.2.1, lt_s h.2.2 q49⟩) (fun h => absurd h.1 q34)⟩) (by omega) _ _ hR ls (lv_sub hl [2, 3, 1, 0] rfl)
      exact loop25 _ 0 0 (by omega) (Or.inr ⟨rfl, by first | exact (fun q => q14 (q.1.2.trans nI_0)) | exact (fun q => q.1.1 q5)⟩) (Nat.lt_succ_self _) _ _ hR ls (lv_sub hl [2, 3, 1, 0] rfl)
    · skip
      have q14 := h14_9
      refine lv_iconst (v := (nI (1))) hx hb dX5_canSend_17 (by decide) ?_
      refine lv_goto (tgt := 22) hx hb dX5_canSend_18 (by decide) ?_
      refine lv_istore_n (lv' := [(2, .int (nI (1))), (0, .ref (ad 0)), (1, .int (nI (p)))]) hx hb dX5_canSend_22 rfl hl (by decide) rfl (fun ls hl => ?_)
      refine lv_iconst (v := (nI (0))) hx hb dX5_canSend_23 (by decide) ?_
      refine lv_istore_n (lv' := [(3, .int (nI (0))), (2, .int (nI (1))), (0, .ref (ad 0)), (1, .int (nI (p)))]) hx hb dX5_canSend_24 rfl hl (by decide) rfl (fun ls hl => ?_)
      have loop25 : ∀ (nf25 : Nat) (k : Nat) (t : Nat), (k ≤ zn S 22 0) → ((t = 1 ∧ ((¬ S 22 2 = (-1) ∧ S 4 p = nI 0) ∧ ∀ w, w < k → zn S 7 (4 * p + w) < 8)) ∨ (t = 0 ∧ ¬ ((¬ S 22 2 = (-1) ∧ S 4 p = nI 0) ∧ ∀ w, w < k → zn S 7 (4 * p + w) < 8))) → zn S 22 0 - k < nf25 → ∀ (H : Heap) (locs : List Loc), zR D B (wM cI cZ ad S) s H locs → ∀ ls : Array Slot, lv_has ls 4 [(0, .ref (ad 0)), (1, .int (nI (p))), (2, .int (nI (t))), (3, .int (nI (k)))] → W pg l en ({ frames := 1, cells := 0, slots := 0, locals := 21 } : Room) s mm ([.ref (ad 0), .int (nI (p))] : List Value).toArray below meth cd H locs 0 0 (MQ below (va_Qi (fun (r : Int32) (S1 : zS) => ((((¬ S 22 2 = (-1) ∧ S 4 p = nI 0) ∧ ∀ w, w < zn S 22 0 → zn S 7 (4 * p + w) < 8) ∧ r = nI 1) ∨ (¬ ((¬ S 22 2 = (-1) ∧ S 4 p = nI 0) ∧ ∀ w, w < zn S 22 0 → zn S 7 (4 * p + w) < 8) ∧ r = nI 0)) ∧ S1 = S) (zB D (zT cI cZ) (wM cI cZ ad)) (zA B s.heap.size)) ([.ref (ad 0), .int (nI (p))] : List Value).toArray s 0 0 (zA B s.heap.size)) (F0 mm 25 ls []) := by
        intro nf25
        induction nf25 with
        | zero => intro k t hk4 ht hn; exact absurd hn (Nat.not_lt_zero _)
        | succ nf25 ih25 =>
          intro k t hk4 ht hn H locs hR ls hl
          have ht2 : t ≤ 1 := by rcases ht with h | h <;> omega
          refine lv_iload_n hx hb dX5_canSend_25 rfl (lv_at hl 3 rfl) ?_
          refine lv_aload_n hx hb dX5_canSend_26 rfl (lv_at hl 0 rfl) ?_
          refine z_get (own := RX5) (C := RX5) (T := TX5) (N := 27) (k := 1) (v := .int (S 22 0)) hx hb hts hinX5 hown hF hR (wM_c0 S) rfl (by decide) (by decide +kernel) rfl rfl dX5_canSend_27 ?_
          refine lv_topi (fun v17 ev17 => ?_)
          obtain rfl : v17 = (nI (zn S 22 0)) := ev17.trans (zOK.w hO).1
          refine z_ge_n (tgt := 64) hx hb dX5_canSend_30 (by decide) (by omega) (by omega) (fun h30_18 => ?_) (fun h30_18 => ?_)
          · skip
            refine lv_iload_n hx hb dX5_canSend_64 rfl (lv_at hl 2 rfl) ?_
            exact z_zret (w := wM cI cZ ad) (S1 := S) hx hb hr hlk hF hR dX5_canSend_65 (ht.elim (fun h => Or.inr (congrArg nI h.1)) (fun h => Or.inl (congrArg nI h.1))) (⟨by rw [show zn S 22 0 = k from by omega]; exact ht.elim (fun h => Or.inl ⟨h.2, congrArg nI h.1⟩) (fun h => Or.inr ⟨h.2, congrArg nI h.1⟩), rfl⟩)
          · skip
            refine lv_iload_n hx hb dX5_canSend_33 rfl (lv_at hl 2 rfl) ?_
            refine z_if_eq_n (tgt := 56) hx hb dX5_canSend_34 (by decide) (by omega) (fun h34_19 => ?_) (fun h34_19 => ?_)
            · skip
              have q34 := h34_19
              refine lv_iconst (v := (nI (0))) hx hb dX5_canSend_56 (by decide) ?_
              refine lv_istore_n (lv' := [(2, .int (nI (0))), (0, .ref (ad 0)), (1, .int (nI (p))), (3, .int (nI (k)))]) hx hb dX5_canSend_57 rfl hl (by decide) rfl (fun ls hl => ?_)
              refine lv_iinc (v := (nI (k + 1))) (lv' := [(3, .int (nI (k + 1))), (2, .int (nI (0))), (0, .ref (ad 0)), (1, .int (nI (p)))]) hx hb dX5_canSend_58 hl (k := 3) rfl (z_inc _) (by decide) rfl (fun ls hl => ?_)
              refine lv_goto (tgt := 25) hx hb dX5_canSend_61 (by decide) ?_
              exact ih25 (k + 1) 0 (by omega) (Or.inr ⟨rfl, by first | exact (fun q => absurd (q.2 k (Nat.lt_succ_self k)) (Nat.not_lt.mpr q49)) | exact (fun q => ht.elim (fun h => absurd h.1 (by omega)) (fun h => h.2 ⟨q.1, fun w hw => q.2 w (Nat.lt_succ_of_lt hw)⟩))⟩) (by omega) _ _ hR ls (lv_sub hl [2, 3, 1, 0] rfl)
            · skip
              have q34 := h34_19
              refine lv_aload_n hx hb dX5_canSend_37 rfl (lv_at hl 0 rfl) ?_
              refine z_get (own := RX5) (C := RX5) (T := TX5) (N := 27) (k := 6) (v := .ref (ad 8)) hx hb hts hinX5 hown hF hR (wM_c0 S) rfl (by decide) (by decide +kernel) rfl rfl dX5_canSend_38 ?_
              refine lv_iload_n hx hb dX5_canSend_41 rfl (lv_at hl 1 rfl) ?_
              refine lv_iload_n hx hb dX5_canSend_42 rfl (lv_at hl 3 rfl) ?_
              refine z_callS_i (As := [.int (nI (p)), .int (nI (k))]) (rest := [.ref (ad 8)]) (w := wM cI cZ ad) ⟨hx, hb, hml, hown, hts⟩ hF hR (c_X5_channel hG S p k) (va_cwS 2 hts gX5_canSend_X5_channel rfl rfl rfl (by decide +kernel) ⟨Nat.le_of_ble_eq_true rfl, Nat.le_of_ble_eq_true rfl⟩) rfl hl rfl (Nat.le_of_ble_eq_true rfl) (by decide) dX5_canSend_43 (fun r20 S20 H locs hp20 hR => ?_)
              obtain ⟨hr20, hs20⟩ := hp20
              subst r20
              subst S20
              refine z_iald_n (f := S 7) hx hb hF hR (wM_c8 S) zT_0 dX5_canSend_46 (by decide) (by omega) ?_
              refine lv_topi (fun v22 ev22 => ?_)
              obtain rfl : v22 = (nI (zn S 7 (4 * p + k))) := ev22.trans (zOK.n7 hO _).1
              have hb46_21 := (zOK.n7 hO (4 * p + k)).2
              refine lv_bipush (v := (nI (8))) hx hb dX5_canSend_47 (by decide) ?_
              refine z_ge_n (tgt := 56) hx hb dX5_canSend_49 (by decide) (by omega) (by omega) (fun h49_23 => ?_) (fun h49_23 => ?_)
              · skip
                have q49 := h49_23
                refine lv_iconst (v := (nI (0))) hx hb dX5_canSend_56 (by decide) ?_
                refine lv_istore_n (lv' := [(2, .int (nI (0))), (0, .ref (ad 0)), (1, .int (nI (p))), (3, .int (nI (k)))]) hx hb dX5_canSend_57 rfl hl (by decide) rfl (fun ls hl => ?_)
                refine lv_iinc (v := (nI (k + 1))) (lv' := [(3, .int (nI (k + 1))), (2, .int (nI (0))), (0, .ref (ad 0)), (1, .int (nI (p)))]) hx hb dX5_canSend_58 hl (k := 3) rfl (z_inc _) (by decide) rfl (fun ls hl => ?_)
                refine lv_goto (tgt := 25) hx hb dX5_canSend_61 (by decide) ?_
                exact ih25 (k + 1) 0 (by omega) (Or.inr ⟨rfl, by first | exact (fun q => absurd (q.2 k (Nat.lt_succ_self k)) (Nat.not_lt.mpr q49)) | exact (fun q => ht.elim (fun h => absurd h.1 (by omega)) (fun h => h.2 ⟨q.1, fun w hw => q.2 w (Nat.lt_succ_of_lt hw)⟩))⟩) (by omega) _ _ hR ls (lv_sub hl [2, 3, 1, 0] rfl)
              · skip
                have q49 := h49_23
                refine lv_iconst (v := (nI (1))) hx hb dX5_canSend_52 (by decide) ?_
                refine lv_goto (tgt := 57) hx hb dX5_canSend_53 (by decide) ?_
                refine lv_istore_n (lv' := [(2, .int (nI (1))), (0, .ref (ad 0)), (1, .int (nI (p))), (3, .int (nI (k)))]) hx hb dX5_canSend_57 rfl hl (by decide) rfl (fun ls hl => ?_)
                refine lv_iinc (v := (nI (k + 1))) (lv' := [(3, .int (nI (k + 1))), (2, .int (nI (1))), (0, .ref (ad 0)), (1, .int (nI (p)))]) hx hb dX5_canSend_58 hl (k := 3) rfl (z_inc _) (by decide) rfl (fun ls hl => ?_)
                refine lv_goto (tgt := 25) hx hb dX5_canSend_61 (by decide) ?_
                exact ih25 (k + 1) 1 (by omega) (Or.inl ⟨rfl, ht.elim (fun h => ⟨h.2.1, lt_s h.2.2 q49⟩) (fun h => absurd h.1 q34)⟩) (by omega) _ _ hR ls (lv_sub hl [2, 3, 1, 0] rfl)
      exact loop25 _ 0 1 (by omega) (Or.inl ⟨rfl, ⟨q5, q14.trans nI_0.symm⟩, fun q hq => absurd hq (Nat.not_lt_zero q)⟩) (Nat.lt_succ_self _) _ _ hR ls (lv_sub hl [2, 3, 1, 0] rfl)
set_option maxHeartbeats 4000000 in
set_option maxRecDepth 100000 in
theorem c_X5_canTake {l : Launch} {D : va_G} {cI cZ : ClassId} {ad : Nat → Nat} {B : Nat → Prop} (hG : ∀ S : zS, va_D B (wM cI cZ ad S)) (S : zS) (w p : Nat) (hO : zOK S) (hw : w < 4) (hp : p < 4) : zMi l yX5_canTake wsX5_canTake ({ frames := 1, cells := 0, slots := 0, locals := 21 } : Room) [.ref (ad 0), .int (nI (w)), .int (nI (p))] D (zT cI cZ) B (wM cI cZ ad) S (fun (r : Int32) (S1 : zS) => (((zcanT S p w) ∧ r = nI 1) ∨ (¬ (zcanT S p w) ∧ r = nI 0)) ∧ S1 = S) := by
  refine zMi_of (cc := cX5_canTake) (maxL := 3) (ret := (some .boolean)) (by decide) rfl (Nat.le_of_ble_eq_true rfl) ?_
  intro pg en s mm below meth cd hx hb hr hml hown hts hlk hF hR ls hl
  have hinX5 : ∀ w ∈ wsX50, w ∈ wsX5_canTake := by decide +kernel
  have hl : lv_has ls 3 [(0, .ref (ad 0)), (1, .int (nI (w))), (2, .int (nI (p)))] := hl
  refine lv_aload_n hx hb dX5_canTake_0 rfl (lv_at hl 0 rfl) ?_
  refine z_get (own := RX5) (C := RX5) (T := TX5) (N := 27) (k := 6) (v := .ref (ad 8)) hx hb hts hinX5 hown hF hR (wM_c0 S) rfl (by decide) (by decide +kernel) rfl rfl dX5_canTake_1 ?_
  refine lv_iload_n hx hb dX5_canTake_4 rfl (lv_at hl 2 rfl) ?_
  refine lv_iload_n hx hb dX5_canTake_5 rfl (lv_at hl 1 rfl) ?_
  refine z_callS_i (As := [.int (nI (p)), .int (nI (w))]) (rest := [.ref (ad 8)]) (w := wM cI cZ ad) ⟨hx, hb, hml, hown, hts⟩ hF hR (c_X5_channel hG S p w) (va_cwS 2 hts gX5_canTake_X5_channel rfl rfl rfl (by decide +kernel) ⟨Nat.le_of_ble_eq_true rfl, Nat.le_of_ble_eq_true rfl⟩) rfl hl rfl (Nat.le_of_ble_eq_true rfl) (by decide) dX5_canTake_6 (fun r1 S1 H locs hp1 hR => ?_)
  obtain ⟨hr1, hs1⟩ := hp1
  subst r1
  subst S1
  refine z_iald_n (f := S 7) hx hb hF hR (wM_c8 S) zT_0 dX5_canTake_9 (by decide) (by omega) ?_
  refine lv_topi (fun v3 ev3 => ?_)
  obtain rfl : v3 = (nI (zn S 7 (4 * p + w))) := ev3.trans (zOK.n7 hO _).1
  have hb9_2 := (zOK.n7 hO (4 * p + w)).2
  refine z_if_le_n (tgt := 30) hx hb dX5_canTake_10 (by decide) (by omega) (fun h10_4 => ?_) (fun h10_4 => ?_)
  · skip
    have q10 := h10_4
    refine lv_iconst (v := (nI (0))) hx hb dX5_canTake_30 (by decide) ?_
    exact z_zret (w := wM cI cZ ad) (S1 := S) hx hb hr hlk hF hR dX5_canTake_31 (by decide) (⟨Or.inr ⟨fun q => by first | (have := q.1; omega) | exact (zOK.b8 hO (4 * p + w)).elim (fun z => q23 (z.trans nI_0)) q.2, rfl⟩, rfl⟩)
  · skip
    have q10 := h10_4
    refine lv_aload_n hx hb dX5_canTake_13 rfl (lv_at hl 0 rfl) ?_
    refine z_get (own := RX5) (C := RX5) (T := TX5) (N := 27) (k := 7) (v := .ref (ad 9)) hx hb hts hinX5 hown hF hR (wM_c0 S) rfl (by decide) (by decide +kernel) rfl rfl dX5_canTake_14 ?_
    refine lv_iload_n hx hb dX5_canTake_17 rfl (lv_at hl 2 rfl) ?_
    refine lv_iload_n hx hb dX5_canTake_18 rfl (lv_at hl 1 rfl) ?_
    refine z_callS_i (As := [.int (nI (p)), .int (nI (w))]) (rest := [.ref (ad 9)]) (w := wM cI cZ ad) ⟨hx, hb, hml, hown, hts⟩ hF hR (c_X5_channel hG S p w) (va_cwS 2 hts gX5_canTake_X5_channel rfl rfl rfl (by decide +kernel) ⟨Nat.le_of_ble_eq_true rfl, Nat.le_of_ble_eq_true rfl⟩) rfl hl rfl (Nat.le_of_ble_eq_true rfl) (by decide) dX5_canTake_19 (fun r5 S5 H locs hp5 hR => ?_)
    obtain ⟨hr5, hs5⟩ := hp5
    subst r5
    subst S5
    refine z_zald_n (f := S 8) hx hb hF hR (wM_c9 S) zT_1 dX5_canTake_22 (by decide) (by omega) ?_
    refine lv_if_ne (tgt := 30) hx hb dX5_canTake_23 (by decide) (fun h23_6 => ?_) (fun h23_6 => ?_)
    · skip
      have q23 := h23_6
      refine lv_iconst (v := (nI (0))) hx hb dX5_canTake_30 (by decide) ?_
      exact z_zret (w := wM cI cZ ad) (S1 := S) hx hb hr hlk hF hR dX5_canTake_31 (by decide) (⟨Or.inr ⟨fun q => by first | (have := q.1; omega) | exact (zOK.b8 hO (4 * p + w)).elim (fun z => q23 (z.trans nI_0)) q.2, rfl⟩, rfl⟩)
    · skip
      have q23 := h23_6
      refine lv_iconst (v := (nI (1))) hx hb dX5_canTake_26 (by decide) ?_
      refine lv_goto (tgt := 31) hx hb dX5_canTake_27 (by decide) ?_
      exact z_zret (w := wM cI cZ ad) (S1 := S) hx hb hr hlk hF hR dX5_canTake_31 (by decide) (⟨Or.inl ⟨⟨q10, by rw [q23]; decide⟩, rfl⟩, rfl⟩)
set_option maxHeartbeats 4000000 in
set_option maxRecDepth 100000 in
theorem c_X5_mayCommit {l : Launch} {D : va_G} {cI cZ : ClassId} {ad : Nat → Nat} {B : Nat → Prop} (hG : ∀ S : zS, va_D B (wM cI cZ ad S)) (S : zS) (w : Nat) (hw : w < 4) : zMi l yX5_mayCommit wsX5_mayCommit ({ frames := 0, cells := 0, slots := 0, locals := 0 } : Room) [.ref (ad 0), .int (nI (w))] D (zT cI cZ) B (wM cI cZ ad) S (fun (r : Int32) (S1 : zS) => (((zmay S w) ∧ r = nI 1) ∨ (¬ (zmay S w) ∧ r = nI 0)) ∧ S1 = S) := by
  refine zMi_of (cc := cX5_mayCommit) (maxL := 2) (ret := (some .boolean)) (by decide) rfl (Nat.le_of_ble_eq_true rfl) ?_
  intro pg en s mm below meth cd hx hb hr hml hown hts hlk hF hR ls hl
  have hinX5 : ∀ w ∈ wsX50, w ∈ wsX5_mayCommit := by decide +kernel
  have hl : lv_has ls 2 [(0, .ref (ad 0)), (1, .int (nI (w)))] := hl
  refine lv_aload_n hx hb dX5_mayCommit_0 rfl (lv_at hl 0 rfl) ?_
  refine z_get (own := RX5) (C := RX5) (T := TX5) (N := 27) (k := 14) (v := .ref (ad 22)) hx hb hts hinX5 hown hF hR (wM_c0 S) rfl (by decide) (by decide +kernel) rfl rfl dX5_mayCommit_1 ?_
  refine lv_iload_n hx hb dX5_mayCommit_4 rfl (lv_at hl 1 rfl) ?_
  refine z_iald_n (f := S 21) hx hb hF hR (wM_c22 S) zT_0 dX5_mayCommit_5 (by decide) (by omega) ?_
  refine lv_iconst (v := ((-1))) hx hb dX5_mayCommit_6 (by decide) ?_
  refine lv_icmp_eq (tgt := 27) hx hb dX5_mayCommit_7 (by decide) (fun h7_1 => ?_) (fun h7_1 => ?_)
  · skip
    have q7 := h7_1
    refine lv_iconst (v := (nI (0))) hx hb dX5_mayCommit_27 (by decide) ?_
    exact z_zret (w := wM cI cZ ad) (S1 := S) hx hb hr hlk hF hR dX5_mayCommit_28 (by decide) (⟨Or.inr ⟨fun q => by first | exact q.1 q7 | exact q.2 q20, rfl⟩, rfl⟩)
  · skip
    have q7 := h7_1
    refine lv_aload_n hx hb dX5_mayCommit_10 rfl (lv_at hl 0 rfl) ?_
    refine z_get (own := RX5) (C := RX5) (T := TX5) (N := 27) (k := 14) (v := .ref (ad 22)) hx hb hts hinX5 hown hF hR (wM_c0 S) rfl (by decide) (by decide +kernel) rfl rfl dX5_mayCommit_11 ?_
    refine lv_iload_n hx hb dX5_mayCommit_14 rfl (lv_at hl 1 rfl) ?_
    refine z_iald_n (f := S 21) hx hb hF hR (wM_c22 S) zT_0 dX5_mayCommit_15 (by decide) (by omega) ?_
    refine lv_aload_n hx hb dX5_mayCommit_16 rfl (lv_at hl 0 rfl) ?_
    refine z_get (own := RX5) (C := RX5) (T := TX5) (N := 27) (k := 18) (v := .int (S 22 2)) hx hb hts hinX5 hown hF hR (wM_c0 S) rfl (by decide) (by decide +kernel) rfl rfl dX5_mayCommit_17 ?_
    refine lv_icmp_eq (tgt := 27) hx hb dX5_mayCommit_20 (by decide) (fun h20_2 => ?_) (fun h20_2 => ?_)
    · skip
      have q20 := h20_2
      refine lv_iconst (v := (nI (0))) hx hb dX5_mayCommit_27 (by decide) ?_
      exact z_zret (w := wM cI cZ ad) (S1 := S) hx hb hr hlk hF hR dX5_mayCommit_28 (by decide) (⟨Or.inr ⟨fun q => by first | exact q.1 q7 | exact q.2 q20, rfl⟩, rfl⟩)
    · skip
      have q20 := h20_2
      refine lv_iconst (v := (nI (1))) hx hb dX5_mayCommit_23 (by decide) ?_
      refine lv_goto (tgt := 28) hx hb dX5_mayCommit_24 (by decide) ?_
      exact z_zret (w := wM cI cZ ad) (S1 := S) hx hb hr hlk hF hR dX5_mayCommit_28 (by decide) (⟨Or.inl ⟨⟨q7, q20⟩, rfl⟩, rfl⟩)
set_option maxHeartbeats 4000000 in
set_option maxRecDepth 100000 in
theorem c_X5_isAnySealed {l : Launch} {D : va_G} {cI cZ : ClassId} {ad : Nat → Nat} {B : Nat → Prop} (hG : ∀ S : zS, va_D B (wM cI cZ ad S)) (S : zS)  : zMi l yX5_isAnySealed wsX5_isAnySealed ({ frames := 0, cells := 0, slots := 0, locals := 0 } : Room) [.ref (ad 0)] D (zT cI cZ) B (wM cI cZ ad) S (fun (r : Int32) (S1 : zS) => (((¬ (S 21 0 = (-1) ∧ S 21 1 = (-1) ∧ S 21 2 = (-1) ∧ S 21 3 = (-1))) ∧ r = nI 1) ∨ (¬ (¬ (S 21 0 = (-1) ∧ S 21 1 = (-1) ∧ S 21 2 = (-1) ∧ S 21 3 = (-1))) ∧ r = nI 0)) ∧ S1 = S) := by
  refine zMi_of (cc := cX5_isAnySealed) (maxL := 1) (ret := (some .boolean)) (by decide) rfl (Nat.le_of_ble_eq_true rfl) ?_
  intro pg en s mm below meth cd hx hb hr hml hown hts hlk hF hR ls hl
  have hinX5 : ∀ w ∈ wsX50, w ∈ wsX5_isAnySealed := by decide +kernel
  have hl : lv_has ls 1 [(0, .ref (ad 0))] := hl
  refine lv_aload_n hx hb dX5_isAnySealed_0 rfl (lv_at hl 0 rfl) ?_
  refine z_get (own := RX5) (C := RX5) (T := TX5) (N := 27) (k := 14) (v := .ref (ad 22)) hx hb hts hinX5 hown hF hR (wM_c0 S) rfl (by decide) (by decide +kernel) rfl rfl dX5_isAnySealed_1 ?_
  refine lv_iconst (v := (nI (0))) hx hb dX5_isAnySealed_4 (by decide) ?_
  refine z_iald_n (f := S 21) hx hb hF hR (wM_c22 S) zT_0 dX5_isAnySealed_5 (by decide) (by omega) ?_
  refine lv_iconst (v := ((-1))) hx hb dX5_isAnySealed_6 (by decide) ?_
  refine lv_icmp_ne (tgt := 40) hx hb dX5_isAnySealed_7 (by decide) (fun h7_1 => ?_) (fun h7_1 => ?_)
  · skip
    have q7 := h7_1
    refine lv_iconst (v := (nI (1))) hx hb dX5_isAnySealed_40 (by decide) ?_
    refine lv_goto (tgt := 45) hx hb dX5_isAnySealed_41 (by decide) ?_
    exact z_zret (w := wM cI cZ ad) (S1 := S) hx hb hr hlk hF hR dX5_isAnySealed_45 (by decide) (⟨Or.inl ⟨fun q => by first | exact q7 q.1 | exact q17 q.2.1 | exact q27 q.2.2.1 | exact q37 q.2.2.2, rfl⟩, rfl⟩)
  · skip
    have q7 := h7_1
    refine lv_aload_n hx hb dX5_isAnySealed_10 rfl (lv_at hl 0 rfl) ?_
    refine z_get (own := RX5) (C := RX5) (T := TX5) (N := 27) (k := 14) (v := .ref (ad 22)) hx hb hts hinX5 hown hF hR (wM_c0 S) rfl (by decide) (by decide +kernel) rfl rfl dX5_isAnySealed_11 ?_
    refine lv_iconst (v := (nI (1))) hx hb dX5_isAnySealed_14 (by decide) ?_
    refine z_iald_n (f := S 21) hx hb hF hR (wM_c22 S) zT_0 dX5_isAnySealed_15 (by decide) (by omega) ?_
    refine lv_iconst (v := ((-1))) hx hb dX5_isAnySealed_16 (by decide) ?_
    refine lv_icmp_ne (tgt := 40) hx hb dX5_isAnySealed_17 (by decide) (fun h17_2 => ?_) (fun h17_2 => ?_)
    · skip
      have q17 := h17_2
      refine lv_iconst (v := (nI (1))) hx hb dX5_isAnySealed_40 (by decide) ?_
      refine lv_goto (tgt := 45) hx hb dX5_isAnySealed_41 (by decide) ?_
      exact z_zret (w := wM cI cZ ad) (S1 := S) hx hb hr hlk hF hR dX5_isAnySealed_45 (by decide) (⟨Or.inl ⟨fun q => by first | exact q7 q.1 | exact q17 q.2.1 | exact q27 q.2.2.1 | exact q37 q.2.2.2, rfl⟩, rfl⟩)
    · skip
      have q17 := h17_2
      refine lv_aload_n hx hb dX5_isAnySealed_20 rfl (lv_at hl 0 rfl) ?_
      refine z_get (own := RX5) (C := RX5) (T := TX5) (N := 27) (k := 14) (v := .ref (ad 22)) hx hb hts hinX5 hown hF hR (wM_c0 S) rfl (by decide) (by decide +kernel) rfl rfl dX5_isAnySealed_21 ?_
      refine lv_iconst (v := (nI (2))) hx hb dX5_isAnySealed_24 (by decide) ?_
      refine z_iald_n (f := S 21) hx hb hF hR (wM_c22 S) zT_0 dX5_isAnySealed_25 (by decide) (by omega) ?_
      refine lv_iconst (v := ((-1))) hx hb dX5_isAnySealed_26 (by decide) ?_
      refine lv_icmp_ne (tgt := 40) hx hb dX5_isAnySealed_27 (by decide) (fun h27_3 => ?_) (fun h27_3 => ?_)
      · skip
        have q27 := h27_3
        refine lv_iconst (v := (nI (1))) hx hb dX5_isAnySealed_40 (by decide) ?_
        refine lv_goto (tgt := 45) hx hb dX5_isAnySealed_41 (by decide) ?_
        exact z_zret (w := wM cI cZ ad) (S1 := S) hx hb hr hlk hF hR dX5_isAnySealed_45 (by decide) (⟨Or.inl ⟨fun q => by first | exact q7 q.1 | exact q17 q.2.1 | exact q27 q.2.2.1 | exact q37 q.2.2.2, rfl⟩, rfl⟩)
      · skip
        have q27 := h27_3
        refine lv_aload_n hx hb dX5_isAnySealed_30 rfl (lv_at hl 0 rfl) ?_
        refine z_get (own := RX5) (C := RX5) (T := TX5) (N := 27) (k := 14) (v := .ref (ad 22)) hx hb hts hinX5 hown hF hR (wM_c0 S) rfl (by decide) (by decide +kernel) rfl rfl dX5_isAnySealed_31 ?_
        refine lv_iconst (v := (nI (3))) hx hb dX5_isAnySealed_34 (by decide) ?_
        refine z_iald_n (f := S 21) hx hb hF hR (wM_c22 S) zT_0 dX5_isAnySealed_35 (by decide) (by omega) ?_
        refine lv_iconst (v := ((-1))) hx hb dX5_isAnySealed_36 (by decide) ?_
        refine lv_icmp_eq (tgt := 44) hx hb dX5_isAnySealed_37 (by decide) (fun h37_4 => ?_) (fun h37_4 => ?_)
        · skip
          have q37 := h37_4
          refine lv_iconst (v := (nI (0))) hx hb dX5_isAnySealed_44 (by decide) ?_
          exact z_zret (w := wM cI cZ ad) (S1 := S) hx hb hr hlk hF hR dX5_isAnySealed_45 (by decide) (⟨Or.inr ⟨fun q => q ⟨q7, q17, q27, q37⟩, rfl⟩, rfl⟩)
        · skip
          have q37 := h37_4
          refine lv_iconst (v := (nI (1))) hx hb dX5_isAnySealed_40 (by decide) ?_
          refine lv_goto (tgt := 45) hx hb dX5_isAnySealed_41 (by decide) ?_
          exact z_zret (w := wM cI cZ ad) (S1 := S) hx hb hr hlk hF hR dX5_isAnySealed_45 (by decide) (⟨Or.inl ⟨fun q => by first | exact q7 q.1 | exact q17 q.2.1 | exact q27 q.2.2.1 | exact q37 q.2.2.2, rfl⟩, rfl⟩)
set_option maxHeartbeats 4000000 in
set_option maxRecDepth 100000 in
theorem c_X5_lifts {l : Launch} {D : va_G} {cI cZ : ClassId} {ad : Nat → Nat} {B : Nat → Prop} (hG : ∀ S : zS, va_D B (wM cI cZ ad S)) (S : zS)  : zMv l yX5_lifts wsX5_lifts ({ frames := 0, cells := 0, slots := 0, locals := 0 } : Room) [.ref (ad 0)] D (zT cI cZ) B (wM cI cZ ad) S (fun (S1 : zS) => S1 = mo_lift S) := by
  refine zMv_of (cc := cX5_lifts) (maxL := 2) (ret := none) (by decide) rfl (Nat.le_of_ble_eq_true rfl) ?_
  intro pg en s mm below meth cd hx hb hr hml hown hts hlk hF hR ls hl
  have hinX5 : ∀ w ∈ wsX50, w ∈ wsX5_lifts := by decide +kernel
  have hl : lv_has ls 2 [(0, .ref (ad 0))] := hl
  refine lv_iconst (v := (nI (0))) hx hb dX5_lifts_0 (by decide) ?_
  refine lv_istore_n (lv' := [(1, .int (nI (0))), (0, .ref (ad 0))]) hx hb dX5_lifts_1 rfl hl (by decide) rfl (fun ls hl => ?_)
  have loop2 : ∀ (nf2 : Nat) (k : Nat), (k ≤ 16) → 16 - k < nf2 → ∀ (H : Heap) (locs : List Loc), zR D B (wM cI cZ ad (zU S 8 (sp_z (S 8) k))) s H locs → ∀ ls : Array Slot, lv_has ls 2 [(0, .ref (ad 0)), (1, .int (nI (k)))] → W pg l en ({ frames := 0, cells := 0, slots := 0, locals := 0 } : Room) s mm ([.ref (ad 0)] : List Value).toArray below meth cd H locs 0 0 (MQ below (va_Qv (fun (S1 : zS) => S1 = mo_lift S) (zB D (zT cI cZ) (wM cI cZ ad)) (zA B s.heap.size)) ([.ref (ad 0)] : List Value).toArray s 0 0 (zA B s.heap.size)) (F0 mm 2 ls []) := by
    intro nf2
    induction nf2 with
    | zero => intro k hk4 hn; exact absurd hn (Nat.not_lt_zero _)
    | succ nf2 ih2 =>
      intro k hk4 hn H locs hR ls hl
      refine lv_iload_n hx hb dX5_lifts_2 rfl (lv_at hl 1 rfl) ?_
      refine lv_bipush (v := (nI (16))) hx hb dX5_lifts_3 (by decide) ?_
      refine z_ge_n (tgt := 21) hx hb dX5_lifts_5 (by decide) (by omega) (by omega) (fun h5_1 => ?_) (fun h5_1 => ?_)
      · skip
        have hR : zR D B (wM cI cZ ad (zU S 8 (sp_z (S 8) 16))) s H locs := by rw [show (zU S 8 (sp_z (S 8) 16)) = (zU S 8 (sp_z (S 8) k)) from by rw [show (16 : Nat) = k from by omega]]; exact hR
        refine lv_iconst (v := (nI (0))) hx hb dX5_lifts_21 (by decide) ?_
        refine lv_istore_n (lv' := [(1, .int (nI (0))), (0, .ref (ad 0))]) hx hb dX5_lifts_22 rfl hl (by decide) rfl (fun ls hl => ?_)
        have loop23 : ∀ (nf23 : Nat) (j : Nat), (j ≤ 4) → 4 - j < nf23 → ∀ (H : Heap) (locs : List Loc), zR D B (wM cI cZ ad (zU (zU S 8 (sp_z (S 8) 16)) 4 (sp_z (S 4) j))) s H locs → ∀ ls : Array Slot, lv_has ls 2 [(0, .ref (ad 0)), (1, .int (nI (j)))] → W pg l en ({ frames := 0, cells := 0, slots := 0, locals := 0 } : Room) s mm ([.ref (ad 0)] : List Value).toArray below meth cd H locs 0 0 (MQ below (va_Qv (fun (S1 : zS) => S1 = mo_lift S) (zB D (zT cI cZ) (wM cI cZ ad)) (zA B s.heap.size)) ([.ref (ad 0)] : List Value).toArray s 0 0 (zA B s.heap.size)) (F0 mm 23 ls []) := by
          intro nf23
          induction nf23 with
          | zero => intro j hj4 hn; exact absurd hn (Nat.not_lt_zero _)
          | succ nf23 ih23 =>
            intro j hj4 hn H locs hR ls hl
            refine lv_iload_n hx hb dX5_lifts_23 rfl (lv_at hl 1 rfl) ?_
            refine lv_iconst (v := (nI (4))) hx hb dX5_lifts_24 (by decide) ?_
            refine z_ge_n (tgt := 41) hx hb dX5_lifts_25 (by decide) (by omega) (by omega) (fun h25_2 => ?_) (fun h25_2 => ?_)
            · skip
              exact z_vret (w := wM cI cZ ad) (S1 := (zU (zU S 8 (sp_z (S 8) 16)) 4 (sp_z (S 4) j))) hx hb hr hlk hF hR dX5_lifts_41 (by rw [show j = 4 from by omega]; rfl)
            · skip
              refine lv_aload_n hx hb dX5_lifts_28 rfl (lv_at hl 0 rfl) ?_
              refine z_get (own := RX5) (C := RX5) (T := TX5) (N := 27) (k := 20) (v := .ref (ad 5)) hx hb hts hinX5 hown hF hR (wM_c0 (zU (zU S 8 (sp_z (S 8) 16)) 4 (sp_z (S 4) j))) rfl (by decide) (by decide +kernel) rfl rfl dX5_lifts_29 ?_
              refine lv_iload_n hx hb dX5_lifts_32 rfl (lv_at hl 1 rfl) ?_
              refine lv_iconst (v := (nI (0))) hx hb dX5_lifts_33 (by decide) ?_
              refine z_zast_n (f := (sp_z (S 4) j)) hx hb hF (hG (zU (zU S 8 (sp_z (S 8) 16)) 4 (sp_z (S 4) j))) hR (wM_c5 (zU (zU S 8 (sp_z (S 8) 16)) 4 (sp_z (S 4) j))) zT_1 (wM_s4 (zU (zU S 8 (sp_z (S 8) 16)) 4 (sp_z (S 4) j)) (upd ((sp_z (S 4) j)) (j) (nI (0)))) dX5_lifts_34 (by decide) (by omega) (by decide +kernel) (fun H locs hR => ?_)
              have hR : zR D B (wM cI cZ ad (zU (zU S 8 (sp_z (S 8) 16)) 4 (upd ((sp_z (S 4) j)) (j) (nI (0))))) s H locs := by rw [show (zU (zU S 8 (sp_z (S 8) 16)) 4 (upd ((sp_z (S 4) j)) (j) (nI (0)))) = zU (zU (zU S 8 (sp_z (S 8) 16)) 4 (sp_z (S 4) j)) 4 (upd ((sp_z (S 4) j)) (j) (nI (0))) from (zU_U _ _ _ _).symm]; exact hR
              refine lv_iinc (v := (nI (j + 1))) (lv' := [(1, .int (nI (j + 1))), (0, .ref (ad 0))]) hx hb dX5_lifts_35 hl (k := 1) rfl (z_inc _) (by decide) rfl (fun ls hl => ?_)
              refine lv_goto (tgt := 23) hx hb dX5_lifts_38 (by decide) ?_
              exact ih23 (j + 1) (by omega) (by omega) _ _ (by rw [show zU (zU S 8 (sp_z (S 8) 16)) 4 (sp_z (S 4) (j + 1)) = (zU (zU S 8 (sp_z (S 8) 16)) 4 (upd ((sp_z (S 4) j)) (j) (nI (0)))) from rfl]; exact hR) ls (lv_sub hl [1, 0] rfl)
        exact loop23 _ 0 (by omega) (Nat.lt_succ_self _) _ _ (by rw [show zU (zU S 8 (sp_z (S 8) 16)) 4 (sp_z (S 4) 0) = (zU S 8 (sp_z (S 8) 16)) from zU_self (zU S 8 (sp_z (S 8) 16)) 4]; exact hR) ls (lv_sub hl [1, 0] rfl)
      · skip
        refine lv_aload_n hx hb dX5_lifts_8 rfl (lv_at hl 0 rfl) ?_
        refine z_get (own := RX5) (C := RX5) (T := TX5) (N := 27) (k := 7) (v := .ref (ad 9)) hx hb hts hinX5 hown hF hR (wM_c0 (zU S 8 (sp_z (S 8) k))) rfl (by decide) (by decide +kernel) rfl rfl dX5_lifts_9 ?_
        refine lv_iload_n hx hb dX5_lifts_12 rfl (lv_at hl 1 rfl) ?_
        refine lv_iconst (v := (nI (0))) hx hb dX5_lifts_13 (by decide) ?_
        refine z_zast_n (f := (sp_z (S 8) k)) hx hb hF (hG (zU S 8 (sp_z (S 8) k))) hR (wM_c9 (zU S 8 (sp_z (S 8) k))) zT_1 (wM_s8 (zU S 8 (sp_z (S 8) k)) (upd ((sp_z (S 8) k)) (k) (nI (0)))) dX5_lifts_14 (by decide) (by omega) (by decide +kernel) (fun H locs hR => ?_)
        have hR : zR D B (wM cI cZ ad (zU S 8 (upd ((sp_z (S 8) k)) (k) (nI (0))))) s H locs := by rw [show (zU S 8 (upd ((sp_z (S 8) k)) (k) (nI (0)))) = zU (zU S 8 (sp_z (S 8) k)) 8 (upd ((sp_z (S 8) k)) (k) (nI (0))) from (zU_U _ _ _ _).symm]; exact hR
        refine lv_iinc (v := (nI (k + 1))) (lv' := [(1, .int (nI (k + 1))), (0, .ref (ad 0))]) hx hb dX5_lifts_15 hl (k := 1) rfl (z_inc _) (by decide) rfl (fun ls hl => ?_)
        refine lv_goto (tgt := 2) hx hb dX5_lifts_18 (by decide) ?_
        exact ih2 (k + 1) (by omega) (by omega) _ _ (by rw [show zU S 8 (sp_z (S 8) (k + 1)) = (zU S 8 (upd ((sp_z (S 8) k)) (k) (nI (0)))) from rfl]; exact hR) ls (lv_sub hl [1, 0] rfl)
  exact loop2 _ 0 (by omega) (Nat.lt_succ_self _) _ _ (by rw [show zU S 8 (sp_z (S 8) 0) = S from zU_self S 8]; exact hR) ls (lv_sub hl [1, 0] rfl)
set_option maxHeartbeats 4000000 in
set_option maxRecDepth 100000 in
theorem c_X5_completes {l : Launch} {D : va_G} {cI cZ : ClassId} {ad : Nat → Nat} {B : Nat → Prop} (hG : ∀ S : zS, va_D B (wM cI cZ ad S)) (S : zS) (hO : zOK S) : zMv l yX5_completes wsX5_completes ({ frames := 1, cells := 0, slots := 0, locals := 22 } : Room) [.ref (ad 0)] D (zT cI cZ) B (wM cI cZ ad) S (fun (S1 : zS) => S1 = mo_cp S) := by
  refine zMv_of (cc := cX5_completes) (maxL := 2) (ret := none) (by decide) rfl (Nat.le_of_ble_eq_true rfl) ?_
  intro pg en s mm below meth cd hx hb hr hml hown hts hlk hF hR ls hl
  have hinX5 : ∀ w ∈ wsX50, w ∈ wsX5_completes := by decide +kernel
  have hl : lv_has ls 2 [(0, .ref (ad 0))] := hl
  have hW1 := (zOK.w hO).2.1
  have hW4 := (zOK.w hO).2.2
  refine lv_iconst (v := (nI (0))) hx hb dX5_completes_0 (by decide) ?_
  refine lv_istore_n (lv' := [(1, .int (nI (0))), (0, .ref (ad 0))]) hx hb dX5_completes_1 rfl hl (by decide) rfl (fun ls hl => ?_)
  have loop2 : ∀ (nf2 : Nat) (k : Nat), (k ≤ zn S 22 0) → (∀ w, w < k → S 21 w = S 22 2) → zn S 22 0 - k < nf2 → ∀ (H : Heap) (locs : List Loc), zR D B (wM cI cZ ad S) s H locs → ∀ ls : Array Slot, lv_has ls 2 [(0, .ref (ad 0)), (1, .int (nI (k)))] → W pg l en ({ frames := 1, cells := 0, slots := 0, locals := 22 } : Room) s mm ([.ref (ad 0)] : List Value).toArray below meth cd H locs 0 0 (MQ below (va_Qv (fun (S1 : zS) => S1 = mo_cp S) (zB D (zT cI cZ) (wM cI cZ ad)) (zA B s.heap.size)) ([.ref (ad 0)] : List Value).toArray s 0 0 (zA B s.heap.size)) (F0 mm 2 ls []) := by
    intro nf2
    induction nf2 with
    | zero => intro k hk4 hk hn; exact absurd hn (Nat.not_lt_zero _)
    | succ nf2 ih2 =>
      intro k hk4 hk hn H locs hR ls hl
      refine lv_iload_n hx hb dX5_completes_2 rfl (lv_at hl 1 rfl) ?_
      refine lv_aload_n hx hb dX5_completes_3 rfl (lv_at hl 0 rfl) ?_
      refine z_get (own := RX5) (C := RX5) (T := TX5) (N := 27) (k := 1) (v := .int (S 22 0)) hx hb hts hinX5 hown hF hR (wM_c0 S) rfl (by decide) (by decide +kernel) rfl rfl dX5_completes_4 ?_
      refine lv_topi (fun v1 ev1 => ?_)
      obtain rfl : v1 = (nI (zn S 22 0)) := ev1.trans (zOK.w hO).1
      refine z_ge_n (tgt := 30) hx hb dX5_completes_7 (by decide) (by omega) (by omega) (fun h7_2 => ?_) (fun h7_2 => ?_)
      · skip
        refine lv_aload_n hx hb dX5_completes_30 rfl (lv_at hl 0 rfl) ?_
        refine lv_aload_n hx hb dX5_completes_31 rfl (lv_at hl 0 rfl) ?_
        refine z_get (own := RX5) (C := RX5) (T := TX5) (N := 27) (k := 18) (v := .int (S 22 2)) hx hb hts hinX5 hown hF hR (wM_c0 S) rfl (by decide) (by decide +kernel) rfl rfl dX5_completes_32 ?_
        refine z_put (own := RX5) (C := RX5) (T := TX5) (N := 27) (k := 19) (ty := .int) hx hb hts hinX5 tyX5 tyX5_ok nmX5 hown hF (hG S) hR (wM_c0 S) rfl (by decide) (by decide +kernel) rfl rfl (by decide +kernel) rfl rfl (Nat.le_of_ble_eq_true rfl) (wM_p3 S (S 22 2)) dX5_completes_35 (fun H locs hR => ?_)
        refine lv_aload_n hx hb dX5_completes_38 rfl (lv_at hl 0 rfl) ?_
        refine lv_iconst (v := ((-1))) hx hb dX5_completes_39 (by decide) ?_
        refine z_put (own := RX5) (C := RX5) (T := TX5) (N := 27) (k := 18) (ty := .int) hx hb hts hinX5 tyX5 tyX5_ok nmX5 hown hF (hG (zU S 22 (upd (S 22) 3 (S 22 2)))) hR (wM_c0 (zU S 22 (upd (S 22) 3 (S 22 2)))) rfl (by decide) (by decide +kernel) rfl rfl (by decide +kernel) rfl rfl (Nat.le_of_ble_eq_true rfl) (wM_p2 (zU S 22 (upd (S 22) 3 (S 22 2))) ((-1))) dX5_completes_40 (fun H locs hR => ?_)
        have hR : zR D B (wM cI cZ ad (zU S 22 (upd ((upd (S 22) 3 (S 22 2))) 2 ((-1))))) s H locs := by rw [show (zU S 22 (upd ((upd (S 22) 3 (S 22 2))) 2 ((-1)))) = zU (zU S 22 (upd (S 22) 3 (S 22 2))) 22 (upd ((upd (S 22) 3 (S 22 2))) 2 ((-1))) from (zU_U _ _ _ _).symm]; exact hR
        have hR : zR D B (wM cI cZ ad (zU S 22 (upd (upd (S 22) 3 (S 22 2)) 2 (-1)))) s H locs := by rw [show (zU S 22 (upd (upd (S 22) 3 (S 22 2)) 2 (-1))) = (zU S 22 (upd ((upd (S 22) 3 (S 22 2))) 2 ((-1)))) from rfl]; exact hR
        refine lv_aload_n hx hb dX5_completes_43 rfl (lv_at hl 0 rfl) ?_
        refine z_get (own := RX5) (C := RX5) (T := TX5) (N := 27) (k := 21) (v := .ref (ad 6)) hx hb hts hinX5 hown hF hR (wM_c0 (zU S 22 (upd (upd (S 22) 3 (S 22 2)) 2 (-1)))) rfl (by decide) (by decide +kernel) rfl rfl dX5_completes_44 ?_
        refine lv_aload_n hx hb dX5_completes_47 rfl (lv_at hl 0 rfl) ?_
        refine z_get (own := RX5) (C := RX5) (T := TX5) (N := 27) (k := 24) (v := .ref (ad 4)) hx hb hts hinX5 hown hF hR (wM_c0 (zU S 22 (upd (upd (S 22) 3 (S 22 2)) 2 (-1)))) rfl (by decide) (by decide +kernel) rfl rfl dX5_completes_48 ?_
        refine z_callS_v (As := [.ref (ad 6), .ref (ad 4)]) (rest := []) (w := wM cI cZ ad) ⟨hx, hb, hml, hown, hts⟩ hF hR (c_X5_copies_5_3 hG (zU S 22 (upd (upd (S 22) 3 (S 22 2)) 2 (-1))) ) (va_cwS 2 hts gX5_completes_X5_copies rfl rfl rfl (by decide +kernel) ⟨Nat.le_of_ble_eq_true rfl, Nat.le_of_ble_eq_true rfl⟩) rfl hl rfl (Nat.le_of_ble_eq_true rfl) (by decide) dX5_completes_51 (fun S3 H locs hp3 hR => ?_)
        subst S3
        refine lv_aload_n hx hb dX5_completes_54 rfl (lv_at hl 0 rfl) ?_
        refine z_get (own := RX5) (C := RX5) (T := TX5) (N := 27) (k := 22) (v := .ref (ad 16)) hx hb hts hinX5 hown hF hR (wM_c0 (mo_cpy (zU S 22 (upd (upd (S 22) 3 (S 22 2)) 2 (-1))) 3 5 4)) rfl (by decide) (by decide +kernel) rfl rfl dX5_completes_55 ?_
        refine lv_aload_n hx hb dX5_completes_58 rfl (lv_at hl 0 rfl) ?_
        refine z_get (own := RX5) (C := RX5) (T := TX5) (N := 27) (k := 25) (v := .ref (ad 18)) hx hb hts hinX5 hown hF hR (wM_c0 (mo_cpy (zU S 22 (upd (upd (S 22) 3 (S 22 2)) 2 (-1))) 3 5 4)) rfl (by decide) (by decide +kernel) rfl rfl dX5_completes_59 ?_
        refine z_callS_v (As := [.ref (ad 16), .ref (ad 18)]) (rest := []) (w := wM cI cZ ad) ⟨hx, hb, hml, hown, hts⟩ hF hR (c_X5_copies_15_17 hG (mo_cpy (zU S 22 (upd (upd (S 22) 3 (S 22 2)) 2 (-1))) 3 5 4) ) (va_cwS 2 hts gX5_completes_X5_copies rfl rfl rfl (by decide +kernel) ⟨Nat.le_of_ble_eq_true rfl, Nat.le_of_ble_eq_true rfl⟩) rfl hl rfl (Nat.le_of_ble_eq_true rfl) (by decide) dX5_completes_62 (fun S4 H locs hp4 hR => ?_)
        subst S4
        refine lv_aload_n hx hb dX5_completes_65 rfl (lv_at hl 0 rfl) ?_
        refine z_get (own := RX5) (C := RX5) (T := TX5) (N := 27) (k := 23) (v := .ref (ad 17)) hx hb hts hinX5 hown hF hR (wM_c0 (mo_cpy (mo_cpy (zU S 22 (upd (upd (S 22) 3 (S 22 2)) 2 (-1))) 3 5 4) 17 15 32)) rfl (by decide) (by decide +kernel) rfl rfl dX5_completes_66 ?_
        refine lv_aload_n hx hb dX5_completes_69 rfl (lv_at hl 0 rfl) ?_
        refine z_get (own := RX5) (C := RX5) (T := TX5) (N := 27) (k := 26) (v := .ref (ad 19)) hx hb hts hinX5 hown hF hR (wM_c0 (mo_cpy (mo_cpy (zU S 22 (upd (upd (S 22) 3 (S 22 2)) 2 (-1))) 3 5 4) 17 15 32)) rfl (by decide) (by decide +kernel) rfl rfl dX5_completes_70 ?_
        refine z_callS_v (As := [.ref (ad 17), .ref (ad 19)]) (rest := []) (w := wM cI cZ ad) ⟨hx, hb, hml, hown, hts⟩ hF hR (c_X5_copies_16_18 hG (mo_cpy (mo_cpy (zU S 22 (upd (upd (S 22) 3 (S 22 2)) 2 (-1))) 3 5 4) 17 15 32) ) (va_cwS 2 hts gX5_completes_X5_copies rfl rfl rfl (by decide +kernel) ⟨Nat.le_of_ble_eq_true rfl, Nat.le_of_ble_eq_true rfl⟩) rfl hl rfl (Nat.le_of_ble_eq_true rfl) (by decide) dX5_completes_73 (fun S5 H locs hp5 hR => ?_)
        subst S5
        exact z_vret (w := wM cI cZ ad) (S1 := (mo_cpy (mo_cpy (mo_cpy (zU S 22 (upd (upd (S 22) 3 (S 22 2)) 2 (-1))) 3 5 4) 17 15 32) 18 16 32)) hx hb hr hlk hF hR dX5_completes_76 ((if_pos (fun w hw => hk w (by omega))).symm)
      · skip
        refine lv_aload_n hx hb dX5_completes_10 rfl (lv_at hl 0 rfl) ?_
        refine z_get (own := RX5) (C := RX5) (T := TX5) (N := 27) (k := 14) (v := .ref (ad 22)) hx hb hts hinX5 hown hF hR (wM_c0 S) rfl (by decide) (by decide +kernel) rfl rfl dX5_completes_11 ?_
        refine lv_iload_n hx hb dX5_completes_14 rfl (lv_at hl 1 rfl) ?_
        refine z_iald_n (f := S 21) hx hb hF hR (wM_c22 S) zT_0 dX5_completes_15 (by decide) (by omega) ?_
        refine lv_aload_n hx hb dX5_completes_16 rfl (lv_at hl 0 rfl) ?_
        refine z_get (own := RX5) (C := RX5) (T := TX5) (N := 27) (k := 18) (v := .int (S 22 2)) hx hb hts hinX5 hown hF hR (wM_c0 S) rfl (by decide) (by decide +kernel) rfl rfl dX5_completes_17 ?_
        refine lv_icmp_eq (tgt := 24) hx hb dX5_completes_20 (by decide) (fun h20_6 => ?_) (fun h20_6 => ?_)
        · skip
          have q20 := h20_6
          refine lv_iinc (v := (nI (k + 1))) (lv' := [(1, .int (nI (k + 1))), (0, .ref (ad 0))]) hx hb dX5_completes_24 hl (k := 1) rfl (z_inc _) (by decide) rfl (fun ls hl => ?_)
          refine lv_goto (tgt := 2) hx hb dX5_completes_27 (by decide) ?_
          exact ih2 (k + 1) (by omega) (lt_s hk q20) (by omega) _ _ hR ls (lv_sub hl [1, 0] rfl)
        · skip
          have q20 := h20_6
          exact z_vret (w := wM cI cZ ad) (S1 := S) hx hb hr hlk hF hR dX5_completes_23 ((if_neg (fun q => q20 (q k (by omega)))).symm)
  exact loop2 _ 0 (by omega) (fun q hq => absurd hq (Nat.not_lt_zero q)) (Nat.lt_succ_self _) _ _ hR ls (lv_sub hl [1, 0] rfl)
set_option maxHeartbeats 4000000 in
set_option maxRecDepth 100000 in
theorem c_X5_aligns {l : Launch} {D : va_G} {cI cZ : ClassId} {ad : Nat → Nat} {B : Nat → Prop} (hG : ∀ S : zS, va_D B (wM cI cZ ad S)) (S : zS) (w : Nat) (hO : zOK S) (hw : w < 4) : zMv l yX5_aligns wsX5_aligns ({ frames := 2, cells := 0, slots := 0, locals := 43 } : Room) [.ref (ad 0), .int (nI (w))] D (zT cI cZ) B (wM cI cZ ad) S (fun (S1 : zS) => S1 = mo_al S w) := by
  refine zMv_of (cc := cX5_aligns) (maxL := 3) (ret := none) (by decide) rfl (Nat.le_of_ble_eq_true rfl) ?_
  intro pg en s mm below meth cd hx hb hr hml hown hts hlk hF hR ls hl
  have hinX5 : ∀ w ∈ wsX50, w ∈ wsX5_aligns := by decide +kernel
  have hl : lv_has ls 3 [(0, .ref (ad 0)), (1, .int (nI (w)))] := hl
  refine lv_iconst (v := (nI (0))) hx hb dX5_aligns_0 (by decide) ?_
  refine lv_istore_n (lv' := [(2, .int (nI (0))), (0, .ref (ad 0)), (1, .int (nI (w)))]) hx hb dX5_aligns_1 rfl hl (by decide) rfl (fun ls hl => ?_)
  have loop2 : ∀ (nf2 : Nat) (k : Nat), (k ≤ 4) → (∀ q, q < k → S 8 (4 * q + w) = nI 1) → 4 - k < nf2 → ∀ (H : Heap) (locs : List Loc), zR D B (wM cI cZ ad S) s H locs → ∀ ls : Array Slot, lv_has ls 3 [(0, .ref (ad 0)), (1, .int (nI (w))), (2, .int (nI (k)))] → W pg l en ({ frames := 2, cells := 0, slots := 0, locals := 43 } : Room) s mm ([.ref (ad 0), .int (nI (w))] : List Value).toArray below meth cd H locs 0 0 (MQ below (va_Qv (fun (S1 : zS) => S1 = mo_al S w) (zB D (zT cI cZ) (wM cI cZ ad)) (zA B s.heap.size)) ([.ref (ad 0), .int (nI (w))] : List Value).toArray s 0 0 (zA B s.heap.size)) (F0 mm 2 ls []) := by
    intro nf2
    induction nf2 with
    | zero => intro k hk4 hk hn; exact absurd hn (Nat.not_lt_zero _)
    | succ nf2 ih2 =>
      intro k hk4 hk hn H locs hR ls hl
      refine lv_iload_n hx hb dX5_aligns_2 rfl (lv_at hl 2 rfl) ?_
      refine lv_iconst (v := (nI (4))) hx hb dX5_aligns_3 (by decide) ?_
      refine z_ge_n (tgt := 27) hx hb dX5_aligns_4 (by decide) (by omega) (by omega) (fun h4_1 => ?_) (fun h4_1 => ?_)
      · skip
        have hall : zallB S w := fun q hq => hk q (by omega)
        refine lv_iconst (v := (nI (0))) hx hb dX5_aligns_27 (by decide) ?_
        refine lv_istore_n (lv' := [(2, .int (nI (0))), (0, .ref (ad 0)), (1, .int (nI (w)))]) hx hb dX5_aligns_28 rfl hl (by decide) rfl (fun ls hl => ?_)
        have loop29 : ∀ (nf29 : Nat) (j : Nat), (j ≤ 4) → 4 - j < nf29 → ∀ (H : Heap) (locs : List Loc), zR D B (wM cI cZ ad (zU S 8 (sp_unb (S 8) w j))) s H locs → ∀ ls : Array Slot, lv_has ls 3 [(0, .ref (ad 0)), (1, .int (nI (w))), (2, .int (nI (j)))] → W pg l en ({ frames := 2, cells := 0, slots := 0, locals := 43 } : Room) s mm ([.ref (ad 0), .int (nI (w))] : List Value).toArray below meth cd H locs 0 0 (MQ below (va_Qv (fun (S1 : zS) => S1 = mo_al S w) (zB D (zT cI cZ) (wM cI cZ ad)) (zA B s.heap.size)) ([.ref (ad 0), .int (nI (w))] : List Value).toArray s 0 0 (zA B s.heap.size)) (F0 mm 29 ls []) := by
          intro nf29
          induction nf29 with
          | zero => intro j hj4 hn; exact absurd hn (Nat.not_lt_zero _)
          | succ nf29 ih29 =>
            intro j hj4 hn H locs hR ls hl
            refine lv_iload_n hx hb dX5_aligns_29 rfl (lv_at hl 2 rfl) ?_
            refine lv_iconst (v := (nI (4))) hx hb dX5_aligns_30 (by decide) ?_
            refine z_ge_n (tgt := 51) hx hb dX5_aligns_31 (by decide) (by omega) (by omega) (fun h31_2 => ?_) (fun h31_2 => ?_)
            · skip
              have hR : zR D B (wM cI cZ ad (zU S 8 (sp_unb (S 8) w 4))) s H locs := by rw [show (zU S 8 (sp_unb (S 8) w 4)) = (zU S 8 (sp_unb (S 8) w j)) from by rw [show (4 : Nat) = j from by omega]]; exact hR
              refine lv_iconst (v := (nI (0))) hx hb dX5_aligns_51 (by decide) ?_
              refine lv_istore_n (lv' := [(2, .int (nI (0))), (0, .ref (ad 0)), (1, .int (nI (w)))]) hx hb dX5_aligns_52 rfl hl (by decide) rfl (fun ls hl => ?_)
              have loop53 : ∀ (nf53 : Nat) (i : Nat), (i ≤ 32) → 32 - i < nf53 → ∀ (H : Heap) (locs : List Loc), zR D B (wM cI cZ ad (mo_ak (zU S 8 (sp_unb (S 8) w 4)) w i)) s H locs → ∀ ls : Array Slot, lv_has ls 3 [(0, .ref (ad 0)), (1, .int (nI (w))), (2, .int (nI (i)))] → W pg l en ({ frames := 2, cells := 0, slots := 0, locals := 43 } : Room) s mm ([.ref (ad 0), .int (nI (w))] : List Value).toArray below meth cd H locs 0 0 (MQ below (va_Qv (fun (S1 : zS) => S1 = mo_al S w) (zB D (zT cI cZ) (wM cI cZ ad)) (zA B s.heap.size)) ([.ref (ad 0), .int (nI (w))] : List Value).toArray s 0 0 (zA B s.heap.size)) (F0 mm 53 ls []) := by
                intro nf53
                induction nf53 with
                | zero => intro i hi4 hn; exact absurd hn (Nat.not_lt_zero _)
                | succ nf53 ih53 =>
                  intro i hi4 hn H locs hR ls hl
                  have hOk := zOK_ak (w := w) (zOK_u8 (w := w) hO) i
                  refine lv_iload_n hx hb dX5_aligns_53 rfl (lv_at hl 2 rfl) ?_
                  refine lv_bipush (v := (nI (32))) hx hb dX5_aligns_54 (by decide) ?_
                  refine z_ge_n (tgt := 136) hx hb dX5_aligns_56 (by decide) (by omega) (by omega) (fun h56_3 => ?_) (fun h56_3 => ?_)
                  · skip
                    have hR : zR D B (wM cI cZ ad (mo_ak (zU S 8 (sp_unb (S 8) w 4)) w 32)) s H locs := by rw [show (mo_ak (zU S 8 (sp_unb (S 8) w 4)) w 32) = (mo_ak (zU S 8 (sp_unb (S 8) w 4)) w i) from by rw [show (32 : Nat) = i from by omega]]; exact hR
                    refine lv_aload_n hx hb dX5_aligns_136 rfl (lv_at hl 0 rfl) ?_
                    refine z_get (own := RX5) (C := RX5) (T := TX5) (N := 27) (k := 14) (v := .ref (ad 22)) hx hb hts hinX5 hown hF hR (wM_c0 (mo_ak (zU S 8 (sp_unb (S 8) w 4)) w 32)) rfl (by decide) (by decide +kernel) rfl rfl dX5_aligns_137 ?_
                    refine lv_iload_n hx hb dX5_aligns_140 rfl (lv_at hl 1 rfl) ?_
                    refine lv_aload_n hx hb dX5_aligns_141 rfl (lv_at hl 0 rfl) ?_
                    refine z_get (own := RX5) (C := RX5) (T := TX5) (N := 27) (k := 18) (v := .int ((mo_ak (zU S 8 (sp_unb (S 8) w 4)) w 32) 22 2)) hx hb hts hinX5 hown hF hR (wM_c0 (mo_ak (zU S 8 (sp_unb (S 8) w 4)) w 32)) rfl (by decide) (by decide +kernel) rfl rfl dX5_aligns_142 ?_
                    refine z_iast_n (f := (mo_ak (zU S 8 (sp_unb (S 8) w 4)) w 32) 21) hx hb hF (hG (mo_ak (zU S 8 (sp_unb (S 8) w 4)) w 32)) hR (wM_c22 (mo_ak (zU S 8 (sp_unb (S 8) w 4)) w 32)) zT_0 (wM_s21 (mo_ak (zU S 8 (sp_unb (S 8) w 4)) w 32) (upd ((mo_ak (zU S 8 (sp_unb (S 8) w 4)) w 32) 21) (w) ((mo_ak (zU S 8 (sp_unb (S 8) w 4)) w 32) 22 2))) dX5_aligns_145 (by decide) (by omega) (fun H locs hR => ?_)
                    have hO5 := zOK_al1 (w := w) hO
                    have hR : zR D B (wM cI cZ ad (mo_al1 S w)) s H locs := by rw [show (mo_al1 S w) = (zU (mo_ak (zU S 8 (sp_unb (S 8) w 4)) w 32) 21 (upd ((mo_ak (zU S 8 (sp_unb (S 8) w 4)) w 32) 21) (w) ((mo_ak (zU S 8 (sp_unb (S 8) w 4)) w 32) 22 2))) from rfl]; exact hR
                    refine lv_aload_n hx hb dX5_aligns_146 rfl (lv_at hl 0 rfl) ?_
                    refine z_callV_v (As := []) (rest := []) (w := wM cI cZ ad) ⟨hx, hb, hml, hown, hts⟩ hF hR (c_X5_completes hG (mo_al1 S w) hO5) (cwV 0 hts gX5_aligns_X5_completes rfl rfl rfl (by decide +kernel) ⟨Nat.le_of_ble_eq_true rfl, Nat.le_of_ble_eq_true rfl⟩) (wM_c0 (mo_al1 S w)) rfl rfl rfl hl rfl (Nat.le_of_ble_eq_true rfl) (by decide) dX5_aligns_147 (fun S4 H locs hp4 hR => ?_)
                    subst S4
                    have hO4 := (zOK_cp hO5)
                    exact z_vret (w := wM cI cZ ad) (S1 := (mo_cp (mo_al1 S w))) hx hb hr hlk hF hR dX5_aligns_150 ((if_pos hall).symm)
                  · skip
                    refine lv_aload_n hx hb dX5_aligns_59 rfl (lv_at hl 0 rfl) ?_
                    refine lv_iload_n hx hb dX5_aligns_60 rfl (lv_at hl 2 rfl) ?_
                    refine z_callV_i (As := [.int (nI (i))]) (rest := []) (w := wM cI cZ ad) ⟨hx, hb, hml, hown, hts⟩ hF hR (c_X5_workerOfKey hG (mo_ak (zU S 8 (sp_unb (S 8) w 4)) w i) i hOk (by omega)) (cwV 1 hts gX5_aligns_X5_workerOfKey rfl rfl rfl (by decide +kernel) ⟨Nat.le_of_ble_eq_true rfl, Nat.le_of_ble_eq_true rfl⟩) (wM_c0 (mo_ak (zU S 8 (sp_unb (S 8) w 4)) w i)) rfl rfl rfl hl rfl (Nat.le_of_ble_eq_true rfl) (by decide) dX5_aligns_61 (fun r5 S5 H locs hp5 hR => ?_)
                    obtain ⟨hr5, hs5⟩ := hp5
                    subst r5
                    subst S5
                    have hb61 := (hOk.own i).2
                    refine lv_iload_n hx hb dX5_aligns_64 rfl (lv_at hl 1 rfl) ?_
                    refine z_ne_n (tgt := 130) hx hb dX5_aligns_65 (by decide) (by omega) (by omega) (fun h65_6 => ?_) (fun h65_6 => ?_)
                    · skip
                      have q65 := h65_6
                      refine lv_iinc (v := (nI (i + 1))) (lv' := [(2, .int (nI (i + 1))), (0, .ref (ad 0)), (1, .int (nI (w)))]) hx hb dX5_aligns_130 hl (k := 2) rfl (z_inc _) (by decide) rfl (fun ls hl => ?_)
                      refine lv_goto (tgt := 53) hx hb dX5_aligns_133 (by decide) ?_
                      exact ih53 (i + 1) (by omega) (by omega) _ _ (by rw [show mo_ak (zU S 8 (sp_unb (S 8) w 4)) w (i + 1) = (mo_ak (zU S 8 (sp_unb (S 8) w 4)) w i) from if_neg q65]; exact hR) ls (lv_sub hl [1, 2, 0] rfl)
                    · skip
                      have q65 := h65_6
                      refine lv_aload_n hx hb dX5_aligns_68 rfl (lv_at hl 0 rfl) ?_
                      refine z_get (own := RX5) (C := RX5) (T := TX5) (N := 27) (k := 22) (v := .ref (ad 16)) hx hb hts hinX5 hown hF hR (wM_c0 (mo_ak (zU S 8 (sp_unb (S 8) w 4)) w i)) rfl (by decide) (by decide +kernel) rfl rfl dX5_aligns_69 ?_
                      refine lv_iload_n hx hb dX5_aligns_72 rfl (lv_at hl 2 rfl) ?_
                      refine lv_aload_n hx hb dX5_aligns_73 rfl (lv_at hl 0 rfl) ?_
                      refine z_get (own := RX5) (C := RX5) (T := TX5) (N := 27) (k := 8) (v := .ref (ad 10)) hx hb hts hinX5 hown hF hR (wM_c0 (mo_ak (zU S 8 (sp_unb (S 8) w 4)) w i)) rfl (by decide) (by decide +kernel) rfl rfl dX5_aligns_74 ?_
                      refine lv_iload_n hx hb dX5_aligns_77 rfl (lv_at hl 2 rfl) ?_
                      refine z_iald_n (f := (mo_ak (zU S 8 (sp_unb (S 8) w 4)) w i) 9) hx hb hF hR (wM_c10 (mo_ak (zU S 8 (sp_unb (S 8) w 4)) w i)) zT_0 dX5_aligns_78 (by decide) (by omega) ?_
                      refine z_iast_n (f := (mo_ak (zU S 8 (sp_unb (S 8) w 4)) w i) 15) hx hb hF (hG (mo_ak (zU S 8 (sp_unb (S 8) w 4)) w i)) hR (wM_c16 (mo_ak (zU S 8 (sp_unb (S 8) w 4)) w i)) zT_0 (wM_s15 (mo_ak (zU S 8 (sp_unb (S 8) w 4)) w i) (upd ((mo_ak (zU S 8 (sp_unb (S 8) w 4)) w i) 15) (i) ((mo_ak (zU S 8 (sp_unb (S 8) w 4)) w i) 9 (i)))) dX5_aligns_79 (by decide) (by omega) (fun H locs hR => ?_)
                      refine lv_aload_n hx hb dX5_aligns_80 rfl (lv_at hl 0 rfl) ?_
                      refine z_get (own := RX5) (C := RX5) (T := TX5) (N := 27) (k := 23) (v := .ref (ad 17)) hx hb hts hinX5 hown hF hR (wM_c0 (zU (mo_ak (zU S 8 (sp_unb (S 8) w 4)) w i) 15 (upd ((mo_ak (zU S 8 (sp_unb (S 8) w 4)) w i) 15) (i) ((mo_ak (zU S 8 (sp_unb (S 8) w 4)) w i) 9 (i))))) rfl (by decide) (by decide +kernel) rfl rfl dX5_aligns_81 ?_
                      refine lv_iload_n hx hb dX5_aligns_84 rfl (lv_at hl 2 rfl) ?_
                      refine lv_aload_n hx hb dX5_aligns_85 rfl (lv_at hl 0 rfl) ?_
                      refine z_get (own := RX5) (C := RX5) (T := TX5) (N := 27) (k := 9) (v := .ref (ad 11)) hx hb hts hinX5 hown hF hR (wM_c0 (zU (mo_ak (zU S 8 (sp_unb (S 8) w 4)) w i) 15 (upd ((mo_ak (zU S 8 (sp_unb (S 8) w 4)) w i) 15) (i) ((mo_ak (zU S 8 (sp_unb (S 8) w 4)) w i) 9 (i))))) rfl (by decide) (by decide +kernel) rfl rfl dX5_aligns_86 ?_
                      refine lv_iload_n hx hb dX5_aligns_89 rfl (lv_at hl 2 rfl) ?_
                      refine z_iald_n (f := (mo_ak (zU S 8 (sp_unb (S 8) w 4)) w i) 10) hx hb hF hR (wM_c11 (zU (mo_ak (zU S 8 (sp_unb (S 8) w 4)) w i) 15 (upd ((mo_ak (zU S 8 (sp_unb (S 8) w 4)) w i) 15) (i) ((mo_ak (zU S 8 (sp_unb (S 8) w 4)) w i) 9 (i))))) zT_0 dX5_aligns_90 (by decide) (by omega) ?_
                      refine z_iast_n (f := (mo_ak (zU S 8 (sp_unb (S 8) w 4)) w i) 16) hx hb hF (hG (zU (mo_ak (zU S 8 (sp_unb (S 8) w 4)) w i) 15 (upd ((mo_ak (zU S 8 (sp_unb (S 8) w 4)) w i) 15) (i) ((mo_ak (zU S 8 (sp_unb (S 8) w 4)) w i) 9 (i))))) hR (wM_c17 (zU (mo_ak (zU S 8 (sp_unb (S 8) w 4)) w i) 15 (upd ((mo_ak (zU S 8 (sp_unb (S 8) w 4)) w i) 15) (i) ((mo_ak (zU S 8 (sp_unb (S 8) w 4)) w i) 9 (i))))) zT_0 (wM_s16 (zU (mo_ak (zU S 8 (sp_unb (S 8) w 4)) w i) 15 (upd ((mo_ak (zU S 8 (sp_unb (S 8) w 4)) w i) 15) (i) ((mo_ak (zU S 8 (sp_unb (S 8) w 4)) w i) 9 (i)))) (upd ((mo_ak (zU S 8 (sp_unb (S 8) w 4)) w i) 16) (i) ((mo_ak (zU S 8 (sp_unb (S 8) w 4)) w i) 10 (i)))) dX5_aligns_91 (by decide) (by omega) (fun H locs hR => ?_)
                      refine lv_aload_n hx hb dX5_aligns_92 rfl (lv_at hl 0 rfl) ?_
                      refine z_get (own := RX5) (C := RX5) (T := TX5) (N := 27) (k := 12) (v := .ref (ad 14)) hx hb hts hinX5 hown hF hR (wM_c0 (zU (zU (mo_ak (zU S 8 (sp_unb (S 8) w 4)) w i) 15 (upd ((mo_ak (zU S 8 (sp_unb (S 8) w 4)) w i) 15) (i) ((mo_ak (zU S 8 (sp_unb (S 8) w 4)) w i) 9 (i)))) 16 (upd ((mo_ak (zU S 8 (sp_unb (S 8) w 4)) w i) 16) (i) ((mo_ak (zU S 8 (sp_unb (S 8) w 4)) w i) 10 (i))))) rfl (by decide) (by decide +kernel) rfl rfl dX5_aligns_93 ?_
                      refine lv_iload_n hx hb dX5_aligns_96 rfl (lv_at hl 2 rfl) ?_
                      refine lv_aload_n hx hb dX5_aligns_97 rfl (lv_at hl 0 rfl) ?_
                      refine z_get (own := RX5) (C := RX5) (T := TX5) (N := 27) (k := 10) (v := .ref (ad 12)) hx hb hts hinX5 hown hF hR (wM_c0 (zU (zU (mo_ak (zU S 8 (sp_unb (S 8) w 4)) w i) 15 (upd ((mo_ak (zU S 8 (sp_unb (S 8) w 4)) w i) 15) (i) ((mo_ak (zU S 8 (sp_unb (S 8) w 4)) w i) 9 (i)))) 16 (upd ((mo_ak (zU S 8 (sp_unb (S 8) w 4)) w i) 16) (i) ((mo_ak (zU S 8 (sp_unb (S 8) w 4)) w i) 10 (i))))) rfl (by decide) (by decide +kernel) rfl rfl dX5_aligns_98 ?_
                      refine lv_iload_n hx hb dX5_aligns_101 rfl (lv_at hl 2 rfl) ?_
                      refine z_iald_n (f := (mo_ak (zU S 8 (sp_unb (S 8) w 4)) w i) 11) hx hb hF hR (wM_c12 (zU (zU (mo_ak (zU S 8 (sp_unb (S 8) w 4)) w i) 15 (upd ((mo_ak (zU S 8 (sp_unb (S 8) w 4)) w i) 15) (i) ((mo_ak (zU S 8 (sp_unb (S 8) w 4)) w i) 9 (i)))) 16 (upd ((mo_ak (zU S 8 (sp_unb (S 8) w 4)) w i) 16) (i) ((mo_ak (zU S 8 (sp_unb (S 8) w 4)) w i) 10 (i))))) zT_0 dX5_aligns_102 (by decide) (by omega) ?_
                      refine z_iast_n (f := (mo_ak (zU S 8 (sp_unb (S 8) w 4)) w i) 13) hx hb hF (hG (zU (zU (mo_ak (zU S 8 (sp_unb (S 8) w 4)) w i) 15 (upd ((mo_ak (zU S 8 (sp_unb (S 8) w 4)) w i) 15) (i) ((mo_ak (zU S 8 (sp_unb (S 8) w 4)) w i) 9 (i)))) 16 (upd ((mo_ak (zU S 8 (sp_unb (S 8) w 4)) w i) 16) (i) ((mo_ak (zU S 8 (sp_unb (S 8) w 4)) w i) 10 (i))))) hR (wM_c14 (zU (zU (mo_ak (zU S 8 (sp_unb (S 8) w 4)) w i) 15 (upd ((mo_ak (zU S 8 (sp_unb (S 8) w 4)) w i) 15) (i) ((mo_ak (zU S 8 (sp_unb (S 8) w 4)) w i) 9 (i)))) 16 (upd ((mo_ak (zU S 8 (sp_unb (S 8) w 4)) w i) 16) (i) ((mo_ak (zU S 8 (sp_unb (S 8) w 4)) w i) 10 (i))))) zT_0 (wM_s13 (zU (zU (mo_ak (zU S 8 (sp_unb (S 8) w 4)) w i) 15 (upd ((mo_ak (zU S 8 (sp_unb (S 8) w 4)) w i) 15) (i) ((mo_ak (zU S 8 (sp_unb (S 8) w 4)) w i) 9 (i)))) 16 (upd ((mo_ak (zU S 8 (sp_unb (S 8) w 4)) w i) 16) (i) ((mo_ak (zU S 8 (sp_unb (S 8) w 4)) w i) 10 (i)))) (upd ((mo_ak (zU S 8 (sp_unb (S 8) w 4)) w i) 13) (i) ((mo_ak (zU S 8 (sp_unb (S 8) w 4)) w i) 11 (i)))) dX5_aligns_103 (by decide) (by omega) (fun H locs hR => ?_)
                      refine lv_aload_n hx hb dX5_aligns_104 rfl (lv_at hl 0 rfl) ?_
                      refine z_get (own := RX5) (C := RX5) (T := TX5) (N := 27) (k := 13) (v := .ref (ad 15)) hx hb hts hinX5 hown hF hR (wM_c0 (zU (zU (zU (mo_ak (zU S 8 (sp_unb (S 8) w 4)) w i) 15 (upd ((mo_ak (zU S 8 (sp_unb (S 8) w 4)) w i) 15) (i) ((mo_ak (zU S 8 (sp_unb (S 8) w 4)) w i) 9 (i)))) 16 (upd ((mo_ak (zU S 8 (sp_unb (S 8) w 4)) w i) 16) (i) ((mo_ak (zU S 8 (sp_unb (S 8) w 4)) w i) 10 (i)))) 13 (upd ((mo_ak (zU S 8 (sp_unb (S 8) w 4)) w i) 13) (i) ((mo_ak (zU S 8 (sp_unb (S 8) w 4)) w i) 11 (i))))) rfl (by decide) (by decide +kernel) rfl rfl dX5_aligns_105 ?_
                      refine lv_iload_n hx hb dX5_aligns_108 rfl (lv_at hl 2 rfl) ?_
                      refine lv_aload_n hx hb dX5_aligns_109 rfl (lv_at hl 0 rfl) ?_
                      refine z_get (own := RX5) (C := RX5) (T := TX5) (N := 27) (k := 11) (v := .ref (ad 13)) hx hb hts hinX5 hown hF hR (wM_c0 (zU (zU (zU (mo_ak (zU S 8 (sp_unb (S 8) w 4)) w i) 15 (upd ((mo_ak (zU S 8 (sp_unb (S 8) w 4)) w i) 15) (i) ((mo_ak (zU S 8 (sp_unb (S 8) w 4)) w i) 9 (i)))) 16 (upd ((mo_ak (zU S 8 (sp_unb (S 8) w 4)) w i) 16) (i) ((mo_ak (zU S 8 (sp_unb (S 8) w 4)) w i) 10 (i)))) 13 (upd ((mo_ak (zU S 8 (sp_unb (S 8) w 4)) w i) 13) (i) ((mo_ak (zU S 8 (sp_unb (S 8) w 4)) w i) 11 (i))))) rfl (by decide) (by decide +kernel) rfl rfl dX5_aligns_110 ?_
                      refine lv_iload_n hx hb dX5_aligns_113 rfl (lv_at hl 2 rfl) ?_
                      refine z_iald_n (f := (mo_ak (zU S 8 (sp_unb (S 8) w 4)) w i) 12) hx hb hF hR (wM_c13 (zU (zU (zU (mo_ak (zU S 8 (sp_unb (S 8) w 4)) w i) 15 (upd ((mo_ak (zU S 8 (sp_unb (S 8) w 4)) w i) 15) (i) ((mo_ak (zU S 8 (sp_unb (S 8) w 4)) w i) 9 (i)))) 16 (upd ((mo_ak (zU S 8 (sp_unb (S 8) w 4)) w i) 16) (i) ((mo_ak (zU S 8 (sp_unb (S 8) w 4)) w i) 10 (i)))) 13 (upd ((mo_ak (zU S 8 (sp_unb (S 8) w 4)) w i) 13) (i) ((mo_ak (zU S 8 (sp_unb (S 8) w 4)) w i) 11 (i))))) zT_0 dX5_aligns_114 (by decide) (by omega) ?_
                      refine z_iast_n (f := (mo_ak (zU S 8 (sp_unb (S 8) w 4)) w i) 14) hx hb hF (hG (zU (zU (zU (mo_ak (zU S 8 (sp_unb (S 8) w 4)) w i) 15 (upd ((mo_ak (zU S 8 (sp_unb (S 8) w 4)) w i) 15) (i) ((mo_ak (zU S 8 (sp_unb (S 8) w 4)) w i) 9 (i)))) 16 (upd ((mo_ak (zU S 8 (sp_unb (S 8) w 4)) w i) 16) (i) ((mo_ak (zU S 8 (sp_unb (S 8) w 4)) w i) 10 (i)))) 13 (upd ((mo_ak (zU S 8 (sp_unb (S 8) w 4)) w i) 13) (i) ((mo_ak (zU S 8 (sp_unb (S 8) w 4)) w i) 11 (i))))) hR (wM_c15 (zU (zU (zU (mo_ak (zU S 8 (sp_unb (S 8) w 4)) w i) 15 (upd ((mo_ak (zU S 8 (sp_unb (S 8) w 4)) w i) 15) (i) ((mo_ak (zU S 8 (sp_unb (S 8) w 4)) w i) 9 (i)))) 16 (upd ((mo_ak (zU S 8 (sp_unb (S 8) w 4)) w i) 16) (i) ((mo_ak (zU S 8 (sp_unb (S 8) w 4)) w i) 10 (i)))) 13 (upd ((mo_ak (zU S 8 (sp_unb (S 8) w 4)) w i) 13) (i) ((mo_ak (zU S 8 (sp_unb (S 8) w 4)) w i) 11 (i))))) zT_0 (wM_s14 (zU (zU (zU (mo_ak (zU S 8 (sp_unb (S 8) w 4)) w i) 15 (upd ((mo_ak (zU S 8 (sp_unb (S 8) w 4)) w i) 15) (i) ((mo_ak (zU S 8 (sp_unb (S 8) w 4)) w i) 9 (i)))) 16 (upd ((mo_ak (zU S 8 (sp_unb (S 8) w 4)) w i) 16) (i) ((mo_ak (zU S 8 (sp_unb (S 8) w 4)) w i) 10 (i)))) 13 (upd ((mo_ak (zU S 8 (sp_unb (S 8) w 4)) w i) 13) (i) ((mo_ak (zU S 8 (sp_unb (S 8) w 4)) w i) 11 (i)))) (upd ((mo_ak (zU S 8 (sp_unb (S 8) w 4)) w i) 14) (i) ((mo_ak (zU S 8 (sp_unb (S 8) w 4)) w i) 12 (i)))) dX5_aligns_115 (by decide) (by omega) (fun H locs hR => ?_)
                      refine lv_aload_n hx hb dX5_aligns_116 rfl (lv_at hl 0 rfl) ?_
                      refine z_get (own := RX5) (C := RX5) (T := TX5) (N := 27) (k := 10) (v := .ref (ad 12)) hx hb hts hinX5 hown hF hR (wM_c0 (zU (zU (zU (zU (mo_ak (zU S 8 (sp_unb (S 8) w 4)) w i) 15 (upd ((mo_ak (zU S 8 (sp_unb (S 8) w 4)) w i) 15) (i) ((mo_ak (zU S 8 (sp_unb (S 8) w 4)) w i) 9 (i)))) 16 (upd ((mo_ak (zU S 8 (sp_unb (S 8) w 4)) w i) 16) (i) ((mo_ak (zU S 8 (sp_unb (S 8) w 4)) w i) 10 (i)))) 13 (upd ((mo_ak (zU S 8 (sp_unb (S 8) w 4)) w i) 13) (i) ((mo_ak (zU S 8 (sp_unb (S 8) w 4)) w i) 11 (i)))) 14 (upd ((mo_ak (zU S 8 (sp_unb (S 8) w 4)) w i) 14) (i) ((mo_ak (zU S 8 (sp_unb (S 8) w 4)) w i) 12 (i))))) rfl (by decide) (by decide +kernel) rfl rfl dX5_aligns_117 ?_
                      refine lv_iload_n hx hb dX5_aligns_120 rfl (lv_at hl 2 rfl) ?_
                      refine lv_iconst (v := (nI (0))) hx hb dX5_aligns_121 (by decide) ?_
                      refine z_iast_n (f := (mo_ak (zU S 8 (sp_unb (S 8) w 4)) w i) 11) hx hb hF (hG (zU (zU (zU (zU (mo_ak (zU S 8 (sp_unb (S 8) w 4)) w i) 15 (upd ((mo_ak (zU S 8 (sp_unb (S 8) w 4)) w i) 15) (i) ((mo_ak (zU S 8 (sp_unb (S 8) w 4)) w i) 9 (i)))) 16 (upd ((mo_ak (zU S 8 (sp_unb (S 8) w 4)) w i) 16) (i) ((mo_ak (zU S 8 (sp_unb (S 8) w 4)) w i) 10 (i)))) 13 (upd ((mo_ak (zU S 8 (sp_unb (S 8) w 4)) w i) 13) (i) ((mo_ak (zU S 8 (sp_unb (S 8) w 4)) w i) 11 (i)))) 14 (upd ((mo_ak (zU S 8 (sp_unb (S 8) w 4)) w i) 14) (i) ((mo_ak (zU S 8 (sp_unb (S 8) w 4)) w i) 12 (i))))) hR (wM_c12 (zU (zU (zU (zU (mo_ak (zU S 8 (sp_unb (S 8) w 4)) w i) 15 (upd ((mo_ak (zU S 8 (sp_unb (S 8) w 4)) w i) 15) (i) ((mo_ak (zU S 8 (sp_unb (S 8) w 4)) w i) 9 (i)))) 16 (upd ((mo_ak (zU S 8 (sp_unb (S 8) w 4)) w i) 16) (i) ((mo_ak (zU S 8 (sp_unb (S 8) w 4)) w i) 10 (i)))) 13 (upd ((mo_ak (zU S 8 (sp_unb (S 8) w 4)) w i) 13) (i) ((mo_ak (zU S 8 (sp_unb (S 8) w 4)) w i) 11 (i)))) 14 (upd ((mo_ak (zU S 8 (sp_unb (S 8) w 4)) w i) 14) (i) ((mo_ak (zU S 8 (sp_unb (S 8) w 4)) w i) 12 (i))))) zT_0 (wM_s11 (zU (zU (zU (zU (mo_ak (zU S 8 (sp_unb (S 8) w 4)) w i) 15 (upd ((mo_ak (zU S 8 (sp_unb (S 8) w 4)) w i) 15) (i) ((mo_ak (zU S 8 (sp_unb (S 8) w 4)) w i) 9 (i)))) 16 (upd ((mo_ak (zU S 8 (sp_unb (S 8) w 4)) w i) 16) (i) ((mo_ak (zU S 8 (sp_unb (S 8) w 4)) w i) 10 (i)))) 13 (upd ((mo_ak (zU S 8 (sp_unb (S 8) w 4)) w i) 13) (i) ((mo_ak (zU S 8 (sp_unb (S 8) w 4)) w i) 11 (i)))) 14 (upd ((mo_ak (zU S 8 (sp_unb (S 8) w 4)) w i) 14) (i) ((mo_ak (zU S 8 (sp_unb (S 8) w 4)) w i) 12 (i)))) (upd ((mo_ak (zU S 8 (sp_unb (S 8) w 4)) w i) 11) (i) (nI (0)))) dX5_aligns_122 (by decide) (by omega) (fun H locs hR => ?_)
                      refine lv_aload_n hx hb dX5_aligns_123 rfl (lv_at hl 0 rfl) ?_
                      refine z_get (own := RX5) (C := RX5) (T := TX5) (N := 27) (k := 11) (v := .ref (ad 13)) hx hb hts hinX5 hown hF hR (wM_c0 (zU (zU (zU (zU (zU (mo_ak (zU S 8 (sp_unb (S 8) w 4)) w i) 15 (upd ((mo_ak (zU S 8 (sp_unb (S 8) w 4)) w i) 15) (i) ((mo_ak (zU S 8 (sp_unb (S 8) w 4)) w i) 9 (i)))) 16 (upd ((mo_ak (zU S 8 (sp_unb (S 8) w 4)) w i) 16) (i) ((mo_ak (zU S 8 (sp_unb (S 8) w 4)) w i) 10 (i)))) 13 (upd ((mo_ak (zU S 8 (sp_unb (S 8) w 4)) w i) 13) (i) ((mo_ak (zU S 8 (sp_unb (S 8) w 4)) w i) 11 (i)))) 14 (upd ((mo_ak (zU S 8 (sp_unb (S 8) w 4)) w i) 14) (i) ((mo_ak (zU S 8 (sp_unb (S 8) w 4)) w i) 12 (i)))) 11 (upd ((mo_ak (zU S 8 (sp_unb (S 8) w 4)) w i) 11) (i) (nI (0))))) rfl (by decide) (by decide +kernel) rfl rfl dX5_aligns_124 ?_
                      refine lv_iload_n hx hb dX5_aligns_127 rfl (lv_at hl 2 rfl) ?_
                      refine lv_iconst (v := (nI (0))) hx hb dX5_aligns_128 (by decide) ?_
                      refine z_iast_n (f := (mo_ak (zU S 8 (sp_unb (S 8) w 4)) w i) 12) hx hb hF (hG (zU (zU (zU (zU (zU (mo_ak (zU S 8 (sp_unb (S 8) w 4)) w i) 15 (upd ((mo_ak (zU S 8 (sp_unb (S 8) w 4)) w i) 15) (i) ((mo_ak (zU S 8 (sp_unb (S 8) w 4)) w i) 9 (i)))) 16 (upd ((mo_ak (zU S 8 (sp_unb (S 8) w 4)) w i) 16) (i) ((mo_ak (zU S 8 (sp_unb (S 8) w 4)) w i) 10 (i)))) 13 (upd ((mo_ak (zU S 8 (sp_unb (S 8) w 4)) w i) 13) (i) ((mo_ak (zU S 8 (sp_unb (S 8) w 4)) w i) 11 (i)))) 14 (upd ((mo_ak (zU S 8 (sp_unb (S 8) w 4)) w i) 14) (i) ((mo_ak (zU S 8 (sp_unb (S 8) w 4)) w i) 12 (i)))) 11 (upd ((mo_ak (zU S 8 (sp_unb (S 8) w 4)) w i) 11) (i) (nI (0))))) hR (wM_c13 (zU (zU (zU (zU (zU (mo_ak (zU S 8 (sp_unb (S 8) w 4)) w i) 15 (upd ((mo_ak (zU S 8 (sp_unb (S 8) w 4)) w i) 15) (i) ((mo_ak (zU S 8 (sp_unb (S 8) w 4)) w i) 9 (i)))) 16 (upd ((mo_ak (zU S 8 (sp_unb (S 8) w 4)) w i) 16) (i) ((mo_ak (zU S 8 (sp_unb (S 8) w 4)) w i) 10 (i)))) 13 (upd ((mo_ak (zU S 8 (sp_unb (S 8) w 4)) w i) 13) (i) ((mo_ak (zU S 8 (sp_unb (S 8) w 4)) w i) 11 (i)))) 14 (upd ((mo_ak (zU S 8 (sp_unb (S 8) w 4)) w i) 14) (i) ((mo_ak (zU S 8 (sp_unb (S 8) w 4)) w i) 12 (i)))) 11 (upd ((mo_ak (zU S 8 (sp_unb (S 8) w 4)) w i) 11) (i) (nI (0))))) zT_0 (wM_s12 (zU (zU (zU (zU (zU (mo_ak (zU S 8 (sp_unb (S 8) w 4)) w i) 15 (upd ((mo_ak (zU S 8 (sp_unb (S 8) w 4)) w i) 15) (i) ((mo_ak (zU S 8 (sp_unb (S 8) w 4)) w i) 9 (i)))) 16 (upd ((mo_ak (zU S 8 (sp_unb (S 8) w 4)) w i) 16) (i) ((mo_ak (zU S 8 (sp_unb (S 8) w 4)) w i) 10 (i)))) 13 (upd ((mo_ak (zU S 8 (sp_unb (S 8) w 4)) w i) 13) (i) ((mo_ak (zU S 8 (sp_unb (S 8) w 4)) w i) 11 (i)))) 14 (upd ((mo_ak (zU S 8 (sp_unb (S 8) w 4)) w i) 14) (i) ((mo_ak (zU S 8 (sp_unb (S 8) w 4)) w i) 12 (i)))) 11 (upd ((mo_ak (zU S 8 (sp_unb (S 8) w 4)) w i) 11) (i) (nI (0)))) (upd ((mo_ak (zU S 8 (sp_unb (S 8) w 4)) w i) 12) (i) (nI (0)))) dX5_aligns_129 (by decide) (by omega) (fun H locs hR => ?_)
                      refine lv_iinc (v := (nI (i + 1))) (lv' := [(2, .int (nI (i + 1))), (0, .ref (ad 0)), (1, .int (nI (w)))]) hx hb dX5_aligns_130 hl (k := 2) rfl (z_inc _) (by decide) rfl (fun ls hl => ?_)
                      refine lv_goto (tgt := 53) hx hb dX5_aligns_133 (by decide) ?_
                      exact ih53 (i + 1) (by omega) (by omega) _ _ (by rw [show mo_ak (zU S 8 (sp_unb (S 8) w 4)) w (i + 1) = (zU (zU (zU (zU (zU (zU (mo_ak (zU S 8 (sp_unb (S 8) w 4)) w i) 15 (upd ((mo_ak (zU S 8 (sp_unb (S 8) w 4)) w i) 15) (i) ((mo_ak (zU S 8 (sp_unb (S 8) w 4)) w i) 9 (i)))) 16 (upd ((mo_ak (zU S 8 (sp_unb (S 8) w 4)) w i) 16) (i) ((mo_ak (zU S 8 (sp_unb (S 8) w 4)) w i) 10 (i)))) 13 (upd ((mo_ak (zU S 8 (sp_unb (S 8) w 4)) w i) 13) (i) ((mo_ak (zU S 8 (sp_unb (S 8) w 4)) w i) 11 (i)))) 14 (upd ((mo_ak (zU S 8 (sp_unb (S 8) w 4)) w i) 14) (i) ((mo_ak (zU S 8 (sp_unb (S 8) w 4)) w i) 12 (i)))) 11 (upd ((mo_ak (zU S 8 (sp_unb (S 8) w 4)) w i) 11) (i) (nI (0)))) 12 (upd ((mo_ak (zU S 8 (sp_unb (S 8) w 4)) w i) 12) (i) (nI (0)))) from if_pos q65]; exact hR) ls (lv_sub hl [1, 2, 0] rfl)
              exact loop53 _ 0 (by omega) (Nat.lt_succ_self _) _ _ (by rw [show mo_ak (zU S 8 (sp_unb (S 8) w 4)) w 0 = (zU S 8 (sp_unb (S 8) w 4)) from rfl]; exact hR) ls (lv_sub hl [1, 2, 0] rfl)
            · skip
              refine lv_aload_n hx hb dX5_aligns_34 rfl (lv_at hl 0 rfl) ?_
              refine z_get (own := RX5) (C := RX5) (T := TX5) (N := 27) (k := 7) (v := .ref (ad 9)) hx hb hts hinX5 hown hF hR (wM_c0 (zU S 8 (sp_unb (S 8) w j))) rfl (by decide) (by decide +kernel) rfl rfl dX5_aligns_35 ?_
              refine lv_iload_n hx hb dX5_aligns_38 rfl (lv_at hl 2 rfl) ?_
              refine lv_iload_n hx hb dX5_aligns_39 rfl (lv_at hl 1 rfl) ?_
              refine z_callS_i (As := [.int (nI (j)), .int (nI (w))]) (rest := [.ref (ad 9)]) (w := wM cI cZ ad) ⟨hx, hb, hml, hown, hts⟩ hF hR (c_X5_channel hG (zU S 8 (sp_unb (S 8) w j)) j w) (va_cwS 2 hts gX5_aligns_X5_channel rfl rfl rfl (by decide +kernel) ⟨Nat.le_of_ble_eq_true rfl, Nat.le_of_ble_eq_true rfl⟩) rfl hl rfl (Nat.le_of_ble_eq_true rfl) (by decide) dX5_aligns_40 (fun r7 S7 H locs hp7 hR => ?_)
              obtain ⟨hr7, hs7⟩ := hp7
              subst r7
              subst S7
              refine lv_iconst (v := (nI (0))) hx hb dX5_aligns_43 (by decide) ?_
              refine z_zast_n (f := (sp_unb (S 8) w j)) hx hb hF (hG (zU S 8 (sp_unb (S 8) w j))) hR (wM_c9 (zU S 8 (sp_unb (S 8) w j))) zT_1 (wM_s8 (zU S 8 (sp_unb (S 8) w j)) (upd ((sp_unb (S 8) w j)) (4 * j + w) (nI (0)))) dX5_aligns_44 (by decide) (by omega) (by decide +kernel) (fun H locs hR => ?_)
              have hR : zR D B (wM cI cZ ad (zU S 8 (upd ((sp_unb (S 8) w j)) (4 * j + w) (nI (0))))) s H locs := by rw [show (zU S 8 (upd ((sp_unb (S 8) w j)) (4 * j + w) (nI (0)))) = zU (zU S 8 (sp_unb (S 8) w j)) 8 (upd ((sp_unb (S 8) w j)) (4 * j + w) (nI (0))) from (zU_U _ _ _ _).symm]; exact hR
              refine lv_iinc (v := (nI (j + 1))) (lv' := [(2, .int (nI (j + 1))), (0, .ref (ad 0)), (1, .int (nI (w)))]) hx hb dX5_aligns_45 hl (k := 2) rfl (z_inc _) (by decide) rfl (fun ls hl => ?_)
              refine lv_goto (tgt := 29) hx hb dX5_aligns_48 (by decide) ?_
              exact ih29 (j + 1) (by omega) (by omega) _ _ (by rw [show zU S 8 (sp_unb (S 8) w (j + 1)) = (zU S 8 (upd ((sp_unb (S 8) w j)) (4 * j + w) (nI (0)))) from rfl]; exact hR) ls (lv_sub hl [1, 2, 0] rfl)
        exact loop29 _ 0 (by omega) (Nat.lt_succ_self _) _ _ (by rw [show zU S 8 (sp_unb (S 8) w 0) = S from zU_self S 8]; exact hR) ls (lv_sub hl [1, 2, 0] rfl)
      · skip
        refine lv_aload_n hx hb dX5_aligns_7 rfl (lv_at hl 0 rfl) ?_
        refine z_get (own := RX5) (C := RX5) (T := TX5) (N := 27) (k := 7) (v := .ref (ad 9)) hx hb hts hinX5 hown hF hR (wM_c0 S) rfl (by decide) (by decide +kernel) rfl rfl dX5_aligns_8 ?_
        refine lv_iload_n hx hb dX5_aligns_11 rfl (lv_at hl 2 rfl) ?_
        refine lv_iload_n hx hb dX5_aligns_12 rfl (lv_at hl 1 rfl) ?_
        refine z_callS_i (As := [.int (nI (k)), .int (nI (w))]) (rest := [.ref (ad 9)]) (w := wM cI cZ ad) ⟨hx, hb, hml, hown, hts⟩ hF hR (c_X5_channel hG S k w) (va_cwS 2 hts gX5_aligns_X5_channel rfl rfl rfl (by decide +kernel) ⟨Nat.le_of_ble_eq_true rfl, Nat.le_of_ble_eq_true rfl⟩) rfl hl rfl (Nat.le_of_ble_eq_true rfl) (by decide) dX5_aligns_13 (fun r8 S8 H locs hp8 hR => ?_)
        obtain ⟨hr8, hs8⟩ := hp8
        subst r8
        subst S8
        refine z_zald_n (f := S 8) hx hb hF hR (wM_c9 S) zT_1 dX5_aligns_16 (by decide) (by omega) ?_
        refine lv_if_ne (tgt := 21) hx hb dX5_aligns_17 (by decide) (fun h17_9 => ?_) (fun h17_9 => ?_)
        · skip
          have q17 := h17_9
          refine lv_iinc (v := (nI (k + 1))) (lv' := [(2, .int (nI (k + 1))), (0, .ref (ad 0)), (1, .int (nI (w)))]) hx hb dX5_aligns_21 hl (k := 2) rfl (z_inc _) (by decide) rfl (fun ls hl => ?_)
          refine lv_goto (tgt := 2) hx hb dX5_aligns_24 (by decide) ?_
          exact ih2 (k + 1) (by omega) (lt_s hk ((zOK.b8 hO (4 * k + w)).elim (fun z => absurd (z.trans nI_0) q17) id)) (by omega) _ _ hR ls (lv_sub hl [1, 2, 0] rfl)
        · skip
          have q17 := h17_9
          exact z_vret (w := wM cI cZ ad) (S1 := S) hx hb hr hlk hF hR dX5_aligns_20 ((if_neg (fun q => absurd ((q k (by omega)).symm.trans q17) (by decide))).symm)
  exact loop2 _ 0 (by omega) (fun q hq => absurd hq (Nat.not_lt_zero q)) (Nat.lt_succ_self _) _ _ hR ls (lv_sub hl [1, 2, 0] rfl)
set_option maxHeartbeats 4000000 in
set_option maxRecDepth 100000 in
theorem c_X5_takes {l : Launch} {D : va_G} {cI cZ : ClassId} {ad : Nat → Nat} {B : Nat → Prop} (hG : ∀ S : zS, va_D B (wM cI cZ ad S)) (S : zS) (w p : Nat) (hO : zOK S) (hw : w < 4) (hp : p < 4) (hn : 0 < zn S 7 (4 * p + w)) : zMi l yX5_takes wsX5_takes ({ frames := 3, cells := 0, slots := 0, locals := 65 } : Room) [.ref (ad 0), .int (nI (w)), .int (nI (p))] D (zT cI cZ) B (wM cI cZ ad) S (fun (r : Int32) (S1 : zS) => r = (mo_tfr S p w) ∧ S1 = mo_tf S p w) := by
  refine zMi_of (cc := cX5_takes) (maxL := 6) (ret := (some .int)) (by decide) rfl (Nat.le_of_ble_eq_true rfl) ?_
  intro pg en s mm below meth cd hx hb hr hml hown hts hlk hF hR ls hl
  have hinX5 : ∀ w ∈ wsX50, w ∈ wsX5_takes := by decide +kernel
  have hl : lv_has ls 6 [(0, .ref (ad 0)), (1, .int (nI (w))), (2, .int (nI (p)))] := hl
  have hn8 := (zOK.n7 hO (4 * p + w)).2
  refine lv_iload_n hx hb dX5_takes_0 rfl (lv_at hl 2 rfl) ?_
  refine lv_iload_n hx hb dX5_takes_1 rfl (lv_at hl 1 rfl) ?_
  refine z_callS_i (As := [.int (nI (p)), .int (nI (w))]) (rest := []) (w := wM cI cZ ad) ⟨hx, hb, hml, hown, hts⟩ hF hR (c_X5_channel hG S p w) (va_cwS 2 hts gX5_takes_X5_channel rfl rfl rfl (by decide +kernel) ⟨Nat.le_of_ble_eq_true rfl, Nat.le_of_ble_eq_true rfl⟩) rfl hl rfl (Nat.le_of_ble_eq_true rfl) (by decide) dX5_takes_2 (fun r1 S1 H locs hp1 hR => ?_)
  obtain ⟨hr1, hs1⟩ := hp1
  subst r1
  subst S1
  refine lv_istore_n (lv' := [(3, .int (nI (4 * p + w))), (0, .ref (ad 0)), (1, .int (nI (w))), (2, .int (nI (p)))]) hx hb dX5_takes_5 rfl hl (by decide) rfl (fun ls hl => ?_)
  refine lv_aload_n hx hb dX5_takes_6 rfl (lv_at hl 1 rfl) ?_
  refine z_get (own := RX5) (C := RX5) (T := TX5) (N := 27) (k := 5) (v := .ref (ad 7)) hx hb hts hinX5 hown hF hR (wM_c0 S) rfl (by decide) (by decide +kernel) rfl rfl dX5_takes_7 ?_
  refine lv_bipush (v := (nI (8))) hx hb dX5_takes_10 (by decide) ?_
  refine lv_iload_n hx hb dX5_takes_12 rfl (lv_at hl 0 rfl) ?_
  refine z_imul_n hx hb dX5_takes_13 ?_
  refine z_iald_n (f := S 6) hx hb hF hR (wM_c7 S) zT_0 dX5_takes_14 (by decide) (by omega) ?_
  refine lv_istore (lv' := [(4, .int (S 6 (8 * (4 * p + w)))), (3, .int (nI (4 * p + w))), (0, .ref (ad 0)), (1, .int (nI (w))), (2, .int (nI (p)))]) hx hb dX5_takes_15 hl (by decide) rfl (fun ls hl => ?_)
  refine lv_aload_n hx hb dX5_takes_17 rfl (lv_at hl 2 rfl) ?_
  refine z_get (own := RX5) (C := RX5) (T := TX5) (N := 27) (k := 6) (v := .ref (ad 8)) hx hb hts hinX5 hown hF hR (wM_c0 S) rfl (by decide) (by decide +kernel) rfl rfl dX5_takes_18 ?_
  refine lv_iload_n hx hb dX5_takes_21 rfl (lv_at hl 1 rfl) ?_
  refine lv_dup2_11 hx hb dX5_takes_22 rfl rfl ?_
  refine z_iald_n (f := S 7) hx hb hF hR (wM_c8 S) zT_0 dX5_takes_23 (by decide) (by omega) ?_
  refine lv_topi (fun v3 ev3 => ?_)
  obtain rfl : v3 = (nI (zn S 7 (4 * p + w))) := ev3.trans (zOK.n7 hO _).1
  have hb23_2 := (zOK.n7 hO (4 * p + w)).2
  refine lv_iconst (v := (nI (1))) hx hb dX5_takes_24 (by decide) ?_
  refine z_isub_n hx hb dX5_takes_25 (by omega) ?_
  refine z_iast_n (f := S 7) hx hb hF (hG S) hR (wM_c8 S) zT_0 (wM_s7 S (upd (S 7) (4 * p + w) (nI ((zn S 7 (4 * p + w)) - 1)))) dX5_takes_26 (by decide) (by omega) (fun H locs hR => ?_)
  refine lv_bipush (v := (nI (8))) hx hb dX5_takes_27 (by decide) ?_
  refine lv_iload_n hx hb dX5_takes_29 rfl (lv_at hl 1 rfl) ?_
  refine z_imul_n hx hb dX5_takes_30 ?_
  refine lv_istore (lv' := [(5, .int (nI (8 * (4 * p + w)))), (4, .int (S 6 (8 * (4 * p + w)))), (3, .int (nI (4 * p + w))), (0, .ref (ad 0)), (1, .int (nI (w))), (2, .int (nI (p)))]) hx hb dX5_takes_31 hl (by decide) rfl (fun ls hl => ?_)
  have loop33 : ∀ (nf33 : Nat) (j : Nat), (j ≤ zn S 7 (4 * p + w) - 1) → zn S 7 (4 * p + w) - 1 - j < nf33 → ∀ (H : Heap) (locs : List Loc), zR D B (wM cI cZ ad (zU (zU S 7 (upd (S 7) (4 * p + w) (nI (zn S 7 (4 * p + w) - 1)))) 6 (sp_sh (S 6) (8 * (4 * p + w)) j))) s H locs → ∀ ls : Array Slot, lv_has ls 6 [(0, .ref (ad 0)), (1, .int (nI (w))), (2, .int (nI (p))), (3, .int (nI (4 * p + w))), (4, .int (S 6 (8 * (4 * p + w)))), (5, .int (nI (8 * (4 * p + w) + j)))] → W pg l en ({ frames := 3, cells := 0, slots := 0, locals := 65 } : Room) s mm ([.ref (ad 0), .int (nI (w)), .int (nI (p))] : List Value).toArray below meth cd H locs 0 0 (MQ below (va_Qi (fun (r : Int32) (S1 : zS) => r = (mo_tfr S p w) ∧ S1 = mo_tf S p w) (zB D (zT cI cZ) (wM cI cZ ad)) (zA B s.heap.size)) ([.ref (ad 0), .int (nI (w)), .int (nI (p))] : List Value).toArray s 0 0 (zA B s.heap.size)) (F0 mm 33 ls []) := by
    intro nf33
    induction nf33 with
    | zero => intro j hj hn; exact absurd hn (Nat.not_lt_zero _)
    | succ nf33 ih33 =>
      intro j hj hn H locs hR ls hl
      refine lv_iload hx hb dX5_takes_33 (lv_at hl 5 rfl) ?_
      refine lv_bipush (v := (nI (8))) hx hb dX5_takes_35 (by decide) ?_
      refine lv_iload_n hx hb dX5_takes_37 rfl (lv_at hl 3 rfl) ?_
      refine z_imul_n hx hb dX5_takes_38 ?_
      refine lv_aload_n hx hb dX5_takes_39 rfl (lv_at hl 0 rfl) ?_
      refine z_get (own := RX5) (C := RX5) (T := TX5) (N := 27) (k := 6) (v := .ref (ad 8)) hx hb hts hinX5 hown hF hR (wM_c0 (zU (zU S 7 (upd (S 7) (4 * p + w) (nI (zn S 7 (4 * p + w) - 1)))) 6 (sp_sh (S 6) (8 * (4 * p + w)) j))) rfl (by decide) (by decide +kernel) rfl rfl dX5_takes_40 ?_
      refine lv_iload_n hx hb dX5_takes_43 rfl (lv_at hl 3 rfl) ?_
      refine z_iald_n (f := (upd (S 7) (4 * p + w) (nI (zn S 7 (4 * p + w) - 1)))) hx hb hF hR (wM_c8 (zU (zU S 7 (upd (S 7) (4 * p + w) (nI (zn S 7 (4 * p + w) - 1)))) 6 (sp_sh (S 6) (8 * (4 * p + w)) j))) zT_0 dX5_takes_44 (by decide) (by omega) ?_
      refine lv_topi (fun v4 ev4 => ?_)
      obtain rfl : v4 = (nI (zn S 7 (4 * p + w) - 1)) := ev4.trans (pk_us)
      refine z_iadd_n hx hb dX5_takes_45 ?_
      refine z_ge_n (tgt := 71) hx hb dX5_takes_46 (by decide) (by omega) (by omega) (fun h46_5 => ?_) (fun h46_5 => ?_)
      · skip
        have hO2 := zOK_rem (c := 4 * p + w) hO
        have hR : zR D B (wM cI cZ ad (sp_rem S (4 * p + w))) s H locs := by rw [show (sp_rem S (4 * p + w)) = (zU (zU S 7 (upd (S 7) (4 * p + w) (nI (zn S 7 (4 * p + w) - 1)))) 6 (sp_sh (S 6) (8 * (4 * p + w)) j)) from by rw [show j = zn S 7 (4 * p + w) - 1 from by omega]; exact zU_comm S (by decide) _ _]; exact hR
        refine lv_iload hx hb dX5_takes_71 (lv_at hl 4 rfl) ?_
        refine lv_if_le (tgt := 146) hx hb dX5_takes_73 (by decide) (fun h73_6 => ?_) (fun h73_6 => ?_)
        · skip
          have q73 := h73_6
          refine lv_iload hx hb dX5_takes_146 (lv_at hl 4 rfl) ?_
          refine lv_ineg hx hb dX5_takes_148 ?_
          refine lv_aload_n hx hb dX5_takes_149 rfl (lv_at hl 0 rfl) ?_
          refine z_get (own := RX5) (C := RX5) (T := TX5) (N := 27) (k := 18) (v := .int ((sp_rem S (4 * p + w)) 22 2)) hx hb hts hinX5 hown hF hR (wM_c0 (sp_rem S (4 * p + w))) rfl (by decide) (by decide +kernel) rfl rfl dX5_takes_150 ?_
          refine lv_icmp_ne (tgt := 168) hx hb dX5_takes_153 (by decide) (fun h153_7 => ?_) (fun h153_7 => ?_)
          · skip
            have q153 : ¬ -(S 6 (8 * (4 * p + w))) = S 22 2 := h153_7
            refine lv_iconst (v := (nI (0))) hx hb dX5_takes_168 (by decide) ?_
            exact z_iret (w := wM cI cZ ad) (S1 := (sp_rem S (4 * p + w))) hx hb hr hlk hF hR dX5_takes_169 (⟨by unfold mo_tfr; rw [if_neg (Int32.not_lt.mpr q73)], by unfold mo_tf; rw [if_neg (Int32.not_lt.mpr q73)]; first | (rw [if_pos q153]) | (rw [if_neg q153])⟩)
          · skip
            have q153 : -(S 6 (8 * (4 * p + w))) = S 22 2 := h153_7
            refine lv_aload_n hx hb dX5_takes_156 rfl (lv_at hl 0 rfl) ?_
            refine z_get (own := RX5) (C := RX5) (T := TX5) (N := 27) (k := 7) (v := .ref (ad 9)) hx hb hts hinX5 hown hF hR (wM_c0 (sp_rem S (4 * p + w))) rfl (by decide) (by decide +kernel) rfl rfl dX5_takes_157 ?_
            refine lv_iload_n hx hb dX5_takes_160 rfl (lv_at hl 3 rfl) ?_
            refine lv_iconst (v := (nI (1))) hx hb dX5_takes_161 (by decide) ?_
            refine z_zast_n (f := (sp_rem S (4 * p + w)) 8) hx hb hF (hG (sp_rem S (4 * p + w))) hR (wM_c9 (sp_rem S (4 * p + w))) zT_1 (wM_s8 (sp_rem S (4 * p + w)) (upd ((sp_rem S (4 * p + w)) 8) (4 * p + w) (nI (1)))) dX5_takes_162 (by decide) (by omega) (by decide +kernel) (fun H locs hR => ?_)
            have hO3 := zOK_blk (p := p) (w := w) hO2
            have hR : zR D B (wM cI cZ ad (sp_blk (sp_rem S (4 * p + w)) p w)) s H locs := by rw [show (sp_blk (sp_rem S (4 * p + w)) p w) = (zU (sp_rem S (4 * p + w)) 8 (upd ((sp_rem S (4 * p + w)) 8) (4 * p + w) (nI (1)))) from rfl]; exact hR
            refine lv_aload_n hx hb dX5_takes_163 rfl (lv_at hl 0 rfl) ?_
            refine lv_iload_n hx hb dX5_takes_164 rfl (lv_at hl 1 rfl) ?_
            refine z_callV_v (As := [.int (nI (w))]) (rest := []) (w := wM cI cZ ad) ⟨hx, hb, hml, hown, hts⟩ hF hR (c_X5_aligns hG (sp_blk (sp_rem S (4 * p + w)) p w) w hO3 (by omega)) (cwV 1 hts gX5_takes_X5_aligns rfl rfl rfl (by decide +kernel) ⟨Nat.le_of_ble_eq_true rfl, Nat.le_of_ble_eq_true rfl⟩) (wM_c0 (sp_blk (sp_rem S (4 * p + w)) p w)) rfl rfl rfl hl rfl (Nat.le_of_ble_eq_true rfl) (by decide) dX5_takes_165 (fun S8 H locs hp8 hR => ?_)
            subst S8
            have hO8 := (zOK_al (w := w) hO3)
            refine lv_iconst (v := (nI (0))) hx hb dX5_takes_168 (by decide) ?_
            exact z_iret (w := wM cI cZ ad) (S1 := (mo_al (sp_blk (sp_rem S (4 * p + w)) p w) w)) hx hb hr hlk hF hR dX5_takes_169 (⟨by unfold mo_tfr; rw [if_neg (Int32.not_lt.mpr q73)], by unfold mo_tf; rw [if_neg (Int32.not_lt.mpr q73)]; first | (rw [if_pos q153]) | (rw [if_neg q153])⟩)
        · skip
          have q73 : 0 < S 6 (8 * (4 * p + w)) := Int32.not_le.mp h73_6
          have hb73 := (zOK.pos hO q73).2
          have hl : lv_has ls 6 [(0, .ref (ad 0)), (1, .int (nI (w))), (2, .int (nI (p))), (3, .int (nI (4 * p + w))), (4, .int (nI (zn S 6 (8 * (4 * p + w))))), (5, .int (nI (8 * (4 * p + w) + j)))] := (by rw [← (zOK.pos hO q73).1]; exact hl)
          refine lv_iload hx hb dX5_takes_76 (lv_at hl 4 rfl) ?_
          refine lv_sipush (v := (nI (1000))) hx hb dX5_takes_78 (by decide) ?_
          refine z_idiv_n hx hb dX5_takes_81 (by omega) (by omega) (by omega) ?_
          refine lv_istore (lv' := [(5, .int (nI ((zn S 6 (8 * (4 * p + w))) / 1000))), (0, .ref (ad 0)), (1, .int (nI (w))), (2, .int (nI (p))), (3, .int (nI (4 * p + w))), (4, .int (nI (zn S 6 (8 * (4 * p + w)))))]) hx hb dX5_takes_82 hl (by decide) rfl (fun ls hl => ?_)
          refine lv_aload_n hx hb dX5_takes_84 rfl (lv_at hl 1 rfl) ?_
          refine z_get (own := RX5) (C := RX5) (T := TX5) (N := 27) (k := 8) (v := .ref (ad 10)) hx hb hts hinX5 hown hF hR (wM_c0 (sp_rem S (4 * p + w))) rfl (by decide) (by decide +kernel) rfl rfl dX5_takes_85 ?_
          refine lv_iload hx hb dX5_takes_88 (lv_at hl 0 rfl) ?_
          refine lv_dup2_11 hx hb dX5_takes_90 rfl rfl ?_
          refine z_iald_n (f := (sp_rem S (4 * p + w)) 9) hx hb hF hR (wM_c10 (sp_rem S (4 * p + w))) zT_0 dX5_takes_91 (by decide) (by omega) ?_
          refine lv_iconst (v := (nI (1))) hx hb dX5_takes_92 (by decide) ?_
          refine lv_iadd hx hb dX5_takes_93 ?_
          refine z_iast_n (f := (sp_rem S (4 * p + w)) 9) hx hb hF (hG (sp_rem S (4 * p + w))) hR (wM_c10 (sp_rem S (4 * p + w))) zT_0 (wM_s9 (sp_rem S (4 * p + w)) (upd ((sp_rem S (4 * p + w)) 9) ((zn S 6 (8 * (4 * p + w))) / 1000) (((sp_rem S (4 * p + w)) 9 ((zn S 6 (8 * (4 * p + w))) / 1000)) + (nI (1))))) dX5_takes_94 (by decide) (by omega) (fun H locs hR => ?_)
          refine lv_aload_n hx hb dX5_takes_95 rfl (lv_at hl 1 rfl) ?_
          refine z_get (own := RX5) (C := RX5) (T := TX5) (N := 27) (k := 10) (v := .ref (ad 12)) hx hb hts hinX5 hown hF hR (wM_c0 (zU (sp_rem S (4 * p + w)) 9 (upd ((sp_rem S (4 * p + w)) 9) ((zn S 6 (8 * (4 * p + w))) / 1000) (((sp_rem S (4 * p + w)) 9 ((zn S 6 (8 * (4 * p + w))) / 1000)) + (nI (1)))))) rfl (by decide) (by decide +kernel) rfl rfl dX5_takes_96 ?_
          refine lv_iload hx hb dX5_takes_99 (lv_at hl 0 rfl) ?_
          refine lv_dup2_11 hx hb dX5_takes_101 rfl rfl ?_
          refine z_iald_n (f := (sp_rem S (4 * p + w)) 11) hx hb hF hR (wM_c12 (zU (sp_rem S (4 * p + w)) 9 (upd ((sp_rem S (4 * p + w)) 9) ((zn S 6 (8 * (4 * p + w))) / 1000) (((sp_rem S (4 * p + w)) 9 ((zn S 6 (8 * (4 * p + w))) / 1000)) + (nI (1)))))) zT_0 dX5_takes_102 (by decide) (by omega) ?_
          refine lv_iconst (v := (nI (1))) hx hb dX5_takes_103 (by decide) ?_
          refine lv_iadd hx hb dX5_takes_104 ?_
          refine z_iast_n (f := (sp_rem S (4 * p + w)) 11) hx hb hF (hG (zU (sp_rem S (4 * p + w)) 9 (upd ((sp_rem S (4 * p + w)) 9) ((zn S 6 (8 * (4 * p + w))) / 1000) (((sp_rem S (4 * p + w)) 9 ((zn S 6 (8 * (4 * p + w))) / 1000)) + (nI (1)))))) hR (wM_c12 (zU (sp_rem S (4 * p + w)) 9 (upd ((sp_rem S (4 * p + w)) 9) ((zn S 6 (8 * (4 * p + w))) / 1000) (((sp_rem S (4 * p + w)) 9 ((zn S 6 (8 * (4 * p + w))) / 1000)) + (nI (1)))))) zT_0 (wM_s11 (zU (sp_rem S (4 * p + w)) 9 (upd ((sp_rem S (4 * p + w)) 9) ((zn S 6 (8 * (4 * p + w))) / 1000) (((sp_rem S (4 * p + w)) 9 ((zn S 6 (8 * (4 * p + w))) / 1000)) + (nI (1))))) (upd ((sp_rem S (4 * p + w)) 11) ((zn S 6 (8 * (4 * p + w))) / 1000) (((sp_rem S (4 * p + w)) 11 ((zn S 6 (8 * (4 * p + w))) / 1000)) + (nI (1))))) dX5_takes_105 (by decide) (by omega) (fun H locs hR => ?_)
          refine lv_aload_n hx hb dX5_takes_106 rfl (lv_at hl 1 rfl) ?_
          refine z_get (own := RX5) (C := RX5) (T := TX5) (N := 27) (k := 9) (v := .ref (ad 11)) hx hb hts hinX5 hown hF hR (wM_c0 (zU (zU (sp_rem S (4 * p + w)) 9 (upd ((sp_rem S (4 * p + w)) 9) ((zn S 6 (8 * (4 * p + w))) / 1000) (((sp_rem S (4 * p + w)) 9 ((zn S 6 (8 * (4 * p + w))) / 1000)) + (nI (1))))) 11 (upd ((sp_rem S (4 * p + w)) 11) ((zn S 6 (8 * (4 * p + w))) / 1000) (((sp_rem S (4 * p + w)) 11 ((zn S 6 (8 * (4 * p + w))) / 1000)) + (nI (1)))))) rfl (by decide) (by decide +kernel) rfl rfl dX5_takes_107 ?_
          refine lv_iload hx hb dX5_takes_110 (lv_at hl 0 rfl) ?_
          refine lv_dup2_11 hx hb dX5_takes_112 rfl rfl ?_
          refine z_iald_n (f := (sp_rem S (4 * p + w)) 10) hx hb hF hR (wM_c11 (zU (zU (sp_rem S (4 * p + w)) 9 (upd ((sp_rem S (4 * p + w)) 9) ((zn S 6 (8 * (4 * p + w))) / 1000) (((sp_rem S (4 * p + w)) 9 ((zn S 6 (8 * (4 * p + w))) / 1000)) + (nI (1))))) 11 (upd ((sp_rem S (4 * p + w)) 11) ((zn S 6 (8 * (4 * p + w))) / 1000) (((sp_rem S (4 * p + w)) 11 ((zn S 6 (8 * (4 * p + w))) / 1000)) + (nI (1)))))) zT_0 dX5_takes_113 (by decide) (by omega) ?_
          refine lv_iload hx hb dX5_takes_114 (lv_at hl 5 rfl) ?_
          refine lv_sipush (v := (nI (1000))) hx hb dX5_takes_116 (by decide) ?_
          refine z_irem_n hx hb dX5_takes_119 (by omega) (by omega) (by omega) ?_
          refine lv_iadd hx hb dX5_takes_120 ?_
          refine z_iast_n (f := (sp_rem S (4 * p + w)) 10) hx hb hF (hG (zU (zU (sp_rem S (4 * p + w)) 9 (upd ((sp_rem S (4 * p + w)) 9) ((zn S 6 (8 * (4 * p + w))) / 1000) (((sp_rem S (4 * p + w)) 9 ((zn S 6 (8 * (4 * p + w))) / 1000)) + (nI (1))))) 11 (upd ((sp_rem S (4 * p + w)) 11) ((zn S 6 (8 * (4 * p + w))) / 1000) (((sp_rem S (4 * p + w)) 11 ((zn S 6 (8 * (4 * p + w))) / 1000)) + (nI (1)))))) hR (wM_c11 (zU (zU (sp_rem S (4 * p + w)) 9 (upd ((sp_rem S (4 * p + w)) 9) ((zn S 6 (8 * (4 * p + w))) / 1000) (((sp_rem S (4 * p + w)) 9 ((zn S 6 (8 * (4 * p + w))) / 1000)) + (nI (1))))) 11 (upd ((sp_rem S (4 * p + w)) 11) ((zn S 6 (8 * (4 * p + w))) / 1000) (((sp_rem S (4 * p + w)) 11 ((zn S 6 (8 * (4 * p + w))) / 1000)) + (nI (1)))))) zT_0 (wM_s10 (zU (zU (sp_rem S (4 * p + w)) 9 (upd ((sp_rem S (4 * p + w)) 9) ((zn S 6 (8 * (4 * p + w))) / 1000) (((sp_rem S (4 * p + w)) 9 ((zn S 6 (8 * (4 * p + w))) / 1000)) + (nI (1))))) 11 (upd ((sp_rem S (4 * p + w)) 11) ((zn S 6 (8 * (4 * p + w))) / 1000) (((sp_rem S (4 * p + w)) 11 ((zn S 6 (8 * (4 * p + w))) / 1000)) + (nI (1))))) (upd ((sp_rem S (4 * p + w)) 10) ((zn S 6 (8 * (4 * p + w))) / 1000) (((sp_rem S (4 * p + w)) 10 ((zn S 6 (8 * (4 * p + w))) / 1000)) + (nI ((zn S 6 (8 * (4 * p + w))) % 1000))))) dX5_takes_121 (by decide) (by omega) (fun H locs hR => ?_)
          refine lv_aload_n hx hb dX5_takes_122 rfl (lv_at hl 1 rfl) ?_
          refine z_get (own := RX5) (C := RX5) (T := TX5) (N := 27) (k := 11) (v := .ref (ad 13)) hx hb hts hinX5 hown hF hR (wM_c0 (zU (zU (zU (sp_rem S (4 * p + w)) 9 (upd ((sp_rem S (4 * p + w)) 9) ((zn S 6 (8 * (4 * p + w))) / 1000) (((sp_rem S (4 * p + w)) 9 ((zn S 6 (8 * (4 * p + w))) / 1000)) + (nI (1))))) 11 (upd ((sp_rem S (4 * p + w)) 11) ((zn S 6 (8 * (4 * p + w))) / 1000) (((sp_rem S (4 * p + w)) 11 ((zn S 6 (8 * (4 * p + w))) / 1000)) + (nI (1))))) 10 (upd ((sp_rem S (4 * p + w)) 10) ((zn S 6 (8 * (4 * p + w))) / 1000) (((sp_rem S (4 * p + w)) 10 ((zn S 6 (8 * (4 * p + w))) / 1000)) + (nI ((zn S 6 (8 * (4 * p + w))) % 1000)))))) rfl (by decide) (by decide +kernel) rfl rfl dX5_takes_123 ?_
          refine lv_iload hx hb dX5_takes_126 (lv_at hl 0 rfl) ?_
          refine lv_dup2_11 hx hb dX5_takes_128 rfl rfl ?_
          refine z_iald_n (f := (sp_rem S (4 * p + w)) 12) hx hb hF hR (wM_c13 (zU (zU (zU (sp_rem S (4 * p + w)) 9 (upd ((sp_rem S (4 * p + w)) 9) ((zn S 6 (8 * (4 * p + w))) / 1000) (((sp_rem S (4 * p + w)) 9 ((zn S 6 (8 * (4 * p + w))) / 1000)) + (nI (1))))) 11 (upd ((sp_rem S (4 * p + w)) 11) ((zn S 6 (8 * (4 * p + w))) / 1000) (((sp_rem S (4 * p + w)) 11 ((zn S 6 (8 * (4 * p + w))) / 1000)) + (nI (1))))) 10 (upd ((sp_rem S (4 * p + w)) 10) ((zn S 6 (8 * (4 * p + w))) / 1000) (((sp_rem S (4 * p + w)) 10 ((zn S 6 (8 * (4 * p + w))) / 1000)) + (nI ((zn S 6 (8 * (4 * p + w))) % 1000)))))) zT_0 dX5_takes_129 (by decide) (by omega) ?_
          refine lv_iload hx hb dX5_takes_130 (lv_at hl 5 rfl) ?_
          refine lv_sipush (v := (nI (1000))) hx hb dX5_takes_132 (by decide) ?_
          refine z_irem_n hx hb dX5_takes_135 (by omega) (by omega) (by omega) ?_
          refine lv_iadd hx hb dX5_takes_136 ?_
          refine z_iast_n (f := (sp_rem S (4 * p + w)) 12) hx hb hF (hG (zU (zU (zU (sp_rem S (4 * p + w)) 9 (upd ((sp_rem S (4 * p + w)) 9) ((zn S 6 (8 * (4 * p + w))) / 1000) (((sp_rem S (4 * p + w)) 9 ((zn S 6 (8 * (4 * p + w))) / 1000)) + (nI (1))))) 11 (upd ((sp_rem S (4 * p + w)) 11) ((zn S 6 (8 * (4 * p + w))) / 1000) (((sp_rem S (4 * p + w)) 11 ((zn S 6 (8 * (4 * p + w))) / 1000)) + (nI (1))))) 10 (upd ((sp_rem S (4 * p + w)) 10) ((zn S 6 (8 * (4 * p + w))) / 1000) (((sp_rem S (4 * p + w)) 10 ((zn S 6 (8 * (4 * p + w))) / 1000)) + (nI ((zn S 6 (8 * (4 * p + w))) % 1000)))))) hR (wM_c13 (zU (zU (zU (sp_rem S (4 * p + w)) 9 (upd ((sp_rem S (4 * p + w)) 9) ((zn S 6 (8 * (4 * p + w))) / 1000) (((sp_rem S (4 * p + w)) 9 ((zn S 6 (8 * (4 * p + w))) / 1000)) + (nI (1))))) 11 (upd ((sp_rem S (4 * p + w)) 11) ((zn S 6 (8 * (4 * p + w))) / 1000) (((sp_rem S (4 * p + w)) 11 ((zn S 6 (8 * (4 * p + w))) / 1000)) + (nI (1))))) 10 (upd ((sp_rem S (4 * p + w)) 10) ((zn S 6 (8 * (4 * p + w))) / 1000) (((sp_rem S (4 * p + w)) 10 ((zn S 6 (8 * (4 * p + w))) / 1000)) + (nI ((zn S 6 (8 * (4 * p + w))) % 1000)))))) zT_0 (wM_s12 (zU (zU (zU (sp_rem S (4 * p + w)) 9 (upd ((sp_rem S (4 * p + w)) 9) ((zn S 6 (8 * (4 * p + w))) / 1000) (((sp_rem S (4 * p + w)) 9 ((zn S 6 (8 * (4 * p + w))) / 1000)) + (nI (1))))) 11 (upd ((sp_rem S (4 * p + w)) 11) ((zn S 6 (8 * (4 * p + w))) / 1000) (((sp_rem S (4 * p + w)) 11 ((zn S 6 (8 * (4 * p + w))) / 1000)) + (nI (1))))) 10 (upd ((sp_rem S (4 * p + w)) 10) ((zn S 6 (8 * (4 * p + w))) / 1000) (((sp_rem S (4 * p + w)) 10 ((zn S 6 (8 * (4 * p + w))) / 1000)) + (nI ((zn S 6 (8 * (4 * p + w))) % 1000))))) (upd ((sp_rem S (4 * p + w)) 12) ((zn S 6 (8 * (4 * p + w))) / 1000) (((sp_rem S (4 * p + w)) 12 ((zn S 6 (8 * (4 * p + w))) / 1000)) + (nI ((zn S 6 (8 * (4 * p + w))) % 1000))))) dX5_takes_137 (by decide) (by omega) (fun H locs hR => ?_)
          have hR : zR D B (wM cI cZ ad (sp_te (sp_rem S (4 * p + w)) (zn S 6 (8 * (4 * p + w)) / 1000) (zn S 6 (8 * (4 * p + w)) % 1000))) s H locs := by rw [show (sp_te (sp_rem S (4 * p + w)) (zn S 6 (8 * (4 * p + w)) / 1000) (zn S 6 (8 * (4 * p + w)) % 1000)) = (zU (zU (zU (zU (sp_rem S (4 * p + w)) 9 (upd ((sp_rem S (4 * p + w)) 9) ((zn S 6 (8 * (4 * p + w))) / 1000) (((sp_rem S (4 * p + w)) 9 ((zn S 6 (8 * (4 * p + w))) / 1000)) + (nI (1))))) 11 (upd ((sp_rem S (4 * p + w)) 11) ((zn S 6 (8 * (4 * p + w))) / 1000) (((sp_rem S (4 * p + w)) 11 ((zn S 6 (8 * (4 * p + w))) / 1000)) + (nI (1))))) 10 (upd ((sp_rem S (4 * p + w)) 10) ((zn S 6 (8 * (4 * p + w))) / 1000) (((sp_rem S (4 * p + w)) 10 ((zn S 6 (8 * (4 * p + w))) / 1000)) + (nI ((zn S 6 (8 * (4 * p + w))) % 1000))))) 12 (upd ((sp_rem S (4 * p + w)) 12) ((zn S 6 (8 * (4 * p + w))) / 1000) (((sp_rem S (4 * p + w)) 12 ((zn S 6 (8 * (4 * p + w))) / 1000)) + (nI ((zn S 6 (8 * (4 * p + w))) % 1000))))) from (te_order _ _ _).symm]; exact hR
          refine lv_aload_n hx hb dX5_takes_138 rfl (lv_at hl 1 rfl) ?_
          refine z_get (own := RX5) (C := RX5) (T := TX5) (N := 27) (k := 8) (v := .ref (ad 10)) hx hb hts hinX5 hown hF hR (wM_c0 (sp_te (sp_rem S (4 * p + w)) (zn S 6 (8 * (4 * p + w)) / 1000) (zn S 6 (8 * (4 * p + w)) % 1000))) rfl (by decide) (by decide +kernel) rfl rfl dX5_takes_139 ?_
          refine lv_iload hx hb dX5_takes_142 (lv_at hl 0 rfl) ?_
          refine z_iald_n (f := (sp_te (sp_rem S (4 * p + w)) (zn S 6 (8 * (4 * p + w)) / 1000) (zn S 6 (8 * (4 * p + w)) % 1000)) 9) hx hb hF hR (wM_c10 (sp_te (sp_rem S (4 * p + w)) (zn S 6 (8 * (4 * p + w)) / 1000) (zn S 6 (8 * (4 * p + w)) % 1000))) zT_0 dX5_takes_144 (by decide) (by omega) ?_
          exact z_iret (w := wM cI cZ ad) (S1 := (sp_te (sp_rem S (4 * p + w)) (zn S 6 (8 * (4 * p + w)) / 1000) (zn S 6 (8 * (4 * p + w)) % 1000))) hx hb hr hlk hF hR dX5_takes_145 (⟨by unfold mo_tfr mo_tf; rw [if_pos q73, if_pos q73], by unfold mo_tf; rw [if_pos q73]⟩)
      · skip
        refine lv_aload_n hx hb dX5_takes_49 rfl (lv_at hl 0 rfl) ?_
        refine z_get (own := RX5) (C := RX5) (T := TX5) (N := 27) (k := 5) (v := .ref (ad 7)) hx hb hts hinX5 hown hF hR (wM_c0 (zU (zU S 7 (upd (S 7) (4 * p + w) (nI (zn S 7 (4 * p + w) - 1)))) 6 (sp_sh (S 6) (8 * (4 * p + w)) j))) rfl (by decide) (by decide +kernel) rfl rfl dX5_takes_50 ?_
        refine lv_iload hx hb dX5_takes_53 (lv_at hl 5 rfl) ?_
        refine lv_aload_n hx hb dX5_takes_55 rfl (lv_at hl 0 rfl) ?_
        refine z_get (own := RX5) (C := RX5) (T := TX5) (N := 27) (k := 5) (v := .ref (ad 7)) hx hb hts hinX5 hown hF hR (wM_c0 (zU (zU S 7 (upd (S 7) (4 * p + w) (nI (zn S 7 (4 * p + w) - 1)))) 6 (sp_sh (S 6) (8 * (4 * p + w)) j))) rfl (by decide) (by decide +kernel) rfl rfl dX5_takes_56 ?_
        refine lv_iload hx hb dX5_takes_59 (lv_at hl 5 rfl) ?_
        refine lv_iconst (v := (nI (1))) hx hb dX5_takes_61 (by decide) ?_
        refine z_iadd_n hx hb dX5_takes_62 ?_
        refine z_iald_n (f := (sp_sh (S 6) (8 * (4 * p + w)) j)) hx hb hF hR (wM_c7 (zU (zU S 7 (upd (S 7) (4 * p + w) (nI (zn S 7 (4 * p + w) - 1)))) 6 (sp_sh (S 6) (8 * (4 * p + w)) j))) zT_0 dX5_takes_63 (by decide) (by omega) ?_
        refine z_iast_n (f := (sp_sh (S 6) (8 * (4 * p + w)) j)) hx hb hF (hG (zU (zU S 7 (upd (S 7) (4 * p + w) (nI (zn S 7 (4 * p + w) - 1)))) 6 (sp_sh (S 6) (8 * (4 * p + w)) j))) hR (wM_c7 (zU (zU S 7 (upd (S 7) (4 * p + w) (nI (zn S 7 (4 * p + w) - 1)))) 6 (sp_sh (S 6) (8 * (4 * p + w)) j))) zT_0 (wM_s6 (zU (zU S 7 (upd (S 7) (4 * p + w) (nI (zn S 7 (4 * p + w) - 1)))) 6 (sp_sh (S 6) (8 * (4 * p + w)) j)) (upd ((sp_sh (S 6) (8 * (4 * p + w)) j)) (8 * (4 * p + w) + j) ((sp_sh (S 6) (8 * (4 * p + w)) j) ((8 * (4 * p + w) + j) + 1)))) dX5_takes_64 (by decide) (by omega) (fun H locs hR => ?_)
        have hR : zR D B (wM cI cZ ad (zU (zU S 7 (upd (S 7) (4 * p + w) (nI (zn S 7 (4 * p + w) - 1)))) 6 (upd ((sp_sh (S 6) (8 * (4 * p + w)) j)) (8 * (4 * p + w) + j) ((sp_sh (S 6) (8 * (4 * p + w)) j) ((8 * (4 * p + w) + j) + 1))))) s H locs := by rw [show (zU (zU S 7 (upd (S 7) (4 * p + w) (nI (zn S 7 (4 * p + w) - 1)))) 6 (upd ((sp_sh (S 6) (8 * (4 * p + w)) j)) (8 * (4 * p + w) + j) ((sp_sh (S 6) (8 * (4 * p + w)) j) ((8 * (4 * p + w) + j) + 1)))) = zU (zU (zU S 7 (upd (S 7) (4 * p + w) (nI (zn S 7 (4 * p + w) - 1)))) 6 (sp_sh (S 6) (8 * (4 * p + w)) j)) 6 (upd ((sp_sh (S 6) (8 * (4 * p + w)) j)) (8 * (4 * p + w) + j) ((sp_sh (S 6) (8 * (4 * p + w)) j) ((8 * (4 * p + w) + j) + 1))) from (zU_U _ _ _ _).symm]; exact hR
        refine lv_iinc (v := (nI (8 * (4 * p + w) + j + 1))) (lv' := [(5, .int (nI (8 * (4 * p + w) + j + 1))), (0, .ref (ad 0)), (1, .int (nI (w))), (2, .int (nI (p))), (3, .int (nI (4 * p + w))), (4, .int (S 6 (8 * (4 * p + w))))]) hx hb dX5_takes_65 hl (k := 5) rfl (z_inc _) (by decide) rfl (fun ls hl => ?_)
        refine lv_goto (tgt := 33) hx hb dX5_takes_68 (by decide) ?_
        exact ih33 (j + 1) (by omega) (by omega) _ _ (by rw [show zU (zU S 7 (upd (S 7) (4 * p + w) (nI (zn S 7 (4 * p + w) - 1)))) 6 (sp_sh (S 6) (8 * (4 * p + w)) (j + 1)) = (zU (zU S 7 (upd (S 7) (4 * p + w) (nI (zn S 7 (4 * p + w) - 1)))) 6 (upd ((sp_sh (S 6) (8 * (4 * p + w)) j)) (8 * (4 * p + w) + j) ((sp_sh (S 6) (8 * (4 * p + w)) j) ((8 * (4 * p + w) + j) + 1)))) from rfl]; exact hR) ls (lv_sub hl [1, 2, 3, 4, 5, 0] rfl)
  exact loop33 _ 0 (by omega) (Nat.lt_succ_self _) _ _ (by rw [show zU (zU S 7 (upd (S 7) (4 * p + w) (nI (zn S 7 (4 * p + w) - 1)))) 6 (sp_sh (S 6) (8 * (4 * p + w)) 0) = (zU S 7 (upd (S 7) (4 * p + w) (nI ((zn S 7 (4 * p + w)) - 1)))) from zU_self (zU S 7 (upd (S 7) (4 * p + w) (nI (zn S 7 (4 * p + w) - 1)))) 6]; exact hR) ls (lv_sub hl [3, 4, 5, 2, 1, 0] rfl)
set_option maxHeartbeats 4000000 in
set_option maxRecDepth 100000 in
theorem c_X5_commits {l : Launch} {D : va_G} {cI cZ : ClassId} {ad : Nat → Nat} {B : Nat → Prop} (hG : ∀ S : zS, va_D B (wM cI cZ ad S)) (S : zS) (w : Nat) (hO : zOK S) (hw : w < 4) : zMi l yX5_commits wsX5_commits ({ frames := 2, cells := 0, slots := 0, locals := 42 } : Room) [.ref (ad 0), .int (nI (w))] D (zT cI cZ) B (wM cI cZ ad) S (fun (r : Int32) (S1 : zS) => r = (mo_comc S w 32) ∧ S1 = mo_com S w) := by
  refine zMi_of (cc := cX5_commits) (maxL := 4) (ret := (some .int)) (by decide) rfl (Nat.le_of_ble_eq_true rfl) ?_
  intro pg en s mm below meth cd hx hb hr hml hown hts hlk hF hR ls hl
  have hinX5 : ∀ w ∈ wsX50, w ∈ wsX5_commits := by decide +kernel
  have hl : lv_has ls 4 [(0, .ref (ad 0)), (1, .int (nI (w)))] := hl
  refine lv_iconst (v := (nI (0))) hx hb dX5_commits_0 (by decide) ?_
  refine lv_istore_n (lv' := [(2, .int (nI (0))), (0, .ref (ad 0)), (1, .int (nI (w)))]) hx hb dX5_commits_1 rfl hl (by decide) rfl (fun ls hl => ?_)
  refine lv_iconst (v := (nI (0))) hx hb dX5_commits_2 (by decide) ?_
  refine lv_istore_n (lv' := [(3, .int (nI (0))), (2, .int (nI (0))), (0, .ref (ad 0)), (1, .int (nI (w)))]) hx hb dX5_commits_3 rfl hl (by decide) rfl (fun ls hl => ?_)
  have loop4 : ∀ (nf4 : Nat) (k : Nat), (k ≤ 32) → 32 - k < nf4 → ∀ (H : Heap) (locs : List Loc), zR D B (wM cI cZ ad (mo_com1 S w k)) s H locs → ∀ ls : Array Slot, lv_has ls 4 [(0, .ref (ad 0)), (1, .int (nI (w))), (2, .int (mo_comc S w k)), (3, .int (nI (k)))] → W pg l en ({ frames := 2, cells := 0, slots := 0, locals := 42 } : Room) s mm ([.ref (ad 0), .int (nI (w))] : List Value).toArray below meth cd H locs 0 0 (MQ below (va_Qi (fun (r : Int32) (S1 : zS) => r = (mo_comc S w 32) ∧ S1 = mo_com S w) (zB D (zT cI cZ) (wM cI cZ ad)) (zA B s.heap.size)) ([.ref (ad 0), .int (nI (w))] : List Value).toArray s 0 0 (zA B s.heap.size)) (F0 mm 4 ls []) := by
    intro nf4
    induction nf4 with
    | zero => intro k hk4 hn; exact absurd hn (Nat.not_lt_zero _)
    | succ nf4 ih4 =>
      intro k hk4 hn H locs hR ls hl
      have hOk := zOK_com1 (w := w) hO k
      refine lv_iload_n hx hb dX5_commits_4 rfl (lv_at hl 3 rfl) ?_
      refine lv_bipush (v := (nI (32))) hx hb dX5_commits_5 (by decide) ?_
      refine z_ge_n (tgt := 64) hx hb dX5_commits_7 (by decide) (by omega) (by omega) (fun h7_1 => ?_) (fun h7_1 => ?_)
      · skip
        have hR : zR D B (wM cI cZ ad (mo_com1 S w 32)) s H locs := by rw [show (mo_com1 S w 32) = (mo_com1 S w k) from by rw [show (32 : Nat) = k from by omega]]; exact hR
        refine lv_aload_n hx hb dX5_commits_64 rfl (lv_at hl 0 rfl) ?_
        refine z_get (own := RX5) (C := RX5) (T := TX5) (N := 27) (k := 14) (v := .ref (ad 22)) hx hb hts hinX5 hown hF hR (wM_c0 (mo_com1 S w 32)) rfl (by decide) (by decide +kernel) rfl rfl dX5_commits_65 ?_
        refine lv_iload_n hx hb dX5_commits_68 rfl (lv_at hl 1 rfl) ?_
        refine lv_iconst (v := ((-1))) hx hb dX5_commits_69 (by decide) ?_
        refine z_iast_n (f := (mo_com1 S w 32) 21) hx hb hF (hG (mo_com1 S w 32)) hR (wM_c22 (mo_com1 S w 32)) zT_0 (wM_s21 (mo_com1 S w 32) (upd ((mo_com1 S w 32) 21) (w) ((-1)))) dX5_commits_70 (by decide) (by omega) (fun H locs hR => ?_)
        refine lv_iload_n hx hb dX5_commits_71 rfl (lv_at hl 2 rfl) ?_
        exact z_iret (w := wM cI cZ ad) (S1 := (zU (mo_com1 S w 32) 21 (upd ((mo_com1 S w 32) 21) (w) ((-1))))) hx hb hr hlk hF hR dX5_commits_72 (⟨by rw [show (32 : Nat) = k from by omega], rfl⟩)
      · skip
        refine lv_aload_n hx hb dX5_commits_10 rfl (lv_at hl 0 rfl) ?_
        refine lv_iload_n hx hb dX5_commits_11 rfl (lv_at hl 3 rfl) ?_
        refine z_callV_i (As := [.int (nI (k))]) (rest := []) (w := wM cI cZ ad) ⟨hx, hb, hml, hown, hts⟩ hF hR (c_X5_workerOfKey hG (mo_com1 S w k) k hOk (by omega)) (cwV 1 hts gX5_commits_X5_workerOfKey rfl rfl rfl (by decide +kernel) ⟨Nat.le_of_ble_eq_true rfl, Nat.le_of_ble_eq_true rfl⟩) (wM_c0 (mo_com1 S w k)) rfl rfl rfl hl rfl (Nat.le_of_ble_eq_true rfl) (by decide) dX5_commits_12 (fun r2 S2 H locs hp2 hR => ?_)
        obtain ⟨hr2, hs2⟩ := hp2
        subst r2
        subst S2
        have hb12 := (hOk.own k).2
        refine lv_iload_n hx hb dX5_commits_15 rfl (lv_at hl 1 rfl) ?_
        refine z_ne_n (tgt := 58) hx hb dX5_commits_16 (by decide) (by omega) (by omega) (fun h16_3 => ?_) (fun h16_3 => ?_)
        · skip
          have q16 := h16_3
          have hl : lv_has ls 4 [(0, .ref (ad 0)), (1, .int (nI (w))), (2, .int (mo_comc S w (k + 1))), (3, .int (nI (k)))] := (by rw [show mo_comc S w (k + 1) = if zown (zn (mo_com1 S w k) 22 0) k = w then mo_comc S w k + mo_com1 S w k 13 k else mo_comc S w k from rfl]; first | (rw [if_pos q16]; exact hl) | (rw [if_neg q16]; exact hl))
          refine lv_iinc (v := (nI (k + 1))) (lv' := [(3, .int (nI (k + 1))), (0, .ref (ad 0)), (1, .int (nI (w))), (2, .int (mo_comc S w (k + 1)))]) hx hb dX5_commits_58 hl (k := 3) rfl (z_inc _) (by decide) rfl (fun ls hl => ?_)
          refine lv_goto (tgt := 4) hx hb dX5_commits_61 (by decide) ?_
          exact ih4 (k + 1) (by omega) (by omega) _ _ (by rw [show mo_com1 S w (k + 1) = (mo_com1 S w k) from if_neg q16]; exact hR) ls (lv_sub hl [1, 2, 3, 0] rfl)
        · skip
          have q16 := h16_3
          refine lv_iload_n hx hb dX5_commits_19 rfl (lv_at hl 2 rfl) ?_
          refine lv_aload_n hx hb dX5_commits_20 rfl (lv_at hl 0 rfl) ?_
          refine z_get (own := RX5) (C := RX5) (T := TX5) (N := 27) (k := 12) (v := .ref (ad 14)) hx hb hts hinX5 hown hF hR (wM_c0 (mo_com1 S w k)) rfl (by decide) (by decide +kernel) rfl rfl dX5_commits_21 ?_
          refine lv_iload_n hx hb dX5_commits_24 rfl (lv_at hl 3 rfl) ?_
          refine z_iald_n (f := (mo_com1 S w k) 13) hx hb hF hR (wM_c14 (mo_com1 S w k)) zT_0 dX5_commits_25 (by decide) (by omega) ?_
          refine lv_iadd hx hb dX5_commits_26 ?_
          refine lv_istore_n (lv' := [(2, .int ((mo_comc S w k) + ((mo_com1 S w k) 13 (k)))), (0, .ref (ad 0)), (1, .int (nI (w))), (3, .int (nI (k)))]) hx hb dX5_commits_27 rfl hl (by decide) rfl (fun ls hl => ?_)
          refine lv_aload_n hx hb dX5_commits_28 rfl (lv_at hl 1 rfl) ?_
          refine z_get (own := RX5) (C := RX5) (T := TX5) (N := 27) (k := 15) (v := .ref (ad 20)) hx hb hts hinX5 hown hF hR (wM_c0 (mo_com1 S w k)) rfl (by decide) (by decide +kernel) rfl rfl dX5_commits_29 ?_
          refine lv_iload_n hx hb dX5_commits_32 rfl (lv_at hl 3 rfl) ?_
          refine lv_dup2_11 hx hb dX5_commits_33 rfl rfl ?_
          refine z_iald_n (f := (mo_com1 S w k) 19) hx hb hF hR (wM_c20 (mo_com1 S w k)) zT_0 dX5_commits_34 (by decide) (by omega) ?_
          refine lv_aload_n hx hb dX5_commits_35 rfl (lv_at hl 1 rfl) ?_
          refine z_get (own := RX5) (C := RX5) (T := TX5) (N := 27) (k := 12) (v := .ref (ad 14)) hx hb hts hinX5 hown hF hR (wM_c0 (mo_com1 S w k)) rfl (by decide) (by decide +kernel) rfl rfl dX5_commits_36 ?_
          refine lv_iload_n hx hb dX5_commits_39 rfl (lv_at hl 3 rfl) ?_
          refine z_iald_n (f := (mo_com1 S w k) 13) hx hb hF hR (wM_c14 (mo_com1 S w k)) zT_0 dX5_commits_40 (by decide) (by omega) ?_
          refine lv_iadd hx hb dX5_commits_41 ?_
          refine z_iast_n (f := (mo_com1 S w k) 19) hx hb hF (hG (mo_com1 S w k)) hR (wM_c20 (mo_com1 S w k)) zT_0 (wM_s19 (mo_com1 S w k) (upd ((mo_com1 S w k) 19) (k) (((mo_com1 S w k) 19 (k)) + ((mo_com1 S w k) 13 (k))))) dX5_commits_42 (by decide) (by omega) (fun H locs hR => ?_)
          refine lv_aload_n hx hb dX5_commits_43 rfl (lv_at hl 1 rfl) ?_
          refine z_get (own := RX5) (C := RX5) (T := TX5) (N := 27) (k := 16) (v := .ref (ad 21)) hx hb hts hinX5 hown hF hR (wM_c0 (zU (mo_com1 S w k) 19 (upd ((mo_com1 S w k) 19) (k) (((mo_com1 S w k) 19 (k)) + ((mo_com1 S w k) 13 (k)))))) rfl (by decide) (by decide +kernel) rfl rfl dX5_commits_44 ?_
          refine lv_iload_n hx hb dX5_commits_47 rfl (lv_at hl 3 rfl) ?_
          refine lv_dup2_11 hx hb dX5_commits_48 rfl rfl ?_
          refine z_iald_n (f := (mo_com1 S w k) 20) hx hb hF hR (wM_c21 (zU (mo_com1 S w k) 19 (upd ((mo_com1 S w k) 19) (k) (((mo_com1 S w k) 19 (k)) + ((mo_com1 S w k) 13 (k)))))) zT_0 dX5_commits_49 (by decide) (by omega) ?_
          refine lv_aload_n hx hb dX5_commits_50 rfl (lv_at hl 1 rfl) ?_
          refine z_get (own := RX5) (C := RX5) (T := TX5) (N := 27) (k := 13) (v := .ref (ad 15)) hx hb hts hinX5 hown hF hR (wM_c0 (zU (mo_com1 S w k) 19 (upd ((mo_com1 S w k) 19) (k) (((mo_com1 S w k) 19 (k)) + ((mo_com1 S w k) 13 (k)))))) rfl (by decide) (by decide +kernel) rfl rfl dX5_commits_51 ?_
          refine lv_iload_n hx hb dX5_commits_54 rfl (lv_at hl 3 rfl) ?_
          refine z_iald_n (f := (mo_com1 S w k) 14) hx hb hF hR (wM_c15 (zU (mo_com1 S w k) 19 (upd ((mo_com1 S w k) 19) (k) (((mo_com1 S w k) 19 (k)) + ((mo_com1 S w k) 13 (k)))))) zT_0 dX5_commits_55 (by decide) (by omega) ?_
          refine lv_iadd hx hb dX5_commits_56 ?_
          refine z_iast_n (f := (mo_com1 S w k) 20) hx hb hF (hG (zU (mo_com1 S w k) 19 (upd ((mo_com1 S w k) 19) (k) (((mo_com1 S w k) 19 (k)) + ((mo_com1 S w k) 13 (k)))))) hR (wM_c21 (zU (mo_com1 S w k) 19 (upd ((mo_com1 S w k) 19) (k) (((mo_com1 S w k) 19 (k)) + ((mo_com1 S w k) 13 (k)))))) zT_0 (wM_s20 (zU (mo_com1 S w k) 19 (upd ((mo_com1 S w k) 19) (k) (((mo_com1 S w k) 19 (k)) + ((mo_com1 S w k) 13 (k))))) (upd ((mo_com1 S w k) 20) (k) (((mo_com1 S w k) 20 (k)) + ((mo_com1 S w k) 14 (k))))) dX5_commits_57 (by decide) (by omega) (fun H locs hR => ?_)
          have hl : lv_has ls 4 [(2, .int (mo_comc S w (k + 1))), (0, .ref (ad 0)), (1, .int (nI (w))), (3, .int (nI (k)))] := (by rw [show mo_comc S w (k + 1) = if zown (zn (mo_com1 S w k) 22 0) k = w then mo_comc S w k + mo_com1 S w k 13 k else mo_comc S w k from rfl]; first | (rw [if_pos q16]; exact hl) | (rw [if_neg q16]; exact hl))
          refine lv_iinc (v := (nI (k + 1))) (lv' := [(3, .int (nI (k + 1))), (2, .int (mo_comc S w (k + 1))), (0, .ref (ad 0)), (1, .int (nI (w)))]) hx hb dX5_commits_58 hl (k := 3) rfl (z_inc _) (by decide) rfl (fun ls hl => ?_)
          refine lv_goto (tgt := 4) hx hb dX5_commits_61 (by decide) ?_
          exact ih4 (k + 1) (by omega) (by omega) _ _ (by rw [show mo_com1 S w (k + 1) = (zU (zU (mo_com1 S w k) 19 (upd ((mo_com1 S w k) 19) (k) (((mo_com1 S w k) 19 (k)) + ((mo_com1 S w k) 13 (k))))) 20 (upd ((mo_com1 S w k) 20) (k) (((mo_com1 S w k) 20 (k)) + ((mo_com1 S w k) 14 (k))))) from if_pos q16]; exact hR) ls (lv_sub hl [2, 3, 1, 0] rfl)
  exact loop4 _ 0 (by omega) (Nat.lt_succ_self _) _ _ (by rw [show mo_com1 S w 0 = S from rfl]; exact hR) ls (lv_sub hl [2, 3, 1, 0] rfl)
set_option maxHeartbeats 4000000 in
set_option maxRecDepth 100000 in
theorem c_X5_startsAgain {l : Launch} {D : va_G} {cI cZ : ClassId} {ad : Nat → Nat} {B : Nat → Prop} (hG : ∀ S : zS, va_D B (wM cI cZ ad S)) (S : zS) (v : Nat) (hO : zOK S) (hv : 1 ≤ v) (hv4 : v ≤ 4) : zMv l yX5_startsAgain wsX5_startsAgain ({ frames := 3, cells := 0, slots := 0, locals := 65 } : Room) [.ref (ad 0), .int (nI (v))] D (zT cI cZ) B (wM cI cZ ad) S (fun (S1 : zS) => S1 = mo_sa S v) := by
  refine zMv_of (cc := cX5_startsAgain) (maxL := 3) (ret := none) (by decide) rfl (Nat.le_of_ble_eq_true rfl) ?_
  intro pg en s mm below meth cd hx hb hr hml hown hts hlk hF hR ls hl
  have hinX5 : ∀ w ∈ wsX50, w ∈ wsX5_startsAgain := by decide +kernel
  have hl : lv_has ls 3 [(0, .ref (ad 0)), (1, .int (nI (v)))] := hl
  have hW1 := (zOK.w hO).2.1
  have hW4 := (zOK.w hO).2.2
  refine lv_iconst (v := (nI (0))) hx hb dX5_startsAgain_0 (by decide) ?_
  refine lv_istore_n (lv' := [(2, .int (nI (0))), (0, .ref (ad 0)), (1, .int (nI (v)))]) hx hb dX5_startsAgain_1 rfl hl (by decide) rfl (fun ls hl => ?_)
  have loop2 : ∀ (nf2 : Nat) (k : Nat), (k ≤ zn S 22 0) → zn S 22 0 - k < nf2 → ∀ (H : Heap) (locs : List Loc), zR D B (wM cI cZ ad (mo_sa1 S k)) s H locs → ∀ ls : Array Slot, lv_has ls 3 [(0, .ref (ad 0)), (1, .int (nI (v))), (2, .int (nI (k)))] → W pg l en ({ frames := 3, cells := 0, slots := 0, locals := 65 } : Room) s mm ([.ref (ad 0), .int (nI (v))] : List Value).toArray below meth cd H locs 0 0 (MQ below (va_Qv (fun (S1 : zS) => S1 = mo_sa S v) (zB D (zT cI cZ) (wM cI cZ ad)) (zA B s.heap.size)) ([.ref (ad 0), .int (nI (v))] : List Value).toArray s 0 0 (zA B s.heap.size)) (F0 mm 2 ls []) := by
    intro nf2
    induction nf2 with
    | zero => intro k hk4 hn; exact absurd hn (Nat.not_lt_zero _)
    | succ nf2 ih2 =>
      intro k hk4 hn H locs hR ls hl
      have hOk := zOK_msa1 hO k
      refine lv_iload_n hx hb dX5_startsAgain_2 rfl (lv_at hl 2 rfl) ?_
      refine lv_aload_n hx hb dX5_startsAgain_3 rfl (lv_at hl 0 rfl) ?_
      refine z_get (own := RX5) (C := RX5) (T := TX5) (N := 27) (k := 1) (v := .int ((mo_sa1 S k) 22 0)) hx hb hts hinX5 hown hF hR (wM_c0 (mo_sa1 S k)) rfl (by decide) (by decide +kernel) rfl rfl dX5_startsAgain_4 ?_
      refine lv_topi (fun v1 ev1 => ?_)
      obtain rfl : v1 = (nI (zn S 22 0)) := ev1.trans ((zOK.w hOk).1.trans (congrArg nI (zn_msa1 S k)))
      refine z_ge_n (tgt := 30) hx hb dX5_startsAgain_7 (by decide) (by omega) (by omega) (fun h7_2 => ?_) (fun h7_2 => ?_)
      · skip
        have hO3 := zOK_msa1 hO (zn S 22 0)
        have hR : zR D B (wM cI cZ ad (mo_sa1 S (zn S 22 0))) s H locs := by rw [show (mo_sa1 S (zn S 22 0)) = (mo_sa1 S k) from by rw [show zn S 22 0 = k from by omega]]; exact hR
        refine lv_aload_n hx hb dX5_startsAgain_30 rfl (lv_at hl 0 rfl) ?_
        refine z_callV_v (As := []) (rest := []) (w := wM cI cZ ad) ⟨hx, hb, hml, hown, hts⟩ hF hR (c_X5_unseals hG (mo_sa1 S (zn S 22 0)) ) (cwV 0 hts gX5_startsAgain_X5_unseals rfl rfl rfl (by decide +kernel) ⟨Nat.le_of_ble_eq_true rfl, Nat.le_of_ble_eq_true rfl⟩) (wM_c0 (mo_sa1 S (zn S 22 0))) rfl rfl rfl hl rfl (Nat.le_of_ble_eq_true rfl) (by decide) dX5_startsAgain_31 (fun S3 H locs hp3 hR => ?_)
        subst S3
        have hO3 := (zOK_uns hO3)
        refine lv_aload_n hx hb dX5_startsAgain_34 rfl (lv_at hl 0 rfl) ?_
        refine z_callV_v (As := []) (rest := []) (w := wM cI cZ ad) ⟨hx, hb, hml, hown, hts⟩ hF hR (c_X5_lifts hG (mo_uns (mo_sa1 S (zn S 22 0))) ) (cwV 0 hts gX5_startsAgain_X5_lifts rfl rfl rfl (by decide +kernel) ⟨Nat.le_of_ble_eq_true rfl, Nat.le_of_ble_eq_true rfl⟩) (wM_c0 (mo_uns (mo_sa1 S (zn S 22 0)))) rfl rfl rfl hl rfl (Nat.le_of_ble_eq_true rfl) (by decide) dX5_startsAgain_35 (fun S4 H locs hp4 hR => ?_)
        subst S4
        have hO4 := (zOK_lift hO3)
        refine lv_aload_n hx hb dX5_startsAgain_38 rfl (lv_at hl 0 rfl) ?_
        refine lv_iconst (v := ((-1))) hx hb dX5_startsAgain_39 (by decide) ?_
        refine z_put (own := RX5) (C := RX5) (T := TX5) (N := 27) (k := 18) (ty := .int) hx hb hts hinX5 tyX5 tyX5_ok nmX5 hown hF (hG (mo_lift (mo_uns (mo_sa1 S (zn S 22 0))))) hR (wM_c0 (mo_lift (mo_uns (mo_sa1 S (zn S 22 0))))) rfl (by decide) (by decide +kernel) rfl rfl (by decide +kernel) rfl rfl (Nat.le_of_ble_eq_true rfl) (wM_p2 (mo_lift (mo_uns (mo_sa1 S (zn S 22 0)))) ((-1))) dX5_startsAgain_40 (fun H locs hR => ?_)
        refine lv_aload_n hx hb dX5_startsAgain_43 rfl (lv_at hl 0 rfl) ?_
        refine lv_iload_n hx hb dX5_startsAgain_44 rfl (lv_at hl 1 rfl) ?_
        refine z_put (own := RX5) (C := RX5) (T := TX5) (N := 27) (k := 1) (ty := .int) hx hb hts hinX5 tyX5 tyX5_ok nmX5 hown hF (hG (zU (mo_lift (mo_uns (mo_sa1 S (zn S 22 0)))) 22 (upd ((mo_lift (mo_uns (mo_sa1 S (zn S 22 0)))) 22) 2 ((-1))))) hR (wM_c0 (zU (mo_lift (mo_uns (mo_sa1 S (zn S 22 0)))) 22 (upd ((mo_lift (mo_uns (mo_sa1 S (zn S 22 0)))) 22) 2 ((-1))))) rfl (by decide) (by decide +kernel) rfl rfl (by decide +kernel) rfl rfl (Nat.le_of_ble_eq_true rfl) (wM_p0 (zU (mo_lift (mo_uns (mo_sa1 S (zn S 22 0)))) 22 (upd ((mo_lift (mo_uns (mo_sa1 S (zn S 22 0)))) 22) 2 ((-1)))) (nI (v))) dX5_startsAgain_45 (fun H locs hR => ?_)
        have hR : zR D B (wM cI cZ ad (zU (mo_lift (mo_uns (mo_sa1 S (zn S 22 0)))) 22 (upd ((upd ((mo_lift (mo_uns (mo_sa1 S (zn S 22 0)))) 22) 2 ((-1)))) 0 (nI (v))))) s H locs := by rw [show (zU (mo_lift (mo_uns (mo_sa1 S (zn S 22 0)))) 22 (upd ((upd ((mo_lift (mo_uns (mo_sa1 S (zn S 22 0)))) 22) 2 ((-1)))) 0 (nI (v)))) = zU (zU (mo_lift (mo_uns (mo_sa1 S (zn S 22 0)))) 22 (upd ((mo_lift (mo_uns (mo_sa1 S (zn S 22 0)))) 22) 2 ((-1)))) 22 (upd ((upd ((mo_lift (mo_uns (mo_sa1 S (zn S 22 0)))) 22) 2 ((-1)))) 0 (nI (v))) from (zU_U _ _ _ _).symm]; exact hR
        have hO4 := zOK_msa2 (zOK_lift (zOK_uns hO3)) hv hv4
        have hR : zR D B (wM cI cZ ad (mo_sa2 (mo_lift (mo_uns (mo_sa1 S (zn S 22 0)))) v)) s H locs := by rw [show (mo_sa2 (mo_lift (mo_uns (mo_sa1 S (zn S 22 0)))) v) = (zU (mo_lift (mo_uns (mo_sa1 S (zn S 22 0)))) 22 (upd ((upd ((mo_lift (mo_uns (mo_sa1 S (zn S 22 0)))) 22) 2 ((-1)))) 0 (nI (v)))) from rfl]; exact hR
        refine lv_aload_n hx hb dX5_startsAgain_48 rfl (lv_at hl 0 rfl) ?_
        refine z_get (own := RX5) (C := RX5) (T := TX5) (N := 27) (k := 6) (v := .ref (ad 8)) hx hb hts hinX5 hown hF hR (wM_c0 (mo_sa2 (mo_lift (mo_uns (mo_sa1 S (zn S 22 0)))) v)) rfl (by decide) (by decide +kernel) rfl rfl dX5_startsAgain_49 ?_
        refine z_callS_v (As := [.ref (ad 8)]) (rest := []) (w := wM cI cZ ad) ⟨hx, hb, hml, hown, hts⟩ hF hR (c_X5_clears_7 hG (mo_sa2 (mo_lift (mo_uns (mo_sa1 S (zn S 22 0)))) v) ) (va_cwS 1 hts gX5_startsAgain_X5_clears rfl rfl rfl (by decide +kernel) ⟨Nat.le_of_ble_eq_true rfl, Nat.le_of_ble_eq_true rfl⟩) rfl hl rfl (Nat.le_of_ble_eq_true rfl) (by decide) dX5_startsAgain_52 (fun S5 H locs hp5 hR => ?_)
        subst S5
        have hO5 := ((show zOK (mo_clr (mo_sa2 (mo_lift (mo_uns (mo_sa1 S (zn S 22 0)))) v) 7 16) from zOK_7 hO4 (zNb_z (by omega) hO4.2.2.2.2.2.2.2.1 16)))
        refine lv_aload_n hx hb dX5_startsAgain_55 rfl (lv_at hl 0 rfl) ?_
        refine z_get (own := RX5) (C := RX5) (T := TX5) (N := 27) (k := 10) (v := .ref (ad 12)) hx hb hts hinX5 hown hF hR (wM_c0 (mo_clr (mo_sa2 (mo_lift (mo_uns (mo_sa1 S (zn S 22 0)))) v) 7 16)) rfl (by decide) (by decide +kernel) rfl rfl dX5_startsAgain_56 ?_
        refine z_callS_v (As := [.ref (ad 12)]) (rest := []) (w := wM cI cZ ad) ⟨hx, hb, hml, hown, hts⟩ hF hR (c_X5_clears_11 hG (mo_clr (mo_sa2 (mo_lift (mo_uns (mo_sa1 S (zn S 22 0)))) v) 7 16) ) (va_cwS 1 hts gX5_startsAgain_X5_clears rfl rfl rfl (by decide +kernel) ⟨Nat.le_of_ble_eq_true rfl, Nat.le_of_ble_eq_true rfl⟩) rfl hl rfl (Nat.le_of_ble_eq_true rfl) (by decide) dX5_startsAgain_59 (fun S6 H locs hp6 hR => ?_)
        subst S6
        have hO6 := ((show zOK (mo_clr (mo_clr (mo_sa2 (mo_lift (mo_uns (mo_sa1 S (zn S 22 0)))) v) 7 16) 11 32) from zOK_o hO5 (by decide) (by decide)))
        refine lv_aload_n hx hb dX5_startsAgain_62 rfl (lv_at hl 0 rfl) ?_
        refine z_get (own := RX5) (C := RX5) (T := TX5) (N := 27) (k := 11) (v := .ref (ad 13)) hx hb hts hinX5 hown hF hR (wM_c0 (mo_clr (mo_clr (mo_sa2 (mo_lift (mo_uns (mo_sa1 S (zn S 22 0)))) v) 7 16) 11 32)) rfl (by decide) (by decide +kernel) rfl rfl dX5_startsAgain_63 ?_
        refine z_callS_v (As := [.ref (ad 13)]) (rest := []) (w := wM cI cZ ad) ⟨hx, hb, hml, hown, hts⟩ hF hR (c_X5_clears_12 hG (mo_clr (mo_clr (mo_sa2 (mo_lift (mo_uns (mo_sa1 S (zn S 22 0)))) v) 7 16) 11 32) ) (va_cwS 1 hts gX5_startsAgain_X5_clears rfl rfl rfl (by decide +kernel) ⟨Nat.le_of_ble_eq_true rfl, Nat.le_of_ble_eq_true rfl⟩) rfl hl rfl (Nat.le_of_ble_eq_true rfl) (by decide) dX5_startsAgain_66 (fun S7 H locs hp7 hR => ?_)
        subst S7
        have hO7 := ((show zOK (mo_clr (mo_clr (mo_clr (mo_sa2 (mo_lift (mo_uns (mo_sa1 S (zn S 22 0)))) v) 7 16) 11 32) 12 32) from zOK_o hO6 (by decide) (by decide)))
        refine lv_aload_n hx hb dX5_startsAgain_69 rfl (lv_at hl 0 rfl) ?_
        refine z_get (own := RX5) (C := RX5) (T := TX5) (N := 27) (k := 24) (v := .ref (ad 4)) hx hb hts hinX5 hown hF hR (wM_c0 (mo_clr (mo_clr (mo_clr (mo_sa2 (mo_lift (mo_uns (mo_sa1 S (zn S 22 0)))) v) 7 16) 11 32) 12 32)) rfl (by decide) (by decide +kernel) rfl rfl dX5_startsAgain_70 ?_
        refine lv_aload_n hx hb dX5_startsAgain_73 rfl (lv_at hl 0 rfl) ?_
        refine z_get (own := RX5) (C := RX5) (T := TX5) (N := 27) (k := 3) (v := .ref (ad 3)) hx hb hts hinX5 hown hF hR (wM_c0 (mo_clr (mo_clr (mo_clr (mo_sa2 (mo_lift (mo_uns (mo_sa1 S (zn S 22 0)))) v) 7 16) 11 32) 12 32)) rfl (by decide) (by decide +kernel) rfl rfl dX5_startsAgain_74 ?_
        refine z_callS_v (As := [.ref (ad 4), .ref (ad 3)]) (rest := []) (w := wM cI cZ ad) ⟨hx, hb, hml, hown, hts⟩ hF hR (c_X5_copies_3_2 hG (mo_clr (mo_clr (mo_clr (mo_sa2 (mo_lift (mo_uns (mo_sa1 S (zn S 22 0)))) v) 7 16) 11 32) 12 32) ) (va_cwS 2 hts gX5_startsAgain_X5_copies rfl rfl rfl (by decide +kernel) ⟨Nat.le_of_ble_eq_true rfl, Nat.le_of_ble_eq_true rfl⟩) rfl hl rfl (Nat.le_of_ble_eq_true rfl) (by decide) dX5_startsAgain_77 (fun S8 H locs hp8 hR => ?_)
        subst S8
        have hO8 := ((show zOK (mo_cpy (mo_clr (mo_clr (mo_clr (mo_sa2 (mo_lift (mo_uns (mo_sa1 S (zn S 22 0)))) v) 7 16) 11 32) 12 32) 2 3 4) from zOK_2 hO7 (zNb_cp (by omega) hO7.2.2.1 hO7.2.2.2.1 4)))
        refine lv_aload_n hx hb dX5_startsAgain_80 rfl (lv_at hl 0 rfl) ?_
        refine z_get (own := RX5) (C := RX5) (T := TX5) (N := 27) (k := 25) (v := .ref (ad 18)) hx hb hts hinX5 hown hF hR (wM_c0 (mo_cpy (mo_clr (mo_clr (mo_clr (mo_sa2 (mo_lift (mo_uns (mo_sa1 S (zn S 22 0)))) v) 7 16) 11 32) 12 32) 2 3 4)) rfl (by decide) (by decide +kernel) rfl rfl dX5_startsAgain_81 ?_
        refine lv_aload_n hx hb dX5_startsAgain_84 rfl (lv_at hl 0 rfl) ?_
        refine z_get (own := RX5) (C := RX5) (T := TX5) (N := 27) (k := 8) (v := .ref (ad 10)) hx hb hts hinX5 hown hF hR (wM_c0 (mo_cpy (mo_clr (mo_clr (mo_clr (mo_sa2 (mo_lift (mo_uns (mo_sa1 S (zn S 22 0)))) v) 7 16) 11 32) 12 32) 2 3 4)) rfl (by decide) (by decide +kernel) rfl rfl dX5_startsAgain_85 ?_
        refine z_callS_v (As := [.ref (ad 18), .ref (ad 10)]) (rest := []) (w := wM cI cZ ad) ⟨hx, hb, hml, hown, hts⟩ hF hR (c_X5_copies_17_9 hG (mo_cpy (mo_clr (mo_clr (mo_clr (mo_sa2 (mo_lift (mo_uns (mo_sa1 S (zn S 22 0)))) v) 7 16) 11 32) 12 32) 2 3 4) ) (va_cwS 2 hts gX5_startsAgain_X5_copies rfl rfl rfl (by decide +kernel) ⟨Nat.le_of_ble_eq_true rfl, Nat.le_of_ble_eq_true rfl⟩) rfl hl rfl (Nat.le_of_ble_eq_true rfl) (by decide) dX5_startsAgain_88 (fun S9 H locs hp9 hR => ?_)
        subst S9
        have hO9 := ((show zOK (mo_cpy (mo_cpy (mo_clr (mo_clr (mo_clr (mo_sa2 (mo_lift (mo_uns (mo_sa1 S (zn S 22 0)))) v) 7 16) 11 32) 12 32) 2 3 4) 9 17 32) from zOK_o hO8 (by decide) (by decide)))
        refine lv_aload_n hx hb dX5_startsAgain_91 rfl (lv_at hl 0 rfl) ?_
        refine z_get (own := RX5) (C := RX5) (T := TX5) (N := 27) (k := 26) (v := .ref (ad 19)) hx hb hts hinX5 hown hF hR (wM_c0 (mo_cpy (mo_cpy (mo_clr (mo_clr (mo_clr (mo_sa2 (mo_lift (mo_uns (mo_sa1 S (zn S 22 0)))) v) 7 16) 11 32) 12 32) 2 3 4) 9 17 32)) rfl (by decide) (by decide +kernel) rfl rfl dX5_startsAgain_92 ?_
        refine lv_aload_n hx hb dX5_startsAgain_95 rfl (lv_at hl 0 rfl) ?_
        refine z_get (own := RX5) (C := RX5) (T := TX5) (N := 27) (k := 9) (v := .ref (ad 11)) hx hb hts hinX5 hown hF hR (wM_c0 (mo_cpy (mo_cpy (mo_clr (mo_clr (mo_clr (mo_sa2 (mo_lift (mo_uns (mo_sa1 S (zn S 22 0)))) v) 7 16) 11 32) 12 32) 2 3 4) 9 17 32)) rfl (by decide) (by decide +kernel) rfl rfl dX5_startsAgain_96 ?_
        refine z_callS_v (As := [.ref (ad 19), .ref (ad 11)]) (rest := []) (w := wM cI cZ ad) ⟨hx, hb, hml, hown, hts⟩ hF hR (c_X5_copies_18_10 hG (mo_cpy (mo_cpy (mo_clr (mo_clr (mo_clr (mo_sa2 (mo_lift (mo_uns (mo_sa1 S (zn S 22 0)))) v) 7 16) 11 32) 12 32) 2 3 4) 9 17 32) ) (va_cwS 2 hts gX5_startsAgain_X5_copies rfl rfl rfl (by decide +kernel) ⟨Nat.le_of_ble_eq_true rfl, Nat.le_of_ble_eq_true rfl⟩) rfl hl rfl (Nat.le_of_ble_eq_true rfl) (by decide) dX5_startsAgain_99 (fun S10 H locs hp10 hR => ?_)
        subst S10
        have hO10 := ((show zOK (mo_cpy (mo_cpy (mo_cpy (mo_clr (mo_clr (mo_clr (mo_sa2 (mo_lift (mo_uns (mo_sa1 S (zn S 22 0)))) v) 7 16) 11 32) 12 32) 2 3 4) 9 17 32) 10 18 32) from zOK_o hO9 (by decide) (by decide)))
        exact z_vret (w := wM cI cZ ad) (S1 := (mo_cpy (mo_cpy (mo_cpy (mo_clr (mo_clr (mo_clr (mo_sa2 (mo_lift (mo_uns (mo_sa1 S (zn S 22 0)))) v) 7 16) 11 32) 12 32) 2 3 4) 9 17 32) 10 18 32)) hx hb hr hlk hF hR dX5_startsAgain_102 (rfl)
      · skip
        refine lv_aload_n hx hb dX5_startsAgain_10 rfl (lv_at hl 0 rfl) ?_
        refine lv_iload_n hx hb dX5_startsAgain_11 rfl (lv_at hl 2 rfl) ?_
        refine z_callV_i (As := [.int (nI (k))]) (rest := []) (w := wM cI cZ ad) ⟨hx, hb, hml, hown, hts⟩ hF hR (c_X5_mayCommit hG (mo_sa1 S k) k (by omega)) (cwV 1 hts gX5_startsAgain_X5_mayCommit rfl rfl rfl (by decide +kernel) ⟨Nat.le_of_ble_eq_true rfl, Nat.le_of_ble_eq_true rfl⟩) (wM_c0 (mo_sa1 S k)) rfl rfl rfl hl rfl (Nat.le_of_ble_eq_true rfl) (by decide) dX5_startsAgain_12 (fun r11 S11 H locs hp11 hR => ?_)
        obtain ⟨hp11, hs11⟩ := hp11
        subst S11
        rcases hp11 with ⟨hb12, hr11⟩ | ⟨hb12, hr11⟩
        · subst r11
          refine z_if_eq_n (tgt := 24) hx hb dX5_startsAgain_15 (by decide) (by omega) (fun h15_12 => by omega) (fun h15_12 => ?_)
          refine lv_aload_n hx hb dX5_startsAgain_18 rfl (lv_at hl 0 rfl) ?_
          refine lv_iload_n hx hb dX5_startsAgain_19 rfl (lv_at hl 2 rfl) ?_
          refine z_callV_i (As := [.int (nI (k))]) (rest := []) (w := wM cI cZ ad) ⟨hx, hb, hml, hown, hts⟩ hF hR (c_X5_commits hG (mo_sa1 S k) k hOk (by omega)) (cwV 1 hts gX5_startsAgain_X5_commits rfl rfl rfl (by decide +kernel) ⟨Nat.le_of_ble_eq_true rfl, Nat.le_of_ble_eq_true rfl⟩) (wM_c0 (mo_sa1 S k)) rfl rfl rfl hl rfl (Nat.le_of_ble_eq_true rfl) (by decide) dX5_startsAgain_20 (fun r13 S13 H locs hp13 hR => ?_)
          obtain ⟨hr13, hs13⟩ := hp13
          subst r13
          subst S13
          have hOk2 := zOK_mcom (w := k) hOk
          refine lv_pop hx hb dX5_startsAgain_23 rfl ?_
          refine lv_iinc (v := (nI (k + 1))) (lv' := [(2, .int (nI (k + 1))), (0, .ref (ad 0)), (1, .int (nI (v)))]) hx hb dX5_startsAgain_24 hl (k := 2) rfl (z_inc _) (by decide) rfl (fun ls hl => ?_)
          refine lv_goto (tgt := 2) hx hb dX5_startsAgain_27 (by decide) ?_
          exact ih2 (k + 1) (by omega) (by omega) _ _ (by rw [show mo_sa1 S (k + 1) = (mo_com (mo_sa1 S k) k) from if_pos hb12]; exact hR) ls (lv_sub hl [1, 2, 0] rfl)
        · subst r11
          refine z_if_eq_n (tgt := 24) hx hb dX5_startsAgain_15 (by decide) (by omega) (fun h15_14 => ?_) (fun h15_14 => by omega)
          refine lv_iinc (v := (nI (k + 1))) (lv' := [(2, .int (nI (k + 1))), (0, .ref (ad 0)), (1, .int (nI (v)))]) hx hb dX5_startsAgain_24 hl (k := 2) rfl (z_inc _) (by decide) rfl (fun ls hl => ?_)
          refine lv_goto (tgt := 2) hx hb dX5_startsAgain_27 (by decide) ?_
          exact ih2 (k + 1) (by omega) (by omega) _ _ (by rw [show mo_sa1 S (k + 1) = (mo_sa1 S k) from if_neg hb12]; exact hR) ls (lv_sub hl [1, 2, 0] rfl)
  exact loop2 _ 0 (by omega) (Nat.lt_succ_self _) _ _ (by rw [show mo_sa1 S 0 = S from rfl]; exact hR) ls (lv_sub hl [1, 2, 0] rfl)
set_option maxHeartbeats 4000000 in
set_option maxRecDepth 100000 in
theorem c_X5_ofKey_e9 {l : Launch} {D : va_G} {cI cZ : ClassId} {ad : Nat → Nat} {B : Nat → Prop} (hG : ∀ S : zS, va_D B (wM cI cZ ad S)) (S : zS) (x : Int32) (hO : zOK S) (hxb : zbad x 32) : zMi l yX5_ofKey wsX5_ofKey ({ frames := 2, cells := 0, slots := 0, locals := 42 } : Room) [.ref (ad 0), .ref (ad 10), .int (x)] D (zT cI cZ) B (wM cI cZ ad) S (fun (r : Int32) (S1 : zS) => r = (nI (0)) ∧ S1 = zth S 1) := by
  refine zMi_of (cc := cX5_ofKey) (maxL := 3) (ret := (some .int)) (by decide) rfl (Nat.le_of_ble_eq_true rfl) ?_
  intro pg en s mm below meth cd hx hb hr hml hown hts hlk hF hR ls hl
  have hl : lv_has ls 3 [(0, .ref (ad 0)), (1, .ref (ad 10)), (2, .int (x))] := hl
  refine lv_aload_n hx hb dX5_ofKey_0 rfl (lv_at hl 0 rfl) ?_
  refine lv_iload_n hx hb dX5_ofKey_1 rfl (lv_at hl 2 rfl) ?_
  refine z_callS_i (As := [.int (x)]) (rest := [.ref (ad 0)]) (w := wM cI cZ ad) ⟨hx, hb, hml, hown, hts⟩ hF hR (c_X5_isKey_bad hG S ((x)) hxb) (va_cwS 1 hts gX5_ofKey_X5_isKey rfl rfl rfl (by decide +kernel) ⟨Nat.le_of_ble_eq_true rfl, Nat.le_of_ble_eq_true rfl⟩) rfl hl rfl (Nat.le_of_ble_eq_true rfl) (by decide) dX5_ofKey_2 (fun r1 S1 H locs hp1 hR => ?_)
  obtain ⟨hr1, hs1⟩ := hp1
  subst r1
  subst S1
  refine z_if_eq_n (tgt := 12) hx hb dX5_ofKey_5 (by decide) (by omega) (fun h5_2 => ?_) (fun h5_2 => by omega)
  refine lv_iconst (v := (nI (1))) hx hb dX5_ofKey_12 (by decide) ?_
  refine z_callV_i (As := [.int (nI (1))]) (rest := []) (w := wM cI cZ ad) ⟨hx, hb, hml, hown, hts⟩ hF hR (c_X5_holds_nz hG S 1 (by decide) (by decide)) (cwV 1 hts gX5_ofKey_X5_holds rfl rfl rfl (by decide +kernel) ⟨Nat.le_of_ble_eq_true rfl, Nat.le_of_ble_eq_true rfl⟩) (wM_c0 S) rfl rfl rfl hl rfl (Nat.le_of_ble_eq_true rfl) (by decide) dX5_ofKey_13 (fun r3 S3 H locs hp3 hR => ?_)
  obtain ⟨hr3, hs3⟩ := hp3
  subst r3
  subst S3
  have hO3 := (zOK_th (i := 1) hO)
  refine z_if_eq_n (tgt := 25) hx hb dX5_ofKey_16 (by decide) (by omega) (fun h16_4 => ?_) (fun h16_4 => by omega)
  refine lv_iconst (v := (nI (0))) hx hb dX5_ofKey_25 (by decide) ?_
  exact z_iret (w := wM cI cZ ad) (S1 := (zth S 1)) hx hb hr hlk hF hR dX5_ofKey_26 (⟨rfl, rfl⟩)
set_option maxHeartbeats 4000000 in
set_option maxRecDepth 100000 in
theorem c_X5_ofKey_k9 {l : Launch} {D : va_G} {cI cZ : ClassId} {ad : Nat → Nat} {B : Nat → Prop} (hG : ∀ S : zS, va_D B (wM cI cZ ad S)) (S : zS) (key : Nat) (hO : zOK S) (hk : key < 32) : zMi l yX5_ofKey wsX5_ofKey ({ frames := 2, cells := 0, slots := 0, locals := 42 } : Room) [.ref (ad 0), .ref (ad 10), .int (nI (key))] D (zT cI cZ) B (wM cI cZ ad) S (fun (r : Int32) (S1 : zS) => r = ((zth S 0) 9 key) ∧ S1 = zth S 0) := by
  refine zMi_of (cc := cX5_ofKey) (maxL := 3) (ret := (some .int)) (by decide) rfl (Nat.le_of_ble_eq_true rfl) ?_
  intro pg en s mm below meth cd hx hb hr hml hown hts hlk hF hR ls hl
  have hl : lv_has ls 3 [(0, .ref (ad 0)), (1, .ref (ad 10)), (2, .int (nI (key)))] := hl
  refine lv_aload_n hx hb dX5_ofKey_0 rfl (lv_at hl 0 rfl) ?_
  refine lv_iload_n hx hb dX5_ofKey_1 rfl (lv_at hl 2 rfl) ?_
  refine z_callS_i (As := [.int (nI (key))]) (rest := [.ref (ad 0)]) (w := wM cI cZ ad) ⟨hx, hb, hml, hown, hts⟩ hF hR (c_X5_isKey_ok hG S key (by omega)) (va_cwS 1 hts gX5_ofKey_X5_isKey rfl rfl rfl (by decide +kernel) ⟨Nat.le_of_ble_eq_true rfl, Nat.le_of_ble_eq_true rfl⟩) rfl hl rfl (Nat.le_of_ble_eq_true rfl) (by decide) dX5_ofKey_2 (fun r1 S1 H locs hp1 hR => ?_)
  obtain ⟨hr1, hs1⟩ := hp1
  subst r1
  subst S1
  refine z_if_eq_n (tgt := 12) hx hb dX5_ofKey_5 (by decide) (by omega) (fun h5_2 => by omega) (fun h5_2 => ?_)
  refine lv_iconst (v := (nI (0))) hx hb dX5_ofKey_8 (by decide) ?_
  refine lv_goto (tgt := 13) hx hb dX5_ofKey_9 (by decide) ?_
  refine z_callV_i (As := [.int (nI (0))]) (rest := []) (w := wM cI cZ ad) ⟨hx, hb, hml, hown, hts⟩ hF hR (c_X5_holds_z hG S ) (cwV 1 hts gX5_ofKey_X5_holds rfl rfl rfl (by decide +kernel) ⟨Nat.le_of_ble_eq_true rfl, Nat.le_of_ble_eq_true rfl⟩) (wM_c0 S) rfl rfl rfl hl rfl (Nat.le_of_ble_eq_true rfl) (by decide) dX5_ofKey_13 (fun r3 S3 H locs hp3 hR => ?_)
  obtain ⟨hr3, hs3⟩ := hp3
  subst r3
  subst S3
  have hO3 := (zOK_th (i := 0) hO)
  refine z_if_eq_n (tgt := 25) hx hb dX5_ofKey_16 (by decide) (by omega) (fun h16_4 => by omega) (fun h16_4 => ?_)
  refine lv_aload_n hx hb dX5_ofKey_19 rfl (lv_at hl 1 rfl) ?_
  refine lv_iload_n hx hb dX5_ofKey_20 rfl (lv_at hl 2 rfl) ?_
  refine z_iald_n (f := (zth S 0) 9) hx hb hF hR (wM_c10 (zth S 0)) zT_0 dX5_ofKey_21 (by decide) (by omega) ?_
  refine lv_goto (tgt := 26) hx hb dX5_ofKey_22 (by decide) ?_
  exact z_iret (w := wM cI cZ ad) (S1 := (zth S 0)) hx hb hr hlk hF hR dX5_ofKey_26 (⟨rfl, rfl⟩)
set_option maxHeartbeats 4000000 in
set_option maxRecDepth 100000 in
theorem c_X5_ofKey_e10 {l : Launch} {D : va_G} {cI cZ : ClassId} {ad : Nat → Nat} {B : Nat → Prop} (hG : ∀ S : zS, va_D B (wM cI cZ ad S)) (S : zS) (x : Int32) (hO : zOK S) (hxb : zbad x 32) : zMi l yX5_ofKey wsX5_ofKey ({ frames := 2, cells := 0, slots := 0, locals := 42 } : Room) [.ref (ad 0), .ref (ad 11), .int (x)] D (zT cI cZ) B (wM cI cZ ad) S (fun (r : Int32) (S1 : zS) => r = (nI (0)) ∧ S1 = zth S 1) := by
  refine zMi_of (cc := cX5_ofKey) (maxL := 3) (ret := (some .int)) (by decide) rfl (Nat.le_of_ble_eq_true rfl) ?_
  intro pg en s mm below meth cd hx hb hr hml hown hts hlk hF hR ls hl
  have hl : lv_has ls 3 [(0, .ref (ad 0)), (1, .ref (ad 11)), (2, .int (x))] := hl
  refine lv_aload_n hx hb dX5_ofKey_0 rfl (lv_at hl 0 rfl) ?_
  refine lv_iload_n hx hb dX5_ofKey_1 rfl (lv_at hl 2 rfl) ?_
  refine z_callS_i (As := [.int (x)]) (rest := [.ref (ad 0)]) (w := wM cI cZ ad) ⟨hx, hb, hml, hown, hts⟩ hF hR (c_X5_isKey_bad hG S ((x)) hxb) (va_cwS 1 hts gX5_ofKey_X5_isKey rfl rfl rfl (by decide +kernel) ⟨Nat.le_of_ble_eq_true rfl, Nat.le_of_ble_eq_true rfl⟩) rfl hl rfl (Nat.le_of_ble_eq_true rfl) (by decide) dX5_ofKey_2 (fun r1 S1 H locs hp1 hR => ?_)
  obtain ⟨hr1, hs1⟩ := hp1
  subst r1
  subst S1
  refine z_if_eq_n (tgt := 12) hx hb dX5_ofKey_5 (by decide) (by omega) (fun h5_2 => ?_) (fun h5_2 => by omega)
  refine lv_iconst (v := (nI (1))) hx hb dX5_ofKey_12 (by decide) ?_
  refine z_callV_i (As := [.int (nI (1))]) (rest := []) (w := wM cI cZ ad) ⟨hx, hb, hml, hown, hts⟩ hF hR (c_X5_holds_nz hG S 1 (by decide) (by decide)) (cwV 1 hts gX5_ofKey_X5_holds rfl rfl rfl (by decide +kernel) ⟨Nat.le_of_ble_eq_true rfl, Nat.le_of_ble_eq_true rfl⟩) (wM_c0 S) rfl rfl rfl hl rfl (Nat.le_of_ble_eq_true rfl) (by decide) dX5_ofKey_13 (fun r3 S3 H locs hp3 hR => ?_)
  obtain ⟨hr3, hs3⟩ := hp3
  subst r3
  subst S3
  have hO3 := (zOK_th (i := 1) hO)
  refine z_if_eq_n (tgt := 25) hx hb dX5_ofKey_16 (by decide) (by omega) (fun h16_4 => ?_) (fun h16_4 => by omega)
  refine lv_iconst (v := (nI (0))) hx hb dX5_ofKey_25 (by decide) ?_
  exact z_iret (w := wM cI cZ ad) (S1 := (zth S 1)) hx hb hr hlk hF hR dX5_ofKey_26 (⟨rfl, rfl⟩)
set_option maxHeartbeats 4000000 in
set_option maxRecDepth 100000 in
theorem c_X5_ofKey_k10 {l : Launch} {D : va_G} {cI cZ : ClassId} {ad : Nat → Nat} {B : Nat → Prop} (hG : ∀ S : zS, va_D B (wM cI cZ ad S)) (S : zS) (key : Nat) (hO : zOK S) (hk : key < 32) : zMi l yX5_ofKey wsX5_ofKey ({ frames := 2, cells := 0, slots := 0, locals := 42 } : Room) [.ref (ad 0), .ref (ad 11), .int (nI (key))] D (zT cI cZ) B (wM cI cZ ad) S (fun (r : Int32) (S1 : zS) => r = ((zth S 0) 10 key) ∧ S1 = zth S 0) := by
  refine zMi_of (cc := cX5_ofKey) (maxL := 3) (ret := (some .int)) (by decide) rfl (Nat.le_of_ble_eq_true rfl) ?_
  intro pg en s mm below meth cd hx hb hr hml hown hts hlk hF hR ls hl
  have hl : lv_has ls 3 [(0, .ref (ad 0)), (1, .ref (ad 11)), (2, .int (nI (key)))] := hl
  refine lv_aload_n hx hb dX5_ofKey_0 rfl (lv_at hl 0 rfl) ?_
  refine lv_iload_n hx hb dX5_ofKey_1 rfl (lv_at hl 2 rfl) ?_
  refine z_callS_i (As := [.int (nI (key))]) (rest := [.ref (ad 0)]) (w := wM cI cZ ad) ⟨hx, hb, hml, hown, hts⟩ hF hR (c_X5_isKey_ok hG S key (by omega)) (va_cwS 1 hts gX5_ofKey_X5_isKey rfl rfl rfl (by decide +kernel) ⟨Nat.le_of_ble_eq_true rfl, Nat.le_of_ble_eq_true rfl⟩) rfl hl rfl (Nat.le_of_ble_eq_true rfl) (by decide) dX5_ofKey_2 (fun r1 S1 H locs hp1 hR => ?_)
  obtain ⟨hr1, hs1⟩ := hp1
  subst r1
  subst S1
  refine z_if_eq_n (tgt := 12) hx hb dX5_ofKey_5 (by decide) (by omega) (fun h5_2 => by omega) (fun h5_2 => ?_)
  refine lv_iconst (v := (nI (0))) hx hb dX5_ofKey_8 (by decide) ?_
  refine lv_goto (tgt := 13) hx hb dX5_ofKey_9 (by decide) ?_
  refine z_callV_i (As := [.int (nI (0))]) (rest := []) (w := wM cI cZ ad) ⟨hx, hb, hml, hown, hts⟩ hF hR (c_X5_holds_z hG S ) (cwV 1 hts gX5_ofKey_X5_holds rfl rfl rfl (by decide +kernel) ⟨Nat.le_of_ble_eq_true rfl, Nat.le_of_ble_eq_true rfl⟩) (wM_c0 S) rfl rfl rfl hl rfl (Nat.le_of_ble_eq_true rfl) (by decide) dX5_ofKey_13 (fun r3 S3 H locs hp3 hR => ?_)
  obtain ⟨hr3, hs3⟩ := hp3
  subst r3
  subst S3
  have hO3 := (zOK_th (i := 0) hO)
  refine z_if_eq_n (tgt := 25) hx hb dX5_ofKey_16 (by decide) (by omega) (fun h16_4 => by omega) (fun h16_4 => ?_)
  refine lv_aload_n hx hb dX5_ofKey_19 rfl (lv_at hl 1 rfl) ?_
  refine lv_iload_n hx hb dX5_ofKey_20 rfl (lv_at hl 2 rfl) ?_
  refine z_iald_n (f := (zth S 0) 10) hx hb hF hR (wM_c11 (zth S 0)) zT_0 dX5_ofKey_21 (by decide) (by omega) ?_
  refine lv_goto (tgt := 26) hx hb dX5_ofKey_22 (by decide) ?_
  exact z_iret (w := wM cI cZ ad) (S1 := (zth S 0)) hx hb hr hlk hF hR dX5_ofKey_26 (⟨rfl, rfl⟩)
set_option maxHeartbeats 4000000 in
set_option maxRecDepth 100000 in
theorem c_X5_ofKey_e18 {l : Launch} {D : va_G} {cI cZ : ClassId} {ad : Nat → Nat} {B : Nat → Prop} (hG : ∀ S : zS, va_D B (wM cI cZ ad S)) (S : zS) (x : Int32) (hO : zOK S) (hxb : zbad x 32) : zMi l yX5_ofKey wsX5_ofKey ({ frames := 2, cells := 0, slots := 0, locals := 42 } : Room) [.ref (ad 0), .ref (ad 19), .int (x)] D (zT cI cZ) B (wM cI cZ ad) S (fun (r : Int32) (S1 : zS) => r = (nI (0)) ∧ S1 = zth S 1) := by
  refine zMi_of (cc := cX5_ofKey) (maxL := 3) (ret := (some .int)) (by decide) rfl (Nat.le_of_ble_eq_true rfl) ?_
  intro pg en s mm below meth cd hx hb hr hml hown hts hlk hF hR ls hl
  have hl : lv_has ls 3 [(0, .ref (ad 0)), (1, .ref (ad 19)), (2, .int (x))] := hl
  refine lv_aload_n hx hb dX5_ofKey_0 rfl (lv_at hl 0 rfl) ?_
  refine lv_iload_n hx hb dX5_ofKey_1 rfl (lv_at hl 2 rfl) ?_
  refine z_callS_i (As := [.int (x)]) (rest := [.ref (ad 0)]) (w := wM cI cZ ad) ⟨hx, hb, hml, hown, hts⟩ hF hR (c_X5_isKey_bad hG S ((x)) hxb) (va_cwS 1 hts gX5_ofKey_X5_isKey rfl rfl rfl (by decide +kernel) ⟨Nat.le_of_ble_eq_true rfl, Nat.le_of_ble_eq_true rfl⟩) rfl hl rfl (Nat.le_of_ble_eq_true rfl) (by decide) dX5_ofKey_2 (fun r1 S1 H locs hp1 hR => ?_)
  obtain ⟨hr1, hs1⟩ := hp1
  subst r1
  subst S1
  refine z_if_eq_n (tgt := 12) hx hb dX5_ofKey_5 (by decide) (by omega) (fun h5_2 => ?_) (fun h5_2 => by omega)
  refine lv_iconst (v := (nI (1))) hx hb dX5_ofKey_12 (by decide) ?_
  refine z_callV_i (As := [.int (nI (1))]) (rest := []) (w := wM cI cZ ad) ⟨hx, hb, hml, hown, hts⟩ hF hR (c_X5_holds_nz hG S 1 (by decide) (by decide)) (cwV 1 hts gX5_ofKey_X5_holds rfl rfl rfl (by decide +kernel) ⟨Nat.le_of_ble_eq_true rfl, Nat.le_of_ble_eq_true rfl⟩) (wM_c0 S) rfl rfl rfl hl rfl (Nat.le_of_ble_eq_true rfl) (by decide) dX5_ofKey_13 (fun r3 S3 H locs hp3 hR => ?_)
  obtain ⟨hr3, hs3⟩ := hp3
  subst r3
  subst S3
  have hO3 := (zOK_th (i := 1) hO)
  refine z_if_eq_n (tgt := 25) hx hb dX5_ofKey_16 (by decide) (by omega) (fun h16_4 => ?_) (fun h16_4 => by omega)
  refine lv_iconst (v := (nI (0))) hx hb dX5_ofKey_25 (by decide) ?_
  exact z_iret (w := wM cI cZ ad) (S1 := (zth S 1)) hx hb hr hlk hF hR dX5_ofKey_26 (⟨rfl, rfl⟩)
set_option maxHeartbeats 4000000 in
set_option maxRecDepth 100000 in
theorem c_X5_ofKey_k18 {l : Launch} {D : va_G} {cI cZ : ClassId} {ad : Nat → Nat} {B : Nat → Prop} (hG : ∀ S : zS, va_D B (wM cI cZ ad S)) (S : zS) (key : Nat) (hO : zOK S) (hk : key < 32) : zMi l yX5_ofKey wsX5_ofKey ({ frames := 2, cells := 0, slots := 0, locals := 42 } : Room) [.ref (ad 0), .ref (ad 19), .int (nI (key))] D (zT cI cZ) B (wM cI cZ ad) S (fun (r : Int32) (S1 : zS) => r = ((zth S 0) 18 key) ∧ S1 = zth S 0) := by
  refine zMi_of (cc := cX5_ofKey) (maxL := 3) (ret := (some .int)) (by decide) rfl (Nat.le_of_ble_eq_true rfl) ?_
  intro pg en s mm below meth cd hx hb hr hml hown hts hlk hF hR ls hl
  have hl : lv_has ls 3 [(0, .ref (ad 0)), (1, .ref (ad 19)), (2, .int (nI (key)))] := hl
  refine lv_aload_n hx hb dX5_ofKey_0 rfl (lv_at hl 0 rfl) ?_
  refine lv_iload_n hx hb dX5_ofKey_1 rfl (lv_at hl 2 rfl) ?_
  refine z_callS_i (As := [.int (nI (key))]) (rest := [.ref (ad 0)]) (w := wM cI cZ ad) ⟨hx, hb, hml, hown, hts⟩ hF hR (c_X5_isKey_ok hG S key (by omega)) (va_cwS 1 hts gX5_ofKey_X5_isKey rfl rfl rfl (by decide +kernel) ⟨Nat.le_of_ble_eq_true rfl, Nat.le_of_ble_eq_true rfl⟩) rfl hl rfl (Nat.le_of_ble_eq_true rfl) (by decide) dX5_ofKey_2 (fun r1 S1 H locs hp1 hR => ?_)
  obtain ⟨hr1, hs1⟩ := hp1
  subst r1
  subst S1
  refine z_if_eq_n (tgt := 12) hx hb dX5_ofKey_5 (by decide) (by omega) (fun h5_2 => by omega) (fun h5_2 => ?_)
  refine lv_iconst (v := (nI (0))) hx hb dX5_ofKey_8 (by decide) ?_
  refine lv_goto (tgt := 13) hx hb dX5_ofKey_9 (by decide) ?_
  refine z_callV_i (As := [.int (nI (0))]) (rest := []) (w := wM cI cZ ad) ⟨hx, hb, hml, hown, hts⟩ hF hR (c_X5_holds_z hG S ) (cwV 1 hts gX5_ofKey_X5_holds rfl rfl rfl (by decide +kernel) ⟨Nat.le_of_ble_eq_true rfl, Nat.le_of_ble_eq_true rfl⟩) (wM_c0 S) rfl rfl rfl hl rfl (Nat.le_of_ble_eq_true rfl) (by decide) dX5_ofKey_13 (fun r3 S3 H locs hp3 hR => ?_)
  obtain ⟨hr3, hs3⟩ := hp3
  subst r3
  subst S3
  have hO3 := (zOK_th (i := 0) hO)
  refine z_if_eq_n (tgt := 25) hx hb dX5_ofKey_16 (by decide) (by omega) (fun h16_4 => by omega) (fun h16_4 => ?_)
  refine lv_aload_n hx hb dX5_ofKey_19 rfl (lv_at hl 1 rfl) ?_
  refine lv_iload_n hx hb dX5_ofKey_20 rfl (lv_at hl 2 rfl) ?_
  refine z_iald_n (f := (zth S 0) 18) hx hb hF hR (wM_c19 (zth S 0)) zT_0 dX5_ofKey_21 (by decide) (by omega) ?_
  refine lv_goto (tgt := 26) hx hb dX5_ofKey_22 (by decide) ?_
  exact z_iret (w := wM cI cZ ad) (S1 := (zth S 0)) hx hb hr hlk hF hR dX5_ofKey_26 (⟨rfl, rfl⟩)
set_option maxHeartbeats 4000000 in
set_option maxRecDepth 100000 in
theorem c_X5_ofKey_e19 {l : Launch} {D : va_G} {cI cZ : ClassId} {ad : Nat → Nat} {B : Nat → Prop} (hG : ∀ S : zS, va_D B (wM cI cZ ad S)) (S : zS) (x : Int32) (hO : zOK S) (hxb : zbad x 32) : zMi l yX5_ofKey wsX5_ofKey ({ frames := 2, cells := 0, slots := 0, locals := 42 } : Room) [.ref (ad 0), .ref (ad 20), .int (x)] D (zT cI cZ) B (wM cI cZ ad) S (fun (r : Int32) (S1 : zS) => r = (nI (0)) ∧ S1 = zth S 1) := by
  refine zMi_of (cc := cX5_ofKey) (maxL := 3) (ret := (some .int)) (by decide) rfl (Nat.le_of_ble_eq_true rfl) ?_
  intro pg en s mm below meth cd hx hb hr hml hown hts hlk hF hR ls hl
  have hl : lv_has ls 3 [(0, .ref (ad 0)), (1, .ref (ad 20)), (2, .int (x))] := hl
  refine lv_aload_n hx hb dX5_ofKey_0 rfl (lv_at hl 0 rfl) ?_
  refine lv_iload_n hx hb dX5_ofKey_1 rfl (lv_at hl 2 rfl) ?_
  refine z_callS_i (As := [.int (x)]) (rest := [.ref (ad 0)]) (w := wM cI cZ ad) ⟨hx, hb, hml, hown, hts⟩ hF hR (c_X5_isKey_bad hG S ((x)) hxb) (va_cwS 1 hts gX5_ofKey_X5_isKey rfl rfl rfl (by decide +kernel) ⟨Nat.le_of_ble_eq_true rfl, Nat.le_of_ble_eq_true rfl⟩) rfl hl rfl (Nat.le_of_ble_eq_true rfl) (by decide) dX5_ofKey_2 (fun r1 S1 H locs hp1 hR => ?_)
  obtain ⟨hr1, hs1⟩ := hp1
  subst r1
  subst S1
  refine z_if_eq_n (tgt := 12) hx hb dX5_ofKey_5 (by decide) (by omega) (fun h5_2 => ?_) (fun h5_2 => by omega)
  refine lv_iconst (v := (nI (1))) hx hb dX5_ofKey_12 (by decide) ?_
  refine z_callV_i (As := [.int (nI (1))]) (rest := []) (w := wM cI cZ ad) ⟨hx, hb, hml, hown, hts⟩ hF hR (c_X5_holds_nz hG S 1 (by decide) (by decide)) (cwV 1 hts gX5_ofKey_X5_holds rfl rfl rfl (by decide +kernel) ⟨Nat.le_of_ble_eq_true rfl, Nat.le_of_ble_eq_true rfl⟩) (wM_c0 S) rfl rfl rfl hl rfl (Nat.le_of_ble_eq_true rfl) (by decide) dX5_ofKey_13 (fun r3 S3 H locs hp3 hR => ?_)
  obtain ⟨hr3, hs3⟩ := hp3
  subst r3
  subst S3
  have hO3 := (zOK_th (i := 1) hO)
  refine z_if_eq_n (tgt := 25) hx hb dX5_ofKey_16 (by decide) (by omega) (fun h16_4 => ?_) (fun h16_4 => by omega)
  refine lv_iconst (v := (nI (0))) hx hb dX5_ofKey_25 (by decide) ?_
  exact z_iret (w := wM cI cZ ad) (S1 := (zth S 1)) hx hb hr hlk hF hR dX5_ofKey_26 (⟨rfl, rfl⟩)
set_option maxHeartbeats 4000000 in
set_option maxRecDepth 100000 in
theorem c_X5_ofKey_k19 {l : Launch} {D : va_G} {cI cZ : ClassId} {ad : Nat → Nat} {B : Nat → Prop} (hG : ∀ S : zS, va_D B (wM cI cZ ad S)) (S : zS) (key : Nat) (hO : zOK S) (hk : key < 32) : zMi l yX5_ofKey wsX5_ofKey ({ frames := 2, cells := 0, slots := 0, locals := 42 } : Room) [.ref (ad 0), .ref (ad 20), .int (nI (key))] D (zT cI cZ) B (wM cI cZ ad) S (fun (r : Int32) (S1 : zS) => r = ((zth S 0) 19 key) ∧ S1 = zth S 0) := by
  refine zMi_of (cc := cX5_ofKey) (maxL := 3) (ret := (some .int)) (by decide) rfl (Nat.le_of_ble_eq_true rfl) ?_
  intro pg en s mm below meth cd hx hb hr hml hown hts hlk hF hR ls hl
  have hl : lv_has ls 3 [(0, .ref (ad 0)), (1, .ref (ad 20)), (2, .int (nI (key)))] := hl
  refine lv_aload_n hx hb dX5_ofKey_0 rfl (lv_at hl 0 rfl) ?_
  refine lv_iload_n hx hb dX5_ofKey_1 rfl (lv_at hl 2 rfl) ?_
  refine z_callS_i (As := [.int (nI (key))]) (rest := [.ref (ad 0)]) (w := wM cI cZ ad) ⟨hx, hb, hml, hown, hts⟩ hF hR (c_X5_isKey_ok hG S key (by omega)) (va_cwS 1 hts gX5_ofKey_X5_isKey rfl rfl rfl (by decide +kernel) ⟨Nat.le_of_ble_eq_true rfl, Nat.le_of_ble_eq_true rfl⟩) rfl hl rfl (Nat.le_of_ble_eq_true rfl) (by decide) dX5_ofKey_2 (fun r1 S1 H locs hp1 hR => ?_)
  obtain ⟨hr1, hs1⟩ := hp1
  subst r1
  subst S1
  refine z_if_eq_n (tgt := 12) hx hb dX5_ofKey_5 (by decide) (by omega) (fun h5_2 => by omega) (fun h5_2 => ?_)
  refine lv_iconst (v := (nI (0))) hx hb dX5_ofKey_8 (by decide) ?_
  refine lv_goto (tgt := 13) hx hb dX5_ofKey_9 (by decide) ?_
  refine z_callV_i (As := [.int (nI (0))]) (rest := []) (w := wM cI cZ ad) ⟨hx, hb, hml, hown, hts⟩ hF hR (c_X5_holds_z hG S ) (cwV 1 hts gX5_ofKey_X5_holds rfl rfl rfl (by decide +kernel) ⟨Nat.le_of_ble_eq_true rfl, Nat.le_of_ble_eq_true rfl⟩) (wM_c0 S) rfl rfl rfl hl rfl (Nat.le_of_ble_eq_true rfl) (by decide) dX5_ofKey_13 (fun r3 S3 H locs hp3 hR => ?_)
  obtain ⟨hr3, hs3⟩ := hp3
  subst r3
  subst S3
  have hO3 := (zOK_th (i := 0) hO)
  refine z_if_eq_n (tgt := 25) hx hb dX5_ofKey_16 (by decide) (by omega) (fun h16_4 => by omega) (fun h16_4 => ?_)
  refine lv_aload_n hx hb dX5_ofKey_19 rfl (lv_at hl 1 rfl) ?_
  refine lv_iload_n hx hb dX5_ofKey_20 rfl (lv_at hl 2 rfl) ?_
  refine z_iald_n (f := (zth S 0) 19) hx hb hF hR (wM_c20 (zth S 0)) zT_0 dX5_ofKey_21 (by decide) (by omega) ?_
  refine lv_goto (tgt := 26) hx hb dX5_ofKey_22 (by decide) ?_
  exact z_iret (w := wM cI cZ ad) (S1 := (zth S 0)) hx hb hr hlk hF hR dX5_ofKey_26 (⟨rfl, rfl⟩)
set_option maxHeartbeats 4000000 in
set_option maxRecDepth 100000 in
theorem c_X5_ofKey_e20 {l : Launch} {D : va_G} {cI cZ : ClassId} {ad : Nat → Nat} {B : Nat → Prop} (hG : ∀ S : zS, va_D B (wM cI cZ ad S)) (S : zS) (x : Int32) (hO : zOK S) (hxb : zbad x 32) : zMi l yX5_ofKey wsX5_ofKey ({ frames := 2, cells := 0, slots := 0, locals := 42 } : Room) [.ref (ad 0), .ref (ad 21), .int (x)] D (zT cI cZ) B (wM cI cZ ad) S (fun (r : Int32) (S1 : zS) => r = (nI (0)) ∧ S1 = zth S 1) := by
  refine zMi_of (cc := cX5_ofKey) (maxL := 3) (ret := (some .int)) (by decide) rfl (Nat.le_of_ble_eq_true rfl) ?_
  intro pg en s mm below meth cd hx hb hr hml hown hts hlk hF hR ls hl
  have hl : lv_has ls 3 [(0, .ref (ad 0)), (1, .ref (ad 21)), (2, .int (x))] := hl
  refine lv_aload_n hx hb dX5_ofKey_0 rfl (lv_at hl 0 rfl) ?_
  refine lv_iload_n hx hb dX5_ofKey_1 rfl (lv_at hl 2 rfl) ?_
  refine z_callS_i (As := [.int (x)]) (rest := [.ref (ad 0)]) (w := wM cI cZ ad) ⟨hx, hb, hml, hown, hts⟩ hF hR (c_X5_isKey_bad hG S ((x)) hxb) (va_cwS 1 hts gX5_ofKey_X5_isKey rfl rfl rfl (by decide +kernel) ⟨Nat.le_of_ble_eq_true rfl, Nat.le_of_ble_eq_true rfl⟩) rfl hl rfl (Nat.le_of_ble_eq_true rfl) (by decide) dX5_ofKey_2 (fun r1 S1 H locs hp1 hR => ?_)
  obtain ⟨hr1, hs1⟩ := hp1
  subst r1
  subst S1
  refine z_if_eq_n (tgt := 12) hx hb dX5_ofKey_5 (by decide) (by omega) (fun h5_2 => ?_) (fun h5_2 => by omega)
  refine lv_iconst (v := (nI (1))) hx hb dX5_ofKey_12 (by decide) ?_
  refine z_callV_i (As := [.int (nI (1))]) (rest := []) (w := wM cI cZ ad) ⟨hx, hb, hml, hown, hts⟩ hF hR (c_X5_holds_nz hG S 1 (by decide) (by decide)) (cwV 1 hts gX5_ofKey_X5_holds rfl rfl rfl (by decide +kernel) ⟨Nat.le_of_ble_eq_true rfl, Nat.le_of_ble_eq_true rfl⟩) (wM_c0 S) rfl rfl rfl hl rfl (Nat.le_of_ble_eq_true rfl) (by decide) dX5_ofKey_13 (fun r3 S3 H locs hp3 hR => ?_)
  obtain ⟨hr3, hs3⟩ := hp3
  subst r3
  subst S3
  have hO3 := (zOK_th (i := 1) hO)
  refine z_if_eq_n (tgt := 25) hx hb dX5_ofKey_16 (by decide) (by omega) (fun h16_4 => ?_) (fun h16_4 => by omega)
  refine lv_iconst (v := (nI (0))) hx hb dX5_ofKey_25 (by decide) ?_
  exact z_iret (w := wM cI cZ ad) (S1 := (zth S 1)) hx hb hr hlk hF hR dX5_ofKey_26 (⟨rfl, rfl⟩)
set_option maxHeartbeats 4000000 in
set_option maxRecDepth 100000 in
theorem c_X5_ofKey_k20 {l : Launch} {D : va_G} {cI cZ : ClassId} {ad : Nat → Nat} {B : Nat → Prop} (hG : ∀ S : zS, va_D B (wM cI cZ ad S)) (S : zS) (key : Nat) (hO : zOK S) (hk : key < 32) : zMi l yX5_ofKey wsX5_ofKey ({ frames := 2, cells := 0, slots := 0, locals := 42 } : Room) [.ref (ad 0), .ref (ad 21), .int (nI (key))] D (zT cI cZ) B (wM cI cZ ad) S (fun (r : Int32) (S1 : zS) => r = ((zth S 0) 20 key) ∧ S1 = zth S 0) := by
  refine zMi_of (cc := cX5_ofKey) (maxL := 3) (ret := (some .int)) (by decide) rfl (Nat.le_of_ble_eq_true rfl) ?_
  intro pg en s mm below meth cd hx hb hr hml hown hts hlk hF hR ls hl
  have hl : lv_has ls 3 [(0, .ref (ad 0)), (1, .ref (ad 21)), (2, .int (nI (key)))] := hl
  refine lv_aload_n hx hb dX5_ofKey_0 rfl (lv_at hl 0 rfl) ?_
  refine lv_iload_n hx hb dX5_ofKey_1 rfl (lv_at hl 2 rfl) ?_
  refine z_callS_i (As := [.int (nI (key))]) (rest := [.ref (ad 0)]) (w := wM cI cZ ad) ⟨hx, hb, hml, hown, hts⟩ hF hR (c_X5_isKey_ok hG S key (by omega)) (va_cwS 1 hts gX5_ofKey_X5_isKey rfl rfl rfl (by decide +kernel) ⟨Nat.le_of_ble_eq_true rfl, Nat.le_of_ble_eq_true rfl⟩) rfl hl rfl (Nat.le_of_ble_eq_true rfl) (by decide) dX5_ofKey_2 (fun r1 S1 H locs hp1 hR => ?_)
  obtain ⟨hr1, hs1⟩ := hp1
  subst r1
  subst S1
  refine z_if_eq_n (tgt := 12) hx hb dX5_ofKey_5 (by decide) (by omega) (fun h5_2 => by omega) (fun h5_2 => ?_)
  refine lv_iconst (v := (nI (0))) hx hb dX5_ofKey_8 (by decide) ?_
  refine lv_goto (tgt := 13) hx hb dX5_ofKey_9 (by decide) ?_
  refine z_callV_i (As := [.int (nI (0))]) (rest := []) (w := wM cI cZ ad) ⟨hx, hb, hml, hown, hts⟩ hF hR (c_X5_holds_z hG S ) (cwV 1 hts gX5_ofKey_X5_holds rfl rfl rfl (by decide +kernel) ⟨Nat.le_of_ble_eq_true rfl, Nat.le_of_ble_eq_true rfl⟩) (wM_c0 S) rfl rfl rfl hl rfl (Nat.le_of_ble_eq_true rfl) (by decide) dX5_ofKey_13 (fun r3 S3 H locs hp3 hR => ?_)
  obtain ⟨hr3, hs3⟩ := hp3
  subst r3
  subst S3
  have hO3 := (zOK_th (i := 0) hO)
  refine z_if_eq_n (tgt := 25) hx hb dX5_ofKey_16 (by decide) (by omega) (fun h16_4 => by omega) (fun h16_4 => ?_)
  refine lv_aload_n hx hb dX5_ofKey_19 rfl (lv_at hl 1 rfl) ?_
  refine lv_iload_n hx hb dX5_ofKey_20 rfl (lv_at hl 2 rfl) ?_
  refine z_iald_n (f := (zth S 0) 20) hx hb hF hR (wM_c21 (zth S 0)) zT_0 dX5_ofKey_21 (by decide) (by omega) ?_
  refine lv_goto (tgt := 26) hx hb dX5_ofKey_22 (by decide) ?_
  exact z_iret (w := wM cI cZ ad) (S1 := (zth S 0)) hx hb hr hlk hF hR dX5_ofKey_26 (⟨rfl, rfl⟩)
