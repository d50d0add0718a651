set_option maxHeartbeats 4000000 in
set_option maxRecDepth 100000 in
theorem c_X1_add {l : Launch} {D : va_G} {cI cZ : ClassId} {ad : Nat → Nat} {B : Nat → Prop} (hG : ∀ S : zS, va_D B (wX cI cZ ad S)) (S : zS) (p : Nat) (x : Int32) (hO : zOK S) (hp : p < 4) (hn : zn S 0 p < 60) : zMi l yX1_add wsX1_add ({ frames := 0, cells := 0, slots := 0, locals := 0 } : Room) [.ref (ad 1), .int (nI (p)), .int (x)] D (zT cI cZ) B (wX cI cZ ad) S (fun (r : Int32) (S1 : zS) => r = (nI (zn S 0 p)) ∧ S1 = sp_app S p x) := by
  refine zMi_of (cc := cX1_add) (maxL := 4) (ret := (some .int)) (by decide) rfl (Nat.le_of_ble_eq_true rfl) ?_
  intro pg en s mm below meth cd hx hb hr hml hown hts hlk hF hR ls hl
  have hinX1 : ∀ w ∈ wsX10, w ∈ wsX1_add := by decide +kernel
  have hl : lv_has ls 4 [(0, .ref (ad 1)), (1, .int (nI (p))), (2, .int (x))] := hl
  refine lv_aload_n hx hb dX1_add_0 rfl (lv_at hl 0 rfl) ?_
  refine z_get (own := RX1) (C := RX1) (T := TX1) (N := 2) (k := 0) (v := .ref (ad 2)) hx hb hts hinX1 hown hF hR (wX_c1 S) rfl (by decide) (by decide +kernel) rfl rfl dX1_add_1 ?_
  refine lv_iload_n hx hb dX1_add_4 rfl (lv_at hl 1 rfl) ?_
  refine z_iald_n (f := S 0) hx hb hF hR (wX_c2 S) zT_0 dX1_add_5 (by decide) (by omega) ?_
  refine lv_topi (fun v2 ev2 => ?_)
  obtain rfl : v2 = (nI (zn S 0 (p))) := ev2.trans (zOK.n0 hO _).1
  have hb5_1 := (zOK.n0 hO (p)).2
  refine lv_istore_n (lv' := [(3, .int (nI (zn S 0 (p)))), (0, .ref (ad 1)), (1, .int (nI (p))), (2, .int (x))]) hx hb dX1_add_6 rfl hl (by decide) rfl (fun ls hl => ?_)
  refine lv_aload_n hx hb dX1_add_7 rfl (lv_at hl 1 rfl) ?_
  refine z_get (own := RX1) (C := RX1) (T := TX1) (N := 2) (k := 1) (v := .ref (ad 3)) hx hb hts hinX1 hown hF hR (wX_c1 S) rfl (by decide) (by decide +kernel) rfl rfl dX1_add_8 ?_
  refine lv_iload_n hx hb dX1_add_11 rfl (lv_at hl 2 rfl) ?_
  refine lv_bipush (v := (nI (60))) hx hb dX1_add_12 (by decide) ?_
  refine z_imul_n hx hb dX1_add_14 ?_
  refine lv_iload_n hx hb dX1_add_15 rfl (lv_at hl 0 rfl) ?_
  refine z_iadd_n hx hb dX1_add_16 ?_
  refine lv_topi (fun v3 ev3 => ?_)
  obtain rfl : v3 = nI (60 * p + zn S 0 p) := ev3.trans (congrArg nI (by omega))
  refine lv_iload_n hx hb dX1_add_17 rfl (lv_at hl 3 rfl) ?_
  refine z_iast_n (f := S 1) hx hb hF (hG S) hR (wX_c3 S) zT_0 (wX_s1 S (upd (S 1) (60 * p + zn S 0 p) (x))) dX1_add_18 (by decide) (by omega) (fun H locs hR => ?_)
  refine lv_aload_n hx hb dX1_add_19 rfl (lv_at hl 1 rfl) ?_
  refine z_get (own := RX1) (C := RX1) (T := TX1) (N := 2) (k := 0) (v := .ref (ad 2)) hx hb hts hinX1 hown hF hR (wX_c1 (zU S 1 (upd (S 1) (60 * p + zn S 0 p) (x)))) rfl (by decide) (by decide +kernel) rfl rfl dX1_add_20 ?_
  refine lv_iload_n hx hb dX1_add_23 rfl (lv_at hl 2 rfl) ?_
  refine lv_iload_n hx hb dX1_add_24 rfl (lv_at hl 0 rfl) ?_
  refine lv_iconst (v := (nI (1))) hx hb dX1_add_25 (by decide) ?_
  refine z_iadd_n hx hb dX1_add_26 ?_
  refine z_iast_n (f := S 0) hx hb hF (hG (zU S 1 (upd (S 1) (60 * p + zn S 0 p) (x)))) hR (wX_c2 (zU S 1 (upd (S 1) (60 * p + zn S 0 p) (x)))) zT_0 (wX_s0 (zU S 1 (upd (S 1) (60 * p + zn S 0 p) (x))) (upd (S 0) (p) (nI ((zn S 0 (p)) + 1)))) dX1_add_27 (by decide) (by omega) (fun H locs hR => ?_)
  refine lv_iload_n hx hb dX1_add_28 rfl (lv_at hl 0 rfl) ?_
  exact z_iret (w := wX cI cZ ad) (S1 := (zU (zU S 1 (upd (S 1) (60 * p + zn S 0 p) (x))) 0 (upd (S 0) (p) (nI ((zn S 0 (p)) + 1))))) hx hb hr hlk hF hR dX1_add_29 (⟨rfl, rfl⟩)
set_option maxHeartbeats 4000000 in
set_option maxRecDepth 100000 in
theorem c_X1_get {l : Launch} {D : va_G} {cI cZ : ClassId} {ad : Nat → Nat} {B : Nat → Prop} (hG : ∀ S : zS, va_D B (wX cI cZ ad S)) (S : zS) (p o : Nat) (hO : zOK S) (hp : p < 4) (ho : o < 60) : zMi l yX1_get wsX1_get ({ frames := 0, cells := 0, slots := 0, locals := 0 } : Room) [.ref (ad 1), .int (nI (p)), .int (nI (o))] D (zT cI cZ) B (wX cI cZ ad) S (fun (r : Int32) (S1 : zS) => r = (nI (zn S 1 (60 * p + o))) ∧ S1 = S) := by
  refine zMi_of (cc := cX1_get) (maxL := 3) (ret := (some .int)) (by decide) rfl (Nat.le_of_ble_eq_true rfl) ?_
  intro pg en s mm below meth cd hx hb hr hml hown hts hlk hF hR ls hl
  have hinX1 : ∀ w ∈ wsX10, w ∈ wsX1_get := by decide +kernel
  have hl : lv_has ls 3 [(0, .ref (ad 1)), (1, .int (nI (p))), (2, .int (nI (o)))] := hl
  refine lv_aload_n hx hb dX1_get_0 rfl (lv_at hl 0 rfl) ?_
  refine z_get (own := RX1) (C := RX1) (T := TX1) (N := 2) (k := 1) (v := .ref (ad 3)) hx hb hts hinX1 hown hF hR (wX_c1 S) rfl (by decide) (by decide +kernel) rfl rfl dX1_get_1 ?_
  refine lv_iload_n hx hb dX1_get_4 rfl (lv_at hl 1 rfl) ?_
  refine lv_bipush (v := (nI (60))) hx hb dX1_get_5 (by decide) ?_
  refine z_imul_n hx hb dX1_get_7 ?_
  refine lv_iload_n hx hb dX1_get_8 rfl (lv_at hl 2 rfl) ?_
  refine z_iadd_n hx hb dX1_get_9 ?_
  refine lv_topi (fun v1 ev1 => ?_)
  obtain rfl : v1 = nI (60 * p + o) := ev1.trans (congrArg nI (by omega))
  refine z_iald_n (f := S 1) hx hb hF hR (wX_c3 S) zT_0 dX1_get_10 (by decide) (by omega) ?_
  refine lv_topi (fun v3 ev3 => ?_)
  obtain rfl : v3 = (nI (zn S 1 (60 * p + o))) := ev3.trans (zOK.n1 hO _).1
  have hb10_2 := (zOK.n1 hO (60 * p + o)).2
  exact z_iret (w := wX cI cZ ad) (S1 := S) hx hb hr hlk hF hR dX1_get_11 (⟨rfl, rfl⟩)
set_option maxHeartbeats 4000000 in
set_option maxRecDepth 100000 in
theorem c_X1_sumAhead {l : Launch} {D : va_G} {cI cZ : ClassId} {ad : Nat → Nat} {B : Nat → Prop} (hG : ∀ S : zS, va_D B (wX cI cZ ad S)) (S : zS) (p t key : Nat) (hO : zOK S) (hp : p < 4) (ht : t ≤ 60) (hk : key < 32) : zMi l yX1_sumAhead wsX1_sumAhead ({ frames := 1, cells := 0, slots := 0, locals := 22 } : Room) [.ref (ad 1), .int (nI (p)), .int (nI (t)), .int (nI (key))] D (zT cI cZ) B (wX cI cZ ad) S (fun (r : Int32) (S1 : zS) => r = (sp_ek S key p t) ∧ S1 = S) := by
  refine zMi_of (cc := cX1_sumAhead) (maxL := 7) (ret := (some .int)) (by decide) rfl (Nat.le_of_ble_eq_true rfl) ?_
  intro pg en s mm below meth cd hx hb hr hml hown hts hlk hF hR ls hl
  have hl : lv_has ls 7 [(0, .ref (ad 1)), (1, .int (nI (p))), (2, .int (nI (t))), (3, .int (nI (key)))] := hl
  refine lv_iconst (v := (nI (0))) hx hb dX1_sumAhead_0 (by decide) ?_
  refine lv_istore (lv' := [(4, .int (nI (0))), (0, .ref (ad 1)), (1, .int (nI (p))), (2, .int (nI (t))), (3, .int (nI (key)))]) hx hb dX1_sumAhead_1 hl (by decide) rfl (fun ls hl => ?_)
  refine lv_iconst (v := (nI (0))) hx hb dX1_sumAhead_3 (by decide) ?_
  refine lv_istore (lv' := [(5, .int (nI (0))), (4, .int (nI (0))), (0, .ref (ad 1)), (1, .int (nI (p))), (2, .int (nI (t))), (3, .int (nI (key)))]) hx hb dX1_sumAhead_4 hl (by decide) rfl (fun ls hl => ?_)
  have loop6 : ∀ (nf6 : Nat) (o : Nat), (o ≤ t) → t - o < nf6 → ∀ (H : Heap) (locs : List Loc), zR D B (wX cI cZ ad S) s H locs → ∀ ls : Array Slot, lv_has ls 7 [(0, .ref (ad 1)), (1, .int (nI (p))), (2, .int (nI (t))), (3, .int (nI (key))), (4, .int (sp_ek S key p o)), (5, .int (nI (o)))] → W pg l en ({ frames := 1, cells := 0, slots := 0, locals := 22 } : Room) s mm ([.ref (ad 1), .int (nI (p)), .int (nI (t)), .int (nI (key))] : List Value).toArray below meth cd H locs 0 0 (MQ below (va_Qi (fun (r : Int32) (S1 : zS) => r = (sp_ek S key p t) ∧ S1 = S) (zB D (zT cI cZ) (wX cI cZ ad)) (zA B s.heap.size)) ([.ref (ad 1), .int (nI (p)), .int (nI (t)), .int (nI (key))] : List Value).toArray s 0 0 (zA B s.heap.size)) (F0 mm 6 ls []) := by
    intro nf6
    induction nf6 with
    | zero => intro o hot hn; exact absurd hn (Nat.not_lt_zero _)
    | succ nf6 ih6 =>
      intro o hot hn H locs hR ls hl
      refine lv_iload hx hb dX1_sumAhead_6 (lv_at hl 5 rfl) ?_
      refine lv_iload_n hx hb dX1_sumAhead_8 rfl (lv_at hl 2 rfl) ?_
      refine z_ge_n (tgt := 46) hx hb dX1_sumAhead_9 (by decide) (by omega) (by omega) (fun h9_1 => ?_) (fun h9_1 => ?_)
      · skip
        refine lv_iload hx hb dX1_sumAhead_46 (lv_at hl 4 rfl) ?_
        exact z_iret (w := wX cI cZ ad) (S1 := S) hx hb hr hlk hF hR dX1_sumAhead_48 (⟨by rw [show t = o from by omega], rfl⟩)
      · skip
        refine lv_aload_n hx hb dX1_sumAhead_12 rfl (lv_at hl 0 rfl) ?_
        refine lv_iload_n hx hb dX1_sumAhead_13 rfl (lv_at hl 1 rfl) ?_
        refine lv_iload hx hb dX1_sumAhead_14 (lv_at hl 5 rfl) ?_
        refine z_callV_i (As := [.int (nI (p)), .int (nI (o))]) (rest := []) (w := wX cI cZ ad) ⟨hx, hb, hml, hown, hts⟩ hF hR (c_X1_get hG S p o hO (by omega) (by omega)) (cwV 2 hts gX1_sumAhead_X1_get rfl rfl rfl (by decide +kernel) ⟨Nat.le_of_ble_eq_true rfl, Nat.le_of_ble_eq_true rfl⟩) (wX_c1 S) rfl rfl rfl hl rfl (Nat.le_of_ble_eq_true rfl) (by decide) dX1_sumAhead_16 (fun r2 S2 H locs hp2 hR => ?_)
        obtain ⟨hr2, hs2⟩ := hp2
        subst r2
        subst S2
        have hb16 := (zOK.n1 hO (60 * p + o)).2
        refine lv_istore (lv' := [(6, .int (nI (zn S 1 (60 * p + o)))), (0, .ref (ad 1)), (1, .int (nI (p))), (2, .int (nI (t))), (3, .int (nI (key))), (4, .int (sp_ek S key p o)), (5, .int (nI (o)))]) hx hb dX1_sumAhead_19 hl (by decide) rfl (fun ls hl => ?_)
        refine lv_iload hx hb dX1_sumAhead_21 (lv_at hl 0 rfl) ?_
        refine z_callSN_i (As := [.int (nI (zn S 1 (60 * p + o)))]) (rest := []) (w := wX cI cZ ad) ⟨hx, hb, hml, hown, hts⟩ hF hR (c_X4_keyOf hG S (zn S 1 (60 * p + o)) (by omega)) ⟨va_cnB (host := RX4) 1 hts gX1_sumAhead_X4_keyOf_n22 rfl rfl rfl (hF.2.2.2.1 _ (by decide +kernel)) (hts (.initialized RX4) (by decide +kernel)) (by decide +kernel) ⟨Nat.le_of_ble_eq_true rfl, Nat.le_of_ble_eq_true rfl⟩, hts (.static yX4_keyOf) (by decide +kernel), trivial⟩ rfl hl rfl (Nat.le_of_ble_eq_true rfl) (by decide) dX1_sumAhead_23 (fun r3 S3 H locs hp3 hR => ?_)
        obtain ⟨hr3, hs3⟩ := hp3
        subst r3
        subst S3
        refine lv_iload_n hx hb dX1_sumAhead_26 rfl (lv_at hl 4 rfl) ?_
        refine z_ne_n (tgt := 40) hx hb dX1_sumAhead_27 (by decide) (by omega) (by omega) (fun h27_4 => ?_) (fun h27_4 => ?_)
        · skip
          have q27 := h27_4
          have hl : lv_has ls 7 [(6, .int (nI (zn S 1 (60 * p + o)))), (0, .ref (ad 1)), (1, .int (nI (p))), (2, .int (nI (t))), (3, .int (nI (key))), (4, .int (sp_ek S key p (o + 1))), (5, .int (nI (o)))] := (by rw [show sp_ek S key p (o + 1) = sp_ae (zn S 1 (60 * p + o)) key (sp_ek S key p o) from rfl]; unfold sp_ae; first | (rw [if_pos q27]; exact hl) | (rw [if_neg q27]; exact hl))
          refine lv_iinc (v := (nI (o + 1))) (lv' := [(5, .int (nI (o + 1))), (6, .int (nI (zn S 1 (60 * p + o)))), (0, .ref (ad 1)), (1, .int (nI (p))), (2, .int (nI (t))), (3, .int (nI (key))), (4, .int (sp_ek S key p (o + 1)))]) hx hb dX1_sumAhead_40 hl (k := 6) rfl (z_inc _) (by decide) rfl (fun ls hl => ?_)
          refine lv_goto (tgt := 6) hx hb dX1_sumAhead_43 (by decide) ?_
          exact ih6 (o + 1) (by omega) (by omega) _ _ hR ls (lv_sub hl [2, 3, 4, 5, 6, 0] rfl)
        · skip
          have q27 := h27_4
          refine lv_iload hx hb dX1_sumAhead_30 (lv_at hl 5 rfl) ?_
          refine lv_iload hx hb dX1_sumAhead_32 (lv_at hl 0 rfl) ?_
          refine z_callSN_i (As := [.int (nI (zn S 1 (60 * p + o)))]) (rest := [.int (sp_ek S key p o)]) (w := wX cI cZ ad) ⟨hx, hb, hml, hown, hts⟩ hF hR (c_X4_valueOf hG S (zn S 1 (60 * p + o)) (by omega)) ⟨va_cnB (host := RX4) 1 hts gX1_sumAhead_X4_valueOf_n26 rfl rfl rfl (hF.2.2.2.1 _ (by decide +kernel)) (hts (.initialized RX4) (by decide +kernel)) (by decide +kernel) ⟨Nat.le_of_ble_eq_true rfl, Nat.le_of_ble_eq_true rfl⟩, hts (.static yX4_valueOf) (by decide +kernel), trivial⟩ rfl hl rfl (Nat.le_of_ble_eq_true rfl) (by decide) dX1_sumAhead_34 (fun r5 S5 H locs hp5 hR => ?_)
          obtain ⟨hr5, hs5⟩ := hp5
          subst r5
          subst S5
          refine lv_iadd hx hb dX1_sumAhead_37 ?_
          refine lv_istore (lv' := [(4, .int ((sp_ek S key p o) + (nI ((zn S 1 (60 * p + o)) % 1000)))), (6, .int (nI (zn S 1 (60 * p + o)))), (0, .ref (ad 1)), (1, .int (nI (p))), (2, .int (nI (t))), (3, .int (nI (key))), (5, .int (nI (o)))]) hx hb dX1_sumAhead_38 hl (by decide) rfl (fun ls hl => ?_)
          have hl : lv_has ls 7 [(4, .int (sp_ek S key p (o + 1))), (6, .int (nI (zn S 1 (60 * p + o)))), (0, .ref (ad 1)), (1, .int (nI (p))), (2, .int (nI (t))), (3, .int (nI (key))), (5, .int (nI (o)))] := (by rw [show sp_ek S key p (o + 1) = sp_ae (zn S 1 (60 * p + o)) key (sp_ek S key p o) from rfl]; unfold sp_ae; first | (rw [if_pos q27]; exact hl) | (rw [if_neg q27]; exact hl))
          refine lv_iinc (v := (nI (o + 1))) (lv' := [(5, .int (nI (o + 1))), (4, .int (sp_ek S key p (o + 1))), (6, .int (nI (zn S 1 (60 * p + o)))), (0, .ref (ad 1)), (1, .int (nI (p))), (2, .int (nI (t))), (3, .int (nI (key)))]) hx hb dX1_sumAhead_40 hl (k := 6) rfl (z_inc _) (by decide) rfl (fun ls hl => ?_)
          refine lv_goto (tgt := 6) hx hb dX1_sumAhead_43 (by decide) ?_
          exact ih6 (o + 1) (by omega) (by omega) _ _ hR ls (lv_sub hl [3, 4, 5, 6, 1, 0] rfl)
  exact loop6 _ 0 (by omega) (Nat.lt_succ_self _) _ _ hR ls (lv_sub hl [2, 3, 4, 5, 1, 0] rfl)
set_option maxHeartbeats 4000000 in
set_option maxRecDepth 100000 in
theorem c_X2_keepForBarrier {l : Launch} {D : va_G} {cI cZ : ClassId} {ad : Nat → Nat} {B : Nat → Prop} (hG : ∀ S : zS, va_D B (wX cI cZ ad S)) (S : zS) (p : Nat) (hO : zOK S) (hp : p < 4) : zMi l yX2_keepForBarrier wsX2_keepForBarrier ({ frames := 0, cells := 0, slots := 0, locals := 0 } : Room) [.ref (ad 4), .int (nI (p))] D (zT cI cZ) B (wX cI cZ ad) S (fun (r : Int32) (S1 : zS) => r = (nI (zn S 2 p)) ∧ S1 = sp_keep S p) := by
  refine zMi_of (cc := cX2_keepForBarrier) (maxL := 2) (ret := (some .int)) (by decide) rfl (Nat.le_of_ble_eq_true rfl) ?_
  intro pg en s mm below meth cd hx hb hr hml hown hts hlk hF hR ls hl
  have hinX2 : ∀ w ∈ wsX20, w ∈ wsX2_keepForBarrier := by decide +kernel
  have hl : lv_has ls 2 [(0, .ref (ad 4)), (1, .int (nI (p)))] := hl
  refine lv_aload_n hx hb dX2_keepForBarrier_0 rfl (lv_at hl 0 rfl) ?_
  refine z_get (own := RX2) (C := RX2) (T := TX2) (N := 4) (k := 2) (v := .ref (ad 7)) hx hb hts hinX2 hown hF hR (wX_c4 S) rfl (by decide) (by decide +kernel) rfl rfl dX2_keepForBarrier_1 ?_
  refine lv_iload_n hx hb dX2_keepForBarrier_4 rfl (lv_at hl 1 rfl) ?_
  refine lv_iconst (v := (nI (1))) hx hb dX2_keepForBarrier_5 (by decide) ?_
  refine z_zast_n (f := S 4) hx hb hF (hG S) hR (wX_c7 S) zT_1 (wX_s4 S (upd (S 4) (p) (nI (1)))) dX2_keepForBarrier_6 (by decide) (by omega) (by decide +kernel) (fun H locs hR => ?_)
  refine lv_aload_n hx hb dX2_keepForBarrier_7 rfl (lv_at hl 0 rfl) ?_
  refine z_get (own := RX2) (C := RX2) (T := TX2) (N := 4) (k := 3) (v := .ref (ad 8)) hx hb hts hinX2 hown hF hR (wX_c4 (zU S 4 (upd (S 4) (p) (nI (1))))) rfl (by decide) (by decide +kernel) rfl rfl dX2_keepForBarrier_8 ?_
  refine lv_iload_n hx hb dX2_keepForBarrier_11 rfl (lv_at hl 1 rfl) ?_
  refine lv_aload_n hx hb dX2_keepForBarrier_12 rfl (lv_at hl 0 rfl) ?_
  refine z_get (own := RX2) (C := RX2) (T := TX2) (N := 4) (k := 0) (v := .ref (ad 5)) hx hb hts hinX2 hown hF hR (wX_c4 (zU S 4 (upd (S 4) (p) (nI (1))))) rfl (by decide) (by decide +kernel) rfl rfl dX2_keepForBarrier_13 ?_
  refine lv_iload_n hx hb dX2_keepForBarrier_16 rfl (lv_at hl 1 rfl) ?_
  refine z_iald_n (f := S 2) hx hb hF hR (wX_c5 (zU S 4 (upd (S 4) (p) (nI (1))))) zT_0 dX2_keepForBarrier_17 (by decide) (by omega) ?_
  refine lv_topi (fun v2 ev2 => ?_)
  obtain rfl : v2 = (nI (zn S 2 (p))) := ev2.trans (zOK.n2 hO _).1
  have hb17_1 := (zOK.n2 hO (p)).2
  refine z_iast_n (f := S 5) hx hb hF (hG (zU S 4 (upd (S 4) (p) (nI (1))))) hR (wX_c8 (zU S 4 (upd (S 4) (p) (nI (1))))) zT_0 (wX_s5 (zU S 4 (upd (S 4) (p) (nI (1)))) (upd (S 5) (p) (nI (zn S 2 (p))))) dX2_keepForBarrier_18 (by decide) (by omega) (fun H locs hR => ?_)
  refine lv_aload_n hx hb dX2_keepForBarrier_19 rfl (lv_at hl 0 rfl) ?_
  refine z_get (own := RX2) (C := RX2) (T := TX2) (N := 4) (k := 3) (v := .ref (ad 8)) hx hb hts hinX2 hown hF hR (wX_c4 (zU (zU S 4 (upd (S 4) (p) (nI (1)))) 5 (upd (S 5) (p) (nI (zn S 2 (p)))))) rfl (by decide) (by decide +kernel) rfl rfl dX2_keepForBarrier_20 ?_
  refine lv_iload_n hx hb dX2_keepForBarrier_23 rfl (lv_at hl 1 rfl) ?_
  refine z_iald_n (f := (upd (S 5) (p) (nI (zn S 2 (p))))) hx hb hF hR (wX_c8 (zU (zU S 4 (upd (S 4) (p) (nI (1)))) 5 (upd (S 5) (p) (nI (zn S 2 (p)))))) zT_0 dX2_keepForBarrier_24 (by decide) (by omega) ?_
  exact z_iret (w := wX cI cZ ad) (S1 := (zU (zU S 4 (upd (S 4) (p) (nI (1)))) 5 (upd (S 5) (p) (nI (zn S 2 (p)))))) hx hb hr hlk hF hR dX2_keepForBarrier_25 (⟨pk_us, rfl⟩)
set_option maxHeartbeats 4000000 in
set_option maxRecDepth 100000 in
theorem c_X2_forgetBarriers {l : Launch} {D : va_G} {cI cZ : ClassId} {ad : Nat → Nat} {B : Nat → Prop} (hG : ∀ S : zS, va_D B (wX cI cZ ad S)) (S : zS)  : zMv l yX2_forgetBarriers wsX2_forgetBarriers ({ frames := 0, cells := 0, slots := 0, locals := 0 } : Room) [.ref (ad 4)] D (zT cI cZ) B (wX cI cZ ad) S (fun (S1 : zS) => S1 = zU S 4 (sp_z (S 4) 4)) := by
  refine zMv_of (cc := cX2_forgetBarriers) (maxL := 2) (ret := none) (by decide) rfl (Nat.le_of_ble_eq_true rfl) ?_
  intro pg en s mm below meth cd hx hb hr hml hown hts hlk hF hR ls hl
  have hinX2 : ∀ w ∈ wsX20, w ∈ wsX2_forgetBarriers := by decide +kernel
  have hl : lv_has ls 2 [(0, .ref (ad 4))] := hl
  refine lv_iconst (v := (nI (0))) hx hb dX2_forgetBarriers_0 (by decide) ?_
  refine lv_istore_n (lv' := [(1, .int (nI (0))), (0, .ref (ad 4))]) hx hb dX2_forgetBarriers_1 rfl hl (by decide) rfl (fun ls hl => ?_)
  have loop2 : ∀ (nf2 : Nat) (k : Nat), (k ≤ 4) → 4 - k < nf2 → ∀ (H : Heap) (locs : List Loc), zR D B (wX cI cZ ad (zU S 4 (sp_z (S 4) k))) s H locs → ∀ ls : Array Slot, lv_has ls 2 [(0, .ref (ad 4)), (1, .int (nI (k)))] → W pg l en ({ frames := 0, cells := 0, slots := 0, locals := 0 } : Room) s mm ([.ref (ad 4)] : List Value).toArray below meth cd H locs 0 0 (MQ below (va_Qv (fun (S1 : zS) => S1 = zU S 4 (sp_z (S 4) 4)) (zB D (zT cI cZ) (wX cI cZ ad)) (zA B s.heap.size)) ([.ref (ad 4)] : List Value).toArray s 0 0 (zA B s.heap.size)) (F0 mm 2 ls []) := by
    intro nf2
    induction nf2 with
    | zero => intro k hk4 hn; exact absurd hn (Nat.not_lt_zero _)
    | succ nf2 ih2 =>
      intro k hk4 hn H locs hR ls hl
      refine lv_iload_n hx hb dX2_forgetBarriers_2 rfl (lv_at hl 1 rfl) ?_
      refine lv_iconst (v := (nI (4))) hx hb dX2_forgetBarriers_3 (by decide) ?_
      refine z_ge_n (tgt := 20) hx hb dX2_forgetBarriers_4 (by decide) (by omega) (by omega) (fun h4_1 => ?_) (fun h4_1 => ?_)
      · skip
        exact z_vret (w := wX cI cZ ad) (S1 := (zU S 4 (sp_z (S 4) k))) hx hb hr hlk hF hR dX2_forgetBarriers_20 (by rw [show (4 : Nat) = k from by omega])
      · skip
        refine lv_aload_n hx hb dX2_forgetBarriers_7 rfl (lv_at hl 0 rfl) ?_
        refine z_get (own := RX2) (C := RX2) (T := TX2) (N := 4) (k := 2) (v := .ref (ad 7)) hx hb hts hinX2 hown hF hR (wX_c4 (zU S 4 (sp_z (S 4) k))) rfl (by decide) (by decide +kernel) rfl rfl dX2_forgetBarriers_8 ?_
        refine lv_iload_n hx hb dX2_forgetBarriers_11 rfl (lv_at hl 1 rfl) ?_
        refine lv_iconst (v := (nI (0))) hx hb dX2_forgetBarriers_12 (by decide) ?_
        refine z_zast_n (f := (sp_z (S 4) k)) hx hb hF (hG (zU S 4 (sp_z (S 4) k))) hR (wX_c7 (zU S 4 (sp_z (S 4) k))) zT_1 (wX_s4 (zU S 4 (sp_z (S 4) k)) (upd ((sp_z (S 4) k)) (k) (nI (0)))) dX2_forgetBarriers_13 (by decide) (by omega) (by decide +kernel) (fun H locs hR => ?_)
        have hR : zR D B (wX cI cZ ad (zU S 4 (upd ((sp_z (S 4) k)) (k) (nI (0))))) s H locs := by rw [show (zU S 4 (upd ((sp_z (S 4) k)) (k) (nI (0)))) = zU (zU S 4 (sp_z (S 4) k)) 4 (upd ((sp_z (S 4) k)) (k) (nI (0))) from (zU_U _ _ _ _).symm]; exact hR
        refine lv_iinc (v := (nI (k + 1))) (lv' := [(1, .int (nI (k + 1))), (0, .ref (ad 4))]) hx hb dX2_forgetBarriers_14 hl (k := 1) rfl (z_inc _) (by decide) rfl (fun ls hl => ?_)
        refine lv_goto (tgt := 2) hx hb dX2_forgetBarriers_17 (by decide) ?_
        exact ih2 (k + 1) (by omega) (by omega) _ _ (by rw [show zU S 4 (sp_z (S 4) (k + 1)) = (zU S 4 (upd ((sp_z (S 4) k)) (k) (nI (0)))) from rfl]; exact hR) ls (lv_sub hl [1, 0] rfl)
  exact loop2 _ 0 (by omega) (Nat.lt_succ_self _) _ _ (by rw [show zU S 4 (sp_z (S 4) 0) = S from zU_self S 4]; exact hR) ls (lv_sub hl [1, 0] rfl)
set_option maxHeartbeats 4000000 in
set_option maxRecDepth 100000 in
theorem c_X2_keepAll {l : Launch} {D : va_G} {cI cZ : ClassId} {ad : Nat → Nat} {B : Nat → Prop} (hG : ∀ S : zS, va_D B (wX cI cZ ad S)) (S : zS)  : zMv l yX2_keepAll wsX2_keepAll ({ frames := 0, cells := 0, slots := 0, locals := 0 } : Room) [.ref (ad 4)] D (zT cI cZ) B (wX cI cZ ad) S (fun (S1 : zS) => S1 = zU S 3 (sp_cp (S 3) (S 5) 4)) := by
  refine zMv_of (cc := cX2_keepAll) (maxL := 2) (ret := none) (by decide) rfl (Nat.le_of_ble_eq_true rfl) ?_
  intro pg en s mm below meth cd hx hb hr hml hown hts hlk hF hR ls hl
  have hinX2 : ∀ w ∈ wsX20, w ∈ wsX2_keepAll := by decide +kernel
  have hl : lv_has ls 2 [(0, .ref (ad 4))] := hl
  refine lv_iconst (v := (nI (0))) hx hb dX2_keepAll_0 (by decide) ?_
  refine lv_istore_n (lv' := [(1, .int (nI (0))), (0, .ref (ad 4))]) hx hb dX2_keepAll_1 rfl hl (by decide) rfl (fun ls hl => ?_)
  have loop2 : ∀ (nf2 : Nat) (k : Nat), (k ≤ 4) → 4 - k < nf2 → ∀ (H : Heap) (locs : List Loc), zR D B (wX cI cZ ad (zU S 3 (sp_cp (S 3) (S 5) k))) s H locs → ∀ ls : Array Slot, lv_has ls 2 [(0, .ref (ad 4)), (1, .int (nI (k)))] → W pg l en ({ frames := 0, cells := 0, slots := 0, locals := 0 } : Room) s mm ([.ref (ad 4)] : List Value).toArray below meth cd H locs 0 0 (MQ below (va_Qv (fun (S1 : zS) => S1 = zU S 3 (sp_cp (S 3) (S 5) 4)) (zB D (zT cI cZ) (wX cI cZ ad)) (zA B s.heap.size)) ([.ref (ad 4)] : List Value).toArray s 0 0 (zA B s.heap.size)) (F0 mm 2 ls []) := by
    intro nf2
    induction nf2 with
    | zero => intro k hk4 hn; exact absurd hn (Nat.not_lt_zero _)
    | succ nf2 ih2 =>
      intro k hk4 hn H locs hR ls hl
      refine lv_iload_n hx hb dX2_keepAll_2 rfl (lv_at hl 1 rfl) ?_
      refine lv_iconst (v := (nI (4))) hx hb dX2_keepAll_3 (by decide) ?_
      refine z_ge_n (tgt := 25) hx hb dX2_keepAll_4 (by decide) (by omega) (by omega) (fun h4_1 => ?_) (fun h4_1 => ?_)
      · skip
        exact z_vret (w := wX cI cZ ad) (S1 := (zU S 3 (sp_cp (S 3) (S 5) k))) hx hb hr hlk hF hR dX2_keepAll_25 (by rw [show (4 : Nat) = k from by omega])
      · skip
        refine lv_aload_n hx hb dX2_keepAll_7 rfl (lv_at hl 0 rfl) ?_
        refine z_get (own := RX2) (C := RX2) (T := TX2) (N := 4) (k := 1) (v := .ref (ad 6)) hx hb hts hinX2 hown hF hR (wX_c4 (zU S 3 (sp_cp (S 3) (S 5) k))) rfl (by decide) (by decide +kernel) rfl rfl dX2_keepAll_8 ?_
        refine lv_iload_n hx hb dX2_keepAll_11 rfl (lv_at hl 1 rfl) ?_
        refine lv_aload_n hx hb dX2_keepAll_12 rfl (lv_at hl 0 rfl) ?_
        refine z_get (own := RX2) (C := RX2) (T := TX2) (N := 4) (k := 3) (v := .ref (ad 8)) hx hb hts hinX2 hown hF hR (wX_c4 (zU S 3 (sp_cp (S 3) (S 5) k))) rfl (by decide) (by decide +kernel) rfl rfl dX2_keepAll_13 ?_
        refine lv_iload_n hx hb dX2_keepAll_16 rfl (lv_at hl 1 rfl) ?_
        refine z_iald_n (f := S 5) hx hb hF hR (wX_c8 (zU S 3 (sp_cp (S 3) (S 5) k))) zT_0 dX2_keepAll_17 (by decide) (by omega) ?_
        refine z_iast_n (f := (sp_cp (S 3) (S 5) k)) hx hb hF (hG (zU S 3 (sp_cp (S 3) (S 5) k))) hR (wX_c6 (zU S 3 (sp_cp (S 3) (S 5) k))) zT_0 (wX_s3 (zU S 3 (sp_cp (S 3) (S 5) k)) (upd ((sp_cp (S 3) (S 5) k)) (k) (S 5 (k)))) dX2_keepAll_18 (by decide) (by omega) (fun H locs hR => ?_)
        have hR : zR D B (wX cI cZ ad (zU S 3 (upd ((sp_cp (S 3) (S 5) k)) (k) (S 5 (k))))) s H locs := by rw [show (zU S 3 (upd ((sp_cp (S 3) (S 5) k)) (k) (S 5 (k)))) = zU (zU S 3 (sp_cp (S 3) (S 5) k)) 3 (upd ((sp_cp (S 3) (S 5) k)) (k) (S 5 (k))) from (zU_U _ _ _ _).symm]; exact hR
        refine lv_iinc (v := (nI (k + 1))) (lv' := [(1, .int (nI (k + 1))), (0, .ref (ad 4))]) hx hb dX2_keepAll_19 hl (k := 1) rfl (z_inc _) (by decide) rfl (fun ls hl => ?_)
        refine lv_goto (tgt := 2) hx hb dX2_keepAll_22 (by decide) ?_
        exact ih2 (k + 1) (by omega) (by omega) _ _ (by rw [show zU S 3 (sp_cp (S 3) (S 5) (k + 1)) = (zU S 3 (upd ((sp_cp (S 3) (S 5) k)) (k) (S 5 (k)))) from rfl]; exact hR) ls (lv_sub hl [1, 0] rfl)
  exact loop2 _ 0 (by omega) (Nat.lt_succ_self _) _ _ (by rw [show zU S 3 (sp_cp (S 3) (S 5) 0) = S from zU_self S 3]; exact hR) ls (lv_sub hl [1, 0] rfl)
set_option maxHeartbeats 4000000 in
set_option maxRecDepth 100000 in
theorem c_X2_returnToKept {l : Launch} {D : va_G} {cI cZ : ClassId} {ad : Nat → Nat} {B : Nat → Prop} (hG : ∀ S : zS, va_D B (wX cI cZ ad S)) (S : zS)  : zMv l yX2_returnToKept wsX2_returnToKept ({ frames := 0, cells := 0, slots := 0, locals := 0 } : Room) [.ref (ad 4)] D (zT cI cZ) B (wX cI cZ ad) S (fun (S1 : zS) => S1 = zU S 2 (sp_cp (S 2) (S 3) 4)) := by
  refine zMv_of (cc := cX2_returnToKept) (maxL := 2) (ret := none) (by decide) rfl (Nat.le_of_ble_eq_true rfl) ?_
  intro pg en s mm below meth cd hx hb hr hml hown hts hlk hF hR ls hl
  have hinX2 : ∀ w ∈ wsX20, w ∈ wsX2_returnToKept := by decide +kernel
  have hl : lv_has ls 2 [(0, .ref (ad 4))] := hl
  refine lv_iconst (v := (nI (0))) hx hb dX2_returnToKept_0 (by decide) ?_
  refine lv_istore_n (lv' := [(1, .int (nI (0))), (0, .ref (ad 4))]) hx hb dX2_returnToKept_1 rfl hl (by decide) rfl (fun ls hl => ?_)
  have loop2 : ∀ (nf2 : Nat) (k : Nat), (k ≤ 4) → 4 - k < nf2 → ∀ (H : Heap) (locs : List Loc), zR D B (wX cI cZ ad (zU S 2 (sp_cp (S 2) (S 3) k))) s H locs → ∀ ls : Array Slot, lv_has ls 2 [(0, .ref (ad 4)), (1, .int (nI (k)))] → W pg l en ({ frames := 0, cells := 0, slots := 0, locals := 0 } : Room) s mm ([.ref (ad 4)] : List Value).toArray below meth cd H locs 0 0 (MQ below (va_Qv (fun (S1 : zS) => S1 = zU S 2 (sp_cp (S 2) (S 3) 4)) (zB D (zT cI cZ) (wX cI cZ ad)) (zA B s.heap.size)) ([.ref (ad 4)] : List Value).toArray s 0 0 (zA B s.heap.size)) (F0 mm 2 ls []) := by
    intro nf2
    induction nf2 with
    | zero => intro k hk4 hn; exact absurd hn (Nat.not_lt_zero _)
    | succ nf2 ih2 =>
      intro k hk4 hn H locs hR ls hl
      refine lv_iload_n hx hb dX2_returnToKept_2 rfl (lv_at hl 1 rfl) ?_
      refine lv_iconst (v := (nI (4))) hx hb dX2_returnToKept_3 (by decide) ?_
      refine z_ge_n (tgt := 25) hx hb dX2_returnToKept_4 (by decide) (by omega) (by omega) (fun h4_1 => ?_) (fun h4_1 => ?_)
      · skip
        exact z_vret (w := wX cI cZ ad) (S1 := (zU S 2 (sp_cp (S 2) (S 3) k))) hx hb hr hlk hF hR dX2_returnToKept_25 (by rw [show (4 : Nat) = k from by omega])
      · skip
        refine lv_aload_n hx hb dX2_returnToKept_7 rfl (lv_at hl 0 rfl) ?_
        refine z_get (own := RX2) (C := RX2) (T := TX2) (N := 4) (k := 0) (v := .ref (ad 5)) hx hb hts hinX2 hown hF hR (wX_c4 (zU S 2 (sp_cp (S 2) (S 3) k))) rfl (by decide) (by decide +kernel) rfl rfl dX2_returnToKept_8 ?_
        refine lv_iload_n hx hb dX2_returnToKept_11 rfl (lv_at hl 1 rfl) ?_
        refine lv_aload_n hx hb dX2_returnToKept_12 rfl (lv_at hl 0 rfl) ?_
        refine z_get (own := RX2) (C := RX2) (T := TX2) (N := 4) (k := 1) (v := .ref (ad 6)) hx hb hts hinX2 hown hF hR (wX_c4 (zU S 2 (sp_cp (S 2) (S 3) k))) rfl (by decide) (by decide +kernel) rfl rfl dX2_returnToKept_13 ?_
        refine lv_iload_n hx hb dX2_returnToKept_16 rfl (lv_at hl 1 rfl) ?_
        refine z_iald_n (f := S 3) hx hb hF hR (wX_c6 (zU S 2 (sp_cp (S 2) (S 3) k))) zT_0 dX2_returnToKept_17 (by decide) (by omega) ?_
        refine z_iast_n (f := (sp_cp (S 2) (S 3) k)) hx hb hF (hG (zU S 2 (sp_cp (S 2) (S 3) k))) hR (wX_c5 (zU S 2 (sp_cp (S 2) (S 3) k))) zT_0 (wX_s2 (zU S 2 (sp_cp (S 2) (S 3) k)) (upd ((sp_cp (S 2) (S 3) k)) (k) (S 3 (k)))) dX2_returnToKept_18 (by decide) (by omega) (fun H locs hR => ?_)
        have hR : zR D B (wX cI cZ ad (zU S 2 (upd ((sp_cp (S 2) (S 3) k)) (k) (S 3 (k))))) s H locs := by rw [show (zU S 2 (upd ((sp_cp (S 2) (S 3) k)) (k) (S 3 (k)))) = zU (zU S 2 (sp_cp (S 2) (S 3) k)) 2 (upd ((sp_cp (S 2) (S 3) k)) (k) (S 3 (k))) from (zU_U _ _ _ _).symm]; exact hR
        refine lv_iinc (v := (nI (k + 1))) (lv' := [(1, .int (nI (k + 1))), (0, .ref (ad 4))]) hx hb dX2_returnToKept_19 hl (k := 1) rfl (z_inc _) (by decide) rfl (fun ls hl => ?_)
        refine lv_goto (tgt := 2) hx hb dX2_returnToKept_22 (by decide) ?_
        exact ih2 (k + 1) (by omega) (by omega) _ _ (by rw [show zU S 2 (sp_cp (S 2) (S 3) (k + 1)) = (zU S 2 (upd ((sp_cp (S 2) (S 3) k)) (k) (S 3 (k)))) from rfl]; exact hR) ls (lv_sub hl [1, 0] rfl)
  exact loop2 _ 0 (by omega) (Nat.lt_succ_self _) _ _ (by rw [show zU S 2 (sp_cp (S 2) (S 3) 0) = S from zU_self S 2]; exact hR) ls (lv_sub hl [1, 0] rfl)
set_option maxHeartbeats 4000000 in
set_option maxRecDepth 100000 in
theorem c_X3_add_t0 {l : Launch} {D : va_G} {cI cZ : ClassId} {ad : Nat → Nat} {B : Nat → Prop} (hG : ∀ S : zS, va_D B (wX cI cZ ad S)) (S : zS) (key : Nat) (a b : Int32) (hk : key < 32) : zMv l yX3_add wsX3_add ({ frames := 0, cells := 0, slots := 0, locals := 0 } : Room) [.ref (ad 13), .int (nI (key)), .int (a), .int (b)] D (zT cI cZ) B (wX cI cZ ad) S (fun (S1 : zS) => S1 = sp_tadd S 9 key a b) := by
  refine zMv_of (cc := cX3_add) (maxL := 4) (ret := none) (by decide) rfl (Nat.le_of_ble_eq_true rfl) ?_
  intro pg en s mm below meth cd hx hb hr hml hown hts hlk hF hR ls hl
  have hinX3 : ∀ w ∈ wsX30, w ∈ wsX3_add := by decide +kernel
  have hl : lv_has ls 4 [(0, .ref (ad 13)), (1, .int (nI (key))), (2, .int (a)), (3, .int (b))] := hl
  refine lv_aload_n hx hb dX3_add_0 rfl (lv_at hl 0 rfl) ?_
  refine z_get (own := RX3) (C := RX3) (T := TX3) (N := 2) (k := 0) (v := .ref (ad 14)) hx hb hts hinX3 hown hF hR (wX_c13 S) rfl (by decide) (by decide +kernel) rfl rfl dX3_add_1 ?_
  refine lv_iload_n hx hb dX3_add_4 rfl (lv_at hl 1 rfl) ?_
  refine lv_dup2_11 hx hb dX3_add_5 rfl rfl ?_
  refine z_iald_n (f := S 9) hx hb hF hR (wX_c14 S) zT_0 dX3_add_6 (by decide) (by omega) ?_
  refine lv_iload_n hx hb dX3_add_7 rfl (lv_at hl 2 rfl) ?_
  refine lv_iadd hx hb dX3_add_8 ?_
  refine z_iast_n (f := S 9) hx hb hF (hG S) hR (wX_c14 S) zT_0 (wX_s9 S (upd (S 9) (key) ((S 9 (key)) + (a)))) dX3_add_9 (by decide) (by omega) (fun H locs hR => ?_)
  refine lv_aload_n hx hb dX3_add_10 rfl (lv_at hl 0 rfl) ?_
  refine z_get (own := RX3) (C := RX3) (T := TX3) (N := 2) (k := 1) (v := .ref (ad 15)) hx hb hts hinX3 hown hF hR (wX_c13 (zU S 9 (upd (S 9) (key) ((S 9 (key)) + (a))))) rfl (by decide) (by decide +kernel) rfl rfl dX3_add_11 ?_
  refine lv_iload_n hx hb dX3_add_14 rfl (lv_at hl 1 rfl) ?_
  refine lv_dup2_11 hx hb dX3_add_15 rfl rfl ?_
  refine z_iald_n (f := S 10) hx hb hF hR (wX_c15 (zU S 9 (upd (S 9) (key) ((S 9 (key)) + (a))))) zT_0 dX3_add_16 (by decide) (by omega) ?_
  refine lv_iload_n hx hb dX3_add_17 rfl (lv_at hl 3 rfl) ?_
  refine lv_iadd hx hb dX3_add_18 ?_
  refine z_iast_n (f := S 10) hx hb hF (hG (zU S 9 (upd (S 9) (key) ((S 9 (key)) + (a))))) hR (wX_c15 (zU S 9 (upd (S 9) (key) ((S 9 (key)) + (a))))) zT_0 (wX_s10 (zU S 9 (upd (S 9) (key) ((S 9 (key)) + (a)))) (upd (S 10) (key) ((S 10 (key)) + (b)))) dX3_add_19 (by decide) (by omega) (fun H locs hR => ?_)
  exact z_vret (w := wX cI cZ ad) (S1 := (zU (zU S 9 (upd (S 9) (key) ((S 9 (key)) + (a)))) 10 (upd (S 10) (key) ((S 10 (key)) + (b))))) hx hb hr hlk hF hR dX3_add_20 (rfl)
set_option maxHeartbeats 4000000 in
set_option maxRecDepth 100000 in
theorem c_X3_add_t1 {l : Launch} {D : va_G} {cI cZ : ClassId} {ad : Nat → Nat} {B : Nat → Prop} (hG : ∀ S : zS, va_D B (wX cI cZ ad S)) (S : zS) (key : Nat) (a b : Int32) (hk : key < 32) : zMv l yX3_add wsX3_add ({ frames := 0, cells := 0, slots := 0, locals := 0 } : Room) [.ref (ad 16), .int (nI (key)), .int (a), .int (b)] D (zT cI cZ) B (wX cI cZ ad) S (fun (S1 : zS) => S1 = sp_tadd S 11 key a b) := by
  refine zMv_of (cc := cX3_add) (maxL := 4) (ret := none) (by decide) rfl (Nat.le_of_ble_eq_true rfl) ?_
  intro pg en s mm below meth cd hx hb hr hml hown hts hlk hF hR ls hl
  have hinX3 : ∀ w ∈ wsX30, w ∈ wsX3_add := by decide +kernel
  have hl : lv_has ls 4 [(0, .ref (ad 16)), (1, .int (nI (key))), (2, .int (a)), (3, .int (b))] := hl
  refine lv_aload_n hx hb dX3_add_0 rfl (lv_at hl 0 rfl) ?_
  refine z_get (own := RX3) (C := RX3) (T := TX3) (N := 2) (k := 0) (v := .ref (ad 17)) hx hb hts hinX3 hown hF hR (wX_c16 S) rfl (by decide) (by decide +kernel) rfl rfl dX3_add_1 ?_
  refine lv_iload_n hx hb dX3_add_4 rfl (lv_at hl 1 rfl) ?_
  refine lv_dup2_11 hx hb dX3_add_5 rfl rfl ?_
  refine z_iald_n (f := S 11) hx hb hF hR (wX_c17 S) zT_0 dX3_add_6 (by decide) (by omega) ?_
  refine lv_iload_n hx hb dX3_add_7 rfl (lv_at hl 2 rfl) ?_
  refine lv_iadd hx hb dX3_add_8 ?_
  refine z_iast_n (f := S 11) hx hb hF (hG S) hR (wX_c17 S) zT_0 (wX_s11 S (upd (S 11) (key) ((S 11 (key)) + (a)))) dX3_add_9 (by decide) (by omega) (fun H locs hR => ?_)
  refine lv_aload_n hx hb dX3_add_10 rfl (lv_at hl 0 rfl) ?_
  refine z_get (own := RX3) (C := RX3) (T := TX3) (N := 2) (k := 1) (v := .ref (ad 18)) hx hb hts hinX3 hown hF hR (wX_c16 (zU S 11 (upd (S 11) (key) ((S 11 (key)) + (a))))) rfl (by decide) (by decide +kernel) rfl rfl dX3_add_11 ?_
  refine lv_iload_n hx hb dX3_add_14 rfl (lv_at hl 1 rfl) ?_
  refine lv_dup2_11 hx hb dX3_add_15 rfl rfl ?_
  refine z_iald_n (f := S 12) hx hb hF hR (wX_c18 (zU S 11 (upd (S 11) (key) ((S 11 (key)) + (a))))) zT_0 dX3_add_16 (by decide) (by omega) ?_
  refine lv_iload_n hx hb dX3_add_17 rfl (lv_at hl 3 rfl) ?_
  refine lv_iadd hx hb dX3_add_18 ?_
  refine z_iast_n (f := S 12) hx hb hF (hG (zU S 11 (upd (S 11) (key) ((S 11 (key)) + (a))))) hR (wX_c18 (zU S 11 (upd (S 11) (key) ((S 11 (key)) + (a))))) zT_0 (wX_s12 (zU S 11 (upd (S 11) (key) ((S 11 (key)) + (a)))) (upd (S 12) (key) ((S 12 (key)) + (b)))) dX3_add_19 (by decide) (by omega) (fun H locs hR => ?_)
  exact z_vret (w := wX cI cZ ad) (S1 := (zU (zU S 11 (upd (S 11) (key) ((S 11 (key)) + (a)))) 12 (upd (S 12) (key) ((S 12 (key)) + (b))))) hx hb hr hlk hF hR dX3_add_20 (rfl)
set_option maxHeartbeats 4000000 in
set_option maxRecDepth 100000 in
theorem c_X3_add_t2 {l : Launch} {D : va_G} {cI cZ : ClassId} {ad : Nat → Nat} {B : Nat → Prop} (hG : ∀ S : zS, va_D B (wX cI cZ ad S)) (S : zS) (key : Nat) (a b : Int32) (hk : key < 32) : zMv l yX3_add wsX3_add ({ frames := 0, cells := 0, slots := 0, locals := 0 } : Room) [.ref (ad 19), .int (nI (key)), .int (a), .int (b)] D (zT cI cZ) B (wX cI cZ ad) S (fun (S1 : zS) => S1 = sp_tadd S 13 key a b) := by
  refine zMv_of (cc := cX3_add) (maxL := 4) (ret := none) (by decide) rfl (Nat.le_of_ble_eq_true rfl) ?_
  intro pg en s mm below meth cd hx hb hr hml hown hts hlk hF hR ls hl
  have hinX3 : ∀ w ∈ wsX30, w ∈ wsX3_add := by decide +kernel
  have hl : lv_has ls 4 [(0, .ref (ad 19)), (1, .int (nI (key))), (2, .int (a)), (3, .int (b))] := hl
  refine lv_aload_n hx hb dX3_add_0 rfl (lv_at hl 0 rfl) ?_
  refine z_get (own := RX3) (C := RX3) (T := TX3) (N := 2) (k := 0) (v := .ref (ad 20)) hx hb hts hinX3 hown hF hR (wX_c19 S) rfl (by decide) (by decide +kernel) rfl rfl dX3_add_1 ?_
  refine lv_iload_n hx hb dX3_add_4 rfl (lv_at hl 1 rfl) ?_
  refine lv_dup2_11 hx hb dX3_add_5 rfl rfl ?_
  refine z_iald_n (f := S 13) hx hb hF hR (wX_c20 S) zT_0 dX3_add_6 (by decide) (by omega) ?_
  refine lv_iload_n hx hb dX3_add_7 rfl (lv_at hl 2 rfl) ?_
  refine lv_iadd hx hb dX3_add_8 ?_
  refine z_iast_n (f := S 13) hx hb hF (hG S) hR (wX_c20 S) zT_0 (wX_s13 S (upd (S 13) (key) ((S 13 (key)) + (a)))) dX3_add_9 (by decide) (by omega) (fun H locs hR => ?_)
  refine lv_aload_n hx hb dX3_add_10 rfl (lv_at hl 0 rfl) ?_
  refine z_get (own := RX3) (C := RX3) (T := TX3) (N := 2) (k := 1) (v := .ref (ad 21)) hx hb hts hinX3 hown hF hR (wX_c19 (zU S 13 (upd (S 13) (key) ((S 13 (key)) + (a))))) rfl (by decide) (by decide +kernel) rfl rfl dX3_add_11 ?_
  refine lv_iload_n hx hb dX3_add_14 rfl (lv_at hl 1 rfl) ?_
  refine lv_dup2_11 hx hb dX3_add_15 rfl rfl ?_
  refine z_iald_n (f := S 14) hx hb hF hR (wX_c21 (zU S 13 (upd (S 13) (key) ((S 13 (key)) + (a))))) zT_0 dX3_add_16 (by decide) (by omega) ?_
  refine lv_iload_n hx hb dX3_add_17 rfl (lv_at hl 3 rfl) ?_
  refine lv_iadd hx hb dX3_add_18 ?_
  refine z_iast_n (f := S 14) hx hb hF (hG (zU S 13 (upd (S 13) (key) ((S 13 (key)) + (a))))) hR (wX_c21 (zU S 13 (upd (S 13) (key) ((S 13 (key)) + (a))))) zT_0 (wX_s14 (zU S 13 (upd (S 13) (key) ((S 13 (key)) + (a)))) (upd (S 14) (key) ((S 14 (key)) + (b)))) dX3_add_19 (by decide) (by omega) (fun H locs hR => ?_)
  exact z_vret (w := wX cI cZ ad) (S1 := (zU (zU S 13 (upd (S 13) (key) ((S 13 (key)) + (a)))) 14 (upd (S 14) (key) ((S 14 (key)) + (b))))) hx hb hr hlk hF hR dX3_add_20 (rfl)
set_option maxHeartbeats 4000000 in
set_option maxRecDepth 100000 in
theorem c_X3_add_t5 {l : Launch} {D : va_G} {cI cZ : ClassId} {ad : Nat → Nat} {B : Nat → Prop} (hG : ∀ S : zS, va_D B (wX cI cZ ad S)) (S : zS) (key : Nat) (a b : Int32) (hk : key < 32) : zMv l yX3_add wsX3_add ({ frames := 0, cells := 0, slots := 0, locals := 0 } : Room) [.ref (ad 28), .int (nI (key)), .int (a), .int (b)] D (zT cI cZ) B (wX cI cZ ad) S (fun (S1 : zS) => S1 = sp_tadd S 19 key a b) := by
  refine zMv_of (cc := cX3_add) (maxL := 4) (ret := none) (by decide) rfl (Nat.le_of_ble_eq_true rfl) ?_
  intro pg en s mm below meth cd hx hb hr hml hown hts hlk hF hR ls hl
  have hinX3 : ∀ w ∈ wsX30, w ∈ wsX3_add := by decide +kernel
  have hl : lv_has ls 4 [(0, .ref (ad 28)), (1, .int (nI (key))), (2, .int (a)), (3, .int (b))] := hl
  refine lv_aload_n hx hb dX3_add_0 rfl (lv_at hl 0 rfl) ?_
  refine z_get (own := RX3) (C := RX3) (T := TX3) (N := 2) (k := 0) (v := .ref (ad 29)) hx hb hts hinX3 hown hF hR (wX_c28 S) rfl (by decide) (by decide +kernel) rfl rfl dX3_add_1 ?_
  refine lv_iload_n hx hb dX3_add_4 rfl (lv_at hl 1 rfl) ?_
  refine lv_dup2_11 hx hb dX3_add_5 rfl rfl ?_
  refine z_iald_n (f := S 19) hx hb hF hR (wX_c29 S) zT_0 dX3_add_6 (by decide) (by omega) ?_
  refine lv_iload_n hx hb dX3_add_7 rfl (lv_at hl 2 rfl) ?_
  refine lv_iadd hx hb dX3_add_8 ?_
  refine z_iast_n (f := S 19) hx hb hF (hG S) hR (wX_c29 S) zT_0 (wX_s19 S (upd (S 19) (key) ((S 19 (key)) + (a)))) dX3_add_9 (by decide) (by omega) (fun H locs hR => ?_)
  refine lv_aload_n hx hb dX3_add_10 rfl (lv_at hl 0 rfl) ?_
  refine z_get (own := RX3) (C := RX3) (T := TX3) (N := 2) (k := 1) (v := .ref (ad 30)) hx hb hts hinX3 hown hF hR (wX_c28 (zU S 19 (upd (S 19) (key) ((S 19 (key)) + (a))))) rfl (by decide) (by decide +kernel) rfl rfl dX3_add_11 ?_
  refine lv_iload_n hx hb dX3_add_14 rfl (lv_at hl 1 rfl) ?_
  refine lv_dup2_11 hx hb dX3_add_15 rfl rfl ?_
  refine z_iald_n (f := S 20) hx hb hF hR (wX_c30 (zU S 19 (upd (S 19) (key) ((S 19 (key)) + (a))))) zT_0 dX3_add_16 (by decide) (by omega) ?_
  refine lv_iload_n hx hb dX3_add_17 rfl (lv_at hl 3 rfl) ?_
  refine lv_iadd hx hb dX3_add_18 ?_
  refine z_iast_n (f := S 20) hx hb hF (hG (zU S 19 (upd (S 19) (key) ((S 19 (key)) + (a))))) hR (wX_c30 (zU S 19 (upd (S 19) (key) ((S 19 (key)) + (a))))) zT_0 (wX_s20 (zU S 19 (upd (S 19) (key) ((S 19 (key)) + (a)))) (upd (S 20) (key) ((S 20 (key)) + (b)))) dX3_add_19 (by decide) (by omega) (fun H locs hR => ?_)
  exact z_vret (w := wX cI cZ ad) (S1 := (zU (zU S 19 (upd (S 19) (key) ((S 19 (key)) + (a)))) 20 (upd (S 20) (key) ((S 20 (key)) + (b))))) hx hb hr hlk hF hR dX3_add_20 (rfl)
set_option maxHeartbeats 4000000 in
set_option maxRecDepth 100000 in
theorem c_X3_copyKey_t3t0 {l : Launch} {D : va_G} {cI cZ : ClassId} {ad : Nat → Nat} {B : Nat → Prop} (hG : ∀ S : zS, va_D B (wX cI cZ ad S)) (S : zS) (key : Nat) (hk : key < 32) : zMv l yX3_copyKey wsX3_copyKey ({ frames := 0, cells := 0, slots := 0, locals := 0 } : Room) [.ref (ad 22), .ref (ad 13), .int (nI (key))] D (zT cI cZ) B (wX cI cZ ad) S (fun (S1 : zS) => S1 = sp_tck S 15 9 key) := by
  refine zMv_of (cc := cX3_copyKey) (maxL := 3) (ret := none) (by decide) rfl (Nat.le_of_ble_eq_true rfl) ?_
  intro pg en s mm below meth cd hx hb hr hml hown hts hlk hF hR ls hl
  have hinX3 : ∀ w ∈ wsX30, w ∈ wsX3_copyKey := by decide +kernel
  have hl : lv_has ls 3 [(0, .ref (ad 22)), (1, .ref (ad 13)), (2, .int (nI (key)))] := hl
  refine lv_aload_n hx hb dX3_copyKey_0 rfl (lv_at hl 0 rfl) ?_
  refine z_get (own := RX3) (C := RX3) (T := TX3) (N := 2) (k := 0) (v := .ref (ad 23)) hx hb hts hinX3 hown hF hR (wX_c22 S) rfl (by decide) (by decide +kernel) rfl rfl dX3_copyKey_1 ?_
  refine lv_iload_n hx hb dX3_copyKey_4 rfl (lv_at hl 2 rfl) ?_
  refine lv_aload_n hx hb dX3_copyKey_5 rfl (lv_at hl 1 rfl) ?_
  refine z_get (own := RX3) (C := RX3) (T := TX3) (N := 2) (k := 0) (v := .ref (ad 14)) hx hb hts hinX3 hown hF hR (wX_c13 S) rfl (by decide) (by decide +kernel) rfl rfl dX3_copyKey_6 ?_
  refine lv_iload_n hx hb dX3_copyKey_9 rfl (lv_at hl 2 rfl) ?_
  refine z_iald_n (f := S 9) hx hb hF hR (wX_c14 S) zT_0 dX3_copyKey_10 (by decide) (by omega) ?_
  refine z_iast_n (f := S 15) hx hb hF (hG S) hR (wX_c23 S) zT_0 (wX_s15 S (upd (S 15) (key) (S 9 (key)))) dX3_copyKey_11 (by decide) (by omega) (fun H locs hR => ?_)
  refine lv_aload_n hx hb dX3_copyKey_12 rfl (lv_at hl 0 rfl) ?_
  refine z_get (own := RX3) (C := RX3) (T := TX3) (N := 2) (k := 1) (v := .ref (ad 24)) hx hb hts hinX3 hown hF hR (wX_c22 (zU S 15 (upd (S 15) (key) (S 9 (key))))) rfl (by decide) (by decide +kernel) rfl rfl dX3_copyKey_13 ?_
  refine lv_iload_n hx hb dX3_copyKey_16 rfl (lv_at hl 2 rfl) ?_
  refine lv_aload_n hx hb dX3_copyKey_17 rfl (lv_at hl 1 rfl) ?_
  refine z_get (own := RX3) (C := RX3) (T := TX3) (N := 2) (k := 1) (v := .ref (ad 15)) hx hb hts hinX3 hown hF hR (wX_c13 (zU S 15 (upd (S 15) (key) (S 9 (key))))) rfl (by decide) (by decide +kernel) rfl rfl dX3_copyKey_18 ?_
  refine lv_iload_n hx hb dX3_copyKey_21 rfl (lv_at hl 2 rfl) ?_
  refine z_iald_n (f := S 10) hx hb hF hR (wX_c15 (zU S 15 (upd (S 15) (key) (S 9 (key))))) zT_0 dX3_copyKey_22 (by decide) (by omega) ?_
  refine z_iast_n (f := S 16) hx hb hF (hG (zU S 15 (upd (S 15) (key) (S 9 (key))))) hR (wX_c24 (zU S 15 (upd (S 15) (key) (S 9 (key))))) zT_0 (wX_s16 (zU S 15 (upd (S 15) (key) (S 9 (key)))) (upd (S 16) (key) (S 10 (key)))) dX3_copyKey_23 (by decide) (by omega) (fun H locs hR => ?_)
  exact z_vret (w := wX cI cZ ad) (S1 := (zU (zU S 15 (upd (S 15) (key) (S 9 (key)))) 16 (upd (S 16) (key) (S 10 (key))))) hx hb hr hlk hF hR dX3_copyKey_24 (rfl)
set_option maxHeartbeats 4000000 in
set_option maxRecDepth 100000 in
theorem c_X3_copyAll_t4t3 {l : Launch} {D : va_G} {cI cZ : ClassId} {ad : Nat → Nat} {B : Nat → Prop} (hG : ∀ S : zS, va_D B (wX cI cZ ad S)) (S : zS)  : zMv l yX3_copyAll wsX3_copyAll ({ frames := 0, cells := 0, slots := 0, locals := 0 } : Room) [.ref (ad 25), .ref (ad 22)] D (zT cI cZ) B (wX cI cZ ad) S (fun (S1 : zS) => S1 = sp_tca S 17 15) := by
  refine zMv_of (cc := cX3_copyAll) (maxL := 3) (ret := none) (by decide) rfl (Nat.le_of_ble_eq_true rfl) ?_
  intro pg en s mm below meth cd hx hb hr hml hown hts hlk hF hR ls hl
  have hinX3 : ∀ w ∈ wsX30, w ∈ wsX3_copyAll := by decide +kernel
  have hl : lv_has ls 3 [(0, .ref (ad 25)), (1, .ref (ad 22))] := hl
  refine lv_iconst (v := (nI (0))) hx hb dX3_copyAll_0 (by decide) ?_
  refine lv_istore_n (lv' := [(2, .int (nI (0))), (0, .ref (ad 25)), (1, .ref (ad 22))]) hx hb dX3_copyAll_1 rfl hl (by decide) rfl (fun ls hl => ?_)
  have loop2 : ∀ (nf2 : Nat) (k : Nat), (k ≤ 32) → 32 - k < nf2 → ∀ (H : Heap) (locs : List Loc), zR D B (wX cI cZ ad (zU (zU S 17 (sp_cp (S 17) (S 15) k)) 18 (sp_cp (S 18) (S 16) k))) s H locs → ∀ ls : Array Slot, lv_has ls 3 [(0, .ref (ad 25)), (1, .ref (ad 22)), (2, .int (nI (k)))] → W pg l en ({ frames := 0, cells := 0, slots := 0, locals := 0 } : Room) s mm ([.ref (ad 25), .ref (ad 22)] : List Value).toArray below meth cd H locs 0 0 (MQ below (va_Qv (fun (S1 : zS) => S1 = sp_tca S 17 15) (zB D (zT cI cZ) (wX cI cZ ad)) (zA B s.heap.size)) ([.ref (ad 25), .ref (ad 22)] : List Value).toArray s 0 0 (zA B s.heap.size)) (F0 mm 2 ls []) := by
    intro nf2
    induction nf2 with
    | zero => intro k hk4 hn; exact absurd hn (Nat.not_lt_zero _)
    | succ nf2 ih2 =>
      intro k hk4 hn H locs hR ls hl
      refine lv_iload_n hx hb dX3_copyAll_2 rfl (lv_at hl 2 rfl) ?_
      refine lv_bipush (v := (nI (32))) hx hb dX3_copyAll_3 (by decide) ?_
      refine z_ge_n (tgt := 38) hx hb dX3_copyAll_5 (by decide) (by omega) (by omega) (fun h5_1 => ?_) (fun h5_1 => ?_)
      · skip
        exact z_vret (w := wX cI cZ ad) (S1 := (zU (zU S 17 (sp_cp (S 17) (S 15) k)) 18 (sp_cp (S 18) (S 16) k))) hx hb hr hlk hF hR dX3_copyAll_38 (by rw [show k = 32 from by omega]; rfl)
      · skip
        refine lv_aload_n hx hb dX3_copyAll_8 rfl (lv_at hl 0 rfl) ?_
        refine z_get (own := RX3) (C := RX3) (T := TX3) (N := 2) (k := 0) (v := .ref (ad 26)) hx hb hts hinX3 hown hF hR (wX_c25 (zU (zU S 17 (sp_cp (S 17) (S 15) k)) 18 (sp_cp (S 18) (S 16) k))) rfl (by decide) (by decide +kernel) rfl rfl dX3_copyAll_9 ?_
        refine lv_iload_n hx hb dX3_copyAll_12 rfl (lv_at hl 2 rfl) ?_
        refine lv_aload_n hx hb dX3_copyAll_13 rfl (lv_at hl 1 rfl) ?_
        refine z_get (own := RX3) (C := RX3) (T := TX3) (N := 2) (k := 0) (v := .ref (ad 23)) hx hb hts hinX3 hown hF hR (wX_c22 (zU (zU S 17 (sp_cp (S 17) (S 15) k)) 18 (sp_cp (S 18) (S 16) k))) rfl (by decide) (by decide +kernel) rfl rfl dX3_copyAll_14 ?_
        refine lv_iload_n hx hb dX3_copyAll_17 rfl (lv_at hl 2 rfl) ?_
        refine z_iald_n (f := S 15) hx hb hF hR (wX_c23 (zU (zU S 17 (sp_cp (S 17) (S 15) k)) 18 (sp_cp (S 18) (S 16) k))) zT_0 dX3_copyAll_18 (by decide) (by omega) ?_
        refine z_iast_n (f := (sp_cp (S 17) (S 15) k)) hx hb hF (hG (zU (zU S 17 (sp_cp (S 17) (S 15) k)) 18 (sp_cp (S 18) (S 16) k))) hR (wX_c26 (zU (zU S 17 (sp_cp (S 17) (S 15) k)) 18 (sp_cp (S 18) (S 16) k))) zT_0 (wX_s17 (zU (zU S 17 (sp_cp (S 17) (S 15) k)) 18 (sp_cp (S 18) (S 16) k)) (upd ((sp_cp (S 17) (S 15) k)) (k) (S 15 (k)))) dX3_copyAll_19 (by decide) (by omega) (fun H locs hR => ?_)
        have hR : zR D B (wX cI cZ ad (zU (zU S 17 (upd ((sp_cp (S 17) (S 15) k)) (k) (S 15 (k)))) 18 (sp_cp (S 18) (S 16) k))) s H locs := by rw [show (zU (zU S 17 (upd ((sp_cp (S 17) (S 15) k)) (k) (S 15 (k)))) 18 (sp_cp (S 18) (S 16) k)) = zU (zU (zU S 17 (sp_cp (S 17) (S 15) k)) 18 (sp_cp (S 18) (S 16) k)) 17 (upd ((sp_cp (S 17) (S 15) k)) (k) (S 15 (k))) from by funext j; simp only [zU]; split <;> simp_all]; exact hR
        refine lv_aload_n hx hb dX3_copyAll_20 rfl (lv_at hl 0 rfl) ?_
        refine z_get (own := RX3) (C := RX3) (T := TX3) (N := 2) (k := 1) (v := .ref (ad 27)) hx hb hts hinX3 hown hF hR (wX_c25 (zU (zU S 17 (upd ((sp_cp (S 17) (S 15) k)) (k) (S 15 (k)))) 18 (sp_cp (S 18) (S 16) k))) rfl (by decide) (by decide +kernel) rfl rfl dX3_copyAll_21 ?_
        refine lv_iload_n hx hb dX3_copyAll_24 rfl (lv_at hl 2 rfl) ?_
        refine lv_aload_n hx hb dX3_copyAll_25 rfl (lv_at hl 1 rfl) ?_
        refine z_get (own := RX3) (C := RX3) (T := TX3) (N := 2) (k := 1) (v := .ref (ad 24)) hx hb hts hinX3 hown hF hR (wX_c22 (zU (zU S 17 (upd ((sp_cp (S 17) (S 15) k)) (k) (S 15 (k)))) 18 (sp_cp (S 18) (S 16) k))) rfl (by decide) (by decide +kernel) rfl rfl dX3_copyAll_26 ?_
        refine lv_iload_n hx hb dX3_copyAll_29 rfl (lv_at hl 2 rfl) ?_
        refine z_iald_n (f := S 16) hx hb hF hR (wX_c24 (zU (zU S 17 (upd ((sp_cp (S 17) (S 15) k)) (k) (S 15 (k)))) 18 (sp_cp (S 18) (S 16) k))) zT_0 dX3_copyAll_30 (by decide) (by omega) ?_
        refine z_iast_n (f := (sp_cp (S 18) (S 16) k)) hx hb hF (hG (zU (zU S 17 (upd ((sp_cp (S 17) (S 15) k)) (k) (S 15 (k)))) 18 (sp_cp (S 18) (S 16) k))) hR (wX_c27 (zU (zU S 17 (upd ((sp_cp (S 17) (S 15) k)) (k) (S 15 (k)))) 18 (sp_cp (S 18) (S 16) k))) zT_0 (wX_s18 (zU (zU S 17 (upd ((sp_cp (S 17) (S 15) k)) (k) (S 15 (k)))) 18 (sp_cp (S 18) (S 16) k)) (upd ((sp_cp (S 18) (S 16) k)) (k) (S 16 (k)))) dX3_copyAll_31 (by decide) (by omega) (fun H locs hR => ?_)
        have hR : zR D B (wX cI cZ ad (zU (zU S 17 (upd ((sp_cp (S 17) (S 15) k)) (k) (S 15 (k)))) 18 (upd ((sp_cp (S 18) (S 16) k)) (k) (S 16 (k))))) s H locs := by rw [show (zU (zU S 17 (upd ((sp_cp (S 17) (S 15) k)) (k) (S 15 (k)))) 18 (upd ((sp_cp (S 18) (S 16) k)) (k) (S 16 (k)))) = zU (zU (zU S 17 (upd ((sp_cp (S 17) (S 15) k)) (k) (S 15 (k)))) 18 (sp_cp (S 18) (S 16) k)) 18 (upd ((sp_cp (S 18) (S 16) k)) (k) (S 16 (k))) from (zU_U _ _ _ _).symm]; exact hR
        refine lv_iinc (v := (nI (k + 1))) (lv' := [(2, .int (nI (k + 1))), (0, .ref (ad 25)), (1, .ref (ad 22))]) hx hb dX3_copyAll_32 hl (k := 2) rfl (z_inc _) (by decide) rfl (fun ls hl => ?_)
        refine lv_goto (tgt := 2) hx hb dX3_copyAll_35 (by decide) ?_
        exact ih2 (k + 1) (by omega) (by omega) _ _ (by rw [show zU (zU S 17 (sp_cp (S 17) (S 15) (k + 1))) 18 (sp_cp (S 18) (S 16) (k + 1)) = (zU (zU S 17 (upd ((sp_cp (S 17) (S 15) k)) (k) (S 15 (k)))) 18 (upd ((sp_cp (S 18) (S 16) k)) (k) (S 16 (k)))) from rfl]; exact hR) ls (lv_sub hl [1, 2, 0] rfl)
  exact loop2 _ 0 (by omega) (Nat.lt_succ_self _) _ _ (by rw [show zU (zU S 17 (sp_cp (S 17) (S 15) 0)) 18 (sp_cp (S 18) (S 16) 0) = S from zU2_self S 17 18]; exact hR) ls (lv_sub hl [1, 2, 0] rfl)
set_option maxHeartbeats 4000000 in
set_option maxRecDepth 100000 in
theorem c_X3_copyAll_t0t4 {l : Launch} {D : va_G} {cI cZ : ClassId} {ad : Nat → Nat} {B : Nat → Prop} (hG : ∀ S : zS, va_D B (wX cI cZ ad S)) (S : zS)  : zMv l yX3_copyAll wsX3_copyAll ({ frames := 0, cells := 0, slots := 0, locals := 0 } : Room) [.ref (ad 13), .ref (ad 25)] D (zT cI cZ) B (wX cI cZ ad) S (fun (S1 : zS) => S1 = sp_tca S 9 17) := by
  refine zMv_of (cc := cX3_copyAll) (maxL := 3) (ret := none) (by decide) rfl (Nat.le_of_ble_eq_true rfl) ?_
  intro pg en s mm below meth cd hx hb hr hml hown hts hlk hF hR ls hl
  have hinX3 : ∀ w ∈ wsX30, w ∈ wsX3_copyAll := by decide +kernel
  have hl : lv_has ls 3 [(0, .ref (ad 13)), (1, .ref (ad 25))] := hl
  refine lv_iconst (v := (nI (0))) hx hb dX3_copyAll_0 (by decide) ?_
  refine lv_istore_n (lv' := [(2, .int (nI (0))), (0, .ref (ad 13)), (1, .ref (ad 25))]) hx hb dX3_copyAll_1 rfl hl (by decide) rfl (fun ls hl => ?_)
  have loop2 : ∀ (nf2 : Nat) (k : Nat), (k ≤ 32) → 32 - k < nf2 → ∀ (H : Heap) (locs : List Loc), zR D B (wX cI cZ ad (zU (zU S 9 (sp_cp (S 9) (S 17) k)) 10 (sp_cp (S 10) (S 18) k))) s H locs → ∀ ls : Array Slot, lv_has ls 3 [(0, .ref (ad 13)), (1, .ref (ad 25)), (2, .int (nI (k)))] → W pg l en ({ frames := 0, cells := 0, slots := 0, locals := 0 } : Room) s mm ([.ref (ad 13), .ref (ad 25)] : List Value).toArray below meth cd H locs 0 0 (MQ below (va_Qv (fun (S1 : zS) => S1 = sp_tca S 9 17) (zB D (zT cI cZ) (wX cI cZ ad)) (zA B s.heap.size)) ([.ref (ad 13), .ref (ad 25)] : List Value).toArray s 0 0 (zA B s.heap.size)) (F0 mm 2 ls []) := by
    intro nf2
    induction nf2 with
    | zero => intro k hk4 hn; exact absurd hn (Nat.not_lt_zero _)
    | succ nf2 ih2 =>
      intro k hk4 hn H locs hR ls hl
      refine lv_iload_n hx hb dX3_copyAll_2 rfl (lv_at hl 2 rfl) ?_
      refine lv_bipush (v := (nI (32))) hx hb dX3_copyAll_3 (by decide) ?_
      refine z_ge_n (tgt := 38) hx hb dX3_copyAll_5 (by decide) (by omega) (by omega) (fun h5_1 => ?_) (fun h5_1 => ?_)
      · skip
        exact z_vret (w := wX cI cZ ad) (S1 := (zU (zU S 9 (sp_cp (S 9) (S 17) k)) 10 (sp_cp (S 10) (S 18) k))) hx hb hr hlk hF hR dX3_copyAll_38 (by rw [show k = 32 from by omega]; rfl)
      · skip
        refine lv_aload_n hx hb dX3_copyAll_8 rfl (lv_at hl 0 rfl) ?_
        refine z_get (own := RX3) (C := RX3) (T := TX3) (N := 2) (k := 0) (v := .ref (ad 14)) hx hb hts hinX3 hown hF hR (wX_c13 (zU (zU S 9 (sp_cp (S 9) (S 17) k)) 10 (sp_cp (S 10) (S 18) k))) rfl (by decide) (by decide +kernel) rfl rfl dX3_copyAll_9 ?_
        refine lv_iload_n hx hb dX3_copyAll_12 rfl (lv_at hl 2 rfl) ?_
        refine lv_aload_n hx hb dX3_copyAll_13 rfl (lv_at hl 1 rfl) ?_
        refine z_get (own := RX3) (C := RX3) (T := TX3) (N := 2) (k := 0) (v := .ref (ad 26)) hx hb hts hinX3 hown hF hR (wX_c25 (zU (zU S 9 (sp_cp (S 9) (S 17) k)) 10 (sp_cp (S 10) (S 18) k))) rfl (by decide) (by decide +kernel) rfl rfl dX3_copyAll_14 ?_
        refine lv_iload_n hx hb dX3_copyAll_17 rfl (lv_at hl 2 rfl) ?_
        refine z_iald_n (f := S 17) hx hb hF hR (wX_c26 (zU (zU S 9 (sp_cp (S 9) (S 17) k)) 10 (sp_cp (S 10) (S 18) k))) zT_0 dX3_copyAll_18 (by decide) (by omega) ?_
        refine z_iast_n (f := (sp_cp (S 9) (S 17) k)) hx hb hF (hG (zU (zU S 9 (sp_cp (S 9) (S 17) k)) 10 (sp_cp (S 10) (S 18) k))) hR (wX_c14 (zU (zU S 9 (sp_cp (S 9) (S 17) k)) 10 (sp_cp (S 10) (S 18) k))) zT_0 (wX_s9 (zU (zU S 9 (sp_cp (S 9) (S 17) k)) 10 (sp_cp (S 10) (S 18) k)) (upd ((sp_cp (S 9) (S 17) k)) (k) (S 17 (k)))) dX3_copyAll_19 (by decide) (by omega) (fun H locs hR => ?_)
        have hR : zR D B (wX cI cZ ad (zU (zU S 9 (upd ((sp_cp (S 9) (S 17) k)) (k) (S 17 (k)))) 10 (sp_cp (S 10) (S 18) k))) s H locs := by rw [show (zU (zU S 9 (upd ((sp_cp (S 9) (S 17) k)) (k) (S 17 (k)))) 10 (sp_cp (S 10) (S 18) k)) = zU (zU (zU S 9 (sp_cp (S 9) (S 17) k)) 10 (sp_cp (S 10) (S 18) k)) 9 (upd ((sp_cp (S 9) (S 17) k)) (k) (S 17 (k))) from by funext j; simp only [zU]; split <;> simp_all]; exact hR
        refine lv_aload_n hx hb dX3_copyAll_20 rfl (lv_at hl 0 rfl) ?_
        refine z_get (own := RX3) (C := RX3) (T := TX3) (N := 2) (k := 1) (v := .ref (ad 15)) hx hb hts hinX3 hown hF hR (wX_c13 (zU (zU S 9 (upd ((sp_cp (S 9) (S 17) k)) (k) (S 17 (k)))) 10 (sp_cp (S 10) (S 18) k))) rfl (by decide) (by decide +kernel) rfl rfl dX3_copyAll_21 ?_
        refine lv_iload_n hx hb dX3_copyAll_24 rfl (lv_at hl 2 rfl) ?_
        refine lv_aload_n hx hb dX3_copyAll_25 rfl (lv_at hl 1 rfl) ?_
        refine z_get (own := RX3) (C := RX3) (T := TX3) (N := 2) (k := 1) (v := .ref (ad 27)) hx hb hts hinX3 hown hF hR (wX_c25 (zU (zU S 9 (upd ((sp_cp (S 9) (S 17) k)) (k) (S 17 (k)))) 10 (sp_cp (S 10) (S 18) k))) rfl (by decide) (by decide +kernel) rfl rfl dX3_copyAll_26 ?_
        refine lv_iload_n hx hb dX3_copyAll_29 rfl (lv_at hl 2 rfl) ?_
        refine z_iald_n (f := S 18) hx hb hF hR (wX_c27 (zU (zU S 9 (upd ((sp_cp (S 9) (S 17) k)) (k) (S 17 (k)))) 10 (sp_cp (S 10) (S 18) k))) zT_0 dX3_copyAll_30 (by decide) (by omega) ?_
        refine z_iast_n (f := (sp_cp (S 10) (S 18) k)) hx hb hF (hG (zU (zU S 9 (upd ((sp_cp (S 9) (S 17) k)) (k) (S 17 (k)))) 10 (sp_cp (S 10) (S 18) k))) hR (wX_c15 (zU (zU S 9 (upd ((sp_cp (S 9) (S 17) k)) (k) (S 17 (k)))) 10 (sp_cp (S 10) (S 18) k))) zT_0 (wX_s10 (zU (zU S 9 (upd ((sp_cp (S 9) (S 17) k)) (k) (S 17 (k)))) 10 (sp_cp (S 10) (S 18) k)) (upd ((sp_cp (S 10) (S 18) k)) (k) (S 18 (k)))) dX3_copyAll_31 (by decide) (by omega) (fun H locs hR => ?_)
        have hR : zR D B (wX cI cZ ad (zU (zU S 9 (upd ((sp_cp (S 9) (S 17) k)) (k) (S 17 (k)))) 10 (upd ((sp_cp (S 10) (S 18) k)) (k) (S 18 (k))))) s H locs := by rw [show (zU (zU S 9 (upd ((sp_cp (S 9) (S 17) k)) (k) (S 17 (k)))) 10 (upd ((sp_cp (S 10) (S 18) k)) (k) (S 18 (k)))) = zU (zU (zU S 9 (upd ((sp_cp (S 9) (S 17) k)) (k) (S 17 (k)))) 10 (sp_cp (S 10) (S 18) k)) 10 (upd ((sp_cp (S 10) (S 18) k)) (k) (S 18 (k))) from (zU_U _ _ _ _).symm]; exact hR
        refine lv_iinc (v := (nI (k + 1))) (lv' := [(2, .int (nI (k + 1))), (0, .ref (ad 13)), (1, .ref (ad 25))]) hx hb dX3_copyAll_32 hl (k := 2) rfl (z_inc _) (by decide) rfl (fun ls hl => ?_)
        refine lv_goto (tgt := 2) hx hb dX3_copyAll_35 (by decide) ?_
        exact ih2 (k + 1) (by omega) (by omega) _ _ (by rw [show zU (zU S 9 (sp_cp (S 9) (S 17) (k + 1))) 10 (sp_cp (S 10) (S 18) (k + 1)) = (zU (zU S 9 (upd ((sp_cp (S 9) (S 17) k)) (k) (S 17 (k)))) 10 (upd ((sp_cp (S 10) (S 18) k)) (k) (S 18 (k)))) from rfl]; exact hR) ls (lv_sub hl [1, 2, 0] rfl)
  exact loop2 _ 0 (by omega) (Nat.lt_succ_self _) _ _ (by rw [show zU (zU S 9 (sp_cp (S 9) (S 17) 0)) 10 (sp_cp (S 10) (S 18) 0) = S from zU2_self S 9 10]; exact hR) ls (lv_sub hl [1, 2, 0] rfl)
set_option maxHeartbeats 4000000 in
set_option maxRecDepth 100000 in
theorem c_X3_clearKey_t1 {l : Launch} {D : va_G} {cI cZ : ClassId} {ad : Nat → Nat} {B : Nat → Prop} (hG : ∀ S : zS, va_D B (wX cI cZ ad S)) (S : zS) (key : Nat) (hk : key < 32) : zMv l yX3_clearKey wsX3_clearKey ({ frames := 0, cells := 0, slots := 0, locals := 0 } : Room) [.ref (ad 16), .int (nI (key))] D (zT cI cZ) B (wX cI cZ ad) S (fun (S1 : zS) => S1 = sp_tclk S 11 key) := by
  refine zMv_of (cc := cX3_clearKey) (maxL := 2) (ret := none) (by decide) rfl (Nat.le_of_ble_eq_true rfl) ?_
  intro pg en s mm below meth cd hx hb hr hml hown hts hlk hF hR ls hl
  have hinX3 : ∀ w ∈ wsX30, w ∈ wsX3_clearKey := by decide +kernel
  have hl : lv_has ls 2 [(0, .ref (ad 16)), (1, .int (nI (key)))] := hl
  refine lv_aload_n hx hb dX3_clearKey_0 rfl (lv_at hl 0 rfl) ?_
  refine z_get (own := RX3) (C := RX3) (T := TX3) (N := 2) (k := 0) (v := .ref (ad 17)) hx hb hts hinX3 hown hF hR (wX_c16 S) rfl (by decide) (by decide +kernel) rfl rfl dX3_clearKey_1 ?_
  refine lv_iload_n hx hb dX3_clearKey_4 rfl (lv_at hl 1 rfl) ?_
  refine lv_iconst (v := (nI (0))) hx hb dX3_clearKey_5 (by decide) ?_
  refine z_iast_n (f := S 11) hx hb hF (hG S) hR (wX_c17 S) zT_0 (wX_s11 S (upd (S 11) (key) (nI (0)))) dX3_clearKey_6 (by decide) (by omega) (fun H locs hR => ?_)
  refine lv_aload_n hx hb dX3_clearKey_7 rfl (lv_at hl 0 rfl) ?_
  refine z_get (own := RX3) (C := RX3) (T := TX3) (N := 2) (k := 1) (v := .ref (ad 18)) hx hb hts hinX3 hown hF hR (wX_c16 (zU S 11 (upd (S 11) (key) (nI (0))))) rfl (by decide) (by decide +kernel) rfl rfl dX3_clearKey_8 ?_
  refine lv_iload_n hx hb dX3_clearKey_11 rfl (lv_at hl 1 rfl) ?_
  refine lv_iconst (v := (nI (0))) hx hb dX3_clearKey_12 (by decide) ?_
  refine z_iast_n (f := S 12) hx hb hF (hG (zU S 11 (upd (S 11) (key) (nI (0))))) hR (wX_c18 (zU S 11 (upd (S 11) (key) (nI (0))))) zT_0 (wX_s12 (zU S 11 (upd (S 11) (key) (nI (0)))) (upd (S 12) (key) (nI (0)))) dX3_clearKey_13 (by decide) (by omega) (fun H locs hR => ?_)
  exact z_vret (w := wX cI cZ ad) (S1 := (zU (zU S 11 (upd (S 11) (key) (nI (0)))) 12 (upd (S 12) (key) (nI (0))))) hx hb hr hlk hF hR dX3_clearKey_14 (rfl)
set_option maxHeartbeats 4000000 in
set_option maxRecDepth 100000 in
theorem c_X3_clearAll_t1 {l : Launch} {D : va_G} {cI cZ : ClassId} {ad : Nat → Nat} {B : Nat → Prop} (hG : ∀ S : zS, va_D B (wX cI cZ ad S)) (S : zS)  : zMv l yX3_clearAll wsX3_clearAll ({ frames := 1, cells := 0, slots := 0, locals := 21 } : Room) [.ref (ad 16)] D (zT cI cZ) B (wX cI cZ ad) S (fun (S1 : zS) => S1 = sp_tz S 11 32) := by
  refine zMv_of (cc := cX3_clearAll) (maxL := 2) (ret := none) (by decide) rfl (Nat.le_of_ble_eq_true rfl) ?_
  intro pg en s mm below meth cd hx hb hr hml hown hts hlk hF hR ls hl
  have hl : lv_has ls 2 [(0, .ref (ad 16))] := hl
  refine lv_iconst (v := (nI (0))) hx hb dX3_clearAll_0 (by decide) ?_
  refine lv_istore_n (lv' := [(1, .int (nI (0))), (0, .ref (ad 16))]) hx hb dX3_clearAll_1 rfl hl (by decide) rfl (fun ls hl => ?_)
  have loop2 : ∀ (nf2 : Nat) (k : Nat), (k ≤ 32) → 32 - k < nf2 → ∀ (H : Heap) (locs : List Loc), zR D B (wX cI cZ ad (sp_tz S 11 k)) s H locs → ∀ ls : Array Slot, lv_has ls 2 [(0, .ref (ad 16)), (1, .int (nI (k)))] → W pg l en ({ frames := 1, cells := 0, slots := 0, locals := 21 } : Room) s mm ([.ref (ad 16)] : List Value).toArray below meth cd H locs 0 0 (MQ below (va_Qv (fun (S1 : zS) => S1 = sp_tz S 11 32) (zB D (zT cI cZ) (wX cI cZ ad)) (zA B s.heap.size)) ([.ref (ad 16)] : List Value).toArray s 0 0 (zA B s.heap.size)) (F0 mm 2 ls []) := by
    intro nf2
    induction nf2 with
    | zero => intro k hk4 hn; exact absurd hn (Nat.not_lt_zero _)
    | succ nf2 ih2 =>
      intro k hk4 hn H locs hR ls hl
      refine lv_iload_n hx hb dX3_clearAll_2 rfl (lv_at hl 1 rfl) ?_
      refine lv_bipush (v := (nI (32))) hx hb dX3_clearAll_3 (by decide) ?_
      refine z_ge_n (tgt := 19) hx hb dX3_clearAll_5 (by decide) (by omega) (by omega) (fun h5_1 => ?_) (fun h5_1 => ?_)
      · skip
        exact z_vret (w := wX cI cZ ad) (S1 := (sp_tz S 11 k)) hx hb hr hlk hF hR dX3_clearAll_19 (by rw [show k = 32 from by omega])
      · skip
        refine lv_aload_n hx hb dX3_clearAll_8 rfl (lv_at hl 0 rfl) ?_
        refine lv_iload_n hx hb dX3_clearAll_9 rfl (lv_at hl 1 rfl) ?_
        refine z_callV_v (As := [.int (nI (k))]) (rest := []) (w := wX cI cZ ad) ⟨hx, hb, hml, hown, hts⟩ hF hR (c_X3_clearKey_t1 hG (sp_tz S 11 k) k (by omega)) (cwV 1 hts gX3_clearAll_X3_clearKey rfl rfl rfl (by decide +kernel) ⟨Nat.le_of_ble_eq_true rfl, Nat.le_of_ble_eq_true rfl⟩) (wX_c16 (sp_tz S 11 k)) rfl rfl rfl hl rfl (Nat.le_of_ble_eq_true rfl) (by decide) dX3_clearAll_10 (fun S2 H locs hp2 hR => ?_)
        subst S2
        refine lv_iinc (v := (nI (k + 1))) (lv' := [(1, .int (nI (k + 1))), (0, .ref (ad 16))]) hx hb dX3_clearAll_13 hl (k := 1) rfl (z_inc _) (by decide) rfl (fun ls hl => ?_)
        refine lv_goto (tgt := 2) hx hb dX3_clearAll_16 (by decide) ?_
        exact ih2 (k + 1) (by omega) (by omega) _ _ (by rw [show sp_tz S 11 (k + 1) = (sp_tclk (sp_tz S 11 k) 11 k) from sp_tz_s S 11 k]; exact hR) ls (lv_sub hl [1, 0] rfl)
  exact loop2 _ 0 (by omega) (Nat.lt_succ_self _) _ _ (by rw [show sp_tz S 11 0 = S from sp_tz_0 S 11]; exact hR) ls (lv_sub hl [1, 0] rfl)
set_option maxHeartbeats 4000000 in
set_option maxRecDepth 100000 in
theorem c_X3_clearKey_t2 {l : Launch} {D : va_G} {cI cZ : ClassId} {ad : Nat → Nat} {B : Nat → Prop} (hG : ∀ S : zS, va_D B (wX cI cZ ad S)) (S : zS) (key : Nat) (hk : key < 32) : zMv l yX3_clearKey wsX3_clearKey ({ frames := 0, cells := 0, slots := 0, locals := 0 } : Room) [.ref (ad 19), .int (nI (key))] D (zT cI cZ) B (wX cI cZ ad) S (fun (S1 : zS) => S1 = sp_tclk S 13 key) := by
  refine zMv_of (cc := cX3_clearKey) (maxL := 2) (ret := none) (by decide) rfl (Nat.le_of_ble_eq_true rfl) ?_
  intro pg en s mm below meth cd hx hb hr hml hown hts hlk hF hR ls hl
  have hinX3 : ∀ w ∈ wsX30, w ∈ wsX3_clearKey := by decide +kernel
  have hl : lv_has ls 2 [(0, .ref (ad 19)), (1, .int (nI (key)))] := hl
  refine lv_aload_n hx hb dX3_clearKey_0 rfl (lv_at hl 0 rfl) ?_
  refine z_get (own := RX3) (C := RX3) (T := TX3) (N := 2) (k := 0) (v := .ref (ad 20)) hx hb hts hinX3 hown hF hR (wX_c19 S) rfl (by decide) (by decide +kernel) rfl rfl dX3_clearKey_1 ?_
  refine lv_iload_n hx hb dX3_clearKey_4 rfl (lv_at hl 1 rfl) ?_
  refine lv_iconst (v := (nI (0))) hx hb dX3_clearKey_5 (by decide) ?_
  refine z_iast_n (f := S 13) hx hb hF (hG S) hR (wX_c20 S) zT_0 (wX_s13 S (upd (S 13) (key) (nI (0)))) dX3_clearKey_6 (by decide) (by omega) (fun H locs hR => ?_)
  refine lv_aload_n hx hb dX3_clearKey_7 rfl (lv_at hl 0 rfl) ?_
  refine z_get (own := RX3) (C := RX3) (T := TX3) (N := 2) (k := 1) (v := .ref (ad 21)) hx hb hts hinX3 hown hF hR (wX_c19 (zU S 13 (upd (S 13) (key) (nI (0))))) rfl (by decide) (by decide +kernel) rfl rfl dX3_clearKey_8 ?_
  refine lv_iload_n hx hb dX3_clearKey_11 rfl (lv_at hl 1 rfl) ?_
  refine lv_iconst (v := (nI (0))) hx hb dX3_clearKey_12 (by decide) ?_
  refine z_iast_n (f := S 14) hx hb hF (hG (zU S 13 (upd (S 13) (key) (nI (0))))) hR (wX_c21 (zU S 13 (upd (S 13) (key) (nI (0))))) zT_0 (wX_s14 (zU S 13 (upd (S 13) (key) (nI (0)))) (upd (S 14) (key) (nI (0)))) dX3_clearKey_13 (by decide) (by omega) (fun H locs hR => ?_)
  exact z_vret (w := wX cI cZ ad) (S1 := (zU (zU S 13 (upd (S 13) (key) (nI (0)))) 14 (upd (S 14) (key) (nI (0))))) hx hb hr hlk hF hR dX3_clearKey_14 (rfl)
set_option maxHeartbeats 4000000 in
set_option maxRecDepth 100000 in
theorem c_X3_clearAll_t2 {l : Launch} {D : va_G} {cI cZ : ClassId} {ad : Nat → Nat} {B : Nat → Prop} (hG : ∀ S : zS, va_D B (wX cI cZ ad S)) (S : zS)  : zMv l yX3_clearAll wsX3_clearAll ({ frames := 1, cells := 0, slots := 0, locals := 21 } : Room) [.ref (ad 19)] D (zT cI cZ) B (wX cI cZ ad) S (fun (S1 : zS) => S1 = sp_tz S 13 32) := by
  refine zMv_of (cc := cX3_clearAll) (maxL := 2) (ret := none) (by decide) rfl (Nat.le_of_ble_eq_true rfl) ?_
  intro pg en s mm below meth cd hx hb hr hml hown hts hlk hF hR ls hl
  have hl : lv_has ls 2 [(0, .ref (ad 19))] := hl
  refine lv_iconst (v := (nI (0))) hx hb dX3_clearAll_0 (by decide) ?_
  refine lv_istore_n (lv' := [(1, .int (nI (0))), (0, .ref (ad 19))]) hx hb dX3_clearAll_1 rfl hl (by decide) rfl (fun ls hl => ?_)
  have loop2 : ∀ (nf2 : Nat) (k : Nat), (k ≤ 32) → 32 - k < nf2 → ∀ (H : Heap) (locs : List Loc), zR D B (wX cI cZ ad (sp_tz S 13 k)) s H locs → ∀ ls : Array Slot, lv_has ls 2 [(0, .ref (ad 19)), (1, .int (nI (k)))] → W pg l en ({ frames := 1, cells := 0, slots := 0, locals := 21 } : Room) s mm ([.ref (ad 19)] : List Value).toArray below meth cd H locs 0 0 (MQ below (va_Qv (fun (S1 : zS) => S1 = sp_tz S 13 32) (zB D (zT cI cZ) (wX cI cZ ad)) (zA B s.heap.size)) ([.ref (ad 19)] : List Value).toArray s 0 0 (zA B s.heap.size)) (F0 mm 2 ls []) := by
    intro nf2
    induction nf2 with
    | zero => intro k hk4 hn; exact absurd hn (Nat.not_lt_zero _)
    | succ nf2 ih2 =>
      intro k hk4 hn H locs hR ls hl
      refine lv_iload_n hx hb dX3_clearAll_2 rfl (lv_at hl 1 rfl) ?_
      refine lv_bipush (v := (nI (32))) hx hb dX3_clearAll_3 (by decide) ?_
      refine z_ge_n (tgt := 19) hx hb dX3_clearAll_5 (by decide) (by omega) (by omega) (fun h5_1 => ?_) (fun h5_1 => ?_)
      · skip
        exact z_vret (w := wX cI cZ ad) (S1 := (sp_tz S 13 k)) hx hb hr hlk hF hR dX3_clearAll_19 (by rw [show k = 32 from by omega])
      · skip
        refine lv_aload_n hx hb dX3_clearAll_8 rfl (lv_at hl 0 rfl) ?_
        refine lv_iload_n hx hb dX3_clearAll_9 rfl (lv_at hl 1 rfl) ?_
        refine z_callV_v (As := [.int (nI (k))]) (rest := []) (w := wX cI cZ ad) ⟨hx, hb, hml, hown, hts⟩ hF hR (c_X3_clearKey_t2 hG (sp_tz S 13 k) k (by omega)) (cwV 1 hts gX3_clearAll_X3_clearKey rfl rfl rfl (by decide +kernel) ⟨Nat.le_of_ble_eq_true rfl, Nat.le_of_ble_eq_true rfl⟩) (wX_c19 (sp_tz S 13 k)) rfl rfl rfl hl rfl (Nat.le_of_ble_eq_true rfl) (by decide) dX3_clearAll_10 (fun S2 H locs hp2 hR => ?_)
        subst S2
        refine lv_iinc (v := (nI (k + 1))) (lv' := [(1, .int (nI (k + 1))), (0, .ref (ad 19))]) hx hb dX3_clearAll_13 hl (k := 1) rfl (z_inc _) (by decide) rfl (fun ls hl => ?_)
        refine lv_goto (tgt := 2) hx hb dX3_clearAll_16 (by decide) ?_
        exact ih2 (k + 1) (by omega) (by omega) _ _ (by rw [show sp_tz S 13 (k + 1) = (sp_tclk (sp_tz S 13 k) 13 k) from sp_tz_s S 13 k]; exact hR) ls (lv_sub hl [1, 0] rfl)
  exact loop2 _ 0 (by omega) (Nat.lt_succ_self _) _ _ (by rw [show sp_tz S 13 0 = S from sp_tz_0 S 13]; exact hR) ls (lv_sub hl [1, 0] rfl)
