/-! act, choice by choice -/
def a_d (v : Int32) : Nat := if zlow (zsh v 24) 8 = 0 then 1 else 0
def a_p (v : Int32) : Nat := zlow (zsh v 5) (if a_d v = 1 then 6 else 4)
def a_w (v : Int32) (W : Nat) : Nat := zlow (zsh v 8) (if a_d v = 1 then 6 else W)
theorem a_d_le (v : Int32) : a_d v ≤ 1 := by
  unfold a_d
  split <;> omega
theorem a_p_lt (v : Int32) : a_p v < 6 := by
  unfold a_p
  split
  · exact zlow_lt _ (by decide)
  · exact Nat.lt_of_lt_of_le (zlow_lt _ (by decide)) (by decide)
theorem a_w_lt (v : Int32) {W : Nat} (h1 : 1 ≤ W) (h4 : W ≤ 4) : a_w v W < 6 := by
  unfold a_w
  split
  · exact zlow_lt _ (by decide)
  · exact Nat.lt_of_lt_of_le (zlow_lt _ (by omega)) (by omega)
set_option maxHeartbeats 4000000 in
set_option maxRecDepth 100000 in
theorem act_pre {pg : Program} {l : Launch} {en : Env} {mc ms : Nat} {s : State} {mm : MethodId} {below : List Frame} {meth : Method} {cd : Code} {Q : State → Prop} {D : va_G} {cI cZ : ClassId} {ad : Nat → Nat} {B : Nat → Prop} (hG : ∀ S : zS, va_D B (wX cI cZ ad S)) (S : zS) (v : Int32) (hO : zOK S) (hx : pg.tables.exec = Jvm.exec) (hb : cd.code = cL_act) (hml : cd.maxLocals = 6) (hown : s.vm.findClass yL_act.cls = some mm.cls) (hts : ∀ w ∈ wsL_act, w.before ([.ref (ad 0), .int (v)] : List Value).toArray s = true) (hF : zF D (zT cI cZ) B s) (H : Heap) (locs : List Loc) (hR : zR D B (wX cI cZ ad S) s H locs) (ls : Array Slot) (hl : lv_has ls 6 [(0, .ref (ad 0)), (1, .int v)])
    (kk : ∀ (ls : Array Slot) (H : Heap) (locs : List Loc), zR D B (wX cI cZ ad S) s H locs → lv_has ls 6 [(5, .int (nI (zlow v 30))), (4, .int (nI (a_w v (zn S 22 0)))), (3, .int (nI (a_p v))), (2, .int (nI (a_d v))), (0, .ref (ad 0)), (1, .int (v))] → W pg l en ({ frames := 9, cells := mc, slots := ms, locals := 204 } : Room) s mm ([.ref (ad 0), .int (v)] : List Value).toArray below meth cd H locs 0 0 Q (F0 mm 65 ls [])) : W pg l en ({ frames := 9, cells := mc, slots := ms, locals := 204 } : Room) s mm ([.ref (ad 0), .int (v)] : List Value).toArray below meth cd H locs 0 0 Q (F0 mm 0 ls []) := by
  have hW := (zOK.w hO).2
  refine lv_iload_n hx hb dL_act_0 rfl (lv_at hl 1 rfl) ?_
  refine lv_bipush (v := (nI (24))) hx hb dL_act_1 (by decide) ?_
  refine lv_ishr hx hb dL_act_3 ?_
  refine lv_bipush (v := (nI (8))) hx hb dL_act_4 (by decide) ?_
  refine z_callS_i (As := [.int (zsh (v) 24), .int (nI (8))]) (rest := []) (w := wX cI cZ ad) ⟨hx, hb, hml, hown, hts⟩ hF hR (c_L_low hG S ((zsh (v) 24)) 8 (by omega) (by omega)) (va_cwS 2 hts gL_act_L_low rfl rfl rfl (by decide +kernel) ⟨Nat.le_of_ble_eq_true rfl, Nat.le_of_ble_eq_true rfl⟩) rfl hl rfl (Nat.le_of_ble_eq_true rfl) ⟨Nat.zero_le _, Nat.zero_le _⟩ dL_act_6 (fun r1 S1 H locs hp1 hR => ?_)
  obtain ⟨hr1, hs1⟩ := hp1
  subst r1
  subst S1
  refine z_if_ne_n (tgt := 16) hx hb dL_act_9 (by decide) (zlow_lt2 _ _) (fun h9_2 => ?_) (fun h9_2 => ?_)
  · skip
    have q9 := h9_2
    refine lv_iconst (v := (nI (0))) hx hb dL_act_16 (by decide) ?_
    refine lv_istore_n (lv' := [(2, .int (nI (0))), (0, .ref (ad 0)), (1, .int (v))]) hx hb dL_act_17 rfl hl (by decide) rfl (fun ls hl => ?_)
    refine lv_iload_n hx hb dL_act_18 rfl (lv_at hl 2 rfl) ?_
    refine lv_iconst (v := (nI (5))) hx hb dL_act_19 (by decide) ?_
    refine lv_ishr hx hb dL_act_20 ?_
    refine lv_iload_n hx hb dL_act_21 rfl (lv_at hl 0 rfl) ?_
    refine z_if_eq_n (tgt := 30) hx hb dL_act_22 (by decide) (by omega) (fun h22_3 => ?_) (fun h22_3 => by omega)
    refine lv_iconst (v := (nI (4))) hx hb dL_act_30 (by decide) ?_
    refine z_callS_i (As := [.int (zsh (v) 5), .int (nI (4))]) (rest := []) (w := wX cI cZ ad) ⟨hx, hb, hml, hown, hts⟩ hF hR (c_L_low hG S ((zsh (v) 5)) 4 (by omega) (by omega)) (va_cwS 2 hts gL_act_L_low rfl rfl rfl (by decide +kernel) ⟨Nat.le_of_ble_eq_true rfl, Nat.le_of_ble_eq_true rfl⟩) rfl hl rfl (Nat.le_of_ble_eq_true rfl) ⟨Nat.zero_le _, Nat.zero_le _⟩ dL_act_31 (fun r4 S4 H locs hp4 hR => ?_)
    obtain ⟨hr4, hs4⟩ := hp4
    subst r4
    subst S4
    refine lv_istore_n (lv' := [(3, .int (nI (zlow ((zsh (v) 5)) 4))), (2, .int (nI (0))), (0, .ref (ad 0)), (1, .int (v))]) hx hb dL_act_34 rfl hl (by decide) rfl (fun ls hl => ?_)
    refine lv_iload_n hx hb dL_act_35 rfl (lv_at hl 3 rfl) ?_
    refine lv_bipush (v := (nI (8))) hx hb dL_act_36 (by decide) ?_
    refine lv_ishr hx hb dL_act_38 ?_
    refine lv_iload_n hx hb dL_act_39 rfl (lv_at hl 1 rfl) ?_
    refine z_if_eq_n (tgt := 48) hx hb dL_act_40 (by decide) (by omega) (fun h40_5 => ?_) (fun h40_5 => by omega)
    refine lv_aload_n hx hb dL_act_48 rfl (lv_at hl 2 rfl) ?_
    refine z_callV_i (As := []) (rest := [.int (zsh (v) 8)]) (w := wX cI cZ ad) ⟨hx, hb, hml, hown, hts⟩ hF hR (c_X4_workers hG S hO) (cwV 0 hts gL_act_X4_workers rfl rfl rfl (by decide +kernel) ⟨Nat.le_of_ble_eq_true rfl, Nat.le_of_ble_eq_true rfl⟩) (wX_c0 S) rfl rfl rfl hl rfl (Nat.le_of_ble_eq_true rfl) ⟨Nat.zero_le _, Nat.zero_le _⟩ dL_act_49 (fun r6 S6 H locs hp6 hR => ?_)
    obtain ⟨hr6, hs6⟩ := hp6
    subst r6
    subst S6
    refine z_callS_i (As := [.int (zsh (v) 8), .int (nI (zn S 22 0))]) (rest := []) (w := wX cI cZ ad) ⟨hx, hb, hml, hown, hts⟩ hF hR (c_L_low hG S ((zsh (v) 8)) (zn S 22 0) (by omega) (by omega)) (va_cwS 2 hts gL_act_L_low rfl rfl rfl (by decide +kernel) ⟨Nat.le_of_ble_eq_true rfl, Nat.le_of_ble_eq_true rfl⟩) rfl hl rfl (Nat.le_of_ble_eq_true rfl) ⟨Nat.zero_le _, Nat.zero_le _⟩ dL_act_52 (fun r7 S7 H locs hp7 hR => ?_)
    obtain ⟨hr7, hs7⟩ := hp7
    subst r7
    subst S7
    refine lv_istore (lv' := [(4, .int (nI (zlow ((zsh (v) 8)) (zn S 22 0)))), (3, .int (nI (zlow ((zsh (v) 5)) 4))), (2, .int (nI (0))), (0, .ref (ad 0)), (1, .int (v))]) hx hb dL_act_55 hl (by decide) rfl (fun ls hl => ?_)
    refine lv_iload_n hx hb dL_act_57 rfl (lv_at hl 4 rfl) ?_
    refine lv_bipush (v := (nI (30))) hx hb dL_act_58 (by decide) ?_
    refine z_callS_i (As := [.int (v), .int (nI (30))]) (rest := []) (w := wX cI cZ ad) ⟨hx, hb, hml, hown, hts⟩ hF hR (c_L_low hG S ((v)) 30 (by omega) (by omega)) (va_cwS 2 hts gL_act_L_low rfl rfl rfl (by decide +kernel) ⟨Nat.le_of_ble_eq_true rfl, Nat.le_of_ble_eq_true rfl⟩) rfl hl rfl (Nat.le_of_ble_eq_true rfl) ⟨Nat.zero_le _, Nat.zero_le _⟩ dL_act_60 (fun r8 S8 H locs hp8 hR => ?_)
    obtain ⟨hr8, hs8⟩ := hp8
    subst r8
    subst S8
    refine lv_istore (lv' := [(5, .int (nI (zlow ((v)) 30))), (4, .int (nI (zlow ((zsh (v) 8)) (zn S 22 0)))), (3, .int (nI (zlow ((zsh (v) 5)) 4))), (2, .int (nI (0))), (0, .ref (ad 0)), (1, .int (v))]) hx hb dL_act_63 hl (by decide) rfl (fun ls hl => ?_)
    exact kk ls H locs hR (by unfold a_w a_p; rw [show a_d v = 0 from if_neg q9]; exact hl)
  · skip
    have q9 := h9_2
    refine lv_iconst (v := (nI (1))) hx hb dL_act_12 (by decide) ?_
    refine lv_goto (tgt := 17) hx hb dL_act_13 (by decide) ?_
    refine lv_istore_n (lv' := [(2, .int (nI (1))), (0, .ref (ad 0)), (1, .int (v))]) hx hb dL_act_17 rfl hl (by decide) rfl (fun ls hl => ?_)
    refine lv_iload_n hx hb dL_act_18 rfl (lv_at hl 2 rfl) ?_
    refine lv_iconst (v := (nI (5))) hx hb dL_act_19 (by decide) ?_
    refine lv_ishr hx hb dL_act_20 ?_
    refine lv_iload_n hx hb dL_act_21 rfl (lv_at hl 0 rfl) ?_
    refine z_if_eq_n (tgt := 30) hx hb dL_act_22 (by decide) (by omega) (fun h22_9 => by omega) (fun h22_9 => ?_)
    refine lv_bipush (v := (nI (6))) hx hb dL_act_25 (by decide) ?_
    refine lv_goto (tgt := 31) hx hb dL_act_27 (by decide) ?_
    refine z_callS_i (As := [.int (zsh (v) 5), .int (nI (6))]) (rest := []) (w := wX cI cZ ad) ⟨hx, hb, hml, hown, hts⟩ hF hR (c_L_low hG S ((zsh (v) 5)) 6 (by omega) (by omega)) (va_cwS 2 hts gL_act_L_low rfl rfl rfl (by decide +kernel) ⟨Nat.le_of_ble_eq_true rfl, Nat.le_of_ble_eq_true rfl⟩) rfl hl rfl (Nat.le_of_ble_eq_true rfl) ⟨Nat.zero_le _, Nat.zero_le _⟩ dL_act_31 (fun r10 S10 H locs hp10 hR => ?_)
    obtain ⟨hr10, hs10⟩ := hp10
    subst r10
    subst S10
    refine lv_istore_n (lv' := [(3, .int (nI (zlow ((zsh (v) 5)) 6))), (2, .int (nI (1))), (0, .ref (ad 0)), (1, .int (v))]) hx hb dL_act_34 rfl hl (by decide) rfl (fun ls hl => ?_)
    refine lv_iload_n hx hb dL_act_35 rfl (lv_at hl 3 rfl) ?_
    refine lv_bipush (v := (nI (8))) hx hb dL_act_36 (by decide) ?_
    refine lv_ishr hx hb dL_act_38 ?_
    refine lv_iload_n hx hb dL_act_39 rfl (lv_at hl 1 rfl) ?_
    refine z_if_eq_n (tgt := 48) hx hb dL_act_40 (by decide) (by omega) (fun h40_11 => by omega) (fun h40_11 => ?_)
    refine lv_bipush (v := (nI (6))) hx hb dL_act_43 (by decide) ?_
    refine lv_goto (tgt := 52) hx hb dL_act_45 (by decide) ?_
    refine z_callS_i (As := [.int (zsh (v) 8), .int (nI (6))]) (rest := []) (w := wX cI cZ ad) ⟨hx, hb, hml, hown, hts⟩ hF hR (c_L_low hG S ((zsh (v) 8)) 6 (by omega) (by omega)) (va_cwS 2 hts gL_act_L_low rfl rfl rfl (by decide +kernel) ⟨Nat.le_of_ble_eq_true rfl, Nat.le_of_ble_eq_true rfl⟩) rfl hl rfl (Nat.le_of_ble_eq_true rfl) ⟨Nat.zero_le _, Nat.zero_le _⟩ dL_act_52 (fun r12 S12 H locs hp12 hR => ?_)
    obtain ⟨hr12, hs12⟩ := hp12
    subst r12
    subst S12
    refine lv_istore (lv' := [(4, .int (nI (zlow ((zsh (v) 8)) 6))), (3, .int (nI (zlow ((zsh (v) 5)) 6))), (2, .int (nI (1))), (0, .ref (ad 0)), (1, .int (v))]) hx hb dL_act_55 hl (by decide) rfl (fun ls hl => ?_)
    refine lv_iload_n hx hb dL_act_57 rfl (lv_at hl 4 rfl) ?_
    refine lv_bipush (v := (nI (30))) hx hb dL_act_58 (by decide) ?_
    refine z_callS_i (As := [.int (v), .int (nI (30))]) (rest := []) (w := wX cI cZ ad) ⟨hx, hb, hml, hown, hts⟩ hF hR (c_L_low hG S ((v)) 30 (by omega) (by omega)) (va_cwS 2 hts gL_act_L_low rfl rfl rfl (by decide +kernel) ⟨Nat.le_of_ble_eq_true rfl, Nat.le_of_ble_eq_true rfl⟩) rfl hl rfl (Nat.le_of_ble_eq_true rfl) ⟨Nat.zero_le _, Nat.zero_le _⟩ dL_act_60 (fun r13 S13 H locs hp13 hR => ?_)
    obtain ⟨hr13, hs13⟩ := hp13
    subst r13
    subst S13
    refine lv_istore (lv' := [(5, .int (nI (zlow ((v)) 30))), (4, .int (nI (zlow ((zsh (v) 8)) 6))), (3, .int (nI (zlow ((zsh (v) 5)) 6))), (2, .int (nI (1))), (0, .ref (ad 0)), (1, .int (v))]) hx hb dL_act_63 hl (by decide) rfl (fun ls hl => ?_)
    exact kk ls H locs hR (by unfold a_w a_p; rw [show a_d v = 1 from if_pos q9]; exact hl)
