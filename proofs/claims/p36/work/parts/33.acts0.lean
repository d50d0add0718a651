/-! .. -/
set_option maxHeartbeats 4000000 in
set_option maxRecDepth 100000 in
theorem a_append_e4_0 {l : Launch} {D : va_G} {cI cZ : ClassId} {ad : Nat → Nat} {B : Nat → Prop} (hG : ∀ S : zS, va_D B (wX cI cZ ad S)) (hfl : l.stackTraces = false) (S : zS) (v : Int32) (hO : zOK S) (hh1 : 0 ≤ zlow v 30) (hh2 : zlow v 30 < 8) (hd : a_d v = 0) (hp : (a_p v) < 4) (hk : (zlow (zsh v 7) 32) < 32) (hv : 1 ≤ (1 + zlow (zsh v 12) 100)) (hv2 : (1 + zlow (zsh v 12) 100) ≤ 100) (hn : ¬ zn S 0 (a_p v) < 60) : zMC 1 6 l yL_act wsL_act ({ frames := 9, cells := 1, slots := 6, locals := 204 } : Room) [.ref (ad 0), .int (v)] D (zT cI cZ) B (wX cI cZ ad) S (fun (r : Int32) (S1 : zS) => r = ((-99999)) ∧ S1 = S) := by
  refine zMC_ofP (cc := cL_act) (maxL := 6) (ret := (some .int)) (by decide) rfl (Nat.le_of_ble_eq_true rfl) ?_
  intro pg en s mm below meth cd hx hb hr hml hown hts hlk hF hR ls hl
  have hl : lv_has ls 6 [(0, .ref (ad 0)), (1, .int (v))] := hl
  have h30 := zlow_lt v (n := 30) (by decide)
  have hW := (zOK.w hO).2
  refine act_pre hG S v hO hx hb hml hown hts hF s.heap [] hR ls hl (fun ls H locs hR hl => ?_)
  refine lv_iload hx hb dL_act_65 (lv_at hl 0 rfl) ?_
  refine lv_bipush (v := (nI (8))) hx hb dL_act_67 (by decide) ?_
  refine z_ge_n (tgt := 123) hx hb dL_act_69 (by decide) (by omega) (by omega) (fun h69_1 => by omega) (fun h69_1 => ?_)
  refine lv_aload_n hx hb dL_act_72 rfl (lv_at hl 4 rfl) ?_
  refine lv_iload_n hx hb dL_act_73 rfl (lv_at hl 2 rfl) ?_
  refine lv_iload_n hx hb dL_act_74 rfl (lv_at hl 5 rfl) ?_
  refine lv_bipush (v := (nI (7))) hx hb dL_act_75 (by decide) ?_
  refine lv_ishr hx hb dL_act_77 ?_
  refine lv_iload_n hx hb dL_act_78 rfl (lv_at hl 3 rfl) ?_
  refine z_if_eq_n (tgt := 87) hx hb dL_act_79 (by decide) (by omega) (fun h79_2 => ?_) (fun h79_2 => by omega)
  refine lv_bipush (v := (nI (32))) hx hb dL_act_87 (by decide) ?_
  refine z_callS_i (As := [.int (zsh (v) 7), .int (nI (32))]) (rest := [.int (nI (a_p v)), .ref (ad 0)]) (w := wX cI cZ ad) ⟨hx, hb, hml, hown, hts⟩ hF hR (c_L_low hG S ((zsh (v) 7)) 32 (by omega) (by omega)) (va_cwS 2 hts gL_act_L_low rfl rfl rfl (by decide +kernel) ⟨Nat.le_of_ble_eq_true rfl, Nat.le_of_ble_eq_true rfl⟩) rfl hl rfl (Nat.le_of_ble_eq_true rfl) (by decide) dL_act_89 (fun r3 S3 H locs hp3 hR => ?_)
  obtain ⟨hr3, hs3⟩ := hp3
  subst r3
  subst S3
  refine lv_iload_n hx hb dL_act_92 rfl (lv_at hl 3 rfl) ?_
  refine z_if_eq_n (tgt := 108) hx hb dL_act_93 (by decide) (by omega) (fun h93_4 => ?_) (fun h93_4 => by omega)
  refine lv_iconst (v := (nI (1))) hx hb dL_act_108 (by decide) ?_
  refine lv_iload_n hx hb dL_act_109 rfl (lv_at hl 5 rfl) ?_
  refine lv_bipush (v := (nI (12))) hx hb dL_act_110 (by decide) ?_
  refine lv_ishr hx hb dL_act_112 ?_
  refine lv_bipush (v := (nI (100))) hx hb dL_act_113 (by decide) ?_
  refine z_callS_i (As := [.int (zsh (v) 12), .int (nI (100))]) (rest := [.int (nI (1)), .int (nI (zlow ((zsh (v) 7)) 32)), .int (nI (a_p v)), .ref (ad 0)]) (w := wX cI cZ ad) ⟨hx, hb, hml, hown, hts⟩ hF hR (c_L_low hG S ((zsh (v) 12)) 100 (by omega) (by omega)) (va_cwS 2 hts gL_act_L_low rfl rfl rfl (by decide +kernel) ⟨Nat.le_of_ble_eq_true rfl, Nat.le_of_ble_eq_true rfl⟩) rfl hl rfl (Nat.le_of_ble_eq_true rfl) (by decide) dL_act_115 (fun r5 S5 H locs hp5 hR => ?_)
  obtain ⟨hr5, hs5⟩ := hp5
  subst r5
  subst S5
  refine z_iadd_n hx hb dL_act_118 ?_
  refine z_callSW_i (As := [.ref (ad 0), .int (nI (a_p v)), .int (nI (zlow ((zsh (v) 7)) 32)), .int (nI (1 + (zlow ((zsh (v) 12)) 100)))]) (rest := []) (w := wX cI cZ ad) ⟨hx, hb, hml, hown, hts⟩ hF hR (o_append_append_e4 hG hfl S (a_p v) (zlow (zsh v 7) 32) (1 + zlow (zsh v 12) 100) hO hp hk hv hv2 hn) (vx_cwSW 4 hts gL_act_L_append rfl rfl rfl (by decide +kernel) ⟨Nat.le_of_ble_eq_true rfl, Nat.le_of_ble_eq_true rfl⟩) rfl hl rfl (Nat.le_of_ble_eq_true rfl) ⟨Nat.le_of_ble_eq_true rfl, Nat.le_of_ble_eq_true rfl⟩ dL_act_119 (fun r6 S6 H locs hp6 hR => ?_)
  obtain ⟨hr6, hs6⟩ := hp6
  subst r6
  subst S6
  exact z_iret (w := wX cI cZ ad) (S1 := S) hx hb hr hlk hF hR dL_act_122 (⟨rfl, rfl⟩)
set_option maxHeartbeats 4000000 in
set_option maxRecDepth 100000 in
theorem a_append_ok_0 {l : Launch} {D : va_G} {cI cZ : ClassId} {ad : Nat → Nat} {B : Nat → Prop} (hG : ∀ S : zS, va_D B (wX cI cZ ad S)) (hfl : l.stackTraces = false) (S : zS) (v : Int32) (hO : zOK S) (hh1 : 0 ≤ zlow v 30) (hh2 : zlow v 30 < 8) (hd : a_d v = 0) (hp : (a_p v) < 4) (hk : (zlow (zsh v 7) 32) < 32) (hv : 1 ≤ (1 + zlow (zsh v 12) 100)) (hv2 : (1 + zlow (zsh v 12) 100) ≤ 100) (hn : zn S 0 (a_p v) < 60) : zMC 0 0 l yL_act wsL_act ({ frames := 9, cells := 0, slots := 0, locals := 204 } : Room) [.ref (ad 0), .int (v)] D (zT cI cZ) B (wX cI cZ ad) S (fun (r : Int32) (S1 : zS) => r = (nI (zn S 0 (a_p v))) ∧ S1 = sp_app S (a_p v) (nI (1000 * (zlow (zsh v 7) 32) + (1 + zlow (zsh v 12) 100)))) := by
  refine zMC_ofP (cc := cL_act) (maxL := 6) (ret := (some .int)) (by decide) rfl (Nat.le_of_ble_eq_true rfl) ?_
  intro pg en s mm below meth cd hx hb hr hml hown hts hlk hF hR ls hl
  have hl : lv_has ls 6 [(0, .ref (ad 0)), (1, .int (v))] := hl
  have h30 := zlow_lt v (n := 30) (by decide)
  have hW := (zOK.w hO).2
  refine act_pre hG S v hO hx hb hml hown hts hF s.heap [] hR ls hl (fun ls H locs hR hl => ?_)
  refine lv_iload hx hb dL_act_65 (lv_at hl 0 rfl) ?_
  refine lv_bipush (v := (nI (8))) hx hb dL_act_67 (by decide) ?_
  refine z_ge_n (tgt := 123) hx hb dL_act_69 (by decide) (by omega) (by omega) (fun h69_1 => by omega) (fun h69_1 => ?_)
  refine lv_aload_n hx hb dL_act_72 rfl (lv_at hl 4 rfl) ?_
  refine lv_iload_n hx hb dL_act_73 rfl (lv_at hl 2 rfl) ?_
  refine lv_iload_n hx hb dL_act_74 rfl (lv_at hl 5 rfl) ?_
  refine lv_bipush (v := (nI (7))) hx hb dL_act_75 (by decide) ?_
  refine lv_ishr hx hb dL_act_77 ?_
  refine lv_iload_n hx hb dL_act_78 rfl (lv_at hl 3 rfl) ?_
  refine z_if_eq_n (tgt := 87) hx hb dL_act_79 (by decide) (by omega) (fun h79_2 => ?_) (fun h79_2 => by omega)
  refine lv_bipush (v := (nI (32))) hx hb dL_act_87 (by decide) ?_
  refine z_callS_i (As := [.int (zsh (v) 7), .int (nI (32))]) (rest := [.int (nI (a_p v)), .ref (ad 0)]) (w := wX cI cZ ad) ⟨hx, hb, hml, hown, hts⟩ hF hR (c_L_low hG S ((zsh (v) 7)) 32 (by omega) (by omega)) (va_cwS 2 hts gL_act_L_low rfl rfl rfl (by decide +kernel) ⟨Nat.le_of_ble_eq_true rfl, Nat.le_of_ble_eq_true rfl⟩) rfl hl rfl (Nat.le_of_ble_eq_true rfl) (by decide) dL_act_89 (fun r3 S3 H locs hp3 hR => ?_)
  obtain ⟨hr3, hs3⟩ := hp3
  subst r3
  subst S3
  refine lv_iload_n hx hb dL_act_92 rfl (lv_at hl 3 rfl) ?_
  refine z_if_eq_n (tgt := 108) hx hb dL_act_93 (by decide) (by omega) (fun h93_4 => ?_) (fun h93_4 => by omega)
  refine lv_iconst (v := (nI (1))) hx hb dL_act_108 (by decide) ?_
  refine lv_iload_n hx hb dL_act_109 rfl (lv_at hl 5 rfl) ?_
  refine lv_bipush (v := (nI (12))) hx hb dL_act_110 (by decide) ?_
  refine lv_ishr hx hb dL_act_112 ?_
  refine lv_bipush (v := (nI (100))) hx hb dL_act_113 (by decide) ?_
  refine z_callS_i (As := [.int (zsh (v) 12), .int (nI (100))]) (rest := [.int (nI (1)), .int (nI (zlow ((zsh (v) 7)) 32)), .int (nI (a_p v)), .ref (ad 0)]) (w := wX cI cZ ad) ⟨hx, hb, hml, hown, hts⟩ hF hR (c_L_low hG S ((zsh (v) 12)) 100 (by omega) (by omega)) (va_cwS 2 hts gL_act_L_low rfl rfl rfl (by decide +kernel) ⟨Nat.le_of_ble_eq_true rfl, Nat.le_of_ble_eq_true rfl⟩) rfl hl rfl (Nat.le_of_ble_eq_true rfl) (by decide) dL_act_115 (fun r5 S5 H locs hp5 hR => ?_)
  obtain ⟨hr5, hs5⟩ := hp5
  subst r5
  subst S5
  refine z_iadd_n hx hb dL_act_118 ?_
  refine z_callSW_i (As := [.ref (ad 0), .int (nI (a_p v)), .int (nI (zlow ((zsh (v) 7)) 32)), .int (nI (1 + (zlow ((zsh (v) 12)) 100)))]) (rest := []) (w := wX cI cZ ad) ⟨hx, hb, hml, hown, hts⟩ hF hR (o_append_append_ok hG hfl S (a_p v) (zlow (zsh v 7) 32) (1 + zlow (zsh v 12) 100) hO hp hk hv hv2 hn) (vx_cwSW 4 hts gL_act_L_append rfl rfl rfl (by decide +kernel) ⟨Nat.le_of_ble_eq_true rfl, Nat.le_of_ble_eq_true rfl⟩) rfl hl rfl (Nat.le_of_ble_eq_true rfl) ⟨Nat.le_of_ble_eq_true rfl, Nat.le_of_ble_eq_true rfl⟩ dL_act_119 (fun r6 S6 H locs hp6 hR => ?_)
  obtain ⟨hr6, hs6⟩ := hp6
  subst r6
  subst S6
  exact z_iret (w := wX cI cZ ad) (S1 := (sp_app S (a_p v) (nI (1000 * (zlow (zsh v 7) 32) + (1 + zlow (zsh v 12) 100))))) hx hb hr hlk hF hR dL_act_122 (⟨rfl, rfl⟩)
set_option maxHeartbeats 4000000 in
set_option maxRecDepth 100000 in
theorem a_append_e1_1 {l : Launch} {D : va_G} {cI cZ : ClassId} {ad : Nat → Nat} {B : Nat → Prop} (hG : ∀ S : zS, va_D B (wX cI cZ ad S)) (hfl : l.stackTraces = false) (S : zS) (v : Int32) (hO : zOK S) (hh1 : 0 ≤ zlow v 30) (hh2 : zlow v 30 < 8) (hd : a_d v = 1) (hxb : zbad (nI (a_p v)) 4) : zMC 1 6 l yL_act wsL_act ({ frames := 9, cells := 1, slots := 6, locals := 204 } : Room) [.ref (ad 0), .int (v)] D (zT cI cZ) B (wX cI cZ ad) S (fun (r : Int32) (S1 : zS) => r = ((-99999)) ∧ S1 = S) := by
  refine zMC_ofP (cc := cL_act) (maxL := 6) (ret := (some .int)) (by decide) rfl (Nat.le_of_ble_eq_true rfl) ?_
  intro pg en s mm below meth cd hx hb hr hml hown hts hlk hF hR ls hl
  have hl : lv_has ls 6 [(0, .ref (ad 0)), (1, .int (v))] := hl
  have h30 := zlow_lt v (n := 30) (by decide)
  have hW := (zOK.w hO).2
  refine act_pre hG S v hO hx hb hml hown hts hF s.heap [] hR ls hl (fun ls H locs hR hl => ?_)
  refine lv_iload hx hb dL_act_65 (lv_at hl 0 rfl) ?_
  refine lv_bipush (v := (nI (8))) hx hb dL_act_67 (by decide) ?_
  refine z_ge_n (tgt := 123) hx hb dL_act_69 (by decide) (by omega) (by omega) (fun h69_1 => by omega) (fun h69_1 => ?_)
  refine lv_aload_n hx hb dL_act_72 rfl (lv_at hl 4 rfl) ?_
  refine lv_iload_n hx hb dL_act_73 rfl (lv_at hl 2 rfl) ?_
  refine lv_iload_n hx hb dL_act_74 rfl (lv_at hl 5 rfl) ?_
  refine lv_bipush (v := (nI (7))) hx hb dL_act_75 (by decide) ?_
  refine lv_ishr hx hb dL_act_77 ?_
  refine lv_iload_n hx hb dL_act_78 rfl (lv_at hl 3 rfl) ?_
  refine z_if_eq_n (tgt := 87) hx hb dL_act_79 (by decide) (by omega) (fun h79_2 => by omega) (fun h79_2 => ?_)
  refine lv_bipush (v := (nI (40))) hx hb dL_act_82 (by decide) ?_
  refine lv_goto (tgt := 89) hx hb dL_act_84 (by decide) ?_
  refine z_callS_i (As := [.int (zsh (v) 7), .int (nI (40))]) (rest := [.int (nI (a_p v)), .ref (ad 0)]) (w := wX cI cZ ad) ⟨hx, hb, hml, hown, hts⟩ hF hR (c_L_low hG S ((zsh (v) 7)) 40 (by omega) (by omega)) (va_cwS 2 hts gL_act_L_low rfl rfl rfl (by decide +kernel) ⟨Nat.le_of_ble_eq_true rfl, Nat.le_of_ble_eq_true rfl⟩) rfl hl rfl (Nat.le_of_ble_eq_true rfl) (by decide) dL_act_89 (fun r3 S3 H locs hp3 hR => ?_)
  obtain ⟨hr3, hs3⟩ := hp3
  subst r3
  subst S3
  refine lv_iload_n hx hb dL_act_92 rfl (lv_at hl 3 rfl) ?_
  refine z_if_eq_n (tgt := 108) hx hb dL_act_93 (by decide) (by omega) (fun h93_4 => by omega) (fun h93_4 => ?_)
  refine lv_iload_n hx hb dL_act_96 rfl (lv_at hl 5 rfl) ?_
  refine lv_bipush (v := (nI (12))) hx hb dL_act_97 (by decide) ?_
  refine lv_ishr hx hb dL_act_99 ?_
  refine lv_bipush (v := (nI (120))) hx hb dL_act_100 (by decide) ?_
  refine z_callS_i (As := [.int (zsh (v) 12), .int (nI (120))]) (rest := [.int (nI (zlow ((zsh (v) 7)) 40)), .int (nI (a_p v)), .ref (ad 0)]) (w := wX cI cZ ad) ⟨hx, hb, hml, hown, hts⟩ hF hR (c_L_low hG S ((zsh (v) 12)) 120 (by omega) (by omega)) (va_cwS 2 hts gL_act_L_low rfl rfl rfl (by decide +kernel) ⟨Nat.le_of_ble_eq_true rfl, Nat.le_of_ble_eq_true rfl⟩) rfl hl rfl (Nat.le_of_ble_eq_true rfl) (by decide) dL_act_102 (fun r5 S5 H locs hp5 hR => ?_)
  obtain ⟨hr5, hs5⟩ := hp5
  subst r5
  subst S5
  refine lv_goto (tgt := 119) hx hb dL_act_105 (by decide) ?_
  refine z_callSW_i (As := [.ref (ad 0), .int (nI (a_p v)), .int (nI (zlow ((zsh (v) 7)) 40)), .int (nI (zlow ((zsh (v) 12)) 120))]) (rest := []) (w := wX cI cZ ad) ⟨hx, hb, hml, hown, hts⟩ hF hR (o_append_append_e1 hG hfl S (nI (a_p v)) (nI (zlow (zsh v 7) 40)) (nI (zlow (zsh v 12) 120)) hO hxb) (vx_cwSW 4 hts gL_act_L_append rfl rfl rfl (by decide +kernel) ⟨Nat.le_of_ble_eq_true rfl, Nat.le_of_ble_eq_true rfl⟩) rfl hl rfl (Nat.le_of_ble_eq_true rfl) ⟨Nat.le_of_ble_eq_true rfl, Nat.le_of_ble_eq_true rfl⟩ dL_act_119 (fun r6 S6 H locs hp6 hR => ?_)
  obtain ⟨hr6, hs6⟩ := hp6
  subst r6
  subst S6
  exact z_iret (w := wX cI cZ ad) (S1 := S) hx hb hr hlk hF hR dL_act_122 (⟨rfl, rfl⟩)
set_option maxHeartbeats 4000000 in
set_option maxRecDepth 100000 in
theorem a_append_e2_1 {l : Launch} {D : va_G} {cI cZ : ClassId} {ad : Nat → Nat} {B : Nat → Prop} (hG : ∀ S : zS, va_D B (wX cI cZ ad S)) (hfl : l.stackTraces = false) (S : zS) (v : Int32) (hO : zOK S) (hh1 : 0 ≤ zlow v 30) (hh2 : zlow v 30 < 8) (hd : a_d v = 1) (hp : (a_p v) < 4) (hxb : zbad (nI (zlow (zsh v 7) 40)) 32) : zMC 1 6 l yL_act wsL_act ({ frames := 9, cells := 1, slots := 6, locals := 204 } : Room) [.ref (ad 0), .int (v)] D (zT cI cZ) B (wX cI cZ ad) S (fun (r : Int32) (S1 : zS) => r = ((-99999)) ∧ S1 = S) := by
  refine zMC_ofP (cc := cL_act) (maxL := 6) (ret := (some .int)) (by decide) rfl (Nat.le_of_ble_eq_true rfl) ?_
  intro pg en s mm below meth cd hx hb hr hml hown hts hlk hF hR ls hl
  have hl : lv_has ls 6 [(0, .ref (ad 0)), (1, .int (v))] := hl
  have h30 := zlow_lt v (n := 30) (by decide)
  have hW := (zOK.w hO).2
  refine act_pre hG S v hO hx hb hml hown hts hF s.heap [] hR ls hl (fun ls H locs hR hl => ?_)
  refine lv_iload hx hb dL_act_65 (lv_at hl 0 rfl) ?_
  refine lv_bipush (v := (nI (8))) hx hb dL_act_67 (by decide) ?_
  refine z_ge_n (tgt := 123) hx hb dL_act_69 (by decide) (by omega) (by omega) (fun h69_1 => by omega) (fun h69_1 => ?_)
  refine lv_aload_n hx hb dL_act_72 rfl (lv_at hl 4 rfl) ?_
  refine lv_iload_n hx hb dL_act_73 rfl (lv_at hl 2 rfl) ?_
  refine lv_iload_n hx hb dL_act_74 rfl (lv_at hl 5 rfl) ?_
  refine lv_bipush (v := (nI (7))) hx hb dL_act_75 (by decide) ?_
  refine lv_ishr hx hb dL_act_77 ?_
  refine lv_iload_n hx hb dL_act_78 rfl (lv_at hl 3 rfl) ?_
  refine z_if_eq_n (tgt := 87) hx hb dL_act_79 (by decide) (by omega) (fun h79_2 => by omega) (fun h79_2 => ?_)
  refine lv_bipush (v := (nI (40))) hx hb dL_act_82 (by decide) ?_
  refine lv_goto (tgt := 89) hx hb dL_act_84 (by decide) ?_
  refine z_callS_i (As := [.int (zsh (v) 7), .int (nI (40))]) (rest := [.int (nI (a_p v)), .ref (ad 0)]) (w := wX cI cZ ad) ⟨hx, hb, hml, hown, hts⟩ hF hR (c_L_low hG S ((zsh (v) 7)) 40 (by omega) (by omega)) (va_cwS 2 hts gL_act_L_low rfl rfl rfl (by decide +kernel) ⟨Nat.le_of_ble_eq_true rfl, Nat.le_of_ble_eq_true rfl⟩) rfl hl rfl (Nat.le_of_ble_eq_true rfl) (by decide) dL_act_89 (fun r3 S3 H locs hp3 hR => ?_)
  obtain ⟨hr3, hs3⟩ := hp3
  subst r3
  subst S3
  refine lv_iload_n hx hb dL_act_92 rfl (lv_at hl 3 rfl) ?_
  refine z_if_eq_n (tgt := 108) hx hb dL_act_93 (by decide) (by omega) (fun h93_4 => by omega) (fun h93_4 => ?_)
  refine lv_iload_n hx hb dL_act_96 rfl (lv_at hl 5 rfl) ?_
  refine lv_bipush (v := (nI (12))) hx hb dL_act_97 (by decide) ?_
  refine lv_ishr hx hb dL_act_99 ?_
  refine lv_bipush (v := (nI (120))) hx hb dL_act_100 (by decide) ?_
  refine z_callS_i (As := [.int (zsh (v) 12), .int (nI (120))]) (rest := [.int (nI (zlow ((zsh (v) 7)) 40)), .int (nI (a_p v)), .ref (ad 0)]) (w := wX cI cZ ad) ⟨hx, hb, hml, hown, hts⟩ hF hR (c_L_low hG S ((zsh (v) 12)) 120 (by omega) (by omega)) (va_cwS 2 hts gL_act_L_low rfl rfl rfl (by decide +kernel) ⟨Nat.le_of_ble_eq_true rfl, Nat.le_of_ble_eq_true rfl⟩) rfl hl rfl (Nat.le_of_ble_eq_true rfl) (by decide) dL_act_102 (fun r5 S5 H locs hp5 hR => ?_)
  obtain ⟨hr5, hs5⟩ := hp5
  subst r5
  subst S5
  refine lv_goto (tgt := 119) hx hb dL_act_105 (by decide) ?_
  refine z_callSW_i (As := [.ref (ad 0), .int (nI (a_p v)), .int (nI (zlow ((zsh (v) 7)) 40)), .int (nI (zlow ((zsh (v) 12)) 120))]) (rest := []) (w := wX cI cZ ad) ⟨hx, hb, hml, hown, hts⟩ hF hR (o_append_append_e2 hG hfl S (a_p v) (nI (zlow (zsh v 7) 40)) (nI (zlow (zsh v 12) 120)) hO hp hxb) (vx_cwSW 4 hts gL_act_L_append rfl rfl rfl (by decide +kernel) ⟨Nat.le_of_ble_eq_true rfl, Nat.le_of_ble_eq_true rfl⟩) rfl hl rfl (Nat.le_of_ble_eq_true rfl) ⟨Nat.le_of_ble_eq_true rfl, Nat.le_of_ble_eq_true rfl⟩ dL_act_119 (fun r6 S6 H locs hp6 hR => ?_)
  obtain ⟨hr6, hs6⟩ := hp6
  subst r6
  subst S6
  exact z_iret (w := wX cI cZ ad) (S1 := S) hx hb hr hlk hF hR dL_act_122 (⟨rfl, rfl⟩)
set_option maxHeartbeats 4000000 in
set_option maxRecDepth 100000 in
theorem a_append_e3_1 {l : Launch} {D : va_G} {cI cZ : ClassId} {ad : Nat → Nat} {B : Nat → Prop} (hG : ∀ S : zS, va_D B (wX cI cZ ad S)) (hfl : l.stackTraces = false) (S : zS) (v : Int32) (hO : zOK S) (hh1 : 0 ≤ zlow v 30) (hh2 : zlow v 30 < 8) (hd : a_d v = 1) (hp : (a_p v) < 4) (hk : (zlow (zsh v 7) 40) < 32) (hz : zbadv (nI (zlow (zsh v 12) 120)) 1 100) : zMC 1 6 l yL_act wsL_act ({ frames := 9, cells := 1, slots := 6, locals := 204 } : Room) [.ref (ad 0), .int (v)] D (zT cI cZ) B (wX cI cZ ad) S (fun (r : Int32) (S1 : zS) => r = ((-99999)) ∧ S1 = S) := by
  refine zMC_ofP (cc := cL_act) (maxL := 6) (ret := (some .int)) (by decide) rfl (Nat.le_of_ble_eq_true rfl) ?_
  intro pg en s mm below meth cd hx hb hr hml hown hts hlk hF hR ls hl
  have hl : lv_has ls 6 [(0, .ref (ad 0)), (1, .int (v))] := hl
  have h30 := zlow_lt v (n := 30) (by decide)
  have hW := (zOK.w hO).2
  refine act_pre hG S v hO hx hb hml hown hts hF s.heap [] hR ls hl (fun ls H locs hR hl => ?_)
  refine lv_iload hx hb dL_act_65 (lv_at hl 0 rfl) ?_
  refine lv_bipush (v := (nI (8))) hx hb dL_act_67 (by decide) ?_
  refine z_ge_n (tgt := 123) hx hb dL_act_69 (by decide) (by omega) (by omega) (fun h69_1 => by omega) (fun h69_1 => ?_)
  refine lv_aload_n hx hb dL_act_72 rfl (lv_at hl 4 rfl) ?_
  refine lv_iload_n hx hb dL_act_73 rfl (lv_at hl 2 rfl) ?_
  refine lv_iload_n hx hb dL_act_74 rfl (lv_at hl 5 rfl) ?_
  refine lv_bipush (v := (nI (7))) hx hb dL_act_75 (by decide) ?_
  refine lv_ishr hx hb dL_act_77 ?_
  refine lv_iload_n hx hb dL_act_78 rfl (lv_at hl 3 rfl) ?_
  refine z_if_eq_n (tgt := 87) hx hb dL_act_79 (by decide) (by omega) (fun h79_2 => by omega) (fun h79_2 => ?_)
  refine lv_bipush (v := (nI (40))) hx hb dL_act_82 (by decide) ?_
  refine lv_goto (tgt := 89) hx hb dL_act_84 (by decide) ?_
  refine z_callS_i (As := [.int (zsh (v) 7), .int (nI (40))]) (rest := [.int (nI (a_p v)), .ref (ad 0)]) (w := wX cI cZ ad) ⟨hx, hb, hml, hown, hts⟩ hF hR (c_L_low hG S ((zsh (v) 7)) 40 (by omega) (by omega)) (va_cwS 2 hts gL_act_L_low rfl rfl rfl (by decide +kernel) ⟨Nat.le_of_ble_eq_true rfl, Nat.le_of_ble_eq_true rfl⟩) rfl hl rfl (Nat.le_of_ble_eq_true rfl) (by decide) dL_act_89 (fun r3 S3 H locs hp3 hR => ?_)
  obtain ⟨hr3, hs3⟩ := hp3
  subst r3
  subst S3
  refine lv_iload_n hx hb dL_act_92 rfl (lv_at hl 3 rfl) ?_
  refine z_if_eq_n (tgt := 108) hx hb dL_act_93 (by decide) (by omega) (fun h93_4 => by omega) (fun h93_4 => ?_)
  refine lv_iload_n hx hb dL_act_96 rfl (lv_at hl 5 rfl) ?_
  refine lv_bipush (v := (nI (12))) hx hb dL_act_97 (by decide) ?_
  refine lv_ishr hx hb dL_act_99 ?_
  refine lv_bipush (v := (nI (120))) hx hb dL_act_100 (by decide) ?_
  refine z_callS_i (As := [.int (zsh (v) 12), .int (nI (120))]) (rest := [.int (nI (zlow ((zsh (v) 7)) 40)), .int (nI (a_p v)), .ref (ad 0)]) (w := wX cI cZ ad) ⟨hx, hb, hml, hown, hts⟩ hF hR (c_L_low hG S ((zsh (v) 12)) 120 (by omega) (by omega)) (va_cwS 2 hts gL_act_L_low rfl rfl rfl (by decide +kernel) ⟨Nat.le_of_ble_eq_true rfl, Nat.le_of_ble_eq_true rfl⟩) rfl hl rfl (Nat.le_of_ble_eq_true rfl) (by decide) dL_act_102 (fun r5 S5 H locs hp5 hR => ?_)
  obtain ⟨hr5, hs5⟩ := hp5
  subst r5
  subst S5
  refine lv_goto (tgt := 119) hx hb dL_act_105 (by decide) ?_
  refine z_callSW_i (As := [.ref (ad 0), .int (nI (a_p v)), .int (nI (zlow ((zsh (v) 7)) 40)), .int (nI (zlow ((zsh (v) 12)) 120))]) (rest := []) (w := wX cI cZ ad) ⟨hx, hb, hml, hown, hts⟩ hF hR (o_append_append_e3 hG hfl S (a_p v) (zlow (zsh v 7) 40) (nI (zlow (zsh v 12) 120)) hO hp hk hz) (vx_cwSW 4 hts gL_act_L_append rfl rfl rfl (by decide +kernel) ⟨Nat.le_of_ble_eq_true rfl, Nat.le_of_ble_eq_true rfl⟩) rfl hl rfl (Nat.le_of_ble_eq_true rfl) ⟨Nat.le_of_ble_eq_true rfl, Nat.le_of_ble_eq_true rfl⟩ dL_act_119 (fun r6 S6 H locs hp6 hR => ?_)
  obtain ⟨hr6, hs6⟩ := hp6
  subst r6
  subst S6
  exact z_iret (w := wX cI cZ ad) (S1 := S) hx hb hr hlk hF hR dL_act_122 (⟨rfl, rfl⟩)
set_option maxHeartbeats 4000000 in
set_option maxRecDepth 100000 in
theorem a_append_e4_1 {l : Launch} {D : va_G} {cI cZ : ClassId} {ad : Nat → Nat} {B : Nat → Prop} (hG : ∀ S : zS, va_D B (wX cI cZ ad S)) (hfl : l.stackTraces = false) (S : zS) (v : Int32) (hO : zOK S) (hh1 : 0 ≤ zlow v 30) (hh2 : zlow v 30 < 8) (hd : a_d v = 1) (hp : (a_p v) < 4) (hk : (zlow (zsh v 7) 40) < 32) (hv : 1 ≤ (zlow (zsh v 12) 120)) (hv2 : (zlow (zsh v 12) 120) ≤ 100) (hn : ¬ zn S 0 (a_p v) < 60) : zMC 1 6 l yL_act wsL_act ({ frames := 9, cells := 1, slots := 6, locals := 204 } : Room) [.ref (ad 0), .int (v)] D (zT cI cZ) B (wX cI cZ ad) S (fun (r : Int32) (S1 : zS) => r = ((-99999)) ∧ S1 = S) := by
  refine zMC_ofP (cc := cL_act) (maxL := 6) (ret := (some .int)) (by decide) rfl (Nat.le_of_ble_eq_true rfl) ?_
  intro pg en s mm below meth cd hx hb hr hml hown hts hlk hF hR ls hl
  have hl : lv_has ls 6 [(0, .ref (ad 0)), (1, .int (v))] := hl
  have h30 := zlow_lt v (n := 30) (by decide)
  have hW := (zOK.w hO).2
  refine act_pre hG S v hO hx hb hml hown hts hF s.heap [] hR ls hl (fun ls H locs hR hl => ?_)
  refine lv_iload hx hb dL_act_65 (lv_at hl 0 rfl) ?_
  refine lv_bipush (v := (nI (8))) hx hb dL_act_67 (by decide) ?_
  refine z_ge_n (tgt := 123) hx hb dL_act_69 (by decide) (by omega) (by omega) (fun h69_1 => by omega) (fun h69_1 => ?_)
  refine lv_aload_n hx hb dL_act_72 rfl (lv_at hl 4 rfl) ?_
  refine lv_iload_n hx hb dL_act_73 rfl (lv_at hl 2 rfl) ?_
  refine lv_iload_n hx hb dL_act_74 rfl (lv_at hl 5 rfl) ?_
  refine lv_bipush (v := (nI (7))) hx hb dL_act_75 (by decide) ?_
  refine lv_ishr hx hb dL_act_77 ?_
  refine lv_iload_n hx hb dL_act_78 rfl (lv_at hl 3 rfl) ?_
  refine z_if_eq_n (tgt := 87) hx hb dL_act_79 (by decide) (by omega) (fun h79_2 => by omega) (fun h79_2 => ?_)
  refine lv_bipush (v := (nI (40))) hx hb dL_act_82 (by decide) ?_
  refine lv_goto (tgt := 89) hx hb dL_act_84 (by decide) ?_
  refine z_callS_i (As := [.int (zsh (v) 7), .int (nI (40))]) (rest := [.int (nI (a_p v)), .ref (ad 0)]) (w := wX cI cZ ad) ⟨hx, hb, hml, hown, hts⟩ hF hR (c_L_low hG S ((zsh (v) 7)) 40 (by omega) (by omega)) (va_cwS 2 hts gL_act_L_low rfl rfl rfl (by decide +kernel) ⟨Nat.le_of_ble_eq_true rfl, Nat.le_of_ble_eq_true rfl⟩) rfl hl rfl (Nat.le_of_ble_eq_true rfl) (by decide) dL_act_89 (fun r3 S3 H locs hp3 hR => ?_)
  obtain ⟨hr3, hs3⟩ := hp3
  subst r3
  subst S3
  refine lv_iload_n hx hb dL_act_92 rfl (lv_at hl 3 rfl) ?_
  refine z_if_eq_n (tgt := 108) hx hb dL_act_93 (by decide) (by omega) (fun h93_4 => by omega) (fun h93_4 => ?_)
  refine lv_iload_n hx hb dL_act_96 rfl (lv_at hl 5 rfl) ?_
  refine lv_bipush (v := (nI (12))) hx hb dL_act_97 (by decide) ?_
  refine lv_ishr hx hb dL_act_99 ?_
  refine lv_bipush (v := (nI (120))) hx hb dL_act_100 (by decide) ?_
  refine z_callS_i (As := [.int (zsh (v) 12), .int (nI (120))]) (rest := [.int (nI (zlow ((zsh (v) 7)) 40)), .int (nI (a_p v)), .ref (ad 0)]) (w := wX cI cZ ad) ⟨hx, hb, hml, hown, hts⟩ hF hR (c_L_low hG S ((zsh (v) 12)) 120 (by omega) (by omega)) (va_cwS 2 hts gL_act_L_low rfl rfl rfl (by decide +kernel) ⟨Nat.le_of_ble_eq_true rfl, Nat.le_of_ble_eq_true rfl⟩) rfl hl rfl (Nat.le_of_ble_eq_true rfl) (by decide) dL_act_102 (fun r5 S5 H locs hp5 hR => ?_)
  obtain ⟨hr5, hs5⟩ := hp5
  subst r5
  subst S5
  refine lv_goto (tgt := 119) hx hb dL_act_105 (by decide) ?_
  refine z_callSW_i (As := [.ref (ad 0), .int (nI (a_p v)), .int (nI (zlow ((zsh (v) 7)) 40)), .int (nI (zlow ((zsh (v) 12)) 120))]) (rest := []) (w := wX cI cZ ad) ⟨hx, hb, hml, hown, hts⟩ hF hR (o_append_append_e4 hG hfl S (a_p v) (zlow (zsh v 7) 40) (zlow (zsh v 12) 120) hO hp hk hv hv2 hn) (vx_cwSW 4 hts gL_act_L_append rfl rfl rfl (by decide +kernel) ⟨Nat.le_of_ble_eq_true rfl, Nat.le_of_ble_eq_true rfl⟩) rfl hl rfl (Nat.le_of_ble_eq_true rfl) ⟨Nat.le_of_ble_eq_true rfl, Nat.le_of_ble_eq_true rfl⟩ dL_act_119 (fun r6 S6 H locs hp6 hR => ?_)
  obtain ⟨hr6, hs6⟩ := hp6
  subst r6
  subst S6
  exact z_iret (w := wX cI cZ ad) (S1 := S) hx hb hr hlk hF hR dL_act_122 (⟨rfl, rfl⟩)
set_option maxHeartbeats 4000000 in
set_option maxRecDepth 100000 in
theorem a_append_ok_1 {l : Launch} {D : va_G} {cI cZ : ClassId} {ad : Nat → Nat} {B : Nat → Prop} (hG : ∀ S : zS, va_D B (wX cI cZ ad S)) (hfl : l.stackTraces = false) (S : zS) (v : Int32) (hO : zOK S) (hh1 : 0 ≤ zlow v 30) (hh2 : zlow v 30 < 8) (hd : a_d v = 1) (hp : (a_p v) < 4) (hk : (zlow (zsh v 7) 40) < 32) (hv : 1 ≤ (zlow (zsh v 12) 120)) (hv2 : (zlow (zsh v 12) 120) ≤ 100) (hn : zn S 0 (a_p v) < 60) : zMC 0 0 l yL_act wsL_act ({ frames := 9, cells := 0, slots := 0, locals := 204 } : Room) [.ref (ad 0), .int (v)] D (zT cI cZ) B (wX cI cZ ad) S (fun (r : Int32) (S1 : zS) => r = (nI (zn S 0 (a_p v))) ∧ S1 = sp_app S (a_p v) (nI (1000 * (zlow (zsh v 7) 40) + (zlow (zsh v 12) 120)))) := by
  refine zMC_ofP (cc := cL_act) (maxL := 6) (ret := (some .int)) (by decide) rfl (Nat.le_of_ble_eq_true rfl) ?_
  intro pg en s mm below meth cd hx hb hr hml hown hts hlk hF hR ls hl
  have hl : lv_has ls 6 [(0, .ref (ad 0)), (1, .int (v))] := hl
  have h30 := zlow_lt v (n := 30) (by decide)
  have hW := (zOK.w hO).2
  refine act_pre hG S v hO hx hb hml hown hts hF s.heap [] hR ls hl (fun ls H locs hR hl => ?_)
  refine lv_iload hx hb dL_act_65 (lv_at hl 0 rfl) ?_
  refine lv_bipush (v := (nI (8))) hx hb dL_act_67 (by decide) ?_
  refine z_ge_n (tgt := 123) hx hb dL_act_69 (by decide) (by omega) (by omega) (fun h69_1 => by omega) (fun h69_1 => ?_)
  refine lv_aload_n hx hb dL_act_72 rfl (lv_at hl 4 rfl) ?_
  refine lv_iload_n hx hb dL_act_73 rfl (lv_at hl 2 rfl) ?_
  refine lv_iload_n hx hb dL_act_74 rfl (lv_at hl 5 rfl) ?_
  refine lv_bipush (v := (nI (7))) hx hb dL_act_75 (by decide) ?_
  refine lv_ishr hx hb dL_act_77 ?_
  refine lv_iload_n hx hb dL_act_78 rfl (lv_at hl 3 rfl) ?_
  refine z_if_eq_n (tgt := 87) hx hb dL_act_79 (by decide) (by omega) (fun h79_2 => by omega) (fun h79_2 => ?_)
  refine lv_bipush (v := (nI (40))) hx hb dL_act_82 (by decide) ?_
  refine lv_goto (tgt := 89) hx hb dL_act_84 (by decide) ?_
  refine z_callS_i (As := [.int (zsh (v) 7), .int (nI (40))]) (rest := [.int (nI (a_p v)), .ref (ad 0)]) (w := wX cI cZ ad) ⟨hx, hb, hml, hown, hts⟩ hF hR (c_L_low hG S ((zsh (v) 7)) 40 (by omega) (by omega)) (va_cwS 2 hts gL_act_L_low rfl rfl rfl (by decide +kernel) ⟨Nat.le_of_ble_eq_true rfl, Nat.le_of_ble_eq_true rfl⟩) rfl hl rfl (Nat.le_of_ble_eq_true rfl) (by decide) dL_act_89 (fun r3 S3 H locs hp3 hR => ?_)
  obtain ⟨hr3, hs3⟩ := hp3
  subst r3
  subst S3
  refine lv_iload_n hx hb dL_act_92 rfl (lv_at hl 3 rfl) ?_
  refine z_if_eq_n (tgt := 108) hx hb dL_act_93 (by decide) (by omega) (fun h93_4 => by omega) (fun h93_4 => ?_)
  refine lv_iload_n hx hb dL_act_96 rfl (lv_at hl 5 rfl) ?_
  refine lv_bipush (v := (nI (12))) hx hb dL_act_97 (by decide) ?_
  refine lv_ishr hx hb dL_act_99 ?_
  refine lv_bipush (v := (nI (120))) hx hb dL_act_100 (by decide) ?_
  refine z_callS_i (As := [.int (zsh (v) 12), .int (nI (120))]) (rest := [.int (nI (zlow ((zsh (v) 7)) 40)), .int (nI (a_p v)), .ref (ad 0)]) (w := wX cI cZ ad) ⟨hx, hb, hml, hown, hts⟩ hF hR (c_L_low hG S ((zsh (v) 12)) 120 (by omega) (by omega)) (va_cwS 2 hts gL_act_L_low rfl rfl rfl (by decide +kernel) ⟨Nat.le_of_ble_eq_true rfl, Nat.le_of_ble_eq_true rfl⟩) rfl hl rfl (Nat.le_of_ble_eq_true rfl) (by decide) dL_act_102 (fun r5 S5 H locs hp5 hR => ?_)
  obtain ⟨hr5, hs5⟩ := hp5
  subst r5
  subst S5
  refine lv_goto (tgt := 119) hx hb dL_act_105 (by decide) ?_
  refine z_callSW_i (As := [.ref (ad 0), .int (nI (a_p v)), .int (nI (zlow ((zsh (v) 7)) 40)), .int (nI (zlow ((zsh (v) 12)) 120))]) (rest := []) (w := wX cI cZ ad) ⟨hx, hb, hml, hown, hts⟩ hF hR (o_append_append_ok hG hfl S (a_p v) (zlow (zsh v 7) 40) (zlow (zsh v 12) 120) hO hp hk hv hv2 hn) (vx_cwSW 4 hts gL_act_L_append rfl rfl rfl (by decide +kernel) ⟨Nat.le_of_ble_eq_true rfl, Nat.le_of_ble_eq_true rfl⟩) rfl hl rfl (Nat.le_of_ble_eq_true rfl) ⟨Nat.le_of_ble_eq_true rfl, Nat.le_of_ble_eq_true rfl⟩ dL_act_119 (fun r6 S6 H locs hp6 hR => ?_)
  obtain ⟨hr6, hs6⟩ := hp6
  subst r6
  subst S6
  exact z_iret (w := wX cI cZ ad) (S1 := (sp_app S (a_p v) (nI (1000 * (zlow (zsh v 7) 40) + (zlow (zsh v 12) 120))))) hx hb hr hlk hF hR dL_act_122 (⟨rfl, rfl⟩)
set_option maxHeartbeats 4000000 in
set_option maxRecDepth 100000 in
theorem a_read_e1 {l : Launch} {D : va_G} {cI cZ : ClassId} {ad : Nat → Nat} {B : Nat → Prop} (hG : ∀ S : zS, va_D B (wX cI cZ ad S)) (hfl : l.stackTraces = false) (S : zS) (v : Int32) (hO : zOK S) (hh1 : 8 ≤ zlow v 30) (hh2 : zlow v 30 < 13) (hxb : zbad (nI (a_p v)) 4) : zMC 1 6 l yL_act wsL_act ({ frames := 9, cells := 1, slots := 6, locals := 204 } : Room) [.ref (ad 0), .int (v)] D (zT cI cZ) B (wX cI cZ ad) S (fun (r : Int32) (S1 : zS) => r = ((-99999)) ∧ S1 = S) := by
  refine zMC_ofP (cc := cL_act) (maxL := 6) (ret := (some .int)) (by decide) rfl (Nat.le_of_ble_eq_true rfl) ?_
  intro pg en s mm below meth cd hx hb hr hml hown hts hlk hF hR ls hl
  have hl : lv_has ls 6 [(0, .ref (ad 0)), (1, .int (v))] := hl
  have h30 := zlow_lt v (n := 30) (by decide)
  have hW := (zOK.w hO).2
  refine act_pre hG S v hO hx hb hml hown hts hF s.heap [] hR ls hl (fun ls H locs hR hl => ?_)
  refine lv_iload hx hb dL_act_65 (lv_at hl 0 rfl) ?_
  refine lv_bipush (v := (nI (8))) hx hb dL_act_67 (by decide) ?_
  refine z_ge_n (tgt := 123) hx hb dL_act_69 (by decide) (by omega) (by omega) (fun h69_1 => ?_) (fun h69_1 => by omega)
  refine lv_iload hx hb dL_act_123 (lv_at hl 0 rfl) ?_
  refine lv_bipush (v := (nI (13))) hx hb dL_act_125 (by decide) ?_
  refine z_ge_n (tgt := 138) hx hb dL_act_127 (by decide) (by omega) (by omega) (fun h127_2 => by omega) (fun h127_2 => ?_)
  refine lv_aload_n hx hb dL_act_130 rfl (lv_at hl 4 rfl) ?_
  refine lv_iconst (v := (nI (0))) hx hb dL_act_131 (by decide) ?_
  refine lv_iload_n hx hb dL_act_132 rfl (lv_at hl 2 rfl) ?_
  refine lv_iconst (v := (nI (0))) hx hb dL_act_133 (by decide) ?_
  refine z_callSW_i (As := [.ref (ad 0), .int (nI (0)), .int (nI (a_p v)), .int (nI (0))]) (rest := []) (w := wX cI cZ ad) ⟨hx, hb, hml, hown, hts⟩ hF hR (o_does_read_e1 hG hfl S (nI (a_p v)) hO hxb) (vx_cwSW 4 hts gL_act_L_does rfl rfl rfl (by decide +kernel) ⟨Nat.le_of_ble_eq_true rfl, Nat.le_of_ble_eq_true rfl⟩) rfl hl rfl (Nat.le_of_ble_eq_true rfl) ⟨Nat.le_of_ble_eq_true rfl, Nat.le_of_ble_eq_true rfl⟩ dL_act_134 (fun r3 S3 H locs hp3 hR => ?_)
  obtain ⟨hr3, hs3⟩ := hp3
  subst r3
  subst S3
  exact z_iret (w := wX cI cZ ad) (S1 := S) hx hb hr hlk hF hR dL_act_137 (⟨rfl, rfl⟩)
set_option maxHeartbeats 4000000 in
set_option maxRecDepth 100000 in
theorem a_read_e2 {l : Launch} {D : va_G} {cI cZ : ClassId} {ad : Nat → Nat} {B : Nat → Prop} (hG : ∀ S : zS, va_D B (wX cI cZ ad S)) (hfl : l.stackTraces = false) (S : zS) (v : Int32) (hO : zOK S) (hh1 : 8 ≤ zlow v 30) (hh2 : zlow v 30 < 13) (hp : (a_p v) < 4) (hc : ¬ zcanR S (a_p v)) : zMC 1 6 l yL_act wsL_act ({ frames := 9, cells := 1, slots := 6, locals := 204 } : Room) [.ref (ad 0), .int (v)] D (zT cI cZ) B (wX cI cZ ad) S (fun (r : Int32) (S1 : zS) => r = ((-99999)) ∧ S1 = S) := by
  refine zMC_ofP (cc := cL_act) (maxL := 6) (ret := (some .int)) (by decide) rfl (Nat.le_of_ble_eq_true rfl) ?_
  intro pg en s mm below meth cd hx hb hr hml hown hts hlk hF hR ls hl
  have hl : lv_has ls 6 [(0, .ref (ad 0)), (1, .int (v))] := hl
  have h30 := zlow_lt v (n := 30) (by decide)
  have hW := (zOK.w hO).2
  refine act_pre hG S v hO hx hb hml hown hts hF s.heap [] hR ls hl (fun ls H locs hR hl => ?_)
  refine lv_iload hx hb dL_act_65 (lv_at hl 0 rfl) ?_
  refine lv_bipush (v := (nI (8))) hx hb dL_act_67 (by decide) ?_
  refine z_ge_n (tgt := 123) hx hb dL_act_69 (by decide) (by omega) (by omega) (fun h69_1 => ?_) (fun h69_1 => by omega)
  refine lv_iload hx hb dL_act_123 (lv_at hl 0 rfl) ?_
  refine lv_bipush (v := (nI (13))) hx hb dL_act_125 (by decide) ?_
  refine z_ge_n (tgt := 138) hx hb dL_act_127 (by decide) (by omega) (by omega) (fun h127_2 => by omega) (fun h127_2 => ?_)
  refine lv_aload_n hx hb dL_act_130 rfl (lv_at hl 4 rfl) ?_
  refine lv_iconst (v := (nI (0))) hx hb dL_act_131 (by decide) ?_
  refine lv_iload_n hx hb dL_act_132 rfl (lv_at hl 2 rfl) ?_
  refine lv_iconst (v := (nI (0))) hx hb dL_act_133 (by decide) ?_
  refine z_callSW_i (As := [.ref (ad 0), .int (nI (0)), .int (nI (a_p v)), .int (nI (0))]) (rest := []) (w := wX cI cZ ad) ⟨hx, hb, hml, hown, hts⟩ hF hR (o_does_read_e2 hG hfl S (a_p v) hO hp hc) (vx_cwSW 4 hts gL_act_L_does rfl rfl rfl (by decide +kernel) ⟨Nat.le_of_ble_eq_true rfl, Nat.le_of_ble_eq_true rfl⟩) rfl hl rfl (Nat.le_of_ble_eq_true rfl) ⟨Nat.le_of_ble_eq_true rfl, Nat.le_of_ble_eq_true rfl⟩ dL_act_134 (fun r3 S3 H locs hp3 hR => ?_)
  obtain ⟨hr3, hs3⟩ := hp3
  subst r3
  subst S3
  exact z_iret (w := wX cI cZ ad) (S1 := S) hx hb hr hlk hF hR dL_act_137 (⟨rfl, rfl⟩)
set_option maxHeartbeats 4000000 in
set_option maxRecDepth 100000 in
theorem a_read_ok {l : Launch} {D : va_G} {cI cZ : ClassId} {ad : Nat → Nat} {B : Nat → Prop} (hG : ∀ S : zS, va_D B (wX cI cZ ad S)) (hfl : l.stackTraces = false) (S : zS) (v : Int32) (hO : zOK S) (hh1 : 8 ≤ zlow v 30) (hh2 : zlow v 30 < 13) (hp : (a_p v) < 4) (hc : zcanR S (a_p v)) : zMC 0 0 l yL_act wsL_act ({ frames := 9, cells := 0, slots := 0, locals := 204 } : Room) [.ref (ad 0), .int (v)] D (zT cI cZ) B (wX cI cZ ad) S (fun (r : Int32) (S1 : zS) => r = (nI (zrw S (a_p v))) ∧ S1 = sp_read S (a_p v)) := by
  refine zMC_ofP (cc := cL_act) (maxL := 6) (ret := (some .int)) (by decide) rfl (Nat.le_of_ble_eq_true rfl) ?_
  intro pg en s mm below meth cd hx hb hr hml hown hts hlk hF hR ls hl
  have hl : lv_has ls 6 [(0, .ref (ad 0)), (1, .int (v))] := hl
  have h30 := zlow_lt v (n := 30) (by decide)
  have hW := (zOK.w hO).2
  refine act_pre hG S v hO hx hb hml hown hts hF s.heap [] hR ls hl (fun ls H locs hR hl => ?_)
  refine lv_iload hx hb dL_act_65 (lv_at hl 0 rfl) ?_
  refine lv_bipush (v := (nI (8))) hx hb dL_act_67 (by decide) ?_
  refine z_ge_n (tgt := 123) hx hb dL_act_69 (by decide) (by omega) (by omega) (fun h69_1 => ?_) (fun h69_1 => by omega)
  refine lv_iload hx hb dL_act_123 (lv_at hl 0 rfl) ?_
  refine lv_bipush (v := (nI (13))) hx hb dL_act_125 (by decide) ?_
  refine z_ge_n (tgt := 138) hx hb dL_act_127 (by decide) (by omega) (by omega) (fun h127_2 => by omega) (fun h127_2 => ?_)
  refine lv_aload_n hx hb dL_act_130 rfl (lv_at hl 4 rfl) ?_
  refine lv_iconst (v := (nI (0))) hx hb dL_act_131 (by decide) ?_
  refine lv_iload_n hx hb dL_act_132 rfl (lv_at hl 2 rfl) ?_
  refine lv_iconst (v := (nI (0))) hx hb dL_act_133 (by decide) ?_
  refine z_callSW_i (As := [.ref (ad 0), .int (nI (0)), .int (nI (a_p v)), .int (nI (0))]) (rest := []) (w := wX cI cZ ad) ⟨hx, hb, hml, hown, hts⟩ hF hR (o_does_read_ok hG hfl S (a_p v) hO hp hc) (vx_cwSW 4 hts gL_act_L_does rfl rfl rfl (by decide +kernel) ⟨Nat.le_of_ble_eq_true rfl, Nat.le_of_ble_eq_true rfl⟩) rfl hl rfl (Nat.le_of_ble_eq_true rfl) ⟨Nat.le_of_ble_eq_true rfl, Nat.le_of_ble_eq_true rfl⟩ dL_act_134 (fun r3 S3 H locs hp3 hR => ?_)
  obtain ⟨hr3, hs3⟩ := hp3
  subst r3
  subst S3
  exact z_iret (w := wX cI cZ ad) (S1 := (sp_read S (a_p v))) hx hb hr hlk hF hR dL_act_137 (⟨rfl, rfl⟩)
set_option maxHeartbeats 4000000 in
set_option maxRecDepth 100000 in
theorem a_sendBarrier_e1 {l : Launch} {D : va_G} {cI cZ : ClassId} {ad : Nat → Nat} {B : Nat → Prop} (hG : ∀ S : zS, va_D B (wX cI cZ ad S)) (hfl : l.stackTraces = false) (S : zS) (v : Int32) (hO : zOK S) (hh1 : 13 ≤ zlow v 30) (hh2 : zlow v 30 < 17) (hxb : zbad (nI (a_p v)) 4) : zMC 1 6 l yL_act wsL_act ({ frames := 9, cells := 1, slots := 6, locals := 204 } : Room) [.ref (ad 0), .int (v)] D (zT cI cZ) B (wX cI cZ ad) S (fun (r : Int32) (S1 : zS) => r = ((-99999)) ∧ S1 = S) := by
  refine zMC_ofP (cc := cL_act) (maxL := 6) (ret := (some .int)) (by decide) rfl (Nat.le_of_ble_eq_true rfl) ?_
  intro pg en s mm below meth cd hx hb hr hml hown hts hlk hF hR ls hl
  have hl : lv_has ls 6 [(0, .ref (ad 0)), (1, .int (v))] := hl
  have h30 := zlow_lt v (n := 30) (by decide)
  have hW := (zOK.w hO).2
  refine act_pre hG S v hO hx hb hml hown hts hF s.heap [] hR ls hl (fun ls H locs hR hl => ?_)
  refine lv_iload hx hb dL_act_65 (lv_at hl 0 rfl) ?_
  refine lv_bipush (v := (nI (8))) hx hb dL_act_67 (by decide) ?_
  refine z_ge_n (tgt := 123) hx hb dL_act_69 (by decide) (by omega) (by omega) (fun h69_1 => ?_) (fun h69_1 => by omega)
  refine lv_iload hx hb dL_act_123 (lv_at hl 0 rfl) ?_
  refine lv_bipush (v := (nI (13))) hx hb dL_act_125 (by decide) ?_
  refine z_ge_n (tgt := 138) hx hb dL_act_127 (by decide) (by omega) (by omega) (fun h127_2 => ?_) (fun h127_2 => by omega)
  refine lv_iload hx hb dL_act_138 (lv_at hl 0 rfl) ?_
  refine lv_bipush (v := (nI (17))) hx hb dL_act_140 (by decide) ?_
  refine z_ge_n (tgt := 153) hx hb dL_act_142 (by decide) (by omega) (by omega) (fun h142_3 => by omega) (fun h142_3 => ?_)
  refine lv_aload_n hx hb dL_act_145 rfl (lv_at hl 4 rfl) ?_
  refine lv_iconst (v := (nI (1))) hx hb dL_act_146 (by decide) ?_
  refine lv_iload_n hx hb dL_act_147 rfl (lv_at hl 2 rfl) ?_
  refine lv_iconst (v := (nI (0))) hx hb dL_act_148 (by decide) ?_
  refine z_callSW_i (As := [.ref (ad 0), .int (nI (1)), .int (nI (a_p v)), .int (nI (0))]) (rest := []) (w := wX cI cZ ad) ⟨hx, hb, hml, hown, hts⟩ hF hR (o_does_sendBarrier_e1 hG hfl S (nI (a_p v)) hO hxb) (vx_cwSW 4 hts gL_act_L_does rfl rfl rfl (by decide +kernel) ⟨Nat.le_of_ble_eq_true rfl, Nat.le_of_ble_eq_true rfl⟩) rfl hl rfl (Nat.le_of_ble_eq_true rfl) ⟨Nat.le_of_ble_eq_true rfl, Nat.le_of_ble_eq_true rfl⟩ dL_act_149 (fun r4 S4 H locs hp4 hR => ?_)
  obtain ⟨hr4, hs4⟩ := hp4
  subst r4
  subst S4
  exact z_iret (w := wX cI cZ ad) (S1 := S) hx hb hr hlk hF hR dL_act_152 (⟨rfl, rfl⟩)
set_option maxHeartbeats 4000000 in
set_option maxRecDepth 100000 in
theorem a_sendBarrier_e2 {l : Launch} {D : va_G} {cI cZ : ClassId} {ad : Nat → Nat} {B : Nat → Prop} (hG : ∀ S : zS, va_D B (wX cI cZ ad S)) (hfl : l.stackTraces = false) (S : zS) (v : Int32) (hO : zOK S) (hh1 : 13 ≤ zlow v 30) (hh2 : zlow v 30 < 17) (hp : (a_p v) < 4) (hc : S 22 2 = (-1) ∨ S 4 (a_p v) = nI 1) : zMC 1 6 l yL_act wsL_act ({ frames := 9, cells := 1, slots := 6, locals := 204 } : Room) [.ref (ad 0), .int (v)] D (zT cI cZ) B (wX cI cZ ad) S (fun (r : Int32) (S1 : zS) => r = ((-99999)) ∧ S1 = S) := by
  refine zMC_ofP (cc := cL_act) (maxL := 6) (ret := (some .int)) (by decide) rfl (Nat.le_of_ble_eq_true rfl) ?_
  intro pg en s mm below meth cd hx hb hr hml hown hts hlk hF hR ls hl
  have hl : lv_has ls 6 [(0, .ref (ad 0)), (1, .int (v))] := hl
  have h30 := zlow_lt v (n := 30) (by decide)
  have hW := (zOK.w hO).2
  refine act_pre hG S v hO hx hb hml hown hts hF s.heap [] hR ls hl (fun ls H locs hR hl => ?_)
  refine lv_iload hx hb dL_act_65 (lv_at hl 0 rfl) ?_
  refine lv_bipush (v := (nI (8))) hx hb dL_act_67 (by decide) ?_
  refine z_ge_n (tgt := 123) hx hb dL_act_69 (by decide) (by omega) (by omega) (fun h69_1 => ?_) (fun h69_1 => by omega)
  refine lv_iload hx hb dL_act_123 (lv_at hl 0 rfl) ?_
  refine lv_bipush (v := (nI (13))) hx hb dL_act_125 (by decide) ?_
  refine z_ge_n (tgt := 138) hx hb dL_act_127 (by decide) (by omega) (by omega) (fun h127_2 => ?_) (fun h127_2 => by omega)
  refine lv_iload hx hb dL_act_138 (lv_at hl 0 rfl) ?_
  refine lv_bipush (v := (nI (17))) hx hb dL_act_140 (by decide) ?_
  refine z_ge_n (tgt := 153) hx hb dL_act_142 (by decide) (by omega) (by omega) (fun h142_3 => by omega) (fun h142_3 => ?_)
  refine lv_aload_n hx hb dL_act_145 rfl (lv_at hl 4 rfl) ?_
  refine lv_iconst (v := (nI (1))) hx hb dL_act_146 (by decide) ?_
  refine lv_iload_n hx hb dL_act_147 rfl (lv_at hl 2 rfl) ?_
  refine lv_iconst (v := (nI (0))) hx hb dL_act_148 (by decide) ?_
  refine z_callSW_i (As := [.ref (ad 0), .int (nI (1)), .int (nI (a_p v)), .int (nI (0))]) (rest := []) (w := wX cI cZ ad) ⟨hx, hb, hml, hown, hts⟩ hF hR (o_does_sendBarrier_e2 hG hfl S (a_p v) hO hp hc) (vx_cwSW 4 hts gL_act_L_does rfl rfl rfl (by decide +kernel) ⟨Nat.le_of_ble_eq_true rfl, Nat.le_of_ble_eq_true rfl⟩) rfl hl rfl (Nat.le_of_ble_eq_true rfl) ⟨Nat.le_of_ble_eq_true rfl, Nat.le_of_ble_eq_true rfl⟩ dL_act_149 (fun r4 S4 H locs hp4 hR => ?_)
  obtain ⟨hr4, hs4⟩ := hp4
  subst r4
  subst S4
  exact z_iret (w := wX cI cZ ad) (S1 := S) hx hb hr hlk hF hR dL_act_152 (⟨rfl, rfl⟩)
set_option maxHeartbeats 4000000 in
set_option maxRecDepth 100000 in
theorem a_sendBarrier_e3 {l : Launch} {D : va_G} {cI cZ : ClassId} {ad : Nat → Nat} {B : Nat → Prop} (hG : ∀ S : zS, va_D B (wX cI cZ ad S)) (hfl : l.stackTraces = false) (S : zS) (v : Int32) (hO : zOK S) (hh1 : 13 ≤ zlow v 30) (hh2 : zlow v 30 < 17) (hp : (a_p v) < 4) (hc1 : ¬ S 22 2 = (-1)) (hc2 : S 4 (a_p v) = nI 0) (hc : ¬ ∀ w, w < zn S 22 0 → zn S 7 (4 * (a_p v) + w) < 8) : zMC 1 6 l yL_act wsL_act ({ frames := 9, cells := 1, slots := 6, locals := 204 } : Room) [.ref (ad 0), .int (v)] D (zT cI cZ) B (wX cI cZ ad) S (fun (r : Int32) (S1 : zS) => r = ((-99999)) ∧ S1 = S) := by
  refine zMC_ofP (cc := cL_act) (maxL := 6) (ret := (some .int)) (by decide) rfl (Nat.le_of_ble_eq_true rfl) ?_
  intro pg en s mm below meth cd hx hb hr hml hown hts hlk hF hR ls hl
  have hl : lv_has ls 6 [(0, .ref (ad 0)), (1, .int (v))] := hl
  have h30 := zlow_lt v (n := 30) (by decide)
  have hW := (zOK.w hO).2
  refine act_pre hG S v hO hx hb hml hown hts hF s.heap [] hR ls hl (fun ls H locs hR hl => ?_)
  refine lv_iload hx hb dL_act_65 (lv_at hl 0 rfl) ?_
  refine lv_bipush (v := (nI (8))) hx hb dL_act_67 (by decide) ?_
  refine z_ge_n (tgt := 123) hx hb dL_act_69 (by decide) (by omega) (by omega) (fun h69_1 => ?_) (fun h69_1 => by omega)
  refine lv_iload hx hb dL_act_123 (lv_at hl 0 rfl) ?_
  refine lv_bipush (v := (nI (13))) hx hb dL_act_125 (by decide) ?_
  refine z_ge_n (tgt := 138) hx hb dL_act_127 (by decide) (by omega) (by omega) (fun h127_2 => ?_) (fun h127_2 => by omega)
  refine lv_iload hx hb dL_act_138 (lv_at hl 0 rfl) ?_
  refine lv_bipush (v := (nI (17))) hx hb dL_act_140 (by decide) ?_
  refine z_ge_n (tgt := 153) hx hb dL_act_142 (by decide) (by omega) (by omega) (fun h142_3 => by omega) (fun h142_3 => ?_)
  refine lv_aload_n hx hb dL_act_145 rfl (lv_at hl 4 rfl) ?_
  refine lv_iconst (v := (nI (1))) hx hb dL_act_146 (by decide) ?_
  refine lv_iload_n hx hb dL_act_147 rfl (lv_at hl 2 rfl) ?_
  refine lv_iconst (v := (nI (0))) hx hb dL_act_148 (by decide) ?_
  refine z_callSW_i (As := [.ref (ad 0), .int (nI (1)), .int (nI (a_p v)), .int (nI (0))]) (rest := []) (w := wX cI cZ ad) ⟨hx, hb, hml, hown, hts⟩ hF hR (o_does_sendBarrier_e3 hG hfl S (a_p v) hO hp hc1 hc2 hc) (vx_cwSW 4 hts gL_act_L_does rfl rfl rfl (by decide +kernel) ⟨Nat.le_of_ble_eq_true rfl, Nat.le_of_ble_eq_true rfl⟩) rfl hl rfl (Nat.le_of_ble_eq_true rfl) ⟨Nat.le_of_ble_eq_true rfl, Nat.le_of_ble_eq_true rfl⟩ dL_act_149 (fun r4 S4 H locs hp4 hR => ?_)
  obtain ⟨hr4, hs4⟩ := hp4
  subst r4
  subst S4
  exact z_iret (w := wX cI cZ ad) (S1 := S) hx hb hr hlk hF hR dL_act_152 (⟨rfl, rfl⟩)
set_option maxHeartbeats 4000000 in
set_option maxRecDepth 100000 in
theorem a_sendBarrier_ok {l : Launch} {D : va_G} {cI cZ : ClassId} {ad : Nat → Nat} {B : Nat → Prop} (hG : ∀ S : zS, va_D B (wX cI cZ ad S)) (hfl : l.stackTraces = false) (S : zS) (v : Int32) (hO : zOK S) (hh1 : 13 ≤ zlow v 30) (hh2 : zlow v 30 < 17) (hp : (a_p v) < 4) (hc1 : ¬ S 22 2 = (-1)) (hc2 : S 4 (a_p v) = nI 0) (hc : ∀ w, w < zn S 22 0 → zn S 7 (4 * (a_p v) + w) < 8) (hxb : (-(S 22 2)).toInt ≤ 31100) : zMC 0 0 l yL_act wsL_act ({ frames := 9, cells := 0, slots := 0, locals := 204 } : Room) [.ref (ad 0), .int (v)] D (zT cI cZ) B (wX cI cZ ad) S (fun (r : Int32) (S1 : zS) => r = (nI (zn (sp_sb S (a_p v) (zn S 22 0)) 2 (a_p v))) ∧ S1 = sp_send S (a_p v)) := by
  refine zMC_ofP (cc := cL_act) (maxL := 6) (ret := (some .int)) (by decide) rfl (Nat.le_of_ble_eq_true rfl) ?_
  intro pg en s mm below meth cd hx hb hr hml hown hts hlk hF hR ls hl
  have hl : lv_has ls 6 [(0, .ref (ad 0)), (1, .int (v))] := hl
  have h30 := zlow_lt v (n := 30) (by decide)
  have hW := (zOK.w hO).2
  refine act_pre hG S v hO hx hb hml hown hts hF s.heap [] hR ls hl (fun ls H locs hR hl => ?_)
  refine lv_iload hx hb dL_act_65 (lv_at hl 0 rfl) ?_
  refine lv_bipush (v := (nI (8))) hx hb dL_act_67 (by decide) ?_
  refine z_ge_n (tgt := 123) hx hb dL_act_69 (by decide) (by omega) (by omega) (fun h69_1 => ?_) (fun h69_1 => by omega)
  refine lv_iload hx hb dL_act_123 (lv_at hl 0 rfl) ?_
  refine lv_bipush (v := (nI (13))) hx hb dL_act_125 (by decide) ?_
  refine z_ge_n (tgt := 138) hx hb dL_act_127 (by decide) (by omega) (by omega) (fun h127_2 => ?_) (fun h127_2 => by omega)
  refine lv_iload hx hb dL_act_138 (lv_at hl 0 rfl) ?_
  refine lv_bipush (v := (nI (17))) hx hb dL_act_140 (by decide) ?_
  refine z_ge_n (tgt := 153) hx hb dL_act_142 (by decide) (by omega) (by omega) (fun h142_3 => by omega) (fun h142_3 => ?_)
  refine lv_aload_n hx hb dL_act_145 rfl (lv_at hl 4 rfl) ?_
  refine lv_iconst (v := (nI (1))) hx hb dL_act_146 (by decide) ?_
  refine lv_iload_n hx hb dL_act_147 rfl (lv_at hl 2 rfl) ?_
  refine lv_iconst (v := (nI (0))) hx hb dL_act_148 (by decide) ?_
  refine z_callSW_i (As := [.ref (ad 0), .int (nI (1)), .int (nI (a_p v)), .int (nI (0))]) (rest := []) (w := wX cI cZ ad) ⟨hx, hb, hml, hown, hts⟩ hF hR (o_does_sendBarrier_ok hG hfl S (a_p v) hO hp hc1 hc2 hc hxb) (vx_cwSW 4 hts gL_act_L_does rfl rfl rfl (by decide +kernel) ⟨Nat.le_of_ble_eq_true rfl, Nat.le_of_ble_eq_true rfl⟩) rfl hl rfl (Nat.le_of_ble_eq_true rfl) ⟨Nat.le_of_ble_eq_true rfl, Nat.le_of_ble_eq_true rfl⟩ dL_act_149 (fun r4 S4 H locs hp4 hR => ?_)
  obtain ⟨hr4, hs4⟩ := hp4
  subst r4
  subst S4
  exact z_iret (w := wX cI cZ ad) (S1 := (sp_send S (a_p v))) hx hb hr hlk hF hR dL_act_152 (⟨rfl, rfl⟩)
set_option maxHeartbeats 4000000 in
set_option maxRecDepth 100000 in
theorem a_take_e1 {l : Launch} {D : va_G} {cI cZ : ClassId} {ad : Nat → Nat} {B : Nat → Prop} (hG : ∀ S : zS, va_D B (wX cI cZ ad S)) (hfl : l.stackTraces = false) (S : zS) (v : Int32) (hO : zOK S) (hh1 : 17 ≤ zlow v 30) (hh2 : zlow v 30 < 22) (hxb : zbad (nI (a_w v (zn S 22 0))) (zn S 22 0)) : zMC 1 6 l yL_act wsL_act ({ frames := 9, cells := 1, slots := 6, locals := 204 } : Room) [.ref (ad 0), .int (v)] D (zT cI cZ) B (wX cI cZ ad) S (fun (r : Int32) (S1 : zS) => r = ((-99999)) ∧ S1 = S) := by
  refine zMC_ofP (cc := cL_act) (maxL := 6) (ret := (some .int)) (by decide) rfl (Nat.le_of_ble_eq_true rfl) ?_
  intro pg en s mm below meth cd hx hb hr hml hown hts hlk hF hR ls hl
  have hl : lv_has ls 6 [(0, .ref (ad 0)), (1, .int (v))] := hl
  have h30 := zlow_lt v (n := 30) (by decide)
  have hW := (zOK.w hO).2
  refine act_pre hG S v hO hx hb hml hown hts hF s.heap [] hR ls hl (fun ls H locs hR hl => ?_)
  refine lv_iload hx hb dL_act_65 (lv_at hl 0 rfl) ?_
  refine lv_bipush (v := (nI (8))) hx hb dL_act_67 (by decide) ?_
  refine z_ge_n (tgt := 123) hx hb dL_act_69 (by decide) (by omega) (by omega) (fun h69_1 => ?_) (fun h69_1 => by omega)
  refine lv_iload hx hb dL_act_123 (lv_at hl 0 rfl) ?_
  refine lv_bipush (v := (nI (13))) hx hb dL_act_125 (by decide) ?_
  refine z_ge_n (tgt := 138) hx hb dL_act_127 (by decide) (by omega) (by omega) (fun h127_2 => ?_) (fun h127_2 => by omega)
  refine lv_iload hx hb dL_act_138 (lv_at hl 0 rfl) ?_
  refine lv_bipush (v := (nI (17))) hx hb dL_act_140 (by decide) ?_
  refine z_ge_n (tgt := 153) hx hb dL_act_142 (by decide) (by omega) (by omega) (fun h142_3 => ?_) (fun h142_3 => by omega)
  refine lv_iload hx hb dL_act_153 (lv_at hl 0 rfl) ?_
  refine lv_bipush (v := (nI (22))) hx hb dL_act_155 (by decide) ?_
  refine z_ge_n (tgt := 169) hx hb dL_act_157 (by decide) (by omega) (by omega) (fun h157_4 => by omega) (fun h157_4 => ?_)
  refine lv_aload_n hx hb dL_act_160 rfl (lv_at hl 4 rfl) ?_
  refine lv_iconst (v := (nI (2))) hx hb dL_act_161 (by decide) ?_
  refine lv_iload hx hb dL_act_162 (lv_at hl 1 rfl) ?_
  refine lv_iload_n hx hb dL_act_164 rfl (lv_at hl 2 rfl) ?_
  refine z_callSW_i (As := [.ref (ad 0), .int (nI (2)), .int (nI (a_w v (zn S 22 0))), .int (nI (a_p v))]) (rest := []) (w := wX cI cZ ad) ⟨hx, hb, hml, hown, hts⟩ hF hR (o_does_take_e1 hG hfl S (nI (a_w v (zn S 22 0))) (nI (a_p v)) hO hxb) (vx_cwSW 4 hts gL_act_L_does rfl rfl rfl (by decide +kernel) ⟨Nat.le_of_ble_eq_true rfl, Nat.le_of_ble_eq_true rfl⟩) rfl hl rfl (Nat.le_of_ble_eq_true rfl) ⟨Nat.le_of_ble_eq_true rfl, Nat.le_of_ble_eq_true rfl⟩ dL_act_165 (fun r5 S5 H locs hp5 hR => ?_)
  obtain ⟨hr5, hs5⟩ := hp5
  subst r5
  subst S5
  exact z_iret (w := wX cI cZ ad) (S1 := S) hx hb hr hlk hF hR dL_act_168 (⟨rfl, rfl⟩)
set_option maxHeartbeats 4000000 in
set_option maxRecDepth 100000 in
theorem a_take_e2 {l : Launch} {D : va_G} {cI cZ : ClassId} {ad : Nat → Nat} {B : Nat → Prop} (hG : ∀ S : zS, va_D B (wX cI cZ ad S)) (hfl : l.stackTraces = false) (S : zS) (v : Int32) (hO : zOK S) (hh1 : 17 ≤ zlow v 30) (hh2 : zlow v 30 < 22) (hw : (a_w v (zn S 22 0)) < zn S 22 0) (hxb : zbad (nI (a_p v)) 4) : zMC 1 6 l yL_act wsL_act ({ frames := 9, cells := 1, slots := 6, locals := 204 } : Room) [.ref (ad 0), .int (v)] D (zT cI cZ) B (wX cI cZ ad) S (fun (r : Int32) (S1 : zS) => r = ((-99999)) ∧ S1 = S) := by
  refine zMC_ofP (cc := cL_act) (maxL := 6) (ret := (some .int)) (by decide) rfl (Nat.le_of_ble_eq_true rfl) ?_
  intro pg en s mm below meth cd hx hb hr hml hown hts hlk hF hR ls hl
  have hl : lv_has ls 6 [(0, .ref (ad 0)), (1, .int (v))] := hl
  have h30 := zlow_lt v (n := 30) (by decide)
  have hW := (zOK.w hO).2
  refine act_pre hG S v hO hx hb hml hown hts hF s.heap [] hR ls hl (fun ls H locs hR hl => ?_)
  refine lv_iload hx hb dL_act_65 (lv_at hl 0 rfl) ?_
  refine lv_bipush (v := (nI (8))) hx hb dL_act_67 (by decide) ?_
  refine z_ge_n (tgt := 123) hx hb dL_act_69 (by decide) (by omega) (by omega) (fun h69_1 => ?_) (fun h69_1 => by omega)
  refine lv_iload hx hb dL_act_123 (lv_at hl 0 rfl) ?_
  refine lv_bipush (v := (nI (13))) hx hb dL_act_125 (by decide) ?_
  refine z_ge_n (tgt := 138) hx hb dL_act_127 (by decide) (by omega) (by omega) (fun h127_2 => ?_) (fun h127_2 => by omega)
  refine lv_iload hx hb dL_act_138 (lv_at hl 0 rfl) ?_
  refine lv_bipush (v := (nI (17))) hx hb dL_act_140 (by decide) ?_
  refine z_ge_n (tgt := 153) hx hb dL_act_142 (by decide) (by omega) (by omega) (fun h142_3 => ?_) (fun h142_3 => by omega)
  refine lv_iload hx hb dL_act_153 (lv_at hl 0 rfl) ?_
  refine lv_bipush (v := (nI (22))) hx hb dL_act_155 (by decide) ?_
  refine z_ge_n (tgt := 169) hx hb dL_act_157 (by decide) (by omega) (by omega) (fun h157_4 => by omega) (fun h157_4 => ?_)
  refine lv_aload_n hx hb dL_act_160 rfl (lv_at hl 4 rfl) ?_
  refine lv_iconst (v := (nI (2))) hx hb dL_act_161 (by decide) ?_
  refine lv_iload hx hb dL_act_162 (lv_at hl 1 rfl) ?_
  refine lv_iload_n hx hb dL_act_164 rfl (lv_at hl 2 rfl) ?_
  refine z_callSW_i (As := [.ref (ad 0), .int (nI (2)), .int (nI (a_w v (zn S 22 0))), .int (nI (a_p v))]) (rest := []) (w := wX cI cZ ad) ⟨hx, hb, hml, hown, hts⟩ hF hR (o_does_take_e2 hG hfl S (a_w v (zn S 22 0)) (nI (a_p v)) hO hw hxb) (vx_cwSW 4 hts gL_act_L_does rfl rfl rfl (by decide +kernel) ⟨Nat.le_of_ble_eq_true rfl, Nat.le_of_ble_eq_true rfl⟩) rfl hl rfl (Nat.le_of_ble_eq_true rfl) ⟨Nat.le_of_ble_eq_true rfl, Nat.le_of_ble_eq_true rfl⟩ dL_act_165 (fun r5 S5 H locs hp5 hR => ?_)
  obtain ⟨hr5, hs5⟩ := hp5
  subst r5
  subst S5
  exact z_iret (w := wX cI cZ ad) (S1 := S) hx hb hr hlk hF hR dL_act_168 (⟨rfl, rfl⟩)
set_option maxHeartbeats 4000000 in
set_option maxRecDepth 100000 in
theorem a_take_e3 {l : Launch} {D : va_G} {cI cZ : ClassId} {ad : Nat → Nat} {B : Nat → Prop} (hG : ∀ S : zS, va_D B (wX cI cZ ad S)) (hfl : l.stackTraces = false) (S : zS) (v : Int32) (hO : zOK S) (hh1 : 17 ≤ zlow v 30) (hh2 : zlow v 30 < 22) (hw : (a_w v (zn S 22 0)) < zn S 22 0) (hp : (a_p v) < 4) (hc : ¬ zcanT S (a_p v) (a_w v (zn S 22 0))) : zMC 1 6 l yL_act wsL_act ({ frames := 9, cells := 1, slots := 6, locals := 204 } : Room) [.ref (ad 0), .int (v)] D (zT cI cZ) B (wX cI cZ ad) S (fun (r : Int32) (S1 : zS) => r = ((-99999)) ∧ S1 = S) := by
  refine zMC_ofP (cc := cL_act) (maxL := 6) (ret := (some .int)) (by decide) rfl (Nat.le_of_ble_eq_true rfl) ?_
  intro pg en s mm below meth cd hx hb hr hml hown hts hlk hF hR ls hl
  have hl : lv_has ls 6 [(0, .ref (ad 0)), (1, .int (v))] := hl
  have h30 := zlow_lt v (n := 30) (by decide)
  have hW := (zOK.w hO).2
  refine act_pre hG S v hO hx hb hml hown hts hF s.heap [] hR ls hl (fun ls H locs hR hl => ?_)
  refine lv_iload hx hb dL_act_65 (lv_at hl 0 rfl) ?_
  refine lv_bipush (v := (nI (8))) hx hb dL_act_67 (by decide) ?_
  refine z_ge_n (tgt := 123) hx hb dL_act_69 (by decide) (by omega) (by omega) (fun h69_1 => ?_) (fun h69_1 => by omega)
  refine lv_iload hx hb dL_act_123 (lv_at hl 0 rfl) ?_
  refine lv_bipush (v := (nI (13))) hx hb dL_act_125 (by decide) ?_
  refine z_ge_n (tgt := 138) hx hb dL_act_127 (by decide) (by omega) (by omega) (fun h127_2 => ?_) (fun h127_2 => by omega)
  refine lv_iload hx hb dL_act_138 (lv_at hl 0 rfl) ?_
  refine lv_bipush (v := (nI (17))) hx hb dL_act_140 (by decide) ?_
  refine z_ge_n (tgt := 153) hx hb dL_act_142 (by decide) (by omega) (by omega) (fun h142_3 => ?_) (fun h142_3 => by omega)
  refine lv_iload hx hb dL_act_153 (lv_at hl 0 rfl) ?_
  refine lv_bipush (v := (nI (22))) hx hb dL_act_155 (by decide) ?_
  refine z_ge_n (tgt := 169) hx hb dL_act_157 (by decide) (by omega) (by omega) (fun h157_4 => by omega) (fun h157_4 => ?_)
  refine lv_aload_n hx hb dL_act_160 rfl (lv_at hl 4 rfl) ?_
  refine lv_iconst (v := (nI (2))) hx hb dL_act_161 (by decide) ?_
  refine lv_iload hx hb dL_act_162 (lv_at hl 1 rfl) ?_
  refine lv_iload_n hx hb dL_act_164 rfl (lv_at hl 2 rfl) ?_
  refine z_callSW_i (As := [.ref (ad 0), .int (nI (2)), .int (nI (a_w v (zn S 22 0))), .int (nI (a_p v))]) (rest := []) (w := wX cI cZ ad) ⟨hx, hb, hml, hown, hts⟩ hF hR (o_does_take_e3 hG hfl S (a_w v (zn S 22 0)) (a_p v) hO hw hp hc) (vx_cwSW 4 hts gL_act_L_does rfl rfl rfl (by decide +kernel) ⟨Nat.le_of_ble_eq_true rfl, Nat.le_of_ble_eq_true rfl⟩) rfl hl rfl (Nat.le_of_ble_eq_true rfl) ⟨Nat.le_of_ble_eq_true rfl, Nat.le_of_ble_eq_true rfl⟩ dL_act_165 (fun r5 S5 H locs hp5 hR => ?_)
  obtain ⟨hr5, hs5⟩ := hp5
  subst r5
  subst S5
  exact z_iret (w := wX cI cZ ad) (S1 := S) hx hb hr hlk hF hR dL_act_168 (⟨rfl, rfl⟩)
