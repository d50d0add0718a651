/-! .. -/
set_option maxHeartbeats 4000000 in
set_option maxRecDepth 100000 in
theorem a_take_ok {l : Launch} {D : va_G} {cI cZ : ClassId} {ad : Nat → Nat} {B : Nat → Prop} (hG : ∀ S : zS, va_D B (wX cI cZ ad S)) (hfl : l.stackTraces = false) (S : zS) (v : Int32) (hO : zOK S) (hh1 : 17 ≤ zlow v 30) (hh2 : zlow v 30 < 22) (hw : (a_w v (zn S 22 0)) < zn S 22 0) (hp : (a_p v) < 4) (hc : zcanT S (a_p v) (a_w v (zn S 22 0))) : zMC 0 0 l yL_act wsL_act ({ frames := 9, cells := 0, slots := 0, locals := 204 } : Room) [.ref (ad 0), .int (v)] D (zT cI cZ) B (wX cI cZ ad) S (fun (r : Int32) (S1 : zS) => r = (sp_tfr S (a_p v) (a_w v (zn S 22 0))) ∧ S1 = sp_tf S (a_p v) (a_w v (zn S 22 0))) := by
  refine zMC_ofP (cc := cL_act) (maxL := 6) (ret := (some .int)) (by decide) rfl (Nat.le_of_ble_eq_true rfl) ?_
  intro pg en s mm below meth cd hx hb hr hml hown hts hlk hF hR ls hl
  have hl : lv_has ls 6 [(0, .ref (ad 0)), (1, .int (v))] := hl
  have h30 := zlow_lt v (n := 30) (by decide)
  have hW := (zOK.w hO).2
  refine act_pre hG S v hO hx hb hml hown hts hF s.heap [] hR ls hl (fun ls H locs hR hl => ?_)
  refine lv_iload hx hb dL_act_65 (lv_at hl 0 rfl) ?_
  refine lv_bipush (v := (nI (8))) hx hb dL_act_67 (by decide) ?_
  refine z_ge_n (tgt := 123) hx hb dL_act_69 (by decide) (by omega) (by omega) (fun h69_1 => ?_) (fun h69_1 => by omega)
  refine lv_iload hx hb dL_act_123 (lv_at hl 0 rfl) ?_
  refine lv_bipush (v := (nI (13))) hx hb dL_act_125 (by decide) ?_
  refine z_ge_n (tgt := 138) hx hb dL_act_127 (by decide) (by omega) (by omega) (fun h127_2 => ?_) (fun h127_2 => by omega)
  refine lv_iload hx hb dL_act_138 (lv_at hl 0 rfl) ?_
  refine lv_bipush (v := (nI (17))) hx hb dL_act_140 (by decide) ?_
  refine z_ge_n (tgt := 153) hx hb dL_act_142 (by decide) (by omega) (by omega) (fun h142_3 => ?_) (fun h142_3 => by omega)
  refine lv_iload hx hb dL_act_153 (lv_at hl 0 rfl) ?_
  refine lv_bipush (v := (nI (22))) hx hb dL_act_155 (by decide) ?_
  refine z_ge_n (tgt := 169) hx hb dL_act_157 (by decide) (by omega) (by omega) (fun h157_4 => by omega) (fun h157_4 => ?_)
  refine lv_aload_n hx hb dL_act_160 rfl (lv_at hl 4 rfl) ?_
  refine lv_iconst (v := (nI (2))) hx hb dL_act_161 (by decide) ?_
  refine lv_iload hx hb dL_act_162 (lv_at hl 1 rfl) ?_
  refine lv_iload_n hx hb dL_act_164 rfl (lv_at hl 2 rfl) ?_
  refine z_callSW_i (As := [.ref (ad 0), .int (nI (2)), .int (nI (a_w v (zn S 22 0))), .int (nI (a_p v))]) (rest := []) (w := wX cI cZ ad) ⟨hx, hb, hml, hown, hts⟩ hF hR (o_does_take_ok hG hfl S (a_w v (zn S 22 0)) (a_p v) hO hw hp hc) (vx_cwSW 4 hts gL_act_L_does rfl rfl rfl (by decide +kernel) ⟨Nat.le_of_ble_eq_true rfl, Nat.le_of_ble_eq_true rfl⟩) rfl hl rfl (Nat.le_of_ble_eq_true rfl) ⟨Nat.le_of_ble_eq_true rfl, Nat.le_of_ble_eq_true rfl⟩ dL_act_165 (fun r5 S5 H locs hp5 hR => ?_)
  obtain ⟨hr5, hs5⟩ := hp5
  subst r5
  subst S5
  exact z_iret (w := wX cI cZ ad) (S1 := (sp_tf S (a_p v) (a_w v (zn S 22 0)))) hx hb hr hlk hF hR dL_act_168 (⟨rfl, rfl⟩)
set_option maxHeartbeats 4000000 in
set_option maxRecDepth 100000 in
theorem a_commit_e1 {l : Launch} {D : va_G} {cI cZ : ClassId} {ad : Nat → Nat} {B : Nat → Prop} (hG : ∀ S : zS, va_D B (wX cI cZ ad S)) (hfl : l.stackTraces = false) (S : zS) (v : Int32) (hO : zOK S) (hh1 : 22 ≤ zlow v 30) (hh2 : zlow v 30 < 24) (hxb : zbad (nI (a_w v (zn S 22 0))) (zn S 22 0)) : zMC 1 6 l yL_act wsL_act ({ frames := 9, cells := 1, slots := 6, locals := 204 } : Room) [.ref (ad 0), .int (v)] D (zT cI cZ) B (wX cI cZ ad) S (fun (r : Int32) (S1 : zS) => r = ((-99999)) ∧ S1 = S) := by
  refine zMC_ofP (cc := cL_act) (maxL := 6) (ret := (some .int)) (by decide) rfl (Nat.le_of_ble_eq_true rfl) ?_
  intro pg en s mm below meth cd hx hb hr hml hown hts hlk hF hR ls hl
  have hl : lv_has ls 6 [(0, .ref (ad 0)), (1, .int (v))] := hl
  have h30 := zlow_lt v (n := 30) (by decide)
  have hW := (zOK.w hO).2
  refine act_pre hG S v hO hx hb hml hown hts hF s.heap [] hR ls hl (fun ls H locs hR hl => ?_)
  refine lv_iload hx hb dL_act_65 (lv_at hl 0 rfl) ?_
  refine lv_bipush (v := (nI (8))) hx hb dL_act_67 (by decide) ?_
  refine z_ge_n (tgt := 123) hx hb dL_act_69 (by decide) (by omega) (by omega) (fun h69_1 => ?_) (fun h69_1 => by omega)
  refine lv_iload hx hb dL_act_123 (lv_at hl 0 rfl) ?_
  refine lv_bipush (v := (nI (13))) hx hb dL_act_125 (by decide) ?_
  refine z_ge_n (tgt := 138) hx hb dL_act_127 (by decide) (by omega) (by omega) (fun h127_2 => ?_) (fun h127_2 => by omega)
  refine lv_iload hx hb dL_act_138 (lv_at hl 0 rfl) ?_
  refine lv_bipush (v := (nI (17))) hx hb dL_act_140 (by decide) ?_
  refine z_ge_n (tgt := 153) hx hb dL_act_142 (by decide) (by omega) (by omega) (fun h142_3 => ?_) (fun h142_3 => by omega)
  refine lv_iload hx hb dL_act_153 (lv_at hl 0 rfl) ?_
  refine lv_bipush (v := (nI (22))) hx hb dL_act_155 (by decide) ?_
  refine z_ge_n (tgt := 169) hx hb dL_act_157 (by decide) (by omega) (by omega) (fun h157_4 => ?_) (fun h157_4 => by omega)
  refine lv_iload hx hb dL_act_169 (lv_at hl 0 rfl) ?_
  refine lv_bipush (v := (nI (24))) hx hb dL_act_171 (by decide) ?_
  refine z_ge_n (tgt := 185) hx hb dL_act_173 (by decide) (by omega) (by omega) (fun h173_5 => by omega) (fun h173_5 => ?_)
  refine lv_aload_n hx hb dL_act_176 rfl (lv_at hl 4 rfl) ?_
  refine lv_iconst (v := (nI (3))) hx hb dL_act_177 (by decide) ?_
  refine lv_iload hx hb dL_act_178 (lv_at hl 1 rfl) ?_
  refine lv_iconst (v := (nI (0))) hx hb dL_act_180 (by decide) ?_
  refine z_callSW_i (As := [.ref (ad 0), .int (nI (3)), .int (nI (a_w v (zn S 22 0))), .int (nI (0))]) (rest := []) (w := wX cI cZ ad) ⟨hx, hb, hml, hown, hts⟩ hF hR (o_does_commit_e1 hG hfl S (nI (a_w v (zn S 22 0))) hO hxb) (vx_cwSW 4 hts gL_act_L_does rfl rfl rfl (by decide +kernel) ⟨Nat.le_of_ble_eq_true rfl, Nat.le_of_ble_eq_true rfl⟩) rfl hl rfl (Nat.le_of_ble_eq_true rfl) ⟨Nat.le_of_ble_eq_true rfl, Nat.le_of_ble_eq_true rfl⟩ dL_act_181 (fun r6 S6 H locs hp6 hR => ?_)
  obtain ⟨hr6, hs6⟩ := hp6
  subst r6
  subst S6
  exact z_iret (w := wX cI cZ ad) (S1 := S) hx hb hr hlk hF hR dL_act_184 (⟨rfl, rfl⟩)
set_option maxHeartbeats 4000000 in
set_option maxRecDepth 100000 in
theorem a_commit_e2 {l : Launch} {D : va_G} {cI cZ : ClassId} {ad : Nat → Nat} {B : Nat → Prop} (hG : ∀ S : zS, va_D B (wX cI cZ ad S)) (hfl : l.stackTraces = false) (S : zS) (v : Int32) (hO : zOK S) (hh1 : 22 ≤ zlow v 30) (hh2 : zlow v 30 < 24) (hw : (a_w v (zn S 22 0)) < zn S 22 0) (hc : ¬ zrdy S (a_w v (zn S 22 0))) : zMC 1 6 l yL_act wsL_act ({ frames := 9, cells := 1, slots := 6, locals := 204 } : Room) [.ref (ad 0), .int (v)] D (zT cI cZ) B (wX cI cZ ad) S (fun (r : Int32) (S1 : zS) => r = ((-99999)) ∧ S1 = S) := by
  refine zMC_ofP (cc := cL_act) (maxL := 6) (ret := (some .int)) (by decide) rfl (Nat.le_of_ble_eq_true rfl) ?_
  intro pg en s mm below meth cd hx hb hr hml hown hts hlk hF hR ls hl
  have hl : lv_has ls 6 [(0, .ref (ad 0)), (1, .int (v))] := hl
  have h30 := zlow_lt v (n := 30) (by decide)
  have hW := (zOK.w hO).2
  refine act_pre hG S v hO hx hb hml hown hts hF s.heap [] hR ls hl (fun ls H locs hR hl => ?_)
  refine lv_iload hx hb dL_act_65 (lv_at hl 0 rfl) ?_
  refine lv_bipush (v := (nI (8))) hx hb dL_act_67 (by decide) ?_
  refine z_ge_n (tgt := 123) hx hb dL_act_69 (by decide) (by omega) (by omega) (fun h69_1 => ?_) (fun h69_1 => by omega)
  refine lv_iload hx hb dL_act_123 (lv_at hl 0 rfl) ?_
  refine lv_bipush (v := (nI (13))) hx hb dL_act_125 (by decide) ?_
  refine z_ge_n (tgt := 138) hx hb dL_act_127 (by decide) (by omega) (by omega) (fun h127_2 => ?_) (fun h127_2 => by omega)
  refine lv_iload hx hb dL_act_138 (lv_at hl 0 rfl) ?_
  refine lv_bipush (v := (nI (17))) hx hb dL_act_140 (by decide) ?_
  refine z_ge_n (tgt := 153) hx hb dL_act_142 (by decide) (by omega) (by omega) (fun h142_3 => ?_) (fun h142_3 => by omega)
  refine lv_iload hx hb dL_act_153 (lv_at hl 0 rfl) ?_
  refine lv_bipush (v := (nI (22))) hx hb dL_act_155 (by decide) ?_
  refine z_ge_n (tgt := 169) hx hb dL_act_157 (by decide) (by omega) (by omega) (fun h157_4 => ?_) (fun h157_4 => by omega)
  refine lv_iload hx hb dL_act_169 (lv_at hl 0 rfl) ?_
  refine lv_bipush (v := (nI (24))) hx hb dL_act_171 (by decide) ?_
  refine z_ge_n (tgt := 185) hx hb dL_act_173 (by decide) (by omega) (by omega) (fun h173_5 => by omega) (fun h173_5 => ?_)
  refine lv_aload_n hx hb dL_act_176 rfl (lv_at hl 4 rfl) ?_
  refine lv_iconst (v := (nI (3))) hx hb dL_act_177 (by decide) ?_
  refine lv_iload hx hb dL_act_178 (lv_at hl 1 rfl) ?_
  refine lv_iconst (v := (nI (0))) hx hb dL_act_180 (by decide) ?_
  refine z_callSW_i (As := [.ref (ad 0), .int (nI (3)), .int (nI (a_w v (zn S 22 0))), .int (nI (0))]) (rest := []) (w := wX cI cZ ad) ⟨hx, hb, hml, hown, hts⟩ hF hR (o_does_commit_e2 hG hfl S (a_w v (zn S 22 0)) hO hw hc) (vx_cwSW 4 hts gL_act_L_does rfl rfl rfl (by decide +kernel) ⟨Nat.le_of_ble_eq_true rfl, Nat.le_of_ble_eq_true rfl⟩) rfl hl rfl (Nat.le_of_ble_eq_true rfl) ⟨Nat.le_of_ble_eq_true rfl, Nat.le_of_ble_eq_true rfl⟩ dL_act_181 (fun r6 S6 H locs hp6 hR => ?_)
  obtain ⟨hr6, hs6⟩ := hp6
  subst r6
  subst S6
  exact z_iret (w := wX cI cZ ad) (S1 := S) hx hb hr hlk hF hR dL_act_184 (⟨rfl, rfl⟩)
set_option maxHeartbeats 4000000 in
set_option maxRecDepth 100000 in
theorem a_commit_ok {l : Launch} {D : va_G} {cI cZ : ClassId} {ad : Nat → Nat} {B : Nat → Prop} (hG : ∀ S : zS, va_D B (wX cI cZ ad S)) (hfl : l.stackTraces = false) (S : zS) (v : Int32) (hO : zOK S) (hh1 : 22 ≤ zlow v 30) (hh2 : zlow v 30 < 24) (hw : (a_w v (zn S 22 0)) < zn S 22 0) (hc : zrdy S (a_w v (zn S 22 0))) : zMC 0 0 l yL_act wsL_act ({ frames := 9, cells := 0, slots := 0, locals := 204 } : Room) [.ref (ad 0), .int (v)] D (zT cI cZ) B (wX cI cZ ad) S (fun (r : Int32) (S1 : zS) => r = (sp_comr S (a_w v (zn S 22 0))) ∧ S1 = sp_com S (a_w v (zn S 22 0))) := by
  refine zMC_ofP (cc := cL_act) (maxL := 6) (ret := (some .int)) (by decide) rfl (Nat.le_of_ble_eq_true rfl) ?_
  intro pg en s mm below meth cd hx hb hr hml hown hts hlk hF hR ls hl
  have hl : lv_has ls 6 [(0, .ref (ad 0)), (1, .int (v))] := hl
  have h30 := zlow_lt v (n := 30) (by decide)
  have hW := (zOK.w hO).2
  refine act_pre hG S v hO hx hb hml hown hts hF s.heap [] hR ls hl (fun ls H locs hR hl => ?_)
  refine lv_iload hx hb dL_act_65 (lv_at hl 0 rfl) ?_
  refine lv_bipush (v := (nI (8))) hx hb dL_act_67 (by decide) ?_
  refine z_ge_n (tgt := 123) hx hb dL_act_69 (by decide) (by omega) (by omega) (fun h69_1 => ?_) (fun h69_1 => by omega)
  refine lv_iload hx hb dL_act_123 (lv_at hl 0 rfl) ?_
  refine lv_bipush (v := (nI (13))) hx hb dL_act_125 (by decide) ?_
  refine z_ge_n (tgt := 138) hx hb dL_act_127 (by decide) (by omega) (by omega) (fun h127_2 => ?_) (fun h127_2 => by omega)
  refine lv_iload hx hb dL_act_138 (lv_at hl 0 rfl) ?_
  refine lv_bipush (v := (nI (17))) hx hb dL_act_140 (by decide) ?_
  refine z_ge_n (tgt := 153) hx hb dL_act_142 (by decide) (by omega) (by omega) (fun h142_3 => ?_) (fun h142_3 => by omega)
  refine lv_iload hx hb dL_act_153 (lv_at hl 0 rfl) ?_
  refine lv_bipush (v := (nI (22))) hx hb dL_act_155 (by decide) ?_
  refine z_ge_n (tgt := 169) hx hb dL_act_157 (by decide) (by omega) (by omega) (fun h157_4 => ?_) (fun h157_4 => by omega)
  refine lv_iload hx hb dL_act_169 (lv_at hl 0 rfl) ?_
  refine lv_bipush (v := (nI (24))) hx hb dL_act_171 (by decide) ?_
  refine z_ge_n (tgt := 185) hx hb dL_act_173 (by decide) (by omega) (by omega) (fun h173_5 => by omega) (fun h173_5 => ?_)
  refine lv_aload_n hx hb dL_act_176 rfl (lv_at hl 4 rfl) ?_
  refine lv_iconst (v := (nI (3))) hx hb dL_act_177 (by decide) ?_
  refine lv_iload hx hb dL_act_178 (lv_at hl 1 rfl) ?_
  refine lv_iconst (v := (nI (0))) hx hb dL_act_180 (by decide) ?_
  refine z_callSW_i (As := [.ref (ad 0), .int (nI (3)), .int (nI (a_w v (zn S 22 0))), .int (nI (0))]) (rest := []) (w := wX cI cZ ad) ⟨hx, hb, hml, hown, hts⟩ hF hR (o_does_commit_ok hG hfl S (a_w v (zn S 22 0)) hO hw hc) (vx_cwSW 4 hts gL_act_L_does rfl rfl rfl (by decide +kernel) ⟨Nat.le_of_ble_eq_true rfl, Nat.le_of_ble_eq_true rfl⟩) rfl hl rfl (Nat.le_of_ble_eq_true rfl) ⟨Nat.le_of_ble_eq_true rfl, Nat.le_of_ble_eq_true rfl⟩ dL_act_181 (fun r6 S6 H locs hp6 hR => ?_)
  obtain ⟨hr6, hs6⟩ := hp6
  subst r6
  subst S6
  exact z_iret (w := wX cI cZ ad) (S1 := (sp_com S (a_w v (zn S 22 0)))) hx hb hr hlk hF hR dL_act_184 (⟨rfl, rfl⟩)
set_option maxHeartbeats 4000000 in
set_option maxRecDepth 100000 in
theorem a_begin_e1 {l : Launch} {D : va_G} {cI cZ : ClassId} {ad : Nat → Nat} {B : Nat → Prop} (hG : ∀ S : zS, va_D B (wX cI cZ ad S)) (hfl : l.stackTraces = false) (S : zS) (v : Int32) (hO : zOK S) (hh1 : 24 ≤ zlow v 30) (hh2 : zlow v 30 < 26) (hc : ¬ S 22 2 = (-1) ∨ ¬ ∀ w, w < zn S 22 0 → S 21 w = (-1)) : zMC 1 6 l yL_act wsL_act ({ frames := 9, cells := 1, slots := 6, locals := 204 } : Room) [.ref (ad 0), .int (v)] D (zT cI cZ) B (wX cI cZ ad) S (fun (r : Int32) (S1 : zS) => r = ((-99999)) ∧ S1 = S) := by
  refine zMC_ofP (cc := cL_act) (maxL := 6) (ret := (some .int)) (by decide) rfl (Nat.le_of_ble_eq_true rfl) ?_
  intro pg en s mm below meth cd hx hb hr hml hown hts hlk hF hR ls hl
  have hl : lv_has ls 6 [(0, .ref (ad 0)), (1, .int (v))] := hl
  have h30 := zlow_lt v (n := 30) (by decide)
  have hW := (zOK.w hO).2
  refine act_pre hG S v hO hx hb hml hown hts hF s.heap [] hR ls hl (fun ls H locs hR hl => ?_)
  refine lv_iload hx hb dL_act_65 (lv_at hl 0 rfl) ?_
  refine lv_bipush (v := (nI (8))) hx hb dL_act_67 (by decide) ?_
  refine z_ge_n (tgt := 123) hx hb dL_act_69 (by decide) (by omega) (by omega) (fun h69_1 => ?_) (fun h69_1 => by omega)
  refine lv_iload hx hb dL_act_123 (lv_at hl 0 rfl) ?_
  refine lv_bipush (v := (nI (13))) hx hb dL_act_125 (by decide) ?_
  refine z_ge_n (tgt := 138) hx hb dL_act_127 (by decide) (by omega) (by omega) (fun h127_2 => ?_) (fun h127_2 => by omega)
  refine lv_iload hx hb dL_act_138 (lv_at hl 0 rfl) ?_
  refine lv_bipush (v := (nI (17))) hx hb dL_act_140 (by decide) ?_
  refine z_ge_n (tgt := 153) hx hb dL_act_142 (by decide) (by omega) (by omega) (fun h142_3 => ?_) (fun h142_3 => by omega)
  refine lv_iload hx hb dL_act_153 (lv_at hl 0 rfl) ?_
  refine lv_bipush (v := (nI (22))) hx hb dL_act_155 (by decide) ?_
  refine z_ge_n (tgt := 169) hx hb dL_act_157 (by decide) (by omega) (by omega) (fun h157_4 => ?_) (fun h157_4 => by omega)
  refine lv_iload hx hb dL_act_169 (lv_at hl 0 rfl) ?_
  refine lv_bipush (v := (nI (24))) hx hb dL_act_171 (by decide) ?_
  refine z_ge_n (tgt := 185) hx hb dL_act_173 (by decide) (by omega) (by omega) (fun h173_5 => ?_) (fun h173_5 => by omega)
  refine lv_iload hx hb dL_act_185 (lv_at hl 0 rfl) ?_
  refine lv_bipush (v := (nI (26))) hx hb dL_act_187 (by decide) ?_
  refine z_ge_n (tgt := 200) hx hb dL_act_189 (by decide) (by omega) (by omega) (fun h189_6 => by omega) (fun h189_6 => ?_)
  refine lv_aload_n hx hb dL_act_192 rfl (lv_at hl 4 rfl) ?_
  refine lv_iconst (v := (nI (4))) hx hb dL_act_193 (by decide) ?_
  refine lv_iconst (v := (nI (0))) hx hb dL_act_194 (by decide) ?_
  refine lv_iconst (v := (nI (0))) hx hb dL_act_195 (by decide) ?_
  refine z_callSW_i (As := [.ref (ad 0), .int (nI (4)), .int (nI (0)), .int (nI (0))]) (rest := []) (w := wX cI cZ ad) ⟨hx, hb, hml, hown, hts⟩ hF hR (o_does_beginCheckpoint_e1 hG hfl S hO hc) (vx_cwSW 4 hts gL_act_L_does rfl rfl rfl (by decide +kernel) ⟨Nat.le_of_ble_eq_true rfl, Nat.le_of_ble_eq_true rfl⟩) rfl hl rfl (Nat.le_of_ble_eq_true rfl) ⟨Nat.le_of_ble_eq_true rfl, Nat.le_of_ble_eq_true rfl⟩ dL_act_196 (fun r7 S7 H locs hp7 hR => ?_)
  obtain ⟨hr7, hs7⟩ := hp7
  subst r7
  subst S7
  exact z_iret (w := wX cI cZ ad) (S1 := S) hx hb hr hlk hF hR dL_act_199 (⟨rfl, rfl⟩)
set_option maxHeartbeats 4000000 in
set_option maxRecDepth 100000 in
theorem a_begin_ok {l : Launch} {D : va_G} {cI cZ : ClassId} {ad : Nat → Nat} {B : Nat → Prop} (hG : ∀ S : zS, va_D B (wX cI cZ ad S)) (hfl : l.stackTraces = false) (S : zS) (v : Int32) (hO : zOK S) (hh1 : 24 ≤ zlow v 30) (hh2 : zlow v 30 < 26) (hc1 : S 22 2 = (-1)) (hc : ∀ w, w < zn S 22 0 → S 21 w = (-1)) : zMC 0 0 l yL_act wsL_act ({ frames := 9, cells := 0, slots := 0, locals := 204 } : Room) [.ref (ad 0), .int (v)] D (zT cI cZ) B (wX cI cZ ad) S (fun (r : Int32) (S1 : zS) => r = (S 22 1 + nI 1) ∧ S1 = sp_beg S) := by
  refine zMC_ofP (cc := cL_act) (maxL := 6) (ret := (some .int)) (by decide) rfl (Nat.le_of_ble_eq_true rfl) ?_
  intro pg en s mm below meth cd hx hb hr hml hown hts hlk hF hR ls hl
  have hl : lv_has ls 6 [(0, .ref (ad 0)), (1, .int (v))] := hl
  have h30 := zlow_lt v (n := 30) (by decide)
  have hW := (zOK.w hO).2
  refine act_pre hG S v hO hx hb hml hown hts hF s.heap [] hR ls hl (fun ls H locs hR hl => ?_)
  refine lv_iload hx hb dL_act_65 (lv_at hl 0 rfl) ?_
  refine lv_bipush (v := (nI (8))) hx hb dL_act_67 (by decide) ?_
  refine z_ge_n (tgt := 123) hx hb dL_act_69 (by decide) (by omega) (by omega) (fun h69_1 => ?_) (fun h69_1 => by omega)
  refine lv_iload hx hb dL_act_123 (lv_at hl 0 rfl) ?_
  refine lv_bipush (v := (nI (13))) hx hb dL_act_125 (by decide) ?_
  refine z_ge_n (tgt := 138) hx hb dL_act_127 (by decide) (by omega) (by omega) (fun h127_2 => ?_) (fun h127_2 => by omega)
  refine lv_iload hx hb dL_act_138 (lv_at hl 0 rfl) ?_
  refine lv_bipush (v := (nI (17))) hx hb dL_act_140 (by decide) ?_
  refine z_ge_n (tgt := 153) hx hb dL_act_142 (by decide) (by omega) (by omega) (fun h142_3 => ?_) (fun h142_3 => by omega)
  refine lv_iload hx hb dL_act_153 (lv_at hl 0 rfl) ?_
  refine lv_bipush (v := (nI (22))) hx hb dL_act_155 (by decide) ?_
  refine z_ge_n (tgt := 169) hx hb dL_act_157 (by decide) (by omega) (by omega) (fun h157_4 => ?_) (fun h157_4 => by omega)
  refine lv_iload hx hb dL_act_169 (lv_at hl 0 rfl) ?_
  refine lv_bipush (v := (nI (24))) hx hb dL_act_171 (by decide) ?_
  refine z_ge_n (tgt := 185) hx hb dL_act_173 (by decide) (by omega) (by omega) (fun h173_5 => ?_) (fun h173_5 => by omega)
  refine lv_iload hx hb dL_act_185 (lv_at hl 0 rfl) ?_
  refine lv_bipush (v := (nI (26))) hx hb dL_act_187 (by decide) ?_
  refine z_ge_n (tgt := 200) hx hb dL_act_189 (by decide) (by omega) (by omega) (fun h189_6 => by omega) (fun h189_6 => ?_)
  refine lv_aload_n hx hb dL_act_192 rfl (lv_at hl 4 rfl) ?_
  refine lv_iconst (v := (nI (4))) hx hb dL_act_193 (by decide) ?_
  refine lv_iconst (v := (nI (0))) hx hb dL_act_194 (by decide) ?_
  refine lv_iconst (v := (nI (0))) hx hb dL_act_195 (by decide) ?_
  refine z_callSW_i (As := [.ref (ad 0), .int (nI (4)), .int (nI (0)), .int (nI (0))]) (rest := []) (w := wX cI cZ ad) ⟨hx, hb, hml, hown, hts⟩ hF hR (o_does_beginCheckpoint_ok hG hfl S hO hc1 hc) (vx_cwSW 4 hts gL_act_L_does rfl rfl rfl (by decide +kernel) ⟨Nat.le_of_ble_eq_true rfl, Nat.le_of_ble_eq_true rfl⟩) rfl hl rfl (Nat.le_of_ble_eq_true rfl) ⟨Nat.le_of_ble_eq_true rfl, Nat.le_of_ble_eq_true rfl⟩ dL_act_196 (fun r7 S7 H locs hp7 hR => ?_)
  obtain ⟨hr7, hs7⟩ := hp7
  subst r7
  subst S7
  exact z_iret (w := wX cI cZ ad) (S1 := (sp_beg S)) hx hb hr hlk hF hR dL_act_199 (⟨rfl, rfl⟩)
set_option maxHeartbeats 4000000 in
set_option maxRecDepth 100000 in
theorem a_abandon_e1 {l : Launch} {D : va_G} {cI cZ : ClassId} {ad : Nat → Nat} {B : Nat → Prop} (hG : ∀ S : zS, va_D B (wX cI cZ ad S)) (hfl : l.stackTraces = false) (S : zS) (v : Int32) (hO : zOK S) (hh : zlow v 30 = 28) (h9 : zlow (zsh v 9) 2 = 0) (hc : S 22 2 = (-1)) : zMC 1 6 l yL_act wsL_act ({ frames := 9, cells := 1, slots := 6, locals := 204 } : Room) [.ref (ad 0), .int (v)] D (zT cI cZ) B (wX cI cZ ad) S (fun (r : Int32) (S1 : zS) => r = ((-99999)) ∧ S1 = S) := by
  refine zMC_ofP (cc := cL_act) (maxL := 6) (ret := (some .int)) (by decide) rfl (Nat.le_of_ble_eq_true rfl) ?_
  intro pg en s mm below meth cd hx hb hr hml hown hts hlk hF hR ls hl
  have hl : lv_has ls 6 [(0, .ref (ad 0)), (1, .int (v))] := hl
  have h30 := zlow_lt v (n := 30) (by decide)
  have hW := (zOK.w hO).2
  refine act_pre hG S v hO hx hb hml hown hts hF s.heap [] hR ls hl (fun ls H locs hR hl => ?_)
  refine lv_iload hx hb dL_act_65 (lv_at hl 0 rfl) ?_
  refine lv_bipush (v := (nI (8))) hx hb dL_act_67 (by decide) ?_
  refine z_ge_n (tgt := 123) hx hb dL_act_69 (by decide) (by omega) (by omega) (fun h69_1 => ?_) (fun h69_1 => by omega)
  refine lv_iload hx hb dL_act_123 (lv_at hl 0 rfl) ?_
  refine lv_bipush (v := (nI (13))) hx hb dL_act_125 (by decide) ?_
  refine z_ge_n (tgt := 138) hx hb dL_act_127 (by decide) (by omega) (by omega) (fun h127_2 => ?_) (fun h127_2 => by omega)
  refine lv_iload hx hb dL_act_138 (lv_at hl 0 rfl) ?_
  refine lv_bipush (v := (nI (17))) hx hb dL_act_140 (by decide) ?_
  refine z_ge_n (tgt := 153) hx hb dL_act_142 (by decide) (by omega) (by omega) (fun h142_3 => ?_) (fun h142_3 => by omega)
  refine lv_iload hx hb dL_act_153 (lv_at hl 0 rfl) ?_
  refine lv_bipush (v := (nI (22))) hx hb dL_act_155 (by decide) ?_
  refine z_ge_n (tgt := 169) hx hb dL_act_157 (by decide) (by omega) (by omega) (fun h157_4 => ?_) (fun h157_4 => by omega)
  refine lv_iload hx hb dL_act_169 (lv_at hl 0 rfl) ?_
  refine lv_bipush (v := (nI (24))) hx hb dL_act_171 (by decide) ?_
  refine z_ge_n (tgt := 185) hx hb dL_act_173 (by decide) (by omega) (by omega) (fun h173_5 => ?_) (fun h173_5 => by omega)
  refine lv_iload hx hb dL_act_185 (lv_at hl 0 rfl) ?_
  refine lv_bipush (v := (nI (26))) hx hb dL_act_187 (by decide) ?_
  refine z_ge_n (tgt := 200) hx hb dL_act_189 (by decide) (by omega) (by omega) (fun h189_6 => ?_) (fun h189_6 => by omega)
  refine lv_iload hx hb dL_act_200 (lv_at hl 0 rfl) ?_
  refine lv_bipush (v := (nI (28))) hx hb dL_act_202 (by decide) ?_
  refine z_ge_n (tgt := 239) hx hb dL_act_204 (by decide) (by omega) (by omega) (fun h204_7 => ?_) (fun h204_7 => by omega)
  refine lv_iload hx hb dL_act_239 (lv_at hl 0 rfl) ?_
  refine lv_bipush (v := (nI (28))) hx hb dL_act_241 (by decide) ?_
  refine z_ne_n (tgt := 274) hx hb dL_act_243 (by decide) (by omega) (by omega) (fun h243_8 => by omega) (fun h243_8 => ?_)
  refine lv_iload_n hx hb dL_act_246 rfl (lv_at hl 5 rfl) ?_
  refine lv_bipush (v := (nI (9))) hx hb dL_act_247 (by decide) ?_
  refine lv_ishr hx hb dL_act_249 ?_
  refine lv_iconst (v := (nI (2))) hx hb dL_act_250 (by decide) ?_
  refine z_callS_i (As := [.int (zsh (v) 9), .int (nI (2))]) (rest := []) (w := wX cI cZ ad) ⟨hx, hb, hml, hown, hts⟩ hF hR (c_L_low hG S ((zsh (v) 9)) 2 (by omega) (by omega)) (va_cwS 2 hts gL_act_L_low rfl rfl rfl (by decide +kernel) ⟨Nat.le_of_ble_eq_true rfl, Nat.le_of_ble_eq_true rfl⟩) rfl hl rfl (Nat.le_of_ble_eq_true rfl) (by decide) dL_act_251 (fun r9 S9 H locs hp9 hR => ?_)
  obtain ⟨hr9, hs9⟩ := hp9
  subst r9
  subst S9
  refine z_if_ne_n (tgt := 267) hx hb dL_act_254 (by decide) (zlow_lt2 _ _) (fun h254_10 => absurd h9 h254_10) (fun h254_10 => ?_)
  refine lv_aload_n hx hb dL_act_257 rfl (lv_at hl 4 rfl) ?_
  refine lv_iconst (v := (nI (5))) hx hb dL_act_258 (by decide) ?_
  refine lv_iconst (v := (nI (0))) hx hb dL_act_259 (by decide) ?_
  refine lv_iconst (v := (nI (0))) hx hb dL_act_260 (by decide) ?_
  refine z_callSW_i (As := [.ref (ad 0), .int (nI (5)), .int (nI (0)), .int (nI (0))]) (rest := []) (w := wX cI cZ ad) ⟨hx, hb, hml, hown, hts⟩ hF hR (o_does_abandon_e1 hG hfl S hO hc) (vx_cwSW 4 hts gL_act_L_does rfl rfl rfl (by decide +kernel) ⟨Nat.le_of_ble_eq_true rfl, Nat.le_of_ble_eq_true rfl⟩) rfl hl rfl (Nat.le_of_ble_eq_true rfl) ⟨Nat.le_of_ble_eq_true rfl, Nat.le_of_ble_eq_true rfl⟩ dL_act_261 (fun r11 S11 H locs hp11 hR => ?_)
  obtain ⟨hr11, hs11⟩ := hp11
  subst r11
  subst S11
  refine lv_goto (tgt := 326) hx hb dL_act_264 (by decide) ?_
  exact z_iret (w := wX cI cZ ad) (S1 := S) hx hb hr hlk hF hR dL_act_326 (⟨rfl, rfl⟩)
set_option maxHeartbeats 4000000 in
set_option maxRecDepth 100000 in
theorem a_abandon_ok {l : Launch} {D : va_G} {cI cZ : ClassId} {ad : Nat → Nat} {B : Nat → Prop} (hG : ∀ S : zS, va_D B (wX cI cZ ad S)) (hfl : l.stackTraces = false) (S : zS) (v : Int32) (hO : zOK S) (hh : zlow v 30 = 28) (h9 : zlow (zsh v 9) 2 = 0) (hc : ¬ S 22 2 = (-1)) : zMC 0 0 l yL_act wsL_act ({ frames := 9, cells := 0, slots := 0, locals := 204 } : Room) [.ref (ad 0), .int (v)] D (zT cI cZ) B (wX cI cZ ad) S (fun (r : Int32) (S1 : zS) => r = (S 22 2) ∧ S1 = sp_ab S) := by
  refine zMC_ofP (cc := cL_act) (maxL := 6) (ret := (some .int)) (by decide) rfl (Nat.le_of_ble_eq_true rfl) ?_
  intro pg en s mm below meth cd hx hb hr hml hown hts hlk hF hR ls hl
  have hl : lv_has ls 6 [(0, .ref (ad 0)), (1, .int (v))] := hl
  have h30 := zlow_lt v (n := 30) (by decide)
  have hW := (zOK.w hO).2
  refine act_pre hG S v hO hx hb hml hown hts hF s.heap [] hR ls hl (fun ls H locs hR hl => ?_)
  refine lv_iload hx hb dL_act_65 (lv_at hl 0 rfl) ?_
  refine lv_bipush (v := (nI (8))) hx hb dL_act_67 (by decide) ?_
  refine z_ge_n (tgt := 123) hx hb dL_act_69 (by decide) (by omega) (by omega) (fun h69_1 => ?_) (fun h69_1 => by omega)
  refine lv_iload hx hb dL_act_123 (lv_at hl 0 rfl) ?_
  refine lv_bipush (v := (nI (13))) hx hb dL_act_125 (by decide) ?_
  refine z_ge_n (tgt := 138) hx hb dL_act_127 (by decide) (by omega) (by omega) (fun h127_2 => ?_) (fun h127_2 => by omega)
  refine lv_iload hx hb dL_act_138 (lv_at hl 0 rfl) ?_
  refine lv_bipush (v := (nI (17))) hx hb dL_act_140 (by decide) ?_
  refine z_ge_n (tgt := 153) hx hb dL_act_142 (by decide) (by omega) (by omega) (fun h142_3 => ?_) (fun h142_3 => by omega)
  refine lv_iload hx hb dL_act_153 (lv_at hl 0 rfl) ?_
  refine lv_bipush (v := (nI (22))) hx hb dL_act_155 (by decide) ?_
  refine z_ge_n (tgt := 169) hx hb dL_act_157 (by decide) (by omega) (by omega) (fun h157_4 => ?_) (fun h157_4 => by omega)
  refine lv_iload hx hb dL_act_169 (lv_at hl 0 rfl) ?_
  refine lv_bipush (v := (nI (24))) hx hb dL_act_171 (by decide) ?_
  refine z_ge_n (tgt := 185) hx hb dL_act_173 (by decide) (by omega) (by omega) (fun h173_5 => ?_) (fun h173_5 => by omega)
  refine lv_iload hx hb dL_act_185 (lv_at hl 0 rfl) ?_
  refine lv_bipush (v := (nI (26))) hx hb dL_act_187 (by decide) ?_
  refine z_ge_n (tgt := 200) hx hb dL_act_189 (by decide) (by omega) (by omega) (fun h189_6 => ?_) (fun h189_6 => by omega)
  refine lv_iload hx hb dL_act_200 (lv_at hl 0 rfl) ?_
  refine lv_bipush (v := (nI (28))) hx hb dL_act_202 (by decide) ?_
  refine z_ge_n (tgt := 239) hx hb dL_act_204 (by decide) (by omega) (by omega) (fun h204_7 => ?_) (fun h204_7 => by omega)
  refine lv_iload hx hb dL_act_239 (lv_at hl 0 rfl) ?_
  refine lv_bipush (v := (nI (28))) hx hb dL_act_241 (by decide) ?_
  refine z_ne_n (tgt := 274) hx hb dL_act_243 (by decide) (by omega) (by omega) (fun h243_8 => by omega) (fun h243_8 => ?_)
  refine lv_iload_n hx hb dL_act_246 rfl (lv_at hl 5 rfl) ?_
  refine lv_bipush (v := (nI (9))) hx hb dL_act_247 (by decide) ?_
  refine lv_ishr hx hb dL_act_249 ?_
  refine lv_iconst (v := (nI (2))) hx hb dL_act_250 (by decide) ?_
  refine z_callS_i (As := [.int (zsh (v) 9), .int (nI (2))]) (rest := []) (w := wX cI cZ ad) ⟨hx, hb, hml, hown, hts⟩ hF hR (c_L_low hG S ((zsh (v) 9)) 2 (by omega) (by omega)) (va_cwS 2 hts gL_act_L_low rfl rfl rfl (by decide +kernel) ⟨Nat.le_of_ble_eq_true rfl, Nat.le_of_ble_eq_true rfl⟩) rfl hl rfl (Nat.le_of_ble_eq_true rfl) (by decide) dL_act_251 (fun r9 S9 H locs hp9 hR => ?_)
  obtain ⟨hr9, hs9⟩ := hp9
  subst r9
  subst S9
  refine z_if_ne_n (tgt := 267) hx hb dL_act_254 (by decide) (zlow_lt2 _ _) (fun h254_10 => absurd h9 h254_10) (fun h254_10 => ?_)
  refine lv_aload_n hx hb dL_act_257 rfl (lv_at hl 4 rfl) ?_
  refine lv_iconst (v := (nI (5))) hx hb dL_act_258 (by decide) ?_
  refine lv_iconst (v := (nI (0))) hx hb dL_act_259 (by decide) ?_
  refine lv_iconst (v := (nI (0))) hx hb dL_act_260 (by decide) ?_
  refine z_callSW_i (As := [.ref (ad 0), .int (nI (5)), .int (nI (0)), .int (nI (0))]) (rest := []) (w := wX cI cZ ad) ⟨hx, hb, hml, hown, hts⟩ hF hR (o_does_abandon_ok hG hfl S hO hc) (vx_cwSW 4 hts gL_act_L_does rfl rfl rfl (by decide +kernel) ⟨Nat.le_of_ble_eq_true rfl, Nat.le_of_ble_eq_true rfl⟩) rfl hl rfl (Nat.le_of_ble_eq_true rfl) ⟨Nat.le_of_ble_eq_true rfl, Nat.le_of_ble_eq_true rfl⟩ dL_act_261 (fun r11 S11 H locs hp11 hR => ?_)
  obtain ⟨hr11, hs11⟩ := hp11
  subst r11
  subst S11
  refine lv_goto (tgt := 326) hx hb dL_act_264 (by decide) ?_
  exact z_iret (w := wX cI cZ ad) (S1 := (sp_ab S)) hx hb hr hlk hF hR dL_act_326 (⟨rfl, rfl⟩)
set_option maxHeartbeats 4000000 in
set_option maxRecDepth 100000 in
theorem a_begin2_e1 {l : Launch} {D : va_G} {cI cZ : ClassId} {ad : Nat → Nat} {B : Nat → Prop} (hG : ∀ S : zS, va_D B (wX cI cZ ad S)) (hfl : l.stackTraces = false) (S : zS) (v : Int32) (hO : zOK S) (hh : zlow v 30 = 29) (h10 : ¬ zlow (zsh v 10) 3 = 0) (hc : ¬ S 22 2 = (-1) ∨ ¬ ∀ w, w < zn S 22 0 → S 21 w = (-1)) : zMC 1 6 l yL_act wsL_act ({ frames := 9, cells := 1, slots := 6, locals := 204 } : Room) [.ref (ad 0), .int (v)] D (zT cI cZ) B (wX cI cZ ad) S (fun (r : Int32) (S1 : zS) => r = ((-99999)) ∧ S1 = S) := by
  refine zMC_ofP (cc := cL_act) (maxL := 6) (ret := (some .int)) (by decide) rfl (Nat.le_of_ble_eq_true rfl) ?_
  intro pg en s mm below meth cd hx hb hr hml hown hts hlk hF hR ls hl
  have hl : lv_has ls 6 [(0, .ref (ad 0)), (1, .int (v))] := hl
  have h30 := zlow_lt v (n := 30) (by decide)
  have hW := (zOK.w hO).2
  refine act_pre hG S v hO hx hb hml hown hts hF s.heap [] hR ls hl (fun ls H locs hR hl => ?_)
  refine lv_iload hx hb dL_act_65 (lv_at hl 0 rfl) ?_
  refine lv_bipush (v := (nI (8))) hx hb dL_act_67 (by decide) ?_
  refine z_ge_n (tgt := 123) hx hb dL_act_69 (by decide) (by omega) (by omega) (fun h69_1 => ?_) (fun h69_1 => by omega)
  refine lv_iload hx hb dL_act_123 (lv_at hl 0 rfl) ?_
  refine lv_bipush (v := (nI (13))) hx hb dL_act_125 (by decide) ?_
  refine z_ge_n (tgt := 138) hx hb dL_act_127 (by decide) (by omega) (by omega) (fun h127_2 => ?_) (fun h127_2 => by omega)
  refine lv_iload hx hb dL_act_138 (lv_at hl 0 rfl) ?_
  refine lv_bipush (v := (nI (17))) hx hb dL_act_140 (by decide) ?_
  refine z_ge_n (tgt := 153) hx hb dL_act_142 (by decide) (by omega) (by omega) (fun h142_3 => ?_) (fun h142_3 => by omega)
  refine lv_iload hx hb dL_act_153 (lv_at hl 0 rfl) ?_
  refine lv_bipush (v := (nI (22))) hx hb dL_act_155 (by decide) ?_
  refine z_ge_n (tgt := 169) hx hb dL_act_157 (by decide) (by omega) (by omega) (fun h157_4 => ?_) (fun h157_4 => by omega)
  refine lv_iload hx hb dL_act_169 (lv_at hl 0 rfl) ?_
  refine lv_bipush (v := (nI (24))) hx hb dL_act_171 (by decide) ?_
  refine z_ge_n (tgt := 185) hx hb dL_act_173 (by decide) (by omega) (by omega) (fun h173_5 => ?_) (fun h173_5 => by omega)
  refine lv_iload hx hb dL_act_185 (lv_at hl 0 rfl) ?_
  refine lv_bipush (v := (nI (26))) hx hb dL_act_187 (by decide) ?_
  refine z_ge_n (tgt := 200) hx hb dL_act_189 (by decide) (by omega) (by omega) (fun h189_6 => ?_) (fun h189_6 => by omega)
  refine lv_iload hx hb dL_act_200 (lv_at hl 0 rfl) ?_
  refine lv_bipush (v := (nI (28))) hx hb dL_act_202 (by decide) ?_
  refine z_ge_n (tgt := 239) hx hb dL_act_204 (by decide) (by omega) (by omega) (fun h204_7 => ?_) (fun h204_7 => by omega)
  refine lv_iload hx hb dL_act_239 (lv_at hl 0 rfl) ?_
  refine lv_bipush (v := (nI (28))) hx hb dL_act_241 (by decide) ?_
  refine z_ne_n (tgt := 274) hx hb dL_act_243 (by decide) (by omega) (by omega) (fun h243_8 => ?_) (fun h243_8 => by omega)
  refine lv_iload_n hx hb dL_act_274 rfl (lv_at hl 5 rfl) ?_
  refine lv_bipush (v := (nI (10))) hx hb dL_act_275 (by decide) ?_
  refine lv_ishr hx hb dL_act_277 ?_
  refine lv_iconst (v := (nI (3))) hx hb dL_act_278 (by decide) ?_
  refine z_callS_i (As := [.int (zsh (v) 10), .int (nI (3))]) (rest := []) (w := wX cI cZ ad) ⟨hx, hb, hml, hown, hts⟩ hF hR (c_L_low hG S ((zsh (v) 10)) 3 (by omega) (by omega)) (va_cwS 2 hts gL_act_L_low rfl rfl rfl (by decide +kernel) ⟨Nat.le_of_ble_eq_true rfl, Nat.le_of_ble_eq_true rfl⟩) rfl hl rfl (Nat.le_of_ble_eq_true rfl) (by decide) dL_act_279 (fun r9 S9 H locs hp9 hR => ?_)
  obtain ⟨hr9, hs9⟩ := hp9
  subst r9
  subst S9
  refine z_if_ne_n (tgt := 319) hx hb dL_act_282 (by decide) (zlow_lt2 _ _) (fun h282_10 => ?_) (fun h282_10 => absurd h282_10 h10)
  refine lv_aload_n hx hb dL_act_319 rfl (lv_at hl 4 rfl) ?_
  refine lv_iconst (v := (nI (4))) hx hb dL_act_320 (by decide) ?_
  refine lv_iconst (v := (nI (0))) hx hb dL_act_321 (by decide) ?_
  refine lv_iconst (v := (nI (0))) hx hb dL_act_322 (by decide) ?_
  refine z_callSW_i (As := [.ref (ad 0), .int (nI (4)), .int (nI (0)), .int (nI (0))]) (rest := []) (w := wX cI cZ ad) ⟨hx, hb, hml, hown, hts⟩ hF hR (o_does_beginCheckpoint_e1 hG hfl S hO hc) (vx_cwSW 4 hts gL_act_L_does rfl rfl rfl (by decide +kernel) ⟨Nat.le_of_ble_eq_true rfl, Nat.le_of_ble_eq_true rfl⟩) rfl hl rfl (Nat.le_of_ble_eq_true rfl) ⟨Nat.le_of_ble_eq_true rfl, Nat.le_of_ble_eq_true rfl⟩ dL_act_323 (fun r11 S11 H locs hp11 hR => ?_)
  obtain ⟨hr11, hs11⟩ := hp11
  subst r11
  subst S11
  exact z_iret (w := wX cI cZ ad) (S1 := S) hx hb hr hlk hF hR dL_act_326 (⟨rfl, rfl⟩)
set_option maxHeartbeats 4000000 in
set_option maxRecDepth 100000 in
theorem a_begin2_ok {l : Launch} {D : va_G} {cI cZ : ClassId} {ad : Nat → Nat} {B : Nat → Prop} (hG : ∀ S : zS, va_D B (wX cI cZ ad S)) (hfl : l.stackTraces = false) (S : zS) (v : Int32) (hO : zOK S) (hh : zlow v 30 = 29) (h10 : ¬ zlow (zsh v 10) 3 = 0) (hc1 : S 22 2 = (-1)) (hc : ∀ w, w < zn S 22 0 → S 21 w = (-1)) : zMC 0 0 l yL_act wsL_act ({ frames := 9, cells := 0, slots := 0, locals := 204 } : Room) [.ref (ad 0), .int (v)] D (zT cI cZ) B (wX cI cZ ad) S (fun (r : Int32) (S1 : zS) => r = (S 22 1 + nI 1) ∧ S1 = sp_beg S) := by
  refine zMC_ofP (cc := cL_act) (maxL := 6) (ret := (some .int)) (by decide) rfl (Nat.le_of_ble_eq_true rfl) ?_
  intro pg en s mm below meth cd hx hb hr hml hown hts hlk hF hR ls hl
  have hl : lv_has ls 6 [(0, .ref (ad 0)), (1, .int (v))] := hl
  have h30 := zlow_lt v (n := 30) (by decide)
  have hW := (zOK.w hO).2
  refine act_pre hG S v hO hx hb hml hown hts hF s.heap [] hR ls hl (fun ls H locs hR hl => ?_)
  refine lv_iload hx hb dL_act_65 (lv_at hl 0 rfl) ?_
  refine lv_bipush (v := (nI (8))) hx hb dL_act_67 (by decide) ?_
  refine z_ge_n (tgt := 123) hx hb dL_act_69 (by decide) (by omega) (by omega) (fun h69_1 => ?_) (fun h69_1 => by omega)
  refine lv_iload hx hb dL_act_123 (lv_at hl 0 rfl) ?_
  refine lv_bipush (v := (nI (13))) hx hb dL_act_125 (by decide) ?_
  refine z_ge_n (tgt := 138) hx hb dL_act_127 (by decide) (by omega) (by omega) (fun h127_2 => ?_) (fun h127_2 => by omega)
  refine lv_iload hx hb dL_act_138 (lv_at hl 0 rfl) ?_
  refine lv_bipush (v := (nI (17))) hx hb dL_act_140 (by decide) ?_
  refine z_ge_n (tgt := 153) hx hb dL_act_142 (by decide) (by omega) (by omega) (fun h142_3 => ?_) (fun h142_3 => by omega)
  refine lv_iload hx hb dL_act_153 (lv_at hl 0 rfl) ?_
  refine lv_bipush (v := (nI (22))) hx hb dL_act_155 (by decide) ?_
  refine z_ge_n (tgt := 169) hx hb dL_act_157 (by decide) (by omega) (by omega) (fun h157_4 => ?_) (fun h157_4 => by omega)
  refine lv_iload hx hb dL_act_169 (lv_at hl 0 rfl) ?_
  refine lv_bipush (v := (nI (24))) hx hb dL_act_171 (by decide) ?_
  refine z_ge_n (tgt := 185) hx hb dL_act_173 (by decide) (by omega) (by omega) (fun h173_5 => ?_) (fun h173_5 => by omega)
  refine lv_iload hx hb dL_act_185 (lv_at hl 0 rfl) ?_
  refine lv_bipush (v := (nI (26))) hx hb dL_act_187 (by decide) ?_
  refine z_ge_n (tgt := 200) hx hb dL_act_189 (by decide) (by omega) (by omega) (fun h189_6 => ?_) (fun h189_6 => by omega)
  refine lv_iload hx hb dL_act_200 (lv_at hl 0 rfl) ?_
  refine lv_bipush (v := (nI (28))) hx hb dL_act_202 (by decide) ?_
  refine z_ge_n (tgt := 239) hx hb dL_act_204 (by decide) (by omega) (by omega) (fun h204_7 => ?_) (fun h204_7 => by omega)
  refine lv_iload hx hb dL_act_239 (lv_at hl 0 rfl) ?_
  refine lv_bipush (v := (nI (28))) hx hb dL_act_241 (by decide) ?_
  refine z_ne_n (tgt := 274) hx hb dL_act_243 (by decide) (by omega) (by omega) (fun h243_8 => ?_) (fun h243_8 => by omega)
  refine lv_iload_n hx hb dL_act_274 rfl (lv_at hl 5 rfl) ?_
  refine lv_bipush (v := (nI (10))) hx hb dL_act_275 (by decide) ?_
  refine lv_ishr hx hb dL_act_277 ?_
  refine lv_iconst (v := (nI (3))) hx hb dL_act_278 (by decide) ?_
  refine z_callS_i (As := [.int (zsh (v) 10), .int (nI (3))]) (rest := []) (w := wX cI cZ ad) ⟨hx, hb, hml, hown, hts⟩ hF hR (c_L_low hG S ((zsh (v) 10)) 3 (by omega) (by omega)) (va_cwS 2 hts gL_act_L_low rfl rfl rfl (by decide +kernel) ⟨Nat.le_of_ble_eq_true rfl, Nat.le_of_ble_eq_true rfl⟩) rfl hl rfl (Nat.le_of_ble_eq_true rfl) (by decide) dL_act_279 (fun r9 S9 H locs hp9 hR => ?_)
  obtain ⟨hr9, hs9⟩ := hp9
  subst r9
  subst S9
  refine z_if_ne_n (tgt := 319) hx hb dL_act_282 (by decide) (zlow_lt2 _ _) (fun h282_10 => ?_) (fun h282_10 => absurd h282_10 h10)
  refine lv_aload_n hx hb dL_act_319 rfl (lv_at hl 4 rfl) ?_
  refine lv_iconst (v := (nI (4))) hx hb dL_act_320 (by decide) ?_
  refine lv_iconst (v := (nI (0))) hx hb dL_act_321 (by decide) ?_
  refine lv_iconst (v := (nI (0))) hx hb dL_act_322 (by decide) ?_
  refine z_callSW_i (As := [.ref (ad 0), .int (nI (4)), .int (nI (0)), .int (nI (0))]) (rest := []) (w := wX cI cZ ad) ⟨hx, hb, hml, hown, hts⟩ hF hR (o_does_beginCheckpoint_ok hG hfl S hO hc1 hc) (vx_cwSW 4 hts gL_act_L_does rfl rfl rfl (by decide +kernel) ⟨Nat.le_of_ble_eq_true rfl, Nat.le_of_ble_eq_true rfl⟩) rfl hl rfl (Nat.le_of_ble_eq_true rfl) ⟨Nat.le_of_ble_eq_true rfl, Nat.le_of_ble_eq_true rfl⟩ dL_act_323 (fun r11 S11 H locs hp11 hR => ?_)
  obtain ⟨hr11, hs11⟩ := hp11
  subst r11
  subst S11
  exact z_iret (w := wX cI cZ ad) (S1 := (sp_beg S)) hx hb hr hlk hF hR dL_act_326 (⟨rfl, rfl⟩)
set_option maxHeartbeats 4000000 in
set_option maxRecDepth 100000 in
theorem a_crash_ {l : Launch} {D : va_G} {cI cZ : ClassId} {ad : Nat → Nat} {B : Nat → Prop} (hG : ∀ S : zS, va_D B (wX cI cZ ad S)) (hfl : l.stackTraces = false) (S : zS) (v : Int32) (hO : zOK S) (hh : zlow v 30 = 28) (h9 : ¬ zlow (zsh v 9) 2 = 0) : zMC 0 0 l yL_act wsL_act ({ frames := 9, cells := 0, slots := 0, locals := 204 } : Room) [.ref (ad 0), .int (v)] D (zT cI cZ) B (wX cI cZ ad) S (fun (r : Int32) (S1 : zS) => r = (sp_cr S) ∧ S1 = sp_sa S (zn S 22 0)) := by
  refine zMC_ofP (cc := cL_act) (maxL := 6) (ret := (some .int)) (by decide) rfl (Nat.le_of_ble_eq_true rfl) ?_
  intro pg en s mm below meth cd hx hb hr hml hown hts hlk hF hR ls hl
  have hl : lv_has ls 6 [(0, .ref (ad 0)), (1, .int (v))] := hl
  have h30 := zlow_lt v (n := 30) (by decide)
  have hW := (zOK.w hO).2
  refine act_pre hG S v hO hx hb hml hown hts hF s.heap [] hR ls hl (fun ls H locs hR hl => ?_)
  refine lv_iload hx hb dL_act_65 (lv_at hl 0 rfl) ?_
  refine lv_bipush (v := (nI (8))) hx hb dL_act_67 (by decide) ?_
  refine z_ge_n (tgt := 123) hx hb dL_act_69 (by decide) (by omega) (by omega) (fun h69_1 => ?_) (fun h69_1 => by omega)
  refine lv_iload hx hb dL_act_123 (lv_at hl 0 rfl) ?_
  refine lv_bipush (v := (nI (13))) hx hb dL_act_125 (by decide) ?_
  refine z_ge_n (tgt := 138) hx hb dL_act_127 (by decide) (by omega) (by omega) (fun h127_2 => ?_) (fun h127_2 => by omega)
  refine lv_iload hx hb dL_act_138 (lv_at hl 0 rfl) ?_
  refine lv_bipush (v := (nI (17))) hx hb dL_act_140 (by decide) ?_
  refine z_ge_n (tgt := 153) hx hb dL_act_142 (by decide) (by omega) (by omega) (fun h142_3 => ?_) (fun h142_3 => by omega)
  refine lv_iload hx hb dL_act_153 (lv_at hl 0 rfl) ?_
  refine lv_bipush (v := (nI (22))) hx hb dL_act_155 (by decide) ?_
  refine z_ge_n (tgt := 169) hx hb dL_act_157 (by decide) (by omega) (by omega) (fun h157_4 => ?_) (fun h157_4 => by omega)
  refine lv_iload hx hb dL_act_169 (lv_at hl 0 rfl) ?_
  refine lv_bipush (v := (nI (24))) hx hb dL_act_171 (by decide) ?_
  refine z_ge_n (tgt := 185) hx hb dL_act_173 (by decide) (by omega) (by omega) (fun h173_5 => ?_) (fun h173_5 => by omega)
  refine lv_iload hx hb dL_act_185 (lv_at hl 0 rfl) ?_
  refine lv_bipush (v := (nI (26))) hx hb dL_act_187 (by decide) ?_
  refine z_ge_n (tgt := 200) hx hb dL_act_189 (by decide) (by omega) (by omega) (fun h189_6 => ?_) (fun h189_6 => by omega)
  refine lv_iload hx hb dL_act_200 (lv_at hl 0 rfl) ?_
  refine lv_bipush (v := (nI (28))) hx hb dL_act_202 (by decide) ?_
  refine z_ge_n (tgt := 239) hx hb dL_act_204 (by decide) (by omega) (by omega) (fun h204_7 => ?_) (fun h204_7 => by omega)
  refine lv_iload hx hb dL_act_239 (lv_at hl 0 rfl) ?_
  refine lv_bipush (v := (nI (28))) hx hb dL_act_241 (by decide) ?_
  refine z_ne_n (tgt := 274) hx hb dL_act_243 (by decide) (by omega) (by omega) (fun h243_8 => by omega) (fun h243_8 => ?_)
  refine lv_iload_n hx hb dL_act_246 rfl (lv_at hl 5 rfl) ?_
  refine lv_bipush (v := (nI (9))) hx hb dL_act_247 (by decide) ?_
  refine lv_ishr hx hb dL_act_249 ?_
  refine lv_iconst (v := (nI (2))) hx hb dL_act_250 (by decide) ?_
  refine z_callS_i (As := [.int (zsh (v) 9), .int (nI (2))]) (rest := []) (w := wX cI cZ ad) ⟨hx, hb, hml, hown, hts⟩ hF hR (c_L_low hG S ((zsh (v) 9)) 2 (by omega) (by omega)) (va_cwS 2 hts gL_act_L_low rfl rfl rfl (by decide +kernel) ⟨Nat.le_of_ble_eq_true rfl, Nat.le_of_ble_eq_true rfl⟩) rfl hl rfl (Nat.le_of_ble_eq_true rfl) (by decide) dL_act_251 (fun r9 S9 H locs hp9 hR => ?_)
  obtain ⟨hr9, hs9⟩ := hp9
  subst r9
  subst S9
  refine z_if_ne_n (tgt := 267) hx hb dL_act_254 (by decide) (zlow_lt2 _ _) (fun h254_10 => ?_) (fun h254_10 => absurd h254_10 h9)
  refine lv_aload_n hx hb dL_act_267 rfl (lv_at hl 4 rfl) ?_
  refine z_callV_i (As := []) (rest := []) (w := wX cI cZ ad) ⟨hx, hb, hml, hown, hts⟩ hF hR (c_X4_crash hG S hO) (cwV 0 hts gL_act_X4_crash rfl rfl rfl (by decide +kernel) ⟨Nat.le_of_ble_eq_true rfl, Nat.le_of_ble_eq_true rfl⟩) (wX_c0 S) rfl rfl rfl hl rfl (Nat.le_of_ble_eq_true rfl) (by decide) dL_act_268 (fun r11 S11 H locs hp11 hR => ?_)
  obtain ⟨hr11, hs11⟩ := hp11
  subst r11
  subst S11
  refine lv_goto (tgt := 326) hx hb dL_act_271 (by decide) ?_
  exact z_iret (w := wX cI cZ ad) (S1 := (sp_sa S (zn S 22 0))) hx hb hr hlk hF hR dL_act_326 (⟨rfl, rfl⟩)
set_option maxHeartbeats 4000000 in
set_option maxRecDepth 100000 in
theorem a_pump_ok_0 {l : Launch} {D : va_G} {cI cZ : ClassId} {ad : Nat → Nat} {B : Nat → Prop} (hG : ∀ S : zS, va_D B (wX cI cZ ad S)) (hfl : l.stackTraces = false) (S : zS) (v : Int32) (hO : zOK S) (hh1 : 26 ≤ zlow v 30) (hh2 : zlow v 30 < 28) (hd : a_d v = 0) (hv : 1 ≤ (1 + zlow (zsh v 6) 4)) (hv2 : (1 + zlow (zsh v 6) 4) ≤ 20) : zMC 0 0 l yL_act wsL_act ({ frames := 9, cells := 0, slots := 0, locals := 204 } : Room) [.ref (ad 0), .int (v)] D (zT cI cZ) B (wX cI cZ ad) S (fun (r : Int32) (S1 : zS) => r = (nI (sp_pmc S (1 + zlow (zsh v 6) 4))) ∧ S1 = sp_pm S (1 + zlow (zsh v 6) 4)) := by
  refine zMC_ofP (cc := cL_act) (maxL := 6) (ret := (some .int)) (by decide) rfl (Nat.le_of_ble_eq_true rfl) ?_
  intro pg en s mm below meth cd hx hb hr hml hown hts hlk hF hR ls hl
  have hl : lv_has ls 6 [(0, .ref (ad 0)), (1, .int (v))] := hl
  have h30 := zlow_lt v (n := 30) (by decide)
  have hW := (zOK.w hO).2
  refine act_pre hG S v hO hx hb hml hown hts hF s.heap [] hR ls hl (fun ls H locs hR hl => ?_)
  refine lv_iload hx hb dL_act_65 (lv_at hl 0 rfl) ?_
  refine lv_bipush (v := (nI (8))) hx hb dL_act_67 (by decide) ?_
  refine z_ge_n (tgt := 123) hx hb dL_act_69 (by decide) (by omega) (by omega) (fun h69_1 => ?_) (fun h69_1 => by omega)
  refine lv_iload hx hb dL_act_123 (lv_at hl 0 rfl) ?_
  refine lv_bipush (v := (nI (13))) hx hb dL_act_125 (by decide) ?_
  refine z_ge_n (tgt := 138) hx hb dL_act_127 (by decide) (by omega) (by omega) (fun h127_2 => ?_) (fun h127_2 => by omega)
  refine lv_iload hx hb dL_act_138 (lv_at hl 0 rfl) ?_
  refine lv_bipush (v := (nI (17))) hx hb dL_act_140 (by decide) ?_
  refine z_ge_n (tgt := 153) hx hb dL_act_142 (by decide) (by omega) (by omega) (fun h142_3 => ?_) (fun h142_3 => by omega)
  refine lv_iload hx hb dL_act_153 (lv_at hl 0 rfl) ?_
  refine lv_bipush (v := (nI (22))) hx hb dL_act_155 (by decide) ?_
  refine z_ge_n (tgt := 169) hx hb dL_act_157 (by decide) (by omega) (by omega) (fun h157_4 => ?_) (fun h157_4 => by omega)
  refine lv_iload hx hb dL_act_169 (lv_at hl 0 rfl) ?_
  refine lv_bipush (v := (nI (24))) hx hb dL_act_171 (by decide) ?_
  refine z_ge_n (tgt := 185) hx hb dL_act_173 (by decide) (by omega) (by omega) (fun h173_5 => ?_) (fun h173_5 => by omega)
  refine lv_iload hx hb dL_act_185 (lv_at hl 0 rfl) ?_
  refine lv_bipush (v := (nI (26))) hx hb dL_act_187 (by decide) ?_
  refine z_ge_n (tgt := 200) hx hb dL_act_189 (by decide) (by omega) (by omega) (fun h189_6 => ?_) (fun h189_6 => by omega)
  refine lv_iload hx hb dL_act_200 (lv_at hl 0 rfl) ?_
  refine lv_bipush (v := (nI (28))) hx hb dL_act_202 (by decide) ?_
  refine z_ge_n (tgt := 239) hx hb dL_act_204 (by decide) (by omega) (by omega) (fun h204_7 => by omega) (fun h204_7 => ?_)
  refine lv_aload_n hx hb dL_act_207 rfl (lv_at hl 4 rfl) ?_
  refine lv_iconst (v := (nI (0))) hx hb dL_act_208 (by decide) ?_
  refine lv_iload_n hx hb dL_act_209 rfl (lv_at hl 3 rfl) ?_
  refine z_if_eq_n (tgt := 225) hx hb dL_act_210 (by decide) (by omega) (fun h210_8 => ?_) (fun h210_8 => by omega)
  refine lv_iconst (v := (nI (1))) hx hb dL_act_225 (by decide) ?_
  refine lv_iload_n hx hb dL_act_226 rfl (lv_at hl 5 rfl) ?_
  refine lv_bipush (v := (nI (6))) hx hb dL_act_227 (by decide) ?_
  refine lv_ishr hx hb dL_act_229 ?_
  refine lv_iconst (v := (nI (4))) hx hb dL_act_230 (by decide) ?_
  refine z_callS_i (As := [.int (zsh (v) 6), .int (nI (4))]) (rest := [.int (nI (1)), .int (nI (0)), .ref (ad 0)]) (w := wX cI cZ ad) ⟨hx, hb, hml, hown, hts⟩ hF hR (c_L_low hG S ((zsh (v) 6)) 4 (by omega) (by omega)) (va_cwS 2 hts gL_act_L_low rfl rfl rfl (by decide +kernel) ⟨Nat.le_of_ble_eq_true rfl, Nat.le_of_ble_eq_true rfl⟩) rfl hl rfl (Nat.le_of_ble_eq_true rfl) (by decide) dL_act_231 (fun r9 S9 H locs hp9 hR => ?_)
  obtain ⟨hr9, hs9⟩ := hp9
  subst r9
  subst S9
  refine z_iadd_n hx hb dL_act_234 ?_
  refine z_callSW_i (As := [.ref (ad 0), .int (nI (0)), .int (nI (1 + (zlow ((zsh (v) 6)) 4)))]) (rest := []) (w := wX cI cZ ad) ⟨hx, hb, hml, hown, hts⟩ hF hR (o_goes_pump_ok hG hfl S (1 + zlow (zsh v 6) 4) hO hv hv2) (vx_cwSW 3 hts gL_act_L_goes rfl rfl rfl (by decide +kernel) ⟨Nat.le_of_ble_eq_true rfl, Nat.le_of_ble_eq_true rfl⟩) rfl hl rfl (Nat.le_of_ble_eq_true rfl) ⟨Nat.le_of_ble_eq_true rfl, Nat.le_of_ble_eq_true rfl⟩ dL_act_235 (fun r10 S10 H locs hp10 hR => ?_)
  obtain ⟨hr10, hs10⟩ := hp10
  subst r10
  subst S10
  exact z_iret (w := wX cI cZ ad) (S1 := (sp_pm S (1 + zlow (zsh v 6) 4))) hx hb hr hlk hF hR dL_act_238 (⟨rfl, rfl⟩)
set_option maxHeartbeats 4000000 in
set_option maxRecDepth 100000 in
theorem a_pump_e1_1 {l : Launch} {D : va_G} {cI cZ : ClassId} {ad : Nat → Nat} {B : Nat → Prop} (hG : ∀ S : zS, va_D B (wX cI cZ ad S)) (hfl : l.stackTraces = false) (S : zS) (v : Int32) (hO : zOK S) (hh1 : 26 ≤ zlow v 30) (hh2 : zlow v 30 < 28) (hd : a_d v = 1) (hz : zbadv (nI (zlow (zsh v 6) 30)) 1 20) : zMC 1 6 l yL_act wsL_act ({ frames := 9, cells := 1, slots := 6, locals := 204 } : Room) [.ref (ad 0), .int (v)] D (zT cI cZ) B (wX cI cZ ad) S (fun (r : Int32) (S1 : zS) => r = ((-99999)) ∧ S1 = S) := by
  refine zMC_ofP (cc := cL_act) (maxL := 6) (ret := (some .int)) (by decide) rfl (Nat.le_of_ble_eq_true rfl) ?_
  intro pg en s mm below meth cd hx hb hr hml hown hts hlk hF hR ls hl
  have hl : lv_has ls 6 [(0, .ref (ad 0)), (1, .int (v))] := hl
  have h30 := zlow_lt v (n := 30) (by decide)
  have hW := (zOK.w hO).2
  refine act_pre hG S v hO hx hb hml hown hts hF s.heap [] hR ls hl (fun ls H locs hR hl => ?_)
  refine lv_iload hx hb dL_act_65 (lv_at hl 0 rfl) ?_
  refine lv_bipush (v := (nI (8))) hx hb dL_act_67 (by decide) ?_
  refine z_ge_n (tgt := 123) hx hb dL_act_69 (by decide) (by omega) (by omega) (fun h69_1 => ?_) (fun h69_1 => by omega)
  refine lv_iload hx hb dL_act_123 (lv_at hl 0 rfl) ?_
  refine lv_bipush (v := (nI (13))) hx hb dL_act_125 (by decide) ?_
  refine z_ge_n (tgt := 138) hx hb dL_act_127 (by decide) (by omega) (by omega) (fun h127_2 => ?_) (fun h127_2 => by omega)
  refine lv_iload hx hb dL_act_138 (lv_at hl 0 rfl) ?_
  refine lv_bipush (v := (nI (17))) hx hb dL_act_140 (by decide) ?_
  refine z_ge_n (tgt := 153) hx hb dL_act_142 (by decide) (by omega) (by omega) (fun h142_3 => ?_) (fun h142_3 => by omega)
  refine lv_iload hx hb dL_act_153 (lv_at hl 0 rfl) ?_
  refine lv_bipush (v := (nI (22))) hx hb dL_act_155 (by decide) ?_
  refine z_ge_n (tgt := 169) hx hb dL_act_157 (by decide) (by omega) (by omega) (fun h157_4 => ?_) (fun h157_4 => by omega)
  refine lv_iload hx hb dL_act_169 (lv_at hl 0 rfl) ?_
  refine lv_bipush (v := (nI (24))) hx hb dL_act_171 (by decide) ?_
  refine z_ge_n (tgt := 185) hx hb dL_act_173 (by decide) (by omega) (by omega) (fun h173_5 => ?_) (fun h173_5 => by omega)
  refine lv_iload hx hb dL_act_185 (lv_at hl 0 rfl) ?_
  refine lv_bipush (v := (nI (26))) hx hb dL_act_187 (by decide) ?_
  refine z_ge_n (tgt := 200) hx hb dL_act_189 (by decide) (by omega) (by omega) (fun h189_6 => ?_) (fun h189_6 => by omega)
  refine lv_iload hx hb dL_act_200 (lv_at hl 0 rfl) ?_
  refine lv_bipush (v := (nI (28))) hx hb dL_act_202 (by decide) ?_
  refine z_ge_n (tgt := 239) hx hb dL_act_204 (by decide) (by omega) (by omega) (fun h204_7 => by omega) (fun h204_7 => ?_)
  refine lv_aload_n hx hb dL_act_207 rfl (lv_at hl 4 rfl) ?_
  refine lv_iconst (v := (nI (0))) hx hb dL_act_208 (by decide) ?_
  refine lv_iload_n hx hb dL_act_209 rfl (lv_at hl 3 rfl) ?_
  refine z_if_eq_n (tgt := 225) hx hb dL_act_210 (by decide) (by omega) (fun h210_8 => by omega) (fun h210_8 => ?_)
  refine lv_iload_n hx hb dL_act_213 rfl (lv_at hl 5 rfl) ?_
  refine lv_bipush (v := (nI (6))) hx hb dL_act_214 (by decide) ?_
  refine lv_ishr hx hb dL_act_216 ?_
  refine lv_bipush (v := (nI (30))) hx hb dL_act_217 (by decide) ?_
  refine z_callS_i (As := [.int (zsh (v) 6), .int (nI (30))]) (rest := [.int (nI (0)), .ref (ad 0)]) (w := wX cI cZ ad) ⟨hx, hb, hml, hown, hts⟩ hF hR (c_L_low hG S ((zsh (v) 6)) 30 (by omega) (by omega)) (va_cwS 2 hts gL_act_L_low rfl rfl rfl (by decide +kernel) ⟨Nat.le_of_ble_eq_true rfl, Nat.le_of_ble_eq_true rfl⟩) rfl hl rfl (Nat.le_of_ble_eq_true rfl) (by decide) dL_act_219 (fun r9 S9 H locs hp9 hR => ?_)
  obtain ⟨hr9, hs9⟩ := hp9
  subst r9
  subst S9
  refine lv_goto (tgt := 235) hx hb dL_act_222 (by decide) ?_
  refine z_callSW_i (As := [.ref (ad 0), .int (nI (0)), .int (nI (zlow ((zsh (v) 6)) 30))]) (rest := []) (w := wX cI cZ ad) ⟨hx, hb, hml, hown, hts⟩ hF hR (o_goes_pump_e1 hG hfl S (nI (zlow (zsh v 6) 30)) hO hz) (vx_cwSW 3 hts gL_act_L_goes rfl rfl rfl (by decide +kernel) ⟨Nat.le_of_ble_eq_true rfl, Nat.le_of_ble_eq_true rfl⟩) rfl hl rfl (Nat.le_of_ble_eq_true rfl) ⟨Nat.le_of_ble_eq_true rfl, Nat.le_of_ble_eq_true rfl⟩ dL_act_235 (fun r10 S10 H locs hp10 hR => ?_)
  obtain ⟨hr10, hs10⟩ := hp10
  subst r10
  subst S10
  exact z_iret (w := wX cI cZ ad) (S1 := S) hx hb hr hlk hF hR dL_act_238 (⟨rfl, rfl⟩)
set_option maxHeartbeats 4000000 in
set_option maxRecDepth 100000 in
theorem a_pump_ok_1 {l : Launch} {D : va_G} {cI cZ : ClassId} {ad : Nat → Nat} {B : Nat → Prop} (hG : ∀ S : zS, va_D B (wX cI cZ ad S)) (hfl : l.stackTraces = false) (S : zS) (v : Int32) (hO : zOK S) (hh1 : 26 ≤ zlow v 30) (hh2 : zlow v 30 < 28) (hd : a_d v = 1) (hv : 1 ≤ (zlow (zsh v 6) 30)) (hv2 : (zlow (zsh v 6) 30) ≤ 20) : zMC 0 0 l yL_act wsL_act ({ frames := 9, cells := 0, slots := 0, locals := 204 } : Room) [.ref (ad 0), .int (v)] D (zT cI cZ) B (wX cI cZ ad) S (fun (r : Int32) (S1 : zS) => r = (nI (sp_pmc S (zlow (zsh v 6) 30))) ∧ S1 = sp_pm S (zlow (zsh v 6) 30)) := by
  refine zMC_ofP (cc := cL_act) (maxL := 6) (ret := (some .int)) (by decide) rfl (Nat.le_of_ble_eq_true rfl) ?_
  intro pg en s mm below meth cd hx hb hr hml hown hts hlk hF hR ls hl
  have hl : lv_has ls 6 [(0, .ref (ad 0)), (1, .int (v))] := hl
  have h30 := zlow_lt v (n := 30) (by decide)
  have hW := (zOK.w hO).2
  refine act_pre hG S v hO hx hb hml hown hts hF s.heap [] hR ls hl (fun ls H locs hR hl => ?_)
  refine lv_iload hx hb dL_act_65 (lv_at hl 0 rfl) ?_
  refine lv_bipush (v := (nI (8))) hx hb dL_act_67 (by decide) ?_
  refine z_ge_n (tgt := 123) hx hb dL_act_69 (by decide) (by omega) (by omega) (fun h69_1 => ?_) (fun h69_1 => by omega)
  refine lv_iload hx hb dL_act_123 (lv_at hl 0 rfl) ?_
  refine lv_bipush (v := (nI (13))) hx hb dL_act_125 (by decide) ?_
  refine z_ge_n (tgt := 138) hx hb dL_act_127 (by decide) (by omega) (by omega) (fun h127_2 => ?_) (fun h127_2 => by omega)
  refine lv_iload hx hb dL_act_138 (lv_at hl 0 rfl) ?_
  refine lv_bipush (v := (nI (17))) hx hb dL_act_140 (by decide) ?_
  refine z_ge_n (tgt := 153) hx hb dL_act_142 (by decide) (by omega) (by omega) (fun h142_3 => ?_) (fun h142_3 => by omega)
  refine lv_iload hx hb dL_act_153 (lv_at hl 0 rfl) ?_
  refine lv_bipush (v := (nI (22))) hx hb dL_act_155 (by decide) ?_
  refine z_ge_n (tgt := 169) hx hb dL_act_157 (by decide) (by omega) (by omega) (fun h157_4 => ?_) (fun h157_4 => by omega)
  refine lv_iload hx hb dL_act_169 (lv_at hl 0 rfl) ?_
  refine lv_bipush (v := (nI (24))) hx hb dL_act_171 (by decide) ?_
  refine z_ge_n (tgt := 185) hx hb dL_act_173 (by decide) (by omega) (by omega) (fun h173_5 => ?_) (fun h173_5 => by omega)
  refine lv_iload hx hb dL_act_185 (lv_at hl 0 rfl) ?_
  refine lv_bipush (v := (nI (26))) hx hb dL_act_187 (by decide) ?_
  refine z_ge_n (tgt := 200) hx hb dL_act_189 (by decide) (by omega) (by omega) (fun h189_6 => ?_) (fun h189_6 => by omega)
  refine lv_iload hx hb dL_act_200 (lv_at hl 0 rfl) ?_
  refine lv_bipush (v := (nI (28))) hx hb dL_act_202 (by decide) ?_
  refine z_ge_n (tgt := 239) hx hb dL_act_204 (by decide) (by omega) (by omega) (fun h204_7 => by omega) (fun h204_7 => ?_)
  refine lv_aload_n hx hb dL_act_207 rfl (lv_at hl 4 rfl) ?_
  refine lv_iconst (v := (nI (0))) hx hb dL_act_208 (by decide) ?_
  refine lv_iload_n hx hb dL_act_209 rfl (lv_at hl 3 rfl) ?_
  refine z_if_eq_n (tgt := 225) hx hb dL_act_210 (by decide) (by omega) (fun h210_8 => by omega) (fun h210_8 => ?_)
  refine lv_iload_n hx hb dL_act_213 rfl (lv_at hl 5 rfl) ?_
  refine lv_bipush (v := (nI (6))) hx hb dL_act_214 (by decide) ?_
  refine lv_ishr hx hb dL_act_216 ?_
  refine lv_bipush (v := (nI (30))) hx hb dL_act_217 (by decide) ?_
  refine z_callS_i (As := [.int (zsh (v) 6), .int (nI (30))]) (rest := [.int (nI (0)), .ref (ad 0)]) (w := wX cI cZ ad) ⟨hx, hb, hml, hown, hts⟩ hF hR (c_L_low hG S ((zsh (v) 6)) 30 (by omega) (by omega)) (va_cwS 2 hts gL_act_L_low rfl rfl rfl (by decide +kernel) ⟨Nat.le_of_ble_eq_true rfl, Nat.le_of_ble_eq_true rfl⟩) rfl hl rfl (Nat.le_of_ble_eq_true rfl) (by decide) dL_act_219 (fun r9 S9 H locs hp9 hR => ?_)
  obtain ⟨hr9, hs9⟩ := hp9
  subst r9
  subst S9
  refine lv_goto (tgt := 235) hx hb dL_act_222 (by decide) ?_
  refine z_callSW_i (As := [.ref (ad 0), .int (nI (0)), .int (nI (zlow ((zsh (v) 6)) 30))]) (rest := []) (w := wX cI cZ ad) ⟨hx, hb, hml, hown, hts⟩ hF hR (o_goes_pump_ok hG hfl S (zlow (zsh v 6) 30) hO hv hv2) (vx_cwSW 3 hts gL_act_L_goes rfl rfl rfl (by decide +kernel) ⟨Nat.le_of_ble_eq_true rfl, Nat.le_of_ble_eq_true rfl⟩) rfl hl rfl (Nat.le_of_ble_eq_true rfl) ⟨Nat.le_of_ble_eq_true rfl, Nat.le_of_ble_eq_true rfl⟩ dL_act_235 (fun r10 S10 H locs hp10 hR => ?_)
  obtain ⟨hr10, hs10⟩ := hp10
  subst r10
  subst S10
  exact z_iret (w := wX cI cZ ad) (S1 := (sp_pm S (zlow (zsh v 6) 30))) hx hb hr hlk hF hR dL_act_238 (⟨rfl, rfl⟩)
set_option maxHeartbeats 4000000 in
set_option maxRecDepth 100000 in
theorem a_rescale_ok_0 {l : Launch} {D : va_G} {cI cZ : ClassId} {ad : Nat → Nat} {B : Nat → Prop} (hG : ∀ S : zS, va_D B (wX cI cZ ad S)) (hfl : l.stackTraces = false) (S : zS) (v : Int32) (hO : zOK S) (hh : zlow v 30 = 29) (h10 : zlow (zsh v 10) 3 = 0) (hd : a_d v = 0) (hv : 1 ≤ (1 + zlow (zsh v 6) 4)) (hv2 : (1 + zlow (zsh v 6) 4) ≤ 4) : zMC 0 0 l yL_act wsL_act ({ frames := 9, cells := 0, slots := 0, locals := 204 } : Room) [.ref (ad 0), .int (v)] D (zT cI cZ) B (wX cI cZ ad) S (fun (r : Int32) (S1 : zS) => r = (nI (sp_mg (1 + zlow (zsh v 6) 4) (zn S 22 0) 8)) ∧ S1 = sp_sa S (1 + zlow (zsh v 6) 4)) := by
  refine zMC_ofP (cc := cL_act) (maxL := 6) (ret := (some .int)) (by decide) rfl (Nat.le_of_ble_eq_true rfl) ?_
  intro pg en s mm below meth cd hx hb hr hml hown hts hlk hF hR ls hl
  have hl : lv_has ls 6 [(0, .ref (ad 0)), (1, .int (v))] := hl
  have h30 := zlow_lt v (n := 30) (by decide)
  have hW := (zOK.w hO).2
  refine act_pre hG S v hO hx hb hml hown hts hF s.heap [] hR ls hl (fun ls H locs hR hl => ?_)
  refine lv_iload hx hb dL_act_65 (lv_at hl 0 rfl) ?_
  refine lv_bipush (v := (nI (8))) hx hb dL_act_67 (by decide) ?_
  refine z_ge_n (tgt := 123) hx hb dL_act_69 (by decide) (by omega) (by omega) (fun h69_1 => ?_) (fun h69_1 => by omega)
  refine lv_iload hx hb dL_act_123 (lv_at hl 0 rfl) ?_
  refine lv_bipush (v := (nI (13))) hx hb dL_act_125 (by decide) ?_
  refine z_ge_n (tgt := 138) hx hb dL_act_127 (by decide) (by omega) (by omega) (fun h127_2 => ?_) (fun h127_2 => by omega)
  refine lv_iload hx hb dL_act_138 (lv_at hl 0 rfl) ?_
  refine lv_bipush (v := (nI (17))) hx hb dL_act_140 (by decide) ?_
  refine z_ge_n (tgt := 153) hx hb dL_act_142 (by decide) (by omega) (by omega) (fun h142_3 => ?_) (fun h142_3 => by omega)
  refine lv_iload hx hb dL_act_153 (lv_at hl 0 rfl) ?_
  refine lv_bipush (v := (nI (22))) hx hb dL_act_155 (by decide) ?_
  refine z_ge_n (tgt := 169) hx hb dL_act_157 (by decide) (by omega) (by omega) (fun h157_4 => ?_) (fun h157_4 => by omega)
  refine lv_iload hx hb dL_act_169 (lv_at hl 0 rfl) ?_
  refine lv_bipush (v := (nI (24))) hx hb dL_act_171 (by decide) ?_
  refine z_ge_n (tgt := 185) hx hb dL_act_173 (by decide) (by omega) (by omega) (fun h173_5 => ?_) (fun h173_5 => by omega)
  refine lv_iload hx hb dL_act_185 (lv_at hl 0 rfl) ?_
  refine lv_bipush (v := (nI (26))) hx hb dL_act_187 (by decide) ?_
  refine z_ge_n (tgt := 200) hx hb dL_act_189 (by decide) (by omega) (by omega) (fun h189_6 => ?_) (fun h189_6 => by omega)
  refine lv_iload hx hb dL_act_200 (lv_at hl 0 rfl) ?_
  refine lv_bipush (v := (nI (28))) hx hb dL_act_202 (by decide) ?_
  refine z_ge_n (tgt := 239) hx hb dL_act_204 (by decide) (by omega) (by omega) (fun h204_7 => ?_) (fun h204_7 => by omega)
  refine lv_iload hx hb dL_act_239 (lv_at hl 0 rfl) ?_
  refine lv_bipush (v := (nI (28))) hx hb dL_act_241 (by decide) ?_
  refine z_ne_n (tgt := 274) hx hb dL_act_243 (by decide) (by omega) (by omega) (fun h243_8 => ?_) (fun h243_8 => by omega)
  refine lv_iload_n hx hb dL_act_274 rfl (lv_at hl 5 rfl) ?_
  refine lv_bipush (v := (nI (10))) hx hb dL_act_275 (by decide) ?_
  refine lv_ishr hx hb dL_act_277 ?_
  refine lv_iconst (v := (nI (3))) hx hb dL_act_278 (by decide) ?_
  refine z_callS_i (As := [.int (zsh (v) 10), .int (nI (3))]) (rest := []) (w := wX cI cZ ad) ⟨hx, hb, hml, hown, hts⟩ hF hR (c_L_low hG S ((zsh (v) 10)) 3 (by omega) (by omega)) (va_cwS 2 hts gL_act_L_low rfl rfl rfl (by decide +kernel) ⟨Nat.le_of_ble_eq_true rfl, Nat.le_of_ble_eq_true rfl⟩) rfl hl rfl (Nat.le_of_ble_eq_true rfl) (by decide) dL_act_279 (fun r9 S9 H locs hp9 hR => ?_)
  obtain ⟨hr9, hs9⟩ := hp9
  subst r9
  subst S9
  refine z_if_ne_n (tgt := 319) hx hb dL_act_282 (by decide) (zlow_lt2 _ _) (fun h282_10 => absurd h10 h282_10) (fun h282_10 => ?_)
  refine lv_aload_n hx hb dL_act_285 rfl (lv_at hl 4 rfl) ?_
  refine lv_iconst (v := (nI (1))) hx hb dL_act_286 (by decide) ?_
  refine lv_iload_n hx hb dL_act_287 rfl (lv_at hl 3 rfl) ?_
  refine z_if_eq_n (tgt := 303) hx hb dL_act_288 (by decide) (by omega) (fun h288_11 => ?_) (fun h288_11 => by omega)
  refine lv_iconst (v := (nI (1))) hx hb dL_act_303 (by decide) ?_
  refine lv_iload_n hx hb dL_act_304 rfl (lv_at hl 5 rfl) ?_
  refine lv_bipush (v := (nI (6))) hx hb dL_act_305 (by decide) ?_
  refine lv_ishr hx hb dL_act_307 ?_
  refine lv_iconst (v := (nI (4))) hx hb dL_act_308 (by decide) ?_
  refine z_callS_i (As := [.int (zsh (v) 6), .int (nI (4))]) (rest := [.int (nI (1)), .int (nI (1)), .ref (ad 0)]) (w := wX cI cZ ad) ⟨hx, hb, hml, hown, hts⟩ hF hR (c_L_low hG S ((zsh (v) 6)) 4 (by omega) (by omega)) (va_cwS 2 hts gL_act_L_low rfl rfl rfl (by decide +kernel) ⟨Nat.le_of_ble_eq_true rfl, Nat.le_of_ble_eq_true rfl⟩) rfl hl rfl (Nat.le_of_ble_eq_true rfl) (by decide) dL_act_309 (fun r12 S12 H locs hp12 hR => ?_)
  obtain ⟨hr12, hs12⟩ := hp12
  subst r12
  subst S12
  refine z_iadd_n hx hb dL_act_312 ?_
  refine z_callSW_i (As := [.ref (ad 0), .int (nI (1)), .int (nI (1 + (zlow ((zsh (v) 6)) 4)))]) (rest := []) (w := wX cI cZ ad) ⟨hx, hb, hml, hown, hts⟩ hF hR (o_goes_rescale_ok hG hfl S (1 + zlow (zsh v 6) 4) hO hv hv2) (vx_cwSW 3 hts gL_act_L_goes rfl rfl rfl (by decide +kernel) ⟨Nat.le_of_ble_eq_true rfl, Nat.le_of_ble_eq_true rfl⟩) rfl hl rfl (Nat.le_of_ble_eq_true rfl) ⟨Nat.le_of_ble_eq_true rfl, Nat.le_of_ble_eq_true rfl⟩ dL_act_313 (fun r13 S13 H locs hp13 hR => ?_)
  obtain ⟨hr13, hs13⟩ := hp13
  subst r13
  subst S13
  refine lv_goto (tgt := 326) hx hb dL_act_316 (by decide) ?_
  exact z_iret (w := wX cI cZ ad) (S1 := (sp_sa S (1 + zlow (zsh v 6) 4))) hx hb hr hlk hF hR dL_act_326 (⟨rfl, rfl⟩)
set_option maxHeartbeats 4000000 in
set_option maxRecDepth 100000 in
theorem a_rescale_e1_1 {l : Launch} {D : va_G} {cI cZ : ClassId} {ad : Nat → Nat} {B : Nat → Prop} (hG : ∀ S : zS, va_D B (wX cI cZ ad S)) (hfl : l.stackTraces = false) (S : zS) (v : Int32) (hO : zOK S) (hh : zlow v 30 = 29) (h10 : zlow (zsh v 10) 3 = 0) (hd : a_d v = 1) (hz : zbadv (nI (zlow (zsh v 6) 8)) 1 4) : zMC 1 6 l yL_act wsL_act ({ frames := 9, cells := 1, slots := 6, locals := 204 } : Room) [.ref (ad 0), .int (v)] D (zT cI cZ) B (wX cI cZ ad) S (fun (r : Int32) (S1 : zS) => r = ((-99999)) ∧ S1 = S) := by
  refine zMC_ofP (cc := cL_act) (maxL := 6) (ret := (some .int)) (by decide) rfl (Nat.le_of_ble_eq_true rfl) ?_
  intro pg en s mm below meth cd hx hb hr hml hown hts hlk hF hR ls hl
  have hl : lv_has ls 6 [(0, .ref (ad 0)), (1, .int (v))] := hl
  have h30 := zlow_lt v (n := 30) (by decide)
  have hW := (zOK.w hO).2
  refine act_pre hG S v hO hx hb hml hown hts hF s.heap [] hR ls hl (fun ls H locs hR hl => ?_)
  refine lv_iload hx hb dL_act_65 (lv_at hl 0 rfl) ?_
  refine lv_bipush (v := (nI (8))) hx hb dL_act_67 (by decide) ?_
  refine z_ge_n (tgt := 123) hx hb dL_act_69 (by decide) (by omega) (by omega) (fun h69_1 => ?_) (fun h69_1 => by omega)
  refine lv_iload hx hb dL_act_123 (lv_at hl 0 rfl) ?_
  refine lv_bipush (v := (nI (13))) hx hb dL_act_125 (by decide) ?_
  refine z_ge_n (tgt := 138) hx hb dL_act_127 (by decide) (by omega) (by omega) (fun h127_2 => ?_) (fun h127_2 => by omega)
  refine lv_iload hx hb dL_act_138 (lv_at hl 0 rfl) ?_
  refine lv_bipush (v := (nI (17))) hx hb dL_act_140 (by decide) ?_
  refine z_ge_n (tgt := 153) hx hb dL_act_142 (by decide) (by omega) (by omega) (fun h142_3 => ?_) (fun h142_3 => by omega)
  refine lv_iload hx hb dL_act_153 (lv_at hl 0 rfl) ?_
  refine lv_bipush (v := (nI (22))) hx hb dL_act_155 (by decide) ?_
  refine z_ge_n (tgt := 169) hx hb dL_act_157 (by decide) (by omega) (by omega) (fun h157_4 => ?_) (fun h157_4 => by omega)
  refine lv_iload hx hb dL_act_169 (lv_at hl 0 rfl) ?_
  refine lv_bipush (v := (nI (24))) hx hb dL_act_171 (by decide) ?_
  refine z_ge_n (tgt := 185) hx hb dL_act_173 (by decide) (by omega) (by omega) (fun h173_5 => ?_) (fun h173_5 => by omega)
  refine lv_iload hx hb dL_act_185 (lv_at hl 0 rfl) ?_
  refine lv_bipush (v := (nI (26))) hx hb dL_act_187 (by decide) ?_
  refine z_ge_n (tgt := 200) hx hb dL_act_189 (by decide) (by omega) (by omega) (fun h189_6 => ?_) (fun h189_6 => by omega)
  refine lv_iload hx hb dL_act_200 (lv_at hl 0 rfl) ?_
  refine lv_bipush (v := (nI (28))) hx hb dL_act_202 (by decide) ?_
  refine z_ge_n (tgt := 239) hx hb dL_act_204 (by decide) (by omega) (by omega) (fun h204_7 => ?_) (fun h204_7 => by omega)
  refine lv_iload hx hb dL_act_239 (lv_at hl 0 rfl) ?_
  refine lv_bipush (v := (nI (28))) hx hb dL_act_241 (by decide) ?_
  refine z_ne_n (tgt := 274) hx hb dL_act_243 (by decide) (by omega) (by omega) (fun h243_8 => ?_) (fun h243_8 => by omega)
  refine lv_iload_n hx hb dL_act_274 rfl (lv_at hl 5 rfl) ?_
  refine lv_bipush (v := (nI (10))) hx hb dL_act_275 (by decide) ?_
  refine lv_ishr hx hb dL_act_277 ?_
  refine lv_iconst (v := (nI (3))) hx hb dL_act_278 (by decide) ?_
  refine z_callS_i (As := [.int (zsh (v) 10), .int (nI (3))]) (rest := []) (w := wX cI cZ ad) ⟨hx, hb, hml, hown, hts⟩ hF hR (c_L_low hG S ((zsh (v) 10)) 3 (by omega) (by omega)) (va_cwS 2 hts gL_act_L_low rfl rfl rfl (by decide +kernel) ⟨Nat.le_of_ble_eq_true rfl, Nat.le_of_ble_eq_true rfl⟩) rfl hl rfl (Nat.le_of_ble_eq_true rfl) (by decide) dL_act_279 (fun r9 S9 H locs hp9 hR => ?_)
  obtain ⟨hr9, hs9⟩ := hp9
  subst r9
  subst S9
  refine z_if_ne_n (tgt := 319) hx hb dL_act_282 (by decide) (zlow_lt2 _ _) (fun h282_10 => absurd h10 h282_10) (fun h282_10 => ?_)
  refine lv_aload_n hx hb dL_act_285 rfl (lv_at hl 4 rfl) ?_
  refine lv_iconst (v := (nI (1))) hx hb dL_act_286 (by decide) ?_
  refine lv_iload_n hx hb dL_act_287 rfl (lv_at hl 3 rfl) ?_
  refine z_if_eq_n (tgt := 303) hx hb dL_act_288 (by decide) (by omega) (fun h288_11 => by omega) (fun h288_11 => ?_)
  refine lv_iload_n hx hb dL_act_291 rfl (lv_at hl 5 rfl) ?_
  refine lv_bipush (v := (nI (6))) hx hb dL_act_292 (by decide) ?_
  refine lv_ishr hx hb dL_act_294 ?_
  refine lv_bipush (v := (nI (8))) hx hb dL_act_295 (by decide) ?_
  refine z_callS_i (As := [.int (zsh (v) 6), .int (nI (8))]) (rest := [.int (nI (1)), .ref (ad 0)]) (w := wX cI cZ ad) ⟨hx, hb, hml, hown, hts⟩ hF hR (c_L_low hG S ((zsh (v) 6)) 8 (by omega) (by omega)) (va_cwS 2 hts gL_act_L_low rfl rfl rfl (by decide +kernel) ⟨Nat.le_of_ble_eq_true rfl, Nat.le_of_ble_eq_true rfl⟩) rfl hl rfl (Nat.le_of_ble_eq_true rfl) (by decide) dL_act_297 (fun r12 S12 H locs hp12 hR => ?_)
  obtain ⟨hr12, hs12⟩ := hp12
  subst r12
  subst S12
  refine lv_goto (tgt := 313) hx hb dL_act_300 (by decide) ?_
  refine z_callSW_i (As := [.ref (ad 0), .int (nI (1)), .int (nI (zlow ((zsh (v) 6)) 8))]) (rest := []) (w := wX cI cZ ad) ⟨hx, hb, hml, hown, hts⟩ hF hR (o_goes_rescale_e1 hG hfl S (nI (zlow (zsh v 6) 8)) hO hz) (vx_cwSW 3 hts gL_act_L_goes rfl rfl rfl (by decide +kernel) ⟨Nat.le_of_ble_eq_true rfl, Nat.le_of_ble_eq_true rfl⟩) rfl hl rfl (Nat.le_of_ble_eq_true rfl) ⟨Nat.le_of_ble_eq_true rfl, Nat.le_of_ble_eq_true rfl⟩ dL_act_313 (fun r13 S13 H locs hp13 hR => ?_)
  obtain ⟨hr13, hs13⟩ := hp13
  subst r13
  subst S13
  refine lv_goto (tgt := 326) hx hb dL_act_316 (by decide) ?_
  exact z_iret (w := wX cI cZ ad) (S1 := S) hx hb hr hlk hF hR dL_act_326 (⟨rfl, rfl⟩)
set_option maxHeartbeats 4000000 in
set_option maxRecDepth 100000 in
theorem a_rescale_ok_1 {l : Launch} {D : va_G} {cI cZ : ClassId} {ad : Nat → Nat} {B : Nat → Prop} (hG : ∀ S : zS, va_D B (wX cI cZ ad S)) (hfl : l.stackTraces = false) (S : zS) (v : Int32) (hO : zOK S) (hh : zlow v 30 = 29) (h10 : zlow (zsh v 10) 3 = 0) (hd : a_d v = 1) (hv : 1 ≤ (zlow (zsh v 6) 8)) (hv2 : (zlow (zsh v 6) 8) ≤ 4) : zMC 0 0 l yL_act wsL_act ({ frames := 9, cells := 0, slots := 0, locals := 204 } : Room) [.ref (ad 0), .int (v)] D (zT cI cZ) B (wX cI cZ ad) S (fun (r : Int32) (S1 : zS) => r = (nI (sp_mg (zlow (zsh v 6) 8) (zn S 22 0) 8)) ∧ S1 = sp_sa S (zlow (zsh v 6) 8)) := by
  refine zMC_ofP (cc := cL_act) (maxL := 6) (ret := (some .int)) (by decide) rfl (Nat.le_of_ble_eq_true rfl) ?_
  intro pg en s mm below meth cd hx hb hr hml hown hts hlk hF hR ls hl
  have hl : lv_has ls 6 [(0, .ref (ad 0)), (1, .int (v))] := hl
  have h30 := zlow_lt v (n := 30) (by decide)
  have hW := (zOK.w hO).2
  refine act_pre hG S v hO hx hb hml hown hts hF s.heap [] hR ls hl (fun ls H locs hR hl => ?_)
  refine lv_iload hx hb dL_act_65 (lv_at hl 0 rfl) ?_
  refine lv_bipush (v := (nI (8))) hx hb dL_act_67 (by decide) ?_
  refine z_ge_n (tgt := 123) hx hb dL_act_69 (by decide) (by omega) (by omega) (fun h69_1 => ?_) (fun h69_1 => by omega)
  refine lv_iload hx hb dL_act_123 (lv_at hl 0 rfl) ?_
  refine lv_bipush (v := (nI (13))) hx hb dL_act_125 (by decide) ?_
  refine z_ge_n (tgt := 138) hx hb dL_act_127 (by decide) (by omega) (by omega) (fun h127_2 => ?_) (fun h127_2 => by omega)
  refine lv_iload hx hb dL_act_138 (lv_at hl 0 rfl) ?_
  refine lv_bipush (v := (nI (17))) hx hb dL_act_140 (by decide) ?_
  refine z_ge_n (tgt := 153) hx hb dL_act_142 (by decide) (by omega) (by omega) (fun h142_3 => ?_) (fun h142_3 => by omega)
  refine lv_iload hx hb dL_act_153 (lv_at hl 0 rfl) ?_
  refine lv_bipush (v := (nI (22))) hx hb dL_act_155 (by decide) ?_
  refine z_ge_n (tgt := 169) hx hb dL_act_157 (by decide) (by omega) (by omega) (fun h157_4 => ?_) (fun h157_4 => by omega)
  refine lv_iload hx hb dL_act_169 (lv_at hl 0 rfl) ?_
  refine lv_bipush (v := (nI (24))) hx hb dL_act_171 (by decide) ?_
  refine z_ge_n (tgt := 185) hx hb dL_act_173 (by decide) (by omega) (by omega) (fun h173_5 => ?_) (fun h173_5 => by omega)
  refine lv_iload hx hb dL_act_185 (lv_at hl 0 rfl) ?_
  refine lv_bipush (v := (nI (26))) hx hb dL_act_187 (by decide) ?_
  refine z_ge_n (tgt := 200) hx hb dL_act_189 (by decide) (by omega) (by omega) (fun h189_6 => ?_) (fun h189_6 => by omega)
  refine lv_iload hx hb dL_act_200 (lv_at hl 0 rfl) ?_
  refine lv_bipush (v := (nI (28))) hx hb dL_act_202 (by decide) ?_
  refine z_ge_n (tgt := 239) hx hb dL_act_204 (by decide) (by omega) (by omega) (fun h204_7 => ?_) (fun h204_7 => by omega)
  refine lv_iload hx hb dL_act_239 (lv_at hl 0 rfl) ?_
  refine lv_bipush (v := (nI (28))) hx hb dL_act_241 (by decide) ?_
  refine z_ne_n (tgt := 274) hx hb dL_act_243 (by decide) (by omega) (by omega) (fun h243_8 => ?_) (fun h243_8 => by omega)
  refine lv_iload_n hx hb dL_act_274 rfl (lv_at hl 5 rfl) ?_
  refine lv_bipush (v := (nI (10))) hx hb dL_act_275 (by decide) ?_
  refine lv_ishr hx hb dL_act_277 ?_
  refine lv_iconst (v := (nI (3))) hx hb dL_act_278 (by decide) ?_
  refine z_callS_i (As := [.int (zsh (v) 10), .int (nI (3))]) (rest := []) (w := wX cI cZ ad) ⟨hx, hb, hml, hown, hts⟩ hF hR (c_L_low hG S ((zsh (v) 10)) 3 (by omega) (by omega)) (va_cwS 2 hts gL_act_L_low rfl rfl rfl (by decide +kernel) ⟨Nat.le_of_ble_eq_true rfl, Nat.le_of_ble_eq_true rfl⟩) rfl hl rfl (Nat.le_of_ble_eq_true rfl) (by decide) dL_act_279 (fun r9 S9 H locs hp9 hR => ?_)
  obtain ⟨hr9, hs9⟩ := hp9
  subst r9
  subst S9
  refine z_if_ne_n (tgt := 319) hx hb dL_act_282 (by decide) (zlow_lt2 _ _) (fun h282_10 => absurd h10 h282_10) (fun h282_10 => ?_)
  refine lv_aload_n hx hb dL_act_285 rfl (lv_at hl 4 rfl) ?_
  refine lv_iconst (v := (nI (1))) hx hb dL_act_286 (by decide) ?_
  refine lv_iload_n hx hb dL_act_287 rfl (lv_at hl 3 rfl) ?_
  refine z_if_eq_n (tgt := 303) hx hb dL_act_288 (by decide) (by omega) (fun h288_11 => by omega) (fun h288_11 => ?_)
  refine lv_iload_n hx hb dL_act_291 rfl (lv_at hl 5 rfl) ?_
  refine lv_bipush (v := (nI (6))) hx hb dL_act_292 (by decide) ?_
  refine lv_ishr hx hb dL_act_294 ?_
  refine lv_bipush (v := (nI (8))) hx hb dL_act_295 (by decide) ?_
  refine z_callS_i (As := [.int (zsh (v) 6), .int (nI (8))]) (rest := [.int (nI (1)), .ref (ad 0)]) (w := wX cI cZ ad) ⟨hx, hb, hml, hown, hts⟩ hF hR (c_L_low hG S ((zsh (v) 6)) 8 (by omega) (by omega)) (va_cwS 2 hts gL_act_L_low rfl rfl rfl (by decide +kernel) ⟨Nat.le_of_ble_eq_true rfl, Nat.le_of_ble_eq_true rfl⟩) rfl hl rfl (Nat.le_of_ble_eq_true rfl) (by decide) dL_act_297 (fun r12 S12 H locs hp12 hR => ?_)
  obtain ⟨hr12, hs12⟩ := hp12
  subst r12
  subst S12
  refine lv_goto (tgt := 313) hx hb dL_act_300 (by decide) ?_
  refine z_callSW_i (As := [.ref (ad 0), .int (nI (1)), .int (nI (zlow ((zsh (v) 6)) 8))]) (rest := []) (w := wX cI cZ ad) ⟨hx, hb, hml, hown, hts⟩ hF hR (o_goes_rescale_ok hG hfl S (zlow (zsh v 6) 8) hO hv hv2) (vx_cwSW 3 hts gL_act_L_goes rfl rfl rfl (by decide +kernel) ⟨Nat.le_of_ble_eq_true rfl, Nat.le_of_ble_eq_true rfl⟩) rfl hl rfl (Nat.le_of_ble_eq_true rfl) ⟨Nat.le_of_ble_eq_true rfl, Nat.le_of_ble_eq_true rfl⟩ dL_act_313 (fun r13 S13 H locs hp13 hR => ?_)
  obtain ⟨hr13, hs13⟩ := hp13
  subst r13
  subst S13
  refine lv_goto (tgt := 326) hx hb dL_act_316 (by decide) ?_
  exact z_iret (w := wX cI cZ ad) (S1 := (sp_sa S (zlow (zsh v 6) 8))) hx hb hr hlk hF hR dL_act_326 (⟨rfl, rfl⟩)
