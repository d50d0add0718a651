def zn (S : zS) (k i : Nat) : Nat := (S k i).toNatClampNeg
/-- every number of the row is a count, at most n -/
def zNb (f : Nat → Int32) (n : Nat) : Prop := ∀ i, f i = nI (f i).toNatClampNeg ∧ (f i).toNatClampNeg ≤ n
def zBb (f : Nat → Int32) : Prop := ∀ i, f i = nI 0 ∨ f i = nI 1
def zIb (f : Nat → Int32) : Prop := ∀ i, (f i).toInt ≤ 31100
/-- what the walks need of a state -/
def zOK (S : zS) : Prop := zNb (S 0) 60 ∧ zNb (S 1) 31100 ∧ zNb (S 2) 60 ∧ zNb (S 3) 60 ∧ zBb (S 4) ∧ zNb (S 5) 60 ∧ zIb (S 6) ∧ zNb (S 7) 8 ∧ zBb (S 8) ∧ (S 22 0 = nI (zn S 22 0) ∧ 1 ≤ zn S 22 0 ∧ zn S 22 0 ≤ 4)
theorem zOK.n0 {S : zS} (h : zOK S) (i : Nat) : S 0 i = nI (zn S 0 i) ∧ zn S 0 i ≤ 60 := h.1 i
theorem zOK.n1 {S : zS} (h : zOK S) (i : Nat) : S 1 i = nI (zn S 1 i) ∧ zn S 1 i ≤ 31100 := h.2.1 i
theorem zOK.n2 {S : zS} (h : zOK S) (i : Nat) : S 2 i = nI (zn S 2 i) ∧ zn S 2 i ≤ 60 := h.2.2.1 i
theorem zOK.n3 {S : zS} (h : zOK S) (i : Nat) : S 3 i = nI (zn S 3 i) ∧ zn S 3 i ≤ 60 := h.2.2.2.1 i
theorem zOK.b4 {S : zS} (h : zOK S) (i : Nat) : S 4 i = nI 0 ∨ S 4 i = nI 1 := h.2.2.2.2.1 i
theorem zOK.n5 {S : zS} (h : zOK S) (i : Nat) : S 5 i = nI (zn S 5 i) ∧ zn S 5 i ≤ 60 := h.2.2.2.2.2.1 i
theorem zOK.i6 {S : zS} (h : zOK S) (i : Nat) : (S 6 i).toInt ≤ 31100 := h.2.2.2.2.2.2.1 i
theorem zOK.n7 {S : zS} (h : zOK S) (i : Nat) : S 7 i = nI (zn S 7 i) ∧ zn S 7 i ≤ 8 := h.2.2.2.2.2.2.2.1 i
theorem zOK.b8 {S : zS} (h : zOK S) (i : Nat) : S 8 i = nI 0 ∨ S 8 i = nI 1 := h.2.2.2.2.2.2.2.2.1 i
theorem zOK.w {S : zS} (h : zOK S) : S 22 0 = nI (zn S 22 0) ∧ 1 ≤ zn S 22 0 ∧ zn S 22 0 ≤ 4 := h.2.2.2.2.2.2.2.2.2
theorem nI_cl {n : Nat} (h : n ≤ 31100) : (nI n).toNatClampNeg = n := nI_clamp (Nat.lt_of_le_of_lt h (by decide))
/-- a positive item is an event -/
theorem zOK.pos {S : zS} (h : zOK S) {i : Nat} (hp : 0 < S 6 i) : S 6 i = nI (zn S 6 i) ∧ zn S 6 i ≤ 31100 := by
  have h1 := h.i6 i
  have h2 : (0 : Int) < (S 6 i).toInt := by
    have := Int32.lt_iff_toInt_lt.mp hp
    simpa using this
  have h3 : (zn S 6 i : Int) = (S 6 i).toInt := by
    unfold zn Int32.toNatClampNeg
    omega
  refine ⟨?_, by omega⟩
  apply Int32.toInt_inj.mp
  rw [nI_toInt (by omega)]
  exact h3.symm
theorem zNb_upd {f : Nat → Int32} {n i m : Nat} (h : zNb f n) (hm : m ≤ n) (hn : n ≤ 31100) : zNb (upd f i (nI m)) n := by
  intro j
  by_cases hj : j = i
  · subst hj
    rw [pk_us, nI_cl (Nat.le_trans hm hn)]
    exact ⟨rfl, hm⟩
  · rw [pk_un hj]
    exact h j
theorem zBb_upd {f : Nat → Int32} {i : Nat} {x : Int32} (h : zBb f) (hx : x = nI 0 ∨ x = nI 1) : zBb (upd f i x) := by
  intro j
  by_cases hj : j = i
  · subst hj
    rw [pk_us]
    exact hx
  · rw [pk_un hj]
    exact h j
theorem zIb_upd {f : Nat → Int32} {i : Nat} {x : Int32} (h : zIb f) (hx : x.toInt ≤ 31100) : zIb (upd f i x) := by
  intro j
  by_cases hj : j = i
  · subst hj
    rw [pk_us]
    exact hx
  · rw [pk_un hj]
    exact h j
theorem zU_s {S : zS} {k : Nat} {f : Nat → Int32} : zU S k f k = f := if_pos rfl
theorem zU_n {S : zS} {k j : Nat} {f : Nat → Int32} (h : j ≠ k) : zU S k f j = S j := if_neg h
theorem zU_U (S : zS) (k : Nat) (f g : Nat → Int32) : zU (zU S k f) k g = zU S k g := by
  funext j
  simp only [zU]
  split <;> rfl
theorem zU_self (S : zS) (k : Nat) : zU S k (S k) = S := by
  funext j
  simp only [zU]
  split
  · rename_i h; rw [h]
  · rfl
theorem z_inc (a : Nat) : nI a + Int32.ofInt 1 = nI (a + 1) := nI_add a 1
theorem z_dec (a : Nat) : nI (a + 1) + Int32.ofInt (-1) = nI a := pk_m1 a
theorem z_bool {x : Int32} (h : x = nI 0 ∨ x = nI 1) : (x = nI 1 ∧ x = nI 1) ∨ (¬ x = nI 1 ∧ x = nI 0) := by
  rcases h with h | h
  · exact Or.inr ⟨by rw [h]; decide, h⟩
  · exact Or.inl ⟨h, h⟩
section ZIF
variable {p : Program} {l : Launch} {e : Env} {R : Room} {s : State} {m : MethodId} {args : Array Value} {below : List Frame} {meth : Method} {c : Code} {H : Heap} {locs : List Loc} {cells slots : Nat} {Q : State → Prop}
variable {cc : ByteArray} {pc : Nat} {ls : Array Slot} {rest : List Value}
theorem z_if_eq_n {x : Nat} {off : Int} {tgt : Nat} (hx : p.tables.exec = Jvm.exec) (hb : c.code = cc) (hdg : decode cc pc = .ok (.ifCond .eq off, 3)) (ht : (pc : Int) + off = (tgt : Int)) (h1 : x < 2 ^ 31) (kt : x = 0 → W p l e R s m args below meth c H locs cells slots Q (F0 m tgt ls rest)) (kf : ¬ x = 0 → W p l e R s m args below meth c H locs cells slots Q (F0 m (pc + 3) ls rest)) : W p l e R s m args below meth c H locs cells slots Q (F0 m pc ls (.int (nI x) :: rest)) :=
  lv_if_eq hx hb hdg ht (fun h => kt ((nI_eq h1 (by decide)).mp (h.trans nI_0.symm))) (fun h => kf (fun q => h (by rw [q]; exact nI_0)))
theorem z_if_ne_n {x : Nat} {off : Int} {tgt : Nat} (hx : p.tables.exec = Jvm.exec) (hb : c.code = cc) (hdg : decode cc pc = .ok (.ifCond .ne off, 3)) (ht : (pc : Int) + off = (tgt : Int)) (h1 : x < 2 ^ 31) (kt : ¬ x = 0 → W p l e R s m args below meth c H locs cells slots Q (F0 m tgt ls rest)) (kf : x = 0 → W p l e R s m args below meth c H locs cells slots Q (F0 m (pc + 3) ls rest)) : W p l e R s m args below meth c H locs cells slots Q (F0 m pc ls (.int (nI x) :: rest)) :=
  lv_if_ne hx hb hdg ht (fun h => kt (fun q => h (by rw [q]; exact nI_0))) (fun h => kf ((nI_eq h1 (by decide)).mp (h.trans nI_0.symm)))
theorem z_if_le_n {x : Nat} {off : Int} {tgt : Nat} (hx : p.tables.exec = Jvm.exec) (hb : c.code = cc) (hdg : decode cc pc = .ok (.ifCond .le off, 3)) (ht : (pc : Int) + off = (tgt : Int)) (h1 : x < 2 ^ 31) (kt : x = 0 → W p l e R s m args below meth c H locs cells slots Q (F0 m tgt ls rest)) (kf : 0 < x → W p l e R s m args below meth c H locs cells slots Q (F0 m (pc + 3) ls rest)) : W p l e R s m args below meth c H locs cells slots Q (F0 m pc ls (.int (nI x) :: rest)) :=
  lv_if_le hx hb hdg ht (fun h => kt (by rw [← nI_0] at h; have := (nI_leI h1 (by decide)).mp h; omega)) (fun h => kf (Nat.pos_of_ne_zero (fun q => h (by rw [q]; exact Int32.le_refl _))))
theorem z_if_lt_n {x : Nat} {off : Int} {tgt : Nat} (hx : p.tables.exec = Jvm.exec) (hb : c.code = cc) (hdg : decode cc pc = .ok (.ifCond .lt off, 3)) (ht : (pc : Int) + off = (tgt : Int)) (h1 : x < 2 ^ 31) (kt : False → W p l e R s m args below meth c H locs cells slots Q (F0 m tgt ls rest)) (kf : True → W p l e R s m args below meth c H locs cells slots Q (F0 m (pc + 3) ls rest)) : W p l e R s m args below meth c H locs cells slots Q (F0 m pc ls (.int (nI x) :: rest)) :=
  lv_if_lt hx hb hdg ht (fun h => kt (nI_pos h1 h)) (fun h => kf trivial)
theorem z_if_ge_n {x : Nat} {off : Int} {tgt : Nat} (hx : p.tables.exec = Jvm.exec) (hb : c.code = cc) (hdg : decode cc pc = .ok (.ifCond .ge off, 3)) (ht : (pc : Int) + off = (tgt : Int)) (h1 : x < 2 ^ 31) (kt : True → W p l e R s m args below meth c H locs cells slots Q (F0 m tgt ls rest)) (kf : False → W p l e R s m args below meth c H locs cells slots Q (F0 m (pc + 3) ls rest)) : W p l e R s m args below meth c H locs cells slots Q (F0 m pc ls (.int (nI x) :: rest)) :=
  lv_if_ge hx hb hdg ht (fun h => kt trivial) (fun h => kf (h (nI_pos' h1)))
end ZIF
section ZAL
variable {p : Program} {l : Launch} {e : Env} {R : Room} {s : State} {m : MethodId} {args : Array Value} {below : List Frame} {meth : Method} {c : Code} {H : Heap} {locs : List Loc} {cells slots : Nat} {Q : State → Prop}
variable {cc : ByteArray} {pc : Nat} {ls : Array Slot} {rest : List Value} {D : va_G} {tys : List (ClassId × FieldType)} {B : Nat → Prop} {W0 : va_W}
theorem z_alen_n {q0 t0 : Nat} {a : Nat} {cA : ClassId} {n : Nat} {f : Nat → Int32} {ty : FieldType} (hx : p.tables.exec = Jvm.exec) (hb : c.code = cc) (hF : zF D tys B s) (hR : zR D B W0 s H locs) (ha : W0[q0]? = some (a, .inl (cA, n, .inl f))) (ht : tys[t0]? = some (cA, ty)) (hdg : decode cc pc = .ok (.arraylength, 1))
    (kk : W p l e R s m args below meth c H locs cells slots Q (F0 m (pc + 1) ls (.int (nI n) :: rest))) : W p l e R s m args below meth c H locs cells slots Q (F0 m pc ls (.ref a :: rest)) :=
  va_alen hx hb hF.1 hR.1 q0 t0 ha ht rfl hdg kk
end ZAL
def zT (cI cZ : ClassId) : List (ClassId × FieldType) := [(cI, .int), (cZ, .boolean)]
theorem zT_0 {cI cZ : ClassId} : (zT cI cZ)[0]? = some (cI, .int) := rfl
theorem zT_1 {cI cZ : ClassId} : (zT cI cZ)[1]? = some (cZ, .boolean) := rfl
def wX (cI cZ : ClassId) (ad : Nat → Nat) (S : zS) : va_W := [(ad 0, .inr (4, [.ref (ad 1), .ref (ad 4), .ref (ad 9), .ref (ad 13), .ref (ad 16), .ref (ad 19), .ref (ad 22), .ref (ad 25), .ref (ad 28), .ref (ad 31), .int (S 22 0), .int (S 22 1), .int (S 22 2), .int (S 22 3)])), (ad 1, .inr (1, [.ref (ad 2), .ref (ad 3)])), (ad 2, .inl (cI, 4, .inl (S 0))), (ad 3, .inl (cI, 240, .inl (S 1))), (ad 4, .inr (2, [.ref (ad 5), .ref (ad 6), .ref (ad 7), .ref (ad 8)])), (ad 5, .inl (cI, 4, .inl (S 2))), (ad 6, .inl (cI, 4, .inl (S 3))), (ad 7, .inl (cZ, 4, .inl (S 4))), (ad 8, .inl (cI, 4, .inl (S 5))), (ad 9, .inr (0, [.ref (ad 10), .ref (ad 11), .ref (ad 12)])), (ad 10, .inl (cI, 128, .inl (S 6))), (ad 11, .inl (cI, 16, .inl (S 7))), (ad 12, .inl (cZ, 16, .inl (S 8))), (ad 13, .inr (3, [.ref (ad 14), .ref (ad 15)])), (ad 14, .inl (cI, 32, .inl (S 9))), (ad 15, .inl (cI, 32, .inl (S 10))), (ad 16, .inr (3, [.ref (ad 17), .ref (ad 18)])), (ad 17, .inl (cI, 32, .inl (S 11))), (ad 18, .inl (cI, 32, .inl (S 12))), (ad 19, .inr (3, [.ref (ad 20), .ref (ad 21)])), (ad 20, .inl (cI, 32, .inl (S 13))), (ad 21, .inl (cI, 32, .inl (S 14))), (ad 22, .inr (3, [.ref (ad 23), .ref (ad 24)])), (ad 23, .inl (cI, 32, .inl (S 15))), (ad 24, .inl (cI, 32, .inl (S 16))), (ad 25, .inr (3, [.ref (ad 26), .ref (ad 27)])), (ad 26, .inl (cI, 32, .inl (S 17))), (ad 27, .inl (cI, 32, .inl (S 18))), (ad 28, .inr (3, [.ref (ad 29), .ref (ad 30)])), (ad 29, .inl (cI, 32, .inl (S 19))), (ad 30, .inl (cI, 32, .inl (S 20))), (ad 31, .inl (cI, 4, .inl (S 21)))]
section ZwX
variable {cI cZ : ClassId} {ad : Nat → Nat}
theorem wX_c0 (S : zS) : (wX cI cZ ad S)[0]? = some (ad 0, .inr (4, [.ref (ad 1), .ref (ad 4), .ref (ad 9), .ref (ad 13), .ref (ad 16), .ref (ad 19), .ref (ad 22), .ref (ad 25), .ref (ad 28), .ref (ad 31), .int (S 22 0), .int (S 22 1), .int (S 22 2), .int (S 22 3)])) := rfl
theorem wX_c1 (S : zS) : (wX cI cZ ad S)[1]? = some (ad 1, .inr (1, [.ref (ad 2), .ref (ad 3)])) := rfl
theorem wX_c2 (S : zS) : (wX cI cZ ad S)[2]? = some (ad 2, .inl (cI, 4, .inl (S 0))) := rfl
theorem wX_s0 (S : zS) (f : Nat → Int32) : (wX cI cZ ad S).set 2 (ad 2, .inl (cI, 4, .inl f)) = wX cI cZ ad (zU S 0 f) := rfl
theorem wX_c3 (S : zS) : (wX cI cZ ad S)[3]? = some (ad 3, .inl (cI, 240, .inl (S 1))) := rfl
theorem wX_s1 (S : zS) (f : Nat → Int32) : (wX cI cZ ad S).set 3 (ad 3, .inl (cI, 240, .inl f)) = wX cI cZ ad (zU S 1 f) := rfl
theorem wX_c4 (S : zS) : (wX cI cZ ad S)[4]? = some (ad 4, .inr (2, [.ref (ad 5), .ref (ad 6), .ref (ad 7), .ref (ad 8)])) := rfl
theorem wX_c5 (S : zS) : (wX cI cZ ad S)[5]? = some (ad 5, .inl (cI, 4, .inl (S 2))) := rfl
theorem wX_s2 (S : zS) (f : Nat → Int32) : (wX cI cZ ad S).set 5 (ad 5, .inl (cI, 4, .inl f)) = wX cI cZ ad (zU S 2 f) := rfl
theorem wX_c6 (S : zS) : (wX cI cZ ad S)[6]? = some (ad 6, .inl (cI, 4, .inl (S 3))) := rfl
theorem wX_s3 (S : zS) (f : Nat → Int32) : (wX cI cZ ad S).set 6 (ad 6, .inl (cI, 4, .inl f)) = wX cI cZ ad (zU S 3 f) := rfl
theorem wX_c7 (S : zS) : (wX cI cZ ad S)[7]? = some (ad 7, .inl (cZ, 4, .inl (S 4))) := rfl
theorem wX_s4 (S : zS) (f : Nat → Int32) : (wX cI cZ ad S).set 7 (ad 7, .inl (cZ, 4, .inl f)) = wX cI cZ ad (zU S 4 f) := rfl
theorem wX_c8 (S : zS) : (wX cI cZ ad S)[8]? = some (ad 8, .inl (cI, 4, .inl (S 5))) := rfl
theorem wX_s5 (S : zS) (f : Nat → Int32) : (wX cI cZ ad S).set 8 (ad 8, .inl (cI, 4, .inl f)) = wX cI cZ ad (zU S 5 f) := rfl
theorem wX_c9 (S : zS) : (wX cI cZ ad S)[9]? = some (ad 9, .inr (0, [.ref (ad 10), .ref (ad 11), .ref (ad 12)])) := rfl
theorem wX_c10 (S : zS) : (wX cI cZ ad S)[10]? = some (ad 10, .inl (cI, 128, .inl (S 6))) := rfl
theorem wX_s6 (S : zS) (f : Nat → Int32) : (wX cI cZ ad S).set 10 (ad 10, .inl (cI, 128, .inl f)) = wX cI cZ ad (zU S 6 f) := rfl
theorem wX_c11 (S : zS) : (wX cI cZ ad S)[11]? = some (ad 11, .inl (cI, 16, .inl (S 7))) := rfl
theorem wX_s7 (S : zS) (f : Nat → Int32) : (wX cI cZ ad S).set 11 (ad 11, .inl (cI, 16, .inl f)) = wX cI cZ ad (zU S 7 f) := rfl
theorem wX_c12 (S : zS) : (wX cI cZ ad S)[12]? = some (ad 12, .inl (cZ, 16, .inl (S 8))) := rfl
theorem wX_s8 (S : zS) (f : Nat → Int32) : (wX cI cZ ad S).set 12 (ad 12, .inl (cZ, 16, .inl f)) = wX cI cZ ad (zU S 8 f) := rfl
theorem wX_c13 (S : zS) : (wX cI cZ ad S)[13]? = some (ad 13, .inr (3, [.ref (ad 14), .ref (ad 15)])) := rfl
theorem wX_c14 (S : zS) : (wX cI cZ ad S)[14]? = some (ad 14, .inl (cI, 32, .inl (S 9))) := rfl
theorem wX_s9 (S : zS) (f : Nat → Int32) : (wX cI cZ ad S).set 14 (ad 14, .inl (cI, 32, .inl f)) = wX cI cZ ad (zU S 9 f) := rfl
theorem wX_c15 (S : zS) : (wX cI cZ ad S)[15]? = some (ad 15, .inl (cI, 32, .inl (S 10))) := rfl
theorem wX_s10 (S : zS) (f : Nat → Int32) : (wX cI cZ ad S).set 15 (ad 15, .inl (cI, 32, .inl f)) = wX cI cZ ad (zU S 10 f) := rfl
theorem wX_c16 (S : zS) : (wX cI cZ ad S)[16]? = some (ad 16, .inr (3, [.ref (ad 17), .ref (ad 18)])) := rfl
theorem wX_c17 (S : zS) : (wX cI cZ ad S)[17]? = some (ad 17, .inl (cI, 32, .inl (S 11))) := rfl
theorem wX_s11 (S : zS) (f : Nat → Int32) : (wX cI cZ ad S).set 17 (ad 17, .inl (cI, 32, .inl f)) = wX cI cZ ad (zU S 11 f) := rfl
theorem wX_c18 (S : zS) : (wX cI cZ ad S)[18]? = some (ad 18, .inl (cI, 32, .inl (S 12))) := rfl
theorem wX_s12 (S : zS) (f : Nat → Int32) : (wX cI cZ ad S).set 18 (ad 18, .inl (cI, 32, .inl f)) = wX cI cZ ad (zU S 12 f) := rfl
theorem wX_c19 (S : zS) : (wX cI cZ ad S)[19]? = some (ad 19, .inr (3, [.ref (ad 20), .ref (ad 21)])) := rfl
theorem wX_c20 (S : zS) : (wX cI cZ ad S)[20]? = some (ad 20, .inl (cI, 32, .inl (S 13))) := rfl
theorem wX_s13 (S : zS) (f : Nat → Int32) : (wX cI cZ ad S).set 20 (ad 20, .inl (cI, 32, .inl f)) = wX cI cZ ad (zU S 13 f) := rfl
theorem wX_c21 (S : zS) : (wX cI cZ ad S)[21]? = some (ad 21, .inl (cI, 32, .inl (S 14))) := rfl
theorem wX_s14 (S : zS) (f : Nat → Int32) : (wX cI cZ ad S).set 21 (ad 21, .inl (cI, 32, .inl f)) = wX cI cZ ad (zU S 14 f) := rfl
theorem wX_c22 (S : zS) : (wX cI cZ ad S)[22]? = some (ad 22, .inr (3, [.ref (ad 23), .ref (ad 24)])) := rfl
theorem wX_c23 (S : zS) : (wX cI cZ ad S)[23]? = some (ad 23, .inl (cI, 32, .inl (S 15))) := rfl
theorem wX_s15 (S : zS) (f : Nat → Int32) : (wX cI cZ ad S).set 23 (ad 23, .inl (cI, 32, .inl f)) = wX cI cZ ad (zU S 15 f) := rfl
theorem wX_c24 (S : zS) : (wX cI cZ ad S)[24]? = some (ad 24, .inl (cI, 32, .inl (S 16))) := rfl
theorem wX_s16 (S : zS) (f : Nat → Int32) : (wX cI cZ ad S).set 24 (ad 24, .inl (cI, 32, .inl f)) = wX cI cZ ad (zU S 16 f) := rfl
theorem wX_c25 (S : zS) : (wX cI cZ ad S)[25]? = some (ad 25, .inr (3, [.ref (ad 26), .ref (ad 27)])) := rfl
theorem wX_c26 (S : zS) : (wX cI cZ ad S)[26]? = some (ad 26, .inl (cI, 32, .inl (S 17))) := rfl
theorem wX_s17 (S : zS) (f : Nat → Int32) : (wX cI cZ ad S).set 26 (ad 26, .inl (cI, 32, .inl f)) = wX cI cZ ad (zU S 17 f) := rfl
theorem wX_c27 (S : zS) : (wX cI cZ ad S)[27]? = some (ad 27, .inl (cI, 32, .inl (S 18))) := rfl
theorem wX_s18 (S : zS) (f : Nat → Int32) : (wX cI cZ ad S).set 27 (ad 27, .inl (cI, 32, .inl f)) = wX cI cZ ad (zU S 18 f) := rfl
theorem wX_c28 (S : zS) : (wX cI cZ ad S)[28]? = some (ad 28, .inr (3, [.ref (ad 29), .ref (ad 30)])) := rfl
theorem wX_c29 (S : zS) : (wX cI cZ ad S)[29]? = some (ad 29, .inl (cI, 32, .inl (S 19))) := rfl
theorem wX_s19 (S : zS) (f : Nat → Int32) : (wX cI cZ ad S).set 29 (ad 29, .inl (cI, 32, .inl f)) = wX cI cZ ad (zU S 19 f) := rfl
theorem wX_c30 (S : zS) : (wX cI cZ ad S)[30]? = some (ad 30, .inl (cI, 32, .inl (S 20))) := rfl
theorem wX_s20 (S : zS) (f : Nat → Int32) : (wX cI cZ ad S).set 30 (ad 30, .inl (cI, 32, .inl f)) = wX cI cZ ad (zU S 20 f) := rfl
theorem wX_c31 (S : zS) : (wX cI cZ ad S)[31]? = some (ad 31, .inl (cI, 4, .inl (S 21))) := rfl
theorem wX_s21 (S : zS) (f : Nat → Int32) : (wX cI cZ ad S).set 31 (ad 31, .inl (cI, 4, .inl f)) = wX cI cZ ad (zU S 21 f) := rfl
theorem wX_p0 (S : zS) (x : Int32) : (wX cI cZ ad S).set 0 (ad 0, .inr (4, [.ref (ad 1), .ref (ad 4), .ref (ad 9), .ref (ad 13), .ref (ad 16), .ref (ad 19), .ref (ad 22), .ref (ad 25), .ref (ad 28), .ref (ad 31), .int (S 22 0), .int (S 22 1), .int (S 22 2), .int (S 22 3)].set 10 (.int x))) = wX cI cZ ad (zU S 22 (upd (S 22) 0 x)) := rfl
theorem wX_p1 (S : zS) (x : Int32) : (wX cI cZ ad S).set 0 (ad 0, .inr (4, [.ref (ad 1), .ref (ad 4), .ref (ad 9), .ref (ad 13), .ref (ad 16), .ref (ad 19), .ref (ad 22), .ref (ad 25), .ref (ad 28), .ref (ad 31), .int (S 22 0), .int (S 22 1), .int (S 22 2), .int (S 22 3)].set 11 (.int x))) = wX cI cZ ad (zU S 22 (upd (S 22) 1 x)) := rfl
theorem wX_p2 (S : zS) (x : Int32) : (wX cI cZ ad S).set 0 (ad 0, .inr (4, [.ref (ad 1), .ref (ad 4), .ref (ad 9), .ref (ad 13), .ref (ad 16), .ref (ad 19), .ref (ad 22), .ref (ad 25), .ref (ad 28), .ref (ad 31), .int (S 22 0), .int (S 22 1), .int (S 22 2), .int (S 22 3)].set 12 (.int x))) = wX cI cZ ad (zU S 22 (upd (S 22) 2 x)) := rfl
theorem wX_p3 (S : zS) (x : Int32) : (wX cI cZ ad S).set 0 (ad 0, .inr (4, [.ref (ad 1), .ref (ad 4), .ref (ad 9), .ref (ad 13), .ref (ad 16), .ref (ad 19), .ref (ad 22), .ref (ad 25), .ref (ad 28), .ref (ad 31), .int (S 22 0), .int (S 22 1), .int (S 22 2), .int (S 22 3)].set 13 (.int x))) = wX cI cZ ad (zU S 22 (upd (S 22) 3 x)) := rfl
end ZwX
