/-! p36: sums over events and items, as counts; the invariant of the state -/
def q_e (e key : Nat) : Nat := if e / 1000 = key then e % 1000 else 0
def q_s (g : Nat → Int32) (key b : Nat) : Nat → Nat
  | 0 => 0
  | j + 1 => q_s g key b j + q_e (g (b + j)).toNatClampNeg key
theorem q_s_s (g : Nat → Int32) (key b j : Nat) : q_s g key b (j + 1) = q_s g key b j + q_e (g (b + j)).toNatClampNeg key := rfl
theorem q_e_0 (key : Nat) : q_e 0 key = 0 := by
  unfold q_e
  split <;> rfl
theorem q_neg {x : Int32} (h : x.toInt ≤ 0) : x.toNatClampNeg = 0 := by
  unfold Int32.toNatClampNeg
  omega
theorem q_npos {x : Int32} (h : ¬ 0 < x) : x.toInt ≤ 0 := by
  rw [Int32.lt_iff_toInt_lt] at h
  simp only [Int32.toInt_zero] at h
  omega
theorem q_s_congr {f g : Nat → Int32} {key b d : Nat} : ∀ {n : Nat}, (∀ i, i < n → f (b + i) = g (d + i)) → q_s f key b n = q_s g key d n
  | 0, _ => rfl
  | n + 1, h => by rw [q_s_s, q_s_s, q_s_congr (fun i hi => h i (by omega)), h n (by omega)]
theorem q_s_front (g : Nat → Int32) (key b : Nat) : ∀ n, q_s g key b (n + 1) = q_e (g b).toNatClampNeg key + q_s g key (b + 1) n
  | 0 => by simp [q_s]
  | n + 1 => by
    rw [q_s_s, q_s_front g key b n, q_s_s, show b + 1 + n = b + (n + 1) from by omega]
    omega
theorem q_s_le {g : Nat → Int32} {key b : Nat} : ∀ {n : Nat}, (∀ i, i < n → (g (b + i)).toNatClampNeg % 1000 ≤ 100) → q_s g key b n ≤ 100 * n
  | 0, _ => Nat.le_refl 0
  | n + 1, h => by
    have h1 := q_s_le (key := key) (n := n) (fun i hi => h i (by omega))
    have h2 := h n (by omega)
    rw [q_s_s]
    unfold q_e
    split <;> omega
theorem q_s_z {g : Nat → Int32} {key b : Nat} : ∀ {n : Nat}, (∀ i, i < n → q_e (g (b + i)).toNatClampNeg key = 0) → q_s g key b n = 0
  | 0, _ => rfl
  | n + 1, h => by rw [q_s_s, q_s_z (fun i hi => h i (by omega)), h n (by omega)]
def q_m (F : Nat → Nat) : Nat → Nat
  | 0 => 0
  | n + 1 => q_m F n + F n
theorem q_m_s (F : Nat → Nat) (n : Nat) : q_m F (n + 1) = q_m F n + F n := rfl
theorem q_m_congr {F G : Nat → Nat} : ∀ {n : Nat}, (∀ i, i < n → F i = G i) → q_m F n = q_m G n
  | 0, _ => rfl
  | n + 1, h => by rw [q_m_s, q_m_s, q_m_congr (fun i hi => h i (by omega)), h n (by omega)]
theorem q_m_upd {F G : Nat → Nat} {k : Nat} : ∀ {n : Nat}, k < n → (∀ i, i < n → i ≠ k → F i = G i) → q_m F n + G k = q_m G n + F k
  | 0, h, _ => absurd h (Nat.not_lt_zero _)
  | n + 1, hk, h => by
    rw [q_m_s, q_m_s]
    by_cases e : k = n
    · subst e
      rw [q_m_congr (fun i hi => h i (by omega) (by omega))]
      omega
    · have h1 := q_m_upd (n := n) (by omega) (fun i hi he => h i (by omega) he)
      have h2 := h n (by omega) (fun z => e z.symm)
      omega
theorem q_m_le {F : Nat → Nat} {B : Nat} : ∀ {n : Nat}, (∀ i, i < n → F i ≤ B) → q_m F n ≤ B * n
  | 0, _ => Nat.le_refl 0
  | n + 1, h => by
    have h1 := q_m_le (n := n) (fun i hi => h i (by omega))
    have h2 := h n (by omega)
    rw [q_m_s, Nat.mul_succ]
    omega
theorem q_m_get {F : Nat → Nat} {k : Nat} : ∀ {n : Nat}, k < n → F k ≤ q_m F n
  | 0, h => absurd h (Nat.not_lt_zero _)
  | n + 1, hk => by
    rw [q_m_s]
    by_cases e : k = n
    · subst e; omega
    · have := q_m_get (F := F) (n := n) (k := k) (by omega)
      omega
/-- what a channel has of a key; what all have; what the first o p events of the partitions have -/
abbrev q_C (S : zS) (key c : Nat) : Nat := q_s (S 6) key (8 * c) (zn S 7 c)
def q_t (S : zS) (key : Nat) : Nat := q_m (q_C S key) 16
def q_R (S : zS) (o : Nat → Nat) (key : Nat) : Nat := q_m (fun p => q_s (S 1) key (60 * p) (o p)) 4
/-! the numbers that the calls answer -/
theorem q_ae (x key m : Nat) : sp_ae x key (nI m) = nI (m + q_e x key) := by
  unfold sp_ae q_e
  split
  · exact nI_add _ _
  · rfl
theorem ek_q (S : zS) (key p : Nat) : ∀ n, sp_ek S key p n = nI (q_s (S 1) key (60 * p) n)
  | 0 => rfl
  | n + 1 => by
    unfold sp_ek
    rw [ek_q S key p n, q_ae]
    rfl
theorem q_add (x : Int32) (key m : Nat) : sp_add x key (nI m) = nI (m + q_e x.toNatClampNeg key) := by
  unfold sp_add
  by_cases h : 0 < x
  · unfold q_e
    by_cases h2 : x.toNatClampNeg / 1000 = key
    · rw [if_pos ⟨h, h2⟩, if_pos h2]
      exact nI_add _ _
    · rw [if_neg (fun z => h2 z.2), if_neg h2]
      rfl
  · rw [if_neg (fun z => h z.1), q_neg (q_npos h), q_e_0]
    rfl
theorem sk_q (g : Nat → Int32) (key b m : Nat) : ∀ j, sp_sk g key b j (nI m) = nI (m + q_s g key b j)
  | 0 => rfl
  | j + 1 => by
    unfold sp_sk
    rw [sk_q g key b m j, q_add, q_s_s, Nat.add_assoc]
theorem sc_q (S : zS) (key : Nat) : ∀ c, sp_sc S key c = nI (q_m (q_C S key) c)
  | 0 => rfl
  | c + 1 => by
    unfold sp_sc
    rw [sc_q S key c, sk_q]
    rfl
theorem rs_q (S : zS) (key : Nat) : ∀ p, sp_rs S key p = nI (q_m (fun p => q_s (S 1) key (60 * p) (zn S 2 p)) p)
  | 0 => rfl
  | p + 1 => by
    unfold sp_rs
    rw [rs_q S key p, ek_q, nI_add]
    rfl
/-! the invariant -/
def vEv (e : Nat) : Prop := 1 ≤ e % 1000 ∧ e % 1000 ≤ 100 ∧ e / 1000 < 32
def vE (S : zS) : Prop := ∀ p, p < 4 → zn S 2 p ≤ zn S 0 p ∧ zn S 3 p ≤ zn S 0 p ∧ zn S 5 p ≤ zn S 0 p ∧ ∀ o, o < zn S 0 p → vEv (zn S 1 (60 * p + o))
def vF (S : zS) (c : Nat) (f : Nat → Nat) : Prop := ∀ i, i < zn S 7 c → 0 < S 6 (8 * c + i) → f i < zn S 2 (c / 4) ∧ zn S 1 (60 * (c / 4) + f i) = zn S 6 (8 * c + i) ∧ ∀ j, j < i → 0 < S 6 (8 * c + j) → f j < f i
def vC (S : zS) : Prop := ∀ c, c < 16 → (∀ i, i < zn S 7 c → ¬ S 6 (8 * c + i) = 0 ∧ (0 < S 6 (8 * c + i) → zown (zn S 22 0) (zn S 6 (8 * c + i) / 1000) = c % 4)) ∧ ∃ f, vF S c f
def vN (S : zS) (key : Nat) : Prop := ∀ j, 9 ≤ j → j ≤ 20 → S j key = nI (zn S j key)
def vL (a b : Nat) : Prop := a ≤ b ∧ b ≤ 100 * a
def vT1 (S : zS) (key : Nat) : Prop := vN S key ∧ (zn S 9 key = zn S 19 key + zn S 13 key + zn S 11 key ∧ zn S 10 key = zn S 20 key + zn S 14 key + zn S 12 key) ∧ (vL (zn S 11 key) (zn S 12 key) ∧ vL (zn S 13 key) (zn S 14 key) ∧ vL (zn S 19 key) (zn S 20 key)) ∧ zn S 10 key + q_t S key = q_R S (zn S 2) key ∧ zn S 18 key = q_R S (zn S 3) key ∧ (S 22 2 = (-1) → zn S 17 key = zn S 19 key + zn S 13 key ∧ zn S 18 key = zn S 20 key + zn S 14 key) ∧ (¬ S 22 2 = (-1) → zn S 17 key = zn S 19 key ∧ zn S 18 key = zn S 20 key ∧ (¬ S 21 (zown (zn S 22 0) key) = (-1) → zn S 15 key = zn S 19 key + zn S 13 key ∧ zn S 16 key = zn S 20 key + zn S 14 key ∧ zn S 16 key = q_R S (zn S 5) key))
def vT (S : zS) : Prop := ∀ key, key < 32 → vT1 S key
/-- what stands behind the barrier in a channel was read behind it -/
def vB1 (S : zS) (key p c : Nat) : Prop := (S 8 c = nI 1 → q_C S key c + q_s (S 1) key (60 * p) (zn S 5 p) = q_s (S 1) key (60 * p) (zn S 2 p)) ∧ (S 8 c = nI 0 → ∃ i, i < zn S 7 c ∧ S 6 (8 * c + i) = -(S 22 2) ∧ q_C S key c + q_s (S 1) key (60 * p) (zn S 5 p) = q_s (S 6) key (8 * c) i + q_s (S 1) key (60 * p) (zn S 2 p))
def vB (S : zS) : Prop := ¬ S 22 2 = (-1) → ∀ key p, key < 32 → p < 4 → S 21 (zown (zn S 22 0) key) = (-1) → S 4 p = nI 1 → vB1 S key p (4 * p + zown (zn S 22 0) key)
def vA (S : zS) : Prop := ∀ w, w < 4 → ¬ zallB S w
def vI (S : zS) : Prop := vE S ∧ vC S ∧ vT S ∧ vB S
/-- at most 24000 of a key -/
theorem q_R_le {S : zS} {o : Nat → Nat} {key : Nat} (hO : zOK S) (hE : vE S) (ho : ∀ p, p < 4 → o p ≤ zn S 0 p) : q_R S o key ≤ 24000 := by
  refine Nat.le_trans (q_m_le (B := 6000) (fun p hp => ?_)) (by decide)
  have h1 := ho p hp
  have h2 := (hO.n0 p).2
  have h3 := q_s_le (g := S 1) (key := key) (b := 60 * p) (n := o p) (fun i hi => ((hE p hp).2.2.2 i (by omega)).2.1)
  omega
/-- each number of a key is at most 24000 -/
theorem vT_le {S : zS} {key : Nat} (hO : zOK S) (hE : vE S) (h : vT1 S key) : zn S 10 key ≤ 24000 ∧ zn S 18 key ≤ 24000 := by
  obtain ⟨-, -, -, h1, h2, -, -⟩ := h
  have h3 := q_R_le (key := key) hO hE (o := zn S 2) (fun p hp => (hE p hp).1)
  have h4 := q_R_le (key := key) hO hE (o := zn S 3) (fun p hp => (hE p hp).2.1)
  omega
theorem vE_congr {S T : zS} (h0 : T 0 = S 0) (h1 : T 1 = S 1) (h2 : T 2 = S 2) (h3 : T 3 = S 3) (h5 : T 5 = S 5) (h : vE S) : vE T := by
  unfold vE zn at *
  rw [h0, h1, h2, h3, h5]
  exact h
theorem vC_congr {S T : zS} (h1 : T 1 = S 1) (h2 : T 2 = S 2) (h6 : T 6 = S 6) (h7 : T 7 = S 7) (h22 : T 22 0 = S 22 0) (h : vC S) : vC T := by
  unfold vC vF zn at *
  rw [h1, h2, h6, h7, h22]
  exact h
theorem vB_congr {S T : zS} (h1 : T 1 = S 1) (h2 : T 2 = S 2) (h4 : T 4 = S 4) (h5 : T 5 = S 5) (h6 : T 6 = S 6) (h7 : T 7 = S 7) (h8 : T 8 = S 8) (h21 : T 21 = S 21) (h22 : T 22 0 = S 22 0) (h222 : T 22 2 = S 22 2) (h : vB S) : vB T := by
  unfold vB vB1 q_C zn at *
  rw [h1, h2, h4, h5, h6, h7, h8, h21, h22, h222]
  exact h
theorem q_t_congr {S T : zS} {key : Nat} (h6 : T 6 = S 6) (h7 : T 7 = S 7) : q_t T key = q_t S key := by
  unfold q_t
  refine q_m_congr (fun c _ => ?_)
  unfold q_C zn
  rw [h6, h7]
theorem q_R_congr {S T : zS} {o o' : Nat → Nat} {key : Nat} (h1 : T 1 = S 1) (ho : ∀ p, p < 4 → o' p = o p) : q_R T o' key = q_R S o key := by
  unfold q_R
  refine q_m_congr (fun p hp => ?_)
  show q_s (T 1) key (60 * p) (o' p) = q_s (S 1) key (60 * p) (o p)
  rw [h1, ho p hp]
theorem vT_frame {S T : zS} (hj : ∀ j, 9 ≤ j → j ≤ 20 → T j = S j) (h21 : T 21 = S 21) (h22 : T 22 = S 22) (h2 : ∀ key, key < 32 → q_t T key + q_R S (zn S 2) key = q_t S key + q_R T (zn T 2) key) (h3 : ∀ key, key < 32 → q_R T (zn T 3) key = q_R S (zn S 3) key) (h5 : ∀ key, key < 32 → ¬ S 22 2 = (-1) → ¬ S 21 (zown (zn S 22 0) key) = (-1) → q_R T (zn T 5) key = q_R S (zn S 5) key) (h : vT S) : vT T := by
  intro key hk
  obtain ⟨a1, a2, a3, a4, a5, a6, a7⟩ := h key hk
  have e : ∀ j, 9 ≤ j → j ≤ 20 → zn T j key = zn S j key := fun j j1 j2 => congrArg Int32.toNatClampNeg (congrFun (hj j j1 j2) key)
  have w0 : zn T 22 0 = zn S 22 0 := congrArg Int32.toNatClampNeg (congrFun h22 0)
  have g2 := h2 key hk
  have g3 := h3 key hk
  have g5 := h5 key hk
  unfold vT1
  rw [h22, h21, w0]
  simp only [e 9 (by decide) (by decide), e 10 (by decide) (by decide), e 11 (by decide) (by decide), e 12 (by decide) (by decide), e 13 (by decide) (by decide), e 14 (by decide) (by decide), e 15 (by decide) (by decide), e 16 (by decide) (by decide), e 17 (by decide) (by decide), e 18 (by decide) (by decide), e 19 (by decide) (by decide), e 20 (by decide) (by decide)]
  refine ⟨fun j j1 j2 => by rw [e j j1 j2, hj j j1 j2]; exact a1 j j1 j2, a2, a3, by omega, by omega, a6, fun hu => ⟨(a7 hu).1, (a7 hu).2.1, fun hs => ?_⟩⟩
  have b := (a7 hu).2.2 hs
  have c := g5 hu hs
  exact ⟨b.1, b.2.1, by omega⟩
/-! an event more -/
theorem vI_app {S : zS} (hO : zOK S) (I : vI S) {p key v : Nat} (hp : p < 4) (hk : key < 32) (hv : 1 ≤ v) (hv2 : v ≤ 100) (hn : zn S 0 p < 60) : vI (sp_app S p (nI (1000 * key + v))) := by
  obtain ⟨hE, hC, hT, hB⟩ := I
  have r0 : ∀ i, sp_app S p (nI (1000 * key + v)) 0 i = if i = p then nI (zn S 0 p + 1) else S 0 i := fun i => rfl
  have r1 : ∀ i, sp_app S p (nI (1000 * key + v)) 1 i = if i = 60 * p + zn S 0 p then nI (1000 * key + v) else S 1 i := fun i => rfl
  have rj : ∀ j, j ≠ 0 → j ≠ 1 → sp_app S p (nI (1000 * key + v)) j = S j := fun j j0 j1 => (zU_n j0).trans (zU_n j1)
  generalize sp_app S p (nI (1000 * key + v)) = T at r0 r1 rj ⊢
  have z0 : ∀ i, zn T 0 i = if i = p then zn S 0 p + 1 else zn S 0 i := fun i => by
    show (T 0 i).toNatClampNeg = _
    rw [r0]
    split
    · exact nI_cl (show zn S 0 p + 1 ≤ 31100 by omega)
    · rfl
  have z1 : ∀ q o, q < 4 → o < zn S 0 q → T 1 (60 * q + o) = S 1 (60 * q + o) := fun q o hq ho => by
    rw [r1, if_neg]
    have := (hO.n0 q).2
    by_cases e : q = p
    · subst e; omega
    · omega
  have zj : ∀ j, j ≠ 0 → j ≠ 1 → zn T j = zn S j := fun j j0 j1 => by
    funext i
    unfold zn
    rw [rj j j0 j1]
  have qs : ∀ k q n, q < 4 → n ≤ zn S 0 q → q_s (T 1) k (60 * q) n = q_s (S 1) k (60 * q) n := fun k q n hq hn => q_s_congr (fun i hi => z1 q i hq (by omega))
  have qR : ∀ (o : Nat → Nat) k, (∀ q, q < 4 → o q ≤ zn S 0 q) → q_R T o k = q_R S o k := fun o k ho => q_m_congr (fun q hq => qs k q (o q) hq (ho q hq))
  refine ⟨fun q hq => ?_, fun c hc => ?_, ?_, ?_⟩
  · obtain ⟨a1, a2, a3, a4⟩ := hE q hq
    rw [zj 2 (by decide) (by decide), zj 3 (by decide) (by decide), zj 5 (by decide) (by decide), z0 q]
    refine ⟨?_, ?_, ?_, fun o ho => ?_⟩
    · split <;> rename_i e <;> (try subst e) <;> omega
    · split <;> rename_i e <;> (try subst e) <;> omega
    · split <;> rename_i e <;> (try subst e) <;> omega
    · by_cases e : q = p ∧ o = zn S 0 p
      · obtain ⟨rfl, rfl⟩ := e
        have e1 : zn T 1 (60 * q + zn S 0 q) = 1000 * key + v := by
          show (T 1 _).toNatClampNeg = _
          rw [r1, if_pos rfl, nI_cl (by omega)]
        rw [e1]
        unfold vEv
        omega
      · have ho2 : o < zn S 0 q := by
          split at ho
          · rename_i e2
            subst e2
            omega
          · exact ho
        have e1 : zn T 1 (60 * q + o) = zn S 1 (60 * q + o) := congrArg Int32.toNatClampNeg (z1 q o hq ho2)
        rw [e1]
        exact a4 o ho2
  · obtain ⟨a1, f, a2⟩ := hC c hc
    rw [rj 6 (by decide) (by decide), zj 7 (by decide) (by decide), zj 6 (by decide) (by decide), zj 22 (by decide) (by decide)]
    refine ⟨a1, f, fun i hi hpos => ?_⟩
    rw [zj 7 (by decide) (by decide)] at hi
    rw [rj 6 (by decide) (by decide)] at hpos
    obtain ⟨b1, b2, b3⟩ := a2 i hi hpos
    rw [zj 2 (by decide) (by decide), zj 6 (by decide) (by decide), rj 6 (by decide) (by decide)]
    refine ⟨b1, ?_, b3⟩
    rw [← b2]
    exact congrArg Int32.toNatClampNeg (z1 (c / 4) (f i) (by omega) (Nat.lt_of_lt_of_le b1 (hE (c / 4) (by omega)).1))
  · refine vT_frame (fun j j1 j2 => rj j (by omega) (by omega)) (rj 21 (by decide) (by decide)) (rj 22 (by decide) (by decide)) (fun k hk => ?_) (fun k hk => ?_) (fun k hk _ _ => ?_) hT
    · rw [zj 2 (by decide) (by decide), qR (zn S 2) k (fun q hq => (hE q hq).1), q_t_congr (rj 6 (by decide) (by decide)) (rj 7 (by decide) (by decide))]
    · rw [zj 3 (by decide) (by decide), qR (zn S 3) k (fun q hq => (hE q hq).2.1)]
    · rw [zj 5 (by decide) (by decide), qR (zn S 5) k (fun q hq => (hE q hq).2.2.1)]
  · unfold vB vB1 q_C
    rw [zj 22 (by decide) (by decide), zj 5 (by decide) (by decide), zj 2 (by decide) (by decide), zj 7 (by decide) (by decide), rj 22 (by decide) (by decide), rj 21 (by decide) (by decide), rj 4 (by decide) (by decide), rj 8 (by decide) (by decide), rj 6 (by decide) (by decide)]
    intro hu k q hk hq h1 h2
    rw [qs k q _ hq (hE q hq).2.2.1, qs k q _ hq (hE q hq).1]
    exact hB hu k q hk hq h1 h2
