/-! ===== layer B: aim ===== -/
theorem mixN_mono {p a b a' b' : Nat} (h1 : a ≤ a') (h2 : b ≤ b') : mixN p a b ≤ mixN p a' b' := by
  unfold mixN
  exact Nat.div_le_div_right (Nat.add_le_add (Nat.mul_le_mul_left p h1) (Nat.mul_le_mul_left _ h2))
theorem fE_mono {out out' b : Nat} {beh beh' : Nat → Nat} (h1 : out ≤ out') (h2 : beh b ≤ beh' b) : fE out beh b ≤ fE out' beh' b := by
  unfold fE
  split
  · exact h1
  · exact h2
theorem fv_mono {D : Nat → Nat → Nat} {out out' : Nat} {beh beh' : Nat → Nat} (ho : out ≤ out') (hb : ∀ b, b ≤ 40 → beh b ≤ beh' b) : ∀ j f L b, b ≤ 40 → fv D out beh j f L b ≤ fv D out' beh' j f L b := by
  intro j
  induction j with
  | zero => intro f L b h; exact fE_mono ho (hb b h)
  | succ j ih =>
    intro f L b h
    by_cases c : 40 < L
    · rw [fv_hi (Or.inl c), fv_hi (Or.inl c)]; exact fE_mono ho (hb b h)
    · rw [fv_go (by omega), fv_go (by omega)]
      exact bst_mono _ _ (fun y h1 h2 => mixN_mono (ih f (y + 1) y (by omega)) (ih (f + 1) y b h))
theorem fS_mono {D : Nat → Nat → Nat → Nat} {out out' B : Nat} {W W' : Nat → Nat} (ho : out ≤ out') (hW : ∀ x, x ≤ B → W x ≤ W' x) : ∀ d s, s + 40 * d ≤ B → fS D out W d s ≤ fS D out' W' d s := by
  intro d
  induction d with
  | zero => intro s h; exact hW s (by omega)
  | succ d ih =>
    intro s h2
    exact fv_mono ho (fun b hb => ih (s + b) (by omega)) 3 0 1 0 (by omega)
theorem fS_shift {D : Nat → Nat → Nat → Nat} {out e : Nat} {W : Nat → Nat} : ∀ d s, fS D out W d (s + e) = fS D out (fun x => W (x + e)) d s := by
  intro d
  induction d with
  | zero => intro s; rfl
  | succ d ih =>
    intro s
    refine fv_congr (fun b hb => ?_) 3 0 1 0 (by omega)
    show fS D out W d (s + e + b) = _
    rw [show s + e + b = (s + b) + e by omega, ih]
theorem fv_const {D : Nat → Nat → Nat} {c : Nat} {beh : Nat → Nat} (hD : ∀ x f, x ≤ 40 → f ≤ 3 → D x f ≤ 1000) (hb : ∀ b, b ≤ 40 → beh b = c) : ∀ j f L b, f + j ≤ 3 → b ≤ 40 → fv D c beh j f L b = c := by
  have hE : ∀ b, b ≤ 40 → fE c beh b = c := fun b h => by unfold fE; split; rfl; exact hb b h
  intro j
  induction j with
  | zero => intro f L b _ h; exact hE b h
  | succ j ih =>
    intro f L b hf h
    by_cases q : 40 < L
    · rw [fv_hi (Or.inl q)]; exact hE b h
    · rw [fv_go (by omega), bst_const (c := c)]
      intro y h1 h2
      unfold fg
      rw [ih f (y + 1) y (by omega) (by omega), ih (f + 1) y b (by omega) h, mixN_const (hD y f (by omega) (by omega))]
theorem fS_const {D : Nat → Nat → Nat → Nat} {c B : Nat} {W : Nat → Nat} (hD : ∀ t x f, t < 3 → x ≤ 40 → f ≤ 3 → D t x f ≤ 1000) (hW : ∀ x, x ≤ B → W x = c) : ∀ d s, d ≤ 3 → s + 40 * d ≤ B → fS D c W d s = c := by
  intro d
  induction d with
  | zero => intro s _ h; exact hW s (by omega)
  | succ d ih =>
    intro s h1 h2
    exact fv_const (fun x f => hD (2 - d) x f (by omega)) (fun b hb => ih (s + b) (by omega) (by omega)) 3 0 1 0 (by omega) (by omega)
theorem frN_eqT {T T' : St} (h : EqT T T') {l lift round a d f o L : Nat} {bb : Nat → Nat} {out : Nat} {W : Nat → Nat} {e : Nat} : frN T' l lift round a d f o L bb out W e = frN T l lift round a d f o L bb out W e := by
  unfold frN
  rw [odN_eqT h]
/-- the value of the best loads for w -/
def gV (T : St) (l lift round a d f o L : Nat) (bb : Nat → Nat) (w : Nat) : Nat := (frN T l lift round a d f o L bb (Wr w 0) (Wr w) 0).1
theorem Wr_mono {w w' x : Nat} (h : w ≤ w') : Wr w' x ≤ Wr w x := by
  unfold Wr
  split <;> split <;> omega
theorem gV_mono {T : St} {l lift round a d f o L : Nat} {bb : Nat → Nat} (hl3 : lift ≤ 3) (hb : ∀ t, t < 3 → bb t ≤ 40) (hL1 : a ≠ 0 → 1 ≤ L) {w w' : Nat} (h : w ≤ w') : gV T l lift round a d f o L bb w' ≤ gV T l lift round a d f o L bb w := by
  have hsb := sB_le hb lift hl3
  have ho := Wr_mono (x := 0) h
  have hS : ∀ d s, s + 40 * d ≤ 1000 → fS (odN T l) (Wr w' 0) (Wr w') d s ≤ fS (odN T l) (Wr w 0) (Wr w) d s := fS_mono (B := 1000) ho (fun x _ => Wr_mono h)
  unfold gV frN
  by_cases c1 : o = 1
  · rw [if_pos c1, if_pos c1]; exact ho
  · rw [if_neg c1, if_neg c1]
    by_cases c2 : lift < 3
    · rw [if_pos c2, if_pos c2]
      have hbl := hb lift c2
      by_cases c3 : a ≠ 0 ∧ L ≤ 40
      · rw [if_pos c3, if_pos c3]
        apply bst_mono
        intro y h1 h2
        have := hL1 c3.1
        exact mixN_mono (fv_mono ho (fun b hb => hS _ _ (by omega)) _ _ _ _ (by omega)) (fv_mono ho (fun b hb => hS _ _ (by omega)) _ _ _ _ hbl)
      · rw [if_neg c3, if_neg c3]
        by_cases c4 : bb lift = 0
        · rw [if_pos c4, if_pos c4]; exact ho
        · rw [if_neg c4, if_neg c4]
          by_cases c5 : lift + 1 < 3
          · rw [if_pos c5, if_pos c5]
            apply bst_mono
            intro y h1 h2
            exact mixN_mono (fv_mono ho (fun b hb => hS _ _ (by omega)) _ _ _ _ (by omega)) (fv_mono ho (fun b hb => hS _ _ (by omega)) _ _ _ _ (by omega))
          · rw [if_neg c5, if_neg c5]; exact Wr_mono h
    · rw [if_neg c2, if_neg c2]; exact Wr_mono h
theorem gV_0 {T : St} {k l lift round a d f o L : Nat} {bb : Nat → Nat} {ib ab : Nat} {S : St} (hv : VR ib ab k S T) (hl : l < k) (hN : Now T l lift round a d f o bb) (hL1 : a ≠ 0 → 1 ≤ L) : gV T l lift round a d f o L bb 0 = 1000000 := by
  have hb : ∀ t, t < 3 → bb t ≤ 40 := fun t ht => (hN.2.2.2.2.2.2.2.2.2.2.2.2.1 t ht).2
  have hsb := sB_le hb lift hN.1
  have hDD : ∀ t x f, t < 3 → x ≤ 40 → f ≤ 3 → odN T l t x f ≤ 1000 := fun t x f ht hx hf => (od_nat hv hl ht hx hf).2
  have hS : ∀ d s, d ≤ 3 → s + 40 * d ≤ 1000 → fS (odN T l) 1000000 (Wr 0) d s = 1000000 := fS_const (B := 1000) hDD (fun x _ => rfl)
  have e0 : Wr 0 0 = 1000000 := rfl
  have hf3 : f ≤ 3 := hN.2.2.2.2.2.2.2.2.2.1
  unfold gV frN
  rw [e0]
  by_cases c1 : o = 1
  · rw [if_pos c1]
  · rw [if_neg c1]
    by_cases c2 : lift < 3
    · rw [if_pos c2]
      by_cases c3 : a ≠ 0 ∧ L ≤ 40
      · have hleft := (hN.left3 c2).1 c3.1
        have hL := hL1 c3.1
        have k1 := (hN.2.2.2.2.2.2.2.2.2.2.2.2.2.2.2.2 c2 c3.1).1
        have hj : 1 ≤ leftN round a d := by unfold leftN; rw [if_neg c3.1]; omega
        rw [if_pos c3, bst_const (c := 1000000)]
        intro y h1 h2
        unfold fg
        rw [fv_const (fun x f => hDD lift x f c2) (fun b hb => hS _ _ (by omega) (by omega)) _ _ _ _ (by omega) (by omega), fv_const (fun x f => hDD lift x f c2) (fun b hb => hS _ _ (by omega) (by omega)) _ _ _ _ (by omega) (hb lift c2), mixN_const (hDD lift y f c2 (by omega) hf3)]
      · rw [if_neg c3]
        by_cases c4 : bb lift = 0
        · rw [if_pos c4]
        · rw [if_neg c4]
          have hbl := hb lift c2
          by_cases c5 : lift + 1 < 3
          · rw [if_pos c5, bst_const (c := 1000000)]
            intro y h1 h2
            unfold fg
            rw [fv_const (fun x f => hDD (lift + 1) x f c5) (fun b hb => hS _ _ (by omega) (by omega)) _ _ _ _ (by omega) (by omega), fv_const (fun x f => hDD (lift + 1) x f c5) (fun b hb => hS _ _ (by omega) (by omega)) _ _ _ _ (by omega) (by omega), mixN_const (hDD (lift + 1) y 0 c5 (by omega) (by omega))]
          · rw [if_neg c5]; rfl
    · rw [if_neg c2]; rfl
theorem gV_le {T : St} {k l lift round a d f o L : Nat} {bb : Nat → Nat} {ib ab : Nat} {S : St} (hv : VR ib ab k S T) (hl : l < k) (hN : Now T l lift round a d f o bb) (hL1 : a ≠ 0 → 1 ≤ L) (w : Nat) : gV T l lift round a d f o L bb w ≤ 1000000 := by
  rw [← gV_0 hv hl hN hL1]
  exact gV_mono hN.1 (fun t ht => (hN.2.2.2.2.2.2.2.2.2.2.2.2.1 t ht).2) hL1 (by omega)
/-- the class's value, the sum moved -/
theorem vf_gV {T : St} {l lift round a d f o L w : Nat} {bb : Nat → Nat} (hl3 : lift ≤ 3) (hle : lift < 3 → a ≠ 0 → 1 ≤ leftN round a d) (hw1 : 1 ≤ w) (hw : w ≤ 120) (hL1 : a ≠ 0 → 1 ≤ L) (hb : ∀ t, t < 3 → bb t ≤ 40) : (vfN T l 0 (Wr 121) o lift (sB bb lift + (121 - w)) (bb lift) f (leftN round a d) L).1 = gV T l lift round a d f o L bb w := by
  have hWw : (fun x => Wr 121 (x + (121 - w))) = Wr w := by
    funext x
    unfold Wr
    by_cases c : x < w
    · rw [if_pos c, if_pos (by omega)]
    · rw [if_neg c, if_neg (by omega)]
  have hS : ∀ d s, fS (odN T l) 0 (Wr 121) d (s + (121 - w)) = fS (odN T l) 0 (Wr w) d s := fun d s => by rw [fS_shift, hWw]
  have e0 : Wr w 0 = 0 := by unfold Wr; rw [if_pos (by omega)]
  unfold gV vfN frN
  rw [e0]
  by_cases c1 : o = 1
  · rw [if_pos c1, if_pos c1]
  · rw [if_neg c1, if_neg c1]
    by_cases c2 : lift < 3
    · rw [if_pos c2, if_pos c2]
      have hbeh : (fun b => fS (odN T l) 0 (Wr 121) (2 - lift) (sB bb lift + (121 - w) + b)) = (fun b => fS (odN T l) 0 (Wr w) (2 - lift) (sB bb lift + 0 + b)) := by
        funext b
        rw [show sB bb lift + (121 - w) + b = (sB bb lift + 0 + b) + (121 - w) by omega, hS]
      have hiff : (1 ≤ leftN round a d ∧ L ≤ 40) ↔ (a ≠ 0 ∧ L ≤ 40) := by
        constructor
        · intro q
          refine ⟨fun z => ?_, q.2⟩
          have := q.1
          unfold leftN at this
          rw [if_pos z] at this
          omega
        · intro q
          exact ⟨hle c2 q.1, q.2⟩
      rw [hbeh]
      by_cases c3 : a ≠ 0 ∧ L ≤ 40
      · rw [if_pos (hiff.mpr c3), if_pos c3]
      · rw [if_neg (fun q => c3 (hiff.mp q)), if_neg c3]
        unfold fE
        by_cases c4 : bb lift = 0
        · rw [if_pos c4, if_pos c4]
        · rw [if_neg c4, if_neg c4]
          by_cases c5 : lift + 1 < 3
          · rw [if_pos c5]
            have hS1 : ∀ d s, fS (odN T l) 0 (Wr w) (d + 1) s = fv (odN T l (2 - d)) 0 (fun b => fS (odN T l) 0 (Wr w) d (s + b)) 3 0 1 0 := fun _ _ => rfl
            have : fS (odN T l) 0 (Wr w) (2 - lift) (sB bb lift + 0 + bb lift) = (bst (fg (odN T l (lift + 1)) 0 (fun b => fS (odN T l) 0 (Wr w) (2 - (lift + 1)) (sB bb lift + 0 + bb lift + b)) 2 0 0) 39 1).1 := by
              rw [show 2 - lift = (2 - (lift + 1)) + 1 by omega, hS1, show 2 - (2 - (lift + 1)) = lift + 1 by omega, fv_go (by omega)]
            exact this
          · rw [if_neg c5, show 2 - lift = 0 by omega]
            rfl
    · rw [if_neg c2, if_neg c2]
      show Wr 121 (sB bb lift + (121 - w)) = Wr w (sB bb lift + 0)
      rw [← hWw]
      rfl
/-! the reference halves -/
def FrA (T T' : St) : Prop := (∀ i, i ≠ 33 → i ≠ 34 → T'.1 i = T.1 i) ∧ (∀ a, a ≠ 28 → a ≠ 31 → a ≠ 32 → T'.2.1 a = T.2.1 a) ∧ T'.2.2 = T.2.2
theorem FrA.rfl (T : St) : FrA T T := ⟨fun _ _ _ => Eq.refl _, fun _ _ _ _ => Eq.refl _, Eq.refl _⟩
theorem FrA.trans {S S' S2 : St} (h : FrA S S') (g : FrA S' S2) : FrA S S2 := ⟨fun i a b => (g.1 i a b).trans (h.1 i a b), fun i a b c => (g.2.1 i a b c).trans (h.2.1 i a b c), g.2.2.trans h.2.2⟩
theorem FrA.eqt {T T' : St} (h : FrA T T') : EqT T T' := ⟨⟨h.1 3 (by omega) (by omega), h.1 10 (by omega) (by omega), h.1 13 (by omega) (by omega), h.1 14 (by omega) (by omega), h.1 18 (by omega) (by omega)⟩, fun a _ _ => h.2.1 a (by omega) (by omega) (by omega), h.2.1 11 (by omega) (by omega) (by omega), h.2.1 15 (by omega) (by omega) (by omega), h.2.1 17 (by omega) (by omega) (by omega)⟩
theorem reachFree9 {ib ab k l w n lift round a d f o L : Nat} {bb : Nat → Nat} {S T0 T : St} (hv : VR ib ab k S T0) (hl : l < k) (hN : Now T0 l lift round a d f o bb) (hL : a ≠ 0 → lst T0 l = nI L ∧ 1 ≤ L ∧ L ≤ 41) (hT : FrA T0 T) (hw : w ≤ 121) (hn : 450 ≤ n) :
    ∃ T1 T2, m_X9_aimsReach n T (nI w) = some T1 ∧ m_X9_freeNow n T1 (nI l) = some (nI (gV T0 l lift round a d f o L bb w), T2) ∧ FrA T0 T2 := by
  obtain ⟨T1, q1, q2, q3, q4, q5⟩ := aimsReach9 (n := n) (T := T) hw (by omega)
  have hT1 : FrA T0 T1 := hT.trans ⟨fun i _ _ => by rw [q2], fun a z _ _ => q4 a z, q3⟩
  have hls : lst T1 l = lst T0 l := by unfold lst its mt; rw [hT1.eqt.2.2.1]
  obtain ⟨T2, f1, f2, f3⟩ := free9 (n := n) (W := Wr w) (hv.congrT hT1.eqt) hl (hN.congr hT1.eqt.2.2.1) (fun q => by rw [hls]; exact hL q) (by omega) q5 (fun x _ => Wr_le w x)
  rw [frN_eqT hT1.eqt] at f1
  exact ⟨T1, T2, q1, f1, hT1.trans ⟨f2.1, fun a _ z1 z2 => f2.2.1 a z1 z2, f2.2.2⟩⟩
theorem aim9_L {ib ab k l lift round a d f o L ws p : Nat} {bb : Nat → Nat} {S T0 : St} (hv : VR ib ab k S T0) (hl : l < k) (hN : Now T0 l lift round a d f o bb) (hL : a ≠ 0 → lst T0 l = nI L ∧ 1 ≤ L ∧ L ≤ 41) (hp : p ≤ 1000000) (hws : ws ≤ 120) (hP : ∀ w, w ≤ ws → p ≤ gV T0 l lift round a d f o L bb w) (hQ : ∀ w, ws < w → w ≤ 120 → gV T0 l lift round a d f o L bb w < p) :
    ∀ D lo hi n T, hi ≤ lo + D → lo ≤ ws → ws < hi → hi ≤ 121 → D + 460 ≤ n → FrA T0 T → ∃ T', m_X9_aim_L33 n T (nI l) (nI p) (nI lo) (nI hi) = some (T', nI ws) ∧ FrA T0 T' := by
  intro D
  induction D with
  | zero => intro lo hi n T h1 h2 h3; omega
  | succ D ih =>
    intro lo hi n T h1 h2 h3 h4 hn hT
    obtain ⟨m, rfl⟩ : ∃ m, n = m + 1 := ⟨n - 1, by omega⟩
    unfold m_X9_aim_L33
    rw [s1, ifleN (by omega) (by omega)]
    by_cases c : hi ≤ lo + 1
    · rw [if_pos c, show lo = ws by omega]
      exact ⟨T, rfl, hT⟩
    · rw [if_neg c, nI_add, show nI (lo + hi) / 2 = nI ((lo + hi) / 2) by rw [lit32 2, pk_div (nI_lt31 (by omega)) (by omega) (nI_lt31 (by omega))]]
      obtain ⟨T1, T2, e1, e2, e3⟩ := reachFree9 (n := m) (w := (lo + hi) / 2) hv hl hN hL hT (by omega) (by omega)
      have hle := gV_le hv hl hN (fun q => (hL q).2.1) ((lo + hi) / 2)
      rw [e1, Option.bind_some, e2, Option.bind_some]
      by_cases c2 : gV T0 l lift round a d f o L bb ((lo + hi) / 2) < p
      · rw [if_pos (show nI (gV T0 l lift round a d f o L bb ((lo + hi) / 2)) < nI p by rw [ltN (by omega) (by omega)]; exact c2)]
        have : ws < (lo + hi) / 2 := by
          rcases Nat.lt_or_ge ws ((lo + hi) / 2) with z | z
          · exact z
          · have := hP _ z; omega
        exact ih lo ((lo + hi) / 2) m T2 (by omega) h2 this (by omega) (by omega) e3
      · rw [if_neg (show ¬ nI (gV T0 l lift round a d f o L bb ((lo + hi) / 2)) < nI p by rw [ltN (by omega) (by omega)]; exact c2)]
        have : (lo + hi) / 2 ≤ ws := by
          rcases Nat.lt_or_ge ws ((lo + hi) / 2) with z | z
          · have := hQ _ z (by omega); omega
          · exact z
        exact ih ((lo + hi) / 2) hi m T2 (by omega) this h3 h4 (by omega) e3
/-! the class halves -/
theorem aimB_eq : ∀ n S F x1 x2 x4 x5 x6, m_X8_aimB_L39 n S F x1 x2 x4 x5 x6 = m_X8_aim_L39 n S F x1 x2 x4 x5 x6 := by
  intro n
  induction n with
  | zero => intros; rfl
  | succ n ih =>
    intro S F x1 x2 x4 x5 x6
    unfold m_X8_aimB_L39 m_X8_aim_L39
    simp only [ih]
theorem aim8_L {k l lift round a d f o L ws p : Nat} {bb : Nat → Nat} {T : St} {tp : Nat → Nat} (hl : l < k) (hN : Now T l lift round a d f o bb) (hL : a ≠ 0 → lst T l = nI L ∧ 1 ≤ L ∧ L ≤ 41) (hp : p ≤ 1000000) (hws : ws ≤ 120) (hP : ∀ w, w ≤ ws → p ≤ gV T l lift round a d f o L bb w) (hQ : ∀ w, ws < w → w ≤ 120 → gV T l lift round a d f o L bb w < p) :
    ∀ q mo n S F, mo ≤ ws → ws < mo + 2 ^ q → q ≤ 7 → q + 210 ≤ n → VR 30 25 k S T → FI k l T (Wr 121) 0 tp F → ∃ S' F', m_X8_aim_L39 n S F (nI l) (nI p) (nI mo) (nI (gV T l lift round a d f o L bb mo)) (nI (2 ^ q / 2)) = some (S', F', nI ws, nI (gV T l lift round a d f o L bb ws)) ∧ FrW S S' := by
  have hb : ∀ t, t < 3 → bb t ≤ 40 := fun t ht => (hN.2.2.2.2.2.2.2.2.2.2.2.2.1 t ht).2
  have hsb := sB_le hb lift hN.1
  intro q
  induction q with
  | zero =>
    intro mo n S F h1 h2 h3 hn hv hF
    obtain ⟨m, rfl⟩ : ∃ m, n = m + 1 := ⟨n - 1, by omega⟩
    have : mo = ws := by omega
    subst this
    refine ⟨S, F, ?_, FrW.rfl S⟩
    unfold m_X8_aim_L39
    rw [if_pos (show nI (2 ^ 0 / 2) ≤ 0 by decide)]
  | succ q ih =>
    intro mo n S F h1 h2 h3 hn hv hF
    obtain ⟨m, rfl⟩ : ∃ m, n = m + 1 := ⟨n - 1, by omega⟩
    have hpow : 2 ^ (q + 1) / 2 = 2 ^ q := by rw [Nat.pow_succ]; omega
    have hpos : 1 ≤ 2 ^ q := Nat.one_le_two_pow
    have hp6 : 2 ^ q ≤ 2 ^ 6 := Nat.pow_le_pow_right (by omega) (by omega)
    have h64 : (2 : Nat) ^ 6 = 64 := rfl
    have h2' : ws < mo + (2 ^ q + 2 ^ q) := by rw [Nat.pow_succ] at h2; omega
    have hdiv : nI (2 ^ q) / 2 = nI (2 ^ q / 2) := by rw [lit32 2, pk_div (nI_lt31 (by omega)) (by omega) (nI_lt31 (by omega))]
    unfold m_X8_aim_L39
    rw [hpow, ifle0N (by omega), if_neg (show ¬ 2 ^ q ≤ 0 by omega), nI_add, lit32 120, ifltN (by omega) (by omega), hdiv]
    by_cases c : 120 < mo + 2 ^ q
    · rw [if_pos c]
      exact ih mo m S F h1 (by omega) (by omega) (by omega) hv hF
    · rw [if_neg c]
      obtain ⟨S1, b1, b2, b3, b4, b5, b6, b7, b8, b9, b10, b11⟩ := look8 hv hl hN
      obtain ⟨v, hv52⟩ : ∃ v, S1.1 52 + (121 - nI (mo + 2 ^ q)) = v := ⟨_, rfl⟩
      have ev : o = 0 → v = nI (sB bb lift + (121 - (mo + 2 ^ q))) := fun z => by rw [← hv52, b6, if_neg (by omega), lit32 121, subN (by omega), nI_add]
      have hNS := nowS_of (e := 121 - (mo + 2 ^ q)) (S := sI S1 52 v) hv hl hN hL (by omega) (by rw [sI_ne (by omega)]; exact b4) (by rw [sI_ne (by omega)]; exact b5) (fun z => by rw [sI_eq]; exact ev z) (by rw [sI_ne (by omega)]; exact b7) (by rw [sI_ne (by omega)]; exact b8) (by rw [sI_ne (by omega)]; exact b10) (by rw [sI_ne (by omega)]; exact b11)
      obtain ⟨F1, d1, d2, d3⟩ := valF (n := m) hv hl hF hNS (by omega)
      have hvg := vf_gV (T := T) (l := l) (lift := lift) (round := round) (a := a) (d := d) (f := f) (o := o) (L := L) (w := mo + 2 ^ q) (bb := bb) hN.1 (fun cl ca => by
        have k1 := (hN.2.2.2.2.2.2.2.2.2.2.2.2.2.2.2.2 cl ca).1
        unfold leftN; rw [if_neg ca]; omega) (by omega) (by omega) (fun z => (hL z).2.1) hb
      rw [hvg] at d1
      have hSW : FrW S (sI S1 52 v) := ⟨fun i hi => by rw [sI_ne (by omega)]; exact b2 i hi, b3⟩
      have hv' : VR 30 25 k (sI S1 52 v) T := hv.congr hSW.fd.eqs (EqT.rfl T)
      have hle := gV_le hv hl hN (fun z => (hL z).2.1) (mo + 2 ^ q)
      rw [b1, Option.bind_some, nmE, hv52, d1, Option.bind_some]
      by_cases c2 : gV T l lift round a d f o L bb (mo + 2 ^ q) < p
      · rw [if_pos (show nI (gV T l lift round a d f o L bb (mo + 2 ^ q)) < nI p by rw [ltN (by omega) (by omega)]; exact c2)]
        have : ws < mo + 2 ^ q := by
          rcases Nat.lt_or_ge ws (mo + 2 ^ q) with z | z
          · exact z
          · have := hP _ z; omega
        obtain ⟨S', F', g1, g2⟩ := ih mo m (sI S1 52 v) F1 h1 this (by omega) (by omega) hv' d2
        exact ⟨S', F', g1, hSW.trans g2⟩
      · rw [if_neg (show ¬ nI (gV T l lift round a d f o L bb (mo + 2 ^ q)) < nI p by rw [ltN (by omega) (by omega)]; exact c2)]
        have : mo + 2 ^ q ≤ ws := by
          rcases Nat.lt_or_ge ws (mo + 2 ^ q) with z | z
          · have := hQ _ z (by omega); omega
          · exact z
        obtain ⟨S', F', g1, g2⟩ := ih (mo + 2 ^ q) m (sI S1 52 v) F1 this (by omega) (by omega) (by omega) hv' d2
        exact ⟨S', F', g1, hSW.trans g2⟩
theorem last_P {P : Nat → Prop} (h0 : P 0) (hd : ∀ w w', w ≤ w' → P w' → P w) : ∀ N, ∃ ws, ws ≤ N ∧ (∀ w, w ≤ ws → P w) ∧ (∀ w, ws < w → w ≤ N → ¬ P w) := by
  intro N
  induction N with
  | zero => exact ⟨0, by omega, fun w hw => by rw [show w = 0 by omega]; exact h0, fun w h1 h2 => by omega⟩
  | succ N ih =>
    obtain ⟨ws, h1, h2, h3⟩ := ih
    by_cases c : P (N + 1)
    · exact ⟨N + 1, by omega, fun w hw => hd w (N + 1) hw c, fun w q1 q2 => by omega⟩
    · refine ⟨ws, by omega, h2, fun w q1 q2 => ?_⟩
      by_cases cw : w = N + 1
      · rw [cw]; exact c
      · exact h3 w q1 (by omega)
/-- aim -/
theorem hb_26 (n : Nat) (hn : 800 ≤ n) : HB_26 n RelB := by
  intro S oF oP T a1 a2 hR
  obtain ⟨hf, hro, k, hc⟩ := id hR
  have hv := hc.vr.congrT (EqT.thr T 0)
  have hk := hv.1
  unfold m_X9_aim
  simp only [nmE]
  rcases isL hv a1 with ⟨l, hl, rfl, e1, e2⟩ | ⟨e1, e2⟩
  · rw [e2]
    simp only [Option.bind_some, b10, if_false]
    have i1 : Int32.toInt 1 = 1 := rfl
    have i6 : Int32.toInt 1000000 = 1000000 := rfl
    have j1 : Int64.toInt 1 = 1 := rfl
    have j6 : Int64.toInt 1000000 = 1000000 := rfl
    by_cases cp : 1 ≤ a2.toInt ∧ a2.toInt ≤ 1000000
    · rw [in_yes (by rw [t64, j1]; exact cp.1) (by rw [t64, j6]; exact cp.2)]
      simp only [Option.bind_some, b10, if_false]
      obtain ⟨p, hp, ep⟩ := (show Rg a2 0 1000000 from ⟨by omega, cp.2⟩).nat (n := 1000000)
      subst ep
      have hc1 : ¬ nI p < 1 := by rw [lt32, i1]; omega
      have hc2 : nI p ≤ 1000000 := by rw [le32, i6]; omega
      obtain ⟨lift, round, a, d, f, o, bb, hN⟩ := now_of hv hl
      obtain ⟨L, hL⟩ := lstN hv hl hN
      have hL1 : a ≠ 0 → 1 ≤ L := fun z => (hL z).2.1
      have hb : ∀ t, t < 3 → bb t ≤ 40 := fun t ht => (hN.2.2.2.2.2.2.2.2.2.2.2.2.1 t ht).2
      obtain ⟨ws, w1, w2, w3⟩ := last_P (P := fun w => p ≤ gV (sI T 0 0) l lift round a d f o L bb w) (by show p ≤ gV (sI T 0 0) l lift round a d f o L bb 0; rw [gV_0 hv hl hN hL1]; exact hp) (fun w w' h1 h2 => Nat.le_trans h2 (gV_mono hN.1 hb hL1 h1)) 120
      have w3' : ∀ w, ws < w → w ≤ 120 → gV (sI T 0 0) l lift round a d f o L bb w < p := fun w q1 q2 => by have : ¬ p ≤ gV (sI T 0 0) l lift round a d f o L bb w := w3 w q1 q2; omega
      obtain ⟨T1, g1, g2⟩ := aim9_L hv hl hN hL hp w1 w2 w3' 121 0 121 n (sI T 0 0) (by omega) (by omega) (by omega) (by omega) (by omega) (FrA.rfl _)
      obtain ⟨T2, T3, g3, g4, g5⟩ := reachFree9 (n := n) (w := ws) hv hl hN hL g2 (by omega) (by omega)
      rw [show m_X9_aim_L33 n (sI T 0 0) (nI l) (nI p) 0 121 = _ from g1]
      simp only [Option.bind_some]
      rw [g3]
      simp only [Option.bind_some]
      rw [g4]
      simp only [Option.bind_some]
      rw [notes_eq (t := 0) (by omega) rfl]
      simp only [Option.bind_some]
      -- the class
      obtain ⟨SG, p1, p2, p3, p4⟩ := beReach8 (n := n) (w := 121) (S := S) (by omega) (by omega)
      have hloop : ∀ (SX FX : St) (tp : Nat → Nat), VR 30 25 k SX (sI T 0 0) → FI k l (sI T 0 0) (Wr 121) 0 tp FX → ∃ S' F', m_X8_aim_L39 n SX FX (nI l) (nI p) 0 1000000 64 = some (S', F', nI ws, nI (gV (sI T 0 0) l lift round a d f o L bb ws)) ∧ FrW SX S' := fun SX FX tp hvX hFX => by
        have := aim8_L (tp := tp) hl hN hL hp w1 w2 w3' 7 0 n SX FX (by omega) (by omega) (by omega) (by omega) hvX hFX
        rw [gV_0 hv hl hN hL1] at this
        exact this
      have hfin : ∀ (SX S' F' : St), EqS S SX → FrW SX S' → RefR SX (some F') oP → RelB (sI (sJ S' 58 0 (nI (gV (sI T 0 0) l lift round a d f o L bb ws)).toInt64) 0 1) (some F') oP (sI (sJ (sI T3 1 0) 2 0 (nI (gV (sI T 0 0) l lift round a d f o L bb ws)).toInt64) 1 (nI (0 + 1))) := fun SX S' F' hE hW hRf => by
        refine ⟨(hW.fd.ref hRf).congr rfl, ⟨1, by omega, rfl, rfl, fun j hj => ?_⟩, k, hc.congr (EqS.told (hE.trans hW.fd.eqs) 1) ((EqT.thr T 0).trans (EqT.note g5.eqt _ _ _))⟩
        rw [show j = 0 by omega]
        show (sJ S' 58 0 (nI (gV (sI T 0 0) l lift round a d f o L bb ws)).toInt64).2.2.1 58 0 = (sJ (sI T3 1 0) 2 0 (nI (gV (sI T 0 0) l lift round a d f o L bb ws)).toInt64).2.2.1 2 0
        rw [sJ_221, if_pos rfl, if_pos rfl, sJ_221, if_pos rfl, if_pos rfl]
      rcases hf.1 with ⟨z1, z2⟩ | ⟨F, z1, z2⟩
      · have hw : ∀ {α : Type} (x : Option α), ckw (S.2.2.2 0) x = x := fun x => by
          rcases hf.2.2 with q | ⟨j, q1, q2⟩
          · rw [q]; rfl
          · rw [q2]
            show (if j < 7 then x else none) = x
            rw [if_pos q1]
        obtain ⟨SB, p1', p2', p3', p4'⟩ := beReach8 (n := n) (w := 121) (S := sR S 2 (some 0)) (by omega) (by omega)
        have hvX : VR 30 25 k SB (sI T 0 0) := (hv.congr (EqS.rfl S) (EqT.rfl _) : VR 30 25 k (sR S 2 (some 0)) (sI T 0 0)).congr p2'.eqs (EqT.rfl _)
        obtain ⟨FX, tp, r1, r2⟩ := prepF (n := n) (F := Fr0) (out := 0) (W := Wr 121) hvX hl (by omega) p3' p4' (by omega) (fun x _ => Wr_le 121 x)
        obtain ⟨S', F', c1, c2⟩ := hloop SB FX tp hvX r2
        have e22 : SB.2.2.2 2 = some 0 := by rw [p2'.2.2]; rfl
        refine ⟨nI ws, _, some F', _, Or.inr (Or.inr ⟨F', z1, rfl, ?_⟩), rfl, hfin SB S' F' (show EqS S SB from ⟨fun i q1 q2 => p2'.1 i (by omega), fun a ha => p2'.2.1 a (by omega)⟩) c2 ⟨Or.inr ⟨F', rfl, e22⟩, ?_, ?_⟩⟩
        · have hth : m_X8_thinkFreelyB n S (nI l) 1 = some (SB, FX) := by
            unfold m_X8_thinkFreelyB
            rw [z2]
            show ckw (S.2.2.2 0) _ = _
            rw [hw, nmE, nmE, if_neg (show ¬ (1 : Int32) = 0 by decide)]
            unfold m_X0_beStep
            rw [show m_X0_beReach n (sR S 2 (some 0)) 121 = _ from p1', Option.bind_some, Option.bind_some, Option.bind_some, e22, onw_some (by omega), ckN (by omega) (by omega), clN (by omega), r1, Option.bind_some, onw_some (by omega)]
          unfold m_X8_aimB
          rw [e1, Option.bind_some, if_neg (show ¬ (1 : Int32) = 0 by decide), if_neg hc1, if_pos hc2, hth, Option.bind_some, aimB_eq, c1, Option.bind_some]
          rfl
        · rw [p2'.2.2]
          show (oP = none ∧ (sR S 2 (some 0)).2.2.2 3 = none) ∨ _
          rw [sR_222, if_neg (by omega)]; exact hf.2.1
        · rw [p2'.2.2, sR_222, if_neg (by omega)]; exact hf.2.2
      · have hvX : VR 30 25 k SG (sI T 0 0) := hv.congr p2.eqs (EqT.rfl _)
        obtain ⟨FX, tp, r1, r2⟩ := prepF (n := n) (F := F) (out := 0) (W := Wr 121) hvX hl (by omega) p3 p4 (by omega) (fun x _ => Wr_le 121 x)
        obtain ⟨S', F', c1, c2⟩ := hloop SG FX tp hvX r2
        have e22 : SG.2.2.2 2 = some 0 := by rw [p2.2.2]; exact z2
        refine ⟨nI ws, _, some F', _, Or.inl ⟨F, F', z1, rfl, ?_⟩, rfl, hfin SG S' F' p2.eqs c2 ⟨Or.inr ⟨F', rfl, e22⟩, ?_, ?_⟩⟩
        · have hth : m_X8_thinkFreely n S F (nI l) 1 = some (SG, FX) := by
            unfold m_X8_thinkFreely
            rw [z2, onw_some (by omega), if_neg (show ¬ (1 : Int32) = 0 by decide)]
            unfold m_X0_beStep
            rw [show m_X0_beReach n S 121 = _ from p1, Option.bind_some, Option.bind_some, Option.bind_some, e22, onw_some (by omega), ckN (by omega) (by omega), clN (by omega), r1, Option.bind_some, onw_some (by omega)]
          unfold m_X8_aim
          rw [e1, Option.bind_some, if_neg (show ¬ (1 : Int32) = 0 by decide), if_neg hc1, if_pos hc2, hth, Option.bind_some, c1, Option.bind_some]
          rfl
        · rw [p2.2.2]; exact hf.2.1
        · rw [p2.2.2]; exact hf.2.2
    · rw [in_no (by rw [t64, j1, j6]; omega)]
      simp only [Option.bind_some, b00, if_true]
      refine ⟨-1, S, oF, sI T 0 0, ?_, rfl, hR.thr 0⟩
      have hx : ∀ {α : Type} (x y : α), (if a2 < 1 then x else (if a2 ≤ 1000000 then y else x)) = x := fun x y => by
        by_cases q : a2 < 1
        · rw [if_pos q]
        · rw [if_neg q, if_neg]
          rw [lt32, i1] at q
          rw [le32, i6]; omega
      rcases hf.1 with ⟨z1, z2⟩ | ⟨F, z1, z2⟩
      · refine Or.inr (Or.inl ⟨z1, z1, ?_⟩)
        unfold m_X8_aimN
        rw [e1, Option.bind_some, if_neg (show ¬ (1 : Int32) = 0 by decide), hx]
      · refine Or.inl ⟨F, F, z1, z1, ?_⟩
        unfold m_X8_aim
        rw [e1, Option.bind_some, if_neg (show ¬ (1 : Int32) = 0 by decide), hx]
  · rw [e2]
    simp only [Option.bind_some, b00, if_true]
    refine ⟨-1, S, oF, sI T 0 0, ?_, rfl, hR.thr 0⟩
    rcases hf.1 with ⟨z1, z2⟩ | ⟨F, z1, z2⟩
    · refine Or.inr (Or.inl ⟨z1, z1, ?_⟩)
      unfold m_X8_aimN
      rw [e1, Option.bind_some, if_pos rfl]
    · refine Or.inl ⟨F, F, z1, z1, ?_⟩
      unfold m_X8_aim
      rw [e1, Option.bind_some, if_pos rfl]
