/-! ===== layer B: wins, bombs, opener ===== -/
theorem Now.bb {T : St} {l lift round a d f o : Nat} {bb bb' : Nat → Nat} (h : Now T l lift round a d f o bb) (e : ∀ t, t < 3 → bb' t = bb t) : Now T l lift round a d f o bb' := by
  obtain ⟨h1, h2, h3, h4, h5, h6, h7, h8, h9, h10, h11, h12, h13, h14, h15, h16, h17⟩ := h
  refine ⟨h1, h2, h3, h4, h5, h6, h7, h8, h9, h10, h11, h12, fun t ht => by rw [e t ht]; exact h13 t ht, fun t ht q => by rw [e t ht]; exact h14 t ht q, h15, h16, fun q1 q2 => ?_⟩
  rw [e lift q1]
  exact h17 q1 q2
def nL (T : St) : Nat := (T.2.1 11 0).toNatClampNeg
def nR (T : St) : Nat := (T.2.1 11 1).toNatClampNeg
def nM (T : St) (l w : Nat) : Nat := (mt T l w).toNatClampNeg
theorem now_T {ib ab k l : Nat} {S T : St} (hv : VR ib ab k S T) (hl : l < k) : Now T l (nL T) (nR T) (nM T l 0) (nM T l 1) (nM T l 4) (nM T l 6) (fun t => nM T l (7 + t)) := by
  obtain ⟨lift, round, a, d, f, o, bb, hN⟩ := now_of hv hl
  obtain ⟨h1, h2, h3, h4, h5, h6, h7, h8, h9, h10, h11, h12, h13, h14, h15, h16, h17⟩ := id hN
  unfold nL nR nM
  rw [h3, h4, h5, h7, h9, h11, clN (by omega), clN (by omega), clN (by omega), clN (by omega), clN (by omega), clN (by omega)]
  refine hN.bb (fun t ht => ?_)
  have := h13 t ht
  rw [this.1, clN (by omega)]
/-- chances, worths and plans, told by the reference's state -/
def cT (T : St) (l w : Nat) : Nat := cwN T l (nL T) (nR T) (nM T l 0) (nM T l 1) (nM T l 4) (nM T l 6) (fun t => nM T l (7 + t)) w
def pT (T : St) (l out : Nat) (W : Nat → Nat) : Nat := pvN T l (nL T) (nR T) (nM T l 0) (nM T l 1) (nM T l 4) (nM T l 6) (fun t => nM T l (7 + t)) out W 0
theorem nM_eqT {T T' : St} (h : EqT T T') (l w : Nat) : nM T' l w = nM T l w := by unfold nM mt; rw [h.2.2.1]
theorem cT_eqT {T T' : St} (h : EqT T T') (l w : Nat) : cT T' l w = cT T l w := by
  unfold cT
  rw [cwN_eqT h]
  unfold nL nR nM mt
  rw [h.2.2.1]
theorem pT_eqT {T T' : St} (h : EqT T T') (l out : Nat) (W : Nat → Nat) : pT T' l out W = pT T l out W := by
  unfold pT
  rw [pvN_eqT h]
  unfold nL nR nM mt
  rw [h.2.2.1]
theorem ldN_eqT {T T' : St} (h : EqT T T') (a b : Nat) : ldN T' a b = ldN T a b := by
  unfold ldN
  rw [h.2.1 4 (by omega) (by omega), h.2.1 5 (by omega) (by omega)]
theorem cT_le {ib ab k l : Nat} {S T : St} (hv : VR ib ab k S T) (hl : l < k) (w : Nat) : cT T l w ≤ 1000000 := cwN_le hv hl (now_T hv hl) w
/-- what it is worth to be ahead of all below i but l -/
def pwN (c : Nat → Nat → Nat) (ld : Nat → Nat) (l : Nat) : Nat → Nat → Nat
  | 0, x => Vs x
  | i + 1, x => if i = l then pwN c ld l i x else if 1 ≤ x ∧ x < 121 then tmN (pwN c ld l i x) (c i (x + ld i)) else pwN c ld l i x
theorem pwN_le (c : Nat → Nat → Nat) (ld : Nat → Nat) (l : Nat) : ∀ i x, pwN c ld l i x ≤ 1000000 := by
  intro i
  induction i with
  | zero => intro x; exact Vs_le x
  | succ i ih =>
    intro x
    show (if i = l then pwN c ld l i x else if 1 ≤ x ∧ x < 121 then tmN (pwN c ld l i x) (c i (x + ld i)) else pwN c ld l i x) ≤ 1000000
    split
    · exact ih x
    · split
      · exact tm_le (ih x)
      · exact ih x
theorem pwN_0 (c : Nat → Nat → Nat) (ld : Nat → Nat) (l : Nat) : ∀ i, pwN c ld l i 0 = 0 := by
  intro i
  induction i with
  | zero => rfl
  | succ i ih =>
    show (if i = l then pwN c ld l i 0 else if 1 ≤ 0 ∧ 0 < 121 then tmN (pwN c ld l i 0) (c i (0 + ld i)) else pwN c ld l i 0) = 0
    split
    · exact ih
    · rw [if_neg (by omega)]; exact ih
theorem ahead_L {k l : Nat} {T : St} (hl : l < k) : ∀ D i n S, i + D = k → D + 130 ≤ n → VR 30 25 k S T → (∀ j, j < k → j ≠ l → ∀ y, y ≤ 121 → S.2.1 (52 + j) y = nI (cT T j y)) → (∀ y, y < 242 → S.2.1 45 y = nI (pwN (cT T) (ldN T l) l i y)) →
    ∃ S', m_X8_aimAheadOfAll_L9 n S (nI l) (nI i) = some S' ∧ S'.1 = S.1 ∧ S'.2.2 = S.2.2 ∧ (∀ a, a ≠ 45 → S'.2.1 a = S.2.1 a) ∧ (∀ y, y < 242 → S'.2.1 45 y = nI (pwN (cT T) (ldN T l) l k y)) := by
  intro D
  induction D with
  | zero =>
    intro i n S hi hn hv hc h
    obtain ⟨m, rfl⟩ : ∃ m, n = m + 1 := ⟨n - 1, by omega⟩
    have hk := hv.1
    refine ⟨S, ?_, rfl, rfl, fun _ _ => rfl, fun y hy => by rw [h y hy, show i = k by omega]⟩
    unfold m_X8_aimAheadOfAll_L9
    rw [show S.1 30 = nI k from hv.size, if_pos (by rw [leN (by omega) (by omega)]; omega)]
  | succ D ih =>
    intro i n S hi hn hv hc h
    obtain ⟨m, rfl⟩ : ∃ m, n = m + 1 := ⟨n - 1, by omega⟩
    have hk := hv.1
    unfold m_X8_aimAheadOfAll_L9
    rw [show S.1 30 = nI k from hv.size, if_neg (by rw [leN (by omega) (by omega)]; omega), ifeqN (by omega) (by omega), s1]
    by_cases c : i = l
    · rw [if_pos c]
      exact ih (i + 1) m S (by omega) (by omega) hv hc (fun y hy => by
        rw [h y hy]
        show _ = nI (if i = l then pwN (cT T) (ldN T l) l i y else _)
        rw [if_pos c])
    · rw [if_neg c, ckN (by omega) (by omega), ckN (by omega) (by omega), clN (by omega), clN (by omega), (leadsN hv hl (show i < k by omega)).1]
      simp only [Option.bind_some]
      rw [ckN (by omega) (by omega)]
      obtain ⟨S1, t1, t2, t3, t4, t5⟩ := times8 (n := m) (S := S) (c := cT T i) (p := ldN T l i) (V := pwN (cT T) (ldN T l) l i) (show i < 6 by omega) (ldN_le T l i) (fun y _ => cT_le hv (show i < k by omega) y) (pwN_le _ _ _ i) (by omega) (hc i (by omega) c) h
      rw [t1]
      simp only [Option.bind_some]
      obtain ⟨S', e1, e2, e3, e4, e5⟩ := ih (i + 1) m S1 (by omega) (by omega) (hv.congr ⟨fun i _ _ => by rw [t2], fun a ha => t4 a (by omega)⟩ (EqT.rfl T)) (fun j hj hjl y hy => by rw [t4 (52 + j) (by omega)]; exact hc j hj hjl y hy) (fun y hy => by
        rw [t5 y hy]
        show _ = nI (if i = l then pwN (cT T) (ldN T l) l i y else if 1 ≤ y ∧ y < 121 then tmN (pwN (cT T) (ldN T l) l i y) (cT T i (y + ldN T l i)) else pwN (cT T) (ldN T l) l i y)
        rw [if_neg c])
      exact ⟨S', e1, e2.trans t2, e3.trans t3, fun a ha => (e4 a ha).trans (t4 a ha), e5⟩
theorem aheadAll8 {k l n : Nat} {S T : St} (hv : VR 30 25 k S T) (hl : l < k) (hn : 150 ≤ n) (hc : ∀ j, j < k → j ≠ l → ∀ y, y ≤ 121 → S.2.1 (52 + j) y = nI (cT T j y)) :
    ∃ S', m_X8_aimAheadOfAll n S (nI l) = some S' ∧ FrG S S' ∧ S'.1 60 = nI 0 ∧ (∀ y, y < 242 → S'.2.1 45 y = nI (pwN (cT T) (ldN T l) l k y)) := by
  have hk := hv.1
  obtain ⟨S1, a1, a2, a3, a4⟩ := sure8 S
  obtain ⟨S', e1, e2, e3, e4, e5⟩ := ahead_L hl k 0 n S1 (by omega) (by omega) (hv.congr a2.eqs (EqT.rfl T)) (fun j hj hjl y hy => by rw [a2.2.1 (52 + j) (by omega)]; exact hc j hj hjl y hy) a4
  refine ⟨S', ?_, ⟨fun i hi => by rw [e2]; exact a2.1 i hi, fun a ha => (e4 a ha).trans (a2.2.1 a ha), e3.trans a2.2.2⟩, by rw [e2]; exact a3, e5⟩
  unfold m_X8_aimAheadOfAll
  rw [a1]
  simp only [Option.bind_some]
  rw [show m_X8_aimAheadOfAll_L9 n S1 (nI l) 0 = _ from e1]
  rfl
/-! the reference -/
theorem win2_L {l : Nat} : ∀ D x n T, x + D = 121 → D + 1 ≤ n → (∀ y, y < x → T.2.1 30 y = nI (Vs y)) → ∃ T', m_X9_aimsWin_L2 n T (nI l) (nI x) = some T' ∧ T'.1 = T.1 ∧ T'.2.2 = T.2.2 ∧ (∀ a, a ≠ 30 → T'.2.1 a = T.2.1 a) ∧ (∀ y, y ≤ 120 → T'.2.1 30 y = nI (Vs y)) := by
  intro D
  induction D with
  | zero =>
    intro x n T hx hn h
    obtain ⟨m, rfl⟩ : ∃ m, n = m + 1 := ⟨n - 1, by omega⟩
    refine ⟨T, ?_, rfl, rfl, fun _ _ => rfl, fun y hy => h y (by omega)⟩
    unfold m_X9_aimsWin_L2
    rw [lit32 121, if_pos (by rw [leN (by omega) (by omega)]; omega)]
  | succ D ih =>
    intro x n T hx hn h
    obtain ⟨m, rfl⟩ : ∃ m, n = m + 1 := ⟨n - 1, by omega⟩
    obtain ⟨T', e1, e2, e3, e4, e5⟩ := ih (x + 1) m (sA T 30 x (nI (Vs x))) (by omega) (by omega) (fun y hy => by
      by_cases c : y = x
      · subst c; exact sA_eq
      · rw [sA_ne c]; exact h y (by omega))
    refine ⟨T', ?_, e2, e3, fun a ha => (e4 a ha).trans (sA_row ha), e5⟩
    unfold m_X9_aimsWin_L2
    simp only [nmE]
    rw [lit32 121, if_neg (by rw [leN (by omega) (by omega)]; omega), if0N (by omega), ckN (by omega) (by omega), ckN (by omega) (by omega), clN (by omega), s1]
    unfold Vs at e1
    by_cases c : x = 0
    · rw [if_pos c] at e1 ⊢; exact e1
    · rw [if_neg c] at e1 ⊢; exact e1
theorem win56_L {ib ab k : Nat} {S T0 : St} (hv : VR ib ab k S T0) {a b : Nat} (ha : a < k) (hb : b < k) {c V : Nat → Nat} (hc : ∀ y, y ≤ 121 → T0.2.1 29 y = nI (c y)) (hcl : ∀ y, y ≤ 121 → c y ≤ 1000000) (hV : ∀ x, V x ≤ 1000000) (hV0 : V 0 = 0) : ∀ D x n T, x + D = 121 → D + 1 ≤ n → T.1 = T0.1 → T.2.2 = T0.2.2 → (∀ r, r ≠ 30 → T.2.1 r = T0.2.1 r) → (∀ y, y ≤ 120 → T.2.1 30 y = nI (if 1 ≤ y ∧ y < x then tmN (V y) (c (y + ldN T0 a b)) else V y)) →
    ∃ T', m_X9_aimsWin_L56 n T (nI a) (nI b) (nI x) = some T' ∧ T'.1 = T0.1 ∧ T'.2.2 = T0.2.2 ∧ (∀ r, r ≠ 30 → T'.2.1 r = T0.2.1 r) ∧ (∀ y, y ≤ 120 → T'.2.1 30 y = nI (if 1 ≤ y ∧ y < 121 then tmN (V y) (c (y + ldN T0 a b)) else V y)) := by
  intro D
  induction D with
  | zero =>
    intro x n T hx hn t1 t2 t3 h
    obtain ⟨m, rfl⟩ : ∃ m, n = m + 1 := ⟨n - 1, by omega⟩
    refine ⟨T, ?_, t1, t2, t3, fun y hy => by rw [h y hy, show x = 121 by omega]⟩
    unfold m_X9_aimsWin_L56
    rw [lit32 121, if_pos (by rw [leN (by omega) (by omega)]; omega)]
  | succ D ih =>
    intro x n T hx hn t1 t2 t3 h
    obtain ⟨m, rfl⟩ : ∃ m, n = m + 1 := ⟨n - 1, by omega⟩
    have hET : EqT T0 T := ⟨⟨by rw [t1], by rw [t1], by rw [t1], by rw [t1], by rw [t1]⟩, fun a z1 z2 => t3 a (by omega), t3 11 (by omega), t3 15 (by omega), t3 17 (by omega)⟩
    unfold m_X9_aimsWin_L56
    simp only [nmE]
    rw [lit32 121, if_neg (by rw [leN (by omega) (by omega)]; omega), ckN (by omega) (by omega), beatBy9 (hv.congrT hET) ha hb (c := c) (fun y hy => by rw [t3 29 (by omega)]; exact hc y hy) hcl (by omega), ldN_eqT hET]
    simp only [Option.bind_some]
    rw [ckN (by omega) (by omega), clN (by omega), h x (by omega), if_neg (show ¬ (1 ≤ x ∧ x < x) by omega), s1]
    have hcx := hcl (x + ldN T0 a b) (by have := ldN_le T0 a b; omega)
    have hb : V x * (if x = 0 then 0 else 1000000 - c (x + ldN T0 a b)) ≤ 1000000 * 1000000 := Nat.mul_le_mul (hV x) (by split <;> omega)
    rw [nI_l (nI_lt31 (by have := hV x; omega)), nI_l (nI_lt31 (by split <;> omega)), lN_mul, show (1000000 : Int64) = lN 1000000 from rfl, pk_lDiv (by omega) (by omega) (by omega), lN_i]
    exact ih (x + 1) m _ (by omega) (by omega) t1 t2 (fun r q => by rw [sA_row q]; exact t3 r q) (fun y hy => by
      by_cases cy : y = x
      · subst cy
        rw [sA_eq]
        by_cases q0 : y = 0
        · subst q0
          rw [hV0, if_pos rfl, if_neg (by omega)]
        · rw [if_neg q0, if_pos (by omega)]; rfl
      · rw [sA_ne cy, h y hy]
        by_cases q2 : 1 ≤ y ∧ y < x
        · rw [if_pos q2, if_pos (by omega)]
        · rw [if_neg q2, if_neg (by omega)])
theorem win33_L {ib ab k l : Nat} {S T0 : St} (hv : VR ib ab k S T0) (hl : l < k) : ∀ D i n T, i + D = k → D + 270 ≤ n → T.1 = T0.1 → T.2.2 = T0.2.2 → (∀ r, (r < 28 ∨ 30 < r) → T.2.1 r = T0.2.1 r) → (∀ y, y ≤ 120 → T.2.1 30 y = nI (pwN (cT T0) (ldN T0 l) l i y)) →
    ∃ T', m_X9_aimsWin_L33 n T (nI l) (nI i) = some T' ∧ T'.1 = T0.1 ∧ T'.2.2 = T0.2.2 ∧ (∀ r, (r < 28 ∨ 30 < r) → T'.2.1 r = T0.2.1 r) ∧ (∀ y, y ≤ 120 → T'.2.1 30 y = nI (pwN (cT T0) (ldN T0 l) l k y)) := by
  have hk := hv.1
  intro D
  induction D with
  | zero =>
    intro i n T hi hn t1 t2 t3 h
    obtain ⟨m, rfl⟩ : ∃ m, n = m + 1 := ⟨n - 1, by omega⟩
    refine ⟨T, ?_, t1, t2, t3, fun y hy => by rw [h y hy, show i = k by omega]⟩
    unfold m_X9_aimsWin_L33
    rw [t1, hv.2.1, if_pos (by rw [leN (by omega) (by omega)]; omega)]
  | succ D ih =>
    intro i n T hi hn t1 t2 t3 h
    obtain ⟨m, rfl⟩ : ∃ m, n = m + 1 := ⟨n - 1, by omega⟩
    have hET : EqT T0 T := ⟨⟨by rw [t1], by rw [t1], by rw [t1], by rw [t1], by rw [t1]⟩, fun a z1 z2 => t3 a (by omega), t3 11 (by omega), t3 15 (by omega), t3 17 (by omega)⟩
    unfold m_X9_aimsWin_L33
    rw [t1, hv.2.1, if_neg (by rw [leN (by omega) (by omega)]; omega), ifeqN (by omega) (by omega), s1]
    by_cases c : i = l
    · rw [if_pos c]
      exact ih (i + 1) m T (by omega) (by omega) t1 t2 t3 (fun y hy => by
        rw [h y hy]
        show _ = nI (if i = l then pwN (cT T0) (ldN T0 l) l i y else _)
        rw [if_pos c])
    · rw [if_neg c]
      have hvT := hv.congrT hET
      obtain ⟨T1, q1, q2, q3, q4, q5⟩ := chances9 (n := m) hvT (show i < k by omega) (now_T hvT (show i < k by omega)) (by omega)
      rw [q1]
      simp only [Option.bind_some]
      have hET1 : EqT T0 T1 := hET.trans ⟨⟨by rw [q2], by rw [q2], by rw [q2], by rw [q2], by rw [q2]⟩, fun a z1 z2 => q4 a (by omega) (by omega), q4 11 (by omega) (by omega), q4 15 (by omega) (by omega), q4 17 (by omega) (by omega)⟩
      obtain ⟨T2, u1, u2, u3, u4, u5⟩ := win56_L (hv.congrT hET1) hl (show i < k by omega) (c := cT T0 i) (V := pwN (cT T0) (ldN T0 l) l i) (fun y hy => by rw [q5 y hy]; exact congrArg nI (cT_eqT hET i y)) (fun y _ => cT_le hv (show i < k by omega) y) (pwN_le _ _ _ i) (pwN_0 _ _ _ i) 121 0 m T1 (by omega) (by omega) rfl rfl (fun _ _ => rfl) (fun y hy => by rw [if_neg (by omega), q4 30 (by omega) (by omega)]; exact h y hy)
      rw [show m_X9_aimsWin_L56 m T1 (nI l) (nI i) 0 = _ from u1]
      simp only [Option.bind_some]
      exact ih (i + 1) m T2 (by omega) (by omega) (by rw [u2, q2]; exact t1) (by rw [u3, q3]; exact t2) (fun r hr => by rw [u4 r (by omega), q4 r (by omega) (by omega)]; exact t3 r hr) (fun y hy => by
        rw [u5 y hy, ldN_eqT hET1]
        show _ = nI (if i = l then pwN (cT T0) (ldN T0 l) l i y else if 1 ≤ y ∧ y < 121 then tmN (pwN (cT T0) (ldN T0 l) l i y) (cT T0 i (y + ldN T0 l i)) else pwN (cT T0) (ldN T0 l) l i y)
        rw [if_neg c])
theorem win103_L : ∀ D x n T, x + D = 121 → D + 1 ≤ n → ∀ V : Nat → Nat, (∀ y, y ≤ 120 → T.2.1 30 y = nI (V y)) → (∀ y, y < x → T.2.1 28 y = nI (V y)) → ∃ T', m_X9_aimsWin_L103 n T (nI x) = some T' ∧ T'.1 = T.1 ∧ T'.2.2 = T.2.2 ∧ (∀ a, a ≠ 28 → T'.2.1 a = T.2.1 a) ∧ (∀ y, y ≤ 120 → T'.2.1 28 y = nI (V y)) := by
  intro D
  induction D with
  | zero =>
    intro x n T hx hn V hV h
    obtain ⟨m, rfl⟩ : ∃ m, n = m + 1 := ⟨n - 1, by omega⟩
    refine ⟨T, ?_, rfl, rfl, fun _ _ => rfl, fun y hy => h y (by omega)⟩
    unfold m_X9_aimsWin_L103
    rw [lit32 121, if_pos (by rw [leN (by omega) (by omega)]; omega)]
  | succ D ih =>
    intro x n T hx hn V hV h
    obtain ⟨m, rfl⟩ : ∃ m, n = m + 1 := ⟨n - 1, by omega⟩
    obtain ⟨T', e1, e2, e3, e4, e5⟩ := ih (x + 1) m (sA T 28 x (nI (V x))) (by omega) (by omega) V (fun y hy => by rw [sA_row (by omega)]; exact hV y hy) (fun y hy => by
      by_cases c : y = x
      · subst c; exact sA_eq
      · rw [sA_ne c]; exact h y (by omega))
    refine ⟨T', ?_, e2, e3, fun a ha => (e4 a ha).trans (sA_row ha), e5⟩
    unfold m_X9_aimsWin_L103
    simp only [nmE]
    rw [lit32 121, if_neg (by rw [leN (by omega) (by omega)]; omega), ckN (by omega) (by omega), ckN (by omega) (by omega), clN (by omega), hV x (by omega), s1]
    exact e1
theorem aimsWin9 {ib ab k l n : Nat} {S T : St} (hv : VR ib ab k S T) (hl : l < k) (hn : 300 ≤ n) :
    ∃ T', m_X9_aimsWin n T (nI l) = some T' ∧ T'.1 = T.1 ∧ T'.2.2 = T.2.2 ∧ (∀ r, (r < 28 ∨ 30 < r) → T'.2.1 r = T.2.1 r) ∧ (∀ y, y ≤ 120 → T'.2.1 28 y = nI (pwN (cT T) (ldN T l) l k y)) := by
  have hk := hv.1
  obtain ⟨T1, a1, a2, a3, a4, a5⟩ := win2_L (l := l) 121 0 n T (by omega) (by omega) (fun y hy => absurd hy (by omega))
  obtain ⟨T2, b1, b2, b3, b4, b5⟩ := win33_L hv hl k 0 n T1 (by omega) (by omega) a2 a3 (fun r hr => a4 r (by omega)) a5
  obtain ⟨T3, c1, c2, c3, c4, c5⟩ := win103_L 121 0 n T2 (by omega) (by omega) _ b5 (fun y hy => absurd hy (by omega))
  refine ⟨T3, ?_, by rw [c2]; exact b2, by rw [c3]; exact b3, fun r hr => by rw [c4 r (by omega)]; exact b4 r hr, c5⟩
  unfold m_X9_aimsWin
  rw [show m_X9_aimsWin_L2 n T (nI l) 0 = _ from a1]
  simp only [Option.bind_some]
  rw [show m_X9_aimsWin_L33 n T1 (nI l) 0 = _ from b1]
  simp only [Option.bind_some]
  rw [show m_X9_aimsWin_L103 n T2 0 = _ from c1]
  rfl
/-! what stays of the class, whatever chances are laid -/
def FrD (S S' : St) : Prop := (∀ i, (i < 50 ∨ 61 < i) → S'.1 i = S.1 i) ∧ (∀ a, a ≠ 45 → (a < 48 ∨ 50 < a) → (a < 52 ∨ 57 < a) → S'.2.1 a = S.2.1 a) ∧ S'.2.2.1 = S.2.2.1 ∧ (∀ j, j ≠ 0 → j ≠ 1 → S'.2.2.2 j = S.2.2.2 j) ∧ (S'.2.2.2 0 = S.2.2.2 0 ∨ ∃ l, l < 7 ∧ S'.2.2.2 0 = some l)
theorem FrD.rfl (S : St) : FrD S S := ⟨fun _ _ => Eq.refl _, fun _ _ _ _ => Eq.refl _, Eq.refl _, fun _ _ _ => Eq.refl _, Or.inl (Eq.refl _)⟩
theorem FrD.trans {S S' S2 : St} (h : FrD S S') (g : FrD S' S2) : FrD S S2 := by
  refine ⟨fun i a => (g.1 i a).trans (h.1 i a), fun i a b c => (g.2.1 i a b c).trans (h.2.1 i a b c), g.2.2.1.trans h.2.2.1, fun j a b => (g.2.2.2.1 j a b).trans (h.2.2.2.1 j a b), ?_⟩
  rcases g.2.2.2.2 with q | q
  · rcases h.2.2.2.2 with z | ⟨l, z1, z2⟩
    · exact Or.inl (q.trans z)
    · exact Or.inr ⟨l, z1, q.trans z2⟩
  · exact Or.inr q
theorem FrC.fd {l : Nat} (hl : l < 6) {S S' : St} (h : FrC l S S') : FrD S S' := ⟨h.1, fun a q1 q2 q3 => h.2.1 a q1 q2 (by omega), h.2.2.1, h.2.2.2.1, Or.inr h.2.2.2.2⟩
theorem FrG.fd {S S' : St} (h : FrG S S') : FrD S S' := ⟨fun i hi => h.1 i (by omega), fun a q1 _ _ => h.2.1 a q1, by rw [h.2.2], fun j _ _ => by rw [h.2.2], Or.inl (by rw [h.2.2])⟩
theorem FrV.fd {S S' : St} (h : FrV S S') : FrD S S' := ⟨fun i hi => by rcases hi with q | q; exact h.1 i q; exact h.2.1 i (by omega), fun a _ q _ => h.2.2.1 a q, h.2.2.2.1, h.2.2.2.2.1, Or.inr h.2.2.2.2.2⟩
theorem FrD.eqs {S S' : St} (h : FrD S S') : EqS S S' := ⟨fun i _ _ => h.1 i (by omega), fun a ha => h.2.1 a (by omega) (by omega) (by omega)⟩
theorem FrD.ref {S S' : St} {oF oP : Option St} (v : FrD S S') (hf : RefR S oF oP) : RefR S' oF oP := by
  refine ⟨?_, ?_, ?_⟩
  · rw [v.2.2.2.1 2 (by omega) (by omega)]; exact hf.1
  · rw [v.2.2.2.1 3 (by omega) (by omega)]; exact hf.2.1
  · rcases v.2.2.2.2 with q | q
    · rw [q]; exact hf.2.2
    · exact Or.inr q
theorem RelB.fd {S S' T T' : St} {oF oP : Option St} (h : RelB S oF oP T) (v : FrD S S') (t1 : T'.1 = T.1) (t2 : T'.2.2 = T.2.2) (t3 : ∀ a, (a < 28 ∨ 30 < a) → T'.2.1 a = T.2.1 a) : RelB S' oF oP T' := by
  obtain ⟨hf, ⟨t, ht, r1, r2, r3⟩, k, hc⟩ := h
  refine ⟨v.ref hf, ⟨t, ht, ?_, ?_, fun j hj => ?_⟩, k, hc.congr v.eqs ⟨⟨by rw [t1], by rw [t1], by rw [t1], by rw [t1], by rw [t1]⟩, fun a q1 q2 => t3 a (by omega), t3 11 (by omega), t3 15 (by omega), t3 17 (by omega)⟩⟩
  · rw [v.1 0 (by omega)]; exact r1
  · rw [t1]; exact r2
  · rw [v.2.2.1, t2]; exact r3 j hj
theorem wins12_L {k : Nat} {T : St} : ∀ D i n S x1, i + D = k → D + 260 ≤ n → VR 30 25 k S T → (∀ j, j < i → ∀ y, y ≤ 121 → S.2.1 (52 + j) y = nI (cT T j y)) →
    ∃ S', m_X8_wins_L12 n S x1 (nI i) = some S' ∧ FrD S S' ∧ (∀ j, j < k → ∀ y, y ≤ 121 → S'.2.1 (52 + j) y = nI (cT T j y)) := by
  intro D
  induction D with
  | zero =>
    intro i n S x1 hi hn hv hc
    obtain ⟨m, rfl⟩ : ∃ m, n = m + 1 := ⟨n - 1, by omega⟩
    have hk := hv.1
    refine ⟨S, ?_, FrD.rfl S, fun j hj => hc j (by omega)⟩
    unfold m_X8_wins_L12
    rw [show S.1 30 = nI k from hv.size, if_pos (by rw [leN (by omega) (by omega)]; omega)]
  | succ D ih =>
    intro i n S x1 hi hn hv hc
    obtain ⟨m, rfl⟩ : ∃ m, n = m + 1 := ⟨n - 1, by omega⟩
    have hk := hv.1
    obtain ⟨S1, p1, p2, p3⟩ := chances8 (n := m) hv (show i < k by omega) (now_T hv (show i < k by omega)) (by omega)
    obtain ⟨S', e1, e2, e3⟩ := ih (i + 1) m S1 x1 (by omega) (by omega) (hv.congr p2.eqs (EqT.rfl T)) (fun j hj y hy => by
      by_cases c : j = i
      · subst c; exact p3 y hy
      · rw [p2.2.1 (52 + j) (by omega) (by omega) (by omega)]; exact hc j (by omega) y hy)
    refine ⟨S', ?_, (p2.fd (by omega)).trans e2, e3⟩
    unfold m_X8_wins_L12
    rw [show S.1 30 = nI k from hv.size, if_neg (by rw [leN (by omega) (by omega)]; omega), p1]
    simp only [Option.bind_some]
    rw [s1]
    exact e1
/-- the chance of l to win -/
def wT (T : St) (k l : Nat) : Nat := pT T l 0 (pwN (cT T) (ldN T l) l k)
theorem wT_eqT {T T' : St} (h : EqT T T') (k l : Nat) : wT T' k l = wT T k l := by
  unfold wT
  rw [pT_eqT h, show cT T' = cT T from funext fun a => funext fun b => cT_eqT h a b, show ldN T' l = ldN T l from funext fun b => ldN_eqT h l b]
theorem wT_le {ib ab k l : Nat} {S T : St} (hv : VR ib ab k S T) (hl : l < k) : wT T k l ≤ 1000000 := pvN_le hv hl (now_T hv hl) (by omega) (fun x _ => pwN_le _ _ _ k x)
theorem wins36_L {k : Nat} {T : St} : ∀ D i n S x1, i + D = k → D + 160 ≤ n → VR 30 25 k S T → (∀ j, j < k → ∀ y, y ≤ 121 → S.2.1 (52 + j) y = nI (cT T j y)) → (∀ j, j < i → S.2.2.1 58 j = (nI (wT T k j)).toInt64) →
    ∃ S', m_X8_wins_L36 n S x1 (nI i) = some S' ∧ (∀ i, (i < 50 ∨ 61 < i) → S'.1 i = S.1 i) ∧ EqS S S' ∧ (∀ j, j ≠ 0 → j ≠ 1 → S'.2.2.2 j = S.2.2.2 j) ∧ (S'.2.2.2 0 = S.2.2.2 0 ∨ ∃ l, l < 7 ∧ S'.2.2.2 0 = some l) ∧ (∀ j, j < k → S'.2.2.1 58 j = (nI (wT T k j)).toInt64) := by
  intro D
  induction D with
  | zero =>
    intro i n S x1 hi hn hv hc h
    obtain ⟨m, rfl⟩ : ∃ m, n = m + 1 := ⟨n - 1, by omega⟩
    have hk := hv.1
    refine ⟨S, ?_, fun _ _ => rfl, EqS.rfl S, fun _ _ _ => rfl, Or.inl rfl, fun j hj => h j (by omega)⟩
    unfold m_X8_wins_L36
    rw [show S.1 30 = nI k from hv.size, if_pos (by rw [leN (by omega) (by omega)]; omega)]
  | succ D ih =>
    intro i n S x1 hi hn hv hc h
    obtain ⟨m, rfl⟩ : ∃ m, n = m + 1 := ⟨n - 1, by omega⟩
    have hk := hv.1
    have hik : i < k := by omega
    obtain ⟨S1, a1, a2, a3, a4⟩ := aheadAll8 (n := m) hv hik (by omega) (fun j hj _ => hc j hj)
    have hv1 : VR 30 25 k S1 T := hv.congr a2.eqs (EqT.rfl T)
    obtain ⟨S2, c1, c2⟩ := byPlan8 (n := m) (out := 0) (W := pwN (cT T) (ldN T i) i k) hv1 hik (now_T hv hik) (by omega) a3 a4 (by omega) (fun x _ => pwN_le _ _ _ k x)
    have hD : FrD S S2 := a2.fd.trans c2.fd
    obtain ⟨S', e1, e2, e3, e4, e5, e6⟩ := ih (i + 1) m (sJ S2 58 i (nI (wT T k i)).toInt64) x1 (by omega) (by omega) (hv.congr hD.eqs (EqT.rfl T)) (fun j hj y hy => by
      show S2.2.1 (52 + j) y = _
      rw [c2.2.2.1 (52 + j) (by omega), a2.2.1 (52 + j) (by omega)]; exact hc j hj y hy) (fun j hj => by
      rw [sJ_221, if_pos rfl]
      by_cases c : j = i
      · rw [if_pos c, c]
      · rw [if_neg c, hD.2.2.1]; exact h j (by omega))
    refine ⟨S', ?_, fun i hi => (e2 i hi).trans (hD.1 i hi), hD.eqs.trans e3, fun j z0 z1 => (e4 j z0 z1).trans (hD.2.2.2.1 j z0 z1), ?_, e6⟩
    · unfold m_X8_wins_L36
      simp only [nmE]
      rw [show S.1 30 = nI k from hv.size, if_neg (by rw [leN (by omega) (by omega)]; omega), a1]
      simp only [Option.bind_some]
      rw [c1]
      simp only [Option.bind_some]
      rw [ckN (by omega) (by omega), clN (by omega), s1]
      exact e1
    · rcases e5 with q | q
      · rcases hD.2.2.2.2 with z | ⟨l, z1, z2⟩
        · exact Or.inl (q.trans z)
        · exact Or.inr ⟨l, z1, q.trans z2⟩
      · exact Or.inr q
theorem wins22_L {k : Nat} {S T0 : St} (hv : VR 30 25 k S T0) : ∀ D i n T x1, i + D = k → D + 310 ≤ n → EqT T0 T → T.1 1 = nI i → (∀ j, j < i → T.2.2.1 2 j = (nI (wT T0 k j)).toInt64) →
    ∃ T', m_X9_wins_L22 n T x1 (nI i) = some T' ∧ EqT T0 T' ∧ T'.1 1 = nI k ∧ (∀ j, j < k → T'.2.2.1 2 j = (nI (wT T0 k j)).toInt64) := by
  have hk := hv.1
  intro D
  induction D with
  | zero =>
    intro i n T x1 hi hn hT e h
    obtain ⟨m, rfl⟩ : ∃ m, n = m + 1 := ⟨n - 1, by omega⟩
    refine ⟨T, ?_, hT, by rw [e, show i = k by omega], fun j hj => h j (by omega)⟩
    unfold m_X9_wins_L22
    rw [(hv.congrT hT).2.1, if_pos (by rw [leN (by omega) (by omega)]; omega)]
  | succ D ih =>
    intro i n T x1 hi hn hT e h
    obtain ⟨m, rfl⟩ : ∃ m, n = m + 1 := ⟨n - 1, by omega⟩
    have hvT := hv.congrT hT
    have hik : i < k := by omega
    obtain ⟨T1, q1, q2, q3, q4, q5⟩ := aimsWin9 (n := m) hvT hik (by omega)
    have hT1 : EqT T T1 := ⟨⟨by rw [q2], by rw [q2], by rw [q2], by rw [q2], by rw [q2]⟩, fun a z1 z2 => q4 a (by omega), q4 11 (by omega), q4 15 (by omega), q4 17 (by omega)⟩
    have r := planNow9 (n := m) (W := pwN (cT T) (ldN T i) i k) (hvT.congrT hT1) hik ((now_T hvT hik).congr (hT1.2.2.1)) (by omega) q5 (fun x _ => pwN_le _ _ _ k x)
    rw [pwN_0] at r
    have ev : m_X9_planNow m T1 (nI i) = some (nI (wT T0 k i)) := by
      rw [r, pvN_eqT hT1, ← wT_eqT hT]
      rfl
    obtain ⟨T', e1, e2, e3, e4⟩ := ih (i + 1) m (sI (sJ T1 2 i (nI (wT T0 k i)).toInt64) 1 (nI (i + 1))) x1 (by omega) (by omega) (EqT.note (hT.trans hT1) _ _ _) rfl (fun j hj => by
      show (sJ T1 2 i (nI (wT T0 k i)).toInt64).2.2.1 2 j = _
      rw [sJ_221, if_pos rfl]
      by_cases c : j = i
      · rw [if_pos c, c]
      · rw [if_neg c, q3]; exact h j (by omega))
    refine ⟨T', ?_, e2, e3, e4⟩
    unfold m_X9_wins_L22 m_X9_winOf
    rw [hvT.2.1, if_neg (by rw [leN (by omega) (by omega)]; omega), q1]
    simp only [Option.bind_some]
    rw [ev]
    simp only [Option.bind_some]
    rw [notes_eq (t := i) (by omega) (by rw [q2]; exact e)]
    simp only [Option.bind_some]
    rw [s1]
    exact e1
/-- wins -/
theorem hb_21 (n : Nat) (hn : 500 ≤ n) : HB_21 n RelB := by
  intro S oF oP T a1 hR
  obtain ⟨hf, hro, k, hc⟩ := id hR
  have hv := hc.vr.congrT (EqT.thr T 0)
  have hk := hv.1
  unfold m_X8_wins m_X9_wins
  simp only [nmE]
  rcases isL hv a1 with ⟨l, hl, rfl, e1, e2⟩ | ⟨e1, e2⟩
  · rw [e1, e2]
    simp only [Option.bind_some, b10, if_false]
    obtain ⟨S1, a1', a2', a3'⟩ := wins12_L (T := sI T 0 0) k 0 n S (nI l) (by omega) (by omega) hv (fun j hj => absurd hj (by omega))
    have hv1 := hv.congr a2'.eqs (EqT.rfl _)
    obtain ⟨S2, b1, b2, b3, b4, b5, b6⟩ := wins36_L (T := sI T 0 0) k 0 n S1 (nI l) (by omega) (by omega) hv1 a3' (fun j hj => absurd hj (by omega))
    have hT1 : EqT (sI T 0 0) (sI (sI T 0 0) 1 0) := EqT.rfl _
    obtain ⟨T2, c1, c2, c3, c4⟩ := wins22_L hv k 0 n (sI (sI T 0 0) 1 0) (nI l) (by omega) (by omega) hT1 rfl (fun j hj => absurd hj (by omega))
    rw [show m_X8_wins_L12 n S (nI l) 0 = _ from a1', show m_X9_wins_L22 n (sI (sI T 0 0) 1 0) (nI l) 0 = _ from c1]
    simp only [Option.bind_some]
    rw [show m_X8_wins_L36 n S1 (nI l) 0 = _ from b1]
    simp only [Option.bind_some]
    have e30 : S2.1 30 = nI k := (hv1.congr b3 (EqT.rfl _)).size
    rw [ckN (by omega) (by omega), ckN (by omega) (by omega), clN (by omega), e30, show (sI S2 0 (nI k)).2.2.1 58 l = _ from b6 l hl, c4 l hl]
    refine ⟨_, _, _, rfl, rfl, ?_, ⟨k, by omega, rfl, c3, fun j hj => ?_⟩, k, hc.congr (EqS.told (a2'.eqs.trans b3) _) ((EqT.thr T 0).trans c2)⟩
    · refine ⟨?_, ?_, ?_⟩
      · have : (sI S2 0 (nI k)).2.2.2 2 = S.2.2.2 2 := (b4 2 (by omega) (by omega)).trans (a2'.2.2.2.1 2 (by omega) (by omega))
        rw [this]; exact hf.1
      · have : (sI S2 0 (nI k)).2.2.2 3 = S.2.2.2 3 := (b4 3 (by omega) (by omega)).trans (a2'.2.2.2.1 3 (by omega) (by omega))
        rw [this]; exact hf.2.1
      · show S2.2.2.2 0 = none ∨ ∃ j, j < 7 ∧ S2.2.2.2 0 = some j
        rcases b5 with q | q
        · rw [q]; exact (a2'.ref hf).2.2
        · exact Or.inr q
    · show S2.2.2.1 58 j = _
      rw [b6 j hj, c4 j hj]
  · rw [e1, e2]
    exact ⟨-1, _, _, rfl, rfl, hR.thr 0⟩
/-! all three fail -/
def ffN (v p : Nat) : Nat := v * (1000 - p) / 1000
theorem ffN_le {v p M : Nat} (h : v ≤ M) : ffN v p ≤ M := by
  unfold ffN
  apply Nat.div_le_of_le_mul
  rw [Nat.mul_comm v]
  exact Nat.mul_le_mul (by omega) h
theorem fails9 (T : St) {v p : Nat} (hv : v ≤ 1000000) (hp : p ≤ 1000) : m_X9_failsToo T (nI v) (nI p) = some (nI (ffN v p)) := by
  unfold m_X9_failsToo ffN
  have hb : v * (1000 - p) ≤ 1000000 * 1000 := Nat.mul_le_mul hv (by omega)
  rw [lit32 1000, subN hp, nI_l (nI_lt31 (by omega)), nI_l (nI_lt31 (by omega)), lN_mul, show (1000 : Int64) = lN 1000 from rfl, pk_lDiv (by omega) (by omega) (by omega), lN_i]
def afN (D : Nat → Nat → Nat) (st : Nat) : Nat → Nat → Nat → Nat → Nat
  | 0, _, v, _ => v
  | d + 1, i, v, x => if 40 < x then v else afN D st d (i + 1) (ffN v (D x i)) (x + st)
theorem fail8_L {k l t st : Nat} {S T : St} (hv : VR 30 25 k S T) (hl : l < k) (ht : t < 3) (hst : st ≤ 9) : ∀ d i n v x, i + d = 3 → d + 1 ≤ n → v ≤ 1000000 → 1 ≤ x → x ≤ 1000 → m_X8_allFail_L10 n S (nI l) (nI t) (nI st) (nI v) (nI x) (nI i) = some (nI (afN (odN T l t) st d i v x)) := by
  have hk := hv.1
  intro d
  induction d with
  | zero =>
    intro i n v x hi hn hvl hx1 hx2
    obtain ⟨m, rfl⟩ : ∃ m, n = m + 1 := ⟨n - 1, by omega⟩
    unfold m_X8_allFail_L10
    rw [lit32 3, if_pos (by rw [leN (by omega) (by omega)]; omega)]
    rfl
  | succ d ih =>
    intro i n v x hi hn hvl hx1 hx2
    obtain ⟨m, rfl⟩ : ∃ m, n = m + 1 := ⟨n - 1, by omega⟩
    unfold m_X8_allFail_L10
    rw [lit32 3, if_neg (by rw [leN (by omega) (by omega)]; omega), lit32 40, ifltN (by omega) (by omega)]
    show _ = some (nI (if 40 < x then v else afN (odN T l t) st d (i + 1) (ffN v (odN T l t x i)) (x + st)))
    by_cases c : 40 < x
    · rw [if_pos c, if_pos c]
    · rw [if_neg c, if_neg c, ckN (by omega) (by omega), clN (by omega), odds8 hv hl ht hx1 (by omega), show S.1 31 = T.1 10 from hv.tire]
      simp only [Option.bind_some]
      have ho := od_nat hv hl ht (show x ≤ 40 by omega) (show i ≤ 3 by omega)
      have eo : mx 0 (tabT T l t (nI x) - nI i * T.1 10) = nI (odN T l t x i) := by rw [← ho.1, Int32.mul_comm]; rfl
      have hb : v * (1000 - odN T l t x i) ≤ 1000000 * 1000 := Nat.mul_le_mul hvl (by omega)
      rw [eo, lit32 1000, subN ho.2, pk_mul, pk_div (nI_lt31 (by omega)) (by omega) (nI_lt31 (by omega)), nI_add, s1]
      exact ih (i + 1) m _ (x + st) (by omega) (by omega) (ffN_le hvl) (by omega) (by omega)
theorem allFail8 {k l t st n x : Nat} {S T : St} (hv : VR 30 25 k S T) (hl : l < k) (ht : t < 3) (hst : st ≤ 9) (hn : 5 ≤ n) (hx1 : 1 ≤ x) (hx2 : x ≤ 40) : m_X8_allFail n S (nI l) (nI t) (nI x) (nI st) = some (nI (afN (odN T l t) st 3 0 1000000 x)) := by
  unfold m_X8_allFail
  rw [show m_X8_allFail_L10 n S (nI l) (nI t) (nI st) 1000000 (nI x) 0 = _ from fail8_L hv hl ht hst 3 0 n 1000000 x (by omega) (by omega) (by omega) hx1 (by omega)]
  rfl
theorem bombs43_L {ib ab k l t : Nat} {S T : St} (hv : VR ib ab k S T) (hl : l < k) (ht : t < 3) : ∀ d i n v x, i + d = 3 → d + 8 ≤ n → v ≤ 1000000 → x ≤ 40 → m_X9_bombs_L43 n T (nI l) (nI t) (nI v) (nI x) (nI i) = some (nI (if x = 0 then v else afN (odN T l t) (plN T l t 2) d i v x)) := by
  have hk := hv.1
  obtain ⟨pe, p1, p2, p3, p4, p5⟩ := pl_nat hv hl ht
  intro d
  induction d with
  | zero =>
    intro i n v x hi hn hvl hx2
    obtain ⟨m, rfl⟩ : ∃ m, n = m + 1 := ⟨n - 1, by omega⟩
    unfold m_X9_bombs_L43
    rw [lit32 3, if_pos (by rw [leN (by omega) (by omega)]; omega)]
    show _ = some (nI (if x = 0 then v else v))
    split <;> rfl
  | succ d ih =>
    intro i n v x hi hn hvl hx2
    obtain ⟨m, rfl⟩ : ∃ m, n = m + 1 := ⟨n - 1, by omega⟩
    unfold m_X9_bombs_L43
    rw [lit32 3, if_neg (by rw [leN (by omega) (by omega)]; omega), ifle0N (by omega)]
    by_cases c : x = 0
    · rw [if_pos (by omega), if_pos c]
    · rw [if_neg (by omega), if_neg c, odds9 hv hl ht (by omega)]
      have ho := od_nat hv hl ht hx2 (show i ≤ 3 by omega)
      rw [ho.1]
      simp only [Option.bind_some]
      rw [fails9 T hvl ho.2]
      simp only [Option.bind_some]
      rw [asks9 (pl := plN T l t 2) 0 (show l < 6 by omega) ht (show i ≤ 2 by omega) hx2 (by omega) (pe 2 (by omega))]
      simp only [Option.bind_some]
      rw [s1]
      show _ = some (nI (if 40 < x then v else afN (odN T l t) (plN T l t 2) d (i + 1) (ffN v (odN T l t x i)) (x + plN T l t 2)))
      rw [if_neg (by omega)]
      unfold nxA
      by_cases q : i = 2
      · rw [if_pos q, show (0 : Int32) = nI 0 from rfl, ih (i + 1) m _ 0 (by omega) (by omega) (ffN_le hvl) (by omega), if_pos rfl, show d = 0 by omega]
        rfl
      · rw [if_neg q]
        by_cases q2 : x + plN T l t 2 ≤ 40
        · rw [if_pos q2, ih (i + 1) m _ _ (by omega) (by omega) (ffN_le hvl) q2, if_neg (by omega)]
        · rw [if_neg q2, show (0 : Int32) = nI 0 from rfl, ih (i + 1) m _ 0 (by omega) (by omega) (ffN_le hvl) (by omega), if_pos rfl]
          obtain ⟨d', rfl⟩ : ∃ q, d = q + 1 := ⟨d - 1, by omega⟩
          show _ = some (nI (if 40 < x + plN T l t 2 then _ else _))
          rw [if_pos (by omega)]
/-- how likely all of a lift fail -/
def bT (T : St) (l t : Nat) : Nat := afN (odN T l t) (plN T l t 2) 3 0 1000000 (plN T l t 0)
theorem bombs8_L {k l : Nat} {T : St} (hl : l < k) : ∀ D t n S x2, t + D = 3 → D + 8 ≤ n → VR 30 25 k S T → (∀ j, j < t → S.2.2.1 58 j = (nI (bT T l j)).toInt64) →
    ∃ S', m_X8_bombs_L40 n S (nI l) x2 l (nI t) = some S' ∧ S'.1 = S.1 ∧ S'.2.1 = S.2.1 ∧ S'.2.2.2 = S.2.2.2 ∧ (∀ j, j < 3 → S'.2.2.1 58 j = (nI (bT T l j)).toInt64) := by
  intro D
  induction D with
  | zero =>
    intro t n S x2 ht hn hv h
    obtain ⟨m, rfl⟩ : ∃ m, n = m + 1 := ⟨n - 1, by omega⟩
    refine ⟨S, ?_, rfl, rfl, rfl, fun j hj => h j (by omega)⟩
    unfold m_X8_bombs_L40
    rw [lit32 3, if_pos (by rw [leN (by omega) (by omega)]; omega)]
  | succ D ih =>
    intro t n S x2 ht hn hv h
    obtain ⟨m, rfl⟩ : ∃ m, n = m + 1 := ⟨n - 1, by omega⟩
    have hk := hv.1
    obtain ⟨pe, p1, p2, p3, p4, p5⟩ := pl_nat hv hl (show t < 3 by omega)
    have hp := ((hv.2.2.2.1 l hl).2.2.2.2.1 t (by omega)).1
    obtain ⟨S', e1, e2, e3, e4, e5⟩ := ih (t + 1) m (sJ S 58 t (nI (bT T l t)).toInt64) x2 (by omega) (by omega) (hv.congr (EqS.rfl S) (EqT.rfl T)) (fun j hj => by
      rw [sJ_221, if_pos rfl]
      by_cases c : j = t
      · rw [if_pos c, c]
      · rw [if_neg c]; exact h j (by omega))
    refine ⟨S', ?_, e2, e3, e4, e5⟩
    unfold m_X8_bombs_L40
    simp only [nmE]
    rw [lit32 3, if_neg (by rw [leN (by omega) (by omega)]; omega), ← lit32 3, m3, s2, ckN (by omega) (by omega), ckN (by omega) (by omega), clN (by omega), clN (by omega), show S.2.1 (6 + 3 * l) (3 * t) = nI (plN T l t 0) from (hp 0 (by omega)).trans (pe 0 (by omega)), show S.2.1 (6 + 3 * l) (3 * t + 2) = nI (plN T l t 2) from (hp 2 (by omega)).trans (pe 2 (by omega)), allFail8 hv hl (show t < 3 by omega) p5 (by omega) p1 p2]
    simp only [Option.bind_some]
    rw [ckN (by omega) (by omega), clN (by omega), s1]
    exact e1
theorem bombs22_L {ib ab k l : Nat} {S T0 : St} (hv : VR ib ab k S T0) (hl : l < k) : ∀ D t n T, t + D = 3 → D + 14 ≤ n → EqT T0 T → T.1 1 = nI t → (∀ j, j < t → T.2.2.1 2 j = (nI (bT T0 l j)).toInt64) →
    ∃ T', m_X9_bombs_L22 n T (nI l) (nI t) = some T' ∧ EqT T0 T' ∧ T'.1 1 = nI 3 ∧ (∀ j, j < 3 → T'.2.2.1 2 j = (nI (bT T0 l j)).toInt64) := by
  have hk := hv.1
  intro D
  induction D with
  | zero =>
    intro t n T ht hn hT e h
    obtain ⟨m, rfl⟩ : ∃ m, n = m + 1 := ⟨n - 1, by omega⟩
    refine ⟨T, ?_, hT, by rw [e, show t = 3 by omega], fun j hj => h j (by omega)⟩
    unfold m_X9_bombs_L22
    rw [lit32 3, if_pos (by rw [leN (by omega) (by omega)]; omega)]
  | succ D ih =>
    intro t n T ht hn hT e h
    obtain ⟨m, rfl⟩ : ∃ m, n = m + 1 := ⟨n - 1, by omega⟩
    have hvT := hv.congrT hT
    obtain ⟨pe, p1, p2, p3, p4, p5⟩ := pl_nat hvT hl (show t < 3 by omega)
    have hbT : bT T l t = bT T0 l t := by unfold bT; rw [odN_eqT hT, plN_eqT hT]
    obtain ⟨T', e1, e2, e3, e4⟩ := ih (t + 1) m (sI (sJ T 2 t (nI (bT T0 l t)).toInt64) 1 (nI (t + 1))) (by omega) (by omega) (EqT.note hT _ _ _) rfl (fun j hj => by
      show (sJ T 2 t (nI (bT T0 l t)).toInt64).2.2.1 2 j = _
      rw [sJ_221, if_pos rfl]
      by_cases c : j = t
      · rw [if_pos c, c]
      · rw [if_neg c]; exact h j (by omega))
    refine ⟨T', ?_, e2, e3, e4⟩
    unfold m_X9_bombs_L22
    rw [lit32 3, if_neg (by rw [leN (by omega) (by omega)]; omega), show m_X9_planOf T (nI l) (nI t) 0 = _ from planOf9 (w := 0) (by omega) (show t < 3 by omega) (by omega), pe 0 (by omega)]
    simp only [Option.bind_some]
    rw [show m_X9_bombs_L43 m T (nI l) (nI t) 1000000 (nI (plN T l t 0)) 0 = _ from bombs43_L hvT hl (show t < 3 by omega) 3 0 m 1000000 (plN T l t 0) (by omega) (by omega) (by omega) p2, if_neg (by omega)]
    simp only [Option.bind_some]
    rw [show afN (odN T l t) (plN T l t 2) 3 0 1000000 (plN T l t 0) = bT T0 l t from hbT, notes_eq (t := t) (by omega) e]
    simp only [Option.bind_some]
    rw [s1]
    exact e1
/-- bombs -/
theorem hb_22 (n : Nat) (hn : 300 ≤ n) : HB_22 n RelB := by
  intro S oF oP T a1 hR
  obtain ⟨hf, hro, k, hc⟩ := id hR
  have hv := hc.vr.congrT (EqT.thr T 0)
  have hk := hv.1
  unfold m_X8_bombs m_X9_bombs
  simp only [nmE]
  rcases isL hv a1 with ⟨l, hl, rfl, e1, e2⟩ | ⟨e1, e2⟩
  · rw [e1, e2]
    simp only [Option.bind_some, b10, if_false]
    obtain ⟨T2, c1, c2, c3, c4⟩ := bombs22_L hv hl 3 0 n (sI (sI T 0 0) 1 0) (by omega) (by omega) (EqT.rfl _) rfl (fun j hj => absurd hj (by omega))
    have hvT := hv.congrT c2
    obtain ⟨S1, p1, p2, p3, p4⟩ := beReach8 (n := n) (w := 1) (S := S) (by omega) (by omega)
    have hN := now_T hvT hl
    obtain ⟨T3, q1, q2, q3, q4⟩ := chanceOf9 (n := n) (w := 1) hvT hl hN (by omega) (by omega)
    obtain ⟨S2, d1, d2⟩ := byPlan8 (n := n) (out := Wr 1 0) (W := Wr 1) (hvT.congr p2.eqs (EqT.rfl _)) hl hN (by omega) p3 p4 (Wr_le 1 0) (fun x _ => Wr_le 1 x)
    have hD : FrD S S2 := p2.fd.trans d2.fd
    obtain ⟨S3, f1, f2, f3, f4, f5⟩ := bombs8_L hl 3 0 n S2 (1000000 - nI (pvN T2 l (nL T2) (nR T2) (nM T2 l 0) (nM T2 l 1) (nM T2 l 4) (nM T2 l 6) (fun t => nM T2 l (7 + t)) (Wr 1 0) (Wr 1) 0)) (by omega) (by omega) (hv.congr hD.eqs (EqT.rfl _)) (fun j hj => absurd hj (by omega))
    rw [show m_X0_beReach n S 1 = _ from p1, show m_X9_bombs_L22 n (sI (sI T 0 0) 1 0) (nI l) 0 = _ from c1]
    simp only [Option.bind_some]
    rw [d1, show m_X9_chanceOf n T2 (nI l) 1 = _ from q1]
    simp only [Option.bind_some]
    rw [ckN (by omega) (by omega), clN (by omega), show m_X8_bombs_L40 n S2 (nI l) _ l 0 = _ from f1]
    simp only [Option.bind_some]
    refine ⟨_, _, _, rfl, rfl, (hD.ref hf).congr f4, ⟨3, by omega, rfl, by rw [q2]; exact c3, fun j hj => ?_⟩, k, hc.congr (EqS.told (hD.eqs.trans ⟨fun i _ _ => by rw [f2], fun a _ => by rw [f3]⟩) _) ((EqT.thr T 0).trans (c2.trans ⟨⟨by rw [q2], by rw [q2], by rw [q2], by rw [q2], by rw [q2]⟩, fun a z1 z2 => q4 a (by omega), q4 11 (by omega), q4 15 (by omega), q4 17 (by omega)⟩))⟩
    show S3.2.2.1 58 j = _
    rw [f5 j hj, q3, c4 j hj]
  · rw [e1, e2]
    exact ⟨-1, _, _, rfl, rfl, hR.thr 0⟩
theorem open51_L {ib ab k l t x : Nat} {S T : St} (hv : VR ib ab k S T) (hl : l < k) (ht : t < 3) (hx : x ≤ 40) : ∀ d i n v x3, i + d = 3 → d + 8 ≤ n → v ≤ 1000000 → m_X9_opener_L51 n T (nI l) (nI t) x3 (nI x) (nI v) (nI i) = some (nI (afN (odN T l t) 0 d i v x)) := by
  have hk := hv.1
  intro d
  induction d with
  | zero =>
    intro i n v x3 hi hn hvl
    obtain ⟨m, rfl⟩ : ∃ m, n = m + 1 := ⟨n - 1, by omega⟩
    unfold m_X9_opener_L51
    rw [lit32 3, if_pos (by rw [leN (by omega) (by omega)]; omega)]
    rfl
  | succ d ih =>
    intro i n v x3 hi hn hvl
    obtain ⟨m, rfl⟩ : ∃ m, n = m + 1 := ⟨n - 1, by omega⟩
    unfold m_X9_opener_L51
    have ho := od_nat hv hl ht hx (show i ≤ 3 by omega)
    rw [lit32 3, if_neg (by rw [leN (by omega) (by omega)]; omega), odds9 hv hl ht (by omega), ho.1]
    simp only [Option.bind_some]
    rw [fails9 T hvl ho.2]
    simp only [Option.bind_some]
    rw [s1, ih (i + 1) m _ x3 (by omega) (by omega) (ffN_le hvl)]
    show _ = some (nI (if 40 < x then v else afN (odN T l t) 0 d (i + 1) (ffN v (odN T l t x i)) (x + 0)))
    rw [if_neg (by omega)]
    rfl
theorem opener_L {k l t : Nat} {S T : St} (hv : VR 30 25 k S T) (hl : l < k) (ht : t < 3) (p : Int32) : ∀ x n n', x ≤ 40 → x + 10 ≤ n → x + 12 ≤ n' → ∃ r, m_X8_opener_L31 n S (nI l) (nI t) p (nI x) = some r ∧ m_X9_opener_L38 n' T (nI l) (nI t) p (nI x) = some (r, T) := by
  intro x
  induction x with
  | zero =>
    intro n n' hx hn hn'
    obtain ⟨m, rfl⟩ : ∃ m, n = m + 1 := ⟨n - 1, by omega⟩
    obtain ⟨m', rfl⟩ : ∃ m, n' = m + 1 := ⟨n' - 1, by omega⟩
    refine ⟨-2, ?_, ?_⟩
    · unfold m_X8_opener_L31
      rw [if_pos (show nI 0 < 1 by decide)]
    · unfold m_X9_opener_L38
      rw [if_pos (show nI 0 ≤ 0 by decide)]
  | succ x ih =>
    intro n n' hx hn hn'
    obtain ⟨m, rfl⟩ : ∃ m, n = m + 1 := ⟨n - 1, by omega⟩
    obtain ⟨m', rfl⟩ : ∃ m, n' = m + 1 := ⟨n' - 1, by omega⟩
    unfold m_X8_opener_L31 m_X9_opener_L38
    rw [if_neg (show ¬ nI (x + 1) < 1 by rw [lit32 1, ltN (by omega) (by omega)]; omega), ifle0N (by omega), if_neg (by omega), show m_X8_allFail m S (nI l) (nI t) (nI (x + 1)) 0 = _ from allFail8 (st := 0) hv hl ht (by omega) (by omega) (by omega) hx, show m_X9_opener_L51 m' T (nI l) (nI t) p (nI (x + 1)) 1000000 0 = _ from open51_L hv hl ht hx 3 0 m' 1000000 p (by omega) (by omega) (by omega)]
    simp only [Option.bind_some]
    rw [pk_m1]
    by_cases c : p < nI (afN (odN T l t) 0 3 0 1000000 (x + 1))
    · rw [if_pos c, if_pos c]
      exact ih m m' (by omega) (by omega) (by omega)
    · rw [if_neg c, if_neg c]
      exact ⟨_, rfl, rfl⟩
/-- opener -/
theorem hb_23 (n : Nat) (hn : 100 ≤ n) : HB_23 n RelB := by
  intro S oF oP T a1 a2 a3 hR
  obtain ⟨hf, hro, k, hc⟩ := id hR
  have hv := hc.vr.congrT (EqT.thr T 0)
  have hk := hv.1
  unfold m_X8_opener m_X9_opener
  simp only [nmE]
  rcases isL hv a1 with ⟨l, hl, rfl, e1, e2⟩ | ⟨e1, e2⟩
  · rw [e1, e2]
    simp only [Option.bind_some, b10, if_false]
    rcases isT S (sI T 0 0) a2 with ⟨t, ht, rfl, f1, f2⟩ | ⟨f1, f2⟩
    · rw [f1, f2]
      simp only [Option.bind_some, b10, if_false]
      have i0 : Int32.toInt 0 = 0 := rfl
      have i6 : Int32.toInt 1000000 = 1000000 := rfl
      have j0 : Int64.toInt 0 = 0 := rfl
      have j6 : Int64.toInt 1000000 = 1000000 := rfl
      by_cases c : 0 ≤ a3.toInt ∧ a3.toInt ≤ 1000000
      · rw [in_yes (by rw [t64, j0]; exact c.1) (by rw [t64, j6]; exact c.2), if_neg (by rw [lt32, i0]; omega), if_pos (by rw [le32, i6]; omega)]
        simp only [Option.bind_some, b10, if_false]
        obtain ⟨r, r1, r2⟩ := opener_L hv hl ht a3 40 n n (by omega) (by omega) (by omega)
        rw [show m_X8_opener_L31 n S (nI l) (nI t) a3 40 = _ from r1, show m_X9_opener_L38 n (sI T 0 0) (nI l) (nI t) a3 40 = _ from r2]
        exact ⟨_, _, rfl, rfl, hR.thr 0⟩
      · rw [in_no (by rw [t64, j0, j6]; omega)]
        refine ⟨-1, _, ?_, rfl, hR.thr 0⟩
        by_cases q : a3 < 0
        · rw [if_pos q]
        · rw [if_neg q, if_neg]
          rw [lt32, i0] at q
          rw [le32, i6]; omega
    · rw [f1, f2]
      exact ⟨-1, _, rfl, rfl, hR.thr 0⟩
  · rw [e1, e2]
    exact ⟨-1, _, rfl, rfl, hR.thr 0⟩
