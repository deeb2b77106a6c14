/-! ===== layer B: the duel; the reference lays its cells ===== -/
theorem more1_L {D : DD} {a b c d : Nat} {T : St} {a0 : Nat} (hw : DW D) (hc : c ≤ 2) (hd : d ≤ 2) (hb : b ≤ 40) (h : c ≠ 0 → ∀ x, a0 ≤ x → x ≤ 40 → T.2.1 37 (cl (c - 1) d x b) = nI (dV D (c - 1) d x b)) :
    ∀ e x n so ch, x + e = 41 → e + 1 ≤ n → a0 ≤ x → so ≤ 1000000 → m_X9_duelLays_L156 n T (nI a) (nI b) (nI c) (nI d) 1 (nI so) (nI ch) (nI x) = some (nI (if c = 0 then so else xf true (fun x => dV D (c - 1) d x b) e x so), nI (if c = 0 then ch else xc true (fun x => dV D (c - 1) d x b) e x so ch)) := by
  intro e
  induction e with
  | zero =>
    intro x n so ch hx hn h0 hso
    obtain ⟨m, rfl⟩ : ∃ m, n = m + 1 := ⟨n - 1, by omega⟩
    unfold m_X9_duelLays_L156
    rw [lit32 40, if_pos (show nI 40 < nI x by rw [ltN (by omega) (by omega)]; omega)]
    show _ = some (nI (if c = 0 then so else so), nI (if c = 0 then ch else ch))
    split <;> rfl
  | succ e ih =>
    intro x n so ch hx hn h0 hso
    obtain ⟨m, rfl⟩ : ∃ m, n = m + 1 := ⟨n - 1, by omega⟩
    unfold m_X9_duelLays_L156
    rw [lit32 40, if_neg (show ¬ nI 40 < nI x by rw [ltN (by omega) (by omega)]; omega), if_neg (show ¬ (1 : Int32) = 0 by decide), Option.bind_some, ifle0N (by omega)]
    by_cases hc0 : c = 0
    · rw [if_pos (show c ≤ 0 by omega), if_pos hc0, if_pos hc0]
    · have q1 := h hc0 x h0 (by omega)
      have q2 := dV_le hw (c := c - 1) (d := d) (show x ≤ 40 by omega) hb
      have hcl := cl_lt (c := c - 1) (d := d) (by omega) hd (show x ≤ 40 by omega) hb
      rw [if_neg (show ¬ c ≤ 0 by omega), if_neg hc0, if_neg hc0, if_neg (show ¬ (1 : Int32) = 0 by decide), show nI c - 1 = nI (c - 1) by rw [lit32 1, subN (by omega)], cell9d, Option.bind_some, ckN hcl (by omega), clN (by omega), q1, Option.bind_some, show m_X9_isBetter T 1 (nI (dV D (c - 1) d x b)) (nI so) = _ from better9 T true q2 hso, Option.bind_some, s1]
      have i1 := ih (x + 1) m (dV D (c - 1) d x b) x (by omega) (by omega) (by omega) q2
      have i2 := ih (x + 1) m so ch (by omega) (by omega) (by omega) hso
      rw [if_neg hc0, if_neg hc0] at i1 i2
      show _ = some (nI (xf true (fun x => dV D (c - 1) d x b) e (x + 1) (bo true so (dV D (c - 1) d x b))), nI (if btr true (dV D (c - 1) d x b) so = true then xc true (fun x => dV D (c - 1) d x b) e (x + 1) (dV D (c - 1) d x b) x else xc true (fun x => dV D (c - 1) d x b) e (x + 1) so ch))
      rw [bo_btr]
      by_cases cb : btr true (dV D (c - 1) d x b) so = true
      · rw [if_pos cb, if_pos cb, if_pos cb, if_neg (show ¬ (1 : Int32) = 0 by decide)]; exact i1
      · rw [if_neg cb, if_neg cb, if_neg cb, if_pos rfl]; exact i2
theorem more0_L {D : DD} {a b c d : Nat} {T : St} {b0 : Nat} (hw : DW D) (hc : c ≤ 2) (hd : d ≤ 2) (ha : a ≤ 40) (h : d ≠ 0 → ∀ x, b0 ≤ x → x ≤ 40 → T.2.1 37 (cl c (d - 1) a x) = nI (dV D c (d - 1) a x)) :
    ∀ e x n so ch, x + e = 41 → e + 1 ≤ n → b0 ≤ x → so ≤ 1000000 → m_X9_duelLays_L156 n T (nI a) (nI b) (nI c) (nI d) 0 (nI so) (nI ch) (nI x) = some (nI (if d = 0 then so else xf false (fun x => dV D c (d - 1) a x) e x so), nI (if d = 0 then ch else xc false (fun x => dV D c (d - 1) a x) e x so ch)) := by
  intro e
  induction e with
  | zero =>
    intro x n so ch hx hn h0 hso
    obtain ⟨m, rfl⟩ : ∃ m, n = m + 1 := ⟨n - 1, by omega⟩
    unfold m_X9_duelLays_L156
    rw [lit32 40, if_pos (show nI 40 < nI x by rw [ltN (by omega) (by omega)]; omega)]
    show _ = some (nI (if d = 0 then so else so), nI (if d = 0 then ch else ch))
    split <;> rfl
  | succ e ih =>
    intro x n so ch hx hn h0 hso
    obtain ⟨m, rfl⟩ : ∃ m, n = m + 1 := ⟨n - 1, by omega⟩
    unfold m_X9_duelLays_L156
    rw [lit32 40, if_neg (show ¬ nI 40 < nI x by rw [ltN (by omega) (by omega)]; omega), if_pos (show (0 : Int32) = 0 from rfl), Option.bind_some, ifle0N (by omega)]
    by_cases hc0 : d = 0
    · rw [if_pos (show d ≤ 0 by omega), if_pos hc0, if_pos hc0]
    · have q1 := h hc0 x h0 (by omega)
      have q2 := dV_le hw (c := c) (d := d - 1) ha (show x ≤ 40 by omega)
      have hcl := cl_lt (c := c) (d := d - 1) hc (by omega) ha (show x ≤ 40 by omega)
      rw [if_neg (show ¬ d ≤ 0 by omega), if_neg hc0, if_neg hc0, if_pos (show (0 : Int32) = 0 from rfl), show nI d - 1 = nI (d - 1) by rw [lit32 1, subN (by omega)], cell9d, Option.bind_some, ckN hcl (by omega), clN (by omega), q1, Option.bind_some, show m_X9_isBetter T 0 (nI (dV D c (d - 1) a x)) (nI so) = _ from better9 T false q2 hso, Option.bind_some, s1]
      have i1 := ih (x + 1) m (dV D c (d - 1) a x) x (by omega) (by omega) (by omega) q2
      have i2 := ih (x + 1) m so ch (by omega) (by omega) (by omega) hso
      rw [if_neg hc0, if_neg hc0] at i1 i2
      show _ = some (nI (xf false (fun x => dV D c (d - 1) a x) e (x + 1) (bo false so (dV D c (d - 1) a x))), nI (if btr false (dV D c (d - 1) a x) so = true then xc false (fun x => dV D c (d - 1) a x) e (x + 1) (dV D c (d - 1) a x) x else xc false (fun x => dV D c (d - 1) a x) e (x + 1) so ch))
      rw [bo_btr]
      by_cases cb : btr false (dV D c (d - 1) a x) so = true
      · rw [if_pos cb, if_pos cb, if_pos cb, if_neg (show ¬ (1 : Int32) = 0 by decide)]; exact i1
      · rw [if_neg cb, if_neg cb, if_neg cb, if_pos rfl]; exact i2
theorem lays9d {D : DD} {k la lb n a b c d : Nat} {S T : St} (h : DF D k la lb S T) (hn : 100 ≤ n) (hc : c ≤ 2) (hd : d ≤ 2) (ha : D.2.2 6 ≤ a) (ha2 : a ≤ 40) (hb : D.2.2 7 ≤ b) (hb2 : b ≤ 40) (h1 : c ≠ 0 → LaidD D T (c - 1) d) (h2 : d ≠ 0 → LaidD D T c (d - 1)) :
    m_X9_duelLays n T (nI a) (nI b) (nI c) (nI d) = some (sA (sA T 37 (cl c d a b) (nI (dV D c d a b))) 38 (cl c d a b) (nI (dC D c d a b))) := by
  have hw := h.wf
  obtain ⟨hv, hla, hlb, hne, h5, h6, h7, h8, h9, h10⟩ := id h
  have hk := hv.1
  have e6 : D.2.2 6 = nM T la 0 := by rw [h7]; rfl
  have e7 : D.2.2 7 = nM T lb 0 := by rw [h7]; rfl
  have e2 : D.2.2 2 = nM T la 9 := by rw [h7]; rfl
  have e3 : D.2.2 3 = nM T lb 9 := by rw [h7]; rfl
  have eoA : D.1 a = odN T la 2 a (nM T la 4) := by rw [h7]; rfl
  have eoB : D.2.1 b = odN T lb 2 b (nM T lb 4) := by rw [h7]; rfl
  have w := hw.2.2.2
  have hcl := cl_lt (c := c) (d := d) hc hd ha2 hb2
  have htv := tV_le hw (c := c) (d := d) ha2 hb2
  unfold m_X9_duelLays
  rw [called9d h ha2 hb2, Option.bind_some]
  by_cases cf : fst D a b = true
  · have hd' : dV D c d a b = if c = 0 then tV D c d a b else xf true (fun x => dV D (c - 1) d x b) (40 - a) (a + 1) (tV D c d a b) := by rw [dV_eq, if_pos cf]
    have hC' : dC D c d a b = if c = 0 then 0 else xc true (fun x => dV D (c - 1) d x b) (40 - a) (a + 1) (tV D c d a b) 0 := by unfold dC; rw [if_pos cf]
    have hm := more1_L (D := D) (T := T) (a := a) (b := b) (c := c) (d := d) (a0 := D.2.2 6) hw hc hd hb2 (fun q x z1 z2 => ((h1 q) x b z1 z2 hb hb2).1) (40 - a) (a + 1) n (tV D c d a b) 0 (by omega) (by omega) (by omega) htv
    have ht : tV D c d a b = mixN (odN T la 2 a (nM T la 4)) (cB D d a b) (cB D d (D.2.2 2) b) := by unfold tV; rw [if_pos cf, eoA]
    rw [if_pos cf]
    simp only [show ¬ (1 : Int32) = 0 by decide, if_false]
    rw [h5, h6, Option.bind_some, Option.bind_some, Option.bind_some, Option.bind_some, Option.bind_some, best1d hv hla h8 h9 (by omega) ha2, Option.bind_some, choosesB9 h (by omega) hd hb hb2 ha2, Option.bind_some, Option.bind_some, best0d hv hla h8 h9, Option.bind_some, ← e2, choosesB9 h (by omega) hd hb hb2 (by omega), Option.bind_some, try9d hv hla h8 h9 ha2 (cB_le hw hb2) (cB_le hw hb2) (by omega), Option.bind_some, ← ht, s1, show m_X9_duelLays_L156 n T (nI a) (nI b) (nI c) (nI d) 1 (nI (tV D c d a b)) 0 (nI (a + 1)) = _ from hm, Option.bind_some, cell9d, Option.bind_some, ckN hcl (by omega), clN (by omega), nmE, cell9d, Option.bind_some, ckN hcl (by omega), nmE, clN (by omega), hd', hC']
  · have hd' : dV D c d a b = if d = 0 then tV D c d a b else xf false (fun x => dV D c (d - 1) a x) (40 - b) (b + 1) (tV D c d a b) := by rw [dV_eq, if_neg cf]
    have hC' : dC D c d a b = if d = 0 then 0 else xc false (fun x => dV D c (d - 1) a x) (40 - b) (b + 1) (tV D c d a b) 0 := by unfold dC; rw [if_neg cf]
    have hm := more0_L (D := D) (T := T) (a := a) (b := b) (c := c) (d := d) (b0 := D.2.2 7) hw hc hd ha2 (fun q x z1 z2 => ((h2 q) a x ha ha2 z1 z2).1) (40 - b) (b + 1) n (tV D c d a b) 0 (by omega) (by omega) (by omega) htv
    have ht : tV D c d a b = mixN (odN T lb 2 b (nM T lb 4)) (cA D c b a) (cA D c (D.2.2 3) a) := by unfold tV; rw [if_neg cf, eoB]
    rw [if_neg cf]
    simp only [if_true]
    rw [h5, h6, Option.bind_some, Option.bind_some, Option.bind_some, Option.bind_some, Option.bind_some, best1d hv hlb h8 h10 (by omega) hb2, Option.bind_some, choosesA9 h (by omega) hc ha ha2 hb2, Option.bind_some, Option.bind_some, best0d hv hlb h8 h10, Option.bind_some, ← e3, choosesA9 h (by omega) hc ha ha2 (by omega), Option.bind_some, try9d hv hlb h8 h10 hb2 (cA_le hw ha2) (cA_le hw ha2) (by omega), Option.bind_some, ← ht, s1, show m_X9_duelLays_L156 n T (nI a) (nI b) (nI c) (nI d) 0 (nI (tV D c d a b)) 0 (nI (b + 1)) = _ from hm, Option.bind_some, cell9d, Option.bind_some, ckN hcl (by omega), clN (by omega), nmE, cell9d, Option.bind_some, ckN hcl (by omega), nmE, clN (by omega), hd', hC']
theorem put2 {T : St} {i : Nat} {u v : Int32} : FrU T (sA (sA T 37 i u) 38 i v) ∧ (sA (sA T 37 i u) 38 i v).2.1 37 i = u ∧ (sA (sA T 37 i u) 38 i v).2.1 38 i = v ∧ ∀ y, y ≠ i → (sA (sA T 37 i u) 38 i v).2.1 37 y = T.2.1 37 y ∧ (sA (sA T 37 i u) 38 i v).2.1 38 y = T.2.1 38 y := by
  refine ⟨⟨rfl, fun a h1 h2 => by rw [sA_row h2, sA_row h1], rfl⟩, ?_, sA_eq, fun y hy => ⟨?_, ?_⟩⟩
  · rw [sA_row (by omega), sA_eq]
  · rw [sA_row (by omega), sA_ne hy]
  · rw [sA_ne hy, sA_row (by omega)]
theorem at77_L {D : DD} {k la lb c d u : Nat} {S : St} (hc : c ≤ 2) (hd : d ≤ 2) (hu : D.2.2 6 ≤ u) (hu2 : u ≤ 40) (x1 x2 x3 x4 x5 : Int32) : ∀ e v n T, v + e = 41 → D.2.2 7 ≤ v → e + 101 ≤ n → DF D k la lb S T → (c ≠ 0 → LaidD D T (c - 1) d) → (d ≠ 0 → LaidD D T c (d - 1)) → (∀ v', D.2.2 7 ≤ v' → v' < v → CellD D T c d u v') →
    ∃ T', m_X9_duelAt_L77 n T x1 x2 x3 x4 x5 (nI c) (nI d) (nI u) (nI v) = some T' ∧ FrU T T' ∧ (∀ y, (y < cl c d u 0 ∨ cl c d u 0 + 41 ≤ y) → T'.2.1 37 y = T.2.1 37 y ∧ T'.2.1 38 y = T.2.1 38 y) ∧ (∀ v', D.2.2 7 ≤ v' → v' ≤ 40 → CellD D T' c d u v') := by
  intro e
  induction e with
  | zero =>
    intro v n T hv hv0 hn hD h1 h2 hcl
    obtain ⟨m, rfl⟩ : ∃ m, n = m + 1 := ⟨n - 1, by omega⟩
    refine ⟨T, ?_, FrU.rfl T, fun _ _ => ⟨rfl, rfl⟩, fun v' q1 q2 => hcl v' q1 (by omega)⟩
    unfold m_X9_duelAt_L77
    rw [lit32 40, if_pos (show nI 40 < nI v by rw [ltN (by omega) (by omega)]; omega)]
  | succ e ih =>
    intro v n T hv hv0 hn hD h1 h2 hcl
    obtain ⟨m, rfl⟩ : ∃ m, n = m + 1 := ⟨n - 1, by omega⟩
    obtain ⟨p1, p2, p3, p4⟩ := put2 (T := T) (i := cl c d u v) (u := nI (dV D c d u v)) (v := nI (dC D c d u v))
    have hl := lays9d (n := m) hD (by omega) hc hd hu hu2 hv0 (show v ≤ 40 by omega) h1 h2
    obtain ⟨T1, hT1⟩ : ∃ T1, T1 = sA (sA T 37 (cl c d u v) (nI (dV D c d u v))) 38 (cl c d u v) (nI (dC D c d u v)) := ⟨_, rfl⟩
    rw [← hT1] at p1 p2 p3 p4 hl
    obtain ⟨T', g1, g2, g3, g4⟩ := ih (v + 1) m T1 (by omega) (by omega) (by omega) (hD.fr p1) (fun q => (h1 q).keep (fun y z1 z2 => p4 y (by unfold cl; omega))) (fun q => (h2 q).keep (fun y z1 z2 => p4 y (by unfold cl; omega))) (fun v' q1 q2 => by
      by_cases cv : v' = v
      · subst cv; exact ⟨p2, p3⟩
      · obtain ⟨z1, z2⟩ := p4 (cl c d u v') (by unfold cl; omega)
        obtain ⟨y1, y2⟩ := hcl v' q1 (by omega)
        exact ⟨z1.trans y1, z2.trans y2⟩)
    refine ⟨T', ?_, p1.trans g2, fun y hy => ?_, g4⟩
    · unfold m_X9_duelAt_L77
      rw [lit32 40, if_neg (show ¬ nI 40 < nI v by rw [ltN (by omega) (by omega)]; omega), hl, Option.bind_some, s1]
      exact g1
    · obtain ⟨z1, z2⟩ := g3 y hy
      obtain ⟨y1, y2⟩ := p4 y (by unfold cl at *; omega)
      exact ⟨z1.trans y1, z2.trans y2⟩
theorem at66_L {D : DD} {k la lb c d : Nat} {S : St} (hc : c ≤ 2) (hd : d ≤ 2) (x1 x2 x3 x5 : Int32) : ∀ e u n T, u + e = 41 → D.2.2 6 ≤ u → e + 150 ≤ n → DF D k la lb S T → (c ≠ 0 → LaidD D T (c - 1) d) → (d ≠ 0 → LaidD D T c (d - 1)) → (∀ u' v', D.2.2 6 ≤ u' → u' < u → D.2.2 7 ≤ v' → v' ≤ 40 → CellD D T c d u' v') →
    ∃ T', m_X9_duelAt_L66 n T x1 x2 x3 (nI (D.2.2 7)) x5 (nI c) (nI d) (nI u) = some T' ∧ FrU T T' ∧ (∀ y, (y < 1681 * (3 * c + d) ∨ 1681 * (3 * c + d) + 1681 ≤ y) → T'.2.1 37 y = T.2.1 37 y ∧ T'.2.1 38 y = T.2.1 38 y) ∧ LaidD D T' c d := by
  intro e
  induction e with
  | zero =>
    intro u n T hu hu0 hn hD h1 h2 hcl
    obtain ⟨m, rfl⟩ : ∃ m, n = m + 1 := ⟨n - 1, by omega⟩
    refine ⟨T, ?_, FrU.rfl T, fun _ _ => ⟨rfl, rfl⟩, fun u' v' q1 q2 q3 q4 => hcl u' v' q1 (by omega) q3 q4⟩
    unfold m_X9_duelAt_L66
    rw [lit32 40, if_pos (show nI 40 < nI u by rw [ltN (by omega) (by omega)]; omega)]
  | succ e ih =>
    intro u n T hu hu0 hn hD h1 h2 hcl
    obtain ⟨m, rfl⟩ : ∃ m, n = m + 1 := ⟨n - 1, by omega⟩
    have hw := hD.wf.2.2.2
    obtain ⟨T1, f1, f2, f3, f4⟩ := at77_L (D := D) (k := k) (la := la) (lb := lb) (S := S) hc hd hu0 (show u ≤ 40 by omega) x1 x2 x3 (nI (D.2.2 7)) x5 (41 - D.2.2 7) (D.2.2 7) m T (by omega) (by omega) (by omega) hD h1 h2 (fun v' q1 q2 => absurd q2 (by omega))
    obtain ⟨T', g1, g2, g3, g4⟩ := ih (u + 1) m T1 (by omega) (by omega) (by omega) (hD.fr f2) (fun q => (h1 q).keep (fun y z1 z2 => f3 y (by unfold cl; omega))) (fun q => (h2 q).keep (fun y z1 z2 => f3 y (by unfold cl; omega))) (fun u' v' q1 q2 q3 q4 => by
      by_cases cv : u' = u
      · subst cv; exact f4 v' q3 q4
      · obtain ⟨z1, z2⟩ := f3 (cl c d u' v') (by unfold cl; omega)
        obtain ⟨y1, y2⟩ := hcl u' v' q1 (by omega) q3 q4
        exact ⟨z1.trans y1, z2.trans y2⟩)
    refine ⟨T', ?_, f2.trans g2, fun y hy => ?_, g4⟩
    · unfold m_X9_duelAt_L66
      rw [lit32 40, if_neg (show ¬ nI 40 < nI u by rw [ltN (by omega) (by omega)]; omega), f1, Option.bind_some, s1]
      exact g1
    · obtain ⟨z1, z2⟩ := g3 y hy
      obtain ⟨y1, y2⟩ := f3 y (by unfold cl; omega)
      exact ⟨z1.trans y1, z2.trans y2⟩
theorem at35_L {D : DD} {k la lb c d s : Nat} {S : St} (hc : c ≤ 2) (hd : d ≤ 2) (hs : s ≤ 4) : ∀ e i n T, i + e = c + 1 → e + 200 ≤ n → DF D k la lb S T → (∀ i' j', i' ≤ c → j' ≤ d → (i' + j' < s ∨ (i' + j' = s ∧ i' < i)) → LaidD D T i' j') →
    ∃ T', m_X9_duelAt_L35 n T (nI c) (nI d) (nI (D.2.2 6)) (nI (D.2.2 7)) (nI s) (nI i) = some T' ∧ FrU T T' ∧ (∀ i' j', i' ≤ c → j' ≤ d → i' + j' ≤ s → LaidD D T' i' j') := by
  intro e
  induction e with
  | zero =>
    intro i n T hi hn hD hcl
    obtain ⟨m, rfl⟩ : ∃ m, n = m + 1 := ⟨n - 1, by omega⟩
    refine ⟨T, ?_, FrU.rfl T, fun i' j' q1 q2 q3 => hcl i' j' q1 q2 (by omega)⟩
    unfold m_X9_duelAt_L35
    rw [if_pos (show nI c < nI i by rw [ltN (by omega) (by omega)]; omega)]
  | succ e ih =>
    intro i n T hi hn hD hcl
    obtain ⟨m, rfl⟩ : ∃ m, n = m + 1 := ⟨n - 1, by omega⟩
    have hw := hD.wf.2.2.2
    have hdi : (nI s - nI i).toInt64.toInt = (s : Int) - i := by rw [t64, pk_sub_toInt (by omega) (by omega)]
    have hd64 : (nI d).toInt64.toInt = (d : Int) := by rw [t64, tiN (by omega)]
    have h064 : Int64.toInt 0 = 0 := rfl
    unfold m_X9_duelAt_L35
    rw [if_neg (show ¬ nI c < nI i by rw [ltN (by omega) (by omega)]; omega)]
    by_cases cj : i ≤ s ∧ s - i ≤ d
    · rw [in_yes (by rw [hdi, h064]; omega) (by rw [hdi, hd64]; omega), Option.bind_some, if_neg (show ¬ (1 : Int32) = 0 by decide), subN cj.1, s1]
      obtain ⟨T1, f1, f2, f3, f4⟩ := at66_L (D := D) (k := k) (la := la) (lb := lb) (S := S) (c := i) (d := s - i) (by omega) (by omega) (nI c) (nI d) (nI (D.2.2 6)) (nI s) (41 - D.2.2 6) (D.2.2 6) m T (by omega) (by omega) (by omega) hD (fun q => hcl (i - 1) (s - i) (by omega) (by omega) (by omega)) (fun q => hcl i (s - i - 1) (by omega) (by omega) (by omega)) (fun u' v' q1 q2 => absurd q2 (by omega))
      obtain ⟨T', g1, g2, g3⟩ := ih (i + 1) m T1 (by omega) (by omega) (hD.fr f2) (fun i' j' q1 q2 q3 => by
        by_cases ci : i' = i ∧ j' = s - i
        · rw [ci.1, ci.2]; exact f4
        · exact (hcl i' j' q1 q2 (by omega)).keep (fun y z1 z2 => f3 y (by omega)))
      refine ⟨T', ?_, f2.trans g2, g3⟩
      rw [f1, Option.bind_some]
      exact g1
    · rw [in_no (by rw [hdi, hd64, h064]; omega), Option.bind_some, if_pos rfl, s1]
      exact ih (i + 1) m T (by omega) (by omega) hD (fun i' j' q1 q2 q3 => hcl i' j' q1 q2 (by omega))
theorem at24_L {D : DD} {k la lb c d : Nat} {S : St} (hc : c ≤ 2) (hd : d ≤ 2) : ∀ e s n T, s + e = c + d + 1 → e + 210 ≤ n → DF D k la lb S T → (∀ i' j', i' ≤ c → j' ≤ d → i' + j' < s → LaidD D T i' j') →
    ∃ T', m_X9_duelAt_L24 n T (nI c) (nI d) (nI (D.2.2 6)) (nI (D.2.2 7)) (nI s) = some T' ∧ FrU T T' ∧ (∀ i' j', i' ≤ c → j' ≤ d → LaidD D T' i' j') := by
  intro e
  induction e with
  | zero =>
    intro s n T hs hn hD hcl
    obtain ⟨m, rfl⟩ : ∃ m, n = m + 1 := ⟨n - 1, by omega⟩
    refine ⟨T, ?_, FrU.rfl T, fun i' j' q1 q2 => hcl i' j' q1 q2 (by omega)⟩
    unfold m_X9_duelAt_L24
    rw [nI_add, if_pos (show nI (c + d) < nI s by rw [ltN (by omega) (by omega)]; omega)]
  | succ e ih =>
    intro s n T hs hn hD hcl
    obtain ⟨m, rfl⟩ : ∃ m, n = m + 1 := ⟨n - 1, by omega⟩
    obtain ⟨T1, f1, f2, f3⟩ := at35_L (D := D) (k := k) (la := la) (lb := lb) (S := S) (s := s) hc hd (by omega) (c + 1) 0 m T (by omega) (by omega) hD (fun i' j' q1 q2 q3 => hcl i' j' q1 q2 (by omega))
    obtain ⟨T', g1, g2, g3⟩ := ih (s + 1) m T1 (by omega) (by omega) (hD.fr f2) (fun i' j' q1 q2 q3 => f3 i' j' q1 q2 (by omega))
    refine ⟨T', ?_, f2.trans g2, g3⟩
    unfold m_X9_duelAt_L24
    rw [nI_add, if_neg (show ¬ nI (c + d) < nI s by rw [ltN (by omega) (by omega)]; omega), show m_X9_duelAt_L35 m T (nI c) (nI d) (nI (D.2.2 6)) (nI (D.2.2 7)) (nI s) 0 = _ from f1, Option.bind_some, s1]
    exact g1
/-- the reference's duel -/
theorem at9d {D : DD} {k la lb c d n : Nat} {S T : St} (hD : DF D k la lb S T) (hc : c ≤ 2) (hd : d ≤ 2) (hn : 220 ≤ n) :
    ∃ T', m_X9_duelAt n T (nI c) (nI d) = some (nI (dV D c d (D.2.2 6) (D.2.2 7)), T') ∧ FrU T T' ∧ LaidD D T' c d := by
  have hw := hD.wf.2.2.2
  obtain ⟨hv, hla, hlb, hne, h5, h6, h7, h8, h9, h10⟩ := id hD
  have hk := hv.1
  have e6 : D.2.2 6 = nM T la 0 := by rw [h7]; rfl
  have e7 : D.2.2 7 = nM T lb 0 := by rw [h7]; rfl
  obtain ⟨T', f1, f2, f3⟩ := at24_L (D := D) (k := k) (la := la) (lb := lb) (S := S) hc hd (c + d + 1) 0 n T (by omega) (by omega) hD (fun i' j' q1 q2 q3 => absurd q3 (by omega))
  refine ⟨T', ?_, f2, f3 c d (by omega) (by omega)⟩
  have hcl := cl_lt (c := c) (d := d) (a := D.2.2 6) (b := D.2.2 7) hc hd (by omega) (by omega)
  have q := (f3 c d (by omega) (by omega) (D.2.2 6) (D.2.2 7) (by omega) (by omega) (by omega) (by omega)).1
  unfold m_X9_duelAt
  rw [h5, h6, of0 (by omega), Option.bind_some, of0 (by omega), Option.bind_some, (duelOwn hv hla h8 h9).1, (duelOwn hv hlb h8 h10).1, ← e6, ← e7, show m_X9_duelAt_L24 n T (nI c) (nI d) (nI (D.2.2 6)) (nI (D.2.2 7)) 0 = _ from f1, Option.bind_some, cell9d, Option.bind_some, ckN hcl (by omega), clN (by omega), q]
