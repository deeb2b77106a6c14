/-! ===== layer B: sign ===== -/
theorem append_step {S : St} {t n : Nat} (ht : t < 240) (e : S.1 1 = nI t) (v x2 : Int32) (h : ¬ x2 < 0) : m_X7_append_L19 (n + 1) S v x2 = m_X7_append_L19 n (sI (sA S 2 t (i2c ((usr v x2) &&& 255))) 1 (nI (t + 1))) v (x2 + (-8)) := by
  conv => lhs; unfold m_X7_append_L19
  simp only [nmE]
  rw [if_neg h, e, ckN ht (by omega), clN (by omega)]
  show m_X7_append_L19 n (sI (sA S 2 t (i2c ((usr v x2) &&& 255))) 1 (S.1 1 + 1)) v (x2 + (-8)) = _
  rw [e, s1]
def byt (v : Int32) (k : Nat) : Int32 := nI (v.toBitVec.toNat / 2 ^ k % 256)
theorem append4 {S : St} {t n : Nat} (ht : t + 4 ≤ 240) (e : S.1 1 = nI t) (hn : 5 ≤ n) (v : Int32) : ∃ S', m_X7_append_L19 n S v 24 = some S' ∧ S'.1 1 = nI (t + 4) ∧ (∀ i, i ≠ 1 → S'.1 i = S.1 i) ∧ (∀ a, a ≠ 2 → S'.2.1 a = S.2.1 a) ∧ S'.2.2 = S.2.2 ∧
    ∀ j, S'.2.1 2 j = if j = t + 3 then byt v 0 else if j = t + 2 then byt v 8 else if j = t + 1 then byt v 16 else if j = t then byt v 24 else S.2.1 2 j := by
  obtain ⟨m, rfl⟩ : ∃ m, n = m + 5 := ⟨n - 5, by omega⟩
  rw [show m + 5 = (m + 4) + 1 from rfl, append_step (by omega) e v 24 (by decide), show (24 : Int32) + (-8) = 16 from rfl, byteU v 24 24 rfl]
  rw [show m + 4 = (m + 3) + 1 from rfl, append_step (t := t + 1) (by omega) rfl v 16 (by decide), show (16 : Int32) + (-8) = 8 from rfl, byteU v 16 16 rfl]
  rw [show m + 3 = (m + 2) + 1 from rfl, append_step (t := t + 1 + 1) (by omega) rfl v 8 (by decide), show (8 : Int32) + (-8) = 0 from rfl, byteU v 8 8 rfl]
  rw [show m + 2 = (m + 1) + 1 from rfl, append_step (t := t + 1 + 1 + 1) (by omega) rfl v 0 (by decide), show (0 : Int32) + (-8) = -8 from rfl, byteU v 0 0 rfl]
  unfold m_X7_append_L19
  rw [if_pos (by decide)]
  refine ⟨_, rfl, rfl, ?_, ?_, rfl, ?_⟩
  · intro i hi
    show (if i = 1 then _ else (if i = 1 then _ else (if i = 1 then _ else (if i = 1 then _ else S.1 i)))) = _
    rw [if_neg hi, if_neg hi, if_neg hi, if_neg hi]
  · intro a ha
    simp only [sI_2]
    rw [sA_row ha]
    simp only [sI_2]
    rw [sA_row ha]
    simp only [sI_2]
    rw [sA_row ha]
    simp only [sI_2]
    rw [sA_row ha]
  · intro j
    simp only [sI_2, sA_21, if_true]
    rfl
theorem sign_step {T : St} {t j n : Nat} (ht : t + j < 240) (hj : j < 4) (e : T.1 18 = nI t) (v : Int32) : m_X9_sign_L19 (n + 1) T v (nI j) = m_X9_sign_L19 n (sA T 17 (t + j) ((v >>> ((24 - 8 * nI j) &&& 31)) &&& 255)) v (nI (j + 1)) := by
  conv => lhs; unfold m_X9_sign_L19
  simp only [nmE]
  rw [lit32 4, if_neg (by rw [leN (by omega) (by omega)]; omega), e, nI_add, ckN ht (by omega), clN (by omega), s1]
theorem sign4 {T : St} {t n : Nat} (ht : t + 4 ≤ 240) (e : T.1 18 = nI t) (hn : 5 ≤ n) (v : Int32) : ∃ T', m_X9_sign_L19 n T v 0 = some T' ∧ T'.1 = T.1 ∧ (∀ a, a ≠ 17 → T'.2.1 a = T.2.1 a) ∧ T'.2.2 = T.2.2 ∧
    ∀ j, T'.2.1 17 j = if j = t + 3 then byt v 0 else if j = t + 2 then byt v 8 else if j = t + 1 then byt v 16 else if j = t then byt v 24 else T.2.1 17 j := by
  obtain ⟨m, rfl⟩ : ∃ m, n = m + 5 := ⟨n - 5, by omega⟩
  rw [show (0 : Int32) = nI 0 from rfl, show m + 5 = (m + 4) + 1 from rfl, sign_step (j := 0) (by omega) (by omega) e v, show ((24 : Int32) - 8 * nI 0) &&& 31 = 24 from rfl, byteS v 24 24 (by omega) rfl]
  rw [show m + 4 = (m + 3) + 1 from rfl, sign_step (t := t) (j := 1) (by omega) (by omega) (by exact e) v, show ((24 : Int32) - 8 * nI 1) &&& 31 = 16 from rfl, byteS v 16 16 (by omega) rfl]
  rw [show m + 3 = (m + 2) + 1 from rfl, sign_step (t := t) (j := 2) (by omega) (by omega) (by exact e) v, show ((24 : Int32) - 8 * nI 2) &&& 31 = 8 from rfl, byteS v 8 8 (by omega) rfl]
  rw [show m + 2 = (m + 1) + 1 from rfl, sign_step (t := t) (j := 3) (by omega) (by omega) (by exact e) v, show ((24 : Int32) - 8 * nI 3) &&& 31 = 0 from rfl, byteS v 0 0 (by omega) rfl]
  unfold m_X9_sign_L19
  rw [if_pos (by decide)]
  refine ⟨_, rfl, rfl, ?_, rfl, ?_⟩
  · intro a ha
    rw [sA_row ha, sA_row ha, sA_row ha, sA_row ha]
  · intro j
    simp only [sA_21, if_true]
    rfl
/-- sign -/
theorem hb_0 (n : Nat) (hn : 100 ≤ n) : HB_0 n RelB := by
  intro S oF oP T a1 hR
  obtain ⟨hf, hro, k, hc⟩ := id hR
  obtain ⟨hk, h3, h10, ⟨len, hlen, e1, e2, htp⟩, hli, hlo, hme, hmi, hlg⟩ := hc
  unfold m_X8_sign m_X7_append m_X9_sign
  simp only [nmE]
  rw [e1, show nI len + 4 = nI (len + 4) by rw [lit32 4, nI_add], lit32 240, lit32 236, show (sI T 0 0).1 18 = nI len from e2]
  by_cases c : len ≤ 236
  · rw [if_pos (by rw [leN (by omega) (by omega)]; omega), if_pos (by rw [leN (by omega) (by omega)]; omega)]
    obtain ⟨S', s1', s2', s3', s4', s5', s6'⟩ := append4 (t := len) (by omega) e1 (n := n) (by omega) a1
    obtain ⟨T', t1', t2', t3', t4', t5'⟩ := sign4 (T := sI T 0 0) (t := len) (by omega) e2 (n := n) (by omega) a1
    rw [s1', t1']
    simp only [Option.bind_some, b10, if_false]
    have et : T'.1 18 + 4 = nI (len + 4) := by rw [t2', show (sI T 0 0).1 18 = nI len from e2, lit32 4, nI_add]
    rw [et, s2']
    have ei : ∀ i, i ≠ 18 → i ≠ 0 → (sI T' 18 (nI (len + 4))).1 i = T.1 i := fun i h1 h2 => by rw [sI_1, if_neg h1, t2', sI_1, if_neg h2]
    have hb : ∀ k, Rg (byt a1 k) 0 255 := fun k => Rg.of (n := 255) (by omega) (by omega)
    refine ⟨nI (len + 4), S', sI T' 18 (nI (len + 4)), rfl, rfl, ⟨?_, ?_, ?_⟩, ?_, k, hk, ?_, ?_, ?_, ?_, ?_, ?_, ?_, ?_⟩
    · rw [s5']; exact hf.1
    · rw [s5']; exact hf.2.1
    · rw [s5']; exact hf.2.2
    · obtain ⟨t, ht, r1, r2, r3⟩ := hro
      refine ⟨t, ht, (s3' 0 (by omega)).trans r1, (ei 1 (by omega) (by omega)).trans r2, fun j hj => ?_⟩
      rw [s5']
      show _ = T'.2.2.1 2 j
      rw [t4']; exact r3 j hj
    · exact (ei 3 (by omega) (by omega)).trans h3
    · rw [ei 10 (by omega) (by omega)]; exact h10
    · refine ⟨len + 4, by omega, s2', rfl, fun j hj => ?_⟩
      show S'.2.1 2 j = T'.2.1 17 j ∧ Rg (T'.2.1 17 j) 0 255
      rw [s6' j, t5' j]
      by_cases c3 : j = len + 3
      · rw [if_pos c3, if_pos c3]; exact ⟨rfl, hb 0⟩
      rw [if_neg c3, if_neg c3]
      by_cases c2 : j = len + 2
      · rw [if_pos c2, if_pos c2]; exact ⟨rfl, hb 8⟩
      rw [if_neg c2, if_neg c2]
      by_cases c1 : j = len + 1
      · rw [if_pos c1, if_pos c1]; exact ⟨rfl, hb 16⟩
      rw [if_neg c1, if_neg c1]
      by_cases c0 : j = len
      · rw [if_pos c0, if_pos c0]; exact ⟨rfl, hb 24⟩
      rw [if_neg c0, if_neg c0]
      exact htp j (by omega)
    · exact fun l hl => (hli l hl).congr (s3' _ (by omega)) (s3' _ (by omega)) (s4' _ (by omega)) (s4' _ (by omega)) (fun a h1 h2 => t3' a (by omega))
    · show ∀ a b, a < k → b < k → a ≠ b → T'.2.1 5 a ≠ T'.2.1 5 b
      rw [t3' 5 (by omega)]; exact hlo
    · exact hme.congr (fun i hi => s3' _ (by omega)) (fun i h1 h2 => s4' _ (by omega)) (ei 10 (by omega) (by omega)) (ei 13 (by omega) (by omega)) (ei 14 (by omega) (by omega)) (t3' 11 (by omega))
    · show MeetI k (T'.2.1 11) _ _
      rw [t3' 11 (by omega), ei 13 (by omega) (by omega), ei 14 (by omega) (by omega)]; exact hmi
    · unfold LogR LogP BitP
      rw [s4' _ (by omega), s4' _ (by omega), s4' _ (by omega), ei 13 (by omega) (by omega), show (sI T' 18 (nI (len + 4))).2.1 15 = T.2.1 15 from t3' 15 (by omega)]
      exact hlg
  · rw [if_neg (by rw [leN (by omega) (by omega)]; omega), if_neg (by rw [leN (by omega) (by omega)]; omega)]
    exact ⟨-1, S, sI T 0 0, rfl, rfl, hR.thr 0⟩
