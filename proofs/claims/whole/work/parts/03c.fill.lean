theorem arrV_ext (c : ClassId) (n : Nat) {f g : Nat → Value} (h : ∀ j, j < n → f j = g j) : arrV c n f = arrV c n g := by
  unfold arrV
  congr 1
  apply congrArg
  funext j
  exact h j.1 j.2
theorem Wd.cell {D : va_G} {cy : Nat → ClassId} {A : Nat → Prop} {s : State} {w : va_W} {H : Heap} {locs : List Loc} {q0 a n : Nat} {cA : ClassId} {g g' : Nat → Int32} (h : ∀ j, j < n → g j = g' j) (hW : Wd D cy A s (w.set q0 (a, .inl (cA, n, .inl g))) H locs) : Wd D cy A s (w.set q0 (a, .inl (cA, n, .inl g'))) H locs := by
  obtain ⟨hK, hP, hD, hS, hA, hN⟩ := hW
  have e : vp_cell cA (n, .inl g) = vp_cell cA (n, .inl g') := by rw [vp_cell_i, vp_cell_i]; exact arrV_ext cA n (fun j hj => by rw [h j hj])
  have cs : ∀ (k : Nat) (q : Nat × va_E), (w.set q0 (a, .inl (cA, n, .inl g')))[k]? = some q → ∃ q2 : Nat × va_E, (w.set q0 (a, .inl (cA, n, .inl g)))[k]? = some q2 ∧ q2.1 = q.1 ∧ (va_at D vwCl q2 H → va_at D vwCl q H) := by
    intro k q hq
    by_cases hk : q0 = k
    · subst hk
      by_cases hl : q0 < w.length
      · rw [List.getElem?_set_self hl] at hq
        cases hq
        exact ⟨(a, .inl (cA, n, .inl g)), by rw [List.getElem?_set_self hl], rfl, fun hv => by
          have hv : H[a]? = some (vp_cell cA (n, .inl g)) := hv
          show H[a]? = some (vp_cell cA (n, .inl g'))
          rw [← e]; exact hv⟩
      · rw [List.getElem?_eq_none (by rw [List.length_set]; omega)] at hq
        cases hq
    · rw [List.getElem?_set_ne hk] at hq
      exact ⟨q, by rw [List.getElem?_set_ne hk]; exact hq, rfl, fun hv => hv⟩
  refine ⟨hK, fun k q hq => ?_, ⟨fun i j x y hi hj hxy => ?_, fun k q hq => ?_⟩, hS, hA, hN⟩
  · obtain ⟨q2, h1, -, h3⟩ := cs k q hq
    exact h3 (hP k q2 h1)
  · obtain ⟨x2, h1, h2, -⟩ := cs i x hi
    obtain ⟨y2, h3, h4, -⟩ := cs j y hj
    exact hD.1 i j x2 y2 h1 h3 (by rw [h2, h4]; exact hxy)
  · obtain ⟨q2, h1, h2, -⟩ := cs k q hq
    rw [← h2]
    exact hD.2 k q2 h1
set_option maxHeartbeats 4000000 in
set_option maxRecDepth 100000 in
/-- Arrays.fill of ints -/
theorem c_fill (l : Launch) (D : va_G) (cy : Nat → ClassId) {w : va_W} {w' : va_W} (q0 a n : Nat) (f : Nat → Int32) (v : Int32) (ha : w[q0]? = some (a, .inl (cy 0, n, .inl f))) (hn : n < 2 ^ 31) (hw' : w.set q0 (a, .inl (cy 0, n, .inl (fun _ => v))) = w') : CT l yJ7_fill_53178 (wu yJ7_fill_53178 cJ7_fill_53178 4 none) 0 D cy [.ref a, .int v] w none w' := by
  refine CT.mk (cc := cJ7_fill_53178) (maxL := 4) (ret := none) (own := RJ7) (by decide) rfl rfl (Nat.le_of_ble_eq_true rfl) ?_
  intro p e s m args below meth c ls A Q hA hQ hC hr hk hW hl
  have hx := hC.1
  have hb := hC.2.1
  have hl : lv_has ls 4 [(0, .ref a), (1, .int v)] := hl
  refine lv_iconst (v := 0) hx hb dJ7_fill_53178_0 (by decide) ?_
  refine lv_istore_n (lv' := [(2, .int 0), (0, .ref a), (1, .int v)]) hx hb dJ7_fill_53178_1 rfl hl (by decide) rfl (fun ls hl => ?_)
  refine lv_aload_n hx hb dJ7_fill_53178_2 rfl (lv_at hl 1 rfl) ?_
  refine wd_alen hC hW q0 0 ha rfl (v := nI n) rfl dJ7_fill_53178_3 ?_
  refine lv_istore_n (lv' := [(3, .int (nI n)), (2, .int 0), (0, .ref a), (1, .int v)]) hx hb dJ7_fill_53178_4 rfl hl (by decide) rfl (fun ls hl => ?_)
  have hlen : q0 < w.length := (List.getElem?_eq_some_iff.mp ha).1
  have hL : ∀ (k i : Nat) (g : Nat → Int32) (H : Heap) (locs : List Loc) (ls : Array Slot), i + k = n → (∀ j, j < i → g j = v) → Wd D cy A s (w.set q0 (a, .inl (cy 0, n, .inl g))) H locs → lv_has ls 4 [(3, .int (nI n)), (2, .int (nI i)), (0, .ref a), (1, .int v)] → W p l e (RM 0) s m args below meth c H locs 0 0 Q (F0 m 5 ls []) := by
    intro k
    induction k with
    | zero =>
      intro i g H locs ls hi hg hW hl
      have hi : i = n := by omega
      subst hi
      refine lv_iload_n hx hb dJ7_fill_53178_5 rfl (lv_at hl 1 rfl) ?_
      refine lv_iload_n hx hb dJ7_fill_53178_6 rfl (lv_at hl 0 rfl) ?_
      refine lv_icmp_ge (tgt := 20) hx hb dJ7_fill_53178_7 (by decide) (fun c9 => ?_) (fun c9 => absurd (nI_le (Nat.le_refl _) hn) c9)
      have hW := Wd.cell (g' := fun _ => v) hg hW
      rw [hw'] at hW
      exact wd_vret hA hQ hC hr hk hW dJ7_fill_53178_20
    | succ k ih =>
      intro i g H locs ls hi hg hW hl
      refine lv_iload_n hx hb dJ7_fill_53178_5 rfl (lv_at hl 1 rfl) ?_
      refine lv_iload_n hx hb dJ7_fill_53178_6 rfl (lv_at hl 0 rfl) ?_
      refine lv_icmp_ge (tgt := 20) hx hb dJ7_fill_53178_7 (by decide) (fun c9 => absurd c9 (nI_ge (by omega) hn)) (fun c9 => ?_)
      refine lv_aload_n hx hb dJ7_fill_53178_10 rfl (lv_at hl 2 rfl) ?_
      refine lv_iload_n hx hb dJ7_fill_53178_11 rfl (lv_at hl 1 rfl) ?_
      refine lv_iload_n hx hb dJ7_fill_53178_12 rfl (lv_at hl 3 rfl) ?_
      refine wd_iast hC hW q0 (by rw [List.getElem?_set_self hlen]) (vp_in_nI (by omega) (by omega)) (by rw [List.set_set]) dJ7_fill_53178_13 (fun H locs hW => ?_)
      refine lv_iinc (v := nI (i + 1)) (lv' := [(2, .int (nI (i + 1))), (3, .int (nI n)), (0, .ref a), (1, .int v)]) hx hb dJ7_fill_53178_14 hl (k := 1) rfl (nI_1 i) (by decide) rfl (fun ls hl => ?_)
      refine lv_goto (tgt := 5) hx hb dJ7_fill_53178_17 (by decide) ?_
      refine ih (i + 1) _ _ _ _ (by omega) (fun j hj => ?_) hW (lv_sub hl [1, 0, 2, 3] rfl)
      rw [nI_clamp (by omega)]
      by_cases hji : j = i
      · rw [hji]; exact pk_us
      · rw [pk_un hji]; exact hg j (by omega)
  refine hL n 0 f _ _ _ (by omega) (fun j hj => absurd hj (by omega)) ?_ hl
  have : w.set q0 (a, .inl (cy 0, n, .inl f)) = w := by
    apply List.ext_getElem?
    intro k
    by_cases hk2 : q0 = k
    · subst hk2
      rw [List.getElem?_set_self hlen, ha]
    · rw [List.getElem?_set_ne hk2]
  rw [this]
  exact hW
section WC
variable {p : Program} {l : Launch} {e : Env} {R : Room} {s : State} {m : MethodId} {args : Array Value} {below : List Frame} {meth : Method} {c : Code} {H : Heap} {locs : List Loc} {cells slots : Nat} {Q : State → Prop}
variable {cc : ByteArray} {pc : Nat} {ls : Array Slot} {rest : List Value} {D : va_G} {cy : Nat → ClassId} {A : Nat → Prop} {a a0 nL : Nat} {w w' : va_W} {Ts : List Cond} {own : String}
theorem wd_copy (hC : CallFix p m c cc nL s args Ts own) (hsize : ls.size = nL) {index : Nat} (hlink : (Cond.methodLink own index arraycopyName).before args s = true) (hnat : (Cond.native arraycopyName).before args s = true) (hstat : (Cond.static arraycopyName).before args s = true) (hini : (Cond.initialized "java/lang/System").before args s = true) (hW : Wd D cy A s w H locs) (q0 q1 : Nat) {n0 n1 : Nat} {f g : Nat → Int32} (ha0 : w[q0]? = some (a0, .inl (cy 0, n0, .inl f))) (ha1 : w[q1]? = some (a, .inl (cy 0, n1, .inl g))) {n : Int32} {N : Nat} (hn : n.toNatClampNeg = N) (hn0 : ¬ n < 0) (h4 : N ≤ n0) (h5 : N ≤ n1) (hset : w.set q1 (a, .inl (cy 0, n1, .inl (va_cpy f g 0 0 N))) = w')
    (hframes : 1 ≤ R.frames) (hlocals : (rest.map fun v => v.category).sum + (nativeFrameWords "java/lang/System" "arraycopy" 5 + 11) ≤ R.locals) (hdg : decode cc pc = .ok (.invokestatic index, 3))
    (kk : ∀ (H : Heap) (locs : List Loc), Wd D cy A s w' H locs → W p l e R s m args below meth c H locs cells slots Q (F0 m (pc + 3) ls rest)) : W p l e R s m args below meth c H locs cells slots Q (F0 m pc ls (.int n :: .int 0 :: .ref a :: .int 0 :: .ref a0 :: rest)) := by
  subst hset
  subst hn
  refine va_copyi hC.1 hC.2.1 (hC.2.2.1.trans hsize.symm) hC.2.2.2.1 hlink hnat hstat hini hW.1 hW.2.1 hW.2.2.1 hW.2.2.2.1 q0 q1 0 0 ha0 ha1 rfl rfl rfl (by decide) (by decide) hn0 (by simpa using h4) (by simpa using h5) (fun _ _ => rfl) hframes hlocals hdg (fun H1 locs1 hP hD hS => ?_)
  have z : (0 : Int32).toNatClampNeg = 0 := by decide
  rw [z] at hP hD
  exact kk H1 locs1 ⟨hW.1, hP, hD, hS, hW.2.2.2.2⟩
end WC
