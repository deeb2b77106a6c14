theorem Wd.cellE {D : va_G} {cy : Nat → ClassId} {A : Nat → Prop} {s : State} {w : va_W} {H : Heap} {locs : List Loc} {q0 a : Nat} {cA : ClassId} {x x' : vp_A} (hq0 : w[q0]? = some (a, .inl (cA, x))) (e : vp_cell cA x = vp_cell cA x') (hW : Wd D cy A s w H locs) : Wd D cy A s (w.set q0 (a, .inl (cA, x'))) H locs := by
  obtain ⟨hK, hP, hD, hS, hA, hN⟩ := hW
  have hl : q0 < w.length := (List.getElem?_eq_some_iff.mp hq0).1
  have cs : ∀ (k : Nat) (q : Nat × va_E), (w.set q0 (a, .inl (cA, x')))[k]? = some q → ∃ q2 : Nat × va_E, w[k]? = some q2 ∧ q2.1 = q.1 ∧ (va_at D vwCl q2 H → va_at D vwCl q H) := by
    intro k q hq
    by_cases hk : q0 = k
    · subst hk
      rw [List.getElem?_set_self hl] at hq
      cases hq
      exact ⟨(a, .inl (cA, x)), hq0, rfl, fun hv => by
        have hv : H[a]? = some (vp_cell cA x) := hv
        show H[a]? = some (vp_cell cA x')
        rw [← e]; exact hv⟩
    · rw [List.getElem?_set_ne hk] at hq
      exact ⟨q, hq, rfl, fun hv => hv⟩
  refine ⟨hK, fun k q hq => ?_, ⟨fun i j x y hi hj hxy => ?_, fun k q hq => ?_⟩, hS, hA, hN⟩
  · obtain ⟨q2, h1, -, h3⟩ := cs k q hq
    exact h3 (hP k q2 h1)
  · obtain ⟨x2, h1, h2, -⟩ := cs i x hi
    obtain ⟨y2, h3, h4, -⟩ := cs j y hj
    exact hD.1 i j x2 y2 h1 h3 (by rw [h2, h4]; exact hxy)
  · obtain ⟨q2, h1, h2, -⟩ := cs k q hq
    rw [← h2]
    exact hD.2 k q2 h1
theorem cell_q (cA : ClassId) (n : Nat) {f g : Nat → Option Nat} (h : ∀ j, j < n → f j = g j) : vp_cell cA (n, .inr (.inr (.inr (.inr f)))) = vp_cell cA (n, .inr (.inr (.inr (.inr g)))) := by
  rw [vp_cell_q, vp_cell_q]
  exact arrV_ext cA n (fun j hj => by rw [h j hj])
theorem Wd.rot2h {D : va_G} {cy : Nat → ClassId} {A : Nat → Prop} {s : State} {H : Heap} {locs : List Loc} {l n X : va_W} {x : Nat × va_E} (h : Wd D cy A s (n ++ ((x :: l) ++ X)) H locs) : Wd D cy A s ((x :: (l ++ n)) ++ X) H locs := Wd.rot2 (l := x :: l) h
section WB
variable {p : Program} {l : Launch} {e : Env} {R : Room} {s : State} {m : MethodId} {args : Array Value} {below : List Frame} {meth : Method} {c : Code} {H : Heap} {locs : List Loc} {cells slots : Nat} {Q : State → Prop}
variable {cc : ByteArray} {pc : Nat} {ls : Array Slot} {rest : List Value} {D : va_G} {cy : Nat → ClassId} {A : Nat → Prop} {a nL : Nat} {l0 X : va_W} {Ts : List Cond} {own : String}
theorem wa_putFh (hC : CallFix p m c cc nL s args Ts own) {C : String} {T : u_T} {N ci index : Nat} (hin : ∀ w ∈ u_ws C T N, w ∈ Ts) {ty0 : Nat → FieldType} (hty : ∀ k, k < N → parseFieldDescriptor (T k).2.2.1 = some (ty0 k)) (hnm : ∀ a, a < N → ∀ b, b < N → a ≠ b → (T a).2.1 ≠ (T b).2.1) {fs : List Value} (hW : Wd D cy A s (((a, .inr (ci, fs)) :: l0) ++ X) H locs) (hc : vwCl[ci]? = some (C, T, N)) (k : Nat) (hk : k < N) (hlink : (Cond.fieldLink own index own (T k).2.1 (T k).2.2.1).before args s = true) (hsame : (T k).1 = own) (hfin : (T k).2.2.2 = true) (hin2 : meth.name = "<init>") {v : Value} (hn : narrow (ty0 k) v = v) (hfit : fits (ty0 k) v = true) (hl : k < fs.length) {fs' : List Value} (hfs : fs.set k v = fs')
    (hdg : decode cc pc = .ok (.putfield index, 3)) (kk : ∀ (H : Heap) (locs : List Loc), Wd D cy A s (((a, .inr (ci, fs')) :: l0) ++ X) H locs → W p l e R s m args below meth c H locs cells slots Q (F0 m (pc + 3) ls rest)) : W p l e R s m args below meth c H locs cells slots Q (F0 m pc ls (v :: .ref a :: rest)) := by
  subst hfs
  exact wa_putF hC hin hty hnm hW 0 rfl hc k hk hlink hsame hfin hin2 hn hfit hl rfl hdg kk
theorem wa_puth (hC : CallFix p m c cc nL s args Ts own) {C : String} {T : u_T} {N ci index : Nat} (hin : ∀ w ∈ u_ws C T N, w ∈ Ts) {ty0 : Nat → FieldType} (hty : ∀ k, k < N → parseFieldDescriptor (T k).2.2.1 = some (ty0 k)) (hnm : ∀ a, a < N → ∀ b, b < N → a ≠ b → (T a).2.1 ≠ (T b).2.1) {fs : List Value} (hW : Wd D cy A s (((a, .inr (ci, fs)) :: l0) ++ X) H locs) (hc : vwCl[ci]? = some (C, T, N)) (k : Nat) (hk : k < N) (hlink : (Cond.fieldLink own index own (T k).2.1 (T k).2.2.1).before args s = true) (hsame : (T k).1 = own) (hfin : (T k).2.2.2 = false) {v : Value} (hn : narrow (ty0 k) v = v) (hfit : fits (ty0 k) v = true) (hl : k < fs.length) {fs' : List Value} (hfs : fs.set k v = fs')
    (hdg : decode cc pc = .ok (.putfield index, 3)) (kk : ∀ (H : Heap) (locs : List Loc), Wd D cy A s (((a, .inr (ci, fs')) :: l0) ++ X) H locs → W p l e R s m args below meth c H locs cells slots Q (F0 m (pc + 3) ls rest)) : W p l e R s m args below meth c H locs cells slots Q (F0 m pc ls (v :: .ref a :: rest)) := by
  subst hfs
  exact wd_put hC hin hty hnm hW 0 rfl hc k hk hlink hsame hfin hn hfit hl rfl hdg kk
theorem wa_newah (hC : CallFix p m c cc nL s args Ts own) {atype : ArrayType} (harr : (Cond.arrayClass (newarray.typeOf atype)).before args s = true) {ty : FieldType} (hty : newarray.typeOf atype = ty) (t0 : Nat) (ht : (TY cy)[t0]? = some (cy t0, ty)) (hpr : ∀ C, ty ≠ .object C) {x : Nat × va_E} (hW : Wd D cy A s ((x :: l0) ++ X) H locs)
    {n : Int32} (N' : Nat) (a0 : vp_A) (ha : ∀ cA : ClassId, vp_cell cA a0 = arrV cA N' (fun _ => defaultValue ty)) (hn : ¬ n < 0) (hN : n.toNatClampNeg = N') (hbytes : N' * componentBytes ty ≤ 536870912) (hcells : cells + 1 ≤ R.cells) (hslots : slots + N' ≤ R.slots) (hdg : decode cc pc = .ok (.newarray atype, 2))
    (kk : ∀ (q : Nat) (H : Heap), Wd D cy A s ((x :: (l0 ++ [(q, .inl (cy t0, a0))])) ++ X) H locs → W p l e R s m args below meth c H locs (cells + 1) (slots + N') Q (F0 m (pc + 2) ls (.ref q :: rest))) : W p l e R s m args below meth c H locs cells slots Q (F0 m pc ls (.int n :: rest)) :=
  wa_newa (l0 := x :: l0) hC harr hty t0 ht hpr hW ha hn hN hbytes hcells hslots hdg kk
theorem wa_mnah (hC : CallFix p m c cc nL s args Ts own) {index : Nat} (hclink : (Cond.classLink own index "[[I").before args s = true) (harr : (Cond.arrayClass .int).before args s = true) {x : Nat × va_E} (hW : Wd D cy A s ((x :: l0) ++ X) H locs) {n k : Int32} (N' K' : Nat) (hn : ¬ n < 0) (hk : ¬ k < 0) (hN : n.toNatClampNeg = N') (hM : k.toNatClampNeg = K') (hb1 : N' * 4 ≤ 536870912) (hb2 : K' * 4 ≤ 536870912)
    (hcells : cells + (1 + N') ≤ R.cells) (hslots : slots + (N' + N' * K') ≤ R.slots) (hdg : decode cc pc = .ok (.multianewarray index 2, 4))
    (kk : ∀ (q : Nat) (r : Nat → Nat) (H : Heap), Wd D cy A s ((x :: (l0 ++ ([(q, .inl (cy 5, N', .inr (.inr (.inr (.inr (fun i => some (r i)))))))] ++ (List.range N').map (fun i => (r i, .inl (cy 0, K', .inl (fun _ => 0))))))) ++ X) H locs →
      W p l e R s m args below meth c H locs (cells + 1 + N') (slots + N' + N' * K') Q (F0 m (pc + 4) ls (.ref q :: rest))) : W p l e R s m args below meth c H locs cells slots Q (F0 m pc ls (.int k :: .int n :: rest)) :=
  wa_mna (l0 := x :: l0) hC hclink harr hW hn hk hN hM hb1 hb2 hcells hslots hdg kk
theorem wa_anewh (hC : CallFix p m c cc nL s args Ts own) {C : String} {index : Nat} (hclink : (Cond.classLink own index RX3).before args s = true) (hover : va_AO RX3 s) {x : Nat × va_E} (hW : Wd D cy A s ((x :: l0) ++ X) H locs)
    {n : Int32} (N' : Nat) (hn : ¬ n < 0) (hN : n.toNatClampNeg = N') (hbytes : N' * 4 ≤ 536870912) (hcells : cells + 1 ≤ R.cells) (hslots : slots + N' ≤ R.slots) (hdg : decode cc pc = .ok (.anewarray index, 3))
    (kk : ∀ (q : Nat) (H : Heap), Wd D cy A s ((x :: (l0 ++ [(q, .inl (cy 4, N', .inr (.inr (.inr (.inr (fun _ => none))))))])) ++ X) H locs → W p l e R s m args below meth c H locs (cells + 1) (slots + N') Q (F0 m (pc + 3) ls (.ref q :: rest))) : W p l e R s m args below meth c H locs cells slots Q (F0 m pc ls (.int n :: rest)) := by
  obtain ⟨hK, hP, hD, hS, hA, hN9⟩ := hW
  refine va_newq hC.1 hC.2.1 hC.2.2.2.1 hclink hover hK hP hD hS hA hn hN hbytes hcells hslots hdg (fun q cA H1 hK1 hP1 hD1 hS1 => ?_)
  have e : cA = cy 4 := by
    have h1 : va_RA s cA (.object RX3) := (hK1.2 (TY cy).length (cA, .object RX3) (by simp)).2
    have h2 : va_RA s (cy 4) (.object RX3) := (hK.2 4 _ rfl).2
    obtain ⟨_, _, -, -, -, g1⟩ := h1
    obtain ⟨_, _, -, -, -, g2⟩ := h2
    exact Option.some.inj (g1.symm.trans g2)
  subst e
  have := Wd.swap (a := x :: l0) (b := X) (show Wd D cy A s (((x :: l0) ++ X) ++ [(q, .inl (cy 4, N', .inr (.inr (.inr (.inr (fun _ => none))))))]) H1 locs from ⟨hK, hP1, hD1, hS1, hA, hN9⟩)
  exact kk q H1 this
theorem wa_astqh (hC : CallFix p m c cc nL s args Ts own) {x : Nat × va_E} (hW : Wd D cy A s ((x :: l0) ++ X) H locs) (q0 qk : Nat) {n v : Nat} {vs : List Value} {f : Nat → Option Nat} (hlen : q0 < l0.length) (ha : ((x :: l0) ++ X)[q0 + 1]? = some (a, .inl (cy 4, n, .inr (.inr (.inr (.inr f)))))) (hv : ((x :: l0) ++ X)[qk]? = some (v, .inr (3, vs))) {i : Int32} (hin : vp_in i n) (hdg : decode cc pc = .ok (.aastore, 1))
    (kk : ∀ (H : Heap) (locs : List Loc), Wd D cy A s ((x :: (l0.set q0 (a, .inl (cy 4, n, .inr (.inr (.inr (.inr (va_up f i.toNatClampNeg (some v))))))))) ++ X) H locs → W p l e R s m args below meth c H locs cells slots Q (F0 m (pc + 1) ls rest)) : W p l e R s m args below meth c H locs cells slots Q (F0 m pc ls (.ref v :: .int i :: .ref a :: rest)) := by
  have e : ∀ z, ((x :: l0) ++ X).set (q0 + 1) z = (x :: l0.set q0 z) ++ X := fun z => by
    show x :: ((l0 ++ X).set q0 z) = x :: (l0.set q0 z ++ X)
    rw [List.set_append_left _ _ hlen]
  refine va_astq (r := (RX3, TX3, 4)) hC.1 hC.2.1 hW.1 hW.2.1 hW.2.2.1 hW.2.2.2.1 (q0 + 1) 4 qk 3 ha rfl hv rfl hin hdg (fun H1 locs1 hP hD hS => ?_)
  rw [e] at hP hD
  exact kk H1 locs1 ⟨hW.1, hP, hD, hS, hW.2.2.2.2⟩
end WB
