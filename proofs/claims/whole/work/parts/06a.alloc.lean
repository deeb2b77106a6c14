/-! ===== methods that make something ===== -/
abbrev RMa (d mc ms : Nat) : Room := { frames := d, cells := mc, slots := ms, locals := 40 * d }
def CQa (D : va_G) (cy : Nat → ClassId) (w : va_W) (post : Option Value → va_W → Prop) (sz : Nat) (_ : Array Value) (st : State) (o : Outcome) (t : State) : Prop :=
  (∃ (r : Option Value) (w' : va_W), o = .returned r ∧ post r w' ∧ va_P D vwCl w' t.heap ∧ va_K D vwCl (TY cy) t ∧ va_D (va_A w sz) w') ∧ va_F (va_A w sz) st t
def CTa (l : Launch) (y : MethodName) (ws : List Cond) (d mc ms : Nat) (D : va_G) (cy : Nat → ClassId) (av : List Value) (w : va_W) (post : Option Value → va_W → Prop) : Prop :=
  ∀ sz : Nat, Met l y ws (RMa d mc ms) (va_Pc av (CP D cy w sz)) (CQa D cy w post sz) mc ms (va_A w sz)
theorem CTa.imp {l : Launch} {y : MethodName} {ws : List Cond} {d mc ms : Nat} {D : va_G} {cy : Nat → ClassId} {av : List Value} {w : va_W} {post post' : Option Value → va_W → Prop} (h : CTa l y ws d mc ms D cy av w post) (hp : ∀ r w', post r w' → post' r w') : CTa l y ws d mc ms D cy av w post' := by
  intro sz p e ha hc hk s m args below hf happ hpre hK
  obtain ⟨t, o, h1, h2, h3, ⟨⟨r, w', ho, hq, hrest⟩, hF⟩, hL⟩ := h sz p e ha hc hk s m args below hf happ hpre hK
  exact ⟨t, o, h1, h2, h3, ⟨⟨r, w', ho, hp r w' hq, hrest⟩, hF⟩, hL⟩
theorem Wd.swap {D : va_G} {cy : Nat → ClassId} {A : Nat → Prop} {s : State} {H : Heap} {locs : List Loc} {a b c : va_W} (h : Wd D cy A s ((a ++ b) ++ c) H locs) : Wd D cy A s ((a ++ c) ++ b) H locs := ⟨h.1, va_P.swap h.2.1, va_D.swap h.2.2.1, h.2.2.2⟩
theorem Wd.rot1 {D : va_G} {cy : Nat → ClassId} {A : Nat → Prop} {s : State} {H : Heap} {locs : List Loc} {l n X : va_W} (h : Wd D cy A s ((l ++ n) ++ X) H locs) : Wd D cy A s (n ++ (l ++ X)) H locs := by
  have h1 : Wd D cy A s ((l ++ X) ++ n) H locs := Wd.swap h
  exact Wd.swap (a := []) (b := l ++ X) (c := n) h1
theorem Wd.rot2 {D : va_G} {cy : Nat → ClassId} {A : Nat → Prop} {s : State} {H : Heap} {locs : List Loc} {l n X : va_W} (h : Wd D cy A s (n ++ (l ++ X)) H locs) : Wd D cy A s ((l ++ n) ++ X) H locs := by
  have h1 : Wd D cy A s ((l ++ X) ++ n) H locs := Wd.swap (a := []) (b := n) (c := l ++ X) h
  exact Wd.swap h1
theorem get_cell {l0 X rows : va_W} {q : Nat} {e e' : va_E} {k9 : Nat} {x : Nat × va_E} (hx : ((l0 ++ ([(q, e)] ++ rows)) ++ X)[k9]? = some x) : ∃ y : Nat × va_E, ((l0 ++ ([(q, e')] ++ rows)) ++ X)[k9]? = some y ∧ y.1 = x.1 := by
  have hm : ((l0 ++ ([(q, e)] ++ rows)) ++ X).map Prod.fst = ((l0 ++ ([(q, e')] ++ rows)) ++ X).map Prod.fst := by simp
  have h1 : (((l0 ++ ([(q, e)] ++ rows)) ++ X).map Prod.fst)[k9]? = some x.1 := by rw [List.getElem?_map, hx]; rfl
  rw [hm, List.getElem?_map] at h1
  cases hy : ((l0 ++ ([(q, e')] ++ rows)) ++ X)[k9]? with
  | none => rw [hy] at h1; cases h1
  | some y => rw [hy] at h1; exact ⟨y, rfl, Option.some.inj h1⟩
section WA
variable {p : Program} {l : Launch} {e : Env} {R : Room} {s : State} {m : MethodId} {args : Array Value} {below : List Frame} {meth : Method} {c : Code} {H : Heap} {locs : List Loc} {cells slots : Nat} {Q : State → Prop}
variable {cc : ByteArray} {pc : Nat} {ls : Array Slot} {rest : List Value} {D : va_G} {cy : Nat → ClassId} {A : Nat → Prop} {a nL mc ms : Nat} {w w' l0 X : va_W} {Ts : List Cond} {own : String} {post : Option Value → va_W → Prop}
abbrev ZQa (below : List Frame) (D : va_G) (cy : Nat → ClassId) (w : va_W) (post : Option Value → va_W → Prop) (mc ms : Nat) (args : Array Value) (s : State) : State → Prop := MQ below (CQa D cy w post s.heap.size) args s mc ms (va_A w s.heap.size)
theorem CTa.mk {y : MethodName} {ws ws' : List Cond} {d : Nat} {av : List Value} {maxL : Nat} {ret : Option FieldType} (hy : plainName y.cls = true) (hw : ws = Cond.code y cc maxL ret :: ws') (hown : y.cls = own) (hlen : (lg_sl av).length ≤ maxL)
    (body : ∀ (p : Program) (e : Env) (s : State) (m : MethodId) (args : Array Value) (below : List Frame) (meth : Method) (c : Code) (ls : Array Slot) (A : Nat → Prop) (Q : State → Prop), A = va_A w s.heap.size → Q = ZQa below D cy w post mc ms args s → CallFix p m c cc maxL s args ws own → meth.sig.returnType = ret → meth.locks = false → meth.name = y.name → Wd D cy A s w s.heap [] → lv_has ls maxL (lv_args 0 av) →
      W p l e (RMa d mc ms) s m args below meth c s.heap [] 0 0 Q (F0 m 0 ls [])) : CTa l y ws d mc ms D cy av w post := by
  intro sz
  refine Met.ofW (cc := cc) (maxL := maxL) (ret := ret) hy hw ?_
  intro p e s m args below meth c s₁ B hml hv
  obtain ⟨rfl, hsz, hP, hK, hD0, hN⟩ := hv
  subst hsz
  have hl := lv_entry av (n := maxL) hlen
  rw [lg_entry_eq]
  have hts := atoms_spec (ws := ws) B.pre
  have ho : s.vm.findClass own = some m.cls := by rw [← hown]; exact findClass_of_methodNamed B.named
  exact body p e s m _ below meth c _ _ _ rfl rfl ⟨B.exec, B.bytes, hml, ho, hts⟩ B.returns B.notSynchronized (name_of_methodNamed B.named B.method).1 ⟨hK, hP, hD0.self, va_S.rf, fun q h => Or.inr h, hN⟩ hl
theorem wa_end (hW : Wd D cy (va_A w s.heap.size) s w' H locs) {r : Option Value} (hp : post r w') : ∀ t : State, t.heap = H → s.WarmedH t.vm → CQa D cy w post s.heap.size args s (.returned r) t := fun t ht hw => ⟨⟨r, w', rfl, hp, by rw [ht]; exact hW.2.1, va_K.moved hw.alike hW.1, hW.2.2.1⟩, hW.2.2.2.1.F ht⟩
theorem wa_vret (hA : A = va_A w s.heap.size) (hQ : Q = ZQa below D cy w post mc ms args s) (hC : CallFix p m c cc nL s args Ts own) (hr : meth.sig.returnType = none) (hlocks : meth.locks = false) (hW : Wd D cy A s w' H locs) (hp : post none w') (h1 : cells ≤ mc) (h2 : slots ≤ ms) (hdg : decode cc pc = .ok (.return_, 1)) : W p l e R s m args below meth c H locs cells slots Q (F0 m pc ls []) := by
  subst hA
  subst hQ
  exact W.widen h1 h2 (W.vret hC.1 hC.2.1 hr (wa_end hW hp) hW.2.2.2.1.2.2 hdg hlocks)
theorem wa_iret (hA : A = va_A w s.heap.size) {v : Int32} (hQ : Q = ZQa below D cy w post mc ms args s) (hC : CallFix p m c cc nL s args Ts own) (hr : meth.sig.returnType = some .int) (hlocks : meth.locks = false) (hW : Wd D cy A s w' H locs) (hp : post (some (.int v)) w') (h1 : cells ≤ mc) (h2 : slots ≤ ms) (hdg : decode cc pc = .ok (.ireturn, 1)) : W p l e R s m args below meth c H locs cells slots Q (F0 m pc ls [.int v]) := by
  subst hA
  subst hQ
  exact W.widen h1 h2 (W.iret hC.1 hC.2.1 hr (wa_end hW hp) hW.2.2.2.1.2.2 hdg hlocks)
theorem wa_aret (hA : A = va_A w s.heap.size) {v : Nat} {rt : String} (hQ : Q = ZQa below D cy w post mc ms args s) (hC : CallFix p m c cc nL s args Ts own) (hr : meth.sig.returnType = some (.object rt)) (hlocks : meth.locks = false) (hW : Wd D cy A s w' H locs) (hp : post (some (.ref v)) w') (h1 : cells ≤ mc) (h2 : slots ≤ ms) (hdg : decode cc pc = .ok (.areturn, 1)) : W p l e R s m args below meth c H locs cells slots Q (F0 m pc ls [.ref v]) := by
  subst hA
  subst hQ
  exact W.widen h1 h2 (W.aret hC.1 hC.2.1 hr (Or.inl ⟨_, rfl⟩) (Or.inr ⟨_, rfl⟩) (wa_end hW hp) hW.2.2.2.1.2.2 hdg hlocks)
/-- behind a call of a method that makes something -/
theorem wa_run {st0 : List Value} {av : Array Value} (hW : Wd D cy A s w H locs) (hr : va_Run p l e R s m args below meth c H locs cells slots mc ms (F0 m pc ls st0) rest (CQa D cy w post H.size av) (va_A w H.size))
    (kk : ∀ (r : Option Value) (w' : va_W) (H : Heap) (locs : List Loc), post r w' → Wd D cy A s w' H locs → W p l e R s m args below meth c H locs (cells + mc) (slots + ms) Q (F0 m (pc + 3) ls (r.toList ++ rest))) : W p l e R s m args below meth c H locs cells slots Q (F0 m pc ls st0) := by
  obtain ⟨hK, hP, hD, hS, hA, hN⟩ := hW
  have hF : ∀ q, va_A w H.size q → A q := by
    intro q h
    rcases h with ⟨k, e9, h⟩ | h
    · exact hD.2 k (q, e9) h
    · exact hA q (Nat.le_trans hS.1 h)
  intro T hT X
  obtain ⟨v, st₀, t, T', L, h0, X', hL, e1, e2, ⟨⟨r, w1, hv, hp, hP1, hK1, hD1⟩, hz, hk⟩, st⟩ := hr T hT X
  cases hv
  rw [h0] at hz hk
  have hvm : s.vm.Alike t.vm := by rw [← e2]; exact X'.warmed.alike
  obtain ⟨t2, a1, b1⟩ := kk _ w1 T'.heap (locs ++ L) hp ⟨va_K.moved hvm.symm hK1, by rw [e1]; exact hP1, hD1.weaken (fun k q _ h => hF q.1 h), ⟨Nat.le_trans hS.1 (by rw [e1]; exact hz), fun q h1 h2 => by rw [e1, hk q (Nat.lt_of_lt_of_le h1 hS.1) (fun z => h2 (hF q z))]; exact hS.2.1 q h1 h2, fun q hq => by
      rcases List.mem_append.mp hq with h | h
      · exact hS.2.2 q h
      · exact hF _ (hL q h)⟩, hA, hN⟩ T' rfl X'
  exact ⟨t2, st t2 a1, b1⟩
theorem wa_callV (hC : CallFix p m c cc nL s args Ts own) (hW : Wd D cy A s w H locs) (q0 : Nat) {b ci n index maxL d N : Nat} {C : String} {T : u_T} {fs : List Value} (he : w[q0]? = some (b, .inr (ci, fs))) (hc : vwCl[ci]? = some (C, T, N)) {y : MethodName} {ws : List Cond} {bytes : ByteArray} {ret : Option FieldType} {As : List Value} (hM : CTa l y ws d mc ms D cy (.ref b :: As) w post) (cw : CallW R s args own C index y bytes maxL ret ws (RMa d mc ms) mc ms n)
    (hn : As.length = n) (hsize : ls.size = nL) {st0 : List Value} (hst : st0 = As.reverse ++ .ref b :: rest) (hrest : (rest.map fun v => v.category).sum ≤ 8) (hcs : cells + mc ≤ R.cells ∧ slots + ms ≤ R.slots) (hdg : decode cc pc = .ok (.invokevirtual index, 3))
    (kk : ∀ (r : Option Value) (w' : va_W) (H : Heap) (locs : List Loc), post r w' → Wd D cy A s w' H locs → W p l e R s m args below meth c H locs (cells + mc) (slots + ms) Q (F0 m (pc + 3) ls (r.toList ++ rest))) : W p l e R s m args below meth c H locs cells slots Q (F0 m pc ls st0) :=
  wa_run hW (va_runV (As := As) (rest := rest) hC (hM H.size) cw ⟨CP.blind, va_recv hW.1 hW.2.1 (ci := ci) (q0 := q0) hc he, wd_pre hW (.ref b :: As)⟩ rfl hn hsize hst (lv_room hrest) hdg hcs) kk
theorem wa_callI (hC : CallFix p m c cc nL s args Ts own) (hW : Wd D cy A s w H locs) {b n index maxL d : Nat} {y : MethodName} {ws : List Cond} {bytes : ByteArray} {As : List Value} (hM : CTa l y ws d mc ms D cy (.ref b :: As) w post) (cw : CallB R s args own index y bytes maxL none ws (RMa d mc ms) mc ms n ∧ y.name = "<init>" ∧ (Cond.instanceMethod y).before args s = true)
    (hn : As.length = n) (hsize : ls.size = nL) {st0 : List Value} (hst : st0 = As.reverse ++ .ref b :: rest) (hrest : (rest.map fun v => v.category).sum ≤ 8) (hcs : cells + mc ≤ R.cells ∧ slots + ms ≤ R.slots) (hdg : decode cc pc = .ok (.invokespecial index, 3))
    (kk : ∀ (r : Option Value) (w' : va_W) (H : Heap) (locs : List Loc), post r w' → Wd D cy A s w' H locs → W p l e R s m args below meth c H locs (cells + mc) (slots + ms) Q (F0 m (pc + 3) ls (r.toList ++ rest))) : W p l e R s m args below meth c H locs cells slots Q (F0 m pc ls st0) :=
  wa_run hW (va_runI (As := As) (rest := rest) hC (hM H.size) cw ⟨CP.blind, wd_pre hW (.ref b :: As)⟩ rfl hn hsize hst (lv_room hrest) hdg hcs) kk
theorem wa_callIN (hC : CallFix p m c cc nL s args Ts own) (hW : Wd D cy A s w H locs) {b n index maxL d : Nat} {y : MethodName} {host : String} {ws : List Cond} {bytes : ByteArray} {As : List Value} (hM : CTa l y ws d mc ms D cy (.ref b :: As) w post) (cw : va_CN R s args own index y host bytes maxL none ws (RMa d mc ms) mc ms n ∧ y.name = "<init>" ∧ (Cond.instanceMethod y).before args s = true)
    (hn : As.length = n) (hsize : ls.size = nL) {st0 : List Value} (hst : st0 = As.reverse ++ .ref b :: rest) (hrest : (rest.map fun v => v.category).sum ≤ 8) (hcs : cells + mc ≤ R.cells ∧ slots + ms ≤ R.slots) (hdg : decode cc pc = .ok (.invokespecial index, 3))
    (kk : ∀ (r : Option Value) (w' : va_W) (H : Heap) (locs : List Loc), post r w' → Wd D cy A s w' H locs → W p l e R s m args below meth c H locs (cells + mc) (slots + ms) Q (F0 m (pc + 3) ls (r.toList ++ rest))) : W p l e R s m args below meth c H locs cells slots Q (F0 m pc ls st0) :=
  wa_run hW (va_runIN (As := As) (rest := rest) hC (hM H.size) cw ⟨CP.blind, wd_pre hW (.ref b :: As)⟩ rfl hn hsize hst (lv_room hrest) hdg hcs) kk
/-- a new array of numbers, its cell behind l0 -/
theorem wa_newa (hC : CallFix p m c cc nL s args Ts own) {atype : ArrayType} (harr : (Cond.arrayClass (newarray.typeOf atype)).before args s = true) {ty : FieldType} (hty : newarray.typeOf atype = ty) (t0 : Nat) (ht : (TY cy)[t0]? = some (cy t0, ty)) (hpr : ∀ C, ty ≠ .object C) (hW : Wd D cy A s (l0 ++ X) H locs)
    {n : Int32} {N' : Nat} {a0 : vp_A} (ha : ∀ cA : ClassId, vp_cell cA a0 = arrV cA N' (fun _ => defaultValue ty)) (hn : ¬ n < 0) (hN : n.toNatClampNeg = N') (hbytes : N' * componentBytes ty ≤ 536870912) (hcells : cells + 1 ≤ R.cells) (hslots : slots + N' ≤ R.slots) (hdg : decode cc pc = .ok (.newarray atype, 2))
    (kk : ∀ (q : Nat) (H : Heap), Wd D cy A s ((l0 ++ [(q, .inl (cy t0, a0))]) ++ X) H locs → W p l e R s m args below meth c H locs (cells + 1) (slots + N') Q (F0 m (pc + 2) ls (.ref q :: rest))) : W p l e R s m args below meth c H locs cells slots Q (F0 m pc ls (.int n :: rest)) := by
  obtain ⟨hK, hP, hD, hS, hA, hN9⟩ := hW
  refine va_newa hC.1 hC.2.1 harr hty hK hP hD hS hA ha hn hN hbytes hcells hslots hdg (fun q cA H1 hK1 hP1 hD1 hS1 => ?_)
  have e : cA = cy t0 := by
    have h1 : va_RA s cA ty := (hK1.2 (TY cy).length (cA, ty) (by simp)).2
    have h2 : va_RA s (cy t0) ty := (hK.2 t0 _ ht).2
    cases ty with
    | object C => exact absurd rfl (hpr C)
    | _ => exact Option.some.inj (h1.symm.trans h2)
  subst e
  exact kk q H1 (Wd.swap ⟨hK, hP1, hD1, hS1, hA, hN9⟩)
/-- a new object, its cell ahead of all -/
theorem wa_new (hC : CallFix p m c cc nL s args Ts own) {C : String} {T : u_T} {N ci index : Nat} (hin : ∀ w ∈ u_ws C T N, w ∈ Ts) {ty : Nat → FieldType} (hty : ∀ k, k < N → parseFieldDescriptor (T k).2.2.1 = some (ty k)) (hcl : (Cond.classLink own index C).before args s = true) (hinst : (Cond.instantiable C N).before args s = true) (hini : (Cond.initialized C).before args s = true)
    (hW : Wd D cy A s w H locs) (hc : vwCl[ci]? = some (C, T, N)) {fs : List Value} (hfs : ∀ j, j < N → defaultValue (ty j) = vp_V fs j) (hcells : cells + 1 ≤ R.cells) (hslots : slots + N ≤ R.slots) (hdg : decode cc pc = .ok (.new index, 3))
    (kk : ∀ (q : Nat) (H : Heap), Wd D cy A s ([(q, .inr (ci, fs))] ++ w) H locs → W p l e R s m args below meth c H locs (cells + 1) (slots + N) Q (F0 m (pc + 3) ls (.ref q :: rest))) : W p l e R s m args below meth c H locs cells slots Q (F0 m pc ls rest) := by
  obtain ⟨hK, hP, hD, hS, hA, hN9⟩ := hW
  refine va_new hC.1 hC.2.1 hC.2.2.2.2 hin ty hty hC.2.2.2.1 hcl hinst hini hK hP hD hS hA hc hfs hcells hslots hdg (fun q H1 hP1 hD1 hS1 => ?_)
  exact kk q H1 (Wd.swap (a := []) (b := w) ⟨hK, hP1, hD1, hS1, hA, hN9⟩)
/-- a final field in a constructor -/
theorem wa_putF (hC : CallFix p m c cc nL s args Ts own) {C : String} {T : u_T} {N ci index : Nat} (hin : ∀ w ∈ u_ws C T N, w ∈ Ts) {ty0 : Nat → FieldType} (hty : ∀ k, k < N → parseFieldDescriptor (T k).2.2.1 = some (ty0 k)) (hnm : ∀ a, a < N → ∀ b, b < N → a ≠ b → (T a).2.1 ≠ (T b).2.1) (hW : Wd D cy A s w H locs) (q0 : Nat) {fs : List Value} (he : w[q0]? = some (a, .inr (ci, fs))) (hc : vwCl[ci]? = some (C, T, N)) (k : Nat) (hk : k < N) (hlink : (Cond.fieldLink own index own (T k).2.1 (T k).2.2.1).before args s = true) (hsame : (T k).1 = own) (hfin : (T k).2.2.2 = true) (hin2 : meth.name = "<init>") {v : Value} (hn : narrow (ty0 k) v = v) (hfit : fits (ty0 k) v = true) (hl : k < fs.length) (hset : w.set q0 (a, .inr (ci, fs.set k v)) = w')
    (hdg : decode cc pc = .ok (.putfield index, 3)) (kk : ∀ (H : Heap) (locs : List Loc), Wd D cy A s w' H locs → W p l e R s m args below meth c H locs cells slots Q (F0 m (pc + 3) ls rest)) : W p l e R s m args below meth c H locs cells slots Q (F0 m pc ls (v :: .ref a :: rest)) := by
  subst hset
  exact va_putF hC.1 hC.2.1 hC.2.2.2.2 hin ty0 hty hnm hC.2.2.2.1 hW.1 hW.2.1 hW.2.2.1 hW.2.2.2.1 q0 he hc k hk hlink (fun x hx => by rw [← hsame]; exact hx) hfin hin2 hsame (hty k hk) hn hfit hl hdg (fun H1 locs1 hP hD hS => kk H1 locs1 ⟨hW.1, hP, hD, hS, hW.2.2.2.2⟩)
/-- new int[n][k], its cells behind l0 -/
theorem wa_mna (hC : CallFix p m c cc nL s args Ts own) {index : Nat} (hclink : (Cond.classLink own index "[[I").before args s = true) (harr : (Cond.arrayClass .int).before args s = true) (hW : Wd D cy A s (l0 ++ X) H locs) {n k : Int32} {N' K' : Nat} (hn : ¬ n < 0) (hk : ¬ k < 0) (hN : n.toNatClampNeg = N') (hM : k.toNatClampNeg = K') (hb1 : N' * 4 ≤ 536870912) (hb2 : K' * 4 ≤ 536870912)
    (hcells : cells + (1 + N') ≤ R.cells) (hslots : slots + (N' + N' * K') ≤ R.slots) (hdg : decode cc pc = .ok (.multianewarray index 2, 4))
    (kk : ∀ (q : Nat) (r : Nat → Nat) (H : Heap), Wd D cy A s ((l0 ++ ([(q, .inl (cy 5, N', .inr (.inr (.inr (.inr (fun i => some (r i)))))))] ++ (List.range N').map (fun i => (r i, .inl (cy 0, K', .inl (fun _ => 0)))))) ++ X) H locs →
      W p l e R s m args below meth c H locs (cells + 1 + N') (slots + N' + N' * K') Q (F0 m (pc + 4) ls (.ref q :: rest))) : W p l e R s m args below meth c H locs cells slots Q (F0 m pc ls (.int k :: .int n :: rest)) := by
  obtain ⟨hK, hP, hD, hS, hA, hN9⟩ := hW
  have hcy : s.vm.findClass (FieldType.array .int).toString = some (cy 0) := (hK.2 0 _ rfl).2
  have hP0 : va_P D vwCl ((l0 ++ X) ++ va_pl [] (fun _ => .inr (0, []))) H := by simpa [va_pl] using hP
  have hD0 : va_D A ((l0 ++ X) ++ va_pl [] (fun _ => .inr (0, []))) := by simpa [va_pl] using hD
  refine va_mna (ty := .int) (z := (K', .inl (fun _ => 0))) hC.1 hC.2.1 hC.2.2.2.1 hclink hN9.2.1 harr hcy hK hP0 hD0 hS hA hn hk hN hM hb1 hb2 (by omega) rfl rfl hcells hslots (fun c9 => ?_) hdg (fun q r cA H1 hinj hnot hK1 hP1 hD1 hS1 => ?_)
  · rw [vp_cell_i]
    exact arrV_new c9 K' (.int 0)
  have e : cA = cy 5 := by
    have h1 : va_RA s cA (.array .int) := (hK1.2 (TY cy).length (cA, .array .int) (by simp)).2
    have h2 : va_RA s (cy 5) (.array .int) := (hK.2 5 _ rfl).2
    exact Option.some.inj (h1.symm.trans h2)
  subst e
  have hrows : va_pl ([] ++ (List.range N').map r) (vr_up (fun _ => .inr (0, [])) ((List.range N').map r) (.inl (cy 0, (K', .inl (fun _ => 0))))) = (List.range N').map (fun i => ((r i, .inl (cy 0, K', .inl (fun _ => 0))) : Nat × va_E)) := by
    unfold va_pl
    rw [List.nil_append, List.map_map]
    apply List.map_congr_left
    intro i hi
    show (r i, vr_up _ _ _ (r i)) = _
    rw [vr_up_in (List.mem_map.mpr ⟨i, hi, rfl⟩)]
  rw [hrows] at hP1 hD1
  have hW1 : Wd D cy A s ((l0 ++ X) ++ ([(q, .inl (cy 5, N', .inr (.inr (.inr (.inr (fun i => if i < N' then some (r i) else none))))))] ++ (List.range N').map (fun i => ((r i, .inl (cy 0, K', .inl (fun _ => 0))) : Nat × va_E)))) H1 locs := ⟨hK, by rw [← List.append_assoc]; exact hP1, by rw [← List.append_assoc]; exact hD1, hS1, hA, hN9⟩
  refine kk q r H1 ?_
  have hW2 := Wd.swap (a := l0) (b := X) hW1
  obtain ⟨k1, k2, k3, k4⟩ := hW2
  refine ⟨k1, fun k9 x hx => ?_, ?_, k4⟩
  · have hm := List.mem_of_getElem? hx
    have hall : ∀ y ∈ (l0 ++ ([(q, .inl (cy 5, N', .inr (.inr (.inr (.inr (fun i => if i < N' then some (r i) else none))))))] ++ (List.range N').map (fun i => ((r i, .inl (cy 0, K', .inl (fun _ => 0))) : Nat × va_E)))) ++ X, va_at D vwCl y H1 := fun y hy => by
      obtain ⟨i, hi⟩ := List.getElem?_of_mem hy
      exact k2 i y hi
    simp only [List.mem_append, List.mem_singleton] at hm
    rcases hm with (hm | hm | hm) | hm
    · exact hall x (by simp [hm])
    · have h0 := hall (q, .inl (cy 5, N', .inr (.inr (.inr (.inr (fun i => if i < N' then some (r i) else none)))))) (by simp)
      subst hm
      have h0 : H1[q]? = some (vp_cell (cy 5) (N', .inr (.inr (.inr (.inr (fun i => if i < N' then some (r i) else none)))))) := h0
      show H1[q]? = some (vp_cell (cy 5) (N', .inr (.inr (.inr (.inr (fun i => some (r i)))))))
      rw [h0, vp_cell_q, vp_cell_q]
      exact congrArg some (arrV_ext _ _ (fun j hj => by rw [if_pos hj]))
    · exact hall x (List.mem_append_left _ (List.mem_append_right _ (List.mem_append_right _ hm)))
    · exact hall x (by simp [hm])
  · refine ⟨fun i j x y hi hj hxy => ?_, fun k9 x hx => ?_⟩
    · obtain ⟨x2, g1, g2⟩ := get_cell (e' := .inl (cy 5, N', .inr (.inr (.inr (.inr (fun i => if i < N' then some (r i) else none)))))) hi
      obtain ⟨y2, g3, g4⟩ := get_cell (e' := .inl (cy 5, N', .inr (.inr (.inr (.inr (fun i => if i < N' then some (r i) else none)))))) hj
      exact k3.1 i j x2 y2 g1 g3 (by rw [g2, g4]; exact hxy)
    · obtain ⟨x2, g1, g2⟩ := get_cell (e' := .inl (cy 5, N', .inr (.inr (.inr (.inr (fun i => if i < N' then some (r i) else none)))))) hx
      rw [← g2]
      exact k3.2 k9 x2 g1
end WA
