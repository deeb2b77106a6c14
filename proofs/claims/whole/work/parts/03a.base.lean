/-! ===== words that are no good words: they ride in the worlds ===== -/
theorem va_AOA.moved {ty : FieldType} {u U : State} (hvm : u.vm.Alike U.vm) (h : va_AOA ty u) : va_AOA ty U := Jvm.Stand.arrayOver_alikeB hvm h
/-- the links of one nest -/
def nests : List (String × Nat × MethodName × String) := [(RX8, 11, yX7_init, RX8), (RX8, 22, yX3_init, RX8), (RX8, 37, yX5_init, RX8), (RX8, 44, yX0_init, RX8), (RX8, 51, yX6_init, RX8), (RX6, 88, yX8_mix, RX8), (RX8, 297, yX2_init, RX8), (RX2, 132, yX8_mix, RX8), (RX8, 301, yX1_init, RX8), (RX1, 100, yX8_mix, RX8)]
def NN (U : State) : Prop := (∀ x ∈ nests, va_Nw (.methodLinkNest x.1 x.2.1 x.2.2.1 x.2.2.2) U) ∧ va_AOA .int U ∧ va_AO RX3 U
theorem NN.warm {s U : State} (h : NN s) (hW : s.WarmedH U.vm) : NN U := ⟨fun x hx => va_Nw.warmM hW (h.1 x hx), va_AOA.moved hW.alike h.2.1, va_AO.moved hW.alike h.2.2⟩
theorem NN.same {u U : State} (h : u.vm = U.vm) (hN : NN u) : NN U := ⟨fun x hx => va_Nw.same rfl h (hN.1 x hx), va_AOA.moved (by rw [h]; exact Vm.Alike.refl _) hN.2.1, va_AO.moved (by rw [h]; exact Vm.Alike.refl _) hN.2.2⟩
theorem NN.at {U : State} (h : NN U) (k : Nat) {x : String × Nat × MethodName × String} (hx : nests[k]? = some x) : va_Nw (.methodLinkNest x.1 x.2.1 x.2.2.1 x.2.2.2) U := h.1 x (List.mem_of_getElem? hx)
/-! ===== the state of a system: numbers by place, rows of ints, rows of longs, references ===== -/
abbrev St : Type := (Nat → Int32) × (Nat → Nat → Int32) × (Nat → Nat → Int64) × (Nat → Option Nat)
def sI (S : St) (k : Nat) (v : Int32) : St := (va_up S.1 k v, S.2)
def sA (S : St) (a i : Nat) (v : Int32) : St := (S.1, va_up S.2.1 a (upd (S.2.1 a) i v), S.2.2)
def sF (S : St) (a : Nat) (f : Nat → Int32) : St := (S.1, va_up S.2.1 a f, S.2.2)
def sJ (S : St) (a i : Nat) (v : Int64) : St := (S.1, S.2.1, va_up S.2.2.1 a (vp_updL (S.2.2.1 a) i v), S.2.2.2)
def sR (S : St) (k : Nat) (v : Option Nat) : St := (S.1, S.2.1, S.2.2.1, va_up S.2.2.2 k v)
/-- an index is tested, else there is no answer -/
def ck {α : Type} (i : Int32) (n : Nat) (x : Option α) : Option α := if 0 ≤ i.toInt ∧ i.toInt < n then x else none
theorem ck_of {α : Type} {i : Int32} {n : Nat} {x : Option α} {r : α} (h : ck i n x = some r) : vp_in i n ∧ x = some r := by
  unfold ck at h
  split at h
  · rename_i h1
    exact ⟨vp_in_iff.mpr h1, h⟩
  · cases h
theorem ck_in {α : Type} {i : Int32} {n : Nat} {x : Option α} (h0 : 0 ≤ i.toInt) (h1 : i.toInt < n) : ck i n x = x := if_pos ⟨h0, h1⟩
/-- 0 or 1 -/
def ckb {α : Type} (v : Int32) (x : Option α) : Option α := if v = 0 ∨ v = 1 then x else none
theorem ckb_of {α : Type} {v : Int32} {x : Option α} {r : α} (h : ckb v x = some r) : (v = 0 ∨ v = 1) ∧ x = some r := by
  unfold ckb at h
  split at h
  · rename_i h1
    exact ⟨h1, h⟩
  · cases h
theorem ckb_nar {v : Int32} (h : v = 0 ∨ v = 1) : narrow .boolean (.int v) = .int v := by
  rcases h with rfl | rfl <;> rfl
theorem ckb_fit {v : Int32} (h : v = 0 ∨ v = 1) : fits .boolean (.int v) = true := by
  rcases h with rfl | rfl <;> rfl
theorem ckb_vp {v : Int32} (h : v = 0 ∨ v = 1) : vp_nar .boolean v = v := by
  rcases h with rfl | rfl <;> rfl
/-- a divisor is tested -/
def ckd {α : Type} (v : Int32) (x : Option α) : Option α := if v = 0 then none else x
theorem ckd_of {α : Type} {v : Int32} {x : Option α} {r : α} (h : ckd v x = some r) : ¬ v = 0 ∧ x = some r := by
  unfold ckd at h
  split at h
  · cases h
  · rename_i h1
    exact ⟨h1, h⟩
/-- a number of a row of objects is tested -/
def ckn {α : Type} (j n : Nat) (x : Option α) : Option α := if j < n then x else none
theorem ckn_of {α : Type} {j n : Nat} {x : Option α} {r : α} (h : ckn j n x = some r) : j < n ∧ x = some r := by
  unfold ckn at h
  split at h
  · rename_i h1
    exact ⟨h1, h⟩
  · cases h
theorem ite_t {α : Type} {c : Prop} [Decidable c] {a b r : α} (h : (if c then a else b) = r) (hc : c) : a = r := by rw [if_pos hc] at h; exact h
theorem ite_f {α : Type} {c : Prop} [Decidable c] {a b r : α} (h : (if c then a else b) = r) (hc : ¬ c) : b = r := by rw [if_neg hc] at h; exact h
theorem bd_of {α β : Type} {x : Option α} {f : α → Option β} {r : β} (h : x.bind f = some r) : ∃ a, x = some a ∧ f a = some r := by
  cases x with
  | none => cases h
  | some a => exact ⟨a, rfl, h⟩
theorem in_lt {i : Int32} {n : Nat} (h : vp_in i n) : i.toNatClampNeg < n := Nat.not_le.mp fun q => h (Or.inr q)
def mx (x y : Int32) : Int32 := if x < y then y else x
def mn (x y : Int32) : Int32 := if y < x then y else x
/-- a reference that must be there: its number -/
def onw {α : Type} (o : Option Nat) (n : Nat) (f : Nat → Option α) : Option α := match o with
  | some j => if j < n then f j else none
  | none => none
theorem onw_of {α : Type} {o : Option Nat} {n : Nat} {f : Nat → Option α} {r : α} (h : onw o n f = some r) : ∃ j, o = some j ∧ j < n ∧ f j = some r := by
  cases o with
  | none => cases h
  | some j =>
    have h : (if j < n then f j else none) = some r := h
    split at h
    · rename_i h1
      exact ⟨j, rfl, h1, h⟩
    · cases h
def usr (x y : Int32) : Int32 := (x.toUInt32 >>> (y.toUInt32 &&& Int32.toUInt32 31)).toInt32
def irm (x y : Int32) : Int32 := x - x / y * y
def i2c (x : Int32) : Int32 := (x.toUInt32 % 65536).toInt32
/-! ===== the world of a walk, in one ===== -/
def TY (cy : Nat → ClassId) : List (ClassId × FieldType) := [(cy 0, .int), (cy 1, .long), (cy 2, .char), (cy 3, .boolean), (cy 4, .object RX3), (cy 5, .array .int)]
def Wd (D : va_G) (cy : Nat → ClassId) (A : Nat → Prop) (s : State) (w : va_W) (H : Heap) (locs : List Loc) : Prop :=
  va_K D vwCl (TY cy) s ∧ va_P D vwCl w H ∧ va_D A w ∧ va_S A s.heap H locs ∧ (∀ q, s.heap.size ≤ q → A q) ∧ NN s
abbrev RM (d : Nat) : Room := { frames := d, cells := 0, slots := 0, locals := 40 * d }
/-- what a method is asked for at its start -/
def CP (D : va_G) (cy : Nat → ClassId) (w : va_W) (sz : Nat) (U : State) : Prop := U.heap.size = sz ∧ va_P D vwCl w U.heap ∧ va_K D vwCl (TY cy) U ∧ va_D (fun _ => True) w ∧ NN U
/-- what it gives at its end -/
def CQ (D : va_G) (cy : Nat → ClassId) (w : va_W) (r : Option Value) (w' : va_W) (sz : Nat) (_ : Array Value) (st : State) (o : Outcome) (t : State) : Prop :=
  (o = .returned r ∧ va_P D vwCl w' t.heap ∧ va_K D vwCl (TY cy) t ∧ va_D (va_A w sz) w') ∧ va_F (va_A w sz) st t
/-- the contract of a method that makes nothing: from the world w, with these arguments, it answers r and leaves w' -/
def CT (l : Launch) (y : MethodName) (ws : List Cond) (d : Nat) (D : va_G) (cy : Nat → ClassId) (av : List Value) (w : va_W) (r : Option Value) (w' : va_W) : Prop :=
  ∀ sz : Nat, Met l y ws (RM d) (va_Pc av (CP D cy w sz)) (CQ D cy w r w' sz) 0 0 (va_A w sz)
theorem CP.blind {av : List Value} {D : va_G} {cy : Nat → ClassId} {w : va_W} {sz : Nat} : FrameBlind (va_Pc av (CP D cy w sz)) := fun a U g mk q => by
  obtain ⟨q0, q1, qP, qK, qD, qN⟩ := q
  exact ⟨q0, q1, qP, va_K.moved (u := U) (U := U.calling g mk a) (Vm.Alike.refl U.vm) qK, qD, NN.same (u := U) (U := U.calling g mk a) rfl qN⟩
section WD
variable {p : Program} {l : Launch} {e : Env} {R : Room} {s : State} {m : MethodId} {args : Array Value} {below : List Frame} {meth : Method} {c : Code} {H : Heap} {locs : List Loc} {cells slots : Nat} {Q : State → Prop}
variable {cc : ByteArray} {pc : Nat} {ls : Array Slot} {rest : List Value} {D : va_G} {cy : Nat → ClassId} {A : Nat → Prop} {a nL : Nat} {w w' : va_W} {Ts : List Cond} {own : String}
/-- the end of a walk -/
abbrev ZQ (below : List Frame) (D : va_G) (cy : Nat → ClassId) (w : va_W) (r : Option Value) (w' : va_W) (args : Array Value) (s : State) : State → Prop := MQ below (CQ D cy w r w' s.heap.size) args s 0 0 (va_A w s.heap.size)
theorem CT.mk {y : MethodName} {ws ws' : List Cond} {d : Nat} {av : List Value} {r : Option Value} {maxL : Nat} {ret : Option FieldType} (hy : plainName y.cls = true) (hw : ws = Cond.code y cc maxL ret :: ws') (hown : y.cls = own) (hlen : (lg_sl av).length ≤ maxL)
    (body : ∀ (p : Program) (e : Env) (s : State) (m : MethodId) (args : Array Value) (below : List Frame) (meth : Method) (c : Code) (ls : Array Slot) (A : Nat → Prop) (Q : State → Prop), A = va_A w s.heap.size → Q = ZQ below D cy w r w' args s → CallFix p m c cc maxL s args ws own → meth.sig.returnType = ret → meth.locks = false → Wd D cy A s w s.heap [] → lv_has ls maxL (lv_args 0 av) →
      W p l e (RM d) s m args below meth c s.heap [] 0 0 Q (F0 m 0 ls [])) : CT l y ws d D cy av w r w' := by
  intro sz
  refine Met.ofW (cc := cc) (maxL := maxL) (ret := ret) hy hw ?_
  intro p e s m args below meth c s₁ B hml hv
  obtain ⟨rfl, hsz, hP, hK, hD0, hN⟩ := hv
  subst hsz
  have hl := lv_entry av (n := maxL) hlen
  rw [lg_entry_eq]
  have hts := atoms_spec (ws := ws) B.pre
  have ho : s.vm.findClass own = some m.cls := by rw [← hown]; exact findClass_of_methodNamed B.named
  exact body p e s m _ below meth c _ _ _ rfl rfl ⟨B.exec, B.bytes, hml, ho, hts⟩ B.returns B.notSynchronized ⟨hK, hP, hD0.self, va_S.rf, fun q h => Or.inr h, hN⟩ hl
theorem wd_get (hC : CallFix p m c cc nL s args Ts own) {ref C : String} {T : u_T} {N ci index : Nat} (hin : ∀ w ∈ u_ws C T N, w ∈ Ts) (hW : Wd D cy A s w H locs) (q0 : Nat) {fs : List Value} (he : w[q0]? = some (a, .inr (ci, fs))) (hc : vwCl[ci]? = some (C, T, N)) (k : Nat) (hk : k < N) (hlink : (Cond.fieldLink own index ref (T k).2.1 (T k).2.2.1).before args s = true) (hsame : (T k).1 = ref) {v : Value} (hv : fs[k]? = some v) (hdg : decode cc pc = .ok (.getfield index, 3))
    (kk : W p l e R s m args below meth c H locs cells slots Q (F0 m (pc + 3) ls (v :: rest))) : W p l e R s m args below meth c H locs cells slots Q (F0 m pc ls (.ref a :: rest)) :=
  va_get hC.1 hC.2.1 hC.2.2.2.2 hin hC.2.2.2.1 hW.1 hW.2.1 q0 he hc k hk hlink (fun x hx => by rw [← hsame]; exact hx) hv hdg kk
theorem wd_put (hC : CallFix p m c cc nL s args Ts own) {ref C : String} {T : u_T} {N ci index : Nat} (hin : ∀ w ∈ u_ws C T N, w ∈ Ts) {ty0 : Nat → FieldType} (hty : ∀ k, k < N → parseFieldDescriptor (T k).2.2.1 = some (ty0 k)) (hnm : ∀ a, a < N → ∀ b, b < N → a ≠ b → (T a).2.1 ≠ (T b).2.1) (hW : Wd D cy A s w H locs) (q0 : Nat) {fs : List Value} (he : w[q0]? = some (a, .inr (ci, fs))) (hc : vwCl[ci]? = some (C, T, N)) (k : Nat) (hk : k < N) (hlink : (Cond.fieldLink own index ref (T k).2.1 (T k).2.2.1).before args s = true) (hsame : (T k).1 = ref) (hfin : (T k).2.2.2 = false) {v : Value} (hn : narrow (ty0 k) v = v) (hfit : fits (ty0 k) v = true) (hl : k < fs.length) (hset : w.set q0 (a, .inr (ci, fs.set k v)) = w')
    (hdg : decode cc pc = .ok (.putfield index, 3)) (kk : ∀ (H : Heap) (locs : List Loc), Wd D cy A s w' H locs → W p l e R s m args below meth c H locs cells slots Q (F0 m (pc + 3) ls rest)) : W p l e R s m args below meth c H locs cells slots Q (F0 m pc ls (v :: .ref a :: rest)) := by
  subst hset
  exact va_put hC.1 hC.2.1 hC.2.2.2.2 hin ty0 hty hnm hC.2.2.2.1 hW.1 hW.2.1 hW.2.2.1 hW.2.2.2.1 q0 he hc k hk hlink (fun x hx => by rw [← hsame]; exact hx) hfin (hty k hk) hn hfit hl hdg (fun H1 locs1 hP hD hS => kk H1 locs1 ⟨hW.1, hP, hD, hS, hW.2.2.2.2⟩)
theorem wd_iald (hC : CallFix p m c cc nL s args Ts own) (hW : Wd D cy A s w H locs) (q0 : Nat) {n : Nat} {f : Nat → Int32} (ha : w[q0]? = some (a, .inl (cy 0, n, .inl f))) {i : Int32} (hin : vp_in i n) (hdg : decode cc pc = .ok (.iaload, 1))
    (kk : W p l e R s m args below meth c H locs cells slots Q (F0 m (pc + 1) ls (.int (f i.toNatClampNeg) :: rest))) : W p l e R s m args below meth c H locs cells slots Q (F0 m pc ls (.int i :: .ref a :: rest)) :=
  va_iald hC.1 hC.2.1 hW.1 hW.2.1 q0 0 ha rfl hin hdg kk
theorem wd_zald (hC : CallFix p m c cc nL s args Ts own) (hW : Wd D cy A s w H locs) (q0 : Nat) {n : Nat} {f : Nat → Int32} (ha : w[q0]? = some (a, .inl (cy 3, n, .inl f))) {i : Int32} (hin : vp_in i n) (hdg : decode cc pc = .ok (.baload, 1))
    (kk : W p l e R s m args below meth c H locs cells slots Q (F0 m (pc + 1) ls (.int (f i.toNatClampNeg) :: rest))) : W p l e R s m args below meth c H locs cells slots Q (F0 m pc ls (.int i :: .ref a :: rest)) :=
  va_zald hC.1 hC.2.1 hW.1 hW.2.1 q0 3 ha rfl hin hdg kk
theorem wd_cald (hC : CallFix p m c cc nL s args Ts own) (hW : Wd D cy A s w H locs) (q0 : Nat) {n : Nat} {f : Nat → Int32} (ha : w[q0]? = some (a, .inl (cy 2, n, .inl f))) {i : Int32} (hin : vp_in i n) (hdg : decode cc pc = .ok (.caload, 1))
    (kk : W p l e R s m args below meth c H locs cells slots Q (F0 m (pc + 1) ls (.int (f i.toNatClampNeg) :: rest))) : W p l e R s m args below meth c H locs cells slots Q (F0 m pc ls (.int i :: .ref a :: rest)) :=
  va_cald hC.1 hC.2.1 hW.1 hW.2.1 q0 2 ha rfl hin hdg kk
theorem wd_lald (hC : CallFix p m c cc nL s args Ts own) (hW : Wd D cy A s w H locs) (q0 : Nat) {n : Nat} {f : Nat → Int64} (ha : w[q0]? = some (a, .inl (cy 1, n, .inr (.inl f)))) {i : Int32} (hin : vp_in i n) (hdg : decode cc pc = .ok (.laload, 1))
    (kk : W p l e R s m args below meth c H locs cells slots Q (F0 m (pc + 1) ls (.long (f i.toNatClampNeg) :: rest))) : W p l e R s m args below meth c H locs cells slots Q (F0 m pc ls (.int i :: .ref a :: rest)) :=
  va_lald hC.1 hC.2.1 hW.1 hW.2.1 q0 1 ha rfl hin hdg kk
theorem wd_alen (hC : CallFix p m c cc nL s args Ts own) (hW : Wd D cy A s w H locs) (q0 t0 : Nat) {cA : ClassId} {x : vp_A} (ha : w[q0]? = some (a, .inl (cA, x))) {ty : FieldType} (ht : (TY cy)[t0]? = some (cA, ty)) {v : Int32} (hv : Int32.ofNat x.1 = v) (hdg : decode cc pc = .ok (.arraylength, 1))
    (kk : W p l e R s m args below meth c H locs cells slots Q (F0 m (pc + 1) ls (.int v :: rest))) : W p l e R s m args below meth c H locs cells slots Q (F0 m pc ls (.ref a :: rest)) :=
  va_alen hC.1 hC.2.1 hW.1 hW.2.1 q0 t0 ha ht hv hdg kk
theorem wd_aldq (hC : CallFix p m c cc nL s args Ts own) (hW : Wd D cy A s w H locs) (q0 : Nat) {n : Nat} {f : Nat → Option Nat} (ha : w[q0]? = some (a, .inl (cy 4, n, .inr (.inr (.inr (.inr f)))))) {i : Int32} (hin : vp_in i n) {v : Value} (hv : va_rf (f i.toNatClampNeg) = v) (hdg : decode cc pc = .ok (.aaload, 1))
    (kk : W p l e R s m args below meth c H locs cells slots Q (F0 m (pc + 1) ls (v :: rest))) : W p l e R s m args below meth c H locs cells slots Q (F0 m pc ls (.int i :: .ref a :: rest)) := by
  subst hv
  exact va_aldq hC.1 hC.2.1 hW.1 hW.2.1 q0 4 ha rfl hin hdg kk
theorem wd_aldg (hC : CallFix p m c cc nL s args Ts own) (hW : Wd D cy A s w H locs) (q0 : Nat) {n : Nat} {f : Nat → Option Nat} (ha : w[q0]? = some (a, .inl (cy 5, n, .inr (.inr (.inr (.inr f)))))) {i : Int32} (hin : vp_in i n) {v : Value} (hv : va_rf (f i.toNatClampNeg) = v) (hdg : decode cc pc = .ok (.aaload, 1))
    (kk : W p l e R s m args below meth c H locs cells slots Q (F0 m (pc + 1) ls (v :: rest))) : W p l e R s m args below meth c H locs cells slots Q (F0 m pc ls (.int i :: .ref a :: rest)) := by
  subst hv
  have hlt : i.toNatClampNeg < n := in_lt hin
  have ht : (TY cy)[5]? = some (cy 5, .array .int) := rfl
  exact W.aald (v := va_rf (f i.toNatClampNeg)) (ty := .array .int) hC.1 hC.2.1 (hW.2.1 q0 _ ha) ((hW.1.2 5 _ ht).1 n (fun j => va_rf (f j))) rfl (fun q => by cases q) (by show ¬ (i < 0 ∨ (arrV _ _ _).slots.size ≤ _); rw [arrV_size]; exact hin) (by show (arrV _ _ _).slots[_]? = _; rw [arrV_read _ _ hlt]) rfl rfl hdg kk
theorem wd_iast (hC : CallFix p m c cc nL s args Ts own) (hW : Wd D cy A s w H locs) (q0 : Nat) {n : Nat} {f : Nat → Int32} (ha : w[q0]? = some (a, .inl (cy 0, n, .inl f))) {i x : Int32} (hin : vp_in i n) (hset : w.set q0 (a, .inl (cy 0, n, .inl (upd f i.toNatClampNeg x))) = w') (hdg : decode cc pc = .ok (.iastore, 1))
    (kk : ∀ (H : Heap) (locs : List Loc), Wd D cy A s w' H locs → W p l e R s m args below meth c H locs cells slots Q (F0 m (pc + 1) ls rest)) : W p l e R s m args below meth c H locs cells slots Q (F0 m pc ls (.int x :: .int i :: .ref a :: rest)) := by
  subst hset
  exact va_iast hC.1 hC.2.1 hW.1 hW.2.1 hW.2.2.1 hW.2.2.2.1 q0 0 ha rfl hin hdg (fun H1 locs1 hP hD hS => kk H1 locs1 ⟨hW.1, hP, hD, hS, hW.2.2.2.2⟩)
theorem wd_zast (hC : CallFix p m c cc nL s args Ts own) (hW : Wd D cy A s w H locs) (q0 : Nat) {n : Nat} {f : Nat → Int32} (ha : w[q0]? = some (a, .inl (cy 3, n, .inl f))) {i x : Int32} (hin : vp_in i n) (hx : vp_nar .boolean x = x) (hset : w.set q0 (a, .inl (cy 3, n, .inl (upd f i.toNatClampNeg x))) = w') (hdg : decode cc pc = .ok (.bastore, 1))
    (kk : ∀ (H : Heap) (locs : List Loc), Wd D cy A s w' H locs → W p l e R s m args below meth c H locs cells slots Q (F0 m (pc + 1) ls rest)) : W p l e R s m args below meth c H locs cells slots Q (F0 m pc ls (.int x :: .int i :: .ref a :: rest)) := by
  subst hset
  exact va_zast hC.1 hC.2.1 hW.1 hW.2.1 hW.2.2.1 hW.2.2.2.1 q0 3 ha rfl hin hdg (fun H1 locs1 hP hD hS => kk H1 locs1 ⟨hW.1, by rw [hx] at hP; exact hP, by rw [hx] at hD; exact hD, hS, hW.2.2.2.2⟩)
theorem wd_cast (hC : CallFix p m c cc nL s args Ts own) (hW : Wd D cy A s w H locs) (q0 : Nat) {n : Nat} {f : Nat → Int32} (ha : w[q0]? = some (a, .inl (cy 2, n, .inl f))) {i x : Int32} (hin : vp_in i n) (hx : vp_nar .char x = x) (hset : w.set q0 (a, .inl (cy 2, n, .inl (upd f i.toNatClampNeg x))) = w') (hdg : decode cc pc = .ok (.castore, 1))
    (kk : ∀ (H : Heap) (locs : List Loc), Wd D cy A s w' H locs → W p l e R s m args below meth c H locs cells slots Q (F0 m (pc + 1) ls rest)) : W p l e R s m args below meth c H locs cells slots Q (F0 m pc ls (.int x :: .int i :: .ref a :: rest)) := by
  subst hset
  exact va_cast hC.1 hC.2.1 hW.1 hW.2.1 hW.2.2.1 hW.2.2.2.1 q0 2 ha rfl hin hdg (fun H1 locs1 hP hD hS => kk H1 locs1 ⟨hW.1, by rw [hx] at hP; exact hP, by rw [hx] at hD; exact hD, hS, hW.2.2.2.2⟩)
theorem wd_last (hC : CallFix p m c cc nL s args Ts own) (hW : Wd D cy A s w H locs) (q0 : Nat) {n : Nat} {f : Nat → Int64} (ha : w[q0]? = some (a, .inl (cy 1, n, .inr (.inl f)))) {i : Int32} {x : Int64} (hin : vp_in i n) (hset : w.set q0 (a, .inl (cy 1, n, .inr (.inl (vp_updL f i.toNatClampNeg x)))) = w') (hdg : decode cc pc = .ok (.lastore, 1))
    (kk : ∀ (H : Heap) (locs : List Loc), Wd D cy A s w' H locs → W p l e R s m args below meth c H locs cells slots Q (F0 m (pc + 1) ls rest)) : W p l e R s m args below meth c H locs cells slots Q (F0 m pc ls (.long x :: .int i :: .ref a :: rest)) := by
  subst hset
  exact va_last hC.1 hC.2.1 hW.1 hW.2.1 hW.2.2.1 hW.2.2.2.1 q0 1 ha rfl hin hdg (fun H1 locs1 hP hD hS => kk H1 locs1 ⟨hW.1, hP, hD, hS, hW.2.2.2.2⟩)
/-- behind a call of a method that makes nothing -/
theorem wd_run {r : Option Value} {st0 : List Value} {av : Array Value} (hW : Wd D cy A s w H locs) (hr : va_Run p l e R s m args below meth c H locs cells slots 0 0 (F0 m pc ls st0) rest (CQ D cy w r w' H.size av) (va_A w H.size))
    (kk : ∀ (H : Heap) (locs : List Loc), Wd D cy A s w' H locs → W p l e R s m args below meth c H locs cells slots Q (F0 m (pc + 3) ls (r.toList ++ rest))) : W p l e R s m args below meth c H locs cells slots Q (F0 m pc ls st0) := by
  obtain ⟨hK, hP, hD, hS, hA, hN⟩ := hW
  have hF : ∀ q, va_A w H.size q → A q := by
    intro q h
    rcases h with ⟨k, e9, h⟩ | h
    · exact hD.2 k (q, e9) h
    · exact hA q (Nat.le_trans hS.1 h)
  intro T hT X
  obtain ⟨v, st₀, t, T', L, h0, X', hL, e1, e2, ⟨⟨hv, hP1, hK1, hD1⟩, hz, hk⟩, st⟩ := hr T hT X
  cases hv
  rw [h0] at hz hk
  have hvm : s.vm.Alike t.vm := by rw [← e2]; exact X'.warmed.alike
  obtain ⟨t2, a1, b1⟩ := kk T'.heap (locs ++ L) ⟨va_K.moved hvm.symm hK1, by rw [e1]; exact hP1, hD1.weaken (fun k q _ h => hF q.1 h), ⟨Nat.le_trans hS.1 (by rw [e1]; exact hz), fun q h1 h2 => by rw [e1, hk q (Nat.lt_of_lt_of_le h1 hS.1) (fun z => h2 (hF q z))]; exact hS.2.1 q h1 h2, fun q hq => by
      rcases List.mem_append.mp hq with h | h
      · exact hS.2.2 q h
      · exact hF _ (hL q h)⟩, hA, hN⟩ T' rfl X'
  exact ⟨t2, st t2 a1, b1⟩
theorem wd_pre (hW : Wd D cy A s w H locs) (av : List Value) : ∀ U : State, U.heap = H → s.WarmedH U.vm → va_Pc av (CP D cy w H.size) av.toArray U := fun U hU hw => ⟨rfl, by rw [hU], by rw [hU]; exact hW.2.1, va_K.moved hw.alike hW.1, hW.2.2.1.weaken (fun _ _ _ _ => trivial), hW.2.2.2.2.2.warm hw⟩
theorem wd_callV (hC : CallFix p m c cc nL s args Ts own) (hW : Wd D cy A s w H locs) (q0 : Nat) {b ci n index maxL d N : Nat} {C : String} {T : u_T} {fs : List Value} (he : w[q0]? = some (b, .inr (ci, fs))) (hc : vwCl[ci]? = some (C, T, N)) {y : MethodName} {ws : List Cond} {bytes : ByteArray} {ret : Option FieldType} {As : List Value} {r : Option Value} (hM : CT l y ws d D cy (.ref b :: As) w r w') (cw : CallW R s args own C index y bytes maxL ret ws (RM d) 0 0 n)
    (hn : As.length = n) (hsize : ls.size = nL) {st0 : List Value} (hst : st0 = As.reverse ++ .ref b :: rest) (hrest : (rest.map fun v => v.category).sum ≤ 8) (hcs : cells ≤ R.cells ∧ slots ≤ R.slots) (hdg : decode cc pc = .ok (.invokevirtual index, 3))
    (kk : ∀ (H : Heap) (locs : List Loc), Wd D cy A s w' H locs → W p l e R s m args below meth c H locs cells slots Q (F0 m (pc + 3) ls (r.toList ++ rest))) : W p l e R s m args below meth c H locs cells slots Q (F0 m pc ls st0) :=
  wd_run hW (va_runV (As := As) (rest := rest) hC (hM H.size) cw ⟨CP.blind, va_recv hW.1 hW.2.1 (ci := ci) (q0 := q0) hc he, wd_pre hW (.ref b :: As)⟩ rfl hn hsize hst (lv_room hrest) hdg hcs) kk
theorem wd_callS (hC : CallFix p m c cc nL s args Ts own) (hW : Wd D cy A s w H locs) {n index maxL d : Nat} {y : MethodName} {ws : List Cond} {bytes : ByteArray} {ret : Option FieldType} {As : List Value} {r : Option Value} (hM : CT l y ws d D cy As w r w') (cw : CallB R s args own index y bytes maxL ret ws (RM d) 0 0 n ∧ (Cond.static y).before args s = true)
    (hn : As.length = n) (hsize : ls.size = nL) {st0 : List Value} (hst : st0 = As.reverse ++ rest) (hrest : (rest.map fun v => v.category).sum ≤ 8) (hcs : cells ≤ R.cells ∧ slots ≤ R.slots) (hdg : decode cc pc = .ok (.invokestatic index, 3))
    (kk : ∀ (H : Heap) (locs : List Loc), Wd D cy A s w' H locs → W p l e R s m args below meth c H locs cells slots Q (F0 m (pc + 3) ls (r.toList ++ rest))) : W p l e R s m args below meth c H locs cells slots Q (F0 m pc ls st0) :=
  wd_run hW (va_runS (As := As) (rest := rest) hC (hM H.size) cw ⟨CP.blind, wd_pre hW As⟩ rfl hn hsize hst (lv_room hrest) hdg hcs) kk
theorem wd_callSN (hC : CallFix p m c cc nL s args Ts own) (hW : Wd D cy A s w H locs) {n index maxL d : Nat} {y : MethodName} {host : String} {ws : List Cond} {bytes : ByteArray} {ret : Option FieldType} {As : List Value} {r : Option Value} (hM : CT l y ws d D cy As w r w') (cw : va_CN R s args own index y host bytes maxL ret ws (RM d) 0 0 n ∧ (Cond.static y).before args s = true ∧ True)
    (hn : As.length = n) (hsize : ls.size = nL) {st0 : List Value} (hst : st0 = As.reverse ++ rest) (hrest : (rest.map fun v => v.category).sum ≤ 8) (hcs : cells ≤ R.cells ∧ slots ≤ R.slots) (hdg : decode cc pc = .ok (.invokestatic index, 3))
    (kk : ∀ (H : Heap) (locs : List Loc), Wd D cy A s w' H locs → W p l e R s m args below meth c H locs cells slots Q (F0 m (pc + 3) ls (r.toList ++ rest))) : W p l e R s m args below meth c H locs cells slots Q (F0 m pc ls st0) :=
  wd_run hW (va_runSN (As := As) (rest := rest) hC (hM H.size) cw ⟨CP.blind, wd_pre hW As⟩ rfl hn hsize hst (lv_room hrest) hdg hcs) kk
theorem wd_callV1 (hC : CallFix p m c cc nL s args Ts own) (hW : Wd D cy A s w H locs) (q0 : Nat) {b ci n index maxL d N : Nat} {C : String} {T : u_T} {fs : List Value} (he : w[q0]? = some (b, .inr (ci, fs))) (hc : vwCl[ci]? = some (C, T, N)) {y : MethodName} {ws : List Cond} {bytes : ByteArray} {ret : Option FieldType} {As : List Value} {v : Value} (hM : CT l y ws d D cy (.ref b :: As) w (some v) w') (cw : CallW R s args own C index y bytes maxL ret ws (RM d) 0 0 n)
    (hn : As.length = n) (hsize : ls.size = nL) {st0 : List Value} (hst : st0 = As.reverse ++ .ref b :: rest) (hrest : (rest.map fun v => v.category).sum ≤ 8) (hcs : cells ≤ R.cells ∧ slots ≤ R.slots) (hdg : decode cc pc = .ok (.invokevirtual index, 3))
    (kk : ∀ (H : Heap) (locs : List Loc), Wd D cy A s w' H locs → W p l e R s m args below meth c H locs cells slots Q (F0 m (pc + 3) ls (v :: rest))) : W p l e R s m args below meth c H locs cells slots Q (F0 m pc ls st0) :=
  wd_callV hC hW q0 he hc hM cw hn hsize hst hrest hcs hdg kk
theorem wd_callV0 (hC : CallFix p m c cc nL s args Ts own) (hW : Wd D cy A s w H locs) (q0 : Nat) {b ci n index maxL d N : Nat} {C : String} {T : u_T} {fs : List Value} (he : w[q0]? = some (b, .inr (ci, fs))) (hc : vwCl[ci]? = some (C, T, N)) {y : MethodName} {ws : List Cond} {bytes : ByteArray} {ret : Option FieldType} {As : List Value}  (hM : CT l y ws d D cy (.ref b :: As) w none w') (cw : CallW R s args own C index y bytes maxL ret ws (RM d) 0 0 n)
    (hn : As.length = n) (hsize : ls.size = nL) {st0 : List Value} (hst : st0 = As.reverse ++ .ref b :: rest) (hrest : (rest.map fun v => v.category).sum ≤ 8) (hcs : cells ≤ R.cells ∧ slots ≤ R.slots) (hdg : decode cc pc = .ok (.invokevirtual index, 3))
    (kk : ∀ (H : Heap) (locs : List Loc), Wd D cy A s w' H locs → W p l e R s m args below meth c H locs cells slots Q (F0 m (pc + 3) ls (rest))) : W p l e R s m args below meth c H locs cells slots Q (F0 m pc ls st0) :=
  wd_callV hC hW q0 he hc hM cw hn hsize hst hrest hcs hdg kk
theorem wd_callS1 (hC : CallFix p m c cc nL s args Ts own) (hW : Wd D cy A s w H locs) {n index maxL d : Nat} {y : MethodName} {ws : List Cond} {bytes : ByteArray} {ret : Option FieldType} {As : List Value} {v : Value} (hM : CT l y ws d D cy As w (some v) w') (cw : CallB R s args own index y bytes maxL ret ws (RM d) 0 0 n ∧ (Cond.static y).before args s = true)
    (hn : As.length = n) (hsize : ls.size = nL) {st0 : List Value} (hst : st0 = As.reverse ++ rest) (hrest : (rest.map fun v => v.category).sum ≤ 8) (hcs : cells ≤ R.cells ∧ slots ≤ R.slots) (hdg : decode cc pc = .ok (.invokestatic index, 3))
    (kk : ∀ (H : Heap) (locs : List Loc), Wd D cy A s w' H locs → W p l e R s m args below meth c H locs cells slots Q (F0 m (pc + 3) ls (v :: rest))) : W p l e R s m args below meth c H locs cells slots Q (F0 m pc ls st0) :=
  wd_callS hC hW hM cw hn hsize hst hrest hcs hdg kk
theorem wd_callS0 (hC : CallFix p m c cc nL s args Ts own) (hW : Wd D cy A s w H locs) {n index maxL d : Nat} {y : MethodName} {ws : List Cond} {bytes : ByteArray} {ret : Option FieldType} {As : List Value}  (hM : CT l y ws d D cy As w none w') (cw : CallB R s args own index y bytes maxL ret ws (RM d) 0 0 n ∧ (Cond.static y).before args s = true)
    (hn : As.length = n) (hsize : ls.size = nL) {st0 : List Value} (hst : st0 = As.reverse ++ rest) (hrest : (rest.map fun v => v.category).sum ≤ 8) (hcs : cells ≤ R.cells ∧ slots ≤ R.slots) (hdg : decode cc pc = .ok (.invokestatic index, 3))
    (kk : ∀ (H : Heap) (locs : List Loc), Wd D cy A s w' H locs → W p l e R s m args below meth c H locs cells slots Q (F0 m (pc + 3) ls (rest))) : W p l e R s m args below meth c H locs cells slots Q (F0 m pc ls st0) :=
  wd_callS hC hW hM cw hn hsize hst hrest hcs hdg kk
theorem wd_callSN1 (hC : CallFix p m c cc nL s args Ts own) (hW : Wd D cy A s w H locs) {n index maxL d : Nat} {y : MethodName} {host : String} {ws : List Cond} {bytes : ByteArray} {ret : Option FieldType} {As : List Value} {v : Value} (hM : CT l y ws d D cy As w (some v) w') (cw : va_CN R s args own index y host bytes maxL ret ws (RM d) 0 0 n ∧ (Cond.static y).before args s = true ∧ True)
    (hn : As.length = n) (hsize : ls.size = nL) {st0 : List Value} (hst : st0 = As.reverse ++ rest) (hrest : (rest.map fun v => v.category).sum ≤ 8) (hcs : cells ≤ R.cells ∧ slots ≤ R.slots) (hdg : decode cc pc = .ok (.invokestatic index, 3))
    (kk : ∀ (H : Heap) (locs : List Loc), Wd D cy A s w' H locs → W p l e R s m args below meth c H locs cells slots Q (F0 m (pc + 3) ls (v :: rest))) : W p l e R s m args below meth c H locs cells slots Q (F0 m pc ls st0) :=
  wd_callSN hC hW hM cw hn hsize hst hrest hcs hdg kk
theorem wd_callSN0 (hC : CallFix p m c cc nL s args Ts own) (hW : Wd D cy A s w H locs) {n index maxL d : Nat} {y : MethodName} {host : String} {ws : List Cond} {bytes : ByteArray} {ret : Option FieldType} {As : List Value}  (hM : CT l y ws d D cy As w none w') (cw : va_CN R s args own index y host bytes maxL ret ws (RM d) 0 0 n ∧ (Cond.static y).before args s = true ∧ True)
    (hn : As.length = n) (hsize : ls.size = nL) {st0 : List Value} (hst : st0 = As.reverse ++ rest) (hrest : (rest.map fun v => v.category).sum ≤ 8) (hcs : cells ≤ R.cells ∧ slots ≤ R.slots) (hdg : decode cc pc = .ok (.invokestatic index, 3))
    (kk : ∀ (H : Heap) (locs : List Loc), Wd D cy A s w' H locs → W p l e R s m args below meth c H locs cells slots Q (F0 m (pc + 3) ls (rest))) : W p l e R s m args below meth c H locs cells slots Q (F0 m pc ls st0) :=
  wd_callSN hC hW hM cw hn hsize hst hrest hcs hdg kk
theorem wd_end (hW : Wd D cy (va_A w s.heap.size) s w' H locs) (r : Option Value) : ∀ t : State, t.heap = H → s.WarmedH t.vm → CQ D cy w r w' s.heap.size args s (.returned r) t := fun t ht hw => ⟨⟨rfl, by rw [ht]; exact hW.2.1, va_K.moved hw.alike hW.1, hW.2.2.1⟩, hW.2.2.2.1.F ht⟩
theorem wd_iret (hA : A = va_A w s.heap.size) {v : Int32} (hQ : Q = ZQ below D cy w (some (.int v)) w' args s) (hC : CallFix p m c cc nL s args Ts own) (hr : meth.sig.returnType = some .int) (hlocks : meth.locks = false) (hW : Wd D cy A s w' H locs) (hdg : decode cc pc = .ok (.ireturn, 1)) : W p l e R s m args below meth c H locs 0 0 Q (F0 m pc ls [.int v]) := by
  subst hA
  subst hQ
  exact W.iret hC.1 hC.2.1 hr (wd_end hW _) hW.2.2.2.1.2.2 hdg hlocks
theorem wd_zret (hA : A = va_A w s.heap.size) {v : Int32} (hQ : Q = ZQ below D cy w (some (.int v)) w' args s) (hC : CallFix p m c cc nL s args Ts own) (hr : meth.sig.returnType = some .boolean) (hlocks : meth.locks = false) (hW : Wd D cy A s w' H locs) (hn : narrow .boolean (.int v) = .int v) (hdg : decode cc pc = .ok (.ireturn, 1)) : W p l e R s m args below meth c H locs 0 0 Q (F0 m pc ls [.int v]) := by
  subst hA
  subst hQ
  exact W.zret hC.1 hC.2.1 hr hn (wd_end hW _) hW.2.2.2.1.2.2 hdg hlocks
theorem wd_lret (hA : A = va_A w s.heap.size) {v : Int64} (hQ : Q = ZQ below D cy w (some (.long v)) w' args s) (hC : CallFix p m c cc nL s args Ts own) (hr : meth.sig.returnType = some .long) (hlocks : meth.locks = false) (hW : Wd D cy A s w' H locs) (hdg : decode cc pc = .ok (.lreturn, 1)) : W p l e R s m args below meth c H locs 0 0 Q (F0 m pc ls [.long v]) := by
  subst hA
  subst hQ
  exact W.lret hC.1 hC.2.1 hr (wd_end hW _) hW.2.2.2.1.2.2 hdg hlocks
theorem wd_vret (hA : A = va_A w s.heap.size) (hQ : Q = ZQ below D cy w none w' args s) (hC : CallFix p m c cc nL s args Ts own) (hr : meth.sig.returnType = none) (hlocks : meth.locks = false) (hW : Wd D cy A s w' H locs) (hdg : decode cc pc = .ok (.return_, 1)) : W p l e R s m args below meth c H locs 0 0 Q (F0 m pc ls []) := by
  subst hA
  subst hQ
  exact W.vret hC.1 hC.2.1 hr (wd_end hW _) hW.2.2.2.1.2.2 hdg hlocks
theorem wd_max (hC : CallFix p m c cc nL s args Ts own) (hsize : ls.size = nL) {index : Nat} (hlink : (Cond.methodLink own index Lib.Math.max.name).before args s = true) (hstat : (Cond.static Lib.Math.max.name).before args s = true) (hini : (Cond.initialized "java/lang/Math").before args s = true) (hcode : (Cond.code Lib.Math.max.name Lib.Math.max.code 2 (some .int)).before args s = true)
    (hframes : 1 ≤ R.frames) (hlocals : (rest.map fun v => v.category).sum + 13 ≤ R.locals) (hc : cells ≤ R.cells) (hs : slots ≤ R.slots) {x y : Int32} (hdg : decode cc pc = .ok (.invokestatic index, 3))
    (kk : W p l e R s m args below meth c H locs cells slots Q (F0 m (pc + 3) ls (.int (mx x y) :: rest))) : W p l e R s m args below meth c H locs cells slots Q (F0 m pc ls (.int y :: .int x :: rest)) :=
  va_mmax hC.1 hC.2.1 (hC.2.2.1.trans hsize.symm) hC.2.2.2.1 hlink hstat hini hcode hframes hlocals hc hs hdg kk
theorem wd_min (hC : CallFix p m c cc nL s args Ts own) (hsize : ls.size = nL) {index : Nat} (hlink : (Cond.methodLink own index Lib.Math.min.name).before args s = true) (hstat : (Cond.static Lib.Math.min.name).before args s = true) (hini : (Cond.initialized "java/lang/Math").before args s = true) (hcode : (Cond.code Lib.Math.min.name Lib.Math.min.code 2 (some .int)).before args s = true)
    (hframes : 1 ≤ R.frames) (hlocals : (rest.map fun v => v.category).sum + 13 ≤ R.locals) (hc : cells ≤ R.cells) (hs : slots ≤ R.slots) {x y : Int32} (hdg : decode cc pc = .ok (.invokestatic index, 3))
    (kk : W p l e R s m args below meth c H locs cells slots Q (F0 m (pc + 3) ls (.int (mn x y) :: rest))) : W p l e R s m args below meth c H locs cells slots Q (F0 m pc ls (.int y :: .int x :: rest)) :=
  va_mmin hC.1 hC.2.1 (hC.2.2.1.trans hsize.symm) hC.2.2.2.1 hlink hstat hini hcode hframes hlocals hc hs hdg kk
end WD
