theorem dfX8 : ∀ j, j < 12 → defaultValue (tyX8 j) = vp_V [.null, .null, .null, .null, .null, .null, .null, .null, .null, .int 0, .null, .null] j := fun j hj => match j, hj with
  | 0, _ => rfl
  | 1, _ => rfl
  | 2, _ => rfl
  | 3, _ => rfl
  | 4, _ => rfl
  | 5, _ => rfl
  | 6, _ => rfl
  | 7, _ => rfl
  | 8, _ => rfl
  | 9, _ => rfl
  | 10, _ => rfl
  | 11, _ => rfl
  | k + 12, h => absurd h (by omega)
theorem dfX9 : ∀ j, j < 40 → defaultValue (tyX9 j) = vp_V [.int 0, .int 0, .null, .int 0, .null, .null, .null, .null, .null, .null, .int 0, .null, .null, .int 0, .int 0, .null, .int 0, .null, .int 0, .int 0, .int 0, .int 0, .int 0, .int 0, .null, .null, .null, .null, .null, .null, .null, .null, .null, .int 0, .int 0, .int 0, .int 0, .null, .null, .int 0] j := fun j hj => match j, hj with
  | 0, _ => rfl
  | 1, _ => rfl
  | 2, _ => rfl
  | 3, _ => rfl
  | 4, _ => rfl
  | 5, _ => rfl
  | 6, _ => rfl
  | 7, _ => rfl
  | 8, _ => rfl
  | 9, _ => rfl
  | 10, _ => rfl
  | 11, _ => rfl
  | 12, _ => rfl
  | 13, _ => rfl
  | 14, _ => rfl
  | 15, _ => rfl
  | 16, _ => rfl
  | 17, _ => rfl
  | 18, _ => rfl
  | 19, _ => rfl
  | 20, _ => rfl
  | 21, _ => rfl
  | 22, _ => rfl
  | 23, _ => rfl
  | 24, _ => rfl
  | 25, _ => rfl
  | 26, _ => rfl
  | 27, _ => rfl
  | 28, _ => rfl
  | 29, _ => rfl
  | 30, _ => rfl
  | 31, _ => rfl
  | 32, _ => rfl
  | 33, _ => rfl
  | 34, _ => rfl
  | 35, _ => rfl
  | 36, _ => rfl
  | 37, _ => rfl
  | 38, _ => rfl
  | 39, _ => rfl
  | k + 40, h => absurd h (by omega)
/-- the reference at its start -/
def T0 : St := (fun _ => 0, fun _ _ => 0, fun _ _ => 0, fun _ => none)
theorem arr_of {args : Array Value} {s : State} {ty : FieldType} (hpr : ∀ C, ty ≠ .object C) (h : (Cond.arrayClass ty).before args s = true) : ∃ cA, ArrOfT s cA ty ∧ va_RA s cA ty := by
  obtain ⟨cA, kA, comp, hfind, hk, hkind⟩ := Cond.arrayClass_spec h
  refine ⟨cA, fun n z => ⟨fun k h => (by cases h), kA, hk, comp, hkind⟩, ?_⟩
  cases ty with
  | object C => exact absurd rfl (hpr C)
  | _ => exact hfind
theorem arr_ofO {s : State} {C : String} (h : va_AO C s) : ∃ cA, ArrOfT s cA (.object C) ∧ va_RA s cA (.object C) := by
  obtain ⟨comp, c, k, h1, h2, h3, h4, h5⟩ := Cond.arrayOver_spec h
  exact ⟨c, fun n z => ⟨fun k h => (by cases h), k, h3, comp, h4⟩, k, comp, h3, h4, h1, h5⟩
theorem arr_ofA {s : State} (h : va_AOA .int s) : ∃ cA, ArrOfT s cA (.array .int) ∧ va_RA s cA (.array .int) := by
  obtain ⟨comp, c, k, h1, h2, h3, h4, h5⟩ := Jvm.Stand.arrayOver_specB h
  exact ⟨c, fun n z => ⟨fun k h => (by cases h), k, h3, comp, h4⟩, h5⟩
theorem nests_in : ∀ x ∈ nests, Cond.methodLinkNest x.1 x.2.1 x.2.2.1 x.2.2.2 ∈ lw_tbl := by decide +kernel
theorem exN_in : ∀ x ∈ exN, Cond.declares x ∈ lw_tbl := by decide +kernel
theorem more_in : ∀ w ∈ [Cond.castable NSE NSE, Cond.arrayOver (.array .int), Cond.arrayOver (.object RX3), Cond.laysStatic Bundle.tN "UNASSIGNED_STACK" Bundle.steD, Cond.laysStatic Bundle.tN "SUPPRESSED_SENTINEL" Bundle.listD, Cond.initialized Bundle.tN], w ∈ lw_tbl := by decide +kernel
set_option maxHeartbeats 8000000 in
set_option maxRecDepth 100000 in
/-- the law from its entry, over layer B -/
theorem whole_of {n : Nat} {Rel : St → Option St → Option St → St → Prop} (HB : HBall n Rel) (hRel0 : Rel S0 none none T0) {p : Program} {e : Env} {s : State} {m : MethodId} {below : List Frame} {meth : Method} {c : Code} (l : Launch) (hflags : l.flags = flags0) {b L : Nat} {xs : Nat → Int32} (hL : L ≤ 2560) (C0 : lw_At p s m meth c b L xs) : W p l e room_1 s m #[Value.ref b] below meth c s.heap [] 0 0 (lw_Z below #[Value.ref b] s) (entryFrame m ([Value.ref b] : List Value).toArray 8) := by
  obtain ⟨hx, hb, hr, hml, hown, hts0, hXs, hbl, hlocks, hgv⟩ := C0
  have htr : l.stackTraces = false := by
    unfold Launch.stackTraces
    rw [hflags]
    decide +kernel
  have hts : ∀ w ∈ wsL_law, w.before #[Value.ref b] s = true := fun w h => hts0 w (wsL_law_in w h)
  have hC : CallFix p m c cL_law 8 s #[Value.ref b] wsL_law RL := ⟨hx, hb, hml, hown, hts⟩
  obtain ⟨c0, iS0, hKn0⟩ := u_known (C := RX0) (T := TX0) (N := 2) (n := 2) hts (fun w h => in_law (inc_0 w h)) (hts (.instantiable RX0 2) (in_law w_2_7))
  obtain ⟨c1, iS1, hKn1⟩ := u_known (C := RX1) (T := TX1) (N := 16) (n := 16) hts (fun w h => in_law (inc_1 w h)) (hts (.instantiable RX1 16) (in_law w_43_1))
  obtain ⟨c2, iS2, hKn2⟩ := u_known (C := RX2) (T := TX2) (N := 12) (n := 12) hts (fun w h => in_law (inc_2 w h)) (hts (.instantiable RX2 12) (in_law w_35_5))
  obtain ⟨c3, iS3, hKn3⟩ := u_known (C := RX3) (T := TX3) (N := 4) (n := 4) hts (fun w h => in_law (inc_3 w h)) (hts (.instantiable RX3 4) (in_law w_1_19))
  obtain ⟨c4, iS4, hKn4⟩ := u_known (C := RX4) (T := TX4) (N := 16) (n := 16) hts (fun w h => in_law (inc_4 w h)) (hts (.instantiable RX4 16) (in_law w_1_22))
  obtain ⟨c5, iS5, hKn5⟩ := u_known (C := RX5) (T := TX5) (N := 8) (n := 8) hts (fun w h => in_law (inc_5 w h)) (hts (.instantiable RX5 8) (in_law w_2_3))
  obtain ⟨c6, iS6, hKn6⟩ := u_known (C := RX6) (T := TX6) (N := 4) (n := 4) hts (fun w h => in_law (inc_6 w h)) (hts (.instantiable RX6 4) (in_law w_2_11))
  obtain ⟨c7, iS7, hKn7⟩ := u_known (C := RX7) (T := TX7) (N := 4) (n := 4) hts (fun w h => in_law (inc_7 w h)) (hts (.instantiable RX7 4) (in_law w_1_14))
  obtain ⟨c8, iS8, hKn8⟩ := u_known (C := RX8) (T := TX8) (N := 12) (n := 12) hts (fun w h => in_law (inc_8 w h)) (hts (.instantiable RX8 12) (in_law w_1_1))
  obtain ⟨c9, iS9, hKn9⟩ := u_known (C := RX9) (T := TX9) (N := 40) (n := 40) hts (fun w h => in_law (inc_9 w h)) (hts (.instantiable RX9 40) (in_law w_1_4))
  obtain ⟨dC, dI, hKc⟩ : ∃ (dC : Nat → ClassId) (dI : Nat → Nat → Nat), ∀ (k : Nat) (q : vw_C), vwCl[k]? = some q → u_Kn s q.1 q.2.1 q.2.2 (dC k) (dI k) := by
    refine ⟨fun k => if k = 0 then c0 else if k = 1 then c1 else if k = 2 then c2 else if k = 3 then c3 else if k = 4 then c4 else if k = 5 then c5 else if k = 6 then c6 else if k = 7 then c7 else if k = 8 then c8 else c9, fun k => if k = 0 then iS0 else if k = 1 then iS1 else if k = 2 then iS2 else if k = 3 then iS3 else if k = 4 then iS4 else if k = 5 then iS5 else if k = 6 then iS6 else if k = 7 then iS7 else if k = 8 then iS8 else iS9, ?_⟩
    intro k q hq
    match k, hq with
    | 0, hq => cases hq; exact hKn0
    | 1, hq => cases hq; exact hKn1
    | 2, hq => cases hq; exact hKn2
    | 3, hq => cases hq; exact hKn3
    | 4, hq => cases hq; exact hKn4
    | 5, hq => cases hq; exact hKn5
    | 6, hq => cases hq; exact hKn6
    | 7, hq => cases hq; exact hKn7
    | 8, hq => cases hq; exact hKn8
    | 9, hq => cases hq; exact hKn9
    | k + 10, hq => simp [vwCl] at hq
  have hmore := fun w h => hts0 w (more_in w h)
  have hO : va_AO RX3 s := va_AO.of (hmore (.arrayOver (.object RX3)) (by simp))
  have hAA : va_AOA .int s := va_AOA.of (hmore (.arrayOver (.array .int)) (by simp))
  have hNN : NN s := ⟨fun x hx => va_Nw.of rfl (hts0 _ (nests_in x hx)), hAA, hO⟩
  have hE : EX s := ⟨fun x hx => va_Nw.of rfl (hts0 _ (exN_in x hx)), va_Nw.of rfl (hmore (.castable NSE NSE) (by simp))⟩
  have hflat := flat_of_before _ hgv
  have hZ : ZZ (fun q => s.heap.size ≤ q) s s.heap := ⟨vx_Zqof (hmore _ (by simp)) (hmore (.initialized Bundle.tN) (by simp)) (hflat _ (by decide +kernel)) (fun a h => Nat.not_le.mpr h), vx_Zqof (hmore _ (by simp)) (hmore (.initialized Bundle.tN) (by simp)) (hflat _ (by decide +kernel)) (fun a h => Nat.not_le.mpr h)⟩
  obtain ⟨y0, hy0⟩ := arr_of (ty := .int) (fun C h => by cases h) (hts _ (in_law w_2_15))
  obtain ⟨y1, hy1⟩ := arr_of (ty := .long) (fun C h => by cases h) (hts _ (in_law w_1_6))
  obtain ⟨y2, hy2⟩ := arr_of (ty := .char) (fun C h => by cases h) (hts _ (in_law w_3_0))
  obtain ⟨y3, hy3⟩ := arr_of (ty := .boolean) (fun C h => by cases h) (hts _ (in_law w_3_20))
  obtain ⟨y4, hy4⟩ := arr_ofO hO
  obtain ⟨y5, hy5⟩ := arr_ofA hAA
  obtain ⟨cy, e0, e1, e2, e3, e4, e5⟩ : ∃ cy : Nat → ClassId, cy 0 = y0 ∧ cy 1 = y1 ∧ cy 2 = y2 ∧ cy 3 = y3 ∧ cy 4 = y4 ∧ cy 5 = y5 := ⟨fun k => if k = 0 then y0 else if k = 1 then y1 else if k = 2 then y2 else if k = 3 then y3 else if k = 4 then y4 else y5, rfl, rfl, rfl, rfl, rfl, rfl⟩
  subst e0
  subst e1
  subst e2
  subst e3
  subst e4
  subst e5
  generalize hDe : ((dC, dI) : va_G) = D
  have hK : va_K D vwCl (TY cy) s := by
    subst hDe
    refine ⟨hKc, fun k q hq => ?_⟩
    match k, hq with
    | 0, hq => cases hq; exact hy0
    | 1, hq => cases hq; exact hy1
    | 2, hq => cases hq; exact hy2
    | 3, hq => cases hq; exact hy3
    | 4, hq => cases hq; exact hy4
    | 5, hq => cases hq; exact hy5
    | k + 6, hq => simp [TY] at hq
  have hW : Wd D cy (fun q => s.heap.size ≤ q) s [] s.heap [] := ⟨hK, fun k q h => by simp at h, ⟨fun i j p q h => by simp at h, fun k q h => by simp at h⟩, va_S.rf, fun _ h => h, hNN⟩
  have hl := lv_entry ([.ref b]) (n := 8) (Nat.le_of_ble_eq_true rfl)
  rw [lg_entry_eq]
  generalize (lg_sl ([.ref b]) ++ List.replicate (8 - (lg_sl ([.ref b])).length) Slot.unset).toArray = ls at hl ⊢
  have hl : lv_has ls 8 [(0, .ref b)] := hl
  refine wa_new (ci := 8) (fs := [.null, .null, .null, .null, .null, .null, .null, .null, .null, .int 0, .null, .null]) hC (fun w h => in_law (inc_8 w h)) tyX8_ok (hts _ (in_law w_1_0)) (hts _ (in_law w_1_1)) (hts _ (in_law w_1_2)) hW rfl dfX8 (by decide +kernel) (by decide +kernel) dL_law_0 (fun q0 H hW => ?_)
  refine lv_dup hx hb dL_law_3 rfl ?_
  refine wa_callI (As := []) hC hW (c_X8_init l D cy _ q0) (cwI 0 hts (gl_N w_1_9) rfl rfl rfl (hts _ (in_law w_1_2)) (hts _ (in_law w_1_7)) (hts _ (in_law w_1_8)) rfl (by decide +kernel) ⟨Nat.le_of_ble_eq_true rfl, Nat.le_of_ble_eq_true rfl⟩) rfl hl.1 rfl (Nat.le_of_ble_eq_true rfl) ⟨by decide +kernel, by decide +kernel⟩ dL_law_4 (fun r9 w9 H locs hp hW2 => ?_)
  obtain ⟨rfl, ad, had, rfl⟩ := hp
  subst had
  have hW := hW2
  refine W.eq (g2 := F0 m 7 ls [.ref (ad 0)]) rfl ?_
  refine lv_astore_n (lv' := [(1, .ref (ad 0)), (0, .ref b)]) hx hb dL_law_7 rfl hl (by decide) rfl (fun ls hl => ?_)
  refine wa_new (ci := 9) (fs := [.int 0, .int 0, .null, .int 0, .null, .null, .null, .null, .null, .null, .int 0, .null, .null, .int 0, .int 0, .null, .int 0, .null, .int 0, .int 0, .int 0, .int 0, .int 0, .int 0, .null, .null, .null, .null, .null, .null, .null, .null, .null, .int 0, .int 0, .int 0, .int 0, .null, .null, .int 0]) hC (fun w h => in_law (inc_9 w h)) tyX9_ok (hts _ (in_law w_1_3)) (hts _ (in_law w_1_4)) (hts _ (in_law w_1_5)) hW rfl dfX9 (by decide +kernel) (by decide +kernel) dL_law_8 (fun q1 H hW => ?_)
  refine lv_dup hx hb dL_law_11 rfl ?_
  refine wa_callI (As := []) hC hW (c_X9_init l D cy _ q1) (cwI 0 hts (gl_N w_5_1) rfl rfl rfl (hts _ (in_law w_1_5)) (hts _ (in_law w_4_23)) (hts _ (in_law w_5_0)) rfl (by decide +kernel) ⟨Nat.le_of_ble_eq_true rfl, Nat.le_of_ble_eq_true rfl⟩) rfl hl.1 rfl (Nat.le_of_ble_eq_true rfl) ⟨by decide +kernel, by decide +kernel⟩ dL_law_12 (fun r9 w9 H locs hp hW => ?_)
  obtain ⟨rfl, wq1, wq2, wq3, wq4, wq5, wq6, wq7, wq8, wq9, wq10, wq11, wq12, wq13, wq14, wq15, wq16, wq17, wq18, wq19, wq20, wq21, wq22, rfl⟩ := hp
  refine W.eq (g2 := F0 m 15 ls [.ref q1]) rfl ?_
  refine lv_astore_n (lv' := [(2, .ref q1), (1, .ref (ad 0)), (0, .ref b)]) hx hb dL_law_15 rfl hl (by decide) rfl (fun ls hl => ?_)
  have hW : Wd D cy (fun q => s.heap.size ≤ q) s (wR (fun i => ([q1, wq1, wq2, wq3, wq4, wq5, wq6, wq7, wq8, wq9, wq10, wq11, wq12, wq13, wq14, wq15, wq16, wq17, wq18, wq19, wq20, wq21, wq22] : List Nat).getD i 0) cy T0 ++ (wC ad cy S0 ++ [])) H locs := hW
  have hl : lv_has ls 8 [(2, .ref ((fun i => ([q1, wq1, wq2, wq3, wq4, wq5, wq6, wq7, wq8, wq9, wq10, wq11, wq12, wq13, wq14, wq15, wq16, wq17, wq18, wq19, wq20, wq21, wq22] : List Nat).getD i 0) 0)), (1, .ref (ad 0)), (0, .ref b)] := hl
  generalize (fun i => ([q1, wq1, wq2, wq3, wq4, wq5, wq6, wq7, wq8, wq9, wq10, wq11, wq12, wq13, wq14, wq15, wq16, wq17, wq18, wq19, wq20, wq21, wq22] : List Nat).getD i 0) = br at hW hl
  have hW : Wd D cy (fun q => s.heap.size ≤ q) s ((wR br cy T0 ++ wC ad cy S0) ++ []) H locs := hW.cast (by simp)
  refine lv_iconst (v := 1) hx hb dL_law_16 (by decide) ?_
  refine wa_newa (atype := .long) (a0 := (1, .inr (.inl (fun _ => 0)))) hC (hts _ (in_law w_1_6)) rfl 1 rfl (fun C h => by cases h) hW (ha_long 1) (by decide) (by decide) (by decide +kernel) (by decide +kernel) (by decide +kernel) dL_law_17 (fun o H hW => ?_)
  have hW := Wd.swap (a := []) (b := wR br cy T0) (c := wC ad cy S0 ++ WO o cy (fun _ => 0)) (hW.cast (by simp))
  have hW : Wd D cy (fun q => s.heap.size ≤ q) s (WLw ad br cy o S0 none none T0 (fun _ => 0)) H locs := hW.cast (by simp [oWF, oWP])
  refine lv_astore_n (lv' := [(3, .ref o), (2, .ref (br 0)), (1, .ref (ad 0)), (0, .ref b)]) hx hb dL_law_19 rfl hl (by decide) rfl (fun ls hl => ?_)
  refine lv_iconst (v := 0) hx hb dL_law_20 (by decide) ?_
  refine lv_istore (lv' := [(4, .int 0), (3, .ref o), (2, .ref (br 0)), (1, .ref (ad 0)), (0, .ref b)]) hx hb dL_law_21 hl (by decide) rfl (fun ls hl => ?_)
  refine W.widen (k := kc none none 0) (n := ks none none 0) (by decide +kernel) (by decide +kernel) ?_
  exact law_loop htr hr hlocks ⟨hC, hXs, hbl, hE, hZ⟩ hL HB 513 0 0 ad S0 none none T0 _ _ _ _ (by omega) rfl hRel0 hW (lv_sub hl [4, 3, 2, 1, 0] rfl)
