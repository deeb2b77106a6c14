set_option maxHeartbeats 4000000 in
set_option maxRecDepth 100000 in
theorem law_0 {p : Program} {l : Launch} {e : Env} {s : State} {m : MethodId} {below : List Frame} {meth : Method} {c : Code} {b L : Nat} {xs : Nat → Int32} {D : va_G} {cy : Nat → ClassId} {Q : State → Prop} {n : Nat} {Rel : St → Option St → Option St → St → Prop} {br : Nat → Nat} {o i : Nat} {x4 : Int32} (htr : l.stackTraces = false) (hX : LX p s m c b L xs) (HB : HB_0 n Rel) (hi : i ≤ 512) (h1 : vp_in (x4 + 1) L) (h2 : vp_in (x4 + 2) L) (h3 : vp_in (x4 + 3) L) (h4 : vp_in (x4 + 4) L) (K : LK p l e s m below meth c b D cy Q Rel br o i x4) {ad : Nat → Nat} {S : St} {oF oP : Option St} {T : St} {v : Nat → Int64} {H : Heap} {locs : List Loc} {ls : Array Slot} (hRel : Rel S oF oP T) (hW : Wd D cy (fun q => s.heap.size ≤ q) s (WLw ad br cy o S oF oP T v) H locs) (hl : lv_has ls 8 [(0, .ref b), (1, .ref (ad 0)), (2, .ref (br 0)), (3, .ref o), (4, .int x4)]) : W p l e room_1 s m #[Value.ref b] below meth c H locs (kc oF oP i) (ks oF oP i) Q (F0 m 196 ls []) := by
  obtain ⟨hC, hXs, hbl, hE, hZ⟩ := hX
  have hx := hC.1
  have hb := hC.2.1
  have hts := hC.2.2.2.2
  have hbA : ¬ (fun q : Nat => s.heap.size ≤ q) b := Nat.not_le.mpr hbl
  refine lv_aload_n hx hb dL_law_196 rfl (lv_at hl 1 rfl) ?_
  refine lv_aload_n hx hb dL_law_197 rfl (lv_at hl 0 rfl) ?_
  refine lv_iload hx hb dL_law_198 (lv_at hl 4 rfl) ?_
  refine lv_iconst (v := 1) hx hb dL_law_200 (by decide) ?_
  refine lv_iadd hx hb dL_law_201 ?_
  refine va_sld hx hb hXs hbl hbA hW.2.2.2.1 h1 dL_law_202 ?_
  obtain ⟨r, S', T', hc, hrf, hrel⟩ := HB S oF oP T (xs (x4 + 1).toNatClampNeg) hRel
  refine wd_callV1 (As := [.int (xs (x4 + 1).toNatClampNeg)]) hC hW 0 wC_c0 rfl (c_X8_sign l D cy ad _ n S (xs (x4 + 1).toNatClampNeg) (r, S') hc) (cwV 1 hts (gl_V w_6_4 w_6_1 w_6_2 w_6_3 w_1_2) rfl rfl rfl (by decide +kernel) ⟨Nat.le_of_ble_eq_true rfl, Nat.le_of_ble_eq_true rfl⟩) rfl hl.1 rfl (Nat.le_of_ble_eq_true rfl) ⟨(show kc oF oP i ≤ 601024 by have := kc_le (oF := oF) (oP := oP) hi; omega), (show ks oF oP i ≤ 7293034 by have := ks_le (oF := oF) (oP := oP) hi; omega)⟩ dL_law_203 (fun H locs hW => ?_)
  have hW : Wd D cy (fun q => s.heap.size ≤ q) s (WLw ad br cy o S' oF oP T v) H locs := hW
  refine lv_aload_n hx hb dL_law_206 rfl (lv_at hl 2 rfl) ?_
  refine lv_aload_n hx hb dL_law_207 rfl (lv_at hl 0 rfl) ?_
  refine lv_iload hx hb dL_law_208 (lv_at hl 4 rfl) ?_
  refine lv_iconst (v := 1) hx hb dL_law_210 (by decide) ?_
  refine lv_iadd hx hb dL_law_211 ?_
  refine va_sld hx hb hXs hbl hbA hW.2.2.2.1 h1 dL_law_212 ?_
  have hW := Wd.toR hW
  refine wd_callV1 (As := [.int (xs (x4 + 1).toNatClampNeg)]) hC hW 0 wR_c0 rfl (c_X9_sign l D cy br _ n T (xs (x4 + 1).toNatClampNeg) (r, T') hrf) (cwV 1 hts (gl_V w_6_13 w_6_10 w_6_11 w_6_12 w_1_5) rfl rfl rfl (by decide +kernel) ⟨Nat.le_of_ble_eq_true rfl, Nat.le_of_ble_eq_true rfl⟩) rfl hl.1 rfl (Nat.le_of_ble_eq_true rfl) ⟨(show kc oF oP i ≤ 601024 by have := kc_le (oF := oF) (oP := oP) hi; omega), (show ks oF oP i ≤ 7293034 by have := ks_le (oF := oF) (oP := oP) hi; omega)⟩ dL_law_213 (fun H locs hW => ?_)
  have hW := Wd.ofR hW
  refine lv_icmp_eq (tgt := 1422) hx hb dL_law_216 (by decide) (fun _ => ?_) (fun c9 => absurd rfl c9)
  refine W.widen (k := kc oF oP (i + 1)) (n := ks oF oP (i + 1)) kc_s ks_s ?_
  exact K ad S' oF oP T' v _ _ _ hW hl hrel
set_option maxHeartbeats 4000000 in
set_option maxRecDepth 100000 in
theorem law_1 {p : Program} {l : Launch} {e : Env} {s : State} {m : MethodId} {below : List Frame} {meth : Method} {c : Code} {b L : Nat} {xs : Nat → Int32} {D : va_G} {cy : Nat → ClassId} {Q : State → Prop} {n : Nat} {Rel : St → Option St → Option St → St → Prop} {br : Nat → Nat} {o i : Nat} {x4 : Int32} (htr : l.stackTraces = false) (hX : LX p s m c b L xs) (HB : HB_1 n Rel) (hi : i ≤ 512) (h1 : vp_in (x4 + 1) L) (h2 : vp_in (x4 + 2) L) (h3 : vp_in (x4 + 3) L) (h4 : vp_in (x4 + 4) L) (K : LK p l e s m below meth c b D cy Q Rel br o i x4) {ad : Nat → Nat} {S : St} {oF oP : Option St} {T : St} {v : Nat → Int64} {H : Heap} {locs : List Loc} {ls : Array Slot} (hRel : Rel S oF oP T) (hW : Wd D cy (fun q => s.heap.size ≤ q) s (WLw ad br cy o S oF oP T v) H locs) (hl : lv_has ls 8 [(0, .ref b), (1, .ref (ad 0)), (2, .ref (br 0)), (3, .ref o), (4, .int x4)]) : W p l e room_1 s m #[Value.ref b] below meth c H locs (kc oF oP i) (ks oF oP i) Q (F0 m 221 ls []) := by
  obtain ⟨hC, hXs, hbl, hE, hZ⟩ := hX
  have hx := hC.1
  have hb := hC.2.1
  have hts := hC.2.2.2.2
  have hbA : ¬ (fun q : Nat => s.heap.size ≤ q) b := Nat.not_le.mpr hbl
  refine lv_aload_n hx hb dL_law_221 rfl (lv_at hl 1 rfl) ?_
  refine lv_aload_n hx hb dL_law_222 rfl (lv_at hl 0 rfl) ?_
  refine lv_iload hx hb dL_law_223 (lv_at hl 4 rfl) ?_
  refine lv_iconst (v := 1) hx hb dL_law_225 (by decide) ?_
  refine lv_iadd hx hb dL_law_226 ?_
  refine va_sld hx hb hXs hbl hbA hW.2.2.2.1 h1 dL_law_227 ?_
  obtain ⟨r, S', T', hc, hrf, hrel⟩ := HB S oF oP T (xs (x4 + 1).toNatClampNeg) hRel
  refine wd_callV1 (As := [.int (xs (x4 + 1).toNatClampNeg)]) hC hW 0 wC_c0 rfl (c_X8_end l D cy ad _ S (xs (x4 + 1).toNatClampNeg) (r, S') hc) (cwV 1 hts (gl_V w_6_19 w_6_16 w_6_17 w_6_18 w_1_2) rfl rfl rfl (by decide +kernel) ⟨Nat.le_of_ble_eq_true rfl, Nat.le_of_ble_eq_true rfl⟩) rfl hl.1 rfl (Nat.le_of_ble_eq_true rfl) ⟨(show kc oF oP i ≤ 601024 by have := kc_le (oF := oF) (oP := oP) hi; omega), (show ks oF oP i ≤ 7293034 by have := ks_le (oF := oF) (oP := oP) hi; omega)⟩ dL_law_228 (fun H locs hW => ?_)
  have hW : Wd D cy (fun q => s.heap.size ≤ q) s (WLw ad br cy o S' oF oP T v) H locs := hW
  refine lv_aload_n hx hb dL_law_231 rfl (lv_at hl 2 rfl) ?_
  refine lv_aload_n hx hb dL_law_232 rfl (lv_at hl 0 rfl) ?_
  refine lv_iload hx hb dL_law_233 (lv_at hl 4 rfl) ?_
  refine lv_iconst (v := 1) hx hb dL_law_235 (by decide) ?_
  refine lv_iadd hx hb dL_law_236 ?_
  refine va_sld hx hb hXs hbl hbA hW.2.2.2.1 h1 dL_law_237 ?_
  have hW := Wd.toR hW
  refine wd_callV1 (As := [.int (xs (x4 + 1).toNatClampNeg)]) hC hW 0 wR_c0 rfl (c_X9_end l D cy br _ T (xs (x4 + 1).toNatClampNeg) (r, T') hrf) (cwV 1 hts (gl_V w_7_3 w_7_0 w_7_1 w_7_2 w_1_5) rfl rfl rfl (by decide +kernel) ⟨Nat.le_of_ble_eq_true rfl, Nat.le_of_ble_eq_true rfl⟩) rfl hl.1 rfl (Nat.le_of_ble_eq_true rfl) ⟨(show kc oF oP i ≤ 601024 by have := kc_le (oF := oF) (oP := oP) hi; omega), (show ks oF oP i ≤ 7293034 by have := ks_le (oF := oF) (oP := oP) hi; omega)⟩ dL_law_238 (fun H locs hW => ?_)
  have hW := Wd.ofR hW
  refine lv_icmp_eq (tgt := 1422) hx hb dL_law_241 (by decide) (fun _ => ?_) (fun c9 => absurd rfl c9)
  refine W.widen (k := kc oF oP (i + 1)) (n := ks oF oP (i + 1)) kc_s ks_s ?_
  exact K ad S' oF oP T' v _ _ _ hW hl hrel
set_option maxHeartbeats 4000000 in
set_option maxRecDepth 100000 in
theorem law_2 {p : Program} {l : Launch} {e : Env} {s : State} {m : MethodId} {below : List Frame} {meth : Method} {c : Code} {b L : Nat} {xs : Nat → Int32} {D : va_G} {cy : Nat → ClassId} {Q : State → Prop} {n : Nat} {Rel : St → Option St → Option St → St → Prop} {br : Nat → Nat} {o i : Nat} {x4 : Int32} (htr : l.stackTraces = false) (hX : LX p s m c b L xs) (HB : HB_2 n Rel) (hi : i ≤ 512) (h1 : vp_in (x4 + 1) L) (h2 : vp_in (x4 + 2) L) (h3 : vp_in (x4 + 3) L) (h4 : vp_in (x4 + 4) L) (K : LK p l e s m below meth c b D cy Q Rel br o i x4) {ad : Nat → Nat} {S : St} {oF oP : Option St} {T : St} {v : Nat → Int64} {H : Heap} {locs : List Loc} {ls : Array Slot} (hRel : Rel S oF oP T) (hW : Wd D cy (fun q => s.heap.size ≤ q) s (WLw ad br cy o S oF oP T v) H locs) (hl : lv_has ls 8 [(0, .ref b), (1, .ref (ad 0)), (2, .ref (br 0)), (3, .ref o), (4, .int x4)]) : W p l e room_1 s m #[Value.ref b] below meth c H locs (kc oF oP i) (ks oF oP i) Q (F0 m 246 ls []) := by
  obtain ⟨hC, hXs, hbl, hE, hZ⟩ := hX
  have hx := hC.1
  have hb := hC.2.1
  have hts := hC.2.2.2.2
  have hbA : ¬ (fun q : Nat => s.heap.size ≤ q) b := Nat.not_le.mpr hbl
  refine lv_aload_n hx hb dL_law_246 rfl (lv_at hl 1 rfl) ?_
  obtain ⟨r, S', T', hc, hrf, hrel⟩ := HB S oF oP T  hRel
  refine wd_callV1 (As := []) hC hW 0 wC_c0 rfl (c_X8_enters l D cy ad _ n S (r, S') hc) (cwV 0 hts (gl_V w_7_10 w_7_7 w_7_8 w_7_9 w_1_2) rfl rfl rfl (by decide +kernel) ⟨Nat.le_of_ble_eq_true rfl, Nat.le_of_ble_eq_true rfl⟩) rfl hl.1 rfl (Nat.le_of_ble_eq_true rfl) ⟨(show kc oF oP i ≤ 601024 by have := kc_le (oF := oF) (oP := oP) hi; omega), (show ks oF oP i ≤ 7293034 by have := ks_le (oF := oF) (oP := oP) hi; omega)⟩ dL_law_247 (fun H locs hW => ?_)
  have hW : Wd D cy (fun q => s.heap.size ≤ q) s (WLw ad br cy o S' oF oP T v) H locs := hW
  refine lv_aload_n hx hb dL_law_250 rfl (lv_at hl 2 rfl) ?_
  have hW := Wd.toR hW
  refine wd_callV1 (As := []) hC hW 0 wR_c0 rfl (c_X9_enters l D cy br _ n T (r, T') hrf) (cwV 0 hts (gl_V w_9_10 w_9_7 w_9_8 w_9_9 w_1_5) rfl rfl rfl (by decide +kernel) ⟨Nat.le_of_ble_eq_true rfl, Nat.le_of_ble_eq_true rfl⟩) rfl hl.1 rfl (Nat.le_of_ble_eq_true rfl) ⟨(show kc oF oP i ≤ 601024 by have := kc_le (oF := oF) (oP := oP) hi; omega), (show ks oF oP i ≤ 7293034 by have := ks_le (oF := oF) (oP := oP) hi; omega)⟩ dL_law_251 (fun H locs hW => ?_)
  have hW := Wd.ofR hW
  refine lv_icmp_eq (tgt := 1422) hx hb dL_law_254 (by decide) (fun _ => ?_) (fun c9 => absurd rfl c9)
  refine W.widen (k := kc oF oP (i + 1)) (n := ks oF oP (i + 1)) kc_s ks_s ?_
  exact K ad S' oF oP T' v _ _ _ hW hl hrel
set_option maxHeartbeats 4000000 in
set_option maxRecDepth 100000 in
theorem law_3 {p : Program} {l : Launch} {e : Env} {s : State} {m : MethodId} {below : List Frame} {meth : Method} {c : Code} {b L : Nat} {xs : Nat → Int32} {D : va_G} {cy : Nat → ClassId} {Q : State → Prop} {n : Nat} {Rel : St → Option St → Option St → St → Prop} {br : Nat → Nat} {o i : Nat} {x4 : Int32} (htr : l.stackTraces = false) (hX : LX p s m c b L xs) (HB : HB_3 n Rel) (hi : i ≤ 512) (h1 : vp_in (x4 + 1) L) (h2 : vp_in (x4 + 2) L) (h3 : vp_in (x4 + 3) L) (h4 : vp_in (x4 + 4) L) (K : LK p l e s m below meth c b D cy Q Rel br o i x4) {ad : Nat → Nat} {S : St} {oF oP : Option St} {T : St} {v : Nat → Int64} {H : Heap} {locs : List Loc} {ls : Array Slot} (hRel : Rel S oF oP T) (hW : Wd D cy (fun q => s.heap.size ≤ q) s (WLw ad br cy o S oF oP T v) H locs) (hl : lv_has ls 8 [(0, .ref b), (1, .ref (ad 0)), (2, .ref (br 0)), (3, .ref o), (4, .int x4)]) : W p l e room_1 s m #[Value.ref b] below meth c H locs (kc oF oP i) (ks oF oP i) Q (F0 m 259 ls []) := by
  obtain ⟨hC, hXs, hbl, hE, hZ⟩ := hX
  have hx := hC.1
  have hb := hC.2.1
  have hts := hC.2.2.2.2
  have hbA : ¬ (fun q : Nat => s.heap.size ≤ q) b := Nat.not_le.mpr hbl
  refine lv_aload_n hx hb dL_law_259 rfl (lv_at hl 1 rfl) ?_
  obtain ⟨r, S', T', hc, hrf, hrel⟩ := HB S oF oP T  hRel
  refine wd_callV1 (As := []) hC hW 0 wC_c0 rfl (c_X8_leaves l D cy ad _ n S (r, S') hc) (cwV 0 hts (gl_V w_12_20 w_12_17 w_12_18 w_12_19 w_1_2) rfl rfl rfl (by decide +kernel) ⟨Nat.le_of_ble_eq_true rfl, Nat.le_of_ble_eq_true rfl⟩) rfl hl.1 rfl (Nat.le_of_ble_eq_true rfl) ⟨(show kc oF oP i ≤ 601024 by have := kc_le (oF := oF) (oP := oP) hi; omega), (show ks oF oP i ≤ 7293034 by have := ks_le (oF := oF) (oP := oP) hi; omega)⟩ dL_law_260 (fun H locs hW => ?_)
  have hW : Wd D cy (fun q => s.heap.size ≤ q) s (WLw ad br cy o S' oF oP T v) H locs := hW
  refine lv_aload_n hx hb dL_law_263 rfl (lv_at hl 2 rfl) ?_
  have hW := Wd.toR hW
  refine wd_callV1 (As := []) hC hW 0 wR_c0 rfl (c_X9_leaves l D cy br _ n T (r, T') hrf) (cwV 0 hts (gl_V w_13_0 w_12_21 w_12_22 w_12_23 w_1_5) rfl rfl rfl (by decide +kernel) ⟨Nat.le_of_ble_eq_true rfl, Nat.le_of_ble_eq_true rfl⟩) rfl hl.1 rfl (Nat.le_of_ble_eq_true rfl) ⟨(show kc oF oP i ≤ 601024 by have := kc_le (oF := oF) (oP := oP) hi; omega), (show ks oF oP i ≤ 7293034 by have := ks_le (oF := oF) (oP := oP) hi; omega)⟩ dL_law_264 (fun H locs hW => ?_)
  have hW := Wd.ofR hW
  refine lv_icmp_eq (tgt := 1422) hx hb dL_law_267 (by decide) (fun _ => ?_) (fun c9 => absurd rfl c9)
  refine W.widen (k := kc oF oP (i + 1)) (n := ks oF oP (i + 1)) kc_s ks_s ?_
  exact K ad S' oF oP T' v _ _ _ hW hl hrel
set_option maxHeartbeats 4000000 in
set_option maxRecDepth 100000 in
theorem law_4 {p : Program} {l : Launch} {e : Env} {s : State} {m : MethodId} {below : List Frame} {meth : Method} {c : Code} {b L : Nat} {xs : Nat → Int32} {D : va_G} {cy : Nat → ClassId} {Q : State → Prop} {n : Nat} {Rel : St → Option St → Option St → St → Prop} {br : Nat → Nat} {o i : Nat} {x4 : Int32} (htr : l.stackTraces = false) (hX : LX p s m c b L xs) (HB : HB_4 n Rel) (hi : i ≤ 512) (h1 : vp_in (x4 + 1) L) (h2 : vp_in (x4 + 2) L) (h3 : vp_in (x4 + 3) L) (h4 : vp_in (x4 + 4) L) (K : LK p l e s m below meth c b D cy Q Rel br o i x4) {ad : Nat → Nat} {S : St} {oF oP : Option St} {T : St} {v : Nat → Int64} {H : Heap} {locs : List Loc} {ls : Array Slot} (hRel : Rel S oF oP T) (hW : Wd D cy (fun q => s.heap.size ≤ q) s (WLw ad br cy o S oF oP T v) H locs) (hl : lv_has ls 8 [(0, .ref b), (1, .ref (ad 0)), (2, .ref (br 0)), (3, .ref o), (4, .int x4)]) : W p l e room_1 s m #[Value.ref b] below meth c H locs (kc oF oP i) (ks oF oP i) Q (F0 m 272 ls []) := by
  obtain ⟨hC, hXs, hbl, hE, hZ⟩ := hX
  have hx := hC.1
  have hb := hC.2.1
  have hts := hC.2.2.2.2
  have hbA : ¬ (fun q : Nat => s.heap.size ≤ q) b := Nat.not_le.mpr hbl
  refine lv_aload_n hx hb dL_law_272 rfl (lv_at hl 1 rfl) ?_
  refine lv_aload_n hx hb dL_law_273 rfl (lv_at hl 0 rfl) ?_
  refine lv_iload hx hb dL_law_274 (lv_at hl 4 rfl) ?_
  refine lv_iconst (v := 1) hx hb dL_law_276 (by decide) ?_
  refine lv_iadd hx hb dL_law_277 ?_
  refine va_sld hx hb hXs hbl hbA hW.2.2.2.1 h1 dL_law_278 ?_
  refine lv_aload_n hx hb dL_law_279 rfl (lv_at hl 0 rfl) ?_
  refine lv_iload hx hb dL_law_280 (lv_at hl 4 rfl) ?_
  refine lv_iconst (v := 2) hx hb dL_law_282 (by decide) ?_
  refine lv_iadd hx hb dL_law_283 ?_
  refine va_sld hx hb hXs hbl hbA hW.2.2.2.1 h2 dL_law_284 ?_
  refine lv_aload_n hx hb dL_law_285 rfl (lv_at hl 0 rfl) ?_
  refine lv_iload hx hb dL_law_286 (lv_at hl 4 rfl) ?_
  refine lv_iconst (v := 3) hx hb dL_law_288 (by decide) ?_
  refine lv_iadd hx hb dL_law_289 ?_
  refine va_sld hx hb hXs hbl hbA hW.2.2.2.1 h3 dL_law_290 ?_
  refine lv_aload_n hx hb dL_law_291 rfl (lv_at hl 0 rfl) ?_
  refine lv_iload hx hb dL_law_292 (lv_at hl 4 rfl) ?_
  refine lv_iconst (v := 4) hx hb dL_law_294 (by decide) ?_
  refine lv_iadd hx hb dL_law_295 ?_
  refine va_sld hx hb hXs hbl hbA hW.2.2.2.1 h4 dL_law_296 ?_
  obtain ⟨r, S', T', hc, hrf, hrel⟩ := HB S oF oP T (xs (x4 + 1).toNatClampNeg) (xs (x4 + 2).toNatClampNeg) (xs (x4 + 3).toNatClampNeg) (xs (x4 + 4).toNatClampNeg) hRel
  refine wd_callV1 (As := [.int (xs (x4 + 1).toNatClampNeg), .int (xs (x4 + 2).toNatClampNeg), .int (xs (x4 + 3).toNatClampNeg), .int (xs (x4 + 4).toNatClampNeg)]) hC hW 0 wC_c0 rfl (c_X8_plans l D cy ad _ n S (xs (x4 + 1).toNatClampNeg) (xs (x4 + 2).toNatClampNeg) (xs (x4 + 3).toNatClampNeg) (xs (x4 + 4).toNatClampNeg) (r, S') hc) (cwV 4 hts (gl_V w_13_4 w_13_1 w_13_2 w_13_3 w_1_2) rfl rfl rfl (by decide +kernel) ⟨Nat.le_of_ble_eq_true rfl, Nat.le_of_ble_eq_true rfl⟩) rfl hl.1 rfl (Nat.le_of_ble_eq_true rfl) ⟨(show kc oF oP i ≤ 601024 by have := kc_le (oF := oF) (oP := oP) hi; omega), (show ks oF oP i ≤ 7293034 by have := ks_le (oF := oF) (oP := oP) hi; omega)⟩ dL_law_297 (fun H locs hW => ?_)
  have hW : Wd D cy (fun q => s.heap.size ≤ q) s (WLw ad br cy o S' oF oP T v) H locs := hW
  refine lv_aload_n hx hb dL_law_300 rfl (lv_at hl 2 rfl) ?_
  refine lv_aload_n hx hb dL_law_301 rfl (lv_at hl 0 rfl) ?_
  refine lv_iload hx hb dL_law_302 (lv_at hl 4 rfl) ?_
  refine lv_iconst (v := 1) hx hb dL_law_304 (by decide) ?_
  refine lv_iadd hx hb dL_law_305 ?_
  refine va_sld hx hb hXs hbl hbA hW.2.2.2.1 h1 dL_law_306 ?_
  refine lv_aload_n hx hb dL_law_307 rfl (lv_at hl 0 rfl) ?_
  refine lv_iload hx hb dL_law_308 (lv_at hl 4 rfl) ?_
  refine lv_iconst (v := 2) hx hb dL_law_310 (by decide) ?_
  refine lv_iadd hx hb dL_law_311 ?_
  refine va_sld hx hb hXs hbl hbA hW.2.2.2.1 h2 dL_law_312 ?_
  refine lv_aload_n hx hb dL_law_313 rfl (lv_at hl 0 rfl) ?_
  refine lv_iload hx hb dL_law_314 (lv_at hl 4 rfl) ?_
  refine lv_iconst (v := 3) hx hb dL_law_316 (by decide) ?_
  refine lv_iadd hx hb dL_law_317 ?_
  refine va_sld hx hb hXs hbl hbA hW.2.2.2.1 h3 dL_law_318 ?_
  refine lv_aload_n hx hb dL_law_319 rfl (lv_at hl 0 rfl) ?_
  refine lv_iload hx hb dL_law_320 (lv_at hl 4 rfl) ?_
  refine lv_iconst (v := 4) hx hb dL_law_322 (by decide) ?_
  refine lv_iadd hx hb dL_law_323 ?_
  refine va_sld hx hb hXs hbl hbA hW.2.2.2.1 h4 dL_law_324 ?_
  have hW := Wd.toR hW
  refine wd_callV1 (As := [.int (xs (x4 + 1).toNatClampNeg), .int (xs (x4 + 2).toNatClampNeg), .int (xs (x4 + 3).toNatClampNeg), .int (xs (x4 + 4).toNatClampNeg)]) hC hW 0 wR_c0 rfl (c_X9_plans l D cy br _ n T (xs (x4 + 1).toNatClampNeg) (xs (x4 + 2).toNatClampNeg) (xs (x4 + 3).toNatClampNeg) (xs (x4 + 4).toNatClampNeg) (r, T') hrf) (cwV 4 hts (gl_V w_13_22 w_13_19 w_13_20 w_13_21 w_1_5) rfl rfl rfl (by decide +kernel) ⟨Nat.le_of_ble_eq_true rfl, Nat.le_of_ble_eq_true rfl⟩) rfl hl.1 rfl (Nat.le_of_ble_eq_true rfl) ⟨(show kc oF oP i ≤ 601024 by have := kc_le (oF := oF) (oP := oP) hi; omega), (show ks oF oP i ≤ 7293034 by have := ks_le (oF := oF) (oP := oP) hi; omega)⟩ dL_law_325 (fun H locs hW => ?_)
  have hW := Wd.ofR hW
  refine lv_icmp_eq (tgt := 1422) hx hb dL_law_328 (by decide) (fun _ => ?_) (fun c9 => absurd rfl c9)
  refine W.widen (k := kc oF oP (i + 1)) (n := ks oF oP (i + 1)) kc_s ks_s ?_
  exact K ad S' oF oP T' v _ _ _ hW hl hrel
set_option maxHeartbeats 4000000 in
set_option maxRecDepth 100000 in
theorem law_5 {p : Program} {l : Launch} {e : Env} {s : State} {m : MethodId} {below : List Frame} {meth : Method} {c : Code} {b L : Nat} {xs : Nat → Int32} {D : va_G} {cy : Nat → ClassId} {Q : State → Prop} {n : Nat} {Rel : St → Option St → Option St → St → Prop} {br : Nat → Nat} {o i : Nat} {x4 : Int32} (htr : l.stackTraces = false) (hX : LX p s m c b L xs) (HB : HB_5 n Rel) (hi : i ≤ 512) (h1 : vp_in (x4 + 1) L) (h2 : vp_in (x4 + 2) L) (h3 : vp_in (x4 + 3) L) (h4 : vp_in (x4 + 4) L) (K : LK p l e s m below meth c b D cy Q Rel br o i x4) {ad : Nat → Nat} {S : St} {oF oP : Option St} {T : St} {v : Nat → Int64} {H : Heap} {locs : List Loc} {ls : Array Slot} (hRel : Rel S oF oP T) (hW : Wd D cy (fun q => s.heap.size ≤ q) s (WLw ad br cy o S oF oP T v) H locs) (hl : lv_has ls 8 [(0, .ref b), (1, .ref (ad 0)), (2, .ref (br 0)), (3, .ref o), (4, .int x4)]) : W p l e room_1 s m #[Value.ref b] below meth c H locs (kc oF oP i) (ks oF oP i) Q (F0 m 333 ls []) := by
  obtain ⟨hC, hXs, hbl, hE, hZ⟩ := hX
  have hx := hC.1
  have hb := hC.2.1
  have hts := hC.2.2.2.2
  have hbA : ¬ (fun q : Nat => s.heap.size ≤ q) b := Nat.not_le.mpr hbl
  refine lv_aload_n hx hb dL_law_333 rfl (lv_at hl 1 rfl) ?_
  refine lv_aload_n hx hb dL_law_334 rfl (lv_at hl 0 rfl) ?_
  refine lv_iload hx hb dL_law_335 (lv_at hl 4 rfl) ?_
  refine lv_iconst (v := 1) hx hb dL_law_337 (by decide) ?_
  refine lv_iadd hx hb dL_law_338 ?_
  refine va_sld hx hb hXs hbl hbA hW.2.2.2.1 h1 dL_law_339 ?_
  obtain ⟨r, S', T', hc, hrf, hrel⟩ := HB S oF oP T (xs (x4 + 1).toNatClampNeg) hRel
  refine wd_callV1 (As := [.int (xs (x4 + 1).toNatClampNeg)]) hC hW 0 wC_c0 rfl (c_X8_tires l D cy ad _ S (xs (x4 + 1).toNatClampNeg) (r, S') hc) (cwV 1 hts (gl_V w_14_12 w_14_9 w_14_10 w_14_11 w_1_2) rfl rfl rfl (by decide +kernel) ⟨Nat.le_of_ble_eq_true rfl, Nat.le_of_ble_eq_true rfl⟩) rfl hl.1 rfl (Nat.le_of_ble_eq_true rfl) ⟨(show kc oF oP i ≤ 601024 by have := kc_le (oF := oF) (oP := oP) hi; omega), (show ks oF oP i ≤ 7293034 by have := ks_le (oF := oF) (oP := oP) hi; omega)⟩ dL_law_340 (fun H locs hW => ?_)
  have hW : Wd D cy (fun q => s.heap.size ≤ q) s (WLw ad br cy o S' oF oP T v) H locs := hW
  refine lv_aload_n hx hb dL_law_343 rfl (lv_at hl 2 rfl) ?_
  refine lv_aload_n hx hb dL_law_344 rfl (lv_at hl 0 rfl) ?_
  refine lv_iload hx hb dL_law_345 (lv_at hl 4 rfl) ?_
  refine lv_iconst (v := 1) hx hb dL_law_347 (by decide) ?_
  refine lv_iadd hx hb dL_law_348 ?_
  refine va_sld hx hb hXs hbl hbA hW.2.2.2.1 h1 dL_law_349 ?_
  have hW := Wd.toR hW
  refine wd_callV1 (As := [.int (xs (x4 + 1).toNatClampNeg)]) hC hW 0 wR_c0 rfl (c_X9_tires l D cy br _ T (xs (x4 + 1).toNatClampNeg) (r, T') hrf) (cwV 1 hts (gl_V w_14_17 w_14_14 w_14_15 w_14_16 w_1_5) rfl rfl rfl (by decide +kernel) ⟨Nat.le_of_ble_eq_true rfl, Nat.le_of_ble_eq_true rfl⟩) rfl hl.1 rfl (Nat.le_of_ble_eq_true rfl) ⟨(show kc oF oP i ≤ 601024 by have := kc_le (oF := oF) (oP := oP) hi; omega), (show ks oF oP i ≤ 7293034 by have := ks_le (oF := oF) (oP := oP) hi; omega)⟩ dL_law_350 (fun H locs hW => ?_)
  have hW := Wd.ofR hW
  refine lv_icmp_eq (tgt := 1422) hx hb dL_law_353 (by decide) (fun _ => ?_) (fun c9 => absurd rfl c9)
  refine W.widen (k := kc oF oP (i + 1)) (n := ks oF oP (i + 1)) kc_s ks_s ?_
  exact K ad S' oF oP T' v _ _ _ hW hl hrel
set_option maxHeartbeats 4000000 in
set_option maxRecDepth 100000 in
theorem law_6 {p : Program} {l : Launch} {e : Env} {s : State} {m : MethodId} {below : List Frame} {meth : Method} {c : Code} {b L : Nat} {xs : Nat → Int32} {D : va_G} {cy : Nat → ClassId} {Q : State → Prop} {n : Nat} {Rel : St → Option St → Option St → St → Prop} {br : Nat → Nat} {o i : Nat} {x4 : Int32} (htr : l.stackTraces = false) (hX : LX p s m c b L xs) (HB : HB_6 n Rel) (hi : i ≤ 512) (h1 : vp_in (x4 + 1) L) (h2 : vp_in (x4 + 2) L) (h3 : vp_in (x4 + 3) L) (h4 : vp_in (x4 + 4) L) (K : LK p l e s m below meth c b D cy Q Rel br o i x4) {ad : Nat → Nat} {S : St} {oF oP : Option St} {T : St} {v : Nat → Int64} {H : Heap} {locs : List Loc} {ls : Array Slot} (hRel : Rel S oF oP T) (hW : Wd D cy (fun q => s.heap.size ≤ q) s (WLw ad br cy o S oF oP T v) H locs) (hl : lv_has ls 8 [(0, .ref b), (1, .ref (ad 0)), (2, .ref (br 0)), (3, .ref o), (4, .int x4)]) : W p l e room_1 s m #[Value.ref b] below meth c H locs (kc oF oP i) (ks oF oP i) Q (F0 m 358 ls []) := by
  obtain ⟨hC, hXs, hbl, hE, hZ⟩ := hX
  have hx := hC.1
  have hb := hC.2.1
  have hts := hC.2.2.2.2
  have hbA : ¬ (fun q : Nat => s.heap.size ≤ q) b := Nat.not_le.mpr hbl
  refine lv_aload_n hx hb dL_law_358 rfl (lv_at hl 1 rfl) ?_
  obtain ⟨r, S', T', hc, hrf, hrel⟩ := HB S oF oP T  hRel
  refine wd_callV1 (As := []) hC hW 0 wC_c0 rfl (c_X8_begins l D cy ad _ n S (r, S') hc) (cwV 0 hts (gl_V w_14_23 w_14_20 w_14_21 w_14_22 w_1_2) rfl rfl rfl (by decide +kernel) ⟨Nat.le_of_ble_eq_true rfl, Nat.le_of_ble_eq_true rfl⟩) rfl hl.1 rfl (Nat.le_of_ble_eq_true rfl) ⟨(show kc oF oP i ≤ 601024 by have := kc_le (oF := oF) (oP := oP) hi; omega), (show ks oF oP i ≤ 7293034 by have := ks_le (oF := oF) (oP := oP) hi; omega)⟩ dL_law_359 (fun H locs hW => ?_)
  have hW : Wd D cy (fun q => s.heap.size ≤ q) s (WLw ad br cy o S' oF oP T v) H locs := hW
  refine lv_aload_n hx hb dL_law_362 rfl (lv_at hl 2 rfl) ?_
  have hW := Wd.toR hW
  refine wd_callV1 (As := []) hC hW 0 wR_c0 rfl (c_X9_begins l D cy br _ n T (r, T') hrf) (cwV 0 hts (gl_V w_15_3 w_15_0 w_15_1 w_15_2 w_1_5) rfl rfl rfl (by decide +kernel) ⟨Nat.le_of_ble_eq_true rfl, Nat.le_of_ble_eq_true rfl⟩) rfl hl.1 rfl (Nat.le_of_ble_eq_true rfl) ⟨(show kc oF oP i ≤ 601024 by have := kc_le (oF := oF) (oP := oP) hi; omega), (show ks oF oP i ≤ 7293034 by have := ks_le (oF := oF) (oP := oP) hi; omega)⟩ dL_law_363 (fun H locs hW => ?_)
  have hW := Wd.ofR hW
  refine lv_icmp_eq (tgt := 1422) hx hb dL_law_366 (by decide) (fun _ => ?_) (fun c9 => absurd rfl c9)
  refine W.widen (k := kc oF oP (i + 1)) (n := ks oF oP (i + 1)) kc_s ks_s ?_
  exact K ad S' oF oP T' v _ _ _ hW hl hrel
set_option maxHeartbeats 4000000 in
set_option maxRecDepth 100000 in
theorem law_7 {p : Program} {l : Launch} {e : Env} {s : State} {m : MethodId} {below : List Frame} {meth : Method} {c : Code} {b L : Nat} {xs : Nat → Int32} {D : va_G} {cy : Nat → ClassId} {Q : State → Prop} {n : Nat} {Rel : St → Option St → Option St → St → Prop} {br : Nat → Nat} {o i : Nat} {x4 : Int32} (htr : l.stackTraces = false) (hX : LX p s m c b L xs) (HB : HB_7 n Rel) (hi : i ≤ 512) (h1 : vp_in (x4 + 1) L) (h2 : vp_in (x4 + 2) L) (h3 : vp_in (x4 + 3) L) (h4 : vp_in (x4 + 4) L) (K : LK p l e s m below meth c b D cy Q Rel br o i x4) {ad : Nat → Nat} {S : St} {oF oP : Option St} {T : St} {v : Nat → Int64} {H : Heap} {locs : List Loc} {ls : Array Slot} (hRel : Rel S oF oP T) (hW : Wd D cy (fun q => s.heap.size ≤ q) s (WLw ad br cy o S oF oP T v) H locs) (hl : lv_has ls 8 [(0, .ref b), (1, .ref (ad 0)), (2, .ref (br 0)), (3, .ref o), (4, .int x4)]) : W p l e room_1 s m #[Value.ref b] below meth c H locs (kc oF oP i) (ks oF oP i) Q (F0 m 371 ls []) := by
  obtain ⟨hC, hXs, hbl, hE, hZ⟩ := hX
  have hx := hC.1
  have hb := hC.2.1
  have hts := hC.2.2.2.2
  have hbA : ¬ (fun q : Nat => s.heap.size ≤ q) b := Nat.not_le.mpr hbl
  refine lv_aload_n hx hb dL_law_371 rfl (lv_at hl 1 rfl) ?_
  refine lv_aload_n hx hb dL_law_372 rfl (lv_at hl 0 rfl) ?_
  refine lv_iload hx hb dL_law_373 (lv_at hl 4 rfl) ?_
  refine lv_iconst (v := 1) hx hb dL_law_375 (by decide) ?_
  refine lv_iadd hx hb dL_law_376 ?_
  refine va_sld hx hb hXs hbl hbA hW.2.2.2.1 h1 dL_law_377 ?_
  refine lv_aload_n hx hb dL_law_378 rfl (lv_at hl 0 rfl) ?_
  refine lv_iload hx hb dL_law_379 (lv_at hl 4 rfl) ?_
  refine lv_iconst (v := 2) hx hb dL_law_381 (by decide) ?_
  refine lv_iadd hx hb dL_law_382 ?_
  refine va_sld hx hb hXs hbl hbA hW.2.2.2.1 h2 dL_law_383 ?_
  refine lv_aload_n hx hb dL_law_384 rfl (lv_at hl 0 rfl) ?_
  refine lv_iload hx hb dL_law_385 (lv_at hl 4 rfl) ?_
  refine lv_iconst (v := 3) hx hb dL_law_387 (by decide) ?_
  refine lv_iadd hx hb dL_law_388 ?_
  refine va_sld hx hb hXs hbl hbA hW.2.2.2.1 h3 dL_law_389 ?_
  refine lv_aload_n hx hb dL_law_390 rfl (lv_at hl 0 rfl) ?_
  refine lv_iload hx hb dL_law_391 (lv_at hl 4 rfl) ?_
  refine lv_iconst (v := 4) hx hb dL_law_393 (by decide) ?_
  refine lv_iadd hx hb dL_law_394 ?_
  refine va_sld hx hb hXs hbl hbA hW.2.2.2.1 h4 dL_law_395 ?_
  obtain ⟨r, T', hc, hrf, hrel⟩ := HB S oF oP T (xs (x4 + 1).toNatClampNeg) (xs (x4 + 2).toNatClampNeg) (xs (x4 + 3).toNatClampNeg) (xs (x4 + 4).toNatClampNeg) hRel
  refine wd_callV1 (As := [.int (xs (x4 + 1).toNatClampNeg), .int (xs (x4 + 2).toNatClampNeg), .int (xs (x4 + 3).toNatClampNeg), .int (xs (x4 + 4).toNatClampNeg)]) hC hW 0 wC_c0 rfl (c_X8_odds l D cy ad _ S (xs (x4 + 1).toNatClampNeg) (xs (x4 + 2).toNatClampNeg) (xs (x4 + 3).toNatClampNeg) (xs (x4 + 4).toNatClampNeg) r hc) (cwV 4 hts (gl_V w_15_7 w_15_4 w_15_5 w_15_6 w_1_2) rfl rfl rfl (by decide +kernel) ⟨Nat.le_of_ble_eq_true rfl, Nat.le_of_ble_eq_true rfl⟩) rfl hl.1 rfl (Nat.le_of_ble_eq_true rfl) ⟨(show kc oF oP i ≤ 601024 by have := kc_le (oF := oF) (oP := oP) hi; omega), (show ks oF oP i ≤ 7293034 by have := ks_le (oF := oF) (oP := oP) hi; omega)⟩ dL_law_396 (fun H locs hW => ?_)
  have hW : Wd D cy (fun q => s.heap.size ≤ q) s (WLw ad br cy o S oF oP T v) H locs := hW
  refine lv_aload_n hx hb dL_law_399 rfl (lv_at hl 2 rfl) ?_
  refine lv_aload_n hx hb dL_law_400 rfl (lv_at hl 0 rfl) ?_
  refine lv_iload hx hb dL_law_401 (lv_at hl 4 rfl) ?_
  refine lv_iconst (v := 1) hx hb dL_law_403 (by decide) ?_
  refine lv_iadd hx hb dL_law_404 ?_
  refine va_sld hx hb hXs hbl hbA hW.2.2.2.1 h1 dL_law_405 ?_
  refine lv_aload_n hx hb dL_law_406 rfl (lv_at hl 0 rfl) ?_
  refine lv_iload hx hb dL_law_407 (lv_at hl 4 rfl) ?_
  refine lv_iconst (v := 2) hx hb dL_law_409 (by decide) ?_
  refine lv_iadd hx hb dL_law_410 ?_
  refine va_sld hx hb hXs hbl hbA hW.2.2.2.1 h2 dL_law_411 ?_
  refine lv_aload_n hx hb dL_law_412 rfl (lv_at hl 0 rfl) ?_
  refine lv_iload hx hb dL_law_413 (lv_at hl 4 rfl) ?_
  refine lv_iconst (v := 3) hx hb dL_law_415 (by decide) ?_
  refine lv_iadd hx hb dL_law_416 ?_
  refine va_sld hx hb hXs hbl hbA hW.2.2.2.1 h3 dL_law_417 ?_
  refine lv_aload_n hx hb dL_law_418 rfl (lv_at hl 0 rfl) ?_
  refine lv_iload hx hb dL_law_419 (lv_at hl 4 rfl) ?_
  refine lv_iconst (v := 4) hx hb dL_law_421 (by decide) ?_
  refine lv_iadd hx hb dL_law_422 ?_
  refine va_sld hx hb hXs hbl hbA hW.2.2.2.1 h4 dL_law_423 ?_
  have hW := Wd.toR hW
  refine wd_callV1 (As := [.int (xs (x4 + 1).toNatClampNeg), .int (xs (x4 + 2).toNatClampNeg), .int (xs (x4 + 3).toNatClampNeg), .int (xs (x4 + 4).toNatClampNeg)]) hC hW 0 wR_c0 rfl (c_X9_odds l D cy br _ n T (xs (x4 + 1).toNatClampNeg) (xs (x4 + 2).toNatClampNeg) (xs (x4 + 3).toNatClampNeg) (xs (x4 + 4).toNatClampNeg) (r, T') hrf) (cwV 4 hts (gl_V w_15_19 w_15_16 w_15_17 w_15_18 w_1_5) rfl rfl rfl (by decide +kernel) ⟨Nat.le_of_ble_eq_true rfl, Nat.le_of_ble_eq_true rfl⟩) rfl hl.1 rfl (Nat.le_of_ble_eq_true rfl) ⟨(show kc oF oP i ≤ 601024 by have := kc_le (oF := oF) (oP := oP) hi; omega), (show ks oF oP i ≤ 7293034 by have := ks_le (oF := oF) (oP := oP) hi; omega)⟩ dL_law_424 (fun H locs hW => ?_)
  have hW := Wd.ofR hW
  refine lv_icmp_eq (tgt := 1422) hx hb dL_law_427 (by decide) (fun _ => ?_) (fun c9 => absurd rfl c9)
  refine W.widen (k := kc oF oP (i + 1)) (n := ks oF oP (i + 1)) kc_s ks_s ?_
  exact K ad S oF oP T' v _ _ _ hW hl hrel
set_option maxHeartbeats 4000000 in
set_option maxRecDepth 100000 in
theorem law_8 {p : Program} {l : Launch} {e : Env} {s : State} {m : MethodId} {below : List Frame} {meth : Method} {c : Code} {b L : Nat} {xs : Nat → Int32} {D : va_G} {cy : Nat → ClassId} {Q : State → Prop} {n : Nat} {Rel : St → Option St → Option St → St → Prop} {br : Nat → Nat} {o i : Nat} {x4 : Int32} (htr : l.stackTraces = false) (hX : LX p s m c b L xs) (HB : HB_8 n Rel) (hi : i ≤ 512) (h1 : vp_in (x4 + 1) L) (h2 : vp_in (x4 + 2) L) (h3 : vp_in (x4 + 3) L) (h4 : vp_in (x4 + 4) L) (K : LK p l e s m below meth c b D cy Q Rel br o i x4) {ad : Nat → Nat} {S : St} {oF oP : Option St} {T : St} {v : Nat → Int64} {H : Heap} {locs : List Loc} {ls : Array Slot} (hRel : Rel S oF oP T) (hW : Wd D cy (fun q => s.heap.size ≤ q) s (WLw ad br cy o S oF oP T v) H locs) (hl : lv_has ls 8 [(0, .ref b), (1, .ref (ad 0)), (2, .ref (br 0)), (3, .ref o), (4, .int x4)]) : W p l e room_1 s m #[Value.ref b] below meth c H locs (kc oF oP i) (ks oF oP i) Q (F0 m 432 ls []) := by
  obtain ⟨hC, hXs, hbl, hE, hZ⟩ := hX
  have hx := hC.1
  have hb := hC.2.1
  have hts := hC.2.2.2.2
  have hbA : ¬ (fun q : Nat => s.heap.size ≤ q) b := Nat.not_le.mpr hbl
  refine lv_aload_n hx hb dL_law_432 rfl (lv_at hl 1 rfl) ?_
  refine lv_aload_n hx hb dL_law_433 rfl (lv_at hl 0 rfl) ?_
  refine lv_iload hx hb dL_law_434 (lv_at hl 4 rfl) ?_
  refine lv_iconst (v := 1) hx hb dL_law_436 (by decide) ?_
  refine lv_iadd hx hb dL_law_437 ?_
  refine va_sld hx hb hXs hbl hbA hW.2.2.2.1 h1 dL_law_438 ?_
  refine lv_aload_n hx hb dL_law_439 rfl (lv_at hl 0 rfl) ?_
  refine lv_iload hx hb dL_law_440 (lv_at hl 4 rfl) ?_
  refine lv_iconst (v := 2) hx hb dL_law_442 (by decide) ?_
  refine lv_iadd hx hb dL_law_443 ?_
  refine va_sld hx hb hXs hbl hbA hW.2.2.2.1 h2 dL_law_444 ?_
  refine lv_aload_n hx hb dL_law_445 rfl (lv_at hl 0 rfl) ?_
  refine lv_iload hx hb dL_law_446 (lv_at hl 4 rfl) ?_
  refine lv_iconst (v := 3) hx hb dL_law_448 (by decide) ?_
  refine lv_iadd hx hb dL_law_449 ?_
  refine va_sld hx hb hXs hbl hbA hW.2.2.2.1 h3 dL_law_450 ?_
  obtain ⟨r, T', hc, hrf, hrel⟩ := HB S oF oP T (xs (x4 + 1).toNatClampNeg) (xs (x4 + 2).toNatClampNeg) (xs (x4 + 3).toNatClampNeg) hRel
  refine wd_callV1 (As := [.int (xs (x4 + 1).toNatClampNeg), .int (xs (x4 + 2).toNatClampNeg), .int (xs (x4 + 3).toNatClampNeg)]) hC hW 0 wC_c0 rfl (c_X8_lifter l D cy ad _ S (xs (x4 + 1).toNatClampNeg) (xs (x4 + 2).toNatClampNeg) (xs (x4 + 3).toNatClampNeg) r hc) (cwV 3 hts (gl_V w_16_8 w_16_5 w_16_6 w_16_7 w_1_2) rfl rfl rfl (by decide +kernel) ⟨Nat.le_of_ble_eq_true rfl, Nat.le_of_ble_eq_true rfl⟩) rfl hl.1 rfl (Nat.le_of_ble_eq_true rfl) ⟨(show kc oF oP i ≤ 601024 by have := kc_le (oF := oF) (oP := oP) hi; omega), (show ks oF oP i ≤ 7293034 by have := ks_le (oF := oF) (oP := oP) hi; omega)⟩ dL_law_451 (fun H locs hW => ?_)
  have hW : Wd D cy (fun q => s.heap.size ≤ q) s (WLw ad br cy o S oF oP T v) H locs := hW
  refine lv_aload_n hx hb dL_law_454 rfl (lv_at hl 2 rfl) ?_
  refine lv_aload_n hx hb dL_law_455 rfl (lv_at hl 0 rfl) ?_
  refine lv_iload hx hb dL_law_456 (lv_at hl 4 rfl) ?_
  refine lv_iconst (v := 1) hx hb dL_law_458 (by decide) ?_
  refine lv_iadd hx hb dL_law_459 ?_
  refine va_sld hx hb hXs hbl hbA hW.2.2.2.1 h1 dL_law_460 ?_
  refine lv_aload_n hx hb dL_law_461 rfl (lv_at hl 0 rfl) ?_
  refine lv_iload hx hb dL_law_462 (lv_at hl 4 rfl) ?_
  refine lv_iconst (v := 2) hx hb dL_law_464 (by decide) ?_
  refine lv_iadd hx hb dL_law_465 ?_
  refine va_sld hx hb hXs hbl hbA hW.2.2.2.1 h2 dL_law_466 ?_
  refine lv_aload_n hx hb dL_law_467 rfl (lv_at hl 0 rfl) ?_
  refine lv_iload hx hb dL_law_468 (lv_at hl 4 rfl) ?_
  refine lv_iconst (v := 3) hx hb dL_law_470 (by decide) ?_
  refine lv_iadd hx hb dL_law_471 ?_
  refine va_sld hx hb hXs hbl hbA hW.2.2.2.1 h3 dL_law_472 ?_
  have hW := Wd.toR hW
  refine wd_callV1 (As := [.int (xs (x4 + 1).toNatClampNeg), .int (xs (x4 + 2).toNatClampNeg), .int (xs (x4 + 3).toNatClampNeg)]) hC hW 0 wR_c0 rfl (c_X9_lifter l D cy br _ T (xs (x4 + 1).toNatClampNeg) (xs (x4 + 2).toNatClampNeg) (xs (x4 + 3).toNatClampNeg) (r, T') hrf) (cwV 3 hts (gl_V w_17_7 w_17_4 w_17_5 w_17_6 w_1_5) rfl rfl rfl (by decide +kernel) ⟨Nat.le_of_ble_eq_true rfl, Nat.le_of_ble_eq_true rfl⟩) rfl hl.1 rfl (Nat.le_of_ble_eq_true rfl) ⟨(show kc oF oP i ≤ 601024 by have := kc_le (oF := oF) (oP := oP) hi; omega), (show ks oF oP i ≤ 7293034 by have := ks_le (oF := oF) (oP := oP) hi; omega)⟩ dL_law_473 (fun H locs hW => ?_)
  have hW := Wd.ofR hW
  refine lv_icmp_eq (tgt := 1422) hx hb dL_law_476 (by decide) (fun _ => ?_) (fun c9 => absurd rfl c9)
  refine W.widen (k := kc oF oP (i + 1)) (n := ks oF oP (i + 1)) kc_s ks_s ?_
  exact K ad S oF oP T' v _ _ _ hW hl hrel
set_option maxHeartbeats 4000000 in
set_option maxRecDepth 100000 in
theorem law_9 {p : Program} {l : Launch} {e : Env} {s : State} {m : MethodId} {below : List Frame} {meth : Method} {c : Code} {b L : Nat} {xs : Nat → Int32} {D : va_G} {cy : Nat → ClassId} {Q : State → Prop} {n : Nat} {Rel : St → Option St → Option St → St → Prop} {br : Nat → Nat} {o i : Nat} {x4 : Int32} (htr : l.stackTraces = false) (hX : LX p s m c b L xs) (HB : HB_9 n Rel) (hi : i ≤ 512) (h1 : vp_in (x4 + 1) L) (h2 : vp_in (x4 + 2) L) (h3 : vp_in (x4 + 3) L) (h4 : vp_in (x4 + 4) L) (K : LK p l e s m below meth c b D cy Q Rel br o i x4) {ad : Nat → Nat} {S : St} {oF oP : Option St} {T : St} {v : Nat → Int64} {H : Heap} {locs : List Loc} {ls : Array Slot} (hRel : Rel S oF oP T) (hW : Wd D cy (fun q => s.heap.size ≤ q) s (WLw ad br cy o S oF oP T v) H locs) (hl : lv_has ls 8 [(0, .ref b), (1, .ref (ad 0)), (2, .ref (br 0)), (3, .ref o), (4, .int x4)]) : W p l e room_1 s m #[Value.ref b] below meth c H locs (kc oF oP i) (ks oF oP i) Q (F0 m 481 ls []) := by
  obtain ⟨hC, hXs, hbl, hE, hZ⟩ := hX
  have hx := hC.1
  have hb := hC.2.1
  have hts := hC.2.2.2.2
  have hbA : ¬ (fun q : Nat => s.heap.size ≤ q) b := Nat.not_le.mpr hbl
  refine lv_aload_n hx hb dL_law_481 rfl (lv_at hl 1 rfl) ?_
  obtain ⟨r, S', T', hc, hrf, hrel⟩ := HB S oF oP T  hRel
  refine wd_callV1 (As := []) hC hW 0 wC_c0 rfl (c_X8_called l D cy ad _ n S (r, S') hc) (cwV 0 hts (gl_V w_18_2 w_17_23 w_18_0 w_18_1 w_1_2) rfl rfl rfl (by decide +kernel) ⟨Nat.le_of_ble_eq_true rfl, Nat.le_of_ble_eq_true rfl⟩) rfl hl.1 rfl (Nat.le_of_ble_eq_true rfl) ⟨(show kc oF oP i ≤ 601024 by have := kc_le (oF := oF) (oP := oP) hi; omega), (show ks oF oP i ≤ 7293034 by have := ks_le (oF := oF) (oP := oP) hi; omega)⟩ dL_law_482 (fun H locs hW => ?_)
  have hW : Wd D cy (fun q => s.heap.size ≤ q) s (WLw ad br cy o S' oF oP T v) H locs := hW
  refine lv_aload_n hx hb dL_law_485 rfl (lv_at hl 2 rfl) ?_
  have hW := Wd.toR hW
  refine wd_callV1 (As := []) hC hW 0 wR_c0 rfl (c_X9_called l D cy br _ n T (r, T') hrf) (cwV 0 hts (gl_V w_19_1 w_18_22 w_18_23 w_19_0 w_1_5) rfl rfl rfl (by decide +kernel) ⟨Nat.le_of_ble_eq_true rfl, Nat.le_of_ble_eq_true rfl⟩) rfl hl.1 rfl (Nat.le_of_ble_eq_true rfl) ⟨(show kc oF oP i ≤ 601024 by have := kc_le (oF := oF) (oP := oP) hi; omega), (show ks oF oP i ≤ 7293034 by have := ks_le (oF := oF) (oP := oP) hi; omega)⟩ dL_law_486 (fun H locs hW => ?_)
  have hW := Wd.ofR hW
  refine lv_icmp_eq (tgt := 1422) hx hb dL_law_489 (by decide) (fun _ => ?_) (fun c9 => absurd rfl c9)
  refine W.widen (k := kc oF oP (i + 1)) (n := ks oF oP (i + 1)) kc_s ks_s ?_
  exact K ad S' oF oP T' v _ _ _ hW hl hrel
set_option maxHeartbeats 4000000 in
set_option maxRecDepth 100000 in
theorem law_10 {p : Program} {l : Launch} {e : Env} {s : State} {m : MethodId} {below : List Frame} {meth : Method} {c : Code} {b L : Nat} {xs : Nat → Int32} {D : va_G} {cy : Nat → ClassId} {Q : State → Prop} {n : Nat} {Rel : St → Option St → Option St → St → Prop} {br : Nat → Nat} {o i : Nat} {x4 : Int32} (htr : l.stackTraces = false) (hX : LX p s m c b L xs) (HB : HB_10 n Rel) (hi : i ≤ 512) (h1 : vp_in (x4 + 1) L) (h2 : vp_in (x4 + 2) L) (h3 : vp_in (x4 + 3) L) (h4 : vp_in (x4 + 4) L) (K : LK p l e s m below meth c b D cy Q Rel br o i x4) {ad : Nat → Nat} {S : St} {oF oP : Option St} {T : St} {v : Nat → Int64} {H : Heap} {locs : List Loc} {ls : Array Slot} (hRel : Rel S oF oP T) (hW : Wd D cy (fun q => s.heap.size ≤ q) s (WLw ad br cy o S oF oP T v) H locs) (hl : lv_has ls 8 [(0, .ref b), (1, .ref (ad 0)), (2, .ref (br 0)), (3, .ref o), (4, .int x4)]) : W p l e room_1 s m #[Value.ref b] below meth c H locs (kc oF oP i) (ks oF oP i) Q (F0 m 494 ls []) := by
  obtain ⟨hC, hXs, hbl, hE, hZ⟩ := hX
  have hx := hC.1
  have hb := hC.2.1
  have hts := hC.2.2.2.2
  have hbA : ¬ (fun q : Nat => s.heap.size ≤ q) b := Nat.not_le.mpr hbl
  refine lv_aload_n hx hb dL_law_494 rfl (lv_at hl 1 rfl) ?_
  obtain ⟨r, S', T', hc, hrf, hrel⟩ := HB S oF oP T  hRel
  refine wd_callV1 (As := []) hC hW 0 wC_c0 rfl (c_X8_order l D cy ad _ n S (r, S') hc) (cwV 0 hts (gl_V w_19_18 w_19_15 w_19_16 w_19_17 w_1_2) rfl rfl rfl (by decide +kernel) ⟨Nat.le_of_ble_eq_true rfl, Nat.le_of_ble_eq_true rfl⟩) rfl hl.1 rfl (Nat.le_of_ble_eq_true rfl) ⟨(show kc oF oP i ≤ 601024 by have := kc_le (oF := oF) (oP := oP) hi; omega), (show ks oF oP i ≤ 7293034 by have := ks_le (oF := oF) (oP := oP) hi; omega)⟩ dL_law_495 (fun H locs hW => ?_)
  have hW : Wd D cy (fun q => s.heap.size ≤ q) s (WLw ad br cy o S' oF oP T v) H locs := hW
  refine lv_aload_n hx hb dL_law_498 rfl (lv_at hl 2 rfl) ?_
  have hW := Wd.toR hW
  refine wd_callV1 (As := []) hC hW 0 wR_c0 rfl (c_X9_order l D cy br _ n T (r, T') hrf) (cwV 0 hts (gl_V w_19_23 w_19_20 w_19_21 w_19_22 w_1_5) rfl rfl rfl (by decide +kernel) ⟨Nat.le_of_ble_eq_true rfl, Nat.le_of_ble_eq_true rfl⟩) rfl hl.1 rfl (Nat.le_of_ble_eq_true rfl) ⟨(show kc oF oP i ≤ 601024 by have := kc_le (oF := oF) (oP := oP) hi; omega), (show ks oF oP i ≤ 7293034 by have := ks_le (oF := oF) (oP := oP) hi; omega)⟩ dL_law_499 (fun H locs hW => ?_)
  have hW := Wd.ofR hW
  refine lv_icmp_eq (tgt := 1422) hx hb dL_law_502 (by decide) (fun _ => ?_) (fun c9 => absurd rfl c9)
  refine W.widen (k := kc oF oP (i + 1)) (n := ks oF oP (i + 1)) kc_s ks_s ?_
  exact K ad S' oF oP T' v _ _ _ hW hl hrel
set_option maxHeartbeats 4000000 in
set_option maxRecDepth 100000 in
theorem law_11 {p : Program} {l : Launch} {e : Env} {s : State} {m : MethodId} {below : List Frame} {meth : Method} {c : Code} {b L : Nat} {xs : Nat → Int32} {D : va_G} {cy : Nat → ClassId} {Q : State → Prop} {n : Nat} {Rel : St → Option St → Option St → St → Prop} {br : Nat → Nat} {o i : Nat} {x4 : Int32} (htr : l.stackTraces = false) (hX : LX p s m c b L xs) (HB : HB_11 n Rel) (hi : i ≤ 512) (h1 : vp_in (x4 + 1) L) (h2 : vp_in (x4 + 2) L) (h3 : vp_in (x4 + 3) L) (h4 : vp_in (x4 + 4) L) (K : LK p l e s m below meth c b D cy Q Rel br o i x4) {ad : Nat → Nat} {S : St} {oF oP : Option St} {T : St} {v : Nat → Int64} {H : Heap} {locs : List Loc} {ls : Array Slot} (hRel : Rel S oF oP T) (hW : Wd D cy (fun q => s.heap.size ≤ q) s (WLw ad br cy o S oF oP T v) H locs) (hl : lv_has ls 8 [(0, .ref b), (1, .ref (ad 0)), (2, .ref (br 0)), (3, .ref o), (4, .int x4)]) : W p l e room_1 s m #[Value.ref b] below meth c H locs (kc oF oP i) (ks oF oP i) Q (F0 m 507 ls []) := by
  obtain ⟨hC, hXs, hbl, hE, hZ⟩ := hX
  have hx := hC.1
  have hb := hC.2.1
  have hts := hC.2.2.2.2
  have hbA : ¬ (fun q : Nat => s.heap.size ≤ q) b := Nat.not_le.mpr hbl
  refine lv_aload_n hx hb dL_law_507 rfl (lv_at hl 1 rfl) ?_
  refine lv_aload_n hx hb dL_law_508 rfl (lv_at hl 0 rfl) ?_
  refine lv_iload hx hb dL_law_509 (lv_at hl 4 rfl) ?_
  refine lv_iconst (v := 1) hx hb dL_law_511 (by decide) ?_
  refine lv_iadd hx hb dL_law_512 ?_
  refine va_sld hx hb hXs hbl hbA hW.2.2.2.1 h1 dL_law_513 ?_
  refine lv_aload_n hx hb dL_law_514 rfl (lv_at hl 0 rfl) ?_
  refine lv_iload hx hb dL_law_515 (lv_at hl 4 rfl) ?_
  refine lv_iconst (v := 2) hx hb dL_law_517 (by decide) ?_
  refine lv_iadd hx hb dL_law_518 ?_
  refine va_sld hx hb hXs hbl hbA hW.2.2.2.1 h2 dL_law_519 ?_
  obtain ⟨r, S', T', hc, hrf, hrel⟩ := HB S oF oP T (xs (x4 + 1).toNatClampNeg) (xs (x4 + 2).toNatClampNeg) hRel
  refine wd_callV1 (As := [.int (xs (x4 + 1).toNatClampNeg), .int (xs (x4 + 2).toNatClampNeg)]) hC hW 0 wC_c0 rfl (c_X8_asks l D cy ad _ S (xs (x4 + 1).toNatClampNeg) (xs (x4 + 2).toNatClampNeg) (r, S') hc) (cwV 2 hts (gl_V w_20_7 w_20_4 w_20_5 w_20_6 w_1_2) rfl rfl rfl (by decide +kernel) ⟨Nat.le_of_ble_eq_true rfl, Nat.le_of_ble_eq_true rfl⟩) rfl hl.1 rfl (Nat.le_of_ble_eq_true rfl) ⟨(show kc oF oP i ≤ 601024 by have := kc_le (oF := oF) (oP := oP) hi; omega), (show ks oF oP i ≤ 7293034 by have := ks_le (oF := oF) (oP := oP) hi; omega)⟩ dL_law_520 (fun H locs hW => ?_)
  have hW : Wd D cy (fun q => s.heap.size ≤ q) s (WLw ad br cy o S' oF oP T v) H locs := hW
  refine lv_aload_n hx hb dL_law_523 rfl (lv_at hl 2 rfl) ?_
  refine lv_aload_n hx hb dL_law_524 rfl (lv_at hl 0 rfl) ?_
  refine lv_iload hx hb dL_law_525 (lv_at hl 4 rfl) ?_
  refine lv_iconst (v := 1) hx hb dL_law_527 (by decide) ?_
  refine lv_iadd hx hb dL_law_528 ?_
  refine va_sld hx hb hXs hbl hbA hW.2.2.2.1 h1 dL_law_529 ?_
  refine lv_aload_n hx hb dL_law_530 rfl (lv_at hl 0 rfl) ?_
  refine lv_iload hx hb dL_law_531 (lv_at hl 4 rfl) ?_
  refine lv_iconst (v := 2) hx hb dL_law_533 (by decide) ?_
  refine lv_iadd hx hb dL_law_534 ?_
  refine va_sld hx hb hXs hbl hbA hW.2.2.2.1 h2 dL_law_535 ?_
  have hW := Wd.toR hW
  refine wd_callV1 (As := [.int (xs (x4 + 1).toNatClampNeg), .int (xs (x4 + 2).toNatClampNeg)]) hC hW 0 wR_c0 rfl (c_X9_asks l D cy br _ T (xs (x4 + 1).toNatClampNeg) (xs (x4 + 2).toNatClampNeg) (r, T') hrf) (cwV 2 hts (gl_V w_20_11 w_20_8 w_20_9 w_20_10 w_1_5) rfl rfl rfl (by decide +kernel) ⟨Nat.le_of_ble_eq_true rfl, Nat.le_of_ble_eq_true rfl⟩) rfl hl.1 rfl (Nat.le_of_ble_eq_true rfl) ⟨(show kc oF oP i ≤ 601024 by have := kc_le (oF := oF) (oP := oP) hi; omega), (show ks oF oP i ≤ 7293034 by have := ks_le (oF := oF) (oP := oP) hi; omega)⟩ dL_law_536 (fun H locs hW => ?_)
  have hW := Wd.ofR hW
  refine lv_icmp_eq (tgt := 1422) hx hb dL_law_539 (by decide) (fun _ => ?_) (fun c9 => absurd rfl c9)
  refine W.widen (k := kc oF oP (i + 1)) (n := ks oF oP (i + 1)) kc_s ks_s ?_
  exact K ad S' oF oP T' v _ _ _ hW hl hrel
set_option maxHeartbeats 4000000 in
set_option maxRecDepth 100000 in
theorem law_12 {p : Program} {l : Launch} {e : Env} {s : State} {m : MethodId} {below : List Frame} {meth : Method} {c : Code} {b L : Nat} {xs : Nat → Int32} {D : va_G} {cy : Nat → ClassId} {Q : State → Prop} {n : Nat} {Rel : St → Option St → Option St → St → Prop} {br : Nat → Nat} {o i : Nat} {x4 : Int32} (htr : l.stackTraces = false) (hX : LX p s m c b L xs) (HB : HB_12 n Rel) (hi : i ≤ 512) (h1 : vp_in (x4 + 1) L) (h2 : vp_in (x4 + 2) L) (h3 : vp_in (x4 + 3) L) (h4 : vp_in (x4 + 4) L) (K : LK p l e s m below meth c b D cy Q Rel br o i x4) {ad : Nat → Nat} {S : St} {oF oP : Option St} {T : St} {v : Nat → Int64} {H : Heap} {locs : List Loc} {ls : Array Slot} (hRel : Rel S oF oP T) (hW : Wd D cy (fun q => s.heap.size ≤ q) s (WLw ad br cy o S oF oP T v) H locs) (hl : lv_has ls 8 [(0, .ref b), (1, .ref (ad 0)), (2, .ref (br 0)), (3, .ref o), (4, .int x4)]) : W p l e room_1 s m #[Value.ref b] below meth c H locs (kc oF oP i) (ks oF oP i) Q (F0 m 544 ls []) := by
  obtain ⟨hC, hXs, hbl, hE, hZ⟩ := hX
  have hx := hC.1
  have hb := hC.2.1
  have hts := hC.2.2.2.2
  have hbA : ¬ (fun q : Nat => s.heap.size ≤ q) b := Nat.not_le.mpr hbl
  by_cases c0 : (xs (x4 + 1).toNatClampNeg) = 0
  · refine lv_aload_n hx hb dL_law_544 rfl (lv_at hl 1 rfl) ?_
    refine lv_aload_n hx hb dL_law_545 rfl (lv_at hl 0 rfl) ?_
    refine lv_iload hx hb dL_law_546 (lv_at hl 4 rfl) ?_
    refine lv_iconst (v := 1) hx hb dL_law_548 (by decide) ?_
    refine lv_iadd hx hb dL_law_549 ?_
    refine va_sld hx hb hXs hbl hbA hW.2.2.2.1 h1 dL_law_550 ?_
    refine lv_if_eq (tgt := 558) hx hb dL_law_551 (by decide) (fun _ => ?_) (fun c9 => absurd c0 c9)
    refine lv_iconst (v := 0) hx hb dL_law_558 (by decide) ?_
    obtain ⟨r, S', T', hc, hrf, hrel⟩ := HB S oF oP T 0 hRel (Or.inl rfl)
    refine wd_callV1 (As := [.int 0]) hC hW 0 wC_c0 rfl (c_X8_tries l D cy ad _ n S 0 (r, S') hc) (cwV 1 hts (gl_V w_20_15 w_20_12 w_20_13 w_20_14 w_1_2) rfl rfl rfl (by decide +kernel) ⟨Nat.le_of_ble_eq_true rfl, Nat.le_of_ble_eq_true rfl⟩) rfl hl.1 rfl (Nat.le_of_ble_eq_true rfl) ⟨(show kc oF oP i ≤ 601024 by have := kc_le (oF := oF) (oP := oP) hi; omega), (show ks oF oP i ≤ 7293034 by have := ks_le (oF := oF) (oP := oP) hi; omega)⟩ dL_law_559 (fun H locs hW => ?_)
    have hW : Wd D cy (fun q => s.heap.size ≤ q) s (WLw ad br cy o S' oF oP T v) H locs := hW
    refine lv_aload_n hx hb dL_law_562 rfl (lv_at hl 2 rfl) ?_
    refine lv_aload_n hx hb dL_law_563 rfl (lv_at hl 0 rfl) ?_
    refine lv_iload hx hb dL_law_564 (lv_at hl 4 rfl) ?_
    refine lv_iconst (v := 1) hx hb dL_law_566 (by decide) ?_
    refine lv_iadd hx hb dL_law_567 ?_
    refine va_sld hx hb hXs hbl hbA hW.2.2.2.1 h1 dL_law_568 ?_
    refine lv_if_eq (tgt := 576) hx hb dL_law_569 (by decide) (fun _ => ?_) (fun c9 => absurd c0 c9)
    refine lv_iconst (v := 0) hx hb dL_law_576 (by decide) ?_
    have hW := Wd.toR hW
    refine wd_callV1 (As := [.int 0]) hC hW 0 wR_c0 rfl (c_X9_tries l D cy br _ n T 0 (r, T') hrf) (cwV 1 hts (gl_V w_21_8 w_21_5 w_21_6 w_21_7 w_1_5) rfl rfl rfl (by decide +kernel) ⟨Nat.le_of_ble_eq_true rfl, Nat.le_of_ble_eq_true rfl⟩) rfl hl.1 rfl (Nat.le_of_ble_eq_true rfl) ⟨(show kc oF oP i ≤ 601024 by have := kc_le (oF := oF) (oP := oP) hi; omega), (show ks oF oP i ≤ 7293034 by have := ks_le (oF := oF) (oP := oP) hi; omega)⟩ dL_law_577 (fun H locs hW => ?_)
    have hW := Wd.ofR hW
    refine lv_icmp_eq (tgt := 1422) hx hb dL_law_580 (by decide) (fun _ => ?_) (fun c9 => absurd rfl c9)
    refine W.widen (k := kc oF oP (i + 1)) (n := ks oF oP (i + 1)) kc_s ks_s ?_
    exact K ad S' oF oP T' v _ _ _ hW hl hrel
  · refine lv_aload_n hx hb dL_law_544 rfl (lv_at hl 1 rfl) ?_
    refine lv_aload_n hx hb dL_law_545 rfl (lv_at hl 0 rfl) ?_
    refine lv_iload hx hb dL_law_546 (lv_at hl 4 rfl) ?_
    refine lv_iconst (v := 1) hx hb dL_law_548 (by decide) ?_
    refine lv_iadd hx hb dL_law_549 ?_
    refine va_sld hx hb hXs hbl hbA hW.2.2.2.1 h1 dL_law_550 ?_
    refine lv_if_eq (tgt := 558) hx hb dL_law_551 (by decide) (fun c9 => absurd c9 c0) (fun _ => ?_)
    refine lv_iconst (v := 1) hx hb dL_law_554 (by decide) ?_
    refine lv_goto (tgt := 559) hx hb dL_law_555 (by decide) ?_
    obtain ⟨r, S', T', hc, hrf, hrel⟩ := HB S oF oP T 1 hRel (Or.inr rfl)
    refine wd_callV1 (As := [.int 1]) hC hW 0 wC_c0 rfl (c_X8_tries l D cy ad _ n S 1 (r, S') hc) (cwV 1 hts (gl_V w_20_15 w_20_12 w_20_13 w_20_14 w_1_2) rfl rfl rfl (by decide +kernel) ⟨Nat.le_of_ble_eq_true rfl, Nat.le_of_ble_eq_true rfl⟩) rfl hl.1 rfl (Nat.le_of_ble_eq_true rfl) ⟨(show kc oF oP i ≤ 601024 by have := kc_le (oF := oF) (oP := oP) hi; omega), (show ks oF oP i ≤ 7293034 by have := ks_le (oF := oF) (oP := oP) hi; omega)⟩ dL_law_559 (fun H locs hW => ?_)
    have hW : Wd D cy (fun q => s.heap.size ≤ q) s (WLw ad br cy o S' oF oP T v) H locs := hW
    refine lv_aload_n hx hb dL_law_562 rfl (lv_at hl 2 rfl) ?_
    refine lv_aload_n hx hb dL_law_563 rfl (lv_at hl 0 rfl) ?_
    refine lv_iload hx hb dL_law_564 (lv_at hl 4 rfl) ?_
    refine lv_iconst (v := 1) hx hb dL_law_566 (by decide) ?_
    refine lv_iadd hx hb dL_law_567 ?_
    refine va_sld hx hb hXs hbl hbA hW.2.2.2.1 h1 dL_law_568 ?_
    refine lv_if_eq (tgt := 576) hx hb dL_law_569 (by decide) (fun c9 => absurd c9 c0) (fun _ => ?_)
    refine lv_iconst (v := 1) hx hb dL_law_572 (by decide) ?_
    refine lv_goto (tgt := 577) hx hb dL_law_573 (by decide) ?_
    have hW := Wd.toR hW
    refine wd_callV1 (As := [.int 1]) hC hW 0 wR_c0 rfl (c_X9_tries l D cy br _ n T 1 (r, T') hrf) (cwV 1 hts (gl_V w_21_8 w_21_5 w_21_6 w_21_7 w_1_5) rfl rfl rfl (by decide +kernel) ⟨Nat.le_of_ble_eq_true rfl, Nat.le_of_ble_eq_true rfl⟩) rfl hl.1 rfl (Nat.le_of_ble_eq_true rfl) ⟨(show kc oF oP i ≤ 601024 by have := kc_le (oF := oF) (oP := oP) hi; omega), (show ks oF oP i ≤ 7293034 by have := ks_le (oF := oF) (oP := oP) hi; omega)⟩ dL_law_577 (fun H locs hW => ?_)
    have hW := Wd.ofR hW
    refine lv_icmp_eq (tgt := 1422) hx hb dL_law_580 (by decide) (fun _ => ?_) (fun c9 => absurd rfl c9)
    refine W.widen (k := kc oF oP (i + 1)) (n := ks oF oP (i + 1)) kc_s ks_s ?_
    exact K ad S' oF oP T' v _ _ _ hW hl hrel
set_option maxHeartbeats 4000000 in
set_option maxRecDepth 100000 in
theorem law_13 {p : Program} {l : Launch} {e : Env} {s : State} {m : MethodId} {below : List Frame} {meth : Method} {c : Code} {b L : Nat} {xs : Nat → Int32} {D : va_G} {cy : Nat → ClassId} {Q : State → Prop} {n : Nat} {Rel : St → Option St → Option St → St → Prop} {br : Nat → Nat} {o i : Nat} {x4 : Int32} (htr : l.stackTraces = false) (hX : LX p s m c b L xs) (HB : HB_13 n Rel) (hi : i ≤ 512) (h1 : vp_in (x4 + 1) L) (h2 : vp_in (x4 + 2) L) (h3 : vp_in (x4 + 3) L) (h4 : vp_in (x4 + 4) L) (K : LK p l e s m below meth c b D cy Q Rel br o i x4) {ad : Nat → Nat} {S : St} {oF oP : Option St} {T : St} {v : Nat → Int64} {H : Heap} {locs : List Loc} {ls : Array Slot} (hRel : Rel S oF oP T) (hW : Wd D cy (fun q => s.heap.size ≤ q) s (WLw ad br cy o S oF oP T v) H locs) (hl : lv_has ls 8 [(0, .ref b), (1, .ref (ad 0)), (2, .ref (br 0)), (3, .ref o), (4, .int x4)]) : W p l e room_1 s m #[Value.ref b] below meth c H locs (kc oF oP i) (ks oF oP i) Q (F0 m 585 ls []) := by
  obtain ⟨hC, hXs, hbl, hE, hZ⟩ := hX
  have hx := hC.1
  have hb := hC.2.1
  have hts := hC.2.2.2.2
  have hbA : ¬ (fun q : Nat => s.heap.size ≤ q) b := Nat.not_le.mpr hbl
  refine lv_aload_n hx hb dL_law_585 rfl (lv_at hl 1 rfl) ?_
  refine lv_aload_n hx hb dL_law_586 rfl (lv_at hl 0 rfl) ?_
  refine lv_iload hx hb dL_law_587 (lv_at hl 4 rfl) ?_
  refine lv_iconst (v := 1) hx hb dL_law_589 (by decide) ?_
  refine lv_iadd hx hb dL_law_590 ?_
  refine va_sld hx hb hXs hbl hbA hW.2.2.2.1 h1 dL_law_591 ?_
  refine lv_aload_n hx hb dL_law_592 rfl (lv_at hl 0 rfl) ?_
  refine lv_iload hx hb dL_law_593 (lv_at hl 4 rfl) ?_
  refine lv_iconst (v := 2) hx hb dL_law_595 (by decide) ?_
  refine lv_iadd hx hb dL_law_596 ?_
  refine va_sld hx hb hXs hbl hbA hW.2.2.2.1 h2 dL_law_597 ?_
  obtain ⟨r, T', hc, hrf, hrel⟩ := HB S oF oP T (xs (x4 + 1).toNatClampNeg) (xs (x4 + 2).toNatClampNeg) hRel
  refine wd_callV1 (As := [.int (xs (x4 + 1).toNatClampNeg), .int (xs (x4 + 2).toNatClampNeg)]) hC hW 0 wC_c0 rfl (c_X8_tried l D cy ad _ S (xs (x4 + 1).toNatClampNeg) (xs (x4 + 2).toNatClampNeg) r hc) (cwV 2 hts (gl_V w_22_5 w_22_2 w_22_3 w_22_4 w_1_2) rfl rfl rfl (by decide +kernel) ⟨Nat.le_of_ble_eq_true rfl, Nat.le_of_ble_eq_true rfl⟩) rfl hl.1 rfl (Nat.le_of_ble_eq_true rfl) ⟨(show kc oF oP i ≤ 601024 by have := kc_le (oF := oF) (oP := oP) hi; omega), (show ks oF oP i ≤ 7293034 by have := ks_le (oF := oF) (oP := oP) hi; omega)⟩ dL_law_598 (fun H locs hW => ?_)
  have hW : Wd D cy (fun q => s.heap.size ≤ q) s (WLw ad br cy o S oF oP T v) H locs := hW
  refine lv_aload_n hx hb dL_law_601 rfl (lv_at hl 2 rfl) ?_
  refine lv_aload_n hx hb dL_law_602 rfl (lv_at hl 0 rfl) ?_
  refine lv_iload hx hb dL_law_603 (lv_at hl 4 rfl) ?_
  refine lv_iconst (v := 1) hx hb dL_law_605 (by decide) ?_
  refine lv_iadd hx hb dL_law_606 ?_
  refine va_sld hx hb hXs hbl hbA hW.2.2.2.1 h1 dL_law_607 ?_
  refine lv_aload_n hx hb dL_law_608 rfl (lv_at hl 0 rfl) ?_
  refine lv_iload hx hb dL_law_609 (lv_at hl 4 rfl) ?_
  refine lv_iconst (v := 2) hx hb dL_law_611 (by decide) ?_
  refine lv_iadd hx hb dL_law_612 ?_
  refine va_sld hx hb hXs hbl hbA hW.2.2.2.1 h2 dL_law_613 ?_
  have hW := Wd.toR hW
  refine wd_callV1 (As := [.int (xs (x4 + 1).toNatClampNeg), .int (xs (x4 + 2).toNatClampNeg)]) hC hW 0 wR_c0 rfl (c_X9_tried l D cy br _ T (xs (x4 + 1).toNatClampNeg) (xs (x4 + 2).toNatClampNeg) (r, T') hrf) (cwV 2 hts (gl_V w_22_11 w_22_8 w_22_9 w_22_10 w_1_5) rfl rfl rfl (by decide +kernel) ⟨Nat.le_of_ble_eq_true rfl, Nat.le_of_ble_eq_true rfl⟩) rfl hl.1 rfl (Nat.le_of_ble_eq_true rfl) ⟨(show kc oF oP i ≤ 601024 by have := kc_le (oF := oF) (oP := oP) hi; omega), (show ks oF oP i ≤ 7293034 by have := ks_le (oF := oF) (oP := oP) hi; omega)⟩ dL_law_614 (fun H locs hW => ?_)
  have hW := Wd.ofR hW
  refine lv_icmp_eq (tgt := 1422) hx hb dL_law_617 (by decide) (fun _ => ?_) (fun c9 => absurd rfl c9)
  refine W.widen (k := kc oF oP (i + 1)) (n := ks oF oP (i + 1)) kc_s ks_s ?_
  exact K ad S oF oP T' v _ _ _ hW hl hrel
set_option maxHeartbeats 4000000 in
set_option maxRecDepth 100000 in
theorem law_14 {p : Program} {l : Launch} {e : Env} {s : State} {m : MethodId} {below : List Frame} {meth : Method} {c : Code} {b L : Nat} {xs : Nat → Int32} {D : va_G} {cy : Nat → ClassId} {Q : State → Prop} {n : Nat} {Rel : St → Option St → Option St → St → Prop} {br : Nat → Nat} {o i : Nat} {x4 : Int32} (htr : l.stackTraces = false) (hX : LX p s m c b L xs) (HB : HB_14 n Rel) (hi : i ≤ 512) (h1 : vp_in (x4 + 1) L) (h2 : vp_in (x4 + 2) L) (h3 : vp_in (x4 + 3) L) (h4 : vp_in (x4 + 4) L) (K : LK p l e s m below meth c b D cy Q Rel br o i x4) {ad : Nat → Nat} {S : St} {oF oP : Option St} {T : St} {v : Nat → Int64} {H : Heap} {locs : List Loc} {ls : Array Slot} (hRel : Rel S oF oP T) (hW : Wd D cy (fun q => s.heap.size ≤ q) s (WLw ad br cy o S oF oP T v) H locs) (hl : lv_has ls 8 [(0, .ref b), (1, .ref (ad 0)), (2, .ref (br 0)), (3, .ref o), (4, .int x4)]) : W p l e room_1 s m #[Value.ref b] below meth c H locs (kc oF oP i) (ks oF oP i) Q (F0 m 622 ls []) := by
  obtain ⟨hC, hXs, hbl, hE, hZ⟩ := hX
  have hx := hC.1
  have hb := hC.2.1
  have hts := hC.2.2.2.2
  have hbA : ¬ (fun q : Nat => s.heap.size ≤ q) b := Nat.not_le.mpr hbl
  refine lv_aload_n hx hb dL_law_622 rfl (lv_at hl 1 rfl) ?_
  refine lv_aload_n hx hb dL_law_623 rfl (lv_at hl 0 rfl) ?_
  refine lv_iload hx hb dL_law_624 (lv_at hl 4 rfl) ?_
  refine lv_iconst (v := 1) hx hb dL_law_626 (by decide) ?_
  refine lv_iadd hx hb dL_law_627 ?_
  refine va_sld hx hb hXs hbl hbA hW.2.2.2.1 h1 dL_law_628 ?_
  obtain ⟨r, S', T', hc, hrf, hrel⟩ := HB S oF oP T (xs (x4 + 1).toNatClampNeg) hRel
  refine wd_callV1 (As := [.int (xs (x4 + 1).toNatClampNeg)]) hC hW 0 wC_c0 rfl (c_X8_place l D cy ad _ n S (xs (x4 + 1).toNatClampNeg) (r, S') hc) (cwV 1 hts (gl_V w_22_16 w_22_13 w_22_14 w_22_15 w_1_2) rfl rfl rfl (by decide +kernel) ⟨Nat.le_of_ble_eq_true rfl, Nat.le_of_ble_eq_true rfl⟩) rfl hl.1 rfl (Nat.le_of_ble_eq_true rfl) ⟨(show kc oF oP i ≤ 601024 by have := kc_le (oF := oF) (oP := oP) hi; omega), (show ks oF oP i ≤ 7293034 by have := ks_le (oF := oF) (oP := oP) hi; omega)⟩ dL_law_629 (fun H locs hW => ?_)
  have hW : Wd D cy (fun q => s.heap.size ≤ q) s (WLw ad br cy o S' oF oP T v) H locs := hW
  refine lv_aload_n hx hb dL_law_632 rfl (lv_at hl 2 rfl) ?_
  refine lv_aload_n hx hb dL_law_633 rfl (lv_at hl 0 rfl) ?_
  refine lv_iload hx hb dL_law_634 (lv_at hl 4 rfl) ?_
  refine lv_iconst (v := 1) hx hb dL_law_636 (by decide) ?_
  refine lv_iadd hx hb dL_law_637 ?_
  refine va_sld hx hb hXs hbl hbA hW.2.2.2.1 h1 dL_law_638 ?_
  have hW := Wd.toR hW
  refine wd_callV1 (As := [.int (xs (x4 + 1).toNatClampNeg)]) hC hW 0 wR_c0 rfl (c_X9_place l D cy br _ n T (xs (x4 + 1).toNatClampNeg) (r, T') hrf) (cwV 1 hts (gl_V w_23_15 w_23_12 w_23_13 w_23_14 w_1_5) rfl rfl rfl (by decide +kernel) ⟨Nat.le_of_ble_eq_true rfl, Nat.le_of_ble_eq_true rfl⟩) rfl hl.1 rfl (Nat.le_of_ble_eq_true rfl) ⟨(show kc oF oP i ≤ 601024 by have := kc_le (oF := oF) (oP := oP) hi; omega), (show ks oF oP i ≤ 7293034 by have := ks_le (oF := oF) (oP := oP) hi; omega)⟩ dL_law_639 (fun H locs hW => ?_)
  have hW := Wd.ofR hW
  refine lv_icmp_eq (tgt := 1422) hx hb dL_law_642 (by decide) (fun _ => ?_) (fun c9 => absurd rfl c9)
  refine W.widen (k := kc oF oP (i + 1)) (n := ks oF oP (i + 1)) kc_s ks_s ?_
  exact K ad S' oF oP T' v _ _ _ hW hl hrel
set_option maxHeartbeats 4000000 in
set_option maxRecDepth 100000 in
theorem law_15 {p : Program} {l : Launch} {e : Env} {s : State} {m : MethodId} {below : List Frame} {meth : Method} {c : Code} {b L : Nat} {xs : Nat → Int32} {D : va_G} {cy : Nat → ClassId} {Q : State → Prop} {n : Nat} {Rel : St → Option St → Option St → St → Prop} {br : Nat → Nat} {o i : Nat} {x4 : Int32} (htr : l.stackTraces = false) (hX : LX p s m c b L xs) (HB : HB_15 n Rel) (hi : i ≤ 512) (h1 : vp_in (x4 + 1) L) (h2 : vp_in (x4 + 2) L) (h3 : vp_in (x4 + 3) L) (h4 : vp_in (x4 + 4) L) (K : LK p l e s m below meth c b D cy Q Rel br o i x4) {ad : Nat → Nat} {S : St} {oF oP : Option St} {T : St} {v : Nat → Int64} {H : Heap} {locs : List Loc} {ls : Array Slot} (hRel : Rel S oF oP T) (hW : Wd D cy (fun q => s.heap.size ≤ q) s (WLw ad br cy o S oF oP T v) H locs) (hl : lv_has ls 8 [(0, .ref b), (1, .ref (ad 0)), (2, .ref (br 0)), (3, .ref o), (4, .int x4)]) : W p l e room_1 s m #[Value.ref b] below meth c H locs (kc oF oP i) (ks oF oP i) Q (F0 m 647 ls []) := by
  obtain ⟨hC, hXs, hbl, hE, hZ⟩ := hX
  have hx := hC.1
  have hb := hC.2.1
  have hts := hC.2.2.2.2
  have hbA : ¬ (fun q : Nat => s.heap.size ≤ q) b := Nat.not_le.mpr hbl
  refine lv_aload_n hx hb dL_law_647 rfl (lv_at hl 1 rfl) ?_
  refine lv_aload_n hx hb dL_law_648 rfl (lv_at hl 0 rfl) ?_
  refine lv_iload hx hb dL_law_649 (lv_at hl 4 rfl) ?_
  refine lv_iconst (v := 1) hx hb dL_law_651 (by decide) ?_
  refine lv_iadd hx hb dL_law_652 ?_
  refine va_sld hx hb hXs hbl hbA hW.2.2.2.1 h1 dL_law_653 ?_
  refine lv_aload_n hx hb dL_law_654 rfl (lv_at hl 0 rfl) ?_
  refine lv_iload hx hb dL_law_655 (lv_at hl 4 rfl) ?_
  refine lv_iconst (v := 2) hx hb dL_law_657 (by decide) ?_
  refine lv_iadd hx hb dL_law_658 ?_
  refine va_sld hx hb hXs hbl hbA hW.2.2.2.1 h2 dL_law_659 ?_
  obtain ⟨r, T', hc, hrf, hrel⟩ := HB S oF oP T (xs (x4 + 1).toNatClampNeg) (xs (x4 + 2).toNatClampNeg) hRel
  refine wd_callV1 (As := [.int (xs (x4 + 1).toNatClampNeg), .int (xs (x4 + 2).toNatClampNeg)]) hC hW 0 wC_c0 rfl (c_X8_slot l D cy ad _ n S (xs (x4 + 1).toNatClampNeg) (xs (x4 + 2).toNatClampNeg) r hc) (cwV 2 hts (gl_V w_24_11 w_24_8 w_24_9 w_24_10 w_1_2) rfl rfl rfl (by decide +kernel) ⟨Nat.le_of_ble_eq_true rfl, Nat.le_of_ble_eq_true rfl⟩) rfl hl.1 rfl (Nat.le_of_ble_eq_true rfl) ⟨(show kc oF oP i ≤ 601024 by have := kc_le (oF := oF) (oP := oP) hi; omega), (show ks oF oP i ≤ 7293034 by have := ks_le (oF := oF) (oP := oP) hi; omega)⟩ dL_law_660 (fun H locs hW => ?_)
  have hW : Wd D cy (fun q => s.heap.size ≤ q) s (WLw ad br cy o S oF oP T v) H locs := hW
  refine lv_aload_n hx hb dL_law_663 rfl (lv_at hl 2 rfl) ?_
  refine lv_aload_n hx hb dL_law_664 rfl (lv_at hl 0 rfl) ?_
  refine lv_iload hx hb dL_law_665 (lv_at hl 4 rfl) ?_
  refine lv_iconst (v := 1) hx hb dL_law_667 (by decide) ?_
  refine lv_iadd hx hb dL_law_668 ?_
  refine va_sld hx hb hXs hbl hbA hW.2.2.2.1 h1 dL_law_669 ?_
  refine lv_aload_n hx hb dL_law_670 rfl (lv_at hl 0 rfl) ?_
  refine lv_iload hx hb dL_law_671 (lv_at hl 4 rfl) ?_
  refine lv_iconst (v := 2) hx hb dL_law_673 (by decide) ?_
  refine lv_iadd hx hb dL_law_674 ?_
  refine va_sld hx hb hXs hbl hbA hW.2.2.2.1 h2 dL_law_675 ?_
  have hW := Wd.toR hW
  refine wd_callV1 (As := [.int (xs (x4 + 1).toNatClampNeg), .int (xs (x4 + 2).toNatClampNeg)]) hC hW 0 wR_c0 rfl (c_X9_slot l D cy br _ n T (xs (x4 + 1).toNatClampNeg) (xs (x4 + 2).toNatClampNeg) (r, T') hrf) (cwV 2 hts (gl_V w_24_15 w_24_12 w_24_13 w_24_14 w_1_5) rfl rfl rfl (by decide +kernel) ⟨Nat.le_of_ble_eq_true rfl, Nat.le_of_ble_eq_true rfl⟩) rfl hl.1 rfl (Nat.le_of_ble_eq_true rfl) ⟨(show kc oF oP i ≤ 601024 by have := kc_le (oF := oF) (oP := oP) hi; omega), (show ks oF oP i ≤ 7293034 by have := ks_le (oF := oF) (oP := oP) hi; omega)⟩ dL_law_676 (fun H locs hW => ?_)
  have hW := Wd.ofR hW
  refine lv_icmp_eq (tgt := 1422) hx hb dL_law_679 (by decide) (fun _ => ?_) (fun c9 => absurd rfl c9)
  refine W.widen (k := kc oF oP (i + 1)) (n := ks oF oP (i + 1)) kc_s ks_s ?_
  exact K ad S oF oP T' v _ _ _ hW hl hrel
set_option maxHeartbeats 4000000 in
set_option maxRecDepth 100000 in
theorem law_16 {p : Program} {l : Launch} {e : Env} {s : State} {m : MethodId} {below : List Frame} {meth : Method} {c : Code} {b L : Nat} {xs : Nat → Int32} {D : va_G} {cy : Nat → ClassId} {Q : State → Prop} {n : Nat} {Rel : St → Option St → Option St → St → Prop} {br : Nat → Nat} {o i : Nat} {x4 : Int32} (htr : l.stackTraces = false) (hX : LX p s m c b L xs) (HB : HB_16 n Rel) (hi : i ≤ 512) (h1 : vp_in (x4 + 1) L) (h2 : vp_in (x4 + 2) L) (h3 : vp_in (x4 + 3) L) (h4 : vp_in (x4 + 4) L) (K : LK p l e s m below meth c b D cy Q Rel br o i x4) {ad : Nat → Nat} {S : St} {oF oP : Option St} {T : St} {v : Nat → Int64} {H : Heap} {locs : List Loc} {ls : Array Slot} (hRel : Rel S oF oP T) (hW : Wd D cy (fun q => s.heap.size ≤ q) s (WLw ad br cy o S oF oP T v) H locs) (hl : lv_has ls 8 [(0, .ref b), (1, .ref (ad 0)), (2, .ref (br 0)), (3, .ref o), (4, .int x4)]) : W p l e room_1 s m #[Value.ref b] below meth c H locs (kc oF oP i) (ks oF oP i) Q (F0 m 684 ls []) := by
  obtain ⟨hC, hXs, hbl, hE, hZ⟩ := hX
  have hx := hC.1
  have hb := hC.2.1
  have hts := hC.2.2.2.2
  have hbA : ¬ (fun q : Nat => s.heap.size ≤ q) b := Nat.not_le.mpr hbl
  refine lv_aload_n hx hb dL_law_684 rfl (lv_at hl 1 rfl) ?_
  refine lv_aload_n hx hb dL_law_685 rfl (lv_at hl 0 rfl) ?_
  refine lv_iload hx hb dL_law_686 (lv_at hl 4 rfl) ?_
  refine lv_iconst (v := 1) hx hb dL_law_688 (by decide) ?_
  refine lv_iadd hx hb dL_law_689 ?_
  refine va_sld hx hb hXs hbl hbA hW.2.2.2.1 h1 dL_law_690 ?_
  refine lv_aload_n hx hb dL_law_691 rfl (lv_at hl 0 rfl) ?_
  refine lv_iload hx hb dL_law_692 (lv_at hl 4 rfl) ?_
  refine lv_iconst (v := 2) hx hb dL_law_694 (by decide) ?_
  refine lv_iadd hx hb dL_law_695 ?_
  refine va_sld hx hb hXs hbl hbA hW.2.2.2.1 h2 dL_law_696 ?_
  obtain ⟨r, T', hc, hrf, hrel⟩ := HB S oF oP T (xs (x4 + 1).toNatClampNeg) (xs (x4 + 2).toNatClampNeg) hRel
  refine wd_callV1 (As := [.int (xs (x4 + 1).toNatClampNeg), .int (xs (x4 + 2).toNatClampNeg)]) hC hW 0 wC_c0 rfl (c_X8_needs l D cy ad _ n S (xs (x4 + 1).toNatClampNeg) (xs (x4 + 2).toNatClampNeg) r hc) (cwV 2 hts (gl_V w_24_19 w_24_16 w_24_17 w_24_18 w_1_2) rfl rfl rfl (by decide +kernel) ⟨Nat.le_of_ble_eq_true rfl, Nat.le_of_ble_eq_true rfl⟩) rfl hl.1 rfl (Nat.le_of_ble_eq_true rfl) ⟨(show kc oF oP i ≤ 601024 by have := kc_le (oF := oF) (oP := oP) hi; omega), (show ks oF oP i ≤ 7293034 by have := ks_le (oF := oF) (oP := oP) hi; omega)⟩ dL_law_697 (fun H locs hW => ?_)
  have hW : Wd D cy (fun q => s.heap.size ≤ q) s (WLw ad br cy o S oF oP T v) H locs := hW
  refine lv_aload_n hx hb dL_law_700 rfl (lv_at hl 2 rfl) ?_
  refine lv_aload_n hx hb dL_law_701 rfl (lv_at hl 0 rfl) ?_
  refine lv_iload hx hb dL_law_702 (lv_at hl 4 rfl) ?_
  refine lv_iconst (v := 1) hx hb dL_law_704 (by decide) ?_
  refine lv_iadd hx hb dL_law_705 ?_
  refine va_sld hx hb hXs hbl hbA hW.2.2.2.1 h1 dL_law_706 ?_
  refine lv_aload_n hx hb dL_law_707 rfl (lv_at hl 0 rfl) ?_
  refine lv_iload hx hb dL_law_708 (lv_at hl 4 rfl) ?_
  refine lv_iconst (v := 2) hx hb dL_law_710 (by decide) ?_
  refine lv_iadd hx hb dL_law_711 ?_
  refine va_sld hx hb hXs hbl hbA hW.2.2.2.1 h2 dL_law_712 ?_
  have hW := Wd.toR hW
  refine wd_callV1 (As := [.int (xs (x4 + 1).toNatClampNeg), .int (xs (x4 + 2).toNatClampNeg)]) hC hW 0 wR_c0 rfl (c_X9_needs l D cy br _ n T (xs (x4 + 1).toNatClampNeg) (xs (x4 + 2).toNatClampNeg) (r, T') hrf) (cwV 2 hts (gl_V w_25_4 w_25_1 w_25_2 w_25_3 w_1_5) rfl rfl rfl (by decide +kernel) ⟨Nat.le_of_ble_eq_true rfl, Nat.le_of_ble_eq_true rfl⟩) rfl hl.1 rfl (Nat.le_of_ble_eq_true rfl) ⟨(show kc oF oP i ≤ 601024 by have := kc_le (oF := oF) (oP := oP) hi; omega), (show ks oF oP i ≤ 7293034 by have := ks_le (oF := oF) (oP := oP) hi; omega)⟩ dL_law_713 (fun H locs hW => ?_)
  have hW := Wd.ofR hW
  refine lv_icmp_eq (tgt := 1422) hx hb dL_law_716 (by decide) (fun _ => ?_) (fun c9 => absurd rfl c9)
  refine W.widen (k := kc oF oP (i + 1)) (n := ks oF oP (i + 1)) kc_s ks_s ?_
  exact K ad S oF oP T' v _ _ _ hW hl hrel
set_option maxHeartbeats 4000000 in
set_option maxRecDepth 100000 in
theorem law_17 {p : Program} {l : Launch} {e : Env} {s : State} {m : MethodId} {below : List Frame} {meth : Method} {c : Code} {b L : Nat} {xs : Nat → Int32} {D : va_G} {cy : Nat → ClassId} {Q : State → Prop} {n : Nat} {Rel : St → Option St → Option St → St → Prop} {br : Nat → Nat} {o i : Nat} {x4 : Int32} (htr : l.stackTraces = false) (hX : LX p s m c b L xs) (HB : HB_17 n Rel) (hi : i ≤ 512) (h1 : vp_in (x4 + 1) L) (h2 : vp_in (x4 + 2) L) (h3 : vp_in (x4 + 3) L) (h4 : vp_in (x4 + 4) L) (K : LK p l e s m below meth c b D cy Q Rel br o i x4) {ad : Nat → Nat} {S : St} {oF oP : Option St} {T : St} {v : Nat → Int64} {H : Heap} {locs : List Loc} {ls : Array Slot} (hRel : Rel S oF oP T) (hW : Wd D cy (fun q => s.heap.size ≤ q) s (WLw ad br cy o S oF oP T v) H locs) (hl : lv_has ls 8 [(0, .ref b), (1, .ref (ad 0)), (2, .ref (br 0)), (3, .ref o), (4, .int x4)]) : W p l e room_1 s m #[Value.ref b] below meth c H locs (kc oF oP i) (ks oF oP i) Q (F0 m 721 ls []) := by
  obtain ⟨hC, hXs, hbl, hE, hZ⟩ := hX
  have hx := hC.1
  have hb := hC.2.1
  have hts := hC.2.2.2.2
  have hbA : ¬ (fun q : Nat => s.heap.size ≤ q) b := Nat.not_le.mpr hbl
  refine lv_aload_n hx hb dL_law_721 rfl (lv_at hl 1 rfl) ?_
  refine lv_aload_n hx hb dL_law_722 rfl (lv_at hl 0 rfl) ?_
  refine lv_iload hx hb dL_law_723 (lv_at hl 4 rfl) ?_
  refine lv_iconst (v := 1) hx hb dL_law_725 (by decide) ?_
  refine lv_iadd hx hb dL_law_726 ?_
  refine va_sld hx hb hXs hbl hbA hW.2.2.2.1 h1 dL_law_727 ?_
  obtain ⟨r, S', T', hc, hrf, hrel⟩ := HB S oF oP T (xs (x4 + 1).toNatClampNeg) hRel
  refine wd_callV1 (As := [.int (xs (x4 + 1).toNatClampNeg)]) hC hW 0 wC_c0 rfl (c_X8_mass l D cy ad _ n S (xs (x4 + 1).toNatClampNeg) (r, S') hc) (cwV 1 hts (gl_V w_25_8 w_25_5 w_25_6 w_25_7 w_1_2) rfl rfl rfl (by decide +kernel) ⟨Nat.le_of_ble_eq_true rfl, Nat.le_of_ble_eq_true rfl⟩) rfl hl.1 rfl (Nat.le_of_ble_eq_true rfl) ⟨(show kc oF oP i ≤ 601024 by have := kc_le (oF := oF) (oP := oP) hi; omega), (show ks oF oP i ≤ 7293034 by have := ks_le (oF := oF) (oP := oP) hi; omega)⟩ dL_law_728 (fun H locs hW => ?_)
  have hW : Wd D cy (fun q => s.heap.size ≤ q) s (WLw ad br cy o S' oF oP T v) H locs := hW
  refine lv_aload_n hx hb dL_law_731 rfl (lv_at hl 2 rfl) ?_
  refine lv_aload_n hx hb dL_law_732 rfl (lv_at hl 0 rfl) ?_
  refine lv_iload hx hb dL_law_733 (lv_at hl 4 rfl) ?_
  refine lv_iconst (v := 1) hx hb dL_law_735 (by decide) ?_
  refine lv_iadd hx hb dL_law_736 ?_
  refine va_sld hx hb hXs hbl hbA hW.2.2.2.1 h1 dL_law_737 ?_
  have hW := Wd.toR hW
  refine wd_callV1 (As := [.int (xs (x4 + 1).toNatClampNeg)]) hC hW 0 wR_c0 rfl (c_X9_mass l D cy br _ n T (xs (x4 + 1).toNatClampNeg) (r, T') hrf) (cwV 1 hts (gl_V w_28_3 w_28_0 w_28_1 w_28_2 w_1_5) rfl rfl rfl (by decide +kernel) ⟨Nat.le_of_ble_eq_true rfl, Nat.le_of_ble_eq_true rfl⟩) rfl hl.1 rfl (Nat.le_of_ble_eq_true rfl) ⟨(show kc oF oP i ≤ 601024 by have := kc_le (oF := oF) (oP := oP) hi; omega), (show ks oF oP i ≤ 7293034 by have := ks_le (oF := oF) (oP := oP) hi; omega)⟩ dL_law_738 (fun H locs hW => ?_)
  have hW := Wd.ofR hW
  refine lv_icmp_eq (tgt := 1422) hx hb dL_law_741 (by decide) (fun _ => ?_) (fun c9 => absurd rfl c9)
  refine W.widen (k := kc oF oP (i + 1)) (n := ks oF oP (i + 1)) kc_s ks_s ?_
  exact K ad S' oF oP T' v _ _ _ hW hl hrel
