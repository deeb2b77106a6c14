/-! ===== the law ===== -/
def oWF (ad : Nat → Nat) (cy : Nat → ClassId) : Option St → va_W
  | none => []
  | some F => wF ad cy F
def oWP (ad : Nat → Nat) (cy : Nat → ClassId) : Option St → va_W
  | none => []
  | some P => wP ad cy P
abbrev WO (o : Nat) (cy : Nat → ClassId) (v : Nat → Int64) : va_W := [(o, .inl (cy 1, 1, .inr (.inl v)))]
abbrev WLw (ad br : Nat → Nat) (cy : Nat → ClassId) (o : Nat) (S : St) (oF oP : Option St) (T : St) (v : Nat → Int64) : va_W := wC ad cy S ++ (oWF ad cy oF ++ (oWP ad cy oP ++ (WO o cy v ++ wR br cy T)))
def kc (oF oP : Option St) (i : Nat) : Nat := 200 + (if oF.isSome then 22 else 0) + (if oP.isSome then 9 else 0) + i
def ks (oF oP : Option St) (i : Nat) : Nat := 70000 + (if oF.isSome then 3306 else 0) + (if oP.isSome then 21992 else 0) + 6 * i
theorem kc_le {oF oP : Option St} {i : Nat} (hi : i ≤ 512) : kc oF oP i + 40 ≤ 601024 := by
  unfold kc
  split <;> split <;> omega
theorem ks_le {oF oP : Option St} {i : Nat} (hi : i ≤ 512) : ks oF oP i + 30000 ≤ 7293034 := by
  unfold ks
  split <;> split <;> omega
theorem kc_s {oF oP : Option St} {i : Nat} : kc oF oP i ≤ kc oF oP (i + 1) := by unfold kc; omega
theorem ks_s {oF oP : Option St} {i : Nat} : ks oF oP i ≤ ks oF oP (i + 1) := by unfold ks; omega
theorem kc_F {oP : Option St} {F : St} {i : Nat} : kc none oP i + 22 ≤ kc (some F) oP (i + 1) := by unfold kc; simp; omega
theorem ks_F {oP : Option St} {F : St} {i : Nat} : ks none oP i + 3306 ≤ ks (some F) oP (i + 1) := by unfold ks; simp; omega
theorem kc_P {oF : Option St} {P : St} {i : Nat} : kc oF none i + 9 ≤ kc oF (some P) (i + 1) := by unfold kc; simp; omega
theorem ks_P {oF : Option St} {P : St} {i : Nat} : ks oF none i + 21992 ≤ ks oF (some P) (i + 1) := by unfold ks; simp; omega
theorem kc_1 {oF oP : Option St} {i : Nat} : kc oF oP i + 1 ≤ kc oF oP (i + 1) := by unfold kc; omega
theorem ks_6 {oF oP : Option St} {i : Nat} : ks oF oP i + 6 ≤ ks oF oP (i + 1) := by unfold ks; omega
section LB
variable {D : va_G} {cy : Nat → ClassId} {A : Nat → Prop} {s : State} {H : Heap} {locs : List Loc} {a f q o r z : va_W}
theorem Wd.cast (h : Wd D cy A s a H locs) (e : a = q) : Wd D cy A s q H locs := e ▸ h
theorem Wd.toR (h : Wd D cy A s (a ++ (f ++ (q ++ (o ++ r)))) H locs) : Wd D cy A s (r ++ (a ++ (f ++ (q ++ o)))) H locs := Wd.swap (a := []) (b := a ++ (f ++ (q ++ o))) (c := r) (h.cast (by simp))
theorem Wd.ofR (h : Wd D cy A s (r ++ (a ++ (f ++ (q ++ o)))) H locs) : Wd D cy A s (a ++ (f ++ (q ++ (o ++ r)))) H locs := (Wd.swap (a := []) (b := r) (c := a ++ (f ++ (q ++ o))) h).cast (by simp)
theorem Wd.toP (h : Wd D cy A s (a ++ (f ++ (q ++ z))) H locs) : Wd D cy A s (a ++ (q ++ (z ++ f))) H locs := (Wd.swap (a := a) (b := f) (c := q ++ z) (h.cast (by simp))).cast (by simp)
theorem Wd.ofP (h : Wd D cy A s (a ++ (q ++ (z ++ f))) H locs) : Wd D cy A s (a ++ (f ++ (q ++ z))) H locs := (Wd.swap (a := a) (b := q ++ z) (c := f) (h.cast (by simp))).cast (by simp)
theorem Wd.toO (h : Wd D cy A s (a ++ (f ++ (q ++ (o ++ r)))) H locs) : Wd D cy A s (a ++ (o ++ (r ++ (f ++ q)))) H locs := (Wd.swap (a := a) (b := f ++ q) (c := o ++ r) (h.cast (by simp))).cast (by simp)
theorem Wd.ofO (h : Wd D cy A s (a ++ (o ++ (r ++ (f ++ q)))) H locs) : Wd D cy A s (a ++ (f ++ (q ++ (o ++ r)))) H locs := (Wd.swap (a := a) (b := o ++ r) (c := f ++ q) (h.cast (by simp))).cast (by simp)
end LB
theorem wd_adFP {D : va_G} {cy : Nat → ClassId} {A : Nat → Prop} {s : State} {H : Heap} {locs : List Loc} {ad ad2 : Nat → Nat} {S F : St} {Z : va_W} {qs : List Nat} (hW : Wd D cy A s (wC ad2 cy S ++ (wF ad cy F ++ Z)) H locs) : Wd D cy A s (wC ad2 cy S ++ (wF (adU ad 81 90 qs) cy F ++ Z)) H locs := by
  have hW := Wd.cellE (q0 := 60) (x' := (9, .inr (.inr (.inr (.inr (fun i => some (adU ad 81 90 qs (61 + i)))))))) rfl (cell_q _ _ (fun j hj => match j, hj with | 0, _ => rfl | 1, _ => rfl | 2, _ => rfl | 3, _ => rfl | 4, _ => rfl | 5, _ => rfl | 6, _ => rfl | 7, _ => rfl | 8, _ => rfl | k + 9, h => absurd h (by omega))) hW
  have hW := Wd.cellE (q0 := 71) (x' := (4, .inr (.inr (.inr (.inr (fun i => some (adU ad 81 90 qs (72 + i)))))))) rfl (cell_q _ _ (fun j hj => match j, hj with | 0, _ => rfl | 1, _ => rfl | 2, _ => rfl | 3, _ => rfl | k + 4, h => absurd h (by omega))) hW
  exact hW
theorem gl_V {z : MethodName} {cz : ByteArray} {nz idx : Nat} {rz : Option FieldType} {own C : String} (h : Cond.code z cz nz rz ∈ wsL_law0) (h1 : Cond.methodLink own idx z ∈ wsL_law0) (h2 : Cond.instanceMethod z ∈ wsL_law0) (h3 : Cond.selects C z z ∈ wsL_law0) (h4 : Cond.initialized C ∈ wsL_law0) : GoodIn wsL_law (wsV own idx C z (wu z cz nz rz)) := fun w hw => by
  have hm : w ∈ wsL_law0 := by
    rcases List.mem_append.mp hw with hw | hw
    · simp only [List.mem_cons, List.not_mem_nil, or_false] at hw
      rcases hw with rfl | rfl | rfl | rfl
      · exact h1
      · exact h2
      · exact h3
      · exact h4
    · rcases List.mem_cons.mp hw with rfl | hw
      · exact h
      · exact hw
  exact ⟨in_law hm, gu_1 hm⟩
theorem gl_N {z : MethodName} {cz : ByteArray} {nz : Nat} {rz : Option FieldType} (h : Cond.code z cz nz rz ∈ wsL_law0) : GoodIn wsL_law (wu z cz nz rz) := fun w hw => by
  have hm : w ∈ wsL_law0 := by
    rcases List.mem_cons.mp hw with rfl | hw
    · exact h
    · exact hw
  exact ⟨in_law hm, gu_1 hm⟩
theorem gl_row (h1 : Cond.methodLink RL 167 yL_row ∈ wsL_law0) (h2 : Cond.static yL_row ∈ wsL_law0) (h3 : Cond.initialized RL ∈ wsL_law0) (h : Cond.codeWith yL_row cL_row 4 (some .int) [(0, 8, 11, 13)] ∈ wsL_law0) : GoodIn wsL_law (va_wsS RL 167 yL_row wx_lrow) := fun w hw => by
  have hm : w ∈ wsL_law := by
    rcases List.mem_append.mp hw with hw | hw
    · simp only [List.mem_cons, List.not_mem_nil, or_false] at hw
      rcases hw with rfl | rfl | rfl
      · exact in_law h1
      · exact in_law h2
      · exact in_law h3
    · rcases List.mem_cons.mp hw with rfl | hw
      · exact in_law h
      · exact hw
  exact ⟨hm, gl_1 hm⟩
/-- what the law stands on -/
def LX (p : Program) (s : State) (m : MethodId) (c : Code) (b L : Nat) (xs : Nat → Int32) : Prop := CallFix p m c cL_law 8 s #[Value.ref b] wsL_law RL ∧ va_X b L xs s s.heap ∧ b < s.heap.size ∧ EX s ∧ ZZ (fun q => s.heap.size ≤ q) s s.heap
/-- behind a call of the script, at 1422 -/
def LK (p : Program) (l : Launch) (e : Env) (s : State) (m : MethodId) (below : List Frame) (meth : Method) (c : Code) (b : Nat) (D : va_G) (cy : Nat → ClassId) (Q : State → Prop) (Rel : St → Option St → Option St → St → Prop) (br : Nat → Nat) (o i : Nat) (x4 : Int32) : Prop :=
  ∀ (ad : Nat → Nat) (S : St) (oF oP : Option St) (T : St) (v : Nat → Int64) (H : Heap) (locs : List Loc) (ls : Array Slot), Wd D cy (fun q => s.heap.size ≤ q) s (WLw ad br cy o S oF oP T v) H locs → lv_has ls 8 [(0, .ref b), (1, .ref (ad 0)), (2, .ref (br 0)), (3, .ref o), (4, .int x4)] → Rel S oF oP T → W p l e room_1 s m #[Value.ref b] below meth c H locs (kc oF oP (i + 1)) (ks oF oP (i + 1)) Q (F0 m 1422 ls [])

def HB_0 (n : Nat) (Rel : St → Option St → Option St → St → Prop) : Prop := ∀ (S : St) (oF oP : Option St) (T : St) (a1 : Int32) , Rel S oF oP T → ∃ (r : Int32) (S' : St) (T' : St), m_X8_sign n S a1 = some (r, S') ∧ m_X9_sign n T a1 = some (r, T') ∧ Rel S' oF oP T'
def HB_1 (_ : Nat) (Rel : St → Option St → Option St → St → Prop) : Prop := ∀ (S : St) (oF oP : Option St) (T : St) (a1 : Int32) , Rel S oF oP T → ∃ (r : Int32) (S' : St) (T' : St), m_X8_end S a1 = some (r, S') ∧ m_X9_end T a1 = some (r, T') ∧ Rel S' oF oP T'
def HB_2 (n : Nat) (Rel : St → Option St → Option St → St → Prop) : Prop := ∀ (S : St) (oF oP : Option St) (T : St) , Rel S oF oP T → ∃ (r : Int32) (S' : St) (T' : St), m_X8_enters n S = some (r, S') ∧ m_X9_enters n T = some (r, T') ∧ Rel S' oF oP T'
def HB_3 (n : Nat) (Rel : St → Option St → Option St → St → Prop) : Prop := ∀ (S : St) (oF oP : Option St) (T : St) , Rel S oF oP T → ∃ (r : Int32) (S' : St) (T' : St), m_X8_leaves n S = some (r, S') ∧ m_X9_leaves n T = some (r, T') ∧ Rel S' oF oP T'
def HB_4 (n : Nat) (Rel : St → Option St → Option St → St → Prop) : Prop := ∀ (S : St) (oF oP : Option St) (T : St) (a1 a2 a3 a4 : Int32) , Rel S oF oP T → ∃ (r : Int32) (S' : St) (T' : St), m_X8_plans n S a1 a2 a3 a4 = some (r, S') ∧ m_X9_plans n T a1 a2 a3 a4 = some (r, T') ∧ Rel S' oF oP T'
def HB_5 (_ : Nat) (Rel : St → Option St → Option St → St → Prop) : Prop := ∀ (S : St) (oF oP : Option St) (T : St) (a1 : Int32) , Rel S oF oP T → ∃ (r : Int32) (S' : St) (T' : St), m_X8_tires S a1 = some (r, S') ∧ m_X9_tires T a1 = some (r, T') ∧ Rel S' oF oP T'
def HB_6 (n : Nat) (Rel : St → Option St → Option St → St → Prop) : Prop := ∀ (S : St) (oF oP : Option St) (T : St) , Rel S oF oP T → ∃ (r : Int32) (S' : St) (T' : St), m_X8_begins n S = some (r, S') ∧ m_X9_begins n T = some (r, T') ∧ Rel S' oF oP T'
def HB_7 (n : Nat) (Rel : St → Option St → Option St → St → Prop) : Prop := ∀ (S : St) (oF oP : Option St) (T : St) (a1 a2 a3 a4 : Int32) , Rel S oF oP T → ∃ (r : Int32) (T' : St), m_X8_odds S a1 a2 a3 a4 = some r ∧ m_X9_odds n T a1 a2 a3 a4 = some (r, T') ∧ Rel S oF oP T'
def HB_8 (_ : Nat) (Rel : St → Option St → Option St → St → Prop) : Prop := ∀ (S : St) (oF oP : Option St) (T : St) (a1 a2 a3 : Int32) , Rel S oF oP T → ∃ (r : Int32) (T' : St), m_X8_lifter S a1 a2 a3 = some r ∧ m_X9_lifter T a1 a2 a3 = some (r, T') ∧ Rel S oF oP T'
def HB_9 (n : Nat) (Rel : St → Option St → Option St → St → Prop) : Prop := ∀ (S : St) (oF oP : Option St) (T : St) , Rel S oF oP T → ∃ (r : Int32) (S' : St) (T' : St), m_X8_called n S = some (r, S') ∧ m_X9_called n T = some (r, T') ∧ Rel S' oF oP T'
def HB_10 (n : Nat) (Rel : St → Option St → Option St → St → Prop) : Prop := ∀ (S : St) (oF oP : Option St) (T : St) , Rel S oF oP T → ∃ (r : Int32) (S' : St) (T' : St), m_X8_order n S = some (r, S') ∧ m_X9_order n T = some (r, T') ∧ Rel S' oF oP T'
def HB_11 (_ : Nat) (Rel : St → Option St → Option St → St → Prop) : Prop := ∀ (S : St) (oF oP : Option St) (T : St) (a1 a2 : Int32) , Rel S oF oP T → ∃ (r : Int32) (S' : St) (T' : St), m_X8_asks S a1 a2 = some (r, S') ∧ m_X9_asks T a1 a2 = some (r, T') ∧ Rel S' oF oP T'
def HB_12 (n : Nat) (Rel : St → Option St → Option St → St → Prop) : Prop := ∀ (S : St) (oF oP : Option St) (T : St) (a1 : Int32) , Rel S oF oP T → (a1 = 0 ∨ a1 = 1) → ∃ (r : Int32) (S' : St) (T' : St), m_X8_tries n S a1 = some (r, S') ∧ m_X9_tries n T a1 = some (r, T') ∧ Rel S' oF oP T'
def HB_13 (_ : Nat) (Rel : St → Option St → Option St → St → Prop) : Prop := ∀ (S : St) (oF oP : Option St) (T : St) (a1 a2 : Int32) , Rel S oF oP T → ∃ (r : Int32) (T' : St), m_X8_tried S a1 a2 = some r ∧ m_X9_tried T a1 a2 = some (r, T') ∧ Rel S oF oP T'
def HB_14 (n : Nat) (Rel : St → Option St → Option St → St → Prop) : Prop := ∀ (S : St) (oF oP : Option St) (T : St) (a1 : Int32) , Rel S oF oP T → ∃ (r : Int32) (S' : St) (T' : St), m_X8_place n S a1 = some (r, S') ∧ m_X9_place n T a1 = some (r, T') ∧ Rel S' oF oP T'
def HB_15 (n : Nat) (Rel : St → Option St → Option St → St → Prop) : Prop := ∀ (S : St) (oF oP : Option St) (T : St) (a1 a2 : Int32) , Rel S oF oP T → ∃ (r : Int32) (T' : St), m_X8_slot n S a1 a2 = some r ∧ m_X9_slot n T a1 a2 = some (r, T') ∧ Rel S oF oP T'
def HB_16 (n : Nat) (Rel : St → Option St → Option St → St → Prop) : Prop := ∀ (S : St) (oF oP : Option St) (T : St) (a1 a2 : Int32) , Rel S oF oP T → ∃ (r : Int32) (T' : St), m_X8_needs n S a1 a2 = some r ∧ m_X9_needs n T a1 a2 = some (r, T') ∧ Rel S oF oP T'
def HB_17 (n : Nat) (Rel : St → Option St → Option St → St → Prop) : Prop := ∀ (S : St) (oF oP : Option St) (T : St) (a1 : Int32) , Rel S oF oP T → ∃ (r : Int32) (S' : St) (T' : St), m_X8_mass n S a1 = some (r, S') ∧ m_X9_mass n T a1 = some (r, T') ∧ Rel S' oF oP T'
def HB_18 (n : Nat) (Rel : St → Option St → Option St → St → Prop) : Prop := ∀ (S : St) (oF oP : Option St) (T : St) (a1 a2 : Int32) , Rel S oF oP T → ∃ (r : Int32) (S' : St) (T' : St), m_X8_chance n S a1 a2 = some (r, S') ∧ m_X9_chance n T a1 a2 = some (r, T') ∧ Rel S' oF oP T'
def HB_19 (n : Nat) (Rel : St → Option St → Option St → St → Prop) : Prop := ∀ (S : St) (oF oP : Option St) (T : St) (a1 : Int32) , Rel S oF oP T → ∃ (r : Int32) (S' : St) (T' : St), m_X8_likeliest n S a1 = some (r, S') ∧ m_X9_likeliest n T a1 = some (r, T') ∧ Rel S' oF oP T'
def HB_20 (n : Nat) (Rel : St → Option St → Option St → St → Prop) : Prop := ∀ (S : St) (oF oP : Option St) (T : St) (a1 a2 : Int32) , Rel S oF oP T → ∃ (r : Int32) (S' : St) (T' : St), m_X8_beats n S a1 a2 = some (r, S') ∧ m_X9_beats n T a1 a2 = some (r, T') ∧ Rel S' oF oP T'
def HB_21 (n : Nat) (Rel : St → Option St → Option St → St → Prop) : Prop := ∀ (S : St) (oF oP : Option St) (T : St) (a1 : Int32) , Rel S oF oP T → ∃ (r : Int32) (S' : St) (T' : St), m_X8_wins n S a1 = some (r, S') ∧ m_X9_wins n T a1 = some (r, T') ∧ Rel S' oF oP T'
def HB_22 (n : Nat) (Rel : St → Option St → Option St → St → Prop) : Prop := ∀ (S : St) (oF oP : Option St) (T : St) (a1 : Int32) , Rel S oF oP T → ∃ (r : Int32) (S' : St) (T' : St), m_X8_bombs n S a1 = some (r, S') ∧ m_X9_bombs n T a1 = some (r, T') ∧ Rel S' oF oP T'
def HB_23 (n : Nat) (Rel : St → Option St → Option St → St → Prop) : Prop := ∀ (S : St) (oF oP : Option St) (T : St) (a1 a2 a3 : Int32) , Rel S oF oP T → ∃ (r : Int32) (T' : St), m_X8_opener n S a1 a2 a3 = some r ∧ m_X9_opener n T a1 a2 a3 = some (r, T') ∧ Rel S oF oP T'
def HB_24 (n : Nat) (Rel : St → Option St → Option St → St → Prop) : Prop := ∀ (S : St) (oF oP : Option St) (T : St) (a1 : Int32) , Rel S oF oP T → ∃ (r : Int32) (S' : St) (oF' : Option St) (T' : St), ((∃ F F', oF = some F ∧ oF' = some F' ∧ m_X8_heavy n S F a1 = some (r, S', F')) ∨ (oF = none ∧ oF' = none ∧ m_X8_heavyN n S a1 = some (r, S')) ∨ (∃ F', oF = none ∧ oF' = some F' ∧ m_X8_heavyB n S a1 = some (r, S', some F'))) ∧ m_X9_heavy n T a1 = some (r, T') ∧ Rel S' oF' oP T'
def HB_25 (n : Nat) (Rel : St → Option St → Option St → St → Prop) : Prop := ∀ (S : St) (oF oP : Option St) (T : St) (a1 a2 : Int32) , Rel S oF oP T → ∃ (r : Int32) (S' : St) (oF' : Option St) (T' : St), ((∃ F F', oF = some F ∧ oF' = some F' ∧ m_X8_reach n S F a1 a2 = some (r, S', F')) ∨ (oF = none ∧ oF' = none ∧ m_X8_reachN n S a1 a2 = some (r, S')) ∨ (∃ F', oF = none ∧ oF' = some F' ∧ m_X8_reachB n S a1 a2 = some (r, S', some F'))) ∧ m_X9_reach n T a1 a2 = some (r, T') ∧ Rel S' oF' oP T'
def HB_26 (n : Nat) (Rel : St → Option St → Option St → St → Prop) : Prop := ∀ (S : St) (oF oP : Option St) (T : St) (a1 a2 : Int32) , Rel S oF oP T → ∃ (r : Int32) (S' : St) (oF' : Option St) (T' : St), ((∃ F F', oF = some F ∧ oF' = some F' ∧ m_X8_aim n S F a1 a2 = some (r, S', F')) ∨ (oF = none ∧ oF' = none ∧ m_X8_aimN S a1 a2 = some (r, S')) ∨ (∃ F', oF = none ∧ oF' = some F' ∧ m_X8_aimB n S a1 a2 = some (r, S', some F'))) ∧ m_X9_aim n T a1 a2 = some (r, T') ∧ Rel S' oF' oP T'
def HB_27 (n : Nat) (Rel : St → Option St → Option St → St → Prop) : Prop := ∀ (S : St) (oF oP : Option St) (T : St) (a1 a2 : Int32) , Rel S oF oP T → ∃ (r : Int32) (S' : St) (oF' : Option St) (T' : St), ((∃ F F', oF = some F ∧ oF' = some F' ∧ m_X8_against n S F a1 a2 = some (r, S', F')) ∨ (oF = none ∧ oF' = none ∧ m_X8_againstN n S a1 a2 = some (r, S')) ∨ (∃ F', oF = none ∧ oF' = some F' ∧ m_X8_againstB n S a1 a2 = some (r, S', some F'))) ∧ m_X9_against n T a1 a2 = some (r, T') ∧ Rel S' oF' oP T'
def HB_28 (n : Nat) (Rel : St → Option St → Option St → St → Prop) : Prop := ∀ (S : St) (oF oP : Option St) (T : St) (a1 : Int32) , Rel S oF oP T → ∃ (r : Int32) (S' : St) (oF' : Option St) (T' : St), ((∃ F F', oF = some F ∧ oF' = some F' ∧ m_X8_gold n S F a1 = some (r, S', F')) ∨ (oF = none ∧ oF' = none ∧ m_X8_goldN n S a1 = some (r, S')) ∨ (∃ F', oF = none ∧ oF' = some F' ∧ m_X8_goldB n S a1 = some (r, S', some F'))) ∧ m_X9_gold n T a1 = some (r, T') ∧ Rel S' oF' oP T'
def HB_29 (n : Nat) (Rel : St → Option St → Option St → St → Prop) : Prop := ∀ (S : St) (oF oP : Option St) (T : St) (a1 a2 a3 : Int32) , Rel S oF oP T → (a3 = 0 ∨ a3 = 1) → ∃ (r : Int32) (S' : St) (oF' : Option St) (T' : St), ((∃ F F', oF = some F ∧ oF' = some F' ∧ m_X8_line n S F a1 a2 a3 = some (r, S', F')) ∨ (oF = none ∧ oF' = none ∧ m_X8_lineN n S a1 a2 a3 = some (r, S')) ∨ (∃ F', oF = none ∧ oF' = some F' ∧ m_X8_lineB n S a1 a2 a3 = some (r, S', some F'))) ∧ m_X9_line n T a1 a2 a3 = some (r, T') ∧ Rel S' oF' oP T'
def HB_30 (n : Nat) (Rel : St → Option St → Option St → St → Prop) : Prop := ∀ (S : St) (oF oP : Option St) (T : St) (a1 a2 : Int32) , Rel S oF oP T → ∃ (r : Int32) (S' : St) (oP' : Option St) (T' : St), ((∃ P P', oP = some P ∧ oP' = some P' ∧ m_X8_duel n S P a1 a2 = some (r, S', P')) ∨ (oP = none ∧ oP' = none ∧ m_X8_duelN S a1 a2 = some (r, S')) ∨ (∃ P', oP = none ∧ oP' = some P' ∧ m_X8_duelB n S a1 a2 = some (r, S', some P'))) ∧ m_X9_duel n T a1 a2 = some (r, T') ∧ Rel S' oF oP' T'
def HB_31 (n : Nat) (Rel : St → Option St → Option St → St → Prop) : Prop := ∀ (S : St) (oF oP : Option St) (T : St) (a1 a2 a3 a4 : Int32) , Rel S oF oP T → ∃ (r : Int32) (S' : St) (oP' : Option St) (T' : St), ((∃ P P', oP = some P ∧ oP' = some P' ∧ m_X8_bluff n S P a1 a2 a3 a4 = some (r, S', P')) ∨ (oP = none ∧ oP' = none ∧ m_X8_bluffN S a1 a2 a3 a4 = some (r, S')) ∨ (∃ P', oP = none ∧ oP' = some P' ∧ m_X8_bluffB n S a1 a2 a3 a4 = some (r, S', some P'))) ∧ m_X9_bluff n T a1 a2 a3 a4 = some (r, T') ∧ Rel S' oF oP' T'
def HB_32 (n : Nat) (Rel : St → Option St → Option St → St → Prop) : Prop := ∀ (S : St) (oF oP : Option St) (T : St) (a1 : Int32) , Rel S oF oP T → ∃ (r : Int32) (S' : St) (T' : St), m_X8_plays n S a1 = some (r, S') ∧ m_X9_plays n T a1 = some (r, T') ∧ Rel S' oF oP T'
def HB_33 (n : Nat) (Rel : St → Option St → Option St → St → Prop) : Prop := ∀ (S : St) (oF oP : Option St) (T : St) (a1 a2 a3 : Int32) , Rel S oF oP T → ∃ (r : Int32) (S' : St) (T' : St), m_X8_often n S a1 a2 a3 = some (r, S') ∧ m_X9_often n T a1 a2 a3 = some (r, T') ∧ Rel S' oF oP T'
def HB_34 (n : Nat) (Rel : St → Option St → Option St → St → Prop) : Prop := ∀ (S : St) (oF oP : Option St) (T : St) (a1 : Int32) , Rel S oF oP T → ∃ (r : Int32) (T' : St), m_X8_count n S a1 = some r ∧ m_X9_count n T a1 = some (r, T') ∧ Rel S oF oP T'
def HB_35 (_ : Nat) (Rel : St → Option St → Option St → St → Prop) : Prop := ∀ (S : St) (oF oP : Option St) (T : St) (a1 : Int32), Rel S oF oP T → ∃ (q : Int64) (T' : St) (k : Int32), m_X9_row T a1 = some (q, T') ∧ m_X9_thrown T' = some k ∧ Rel S oF oP T' ∧ ((k = 0 ∧ m_X8_rowN S a1 = some (q, S)) ∨ (k = 1 ∧ (a1 < 0 ∨ S.1 0 ≤ a1 ∨ 9 ≤ a1)))
