/-! THE STORE. A code names a cell: 0 the model, 1 to 16 its rows; 17 the system, 18 to 28 its rows, past, memories; 29 and 37 two coasts; 45 + 3 j the pots j (0 now, 1 trial, 2 start, 3 and 4 kept, 5 to 18 the past's). -/
abbrev St : Type := Nat → Nat → Nat
abbrev Bk : Type := (Nat → Nat) × (Nat → ClassId) × va_G
def pt (σ : St) (k i x : Nat) : St := fun k' i' => if k' = k ∧ i' = i then x else σ k' i'
def kdL : List (Nat × Nat) := [(8, 0), (0, 4), (0, 6), (0, 6), (0, 6), (0, 5), (0, 64), (0, 4), (0, 18), (0, 10), (0, 48), (0, 448), (0, 6), (0, 6), (0, 6), (1, 2), (0, 64), (7, 0), (0, 48), (0, 64), (0, 36), (0, 36), (2, 2), (5, 0), (2, 14), (4, 0), (0, 6), (0, 6), (0, 6), (3, 0), (0, 4), (0, 6), (0, 6), (0, 6), (0, 5), (0, 5), (0, 12), (3, 0), (0, 4), (0, 6), (0, 6), (0, 6), (0, 5), (0, 5), (0, 12), (6, 0), (0, 5), (0, 25), (6, 0), (0, 5), (0, 25), (6, 0), (0, 5), (0, 25), (6, 0), (0, 5), (0, 25), (6, 0), (0, 5), (0, 25), (6, 0), (0, 5), (0, 25), (6, 0), (0, 5), (0, 25), (6, 0), (0, 5), (0, 25), (6, 0), (0, 5), (0, 25), (6, 0), (0, 5), (0, 25), (6, 0), (0, 5), (0, 25), (6, 0), (0, 5), (0, 25), (6, 0), (0, 5), (0, 25), (6, 0), (0, 5), (0, 25), (6, 0), (0, 5), (0, 25), (6, 0), (0, 5), (0, 25), (6, 0), (0, 5), (0, 25), (6, 0), (0, 5), (0, 25), (6, 0), (0, 5), (0, 25)]
def kd (k : Nat) : Nat × Nat := kdL.getD k (0, 0)
def rT (k i : Nat) : Nat := if k = 22 then 54 + 3 * i else 60 + 3 * i
def fs0 (B : Bk) (σ : St) (k : Nat) : List Value := [.ref (B.1 (k + 1)), .ref (B.1 (k + 2)), .ref (B.1 (k + 3)), .ref (B.1 (k + 4)), .ref (B.1 (k + 5)), .ref (B.1 (k + 6)), .ref (B.1 (k + 7)), .int (nI (σ k 7)), .int (nI (σ k 8)), .int (nI (σ k 9)), .int (nI (σ k 10))]
def fs1 (B : Bk) (σ : St) (k : Nat) : List Value := [.ref (B.1 26), .ref (B.1 27), .ref (B.1 28), .int (nI (σ k 3))]
def fs2 (B : Bk) (σ : St) (k : Nat) : List Value := [.ref (B.1 24), .int (nI (σ k 1)), .int (nI (σ k 2))]
def fs3 (B : Bk) (σ : St) (k : Nat) : List Value := [.ref (B.1 (k + 1)), .ref (B.1 (k + 2)), .int (nI (σ k 2)), .int (nI (σ k 3))]
def fs4 (B : Bk) (σ : St) (k : Nat) : List Value := [.ref (B.1 18), .int (nI (σ k 1)), .ref (B.1 (σ k 2)), .ref (B.1 (σ k 3)), .ref (B.1 45), .ref (B.1 48), .ref (B.1 51), .ref (B.1 23), .ref (B.1 22), .int (nI (σ k 9)), .ref (B.1 25), .long (lN (σ k 11)), .ref (B.1 19), .ref (B.1 20), .ref (B.1 21)]
def fs5 (B : Bk) (σ : St) (k : Nat) : List Value := [.int (nI (σ k 0)), .int (nI (σ k 1)), .int (nI (σ k 2)), .ref (B.1 1), .ref (B.1 2), .ref (B.1 3), .ref (B.1 4), .ref (B.1 5), .ref (B.1 6), .ref (B.1 7), .ref (B.1 8), .ref (B.1 9), .int (nI (σ k 12)), .int (nI (σ k 13)), .int (nI (σ k 14)), .int (nI (σ k 15)), .ref (B.1 10), .int (nI (σ k 17)), .int (nI (σ k 18)), .int (nI (σ k 19)), .int (nI (σ k 20)), .int (nI (σ k 21)), .int (nI (σ k 22)), .ref (B.1 11), .int (nI (σ k 24)), .ref (B.1 12), .ref (B.1 13), .ref (B.1 14), .long (lN (σ k 28)), .ref (B.1 15), .ref (B.1 16)]
def cellE (B : Bk) (σ : St) (k : Nat) : va_E := match (kd k).1 with
  | 0 => .inl (B.2.1 k, (kd k).2, .inl (fun i => nI (σ k i)))
  | 1 => .inl (B.2.1 k, (kd k).2, .inl (fun i => nI (σ k i)))
  | 2 => .inl (B.2.1 k, (kd k).2, .inr (.inr (.inr (.inr (fun i => some (B.1 (rT k i)))))))
  | 3 => .inr (0, fs0 B σ k)
  | 4 => .inr (1, fs1 B σ k)
  | 5 => .inr (2, fs2 B σ k)
  | 6 => .inr (3, fs3 B σ k)
  | 7 => .inr (4, fs4 B σ k)
  | _ => .inr (5, fs5 B σ k)
def tyK (k : Nat) : FieldType := match (kd k).1 with
  | 1 => .boolean
  | 2 => .object "PotSchools$Pots"
  | _ => .int
def wsOf (B : Bk) (σ : St) : va_W := (List.range 102).map fun k => (B.1 k, cellE B σ k)
def tysOf (B : Bk) : List (ClassId × FieldType) := (List.range 102).map fun k => (B.2.1 k, tyK k)
def fA (B : Bk) : Nat → Prop := fun q => ∃ k, k < 102 ∧ q = B.1 k
def gw : List Cond := lw_tbl.filter goodWord
def nestL : List Cond := [.methodLinkNest "PotSchools$Coast" 75 yX4_lay "PotSchools", .methodLinkNest "PotSchools$Coast" 46 yX4_at "PotSchools", .methodLinkNest "PotSchools$Pots" 35 yX4_lay "PotSchools", .methodLinkNest "PotSchools$Pots" 31 yX4_at "PotSchools", .methodLinkNest "PotSchools$Pots" 75 yX4_beside "PotSchools", .methodLinkNest "PotSchools$Pots" 90 yX4_gain "PotSchools", .methodLinkNest "PotSchools$Memories" 25 yX4_lay "PotSchools", .methodLinkNest "PotSchools$Memories" 29 yX4_at "PotSchools"]
def NW (U : State) : Prop := ∀ w ∈ nestL, va_Nw w U
def BI (B : Bk) : Prop := ∀ i j, i < 102 → j < 102 → B.1 i = B.1 j → i = j
def KB (B : Bk) (U : State) : Prop := va_K B.2.2 vwCl (tysOf B) U ∧ BI B ∧ NW U
def rmD (d : Nat) : Room := { frames := d, cells := 0, slots := 0, locals := 64 * d }
theorem gt_in {i : Nat} {w : Cond} (h : tables_1[i]? = some w) (g : goodWord w = true) : w ∈ gw := List.mem_filter.mpr ⟨List.mem_append_right _ (List.mem_of_getElem? h), g⟩
theorem gs_in {w : Cond} (h : w ∈ k2_sels lw_privs) (g : goodWord w = true) : w ∈ gw := List.mem_filter.mpr ⟨List.mem_append_left _ h, g⟩
theorem gw_good {w : Cond} (h : w ∈ gw) : goodWord w = true := (List.mem_filter.mp h).2
theorem kd_big {k : Nat} (h : ¬ k < 102) : kd k = (0, 0) := by
  unfold kd
  rw [List.getD_eq_getElem?_getD, List.getElem?_eq_none (by show 102 ≤ k; omega)]
  rfl
theorem kd_lt {k a n : Nat} (h : kd k = (a, n)) (hn : 0 < a + n) : k < 102 := by
  by_cases hk : k < 102
  · exact hk
  · rw [kd_big hk] at h
    cases h
    omega
theorem kd_le (k : Nat) : (kd k).2 ≤ 448 := by
  by_cases hk : k < 102
  · have : ∀ k, k < 102 → (kd k).2 ≤ 448 := by decide +kernel
    exact this k hk
  · rw [kd_big hk]; decide
theorem ws_at {B : Bk} {σ : St} {k : Nat} (h : k < 102) : (wsOf B σ)[k]? = some (B.1 k, cellE B σ k) := by
  simp [wsOf, List.getElem?_map, h]
theorem ty_at {B : Bk} {k : Nat} (h : k < 102) : (tysOf B)[k]? = some (B.2.1 k, tyK k) := by
  simp [tysOf, List.getElem?_map, h]
theorem ws_set {B : Bk} {σ τ : St} {k : Nat} {e : va_E} (he : cellE B τ k = e) (ho : ∀ j, j ≠ k → cellE B τ j = cellE B σ j) : (wsOf B σ).set k (B.1 k, e) = wsOf B τ := by
  apply List.ext_getElem?
  intro j
  rw [List.getElem?_set]
  by_cases hj : k = j
  · subst hj
    by_cases hk : k < 102
    · rw [if_pos rfl, ws_at hk, he, if_pos (by simp [wsOf, hk])]
    · rw [if_pos rfl, if_neg (by simp [wsOf]; omega), List.getElem?_eq_none (by simp [wsOf]; omega)]
  · rw [if_neg hj]
    by_cases hk : j < 102
    · rw [ws_at hk, ws_at hk, ho j (fun h => hj h.symm)]
    · rw [List.getElem?_eq_none (by simp [wsOf]; omega), List.getElem?_eq_none (by simp [wsOf]; omega)]
theorem ws_D {B : Bk} (h : BI B) (σ : St) : va_D (fA B) (wsOf B σ) := by
  have key : ∀ (i : Nat) (p : Nat × va_E), (wsOf B σ)[i]? = some p → i < 102 ∧ p.1 = B.1 i := by
    intro i p hp
    by_cases hi : i < 102
    · rw [ws_at hi] at hp
      cases hp
      exact ⟨hi, rfl⟩
    · rw [List.getElem?_eq_none (by simp [wsOf]; omega)] at hp
      cases hp
  refine ⟨fun i j p q hp hq e => ?_, fun k q hq => ?_⟩
  · obtain ⟨h1, h2⟩ := key i p hp
    obtain ⟨h3, h4⟩ := key j q hq
    exact h i j h1 h3 (by rw [← h2, ← h4, e])
  · obtain ⟨h1, h2⟩ := key k q hq
    exact ⟨k, h1, h2⟩
theorem pt_o {σ : St} {k i x j : Nat} (h : j ≠ k) : pt σ k i x j = σ j := by
  funext i'
  simp [pt, h]
theorem cellE_o {B : Bk} {σ τ : St} {j : Nat} (h : τ j = σ j) : cellE B τ j = cellE B σ j := by
  unfold cellE fs0 fs1 fs2 fs3 fs4 fs5
  rw [h]
/-- the slots of a frame: what is known of each -/
def LV (ls : Array Slot) (nL : Nat) (lv : List (Option Value)) : Prop := ls.size = nL ∧ lv_wf ls ∧ ∀ (i : Nat) (v : Value), lv[i]? = some (some v) → ls[i]? = some (.val v)
def asc (lv : List (Option Value)) : List (Nat × Value) := (List.range lv.length).filterMap (fun j => (lv.getD j none).map (fun v => (j, v)))
theorem asc_mem {lv : List (Option Value)} {i : Nat} {v : Value} : (i, v) ∈ asc lv ↔ lv[i]? = some (some v) := by
  unfold asc
  rw [List.mem_filterMap]
  constructor
  · rintro ⟨j, hj, h⟩
    rw [Option.map_eq_some_iff] at h
    obtain ⟨u, h1, h2⟩ := h
    cases h2
    rw [List.getD_eq_getElem?_getD] at h1
    cases hx : lv[i]? with
    | none => rw [hx] at h1; cases h1
    | some z => rw [hx] at h1; exact congrArg some h1
  · intro h
    refine ⟨i, List.mem_range.mpr (List.getElem?_eq_some_iff.mp h).1, ?_⟩
    rw [List.getD_eq_getElem?_getD, h]
    rfl
theorem LV.has {ls : Array Slot} {nL : Nat} {lv : List (Option Value)} (h : LV ls nL lv) : lv_has ls nL (asc lv) := ⟨h.1, h.2.1, fun q hq => h.2.2 q.1 q.2 (asc_mem.mp hq)⟩
theorem LV.of {ls : Array Slot} {nL : Nat} {lv : List (Option Value)} {l : List (Nat × Value)} (h : lv_has ls nL l) (hm : ∀ (i : Nat) (v : Value), lv[i]? = some (some v) → (i, v) ∈ l) : LV ls nL lv := ⟨h.1, h.2.1, fun i v hv => h.2.2 (i, v) (hm i v hv)⟩
def okS (lv : List (Option Value)) (i : Nat) : Bool := match i with
  | 0 => true
  | j + 1 => match lv[j]? with
    | some (some v) => v.category == 1
    | _ => true
theorem okS_ne {lv : List (Option Value)} {i j : Nat} {v : Value} (h : okS lv i = true) (hv : lv[j]? = some (some v)) (hj : j + 1 = i) : v.category = 1 := by
  subst hj
  simp only [okS, hv] at h
  exact eq_of_beq h
theorem LV.st1 {ls : Array Slot} {nL : Nat} {lv : List (Option Value)} {i : Nat} {v : Value} (h : lv_has ls nL ((i, v) :: (asc lv).filter (fun q => !(q.1 == i) && !(q.1 + 1 == i && q.2.category == 2)))) (hk : okS lv i = true) : LV ls nL (lv.set i (some v)) := by
  refine LV.of h fun j w hj => ?_
  rw [List.getElem?_set] at hj
  by_cases e : i = j
  · subst e
    rw [if_pos rfl] at hj
    split at hj
    · cases hj
      exact List.mem_cons_self
    · cases hj
  · rw [if_neg e] at hj
    refine List.mem_cons_of_mem _ (List.mem_filter.mpr ⟨asc_mem.mpr hj, ?_⟩)
    have e1 : (j == i) = false := by simp; omega
    by_cases e2 : j + 1 = i
    · have := okS_ne hk hj e2
      simp [e1, this]
    · simp [e1, e2]
theorem LV.st2 {ls : Array Slot} {nL : Nat} {lv : List (Option Value)} {i : Nat} {v : Value} (h : lv_has ls nL ((i, v) :: (asc lv).filter (fun q => !(q.1 == i) && (!(q.1 == i + 1) && !(q.1 + 1 == i && q.2.category == 2))))) (hk : okS lv i = true) : LV ls nL ((lv.set i (some v)).set (i + 1) none) := by
  refine LV.of h fun j w hj => ?_
  rw [List.getElem?_set] at hj
  by_cases e0 : i + 1 = j
  · rw [if_pos e0] at hj
    split at hj <;> cases hj
  rw [if_neg e0, List.getElem?_set] at hj
  by_cases e : i = j
  · subst e
    rw [if_pos rfl] at hj
    split at hj
    · cases hj
      exact List.mem_cons_self
    · cases hj
  · rw [if_neg e] at hj
    refine List.mem_cons_of_mem _ (List.mem_filter.mpr ⟨asc_mem.mpr hj, ?_⟩)
    have e1 : (j == i) = false := by simp; omega
    have e3 : (j == i + 1) = false := by simp; omega
    by_cases e2 : j + 1 = i
    · have := okS_ne hk hj e2
      simp [e1, e3, this]
    · simp [e1, e2, e3]
def lvOf : List Value → List (Option Value)
  | [] => []
  | v :: vs => if v.category = 2 then some v :: none :: lvOf vs else some v :: lvOf vs
theorem lvOf_args : ∀ (vs : List Value) (b i : Nat) (v : Value), (lvOf vs)[i]? = some (some v) → (b + i, v) ∈ lv_args b vs
  | [], b, i, v, h => by simp [lvOf] at h
  | u :: us, b, i, v, h => by
    unfold lvOf at h
    unfold lv_args
    by_cases hc : u.category = 2
    · rw [if_pos hc] at h ⊢
      match i, h with
      | 0, h => simp at h; subst h; exact List.mem_cons_self
      | 1, h => simp at h
      | i + 2, h =>
        have := lvOf_args us (b + 2) i v (by simpa using h)
        rw [show b + 2 + i = b + (i + 2) by omega] at this
        exact List.mem_cons_of_mem _ this
    · rw [if_neg hc] at h ⊢
      match i, h with
      | 0, h => simp at h; subst h; exact List.mem_cons_self
      | i + 1, h =>
        have := lvOf_args us (b + 1) i v (by simpa using h)
        rw [show b + 1 + i = b + (i + 1) by omega] at this
        exact List.mem_cons_of_mem _ this
theorem LV.entry {av : List Value} {nL : Nat} (h : (lg_sl av).length ≤ nL) (k : Nat) : LV ((lg_sl av ++ List.replicate (nL - (lg_sl av).length) Slot.unset).toArray) nL (lvOf av ++ List.replicate k none) := by
  refine LV.of (lv_entry av h) fun i v hv => ?_
  by_cases hi : i < (lvOf av).length
  · rw [List.getElem?_append_left hi] at hv
    have := lvOf_args av 0 i v hv
    simpa using this
  · rw [List.getElem?_append_right (by omega), List.getElem?_replicate] at hv
    split at hv <;> cases hv
/-- the machine around a walk -/
abbrev EE : Type := (Program × Launch × Env × Room × State) × (MethodId × Array Value × List Frame × Method × Code) × Nat × Nat
def WE (E : EE) (H : Heap) (locs : List Loc) (Q : State → Prop) (g : JFrame) : Prop := W E.1.1 E.1.2.1 E.1.2.2.1 E.1.2.2.2.1 E.1.2.2.2.2 E.2.1.1 E.2.1.2.1 E.2.1.2.2.1 E.2.1.2.2.2.1 E.2.1.2.2.2.2 H locs E.2.2.1 E.2.2.2 Q g
def Inv (B : Bk) (s : State) (σ : St) (H : Heap) (locs : List Loc) : Prop := va_P B.2.2 vwCl (wsOf B σ) H ∧ va_S (fA B) s.heap H locs
def VOk (E : EE) (B : Bk) (own : String) (cc : ByteArray) (nL d : Nat) : Prop :=
  E.1.1.tables.exec = Jvm.exec ∧ E.2.1.2.2.2.2.code = cc ∧ E.2.1.2.2.2.2.maxLocals = nL ∧ E.1.2.2.2.2.vm.findClass own = some E.2.1.1.cls ∧ (∀ w ∈ gw, w.before E.2.1.2.1 E.1.2.2.2.2 = true) ∧ KB B E.1.2.2.2.2 ∧ d ≤ E.1.2.2.2.1.frames ∧ 64 * d ≤ E.1.2.2.2.1.locals ∧ E.2.2.1 ≤ E.1.2.2.2.1.cells ∧ E.2.2.2 ≤ E.1.2.2.2.1.slots
/-- from here, with this store, these slots and this stack, the machine comes to Q -/
def V (E : EE) (B : Bk) (own : String) (cc : ByteArray) (nL d : Nat) (Q : State → Prop) (pc : Nat) (lv : List (Option Value)) (st : List Value) (σ : St) : Prop :=
  VOk E B own cc nL d → ∀ (H : Heap) (locs : List Loc) (ls : Array Slot), Inv B E.1.2.2.2.2 σ H locs → LV ls nL lv → WE E H locs Q (F0 E.2.1.1 pc ls st)
/-- a contract: with these arguments and this store the method returns, and 'post' holds of the answer and the store behind it -/
def QA (B : Bk) (post : Option Value → St → Prop) : Array Value → State → Outcome → State → Prop := fun _ st oc t => (∃ (v : Option Value) (u : St), oc = .returned v ∧ post v u ∧ va_P B.2.2 vwCl (wsOf B u) t.heap) ∧ va_F (fA B) st t
def MC (y : MethodName) (cc : ByteArray) (nL : Nat) (ret : Option FieldType) (d : Nat) (B : Bk) (av : List Value) (σ : St) (post : Option Value → St → Prop) : Prop :=
  ∀ l : Launch, Met l y (.code y cc nL ret :: gw) (rmD d) (va_Pc av (fun U => va_P B.2.2 vwCl (wsOf B σ) U.heap ∧ KB B U)) (QA B post) 0 0 (fA B)
def Ret (E : EE) (B : Bk) (own : String) (cc : ByteArray) (nL d : Nat) (Q : State → Prop) (op : Instr) (ok : List Value → Option Value → Prop) (post : Option Value → St → Prop) : Prop :=
  ∀ (pc : Nat) (lv : List (Option Value)) (st : List Value) (v : Option Value) (σ : St), decode cc pc = .ok (op, 1) → ok st v → post v σ → V E B own cc nL d Q pc lv st σ
theorem KB.moved {B : Bk} {u U : State} (hW : u.WarmedH U.vm) (h : KB B u) : KB B U := by
  refine ⟨va_K.moved hW.alike h.1, h.2.1, fun w hw => ?_⟩
  have hz := h.2.2 w hw
  have : ∃ a i x g, w = .methodLinkNest a i x g := by
    simp only [nestL, List.mem_cons, List.not_mem_nil, or_false] at hw
    rcases hw with rfl | rfl | rfl | rfl | rfl | rfl | rfl | rfl <;> exact ⟨_, _, _, _, rfl⟩
  obtain ⟨a, i, x, g, rfl⟩ := this
  exact va_Nw.warmM hW hz
theorem KB.calling {B : Bk} {U : State} {g : JFrame} {mk : MethodId} {a : Array Value} (h : KB B U) : KB B (U.calling g mk a) := by
  refine ⟨va_K.moved (u := U) (U := U.calling g mk a) (Vm.Alike.refl U.vm) h.1, h.2.1, fun w hw => ?_⟩
  have hz := h.2.2 w hw
  have : ∃ a i x g, w = .methodLinkNest a i x g := by
    simp only [nestL, List.mem_cons, List.not_mem_nil, or_false] at hw
    rcases hw with rfl | rfl | rfl | rfl | rfl | rfl | rfl | rfl <;> exact ⟨_, _, _, _, rfl⟩
  obtain ⟨b, i, x, f, rfl⟩ := this
  exact va_Nw.same rfl (u := U) (U := U.calling g mk a) rfl hz

