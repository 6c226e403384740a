/-! entry, ends, calls, fields -/
theorem good_gw {ws : List Cond} (h : ∀ w ∈ ws, w ∈ gw) : GoodIn gw ws := fun w hw => ⟨h w hw, good_of_word (gw_good (h w hw))⟩
theorem MC_in {y : MethodName} {cc : ByteArray} {nL : Nat} {ret : Option FieldType} {d : Nat} {B : Bk} {av : List Value} {σ : St} {post : Option Value → St → Prop} (own : String) (lv0 : List (Option Value)) (n0 : Nat) (hy : plainName y.cls = true) (ho : y.cls = own) (hlv : lvOf av ++ List.replicate n0 none = lv0) (hlen : (lg_sl av).length ≤ nL)
    (body : ∀ (E : EE) (Q : State → Prop), E.2.1.2.2.2.1.sig.returnType = ret → E.2.1.2.2.2.1.locks = false → Q = MQ E.2.1.2.2.1 (QA B post) E.2.1.2.1 E.1.2.2.2.2 0 0 (fA B) → E.2.2 = (0, 0) → V E B own cc nL d Q 0 lv0 [] σ) : MC y cc nL ret d B av σ post := by
  intro l
  refine Met.ofW (cc := cc) (maxL := nL) (ret := ret) hy rfl ?_
  intro p e s m args below meth c s₁ BB hml hv
  obtain ⟨rfl, hP, hK⟩ := hv
  have hts := atoms_spec (ws := .code y cc nL ret :: gw) BB.pre
  have k := body ((p, l, e, rmD d, s), (m, av.toArray, below, meth, c), 0, 0) _ BB.returns BB.notSynchronized rfl rfl
  rw [lg_entry_eq]
  exact k ⟨BB.exec, BB.bytes, hml, by rw [← ho]; exact findClass_of_methodNamed BB.named, fun w hw => hts w (List.mem_cons_of_mem _ hw), hK, Nat.le_refl _, Nat.le_refl _, Nat.le_refl _, Nat.le_refl _⟩ s.heap [] _ ⟨hP, va_S.rf⟩ (by rw [← hlv]; exact LV.entry hlen n0)
theorem MC_int {y : MethodName} {cc : ByteArray} {nL : Nat} {d : Nat} {B : Bk} {av : List Value} {σ : St} {post : Option Value → St → Prop} (own : String) (lv0 : List (Option Value)) (n0 : Nat) (hy : plainName y.cls = true) (ho : y.cls = own) (hlv : lvOf av ++ List.replicate n0 none = lv0) (hlen : (lg_sl av).length ≤ nL) (body : ∀ (E : EE) (Q : State → Prop), (∀ (pc : Nat) (lv : List (Option Value)) (x : Int32) (τ : St), decode cc pc = .ok (.ireturn, 1) → post (some (.int x)) τ → V E B own cc nL d Q pc lv [.int x] τ) → V E B own cc nL d Q 0 lv0 [] σ) : MC y cc nL (some .int) d B av σ post := by
  refine MC_in own lv0 n0 hy ho hlv hlen fun E Q hr hlk hQ hz => body E Q fun pc lv x τ hd hp ok H locs ls hI hl => ?_
  subst hQ
  obtain ⟨⟨p, l, e, R, s⟩, ⟨m, args, below, meth, c⟩, ca, sl⟩ := E
  cases hz
  exact W.iret (v := x) ok.1 ok.2.1 hr (fun t ht hW => ⟨⟨_, τ, rfl, hp, by rw [ht]; exact hI.1⟩, hI.2.F ht⟩) hI.2.2.2 hd hlk
theorem MC_bool {y : MethodName} {cc : ByteArray} {nL : Nat} {d : Nat} {B : Bk} {av : List Value} {σ : St} {post : Option Value → St → Prop} (own : String) (lv0 : List (Option Value)) (n0 : Nat) (hy : plainName y.cls = true) (ho : y.cls = own) (hlv : lvOf av ++ List.replicate n0 none = lv0) (hlen : (lg_sl av).length ≤ nL) (body : ∀ (E : EE) (Q : State → Prop), (∀ (pc : Nat) (lv : List (Option Value)) (x : Nat) (τ : St), decode cc pc = .ok (.ireturn, 1) → x < 2 → post (some (.int (nI x))) τ → V E B own cc nL d Q pc lv [.int (nI x)] τ) → V E B own cc nL d Q 0 lv0 [] σ) : MC y cc nL (some .boolean) d B av σ post := by
  refine MC_in own lv0 n0 hy ho hlv hlen fun E Q hr hlk hQ hz => body E Q fun pc lv x τ hd hx hp ok H locs ls hI hl => ?_
  subst hQ
  obtain ⟨⟨p, l, e, R, s⟩, ⟨m, args, below, meth, c⟩, ca, sl⟩ := E
  cases hz
  exact W.zret (v := nI x) ok.1 ok.2.1 hr (by rcases (show x = 0 ∨ x = 1 by omega) with rfl | rfl <;> decide +kernel) (fun t ht hW => ⟨⟨_, τ, rfl, hp, by rw [ht]; exact hI.1⟩, hI.2.F ht⟩) hI.2.2.2 hd hlk
theorem MC_void {y : MethodName} {cc : ByteArray} {nL : Nat} {d : Nat} {B : Bk} {av : List Value} {σ : St} {post : Option Value → St → Prop} (own : String) (lv0 : List (Option Value)) (n0 : Nat) (hy : plainName y.cls = true) (ho : y.cls = own) (hlv : lvOf av ++ List.replicate n0 none = lv0) (hlen : (lg_sl av).length ≤ nL) (body : ∀ (E : EE) (Q : State → Prop), (∀ (pc : Nat) (lv : List (Option Value)) (τ : St), decode cc pc = .ok (.return_, 1) → post none τ → V E B own cc nL d Q pc lv [] τ) → V E B own cc nL d Q 0 lv0 [] σ) : MC y cc nL none d B av σ post := by
  refine MC_in own lv0 n0 hy ho hlv hlen fun E Q hr hlk hQ hz => body E Q fun pc lv τ hd hp ok H locs ls hI hl => ?_
  subst hQ
  obtain ⟨⟨p, l, e, R, s⟩, ⟨m, args, below, meth, c⟩, ca, sl⟩ := E
  cases hz
  exact W.vret ok.1 ok.2.1 hr (fun t ht hW => ⟨⟨_, τ, rfl, hp, by rw [ht]; exact hI.1⟩, hI.2.F ht⟩) hI.2.2.2 hd hlk
theorem MC_long {y : MethodName} {cc : ByteArray} {nL : Nat} {d : Nat} {B : Bk} {av : List Value} {σ : St} {post : Option Value → St → Prop} (own : String) (lv0 : List (Option Value)) (n0 : Nat) (hy : plainName y.cls = true) (ho : y.cls = own) (hlv : lvOf av ++ List.replicate n0 none = lv0) (hlen : (lg_sl av).length ≤ nL) (body : ∀ (E : EE) (Q : State → Prop), (∀ (pc : Nat) (lv : List (Option Value)) (x : Int64) (τ : St), decode cc pc = .ok (.lreturn, 1) → post (some (.long x)) τ → V E B own cc nL d Q pc lv [.long x] τ) → V E B own cc nL d Q 0 lv0 [] σ) : MC y cc nL (some .long) d B av σ post := by
  refine MC_in own lv0 n0 hy ho hlv hlen fun E Q hr hlk hQ hz => body E Q fun pc lv x τ hd hp ok H locs ls hI hl => ?_
  subst hQ
  obtain ⟨⟨p, l, e, R, s⟩, ⟨m, args, below, meth, c⟩, ca, sl⟩ := E
  cases hz
  exact W.lret (v := x) ok.1 ok.2.1 hr (fun t ht hW => ⟨⟨_, τ, rfl, hp, by rw [ht]; exact hI.1⟩, hI.2.F ht⟩) hI.2.2.2 hd hlk
theorem MC_ref {C : String} {y : MethodName} {cc : ByteArray} {nL : Nat} {d : Nat} {B : Bk} {av : List Value} {σ : St} {post : Option Value → St → Prop} (own : String) (lv0 : List (Option Value)) (n0 : Nat) (hy : plainName y.cls = true) (ho : y.cls = own) (hlv : lvOf av ++ List.replicate n0 none = lv0) (hlen : (lg_sl av).length ≤ nL) (body : ∀ (E : EE) (Q : State → Prop), (∀ (pc : Nat) (lv : List (Option Value)) (v : Value) (τ : St), decode cc pc = .ok (.areturn, 1) → (v = .null ∨ ∃ a, v = .ref a) → post (some v) τ → V E B own cc nL d Q pc lv [v] τ) → V E B own cc nL d Q 0 lv0 [] σ) : MC y cc nL (some (.object C)) d B av σ post := by
  refine MC_in own lv0 n0 hy ho hlv hlen fun E Q hr hlk hQ hz => body E Q fun pc lv v τ hd hv hp ok H locs ls hI hl => ?_
  subst hQ
  obtain ⟨⟨p, l, e, R, s⟩, ⟨m, args, below, meth, c⟩, ca, sl⟩ := E
  cases hz
  exact W.aret ok.1 ok.2.1 hr (Or.inl ⟨_, rfl⟩) hv (fun t ht hW => ⟨⟨_, τ, rfl, hp, by rw [ht]; exact hI.1⟩, hI.2.F ht⟩) hI.2.2.2 hd hlk
theorem MC.weak {y : MethodName} {cc : ByteArray} {nL : Nat} {ret : Option FieldType} {d : Nat} {B : Bk} {av : List Value} {σ : St} {post post2 : Option Value → St → Prop} (h : MC y cc nL ret d B av σ post) (hp : ∀ v u, post v u → post2 v u) : MC y cc nL ret d B av σ post2 := by
  intro l p e ha hc hk s m args below hf hfit hP hK
  obtain ⟨k, o, h1, h2, h3, ⟨⟨⟨v, u, q1, q2, q3⟩, q4⟩, q5⟩⟩ := h l p e ha hc hk s m args below hf hfit hP hK
  exact ⟨k, o, h1, h2, h3, ⟨⟨⟨v, u, q1, hp v u q2, q3⟩, q4⟩, q5⟩⟩
section CA
variable {E : EE} {B : Bk} {own : String} {cc : ByteArray} {nL d : Nat} {Q : State → Prop} {pc : Nat} {lv : List (Option Value)} {st : List Value} {σ : St}
variable {y : MethodName} {cy : ByteArray} {nY dY n idx : Nat} {ret : Option FieldType} {post : Option Value → St → Prop} {As rest : List Value}
theorem V_run {st0 : List Value} {a : Array Value} (hr : VOk E B own cc nL d → ∀ (H : Heap) (locs : List Loc) (ls : Array Slot), Inv B E.1.2.2.2.2 σ H locs → LV ls nL lv → va_Run E.1.1 E.1.2.1 E.1.2.2.1 E.1.2.2.2.1 E.1.2.2.2.2 E.2.1.1 E.2.1.2.1 E.2.1.2.2.1 E.2.1.2.2.2.1 E.2.1.2.2.2.2 H locs E.2.2.1 E.2.2.2 0 0 (F0 E.2.1.1 pc ls st0) rest (QA B post a) (fA B))
    (kk : ∀ (v : Option Value) (u : St), post v u → V E B own cc nL d Q (pc + 3) lv (v.toList ++ rest) u) : V E B own cc nL d Q pc lv st0 σ := by
  intro ok H locs ls hI hl T hT X
  obtain ⟨v, st₀, t, T', L, h0, X', hL, e1, e2, ⟨⟨v', u, hv, hp, hb⟩, hz, hk⟩, st⟩ := hr ok H locs ls hI hl T hT X
  cases hv
  rw [h0] at hz hk
  obtain ⟨t2, a1, b1⟩ := kk v u hp ok T'.heap (locs ++ L) ls ⟨by rw [e1]; exact hb, ⟨Nat.le_trans hI.2.1 (by rw [e1]; exact hz), fun q h1 h2 => by rw [e1, hk q (Nat.lt_of_lt_of_le h1 hI.2.1) h2]; exact hI.2.2.1 q h1 h2, fun q hq => by
      rcases List.mem_append.mp hq with h | h
      · exact hI.2.2.2 q h
      · exact hL q h⟩⟩ hl T' rfl X'
  exact ⟨t2, st t2 a1, b1⟩
def FN (y : MethodName) (n : Nat) : Prop := y.cls ≠ "java/lang/invoke/MethodHandle" ∧ y.cls ≠ "java/lang/invoke/VarHandle" ∧ (parseMethodDescriptor y.desc).map (fun d => d.parameters.length) = some n
def FS (y : MethodName) (cy : ByteArray) (nY : Nat) (ret : Option FieldType) (n : Nat) : Prop := Cond.static y ∈ gw ∧ Cond.initialized y.cls ∈ gw ∧ Cond.code y cy nY ret ∈ gw ∧ FN y n
def FV (y : MethodName) (cy : ByteArray) (nY : Nat) (ret : Option FieldType) (n : Nat) : Prop := Cond.instanceMethod y ∈ gw ∧ Cond.initialized y.cls ∈ gw ∧ Cond.code y cy nY ret ∈ gw ∧ FN y n ∧ Cond.selects y.cls y y ∈ gw
theorem code_in (h : Cond.code y cy nY ret ∈ gw) : ∀ w ∈ (Cond.code y cy nY ret :: gw), w ∈ gw := fun w hw => by
  rcases List.mem_cons.mp hw with rfl | hw
  · exact h
  · exact hw
theorem pre_in {av : List Value} (hK : KB B E.1.2.2.2.2) {H : Heap} (hP : va_P B.2.2 vwCl (wsOf B σ) H) : FrameBlind (va_Pc av (fun U => va_P B.2.2 vwCl (wsOf B σ) U.heap ∧ KB B U)) ∧ ∀ U : State, U.heap = H → E.1.2.2.2.2.WarmedH U.vm → va_Pc av (fun U => va_P B.2.2 vwCl (wsOf B σ) U.heap ∧ KB B U) av.toArray U :=
  ⟨fun a U g mk q => ⟨q.1, q.2.1, q.2.2.calling⟩, fun U hU hW => ⟨rfl, by rw [hU]; exact hP, hK.moved hW⟩⟩
theorem V_callS {st0 : List Value} (f : FS y cy nY ret n) (hl : Cond.methodLink own idx y ∈ gw) (hM : MC y cy nY ret dY B As σ post) (hd : decode cc pc = .ok (.invokestatic idx, 3)) (hn : As.length = n) (hs : st0 = As.reverse ++ rest) (hdd : dY < d) (hL : nY ≤ 45) (hr : (rest.map fun v => v.category).sum ≤ 8)
    (kk : ∀ (v : Option Value) (u : St), post v u → V E B own cc nL d Q (pc + 3) lv (v.toList ++ rest) u) : V E B own cc nL d Q pc lv st0 σ := by
  refine V_run (a := As.toArray) (fun ok H locs ls hI hl' => ?_) kk
  obtain ⟨hx, hb, hml, hown, hts, hK, r1, r2, r3, r4⟩ := ok
  obtain ⟨f1, f2, f3, f4⟩ := f
  refine va_runS (As := As) ⟨hx, hb, hml, hown, hts⟩ (hM _) (va_cwS (ws' := gw) n hts (good_gw ?_) rfl rfl rfl f4 ⟨?_, ?_⟩) (pre_in hK hI.1) rfl hn hl'.1 hs (lv_room hr) hd ⟨r3, r4⟩
  · intro w hw
    simp only [va_wsS, List.cons_append, List.nil_append, List.mem_cons] at hw
    rcases hw with rfl | rfl | rfl | rfl | hw
    · exact hl
    · exact f1
    · exact f2
    · exact f3
    · exact hw
  · show dY + 1 ≤ _
    omega
  · show 8 + (nY + 11) + 64 * dY ≤ _
    omega
theorem V_callSN {st0 : List Value} {host : String} (f : FS y cy nY ret n) (hl : Cond.methodLinkNest own idx y host ∈ nestL) (hM : MC y cy nY ret dY B As σ post) (hd : decode cc pc = .ok (.invokestatic idx, 3)) (hn : As.length = n) (hs : st0 = As.reverse ++ rest) (hdd : dY < d) (hL : nY ≤ 45) (hr : (rest.map fun v => v.category).sum ≤ 8)
    (kk : ∀ (v : Option Value) (u : St), post v u → V E B own cc nL d Q (pc + 3) lv (v.toList ++ rest) u) : V E B own cc nL d Q pc lv st0 σ := by
  refine V_run (a := As.toArray) (fun ok H locs ls hI hl' => ?_) kk
  obtain ⟨hx, hb, hml, hown, hts, hK, r1, r2, r3, r4⟩ := ok
  obtain ⟨f1, f2, f3, f4⟩ := f
  refine va_runSN (host := host) (As := As) ⟨hx, hb, hml, hown, hts⟩ (hM _) ⟨va_cnB (ws' := gw) n hts (good_gw (code_in f3)) rfl rfl rfl (hK.2.2 _ hl) (hts _ f2) f4 ⟨?_, ?_⟩, hts _ f1, trivial⟩ (pre_in hK hI.1) rfl hn hl'.1 hs (lv_room hr) hd ⟨r3, r4⟩
  · show dY + 1 ≤ _
    omega
  · show 8 + (nY + 11) + 64 * dY ≤ _
    omega
theorem cell_ob {k ci m : Nat} (h : kd k = (ci + 3, m)) (hc : ci < 6) : ∃ fs, cellE B σ k = .inr (ci, fs) := by
  unfold cellE
  rw [h]
  match ci, hc with
  | 0, _ => exact ⟨_, rfl⟩
  | 1, _ => exact ⟨_, rfl⟩
  | 2, _ => exact ⟨_, rfl⟩
  | 3, _ => exact ⟨_, rfl⟩
  | 4, _ => exact ⟨_, rfl⟩
  | 5, _ => exact ⟨_, rfl⟩
theorem V_callV {st0 : List Value} {k ci m : Nat} {q : vw_C} (f : FV y cy nY ret n) (hl : Cond.methodLink own idx y ∈ gw) (hk : kd k = (ci + 3, m)) (hc : vwCl[ci]? = some q) (hq : q.1 = y.cls) (hM : MC y cy nY ret dY B (.ref (B.1 k) :: As) σ post) (hd : decode cc pc = .ok (.invokevirtual idx, 3)) (hn : As.length = n) (hs : st0 = As.reverse ++ .ref (B.1 k) :: rest) (hdd : dY < d) (hL : nY ≤ 45) (hr : (rest.map fun v => v.category).sum ≤ 8)
    (kk : ∀ (v : Option Value) (u : St), post v u → V E B own cc nL d Q (pc + 3) lv (v.toList ++ rest) u) : V E B own cc nL d Q pc lv st0 σ := by
  refine V_run (a := (.ref (B.1 k) :: As).toArray) (fun ok H locs ls hI hl' => ?_) kk
  obtain ⟨hx, hb, hml, hown, hts, hK, r1, r2, r3, r4⟩ := ok
  obtain ⟨f1, f2, f3, f4, f5⟩ := f
  have hk2 : k < 102 := kd_lt hk (by omega)
  have hc6 : ci < 6 := (List.getElem?_eq_some_iff.mp hc).1
  obtain ⟨fs, he⟩ := cell_ob (B := B) (σ := σ) hk hc6
  have hp := pre_in (av := .ref (B.1 k) :: As) hK hI.1
  refine va_runV (As := As) ⟨hx, hb, hml, hown, hts⟩ (hM _) (cwV (C := y.cls) (ws' := gw) n hts (good_gw ?_) rfl rfl rfl ⟨rfl, f4⟩ ⟨?_, ?_⟩) ⟨hp.1, by rw [← hq]; exact va_recv hK.1 hI.1 hc (by rw [ws_at hk2, he]), hp.2⟩ rfl hn hl'.1 hs (lv_room hr) hd ⟨r3, r4⟩
  · intro w hw
    simp only [wsV, List.cons_append, List.nil_append, List.mem_cons] at hw
    rcases hw with rfl | rfl | rfl | rfl | rfl | hw
    · exact hl
    · exact f1
    · exact f5
    · exact f2
    · exact f3
    · exact hw
  · show dY + 1 ≤ _
    omega
  · show 8 + (nY + 11) + 64 * dY ≤ _
    omega
theorem V_get {k ci m : Nat} {C : String} {T : u_T} {N : Nat} {fs : List Value} {v : Value} (hk : k < 102) (he : cellE B σ k = .inr (ci, fs)) (hc : vwCl[ci]? = some (C, T, N)) (hin : ∀ w ∈ u_ws C T N, w ∈ gw) (f : Nat) (hf : f < N) (hl : Cond.fieldLink own idx (T f).1 (T f).2.1 (T f).2.2.1 ∈ gw) (hv : fs[f]? = some v) (hd : decode cc pc = .ok (.getfield idx, 3))
    (kk : V E B own cc nL d Q (pc + 3) lv (v :: st) σ) : V E B own cc nL d Q pc lv (.ref (B.1 k) :: st) σ := fun ok H locs ls hI hl' => by
  have hts := ok.2.2.2.2.1
  exact va_get (D := B.2.2) (v := v) (C := C) (T := T) (N := N) ok.1 ok.2.1 hts hin ok.2.2.2.1 ok.2.2.2.2.2.1.1 hI.1 k (by rw [ws_at hk, he]) hc f hf (hts _ hl) (fun _ h9 => h9) hv hd (kk ok H locs ls hI hl')
theorem V_put {k ci m : Nat} {C : String} {T : u_T} {N : Nat} {fs : List Value} {v : Value} {τ : St} (hk : k < 102) (he : cellE B σ k = .inr (ci, fs)) (hc : vwCl[ci]? = some (C, T, N)) (hin : ∀ w ∈ u_ws C T N, w ∈ gw) (ty0 : Nat → FieldType) (hty : ∀ k, k < N → parseFieldDescriptor (T k).2.2.1 = some (ty0 k)) (hnm : ∀ a, a < N → ∀ b, b < N → a ≠ b → (T a).2.1 ≠ (T b).2.1) (f : Nat) (hf : f < N) (hl : Cond.fieldLink own idx (T f).1 (T f).2.1 (T f).2.2.1 ∈ gw) (hfin : (T f).2.2.2 = false) {ty : FieldType} (hdt : parseFieldDescriptor (T f).2.2.1 = some ty) (hn : narrow ty v = v) (hfit : fits ty v = true) (hfl : f < fs.length) (hτ : cellE B τ k = .inr (ci, fs.set f v)) (ho : ∀ j, j ≠ k → τ j = σ j) (hd : decode cc pc = .ok (.putfield idx, 3))
    (kk : V E B own cc nL d Q (pc + 3) lv st τ) : V E B own cc nL d Q pc lv (v :: .ref (B.1 k) :: st) σ := fun ok H locs ls hI hl' => by
  have hts := ok.2.2.2.2.1
  refine va_put (D := B.2.2) (v := v) (ty := ty) (C := C) (T := T) (N := N) ok.1 ok.2.1 hts hin ty0 hty hnm ok.2.2.2.1 ok.2.2.2.2.2.1.1 hI.1 (ws_D ok.2.2.2.2.2.1.2.1 σ) hI.2 k (by rw [ws_at hk, he]) hc f hf (hts _ hl) (fun _ h9 => h9) hfin hdt hn hfit hfl hd (fun H1 locs1 hP hD hS => ?_)
  rw [ws_set (τ := τ) hτ (fun j hj => cellE_o (ho j hj))] at hP
  exact kk ok H1 locs1 ls ⟨hP, hS⟩ hl'

end CA
