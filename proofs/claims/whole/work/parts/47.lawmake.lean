/-! WHAT THE TABLES SAY AT THE LAW'S ENTRY, AND THE TWO OBJECTS THAT ARE MADE THERE -/
theorem tb_in {i : Nat} {w : Cond} (h : tables_1[i]? = some w) : w ∈ lw_tbl := List.mem_append_right _ (List.mem_of_getElem? h)
set_option maxHeartbeats 2000000 in
theorem kt_0 {s : State} {A : Array Value} (hts : ∀ w ∈ lw_tbl, w.before A s = true) : ∃ Z : Zk, KT Z s ∧ NW s := by
  have hg : ∀ w ∈ gw, w.before A s = true := fun w hw => hts w (List.mem_filter.mp hw).1
  obtain ⟨c0, i0, k0⟩ := u_known (C := RX0) (T := TX0) (N := 11) (n := 11) hg in_X0 (hg _ is_X0)
  obtain ⟨c1, i1, k1⟩ := u_known (C := RX1) (T := TX1) (N := 4) (n := 4) hg in_X1 (hg _ is_X1)
  obtain ⟨c2, i2, k2⟩ := u_known (C := RX2) (T := TX2) (N := 3) (n := 3) hg in_X2 (hg _ is_X2)
  obtain ⟨c3, i3, k3⟩ := u_known (C := RX3) (T := TX3) (N := 4) (n := 4) hg in_X3 (hg _ is_X3)
  obtain ⟨c4, i4, k4⟩ := u_known (C := RX4) (T := TX4) (N := 15) (n := 15) hg in_X4 (hg _ is_X4)
  obtain ⟨c5, i5, k5⟩ := u_known (C := RX5) (T := TX5) (N := 31) (n := 31) hg in_X5 (hg _ is_X5)
  obtain ⟨cI, kI, oI, fI, gI, aI⟩ := Cond.arrayClass_spec (hg _ ac_int)
  obtain ⟨cZ, kZ, oZ, fZ, gZ, aZ⟩ := Cond.arrayClass_spec (hg _ ac_boolean)
  have hao : (Cond.arrayOver (.object RX3)).before A s = true := hts _ (tb_in (i := 99) (by decide +kernel))
  obtain ⟨oP, cP, kP, q1, q2, q3, q4, q5⟩ := Cond.arrayOver_spec hao
  refine ⟨((fun k => if k = 0 then c0 else if k = 1 then c1 else if k = 2 then c2 else if k = 3 then c3 else if k = 4 then c4 else c5, fun k => if k = 0 then i0 else if k = 1 then i1 else if k = 2 then i2 else if k = 3 then i3 else if k = 4 then i4 else i5), cI, cZ, cP), ⟨⟨?_, ?_⟩, va_AO.of hao, ?_⟩, ?_⟩
  · intro k q hq
    match k, hq with
    | 0, hq => cases hq; exact k0
    | 1, hq => cases hq; exact k1
    | 2, hq => cases hq; exact k2
    | 3, hq => cases hq; exact k3
    | 4, hq => cases hq; exact k4
    | 5, hq => cases hq; exact k5
    | k + 6, hq => simp [vwCl] at hq
  · intro k q hq
    match k, hq with
    | 0, hq => have e : (cI, FieldType.int) = q := Option.some.inj hq; subst e; exact ⟨fun n z => ⟨fun k h => (by cases h), kI, gI, oI, aI⟩, fI⟩
    | 1, hq => have e : (cZ, FieldType.boolean) = q := Option.some.inj hq; subst e; exact ⟨fun n z => ⟨fun k h => (by cases h), kZ, gZ, oZ, aZ⟩, fZ⟩
    | 2, hq => have e : (cP, FieldType.object RX3) = q := Option.some.inj hq; subst e; exact ⟨fun n z => ⟨fun k h => (by cases h), kP, q3, oP, q4⟩, kP, oP, q3, q4, q1, q5⟩
    | k + 3, hq => simp [tyZ] at hq
  · intro w hw
    simp only [nestN, List.mem_cons, List.not_mem_nil, or_false] at hw
    rcases hw with rfl | rfl | rfl | rfl
    · exact va_Nw.of rfl (hts _ (tb_in (i := 19) (by decide +kernel)))
    · exact va_Nw.of rfl (hts _ (tb_in (i := 72) (by decide +kernel)))
    · exact va_Nw.of rfl (hts _ (tb_in (i := 114) (by decide +kernel)))
    · exact va_Nw.of rfl (hts _ (tb_in (i := 100) (by decide +kernel)))
  · intro w hw
    simp only [nestL, List.mem_cons, List.not_mem_nil, or_false] at hw
    rcases hw with rfl | rfl | rfl | rfl | rfl | rfl | rfl | rfl
    · exact va_Nw.of rfl (hts _ (tb_in (i := 220) (by decide +kernel)))
    · exact va_Nw.of rfl (hts _ (tb_in (i := 229) (by decide +kernel)))
    · exact va_Nw.of rfl (hts _ (tb_in (i := 254) (by decide +kernel)))
    · exact va_Nw.of rfl (hts _ (tb_in (i := 255) (by decide +kernel)))
    · exact va_Nw.of rfl (hts _ (tb_in (i := 333) (by decide +kernel)))
    · exact va_Nw.of rfl (hts _ (tb_in (i := 346) (by decide +kernel)))
    · exact va_Nw.of rfl (hts _ (tb_in (i := 459) (by decide +kernel)))
    · exact va_Nw.of rfl (hts _ (tb_in (i := 477) (by decide +kernel)))
abbrev F4 : List Value := [.null, .int (nI 0), .null, .null, .null, .null, .null, .null, .null, .int (nI 0), .null, .long (lN 0), .null, .null, .null]
abbrev F5 : List Value := [.int (nI 0), .int (nI 0), .int (nI 0), .null, .null, .null, .null, .null, .null, .null, .null, .null, .int (nI 0), .int (nI 0), .int (nI 0), .int (nI 0), .null, .int (nI 0), .int (nI 0), .int (nI 0), .int (nI 0), .int (nI 0), .int (nI 0), .null, .int (nI 0), .null, .null, .null, .long (lN 0), .null, .null]
set_option maxHeartbeats 4000000 in
set_option maxRecDepth 20000 in
theorem law_body {E : EE} {Z : Zk} {b sb : Nat} {Q : State → Prop} (k : U E Z RL cL_law 4 21 102 1730 b Q 18 [some (.ref sb), some (.ref ((B0 Z b).1 17)), some (.ref ((B0 Z b).1 0)), some (.int (nI 0))] [] (kAl Z b) 102 1730) : U E Z RL cL_law 4 21 102 1730 b Q 0 [some (.ref sb), none, none, none] [] [] 0 0 := by
  have e17 : (B0 Z b).1 17 = b := congrArg (fun t => b + t) or_17
  have e0 : (B0 Z b).1 0 = b + 85 := congrArg (fun t => b + t) or_0
  rw [e17, e0] at k
  obtain ⟨A, eA, lA⟩ : ∃ A, A = kX4 Z b ∧ A.length = 85 := ⟨_, rfl, l_X4 Z b⟩
  have c1 : CN yX4_init cX4_init 2 3 84 981 Z (b + 0) (.inr (4, F4)) A := by rw [eA]; exact n_X4 Z b
  obtain ⟨D, eD, lD⟩ : ∃ D, D = kX5 Z (b + 85) ∧ D.length = 17 := ⟨_, rfl, l_X5 Z (b + 85)⟩
  have c2 : CN yX5_init cX5_init 1 1 16 703 Z (b + 85) (.inr (5, F5)) D := by rw [eD]; exact n_X5 Z (b + 85)
  have kk : U E Z RL cL_law 4 21 102 1730 b Q 18 [some (.ref sb), some (.ref b), some (.ref (b + 85)), some (.int (nI 0))] [] (A ++ D) 102 1730 := by
    rw [eA, eD]
    exact k
  refine U_new (cs2 := [.inr (4, F4)]) (ci := 4) F4 tyX4 in_X4 tyX4_ok cl_L_7 is_X4 iz_X4 rfl df_X4 0 rfl dL_law_0 (Nat.le_of_ble_eq_true rfl) (Nat.le_of_ble_eq_true rfl) rfl ?_
  refine U_dup dL_law_3 rfl ?_
  refine U_callI (cs2 := A) fi_X4 ml_L_9 [] 0 c1 dL_law_4 (by decide) (by decide) (Nat.le_of_ble_eq_true rfl) (Nat.le_of_ble_eq_true rfl) (Nat.le_of_ble_eq_true rfl) lA.symm rfl rfl rfl ?_
  refine U_astore_n dL_law_7 (by decide) rfl ?_
  refine U_new (cs2 := A ++ [.inr (5, F5)]) (ci := 5) F5 tyX5 in_X5 tyX5_ok cl_L_10 is_X5 iz_X5 rfl df_X5 85 lA dL_law_8 (Nat.le_of_ble_eq_true rfl) (Nat.le_of_ble_eq_true rfl) rfl ?_
  refine U_dup dL_law_11 rfl ?_
  refine U_callI (cs2 := A ++ D) fi_X5 ml_L_12 A 85 c2 dL_law_12 (by decide) (by decide) (Nat.le_of_ble_eq_true rfl) (Nat.le_of_ble_eq_true rfl) (Nat.le_of_ble_eq_true rfl) lD.symm lA rfl rfl ?_
  refine U_astore_n dL_law_15 (by decide) rfl ?_
  refine U_iconst 0 dL_law_16 (by decide) ?_
  refine U_istore_n dL_law_17 (by decide) rfl ?_
  exact kk
/-- all is made: from here on the store is walked -/
theorem U_V {E : EE} {Z : Zk} {b mc ms ca sl pc : Nat} {Q : State → Prop} {lv : List (Option Value)} {st : List Value} (hN : NW E.1.2.2.2.2) (hb : b = E.1.2.2.2.2.heap.size) (h1 : 600000 ≤ E.1.2.2.2.1.cells) (h2 : 7302250 ≤ E.1.2.2.2.1.slots) (hca : ca ≤ 600000) (hsl : sl ≤ 7302250) (k : V (E.1, E.2.1, 600000, 7302250) (B0 Z b) RL cL_law 4 20 Q pc lv st s0) : U E Z RL cL_law 4 21 mc ms b Q pc lv st (kAl Z b) ca sl := by
  intro ok H locs ls hP hS hz hl
  obtain ⟨o1, o2, o3, o4, o5, o6, o7, o8, o9, o10, o11⟩ := ok
  refine va_forget (fun q hq => ?_) (W.widen (k := 600000) (n := 7302250) hca hsl ?_)
  · have h : b ≤ q.base := hS.2.2 q hq
    rw [hb] at h
    exact h
  · refine k ⟨o1, o2, o3, o4, o5, KB_0 o6 hN, Nat.le_trans (by decide) o7, Nat.le_trans (by decide) o8, h1, h2⟩ H [] ls ⟨made hP, hS.1, fun q q1 q2 => hS.2.1 q q1 (fun h => ?_), fun _ h => by cases h⟩ hl
    have h' : b ≤ q := h
    rw [hb] at h'
    exact absurd q1 (Nat.not_lt.mpr h')
