/-! the class: its numbers and rows -/
section XR
variable {E : EE} {B : Bk} {own : String} {cc : ByteArray} {nL d : Nat} {Q : State → Prop} {pc : Nat} {lv : List (Option Value)} {st : List Value} {σ : St}
theorem V_iandR {x y : Int32} (hd : decode cc pc = .ok (.iand, 1)) (k : V E B own cc nL d Q (pc + 1) lv (.int (x &&& y) :: st) σ) : V E B own cc nL d Q pc lv (.int y :: .int x :: st) σ := fun ok H locs ls hI hl => lv_iand ok.1 ok.2.1 hd (k ok H locs ls hI hl)
end XR
set_option maxHeartbeats 4000000 in
set_option maxRecDepth 100000 in
theorem c_X4_at {B : Bk} {σ : St} {k n i : Nat} (hk : kd k = (0, n)) (hn : 0 < n) (hi : i < 2 ^ 32) : MC yX4_at cX4_at 2 (some .int) 0 B [.ref (B.1 k), .int (nI i)] σ (dI (if i < n then σ k i else 0) σ) := by
  have hn4 := kd_le k
  rw [hk] at hn4
  have hn5 : n ≤ 448 := hn4
  refine MC_int RX4 [some (.ref (B.1 k)), some (.int (nI i))] 0 (by decide +kernel) rfl rfl (Nat.le_of_ble_eq_true rfl) (fun E Q hret => ?_)
  refine V_aload_n (pc := 0) dX4_at_0 rfl ?_
  refine V_ifnull (pc := 1) dX4_at_1 ?_
  refine V_iload_n (pc := 4) dX4_at_4 rfl ?_
  refine V_if_lt (pc := 5) 20 dX4_at_5 (by decide) (by first | omega | assumption | exact and1_lt _ | exact nb_p) (fun h_5 => ?_) (fun h_5 => ?_)
  · skip
    refine V_iconst (pc := 20) 0 dX4_at_20 (by decide) ?_
    exact hret _ _ _ _ dX4_at_21 (dI_mk (by first | rw [if_pos (by omega)] | rw [if_neg (by omega)]) rfl)
  · skip
    refine V_iload_n (pc := 8) dX4_at_8 rfl ?_
    refine V_aload_n (pc := 9) dX4_at_9 rfl ?_
    refine V_alen (pc := 10) hk (by decide) (by omega) dX4_at_10 ?_
    refine V_icmp_ge (pc := 11) 20 dX4_at_11 (by decide) (by first | omega | assumption | exact and1_lt _ | exact nb_p) (by first | omega | assumption | exact and1_lt _ | exact nb_p) (fun h_11 => ?_) (fun h_11 => ?_)
    · skip
      refine V_iconst (pc := 20) 0 dX4_at_20 (by decide) ?_
      exact hret _ _ _ _ dX4_at_21 (dI_mk (by first | rw [if_pos (by omega)] | rw [if_neg (by omega)]) rfl)
    · skip
      refine V_aload_n (pc := 14) dX4_at_14 rfl ?_
      refine V_iload_n (pc := 15) dX4_at_15 rfl ?_
      refine V_iald (pc := 16) (by first | rfl | assumption) (by first | omega | assumption | exact and1_lt _ | exact nb_p) dX4_at_16 ?_
      refine V_goto (pc := 17) 21 dX4_at_17 (by decide) ?_
      exact hret _ _ _ _ dX4_at_21 (dI_mk (by first | rw [if_pos (by omega)] | rw [if_neg (by omega)]) rfl)
theorem c_X4_atI {B : Bk} {σ : St} {k n i : Nat} (hk : kd k = (0, n)) (hi : i < n) : MC yX4_at cX4_at 2 (some .int) 0 B [.ref (B.1 k), .int (nI i)] σ (dI (σ k i) σ) := by
  have hn4 := kd_le k
  rw [hk] at hn4
  have hn5 : n ≤ 448 := hn4
  have h := c_X4_at (B := B) (σ := σ) (i := i) hk (by omega) (by omega)
  rw [if_pos hi] at h
  exact h
set_option maxHeartbeats 4000000 in
set_option maxRecDepth 100000 in
theorem c_X4_lay {B : Bk} {σ : St} {k n i x : Nat} (hk : kd k = (0, n)) (hn : 0 < n) (hi : i < 2 ^ 32) : MC yX4_lay cX4_lay 3 none 0 B [.ref (B.1 k), .int (nI i), .int (nI x)] σ (dV (if i < n then pt σ k i x else σ)) := by
  have hn4 := kd_le k
  rw [hk] at hn4
  have hn5 : n ≤ 448 := hn4
  refine MC_void RX4 [some (.ref (B.1 k)), some (.int (nI i)), some (.int (nI x))] 0 (by decide +kernel) rfl rfl (Nat.le_of_ble_eq_true rfl) (fun E Q hret => ?_)
  refine V_aload_n (pc := 0) dX4_lay_0 rfl ?_
  refine V_ifnull (pc := 1) dX4_lay_1 ?_
  refine V_iload_n (pc := 4) dX4_lay_4 rfl ?_
  refine V_if_lt (pc := 5) 18 dX4_lay_5 (by decide) (by first | omega | assumption | exact and1_lt _ | exact nb_p) (fun h_5 => ?_) (fun h_5 => ?_)
  · skip
    exact hret _ _ _ dX4_lay_18 (dV_mk (by first | rw [if_pos (by omega)] | rw [if_neg (by omega)]))
  · skip
    refine V_iload_n (pc := 8) dX4_lay_8 rfl ?_
    refine V_aload_n (pc := 9) dX4_lay_9 rfl ?_
    refine V_alen (pc := 10) hk (by decide) (by omega) dX4_lay_10 ?_
    refine V_icmp_ge (pc := 11) 18 dX4_lay_11 (by decide) (by first | omega | assumption | exact and1_lt _ | exact nb_p) (by first | omega | assumption | exact and1_lt _ | exact nb_p) (fun h_11 => ?_) (fun h_11 => ?_)
    · skip
      exact hret _ _ _ dX4_lay_18 (dV_mk (by first | rw [if_pos (by omega)] | rw [if_neg (by omega)]))
    · skip
      refine V_aload_n (pc := 14) dX4_lay_14 rfl ?_
      refine V_iload_n (pc := 15) dX4_lay_15 rfl ?_
      refine V_iload_n (pc := 16) dX4_lay_16 rfl ?_
      refine V_iast (pc := 17) (by first | rfl | assumption) (by first | omega | assumption | exact and1_lt _ | exact nb_p) dX4_lay_17 ?_
      exact hret _ _ _ dX4_lay_18 (dV_mk (by first | rw [if_pos (by omega)] | rw [if_neg (by omega)]))
theorem c_X4_layI {B : Bk} {σ : St} {k n i x : Nat} (hk : kd k = (0, n)) (hi : i < n) : MC yX4_lay cX4_lay 3 none 0 B [.ref (B.1 k), .int (nI i), .int (nI x)] σ (dV (pt σ k i x)) := by
  have hn4 := kd_le k
  rw [hk] at hn4
  have hn5 : n ≤ 448 := hn4
  have h := c_X4_lay (B := B) (σ := σ) (i := i) (x := x) hk (by omega) (by omega)
  rw [if_pos hi] at h
  exact h
set_option maxHeartbeats 4000000 in
set_option maxRecDepth 100000 in
theorem c_X4_isGround {B : Bk} {σ : St} {c : Nat} (hb : kd (σ 17 2) = (3, 0)) (hc : c < 2 ^ 32) (hn : σ (σ 17 2) 8 ≤ 6) : MC yX4_isGround cX4_isGround 2 (some .boolean) 0 B [.ref (B.1 17), .int (nI c)] σ (dI (if c < σ (σ 17 2) 8 then 1 else 0) σ) := by
  refine MC_bool RX4 [some (.ref (B.1 17)), some (.int (nI c))] 0 (by decide +kernel) rfl rfl (Nat.le_of_ble_eq_true rfl) (fun E Q hret => ?_)
  refine V_iload_n (pc := 0) dX4_isGround_0 rfl ?_
  refine V_if_lt (pc := 1) 19 dX4_isGround_1 (by decide) (by first | omega | assumption | exact and1_lt _ | exact nb_p) (fun h_1 => ?_) (fun h_1 => ?_)
  · skip
    refine V_iconst (pc := 19) 0 dX4_isGround_19 (by decide) ?_
    exact hret _ _ _ _ dX4_isGround_20 (by first | decide | omega | (split <;> omega)) (dI_mk (by first | rw [if_pos (by omega)] | rw [if_neg (by omega)]) rfl)
  · skip
    refine V_iload_n (pc := 4) dX4_isGround_4 rfl ?_
    refine V_aload_n (pc := 5) dX4_isGround_5 rfl ?_
    refine G_X4_shore (pc := 6) (by first | rfl | assumption) fl_X4_16 dX4_isGround_6 ?_
    refine G_X0_grounds (pc := 9) (by first | rfl | assumption) fl_X4_88 dX4_isGround_9 ?_
    refine V_icmp_ge (pc := 12) 19 dX4_isGround_12 (by decide) (by first | omega | assumption | exact and1_lt _ | exact nb_p) (by first | omega | assumption | exact and1_lt _ | exact nb_p) (fun h_12 => ?_) (fun h_12 => ?_)
    · skip
      refine V_iconst (pc := 19) 0 dX4_isGround_19 (by decide) ?_
      exact hret _ _ _ _ dX4_isGround_20 (by first | decide | omega | (split <;> omega)) (dI_mk (by first | rw [if_pos (by omega)] | rw [if_neg (by omega)]) rfl)
    · skip
      refine V_iconst (pc := 15) 1 dX4_isGround_15 (by decide) ?_
      refine V_goto (pc := 16) 20 dX4_isGround_16 (by decide) ?_
      exact hret _ _ _ _ dX4_isGround_20 (by first | decide | omega | (split <;> omega)) (dI_mk (by first | rw [if_pos (by omega)] | rw [if_neg (by omega)]) rfl)
set_option maxHeartbeats 4000000 in
set_option maxRecDepth 100000 in
theorem c_X4_isChild {B : Bk} {σ : St} {c : Nat} (hb : kd (σ 17 2) = (3, 0)) (hc : c < 2 ^ 32) (hn : σ (σ 17 2) 9 ≤ 6) : MC yX4_isChild cX4_isChild 2 (some .boolean) 0 B [.ref (B.1 17), .int (nI c)] σ (dI (if c < σ (σ 17 2) 9 then 1 else 0) σ) := by
  refine MC_bool RX4 [some (.ref (B.1 17)), some (.int (nI c))] 0 (by decide +kernel) rfl rfl (Nat.le_of_ble_eq_true rfl) (fun E Q hret => ?_)
  refine V_iload_n (pc := 0) dX4_isChild_0 rfl ?_
  refine V_if_lt (pc := 1) 19 dX4_isChild_1 (by decide) (by first | omega | assumption | exact and1_lt _ | exact nb_p) (fun h_1 => ?_) (fun h_1 => ?_)
  · skip
    refine V_iconst (pc := 19) 0 dX4_isChild_19 (by decide) ?_
    exact hret _ _ _ _ dX4_isChild_20 (by first | decide | omega | (split <;> omega)) (dI_mk (by first | rw [if_pos (by omega)] | rw [if_neg (by omega)]) rfl)
  · skip
    refine V_iload_n (pc := 4) dX4_isChild_4 rfl ?_
    refine V_aload_n (pc := 5) dX4_isChild_5 rfl ?_
    refine G_X4_shore (pc := 6) (by first | rfl | assumption) fl_X4_16 dX4_isChild_6 ?_
    refine G_X0_children (pc := 9) (by first | rfl | assumption) fl_X4_91 dX4_isChild_9 ?_
    refine V_icmp_ge (pc := 12) 19 dX4_isChild_12 (by decide) (by first | omega | assumption | exact and1_lt _ | exact nb_p) (by first | omega | assumption | exact and1_lt _ | exact nb_p) (fun h_12 => ?_) (fun h_12 => ?_)
    · skip
      refine V_iconst (pc := 19) 0 dX4_isChild_19 (by decide) ?_
      exact hret _ _ _ _ dX4_isChild_20 (by first | decide | omega | (split <;> omega)) (dI_mk (by first | rw [if_pos (by omega)] | rw [if_neg (by omega)]) rfl)
    · skip
      refine V_iconst (pc := 15) 1 dX4_isChild_15 (by decide) ?_
      refine V_goto (pc := 16) 20 dX4_isChild_16 (by decide) ?_
      exact hret _ _ _ _ dX4_isChild_20 (by first | decide | omega | (split <;> omega)) (dI_mk (by first | rw [if_pos (by omega)] | rw [if_neg (by omega)]) rfl)
set_option maxHeartbeats 4000000 in
set_option maxRecDepth 100000 in
theorem c_X4_isCell {B : Bk} {σ : St} {c : Nat} (hc : c < 2 ^ 32) : MC yX4_isCell cX4_isCell 1 (some .boolean) 0 B [.int (nI c)] σ (dI (if c < 12 then 1 else 0) σ) := by
  refine MC_bool RX4 [some (.int (nI c))] 0 (by decide +kernel) rfl rfl (Nat.le_of_ble_eq_true rfl) (fun E Q hret => ?_)
  refine V_iload_n (pc := 0) dX4_isCell_0 rfl ?_
  refine V_if_lt (pc := 1) 14 dX4_isCell_1 (by decide) (by first | omega | assumption | exact and1_lt _ | exact nb_p) (fun h_1 => ?_) (fun h_1 => ?_)
  · skip
    refine V_iconst (pc := 14) 0 dX4_isCell_14 (by decide) ?_
    exact hret _ _ _ _ dX4_isCell_15 (by first | decide | omega | (split <;> omega)) (dI_mk (by first | rw [if_pos (by omega)] | rw [if_neg (by omega)]) rfl)
  · skip
    refine V_iload_n (pc := 4) dX4_isCell_4 rfl ?_
    refine V_bipush (pc := 5) 12 dX4_isCell_5 (by decide) ?_
    refine V_icmp_ge (pc := 7) 14 dX4_isCell_7 (by decide) (by first | omega | assumption | exact and1_lt _ | exact nb_p) (by first | omega | assumption | exact and1_lt _ | exact nb_p) (fun h_7 => ?_) (fun h_7 => ?_)
    · skip
      refine V_iconst (pc := 14) 0 dX4_isCell_14 (by decide) ?_
      exact hret _ _ _ _ dX4_isCell_15 (by first | decide | omega | (split <;> omega)) (dI_mk (by first | rw [if_pos (by omega)] | rw [if_neg (by omega)]) rfl)
    · skip
      refine V_iconst (pc := 10) 1 dX4_isCell_10 (by decide) ?_
      refine V_goto (pc := 11) 15 dX4_isCell_11 (by decide) ?_
      exact hret _ _ _ _ dX4_isCell_15 (by first | decide | omega | (split <;> omega)) (dI_mk (by first | rw [if_pos (by omega)] | rw [if_neg (by omega)]) rfl)
set_option maxHeartbeats 4000000 in
set_option maxRecDepth 100000 in
theorem c_X4_isSubject {B : Bk} {σ : St} {c : Nat} (hc : c < 2 ^ 32) : MC yX4_isSubject cX4_isSubject 1 (some .boolean) 0 B [.int (nI c)] σ (dI (if c < 5 then 1 else 0) σ) := by
  refine MC_bool RX4 [some (.int (nI c))] 0 (by decide +kernel) rfl rfl (Nat.le_of_ble_eq_true rfl) (fun E Q hret => ?_)
  refine V_iload_n (pc := 0) dX4_isSubject_0 rfl ?_
  refine V_if_lt (pc := 1) 13 dX4_isSubject_1 (by decide) (by first | omega | assumption | exact and1_lt _ | exact nb_p) (fun h_1 => ?_) (fun h_1 => ?_)
  · skip
    refine V_iconst (pc := 13) 0 dX4_isSubject_13 (by decide) ?_
    exact hret _ _ _ _ dX4_isSubject_14 (by first | decide | omega | (split <;> omega)) (dI_mk (by first | rw [if_pos (by omega)] | rw [if_neg (by omega)]) rfl)
  · skip
    refine V_iload_n (pc := 4) dX4_isSubject_4 rfl ?_
    refine V_iconst (pc := 5) 5 dX4_isSubject_5 (by decide) ?_
    refine V_icmp_ge (pc := 6) 13 dX4_isSubject_6 (by decide) (by first | omega | assumption | exact and1_lt _ | exact nb_p) (by first | omega | assumption | exact and1_lt _ | exact nb_p) (fun h_6 => ?_) (fun h_6 => ?_)
    · skip
      refine V_iconst (pc := 13) 0 dX4_isSubject_13 (by decide) ?_
      exact hret _ _ _ _ dX4_isSubject_14 (by first | decide | omega | (split <;> omega)) (dI_mk (by first | rw [if_pos (by omega)] | rw [if_neg (by omega)]) rfl)
    · skip
      refine V_iconst (pc := 9) 1 dX4_isSubject_9 (by decide) ?_
      refine V_goto (pc := 10) 14 dX4_isSubject_10 (by decide) ?_
      exact hret _ _ _ _ dX4_isSubject_14 (by first | decide | omega | (split <;> omega)) (dI_mk (by first | rw [if_pos (by omega)] | rw [if_neg (by omega)]) rfl)
def slP (B : Bk) (σ : St) (k n s : Nat) : Option Value → St → Prop := fun v u => v = some (if s < n then .ref (B.1 (rT k s)) else .null) ∧ u = σ
set_option maxHeartbeats 4000000 in
set_option maxRecDepth 100000 in
theorem c_X4_slotAt {B : Bk} {σ : St} {s : Nat} (hs : s < 2 ^ 32) : MC yX4_slotAt cX4_slotAt 2 (some (.object "PotSchools$Pots")) 0 B [.ref (B.1 17), .int (nI s)] σ (slP B σ 22 2 s) := by
  refine MC_ref RX4 [some (.ref (B.1 17)), some (.int (nI s))] 0 (by decide +kernel) rfl rfl (Nat.le_of_ble_eq_true rfl) (fun E Q hret => ?_)
  refine V_iload_n (pc := 0) dX4_slotAt_0 rfl ?_
  refine V_if_lt (pc := 1) 22 dX4_slotAt_1 (by decide) (by first | omega | assumption | exact and1_lt _ | exact nb_p) (fun h_1 => ?_) (fun h_1 => ?_)
  · skip
    refine V_null (pc := 22) dX4_slotAt_22 ?_
    exact hret _ _ _ _ dX4_slotAt_23 (by first | exact Or.inr ⟨_, rfl⟩ | exact Or.inl rfl) ⟨by first | rw [if_pos (by omega)] | rw [if_neg (by omega)], rfl⟩
  · skip
    refine V_iload_n (pc := 4) dX4_slotAt_4 rfl ?_
    refine V_aload_n (pc := 5) dX4_slotAt_5 rfl ?_
    refine G_X4_kept (pc := 6) (by first | rfl | assumption) fl_X4_43 dX4_slotAt_6 ?_
    refine V_alen (pc := 9) (by first | rfl | assumption) (by decide) (by decide) dX4_slotAt_9 ?_
    refine V_icmp_ge (pc := 10) 22 dX4_slotAt_10 (by decide) (by first | omega | assumption | exact and1_lt _ | exact nb_p) (by first | omega | assumption | exact and1_lt _ | exact nb_p) (fun h_10 => ?_) (fun h_10 => ?_)
    · skip
      refine V_null (pc := 22) dX4_slotAt_22 ?_
      exact hret _ _ _ _ dX4_slotAt_23 (by first | exact Or.inr ⟨_, rfl⟩ | exact Or.inl rfl) ⟨by first | rw [if_pos (by omega)] | rw [if_neg (by omega)], rfl⟩
    · skip
      refine V_aload_n (pc := 13) dX4_slotAt_13 rfl ?_
      refine G_X4_kept (pc := 14) (by first | rfl | assumption) fl_X4_43 dX4_slotAt_14 ?_
      refine V_iload_n (pc := 17) dX4_slotAt_17 rfl ?_
      refine V_aald (pc := 18) (by first | rfl | assumption) (by first | omega | assumption | exact and1_lt _ | exact nb_p) dX4_slotAt_18 ?_
      refine V_goto (pc := 19) 23 dX4_slotAt_19 (by decide) ?_
      exact hret _ _ _ _ dX4_slotAt_23 (by first | exact Or.inr ⟨_, rfl⟩ | exact Or.inl rfl) ⟨by first | rw [if_pos (by omega)] | rw [if_neg (by omega)], rfl⟩
set_option maxHeartbeats 4000000 in
set_option maxRecDepth 100000 in
theorem c_X4_cellBits {B : Bk} {σ : St} {k l n : Nat} (hk : kd k = (0, l)) (hn : n ≤ l) (hf : ∀ i, i < n → σ k i < 32) : MC yX4_cellBits cX4_cellBits 4 (some .int) 1 B [.ref (B.1 k), .int (nI n)] σ (dI (cbF (σ k) n) σ) := by
  have hn4 := kd_le k
  rw [hk] at hn4
  have hn5 : l ≤ 448 := hn4
  refine MC_int RX4 [some (.ref (B.1 k)), some (.int (nI n)), none, none] 2 (by decide +kernel) rfl rfl (Nat.le_of_ble_eq_true rfl) (fun E Q hret => ?_)
  refine V_iconst (pc := 0) 0 dX4_cellBits_0 (by decide) ?_
  refine V_istore_n (pc := 1) dX4_cellBits_1 (by decide) rfl ?_
  refine V_iconst (pc := 2) 0 dX4_cellBits_2 (by decide) ?_
  refine V_istore_n (pc := 3) dX4_cellBits_3 (by decide) rfl ?_
  have L_4 : ∀ (m : Nat) (i : Nat), n - i = m → i ≤ n → V E B RX4 cX4_cellBits 4 1 Q 4 [some (.ref (B.1 k)), some (.int (nI n)), some (.int (nI (cbF (σ k) i))), some (.int (nI i))] [] (σ) := by
    intro m
    induction m using Nat.strongRecOn with
    | _ m ih =>
      intro i hm hi
      refine V_iload_n (pc := 4) dX4_cellBits_4 rfl ?_
      refine V_iload_n (pc := 5) dX4_cellBits_5 rfl ?_
      refine V_icmp_ge (pc := 6) 25 dX4_cellBits_6 (by decide) (by first | omega | assumption | exact and1_lt _ | exact nb_p) (by first | omega | assumption | exact and1_lt _ | exact nb_p) (fun h_6 => ?_) (fun h_6 => ?_)
      · skip
        refine V_iload_n (pc := 25) dX4_cellBits_25 rfl ?_
        exact hret _ _ _ _ dX4_cellBits_26 (dI_mk (by rw [show i = n by omega]) rfl)
      · skip
        refine V_iload_n (pc := 9) dX4_cellBits_9 rfl ?_
        refine V_iconst (pc := 10) 1 dX4_cellBits_10 (by decide) ?_
        refine V_aload_n (pc := 11) dX4_cellBits_11 rfl ?_
        refine V_iload_n (pc := 12) dX4_cellBits_12 rfl ?_
        refine V_callS_I (pc := 13) ff_X4_at ml_X4_101 (c_X4_atI hk (by omega)) dX4_cellBits_13 rfl rfl (by decide) (by decide) (Nat.le_of_ble_eq_true rfl) ?_
        refine V_ishl (pc := 16) dX4_cellBits_16 (hf i (by omega)) ?_
        refine V_ior (pc := 17) dX4_cellBits_17 ?_
        refine V_istore_n (pc := 18) dX4_cellBits_18 (by decide) rfl ?_
        refine V_iinc (pc := 19) 1 dX4_cellBits_19 (by decide) rfl (by decide) rfl ?_
        refine V_goto (pc := 22) 4 dX4_cellBits_22 (by decide) ?_
        exact ih _ (by omega) (i + 1) rfl (by omega)
  exact L_4 _ 0 rfl (by omega)
set_option maxHeartbeats 4000000 in
set_option maxRecDepth 100000 in
theorem c_X4_power {B : Bk} {σ : St} {v n : Nat} (hv : v < 2 ^ 31) (hn : n < 2 ^ 31) : MC yX4_power cX4_power 5 (some .long) 0 B [.int (nI v), .int (nI n)] σ (dJ (lN (v ^ n)) σ) := by
  refine MC_long RX4 [some (.int (nI v)), some (.int (nI n)), none, none, none] 3 (by decide +kernel) rfl rfl (Nat.le_of_ble_eq_true rfl) (fun E Q hret => ?_)
  refine V_lconst (pc := 0) (v := lN 1) dX4_power_0 rfl ?_
  refine V_lstore_n (pc := 1) dX4_power_1 (by decide) rfl ?_
  refine V_iconst (pc := 2) 0 dX4_power_2 (by decide) ?_
  refine V_istore (pc := 3) dX4_power_3 (by decide) rfl ?_
  have L_5 : ∀ (m : Nat) (i s : Nat), n - i = m → i ≤ n → s = v ^ i → V E B RX4 cX4_power 5 0 Q 5 [some (.int (nI v)), some (.int (nI n)), some (.long (lN s)), none, some (.int (nI i))] [] (σ) := by
    intro m
    induction m using Nat.strongRecOn with
    | _ m ih =>
      intro i s hm hi hs
      refine V_iload (pc := 5) dX4_power_5 rfl ?_
      refine V_iload_n (pc := 7) dX4_power_7 rfl ?_
      refine V_icmp_ge (pc := 8) 22 dX4_power_8 (by decide) (by first | omega | assumption | exact and1_lt _ | exact nb_p) (by first | omega | assumption | exact and1_lt _ | exact nb_p) (fun h_8 => ?_) (fun h_8 => ?_)
      · skip
        refine V_lload_n (pc := 22) dX4_power_22 rfl ?_
        exact hret _ _ _ _ dX4_power_23 ⟨by rw [hs, show i = n by omega], rfl⟩
      · skip
        refine V_lload_n (pc := 11) dX4_power_11 rfl ?_
        refine V_iload_n (pc := 12) dX4_power_12 rfl ?_
        refine V_i2l (pc := 13) dX4_power_13 (nI_l hv) ?_
        refine V_lmul (pc := 14) dX4_power_14 ?_
        rw [lN_mul]
        refine V_lstore_n (pc := 15) dX4_power_15 (by decide) rfl ?_
        refine V_iinc (pc := 16) 1 dX4_power_16 (by decide) rfl (by decide) rfl ?_
        refine V_goto (pc := 19) 5 dX4_power_19 (by decide) ?_
        exact ih _ (by omega) (i + 1) _ rfl (by omega) (by rw [hs, Nat.pow_succ])
  exact L_5 _ 0 _ rfl (by omega) rfl
set_option maxHeartbeats 4000000 in
set_option maxRecDepth 100000 in
theorem c_X4_factorial {B : Bk} {σ : St} {n : Nat} (hn : n < 2 ^ 30) : MC yX4_factorial cX4_factorial 3 (some .int) 0 B [.int (nI n)] σ (dI (fct n) σ) := by
  refine MC_int RX4 [some (.int (nI n)), none, none] 2 (by decide +kernel) rfl rfl (Nat.le_of_ble_eq_true rfl) (fun E Q hret => ?_)
  refine V_iconst (pc := 0) 1 dX4_factorial_0 (by decide) ?_
  refine V_istore_n (pc := 1) dX4_factorial_1 (by decide) rfl ?_
  refine V_iconst (pc := 2) 2 dX4_factorial_2 (by decide) ?_
  refine V_istore_n (pc := 3) dX4_factorial_3 (by decide) rfl ?_
  have L_4 : ∀ (m : Nat) (i s : Nat), n + 1 - i = m → 2 ≤ i → (i ≤ n + 1 ∨ i = 2) → s = fct (i - 1) → V E B RX4 cX4_factorial 3 0 Q 4 [some (.int (nI n)), some (.int (nI s)), some (.int (nI i))] [] (σ) := by
    intro m
    induction m using Nat.strongRecOn with
    | _ m ih =>
      intro i s hm hi hj hs
      refine V_iload_n (pc := 4) dX4_factorial_4 rfl ?_
      refine V_iload_n (pc := 5) dX4_factorial_5 rfl ?_
      refine V_icmp_gt (pc := 6) 19 dX4_factorial_6 (by decide) (by first | omega | assumption | exact and1_lt _ | exact nb_p) (by first | omega | assumption | exact and1_lt _ | exact nb_p) (fun h_6 => ?_) (fun h_6 => ?_)
      · skip
        refine V_iload_n (pc := 19) dX4_factorial_19 rfl ?_
        exact hret _ _ _ _ dX4_factorial_20 (dI_mk (by rw [hs]; by_cases h0 : n = 0 ; (rw [h0, show i - 1 = 1 by omega]; rfl) ; rw [show i - 1 = n by omega]) rfl)
      · skip
        refine V_iload_n (pc := 9) dX4_factorial_9 rfl ?_
        refine V_iload_n (pc := 10) dX4_factorial_10 rfl ?_
        refine V_imul (pc := 11) dX4_factorial_11 ?_
        refine V_istore_n (pc := 12) dX4_factorial_12 (by decide) rfl ?_
        refine V_iinc (pc := 13) 1 dX4_factorial_13 (by decide) rfl (by decide) rfl ?_
        refine V_goto (pc := 16) 4 dX4_factorial_16 (by decide) ?_
        exact ih _ (by omega) (i + 1) _ rfl (by omega) (by omega) (by rw [hs, show i + 1 - 1 = (i - 1) + 1 by omega, fct, show i - 1 + 1 = i by omega])
  exact L_4 _ 2 _ rfl (by omega) (by omega) rfl
theorem eu_step {x y i : Nat} (hy : 0 < y) (h : y < x) (hb : x * y * 2 ^ i < 2 ^ 40) : y * (x % y) * 2 ^ (i + 1) < 2 ^ 40 := by
  have h1 : x % y < y := Nat.mod_lt _ hy
  have h2 : x % y + y ≤ x := by
    have := Nat.mod_add_div x y
    have h3 : 1 ≤ x / y := (Nat.one_le_div_iff hy).mpr (by omega)
    have h4 : y * 1 ≤ y * (x / y) := Nat.mul_le_mul_left y h3
    omega
  have h5 : y * (x % y) * 2 ≤ x * y := by
    rw [Nat.mul_assoc, Nat.mul_comm x y]
    exact Nat.mul_le_mul_left y (by omega)
  rw [Nat.pow_succ, Nat.mul_comm (2 ^ i) 2, ← Nat.mul_assoc]
  exact Nat.lt_of_le_of_lt (Nat.mul_le_mul_right _ h5) hb
set_option maxHeartbeats 4000000 in
set_option maxRecDepth 100000 in
theorem c_X4_commonDivisor {B : Bk} {σ : St} {a b : Nat} (ha : a < 2 ^ 31) (hb0 : 0 < b) (hb : b ≤ 2 ^ 20) : MC yX4_commonDivisor cX4_commonDivisor 6 (some .int) 0 B [.int (nI a), .int (nI b)] σ (dI (Nat.gcd a b) σ) := by
  refine MC_int RX4 [some (.int (nI a)), some (.int (nI b)), none, none, none, none] 4 (by decide +kernel) rfl rfl (Nat.le_of_ble_eq_true rfl) (fun E Q hret => ?_)
  refine V_iload_n (pc := 0) dX4_commonDivisor_0 rfl ?_
  refine V_istore_n (pc := 1) dX4_commonDivisor_1 (by decide) rfl ?_
  refine V_iload_n (pc := 2) dX4_commonDivisor_2 rfl ?_
  refine V_istore_n (pc := 3) dX4_commonDivisor_3 (by decide) rfl ?_
  refine V_iconst (pc := 4) 0 dX4_commonDivisor_4 (by decide) ?_
  refine V_istore (pc := 5) dX4_commonDivisor_5 (by decide) rfl ?_
  have L_7 : ∀ (m : Nat) (i x y : Nat) (z : Option Value), 64 - i = m → i ≤ 64 → x < 2 ^ 31 → y < 2 ^ 31 → Nat.gcd x y = Nat.gcd a b → (i = 0 ∧ y = b) ∨ (1 ≤ i ∧ y < x ∧ x * y * 2 ^ (i - 1) < 2 ^ 40) → okS [some (.int 0), z] 1 = true → V E B RX4 cX4_commonDivisor 6 0 Q 7 [some (.int (nI a)), some (.int (nI b)), some (.int (nI x)), some (.int (nI y)), some (.int (nI i)), z] [] (σ) := by
    intro m
    induction m using Nat.strongRecOn with
    | _ m ih =>
      intro i x y z hm hi hx hy hg hI hz
      refine V_iload (pc := 7) dX4_commonDivisor_7 rfl ?_
      refine V_bipush (pc := 9) 64 dX4_commonDivisor_9 (by decide) ?_
      refine V_icmp_ge (pc := 11) 34 dX4_commonDivisor_11 (by decide) (by first | omega | assumption | exact and1_lt _ | exact nb_p) (by first | omega | assumption | exact and1_lt _ | exact nb_p) (fun h_11 => ?_) (fun h_11 => ?_)
      · skip
        refine V_iload_n (pc := 34) dX4_commonDivisor_34 rfl ?_
        exact hret _ _ _ _ dX4_commonDivisor_35 (dI_mk (by
  first
  | (rw [← hg, h_15, Nat.gcd_zero_right]; done)
  | (rcases hI with h | ⟨h1, h2, h3⟩
     · exfalso; omega
     · have hi64 : i = 64 := by omega
       rw [hi64] at h3
       have hy0 : y = 0 := by
         rcases Nat.eq_zero_or_pos y with q | q
         · exact q
         · exfalso
           have h4 : 1 * 1 ≤ x * y := Nat.mul_le_mul (by omega) q
           have h5 : 1 * 2 ^ (64 - 1) ≤ x * y * 2 ^ (64 - 1) := Nat.mul_le_mul_right _ h4
           omega
       rw [← hg, hy0, Nat.gcd_zero_right])) rfl)
      · skip
        refine V_iload_n (pc := 14) dX4_commonDivisor_14 rfl ?_
        refine V_if_eq (pc := 15) 34 dX4_commonDivisor_15 (by decide) (by first | omega | assumption | exact and1_lt _ | exact nb_p) (fun h_15 => ?_) (fun h_15 => ?_)
        · skip
          refine V_iload_n (pc := 34) dX4_commonDivisor_34 rfl ?_
          exact hret _ _ _ _ dX4_commonDivisor_35 (dI_mk (by
  first
  | (rw [← hg, h_15, Nat.gcd_zero_right]; done)
  | (rcases hI with h | ⟨h1, h2, h3⟩
     · exfalso; omega
     · have hi64 : i = 64 := by omega
       rw [hi64] at h3
       have hy0 : y = 0 := by
         rcases Nat.eq_zero_or_pos y with q | q
         · exact q
         · exfalso
           have h4 : 1 * 1 ≤ x * y := Nat.mul_le_mul (by omega) q
           have h5 : 1 * 2 ^ (64 - 1) ≤ x * y * 2 ^ (64 - 1) := Nat.mul_le_mul_right _ h4
           omega
       rw [← hg, hy0, Nat.gcd_zero_right])) rfl)
        · skip
          refine V_iload_n (pc := 18) dX4_commonDivisor_18 rfl ?_
          refine V_iload_n (pc := 19) dX4_commonDivisor_19 rfl ?_
          refine V_irem (pc := 20) dX4_commonDivisor_20 (by first | omega | assumption | exact and1_lt _ | exact nb_p) (by first | omega | assumption | exact and1_lt _ | exact nb_p) (by first | omega | assumption | exact and1_lt _ | exact nb_p) ?_
          refine V_istore (pc := 21) dX4_commonDivisor_21 (by decide) rfl ?_
          refine V_iload_n (pc := 23) dX4_commonDivisor_23 rfl ?_
          refine V_istore_n (pc := 24) dX4_commonDivisor_24 (by decide) rfl ?_
          refine V_iload (pc := 25) dX4_commonDivisor_25 rfl ?_
          refine V_istore_n (pc := 27) dX4_commonDivisor_27 (by decide) rfl ?_
          refine V_iinc (pc := 28) 1 dX4_commonDivisor_28 (by decide) rfl (by decide) rfl ?_
          refine V_goto (pc := 31) 7 dX4_commonDivisor_31 (by decide) ?_
          have hlt := Nat.mod_lt x (show 0 < y by omega)
          exact ih _ (by omega) (i + 1) y (x % y) _ rfl (by omega) (by omega) (by omega) (by rw [gcd_step, hg]) (Or.inr ⟨by omega, hlt, by
            rcases hI with ⟨rfl, rfl⟩ | ⟨h1, h2, h3⟩
            · rw [Nat.zero_add, Nat.sub_self, Nat.pow_zero, Nat.mul_one]
              have h5 : y * (x % y) ≤ y * y := Nat.mul_le_mul_left y (by omega)
              have h6 : y * y ≤ 2 ^ 20 * 2 ^ 20 := Nat.mul_le_mul hb hb
              have h7 : y * (x % y) < y * y := Nat.mul_lt_mul_of_pos_left hlt (by omega)
              omega
            · have := eu_step (i := i - 1) (show 0 < y by omega) h2 h3
              rw [show i - 1 + 1 = i by omega] at this
              rw [show i + 1 - 1 = i by omega]
              exact this⟩) rfl
  exact L_7 _ 0 a b none rfl (by omega) (by omega) (by omega) rfl (Or.inl ⟨rfl, rfl⟩) rfl
def rawI (x : Int32) (τ : St) : Option Value → St → Prop := fun v u => v = some (.int x) ∧ u = τ
section MM
variable {E : EE} {B : Bk} {own : String} {cc : ByteArray} {nL d : Nat} {Q : State → Prop} {pc idx : Nat} {lv : List (Option Value)} {st : List Value} {σ : St}
theorem V_mmax {x y : Int32} (hl : Cond.methodLink own idx yJ9_max_7cf53 ∈ gw) (hd : decode cc pc = .ok (.invokestatic idx, 3)) (h1 : 1 ≤ d) (hr : (st.map fun v => v.category).sum ≤ 8) (kk : V E B own cc nL d Q (pc + 3) lv (.int (if x < y then y else x) :: st) σ) : V E B own cc nL d Q pc lv (.int y :: .int x :: st) σ := fun ok H locs ls hI hl' => by
  have kq := kk ok H locs ls hI hl'
  obtain ⟨hx, hb, hml, hown, hts, hK, r1, r2, r3, r4⟩ := ok
  exact va_mmax hx hb (by rw [hml]; exact hl'.1.symm) hown (hts _ hl) (hts _ ff_J9_max_7cf53.1) (hts _ ff_J9_max_7cf53.2.1) (hts _ ff_J9_max_7cf53.2.2.1) (by omega) (by omega) r3 r4 hd kq
theorem V_mmin {x y : Int32} (hl : Cond.methodLink own idx yJ9_min_7cf53 ∈ gw) (hd : decode cc pc = .ok (.invokestatic idx, 3)) (h1 : 1 ≤ d) (hr : (st.map fun v => v.category).sum ≤ 8) (kk : V E B own cc nL d Q (pc + 3) lv (.int (if y < x then y else x) :: st) σ) : V E B own cc nL d Q pc lv (.int y :: .int x :: st) σ := fun ok H locs ls hI hl' => by
  have kq := kk ok H locs ls hI hl'
  obtain ⟨hx, hb, hml, hown, hts, hK, r1, r2, r3, r4⟩ := ok
  exact va_mmin hx hb (by rw [hml]; exact hl'.1.symm) hown (hts _ hl) (hts _ ff_J9_min_7cf53.1) (hts _ ff_J9_min_7cf53.2.1) (hts _ ff_J9_min_7cf53.2.2.1) (by omega) (by omega) r3 r4 hd kq
theorem V_mabs {x : Int32} (hl : Cond.methodLink own idx yJ9_abs_0f7a4 ∈ gw) (hd : decode cc pc = .ok (.invokestatic idx, 3)) (h1 : 1 ≤ d) (hr : (st.map fun v => v.category).sum ≤ 8) (kk : V E B own cc nL d Q (pc + 3) lv (.int (if 0 ≤ x then x else 0 - x) :: st) σ) : V E B own cc nL d Q pc lv (.int x :: st) σ := fun ok H locs ls hI hl' => by
  have kq := kk ok H locs ls hI hl'
  obtain ⟨hx, hb, hml, hown, hts, hK, r1, r2, r3, r4⟩ := ok
  exact va_mabs hx hb (by rw [hml]; exact hl'.1.symm) hown (hts _ hl) (hts _ ff_J9_abs_0f7a4.1) (hts _ ff_J9_abs_0f7a4.2.1) (hts _ ff_J9_abs_0f7a4.2.2.1) (by omega) (by omega) r3 r4 hd kq
end MM
theorem abs_is {x : Int32} {n : Nat} (hx : AbsIs x n) : (if 0 ≤ x then x else 0 - x) = nI n := by
  rcases hx with ⟨h1, h2⟩ | ⟨h1, h2⟩
  · rw [if_neg (Int32.not_le.mpr h1), Int32.zero_sub]; exact h2
  · rw [if_pos (Int32.not_lt.mp h1)]; exact h2
set_option maxHeartbeats 4000000 in
set_option maxRecDepth 100000 in
theorem c_X4_inLeastTerms {B : Bk} {σ : St} {x : Int32} {n b up : Nat} (hx : AbsIs x n) (hn : n < 2 ^ 31) (hb0 : 0 < b) (hb : b ≤ 2 ^ 20) (hu : up < 2) : MC yX4_inLeastTerms cX4_inLeastTerms 4 (some .int) 1 B [.int x, .int (nI b), .int (nI up)] σ (rawI (if up = 0 then nI (b / Nat.gcd n b) else x / nI (Nat.gcd n b)) σ) := by
  have hg : 0 < Nat.gcd n b := Nat.gcd_pos_of_pos_right _ hb0
  have hg2 : Nat.gcd n b ≤ b := Nat.le_of_dvd hb0 (Nat.gcd_dvd_right _ _)
  refine MC_int RX4 [some (.int x), some (.int (nI b)), some (.int (nI up)), none] 1 (by decide +kernel) rfl rfl (Nat.le_of_ble_eq_true rfl) (fun E Q hret => ?_)
  refine V_iload_n (pc := 0) dX4_inLeastTerms_0 rfl ?_
  refine V_mabs (pc := 1) ml_X4_296 dX4_inLeastTerms_1 (by decide) (Nat.le_of_ble_eq_true rfl) ?_
  rw [abs_is hx]
  refine V_iload_n (pc := 4) dX4_inLeastTerms_4 rfl ?_
  refine V_callS_I (pc := 5) ff_X4_commonDivisor ml_X4_299 (c_X4_commonDivisor hn hb0 hb) dX4_inLeastTerms_5 rfl rfl (by decide) (by decide) (Nat.le_of_ble_eq_true rfl) ?_
  refine V_istore_n (pc := 8) dX4_inLeastTerms_8 (by decide) rfl ?_
  refine V_iload_n (pc := 9) dX4_inLeastTerms_9 rfl ?_
  refine V_iconst (pc := 10) 1 dX4_inLeastTerms_10 (by decide) ?_
  refine V_icmp_ge (pc := 11) 24 dX4_inLeastTerms_11 (by decide) (by first | omega | assumption | exact and1_lt _ | exact nb_p) (by first | omega | assumption | exact and1_lt _ | exact nb_p) (fun h_11 => ?_) (fun h_11 => absurd h_11 (by omega))
  refine V_iload_n (pc := 24) dX4_inLeastTerms_24 rfl ?_
  refine V_if_eq (pc := 25) 34 dX4_inLeastTerms_25 (by decide) (by first | omega | assumption | exact and1_lt _ | exact nb_p) (fun h_25 => ?_) (fun h_25 => ?_)
  · skip
    refine V_iload_n (pc := 34) dX4_inLeastTerms_34 rfl ?_
    refine V_iload_n (pc := 35) dX4_inLeastTerms_35 rfl ?_
    refine V_idiv (pc := 36) dX4_inLeastTerms_36 (by omega) hg (by omega) ?_
    exact hret _ _ _ _ dX4_inLeastTerms_37 ⟨by first | rw [if_pos (by omega)] | rw [if_neg (by omega)], rfl⟩
  · skip
    refine V_iload_n (pc := 28) dX4_inLeastTerms_28 rfl ?_
    refine V_iload_n (pc := 29) dX4_inLeastTerms_29 rfl ?_
    refine V_idivR (pc := 30) dX4_inLeastTerms_30 (nI_ne0 hg (by omega)) ?_
    refine V_goto (pc := 31) 37 dX4_inLeastTerms_31 (by decide) ?_
    exact hret _ _ _ _ dX4_inLeastTerms_37 ⟨by first | rw [if_pos (by omega)] | rw [if_neg (by omega)], rfl⟩
set_option maxHeartbeats 4000000 in
set_option maxRecDepth 100000 in
theorem c_X4_beside {B : Bk} {σ : St} {c w : Nat} (hc : c < 2 ^ 30) (hw : w < 2 ^ 31) : MC yX4_beside cX4_beside 2 (some .int) 0 B [.int (nI c), .int (nI w)] σ (dI (onw c w) σ) := by
  refine MC_int RX4 [some (.int (nI c)), some (.int (nI w))] 0 (by decide +kernel) rfl rfl (Nat.le_of_ble_eq_true rfl) (fun E Q hret => ?_)
  refine V_iload_n (pc := 0) dX4_beside_0 rfl ?_
  by_cases hs_1_0 : w = 0
  · skip
    refine V_tabK (pc := 1) (m := 0) 32 dX4_beside_1 hs_1_0 (by decide) (by decide) rfl (by decide) ?_
    refine V_iload_n (pc := 32) dX4_beside_32 rfl ?_
    refine V_iconst (pc := 33) 4 dX4_beside_33 (by decide) ?_
    refine V_irem (pc := 34) dX4_beside_34 (by first | omega | assumption | exact and1_lt _ | exact nb_p) (by first | omega | assumption | exact and1_lt _ | exact nb_p) (by first | omega | assumption | exact and1_lt _ | exact nb_p) ?_
    refine V_if_ne (pc := 35) 42 dX4_beside_35 (by decide) (by first | omega | assumption | exact and1_lt _ | exact nb_p) (fun h_35 => ?_) (fun h_35 => ?_)
    · skip
      refine V_iload_n (pc := 42) dX4_beside_42 rfl ?_
      refine V_iconst (pc := 43) 1 dX4_beside_43 (by decide) ?_
      refine V_isub (pc := 44) dX4_beside_44 (by omega) ?_
      exact hret _ _ _ _ dX4_beside_45 (dI_mk (by unfold onw; (repeat' split) <;> omega) rfl)
    · skip
      refine V_iload_n (pc := 38) dX4_beside_38 rfl ?_
      refine V_goto (pc := 39) 45 dX4_beside_39 (by decide) ?_
      exact hret _ _ _ _ dX4_beside_45 (dI_mk (by unfold onw; (repeat' split) <;> omega) rfl)
  by_cases hs_1_1 : w = 1
  · skip
    refine V_tabK (pc := 1) (m := 1) 46 dX4_beside_1 hs_1_1 (by decide) (by decide) rfl (by decide) ?_
    refine V_iload_n (pc := 46) dX4_beside_46 rfl ?_
    refine V_iconst (pc := 47) 4 dX4_beside_47 (by decide) ?_
    refine V_irem (pc := 48) dX4_beside_48 (by first | omega | assumption | exact and1_lt _ | exact nb_p) (by first | omega | assumption | exact and1_lt _ | exact nb_p) (by first | omega | assumption | exact and1_lt _ | exact nb_p) ?_
    refine V_iconst (pc := 49) 3 dX4_beside_49 (by decide) ?_
    refine V_icmp_ne (pc := 50) 57 dX4_beside_50 (by decide) (by first | omega | assumption | exact and1_lt _ | exact nb_p) (by first | omega | assumption | exact and1_lt _ | exact nb_p) (fun h_50 => ?_) (fun h_50 => ?_)
    · skip
      refine V_iload_n (pc := 57) dX4_beside_57 rfl ?_
      refine V_iconst (pc := 58) 1 dX4_beside_58 (by decide) ?_
      refine V_iadd (pc := 59) dX4_beside_59 ?_
      exact hret _ _ _ _ dX4_beside_60 (dI_mk (by unfold onw; (repeat' split) <;> omega) rfl)
    · skip
      refine V_iload_n (pc := 53) dX4_beside_53 rfl ?_
      refine V_goto (pc := 54) 60 dX4_beside_54 (by decide) ?_
      exact hret _ _ _ _ dX4_beside_60 (dI_mk (by unfold onw; (repeat' split) <;> omega) rfl)
  by_cases hs_1_2 : w = 2
  · skip
    refine V_tabK (pc := 1) (m := 2) 61 dX4_beside_1 hs_1_2 (by decide) (by decide) rfl (by decide) ?_
    refine V_iload_n (pc := 61) dX4_beside_61 rfl ?_
    refine V_iconst (pc := 62) 4 dX4_beside_62 (by decide) ?_
    refine V_icmp_ge (pc := 63) 70 dX4_beside_63 (by decide) (by first | omega | assumption | exact and1_lt _ | exact nb_p) (by first | omega | assumption | exact and1_lt _ | exact nb_p) (fun h_63 => ?_) (fun h_63 => ?_)
    · skip
      refine V_iload_n (pc := 70) dX4_beside_70 rfl ?_
      refine V_iconst (pc := 71) 4 dX4_beside_71 (by decide) ?_
      refine V_isub (pc := 72) dX4_beside_72 (by omega) ?_
      exact hret _ _ _ _ dX4_beside_73 (dI_mk (by unfold onw; (repeat' split) <;> omega) rfl)
    · skip
      refine V_iload_n (pc := 66) dX4_beside_66 rfl ?_
      refine V_goto (pc := 67) 73 dX4_beside_67 (by decide) ?_
      exact hret _ _ _ _ dX4_beside_73 (dI_mk (by unfold onw; (repeat' split) <;> omega) rfl)
  by_cases hs_1_3 : w = 3
  · skip
    refine V_tabK (pc := 1) (m := 3) 74 dX4_beside_1 hs_1_3 (by decide) (by decide) rfl (by decide) ?_
    refine V_iload_n (pc := 74) dX4_beside_74 rfl ?_
    refine V_bipush (pc := 75) 8 dX4_beside_75 (by decide) ?_
    refine V_icmp_lt (pc := 77) 84 dX4_beside_77 (by decide) (by first | omega | assumption | exact and1_lt _ | exact nb_p) (by first | omega | assumption | exact and1_lt _ | exact nb_p) (fun h_77 => ?_) (fun h_77 => ?_)
    · skip
      refine V_iload_n (pc := 84) dX4_beside_84 rfl ?_
      refine V_iconst (pc := 85) 4 dX4_beside_85 (by decide) ?_
      refine V_iadd (pc := 86) dX4_beside_86 ?_
      exact hret _ _ _ _ dX4_beside_87 (dI_mk (by unfold onw; (repeat' split) <;> omega) rfl)
    · skip
      refine V_iload_n (pc := 80) dX4_beside_80 rfl ?_
      refine V_goto (pc := 81) 87 dX4_beside_81 (by decide) ?_
      exact hret _ _ _ _ dX4_beside_87 (dI_mk (by unfold onw; (repeat' split) <;> omega) rfl)
  refine V_tabO (pc := 1) 88 dX4_beside_1 (by first | omega | assumption | exact and1_lt _ | exact nb_p) (by omega) (by decide) (by decide) ?_
  refine V_iload_n (pc := 88) dX4_beside_88 rfl ?_
  exact hret _ _ _ _ dX4_beside_89 (dI_mk (by unfold onw; (repeat' split) <;> omega) rfl)
def gnx (gk ck kn : Nat) : Nat := if gk = 3 then 4294967295 else if 0 < mor gk kn ∧ ck = 1 then mor gk kn + 1 else mor gk kn
set_option maxHeartbeats 4000000 in
set_option maxRecDepth 100000 in
theorem c_X4_gain {B : Bk} {σ : St} {gk ck kn : Nat} (h1 : gk < 4) (h2 : ck < 4) (h3 : kn ≤ 9) : MC yX4_gain cX4_gain 4 (some .int) 0 B [.int (nI gk), .int (nI ck), .int (nI kn)] σ (dI (gnx gk ck kn) σ) := by
  refine MC_int RX4 [some (.int (nI gk)), some (.int (nI ck)), some (.int (nI kn)), none] 1 (by decide +kernel) rfl rfl (Nat.le_of_ble_eq_true rfl) (fun E Q hret => ?_)
  have J_69 : ∀ (mo : Nat), gk < 4 → mo = (if gk = 3 then 4294967295 else mor gk kn) → V E B RX4 cX4_gain 4 0 Q 69 [some (.int (nI gk)), some (.int (nI ck)), some (.int (nI kn)), some (.int (nI mo))] [] (σ) := by
    intro mo hg hmo
    have hml : gk ≠ 3 → mor gk kn < 4 := by intro _; unfold mor; (repeat' split) <;> omega
    refine V_iload_n (pc := 69) dX4_gain_69 rfl ?_
    refine V_if_le (pc := 70) 84 dX4_gain_70 (by decide) (by rw [hmo]; split <;> omega) (fun h_70 => ?_) (fun h_70 => ?_)
    · skip
      refine V_iload_n (pc := 84) dX4_gain_84 rfl ?_
      exact hret _ _ _ _ dX4_gain_85 (dI_mk (by unfold gnx; rw [hmo] at *; (repeat' split at *) <;> first | omega | rfl | (exfalso; omega)) rfl)
    · skip
      refine V_iload_n (pc := 73) dX4_gain_73 rfl ?_
      refine V_iconst (pc := 74) 1 dX4_gain_74 (by decide) ?_
      refine V_icmp_ne (pc := 75) 84 dX4_gain_75 (by decide) (by first | omega | assumption | exact and1_lt _ | exact nb_p) (by first | omega | assumption | exact and1_lt _ | exact nb_p) (fun h_75 => ?_) (fun h_75 => ?_)
      · skip
        refine V_iload_n (pc := 84) dX4_gain_84 rfl ?_
        exact hret _ _ _ _ dX4_gain_85 (dI_mk (by unfold gnx; rw [hmo] at *; (repeat' split at *) <;> first | omega | rfl | (exfalso; omega)) rfl)
      · skip
        refine V_iload_n (pc := 78) dX4_gain_78 rfl ?_
        refine V_iconst (pc := 79) 1 dX4_gain_79 (by decide) ?_
        refine V_iadd (pc := 80) dX4_gain_80 ?_
        refine V_goto (pc := 81) 85 dX4_gain_81 (by decide) ?_
        exact hret _ _ _ _ dX4_gain_85 (dI_mk (by unfold gnx; rw [hmo] at *; (repeat' split at *) <;> first | omega | rfl | (exfalso; omega)) rfl)
  refine V_iconst (pc := 0) 0 dX4_gain_0 (by decide) ?_
  refine V_istore_n (pc := 1) dX4_gain_1 (by decide) rfl ?_
  refine V_iload_n (pc := 2) dX4_gain_2 rfl ?_
  by_cases hs_3_0 : gk = 0
  · skip
    refine V_tabK (pc := 3) (m := 0) 32 dX4_gain_3 hs_3_0 (by decide) (by decide) rfl (by decide) ?_
    refine V_iconst (pc := 32) 1 dX4_gain_32 (by decide) ?_
    refine V_istore_n (pc := 33) dX4_gain_33 (by decide) rfl ?_
    refine V_goto (pc := 34) 69 dX4_gain_34 (by decide) ?_
    exact J_69 _ h1 (by unfold mor; (repeat' split) <;> first | omega | (exfalso; omega))
  by_cases hs_3_1 : gk = 1
  · skip
    refine V_tabK (pc := 3) (m := 1) 37 dX4_gain_3 hs_3_1 (by decide) (by decide) rfl (by decide) ?_
    refine V_iload_n (pc := 37) dX4_gain_37 rfl ?_
    refine V_if_ne (pc := 38) 45 dX4_gain_38 (by decide) (by first | omega | assumption | exact and1_lt _ | exact nb_p) (fun h_38 => ?_) (fun h_38 => ?_)
    · skip
      refine V_iconst (pc := 45) 0 dX4_gain_45 (by decide) ?_
      refine V_istore_n (pc := 46) dX4_gain_46 (by decide) rfl ?_
      refine V_goto (pc := 47) 69 dX4_gain_47 (by decide) ?_
      exact J_69 _ h1 (by unfold mor; (repeat' split) <;> first | omega | (exfalso; omega))
    · skip
      refine V_iconst (pc := 41) 3 dX4_gain_41 (by decide) ?_
      refine V_goto (pc := 42) 46 dX4_gain_42 (by decide) ?_
      refine V_istore_n (pc := 46) dX4_gain_46 (by decide) rfl ?_
      refine V_goto (pc := 47) 69 dX4_gain_47 (by decide) ?_
      exact J_69 _ h1 (by unfold mor; (repeat' split) <;> first | omega | (exfalso; omega))
  by_cases hs_3_2 : gk = 2
  · skip
    refine V_tabK (pc := 3) (m := 2) 50 dX4_gain_3 hs_3_2 (by decide) (by decide) rfl (by decide) ?_
    refine V_iload_n (pc := 50) dX4_gain_50 rfl ?_
    refine V_iconst (pc := 51) 3 dX4_gain_51 (by decide) ?_
    refine V_icmp_lt (pc := 52) 59 dX4_gain_52 (by decide) (by first | omega | assumption | exact and1_lt _ | exact nb_p) (by first | omega | assumption | exact and1_lt _ | exact nb_p) (fun h_52 => ?_) (fun h_52 => ?_)
    · skip
      refine V_iconst (pc := 59) 0 dX4_gain_59 (by decide) ?_
      refine V_istore_n (pc := 60) dX4_gain_60 (by decide) rfl ?_
      refine V_goto (pc := 61) 69 dX4_gain_61 (by decide) ?_
      exact J_69 _ h1 (by unfold mor; (repeat' split) <;> first | omega | (exfalso; omega))
    · skip
      refine V_iconst (pc := 55) 2 dX4_gain_55 (by decide) ?_
      refine V_goto (pc := 56) 60 dX4_gain_56 (by decide) ?_
      refine V_istore_n (pc := 60) dX4_gain_60 (by decide) rfl ?_
      refine V_goto (pc := 61) 69 dX4_gain_61 (by decide) ?_
      exact J_69 _ h1 (by unfold mor; (repeat' split) <;> first | omega | (exfalso; omega))
  by_cases hs_3_3 : gk = 3
  · skip
    refine V_tabK (pc := 3) (m := 3) 64 dX4_gain_3 hs_3_3 (by decide) (by decide) rfl (by decide) ?_
    refine V_iconst (pc := 64) 4294967295 dX4_gain_64 (by decide) ?_
    refine V_istore_n (pc := 65) dX4_gain_65 (by decide) rfl ?_
    refine V_goto (pc := 66) 69 dX4_gain_66 (by decide) ?_
    exact J_69 _ h1 (by unfold mor; (repeat' split) <;> first | omega | (exfalso; omega))
  refine V_tabO (pc := 3) 69 dX4_gain_3 (by first | omega | assumption | exact and1_lt _ | exact nb_p) (by omega) (by decide) (by decide) ?_
  exact J_69 _ h1 (by unfold mor; (repeat' split) <;> first | omega | (exfalso; omega))
def chF (f x : Nat) : Nat → Nat
  | 0 => 1
  | i + 1 => chF f x i * (if f.testBit i = true then x else 10 - x)
theorem ch_fl : ∀ x, x ≤ 10 → ∀ n, n ≤ 6 → ∀ f, f < 2 ^ n → chF f x n = flW x n f := by decide +kernel
set_option maxHeartbeats 4000000 in
set_option maxRecDepth 100000 in
theorem c_X4_chanceOf {B : Bk} {σ : St} {f n x : Nat} (hf : f < 64) (hn : n ≤ 6) (hx : x ≤ 10) : MC yX4_chanceOf cX4_chanceOf 5 (some .int) 0 B [.int (nI f), .int (nI n), .int (nI x)] σ (dI (chF f x n) σ) := by
  refine MC_int RX4 [some (.int (nI f)), some (.int (nI n)), some (.int (nI x)), none, none] 2 (by decide +kernel) rfl rfl (Nat.le_of_ble_eq_true rfl) (fun E Q hret => ?_)
  refine V_iconst (pc := 0) 1 dX4_chanceOf_0 (by decide) ?_
  refine V_istore_n (pc := 1) dX4_chanceOf_1 (by decide) rfl ?_
  refine V_iconst (pc := 2) 0 dX4_chanceOf_2 (by decide) ?_
  refine V_istore (pc := 3) dX4_chanceOf_3 (by decide) rfl ?_
  have L_5 : ∀ (m : Nat) (i s : Nat), n - i = m → i ≤ n → s = chF f x i → V E B RX4 cX4_chanceOf 5 0 Q 5 [some (.int (nI f)), some (.int (nI n)), some (.int (nI x)), some (.int (nI s)), some (.int (nI i))] [] (σ) := by
    intro m
    induction m using Nat.strongRecOn with
    | _ m ih =>
      intro i s hm hi hs
      refine V_iload (pc := 5) dX4_chanceOf_5 rfl ?_
      refine V_iload_n (pc := 7) dX4_chanceOf_7 rfl ?_
      refine V_icmp_ge (pc := 8) 38 dX4_chanceOf_8 (by decide) (by first | omega | assumption | exact and1_lt _ | exact nb_p) (by first | omega | assumption | exact and1_lt _ | exact nb_p) (fun h_8 => ?_) (fun h_8 => ?_)
      · skip
        refine V_iload_n (pc := 38) dX4_chanceOf_38 rfl ?_
        exact hret _ _ _ _ dX4_chanceOf_39 (dI_mk (by rw [hs, show i = n by omega]) rfl)
      · skip
        refine V_iload_n (pc := 11) dX4_chanceOf_11 rfl ?_
        refine V_iload_n (pc := 12) dX4_chanceOf_12 rfl ?_
        refine V_iload (pc := 13) dX4_chanceOf_13 rfl ?_
        refine V_ishr (pc := 15) dX4_chanceOf_15 (by first | omega | assumption | exact and1_lt _ | exact nb_p) (by first | omega | assumption | exact and1_lt _ | exact nb_p) ?_
        refine V_iconst (pc := 16) 1 dX4_chanceOf_16 (by decide) ?_
        refine V_iand (pc := 17) dX4_chanceOf_17 ?_
        refine V_iconst (pc := 18) 1 dX4_chanceOf_18 (by decide) ?_
        refine V_icmp_ne (pc := 19) 26 dX4_chanceOf_19 (by decide) (Nat.lt_trans (and1_lt _) (by decide)) (by decide) (fun h_19 => ?_) (fun h_19 => ?_)
        · skip
          refine V_bipush (pc := 26) 10 dX4_chanceOf_26 (by decide) ?_
          refine V_iload_n (pc := 28) dX4_chanceOf_28 rfl ?_
          refine V_isub (pc := 29) dX4_chanceOf_29 (by omega) ?_
          refine V_imul (pc := 30) dX4_chanceOf_30 ?_
          refine V_istore_n (pc := 31) dX4_chanceOf_31 (by decide) rfl ?_
          refine V_iinc (pc := 32) 1 dX4_chanceOf_32 (by decide) rfl (by decide) rfl ?_
          refine V_goto (pc := 35) 5 dX4_chanceOf_35 (by decide) ?_
          exact ih _ (by omega) (i + 1) _ rfl (by omega) (by rw [chF, hs]; first | rw [if_pos (tb_and.mp h_19)] | rw [if_neg (fun q => h_19 (tb_and.mpr q))])
        · skip
          refine V_iload_n (pc := 22) dX4_chanceOf_22 rfl ?_
          refine V_goto (pc := 23) 30 dX4_chanceOf_23 (by decide) ?_
          refine V_imul (pc := 30) dX4_chanceOf_30 ?_
          refine V_istore_n (pc := 31) dX4_chanceOf_31 (by decide) rfl ?_
          refine V_iinc (pc := 32) 1 dX4_chanceOf_32 (by decide) rfl (by decide) rfl ?_
          refine V_goto (pc := 35) 5 dX4_chanceOf_35 (by decide) ?_
          exact ih _ (by omega) (i + 1) _ rfl (by omega) (by rw [chF, hs]; first | rw [if_pos (tb_and.mp h_19)] | rw [if_neg (fun q => h_19 (tb_and.mpr q))])
  exact L_5 _ 0 _ rfl (by omega) rfl
set_option maxHeartbeats 4000000 in
set_option maxRecDepth 100000 in
theorem c_X4_pair {B : Bk} {σ : St} {a b : Nat} : MC yX4_pair cX4_pair 2 (some .int) 0 B [.int (nI a), .int (nI b)] σ (dI (a * 6 + b) σ) := by
  refine MC_int RX4 [some (.int (nI a)), some (.int (nI b))] 0 (by decide +kernel) rfl rfl (Nat.le_of_ble_eq_true rfl) (fun E Q hret => ?_)
  refine V_iload_n (pc := 0) dX4_pair_0 rfl ?_
  refine V_bipush (pc := 1) 6 dX4_pair_1 (by decide) ?_
  refine V_imul (pc := 3) dX4_pair_3 ?_
  refine V_iload_n (pc := 4) dX4_pair_4 rfl ?_
  refine V_iadd (pc := 5) dX4_pair_5 ?_
  exact hret _ _ _ _ dX4_pair_6 (dI_mk rfl rfl)
def us_ (x : Int32) (n : Nat) : Int32 := (x.toUInt32 >>> ((nI n).toUInt32 &&& Int32.toUInt32 31)).toInt32
def bc1 (x : Int32) : Int32 := x - (us_ x 1 &&& 1431655765)
def bc2 (x : Int32) : Int32 := (x &&& 858993459) + (us_ x 2 &&& 858993459)
def bc3 (x : Int32) : Int32 := (x + us_ x 4) &&& 252645135
def bc4 (x : Int32) : Int32 := x + us_ x 8
def bc5 (x : Int32) : Int32 := x + us_ x 16
theorem bc_ok : ∀ k, k < 64 → bc5 (bc4 (bc3 (bc2 (bc1 (nI k))))) &&& nI 63 = nI (onS k 12) := by decide +kernel
set_option maxHeartbeats 4000000 in
set_option maxRecDepth 100000 in
theorem c_J6_bitCount_0f7a4 {B : Bk} {σ : St} {k : Nat} (hk : k < 64) : MC yJ6_bitCount_0f7a4 cJ6_bitCount_0f7a4 1 (some .int) 0 B [.int (nI k)] σ (dI (onS k 12) σ) := by
  refine MC_int RJ6 [some (.int (nI k))] 0 (by decide +kernel) rfl rfl (Nat.le_of_ble_eq_true rfl) (fun E Q hret => ?_)
  refine V_iload_n (pc := 0) dJ6_bitCount_0f7a4_0 rfl ?_
  refine V_iload_n (pc := 1) dJ6_bitCount_0f7a4_1 rfl ?_
  refine V_iconst (pc := 2) 1 dJ6_bitCount_0f7a4_2 (by decide) ?_
  refine V_iushrR (pc := 3) dJ6_bitCount_0f7a4_3 rfl ?_
  refine V_ldc_w (pc := 4) ki_J6_265 dJ6_bitCount_0f7a4_4 ?_
  refine V_iandR (pc := 7) dJ6_bitCount_0f7a4_7 ?_
  refine V_isubR (pc := 8) dJ6_bitCount_0f7a4_8 ?_
  refine V_istore_n (pc := 9) dJ6_bitCount_0f7a4_9 (by decide) rfl ?_
  refine V_iload_n (pc := 10) dJ6_bitCount_0f7a4_10 rfl ?_
  refine V_ldc_w (pc := 11) ki_J6_266 dJ6_bitCount_0f7a4_11 ?_
  refine V_iandR (pc := 14) dJ6_bitCount_0f7a4_14 ?_
  refine V_iload_n (pc := 15) dJ6_bitCount_0f7a4_15 rfl ?_
  refine V_iconst (pc := 16) 2 dJ6_bitCount_0f7a4_16 (by decide) ?_
  refine V_iushrR (pc := 17) dJ6_bitCount_0f7a4_17 rfl ?_
  refine V_ldc_w (pc := 18) ki_J6_266 dJ6_bitCount_0f7a4_18 ?_
  refine V_iandR (pc := 21) dJ6_bitCount_0f7a4_21 ?_
  refine V_iaddR (pc := 22) dJ6_bitCount_0f7a4_22 ?_
  refine V_istore_n (pc := 23) dJ6_bitCount_0f7a4_23 (by decide) rfl ?_
  refine V_iload_n (pc := 24) dJ6_bitCount_0f7a4_24 rfl ?_
  refine V_iload_n (pc := 25) dJ6_bitCount_0f7a4_25 rfl ?_
  refine V_iconst (pc := 26) 4 dJ6_bitCount_0f7a4_26 (by decide) ?_
  refine V_iushrR (pc := 27) dJ6_bitCount_0f7a4_27 rfl ?_
  refine V_iaddR (pc := 28) dJ6_bitCount_0f7a4_28 ?_
  refine V_ldc_w (pc := 29) ki_J6_267 dJ6_bitCount_0f7a4_29 ?_
  refine V_iandR (pc := 32) dJ6_bitCount_0f7a4_32 ?_
  refine V_istore_n (pc := 33) dJ6_bitCount_0f7a4_33 (by decide) rfl ?_
  refine V_iload_n (pc := 34) dJ6_bitCount_0f7a4_34 rfl ?_
  refine V_iload_n (pc := 35) dJ6_bitCount_0f7a4_35 rfl ?_
  refine V_bipush (pc := 36) 8 dJ6_bitCount_0f7a4_36 (by decide) ?_
  refine V_iushrR (pc := 38) dJ6_bitCount_0f7a4_38 rfl ?_
  refine V_iaddR (pc := 39) dJ6_bitCount_0f7a4_39 ?_
  refine V_istore_n (pc := 40) dJ6_bitCount_0f7a4_40 (by decide) rfl ?_
  refine V_iload_n (pc := 41) dJ6_bitCount_0f7a4_41 rfl ?_
  refine V_iload_n (pc := 42) dJ6_bitCount_0f7a4_42 rfl ?_
  refine V_bipush (pc := 43) 16 dJ6_bitCount_0f7a4_43 (by decide) ?_
  refine V_iushrR (pc := 45) dJ6_bitCount_0f7a4_45 rfl ?_
  refine V_iaddR (pc := 46) dJ6_bitCount_0f7a4_46 ?_
  refine V_istore_n (pc := 47) dJ6_bitCount_0f7a4_47 (by decide) rfl ?_
  refine V_iload_n (pc := 48) dJ6_bitCount_0f7a4_48 rfl ?_
  refine V_bipush (pc := 49) 63 dJ6_bitCount_0f7a4_49 (by decide) ?_
  refine V_iandR (pc := 51) dJ6_bitCount_0f7a4_51 ?_
  exact hret _ _ _ _ dJ6_bitCount_0f7a4_52 ⟨congrArg (fun z => some (Value.int z)) (bc_ok k hk), rfl⟩
