/-! the model's leaves -/
theorem cmp_lt {x y : Int64} (h : lg_cmp x y < 0) : ¬ y ≤ x := fun q => by
  have := (lg_cmp_ge x y).mpr q
  exact absurd h (Int32.not_lt.mpr this)
theorem cmp_nlt {x y : Int64} (h : ¬ lg_cmp x y < 0) : y ≤ x := (lg_cmp_ge x y).mp (Int32.not_lt.mp h)
theorem cmp_gt {x y : Int64} (h : 0 < lg_cmp x y) : ¬ x ≤ y := fun q => by
  have := (lg_cmp_le x y).mpr q
  exact absurd h (Int32.not_lt.mpr this)
theorem cmp_ngt {x y : Int64} (h : ¬ 0 < lg_cmp x y) : x ≤ y := (lg_cmp_le x y).mp (Int32.not_lt.mp h)
set_option maxHeartbeats 4000000 in
set_option maxRecDepth 100000 in
theorem c_X5_in {B : Bk} {σ : St} {v a b : Int64} : MC yX5_in cX5_in 6 (some .boolean) 0 B [.long v, .long a, .long b] σ (dI (if a ≤ v ∧ v ≤ b then 1 else 0) σ) := by
  refine MC_bool RX5 [some (.long v), none, some (.long a), none, some (.long b), none] 0 (by decide +kernel) rfl rfl (Nat.le_of_ble_eq_true rfl) (fun E Q hret => ?_)
  refine V_lload_n (pc := 0) dX5_in_0 rfl ?_
  refine V_lload_n (pc := 1) dX5_in_1 rfl ?_
  refine V_lcmp (pc := 2) dX5_in_2 ?_
  refine V_ifR_lt (pc := 3) 17 dX5_in_3 (by decide) (fun h_3 => ?_) (fun h_3 => ?_)
  · skip
    refine V_iconst (pc := 17) 0 dX5_in_17 (by decide) ?_
    exact hret _ _ _ _ dX5_in_18 (by first | decide | omega | (split <;> omega)) (dI_mk (by first | (rw [if_pos ⟨cmp_nlt (by assumption), cmp_ngt (by assumption)⟩]) | (rw [if_neg (fun h => cmp_lt (by assumption) h.1)]) | (rw [if_neg (fun h => cmp_gt (by assumption) h.2)])) rfl)
  · skip
    refine V_lload_n (pc := 6) dX5_in_6 rfl ?_
    refine V_lload (pc := 7) dX5_in_7 rfl ?_
    refine V_lcmp (pc := 9) dX5_in_9 ?_
    refine V_ifR_gt (pc := 10) 17 dX5_in_10 (by decide) (fun h_10 => ?_) (fun h_10 => ?_)
    · skip
      refine V_iconst (pc := 17) 0 dX5_in_17 (by decide) ?_
      exact hret _ _ _ _ dX5_in_18 (by first | decide | omega | (split <;> omega)) (dI_mk (by first | (rw [if_pos ⟨cmp_nlt (by assumption), cmp_ngt (by assumption)⟩]) | (rw [if_neg (fun h => cmp_lt (by assumption) h.1)]) | (rw [if_neg (fun h => cmp_gt (by assumption) h.2)])) rfl)
    · skip
      refine V_iconst (pc := 13) 1 dX5_in_13 (by decide) ?_
      refine V_goto (pc := 14) 18 dX5_in_14 (by decide) ?_
      exact hret _ _ _ _ dX5_in_18 (by first | decide | omega | (split <;> omega)) (dI_mk (by first | (rw [if_pos ⟨cmp_nlt (by assumption), cmp_ngt (by assumption)⟩]) | (rw [if_neg (fun h => cmp_lt (by assumption) h.1)]) | (rw [if_neg (fun h => cmp_gt (by assumption) h.2)])) rfl)
theorem tb_and {s k : Nat} : (s / 2 ^ k &&& 1 = 1) ↔ s.testBit k = true := by
  rw [Nat.and_one_is_mod, Nat.testBit_eq_decide_div_mod_eq, decide_eq_true_eq]
set_option maxHeartbeats 4000000 in
set_option maxRecDepth 100000 in
theorem c_X5_has {B : Bk} {σ : St} {s k : Nat} (hs : s < 2 ^ 31) (hk : k < 32) : MC yX5_has cX5_has 2 (some .boolean) 0 B [.int (nI s), .int (nI k)] σ (dI (if s.testBit k = true then 1 else 0) σ) := by
  refine MC_bool RX5 [some (.int (nI s)), some (.int (nI k))] 0 (by decide +kernel) rfl rfl (Nat.le_of_ble_eq_true rfl) (fun E Q hret => ?_)
  refine V_iload_n (pc := 0) dX5_has_0 rfl ?_
  refine V_iload_n (pc := 1) dX5_has_1 rfl ?_
  refine V_ishr (pc := 2) dX5_has_2 (by first | omega | assumption | exact and1_lt _ | exact nb_p) (by first | omega | assumption | exact and1_lt _ | exact nb_p) ?_
  refine V_iconst (pc := 3) 1 dX5_has_3 (by decide) ?_
  refine V_iand (pc := 4) dX5_has_4 ?_
  refine V_iconst (pc := 5) 1 dX5_has_5 (by decide) ?_
  refine V_icmp_ne (pc := 6) 13 dX5_has_6 (by decide) (Nat.lt_trans (and1_lt _) (by decide)) (by decide) (fun h_6 => ?_) (fun h_6 => ?_)
  · skip
    refine V_iconst (pc := 13) 0 dX5_has_13 (by decide) ?_
    exact hret _ _ _ _ dX5_has_14 (by first | decide | omega | (split <;> omega)) (dI_mk (by first | (rw [if_pos (tb_and.mp (by assumption))]) | (rw [if_neg (fun h => (by assumption : _ ≠ _) (tb_and.mpr h))])) rfl)
  · skip
    refine V_iconst (pc := 9) 1 dX5_has_9 (by decide) ?_
    refine V_goto (pc := 10) 14 dX5_has_10 (by decide) ?_
    exact hret _ _ _ _ dX5_has_14 (by first | decide | omega | (split <;> omega)) (dI_mk (by first | (rw [if_pos (tb_and.mp (by assumption))]) | (rw [if_neg (fun h => (by assumption : _ ≠ _) (tb_and.mpr h))])) rfl)
def onS (s : Nat) : Nat → Nat
  | 0 => 0
  | n + 1 => onS s n + (s / 2 ^ n &&& 1)
theorem in_64 {c : Nat} : (nI c).toInt64.toInt = (nI c).toInt := by simp
theorem in_lit {c lo hi : Nat} (hc : c < 2 ^ 32) (hlo : lo < 2 ^ 31) (hhi : hi < 2 ^ 31) : (lN lo ≤ (nI c).toInt64 ∧ (nI c).toInt64 ≤ lN hi) ↔ (lo ≤ c ∧ c ≤ hi) := by
  rw [Int64.le_iff_toInt_le, Int64.le_iff_toInt_le, in_64, lN_toInt hlo, lN_toInt hhi]
  by_cases h : c < 2 ^ 31
  · rw [nI_toInt h]; omega
  · rw [nz_neg (by omega) hc]; omega
theorem in_cnt {c n : Nat} (hc : c < 2 ^ 32) (hn : n < 2 ^ 30) : (lN 0 ≤ (nI c).toInt64 ∧ (nI c).toInt64 ≤ (nI n - nI 1).toInt64) ↔ c < n := by
  rw [Int64.le_iff_toInt_le, Int64.le_iff_toInt_le, in_64, lN_toInt (by decide), Int32.toInt_toInt64, pk_sub_toInt hn (by decide)]
  by_cases h : c < 2 ^ 31
  · rw [nI_toInt h]; omega
  · rw [nz_neg (by omega) hc]; omega
theorem c_X5_inI {B : Bk} {σ : St} {c lo hi : Nat} (hc : c < 2 ^ 32) (hlo : lo < 2 ^ 31) (hhi : hi < 2 ^ 31) : MC yX5_in cX5_in 6 (some .boolean) 0 B [.long (nI c).toInt64, .long (lN lo), .long (lN hi)] σ (dI (if lo ≤ c ∧ c ≤ hi then 1 else 0) σ) := c_X5_in.weak (fun v u h => by
  obtain ⟨rfl, rfl⟩ := h
  exact ⟨by simp only [in_lit hc hlo hhi], rfl⟩)
theorem c_X5_inC {B : Bk} {σ : St} {c n : Nat} (hc : c < 2 ^ 32) (hn : n < 2 ^ 30) : MC yX5_in cX5_in 6 (some .boolean) 0 B [.long (nI c).toInt64, .long (lN 0), .long (nI n - nI 1).toInt64] σ (dI (if c < n then 1 else 0) σ) := c_X5_in.weak (fun v u h => by
  obtain ⟨rfl, rfl⟩ := h
  exact ⟨by simp only [in_cnt hc hn], rfl⟩)
set_option maxHeartbeats 4000000 in
set_option maxRecDepth 100000 in
theorem c_X5_ones {B : Bk} {σ : St} {s : Nat} (hs : s < 2 ^ 31) : MC yX5_ones cX5_ones 3 (some .int) 0 B [.int (nI s)] σ (dI (onS s 12) σ) := by
  refine MC_int RX5 [some (.int (nI s)), none, none] 2 (by decide +kernel) rfl rfl (Nat.le_of_ble_eq_true rfl) (fun E Q hret => ?_)
  refine V_iconst (pc := 0) 0 dX5_ones_0 (by decide) ?_
  refine V_istore_n (pc := 1) dX5_ones_1 (by decide) rfl ?_
  refine V_iconst (pc := 2) 0 dX5_ones_2 (by decide) ?_
  refine V_istore_n (pc := 3) dX5_ones_3 (by decide) rfl ?_
  have L_4 : ∀ (m : Nat) (i : Nat), 12 - i = m → i ≤ 12 → V E B RX5 cX5_ones 3 0 Q 4 [some (.int (nI s)), some (.int (nI (onS s i))), some (.int (nI i))] [] (σ) := by
    intro m
    induction m using Nat.strongRecOn with
    | _ m ih =>
      intro i hm hi
      refine V_iload_n (pc := 4) dX5_ones_4 rfl ?_
      refine V_bipush (pc := 5) 12 dX5_ones_5 (by decide) ?_
      refine V_icmp_ge (pc := 7) 24 dX5_ones_7 (by decide) (by first | omega | assumption | exact and1_lt _ | exact nb_p) (by first | omega | assumption | exact and1_lt _ | exact nb_p) (fun h_7 => ?_) (fun h_7 => ?_)
      · skip
        refine V_iload_n (pc := 24) dX5_ones_24 rfl ?_
        exact hret _ _ _ _ dX5_ones_25 (dI_mk (by rw [show i = 12 by omega]) rfl)
      · skip
        refine V_iload_n (pc := 10) dX5_ones_10 rfl ?_
        refine V_iload_n (pc := 11) dX5_ones_11 rfl ?_
        refine V_iload_n (pc := 12) dX5_ones_12 rfl ?_
        refine V_ishr (pc := 13) dX5_ones_13 (by first | omega | assumption | exact and1_lt _ | exact nb_p) (by first | omega | assumption | exact and1_lt _ | exact nb_p) ?_
        refine V_iconst (pc := 14) 1 dX5_ones_14 (by decide) ?_
        refine V_iand (pc := 15) dX5_ones_15 ?_
        refine V_iadd (pc := 16) dX5_ones_16 ?_
        refine V_istore_n (pc := 17) dX5_ones_17 (by decide) rfl ?_
        refine V_iinc (pc := 18) 1 dX5_ones_18 (by decide) rfl (by decide) rfl ?_
        refine V_goto (pc := 21) 4 dX5_ones_21 (by decide) ?_
        exact ih _ (by omega) (i + 1) rfl (by omega)
  exact L_4 _ 0 rfl (by omega)
set_option maxHeartbeats 4000000 in
set_option maxRecDepth 100000 in
theorem c_X5_isGround {B : Bk} {σ : St} {c : Nat} (hc : c < 2 ^ 32) (hn : σ 0 1 ≤ 6) : MC yX5_isGround cX5_isGround 2 (some .boolean) 1 B [.ref (B.1 0), .int (nI c)] σ (dI (if c < σ 0 1 then 1 else 0) σ) := by
  refine MC_bool RX5 [some (.ref (B.1 0)), some (.int (nI c))] 0 (by decide +kernel) rfl rfl (Nat.le_of_ble_eq_true rfl) (fun E Q hret => ?_)
  refine V_iload_n (pc := 0) dX5_isGround_0 rfl ?_
  refine V_i2l (pc := 1) dX5_isGround_1 rfl ?_
  refine V_lconst (pc := 2) (v := lN 0) dX5_isGround_2 rfl ?_
  refine V_aload_n (pc := 3) dX5_isGround_3 rfl ?_
  refine G_X5_grounds (pc := 4) (by first | rfl | assumption) fl_X5_111 dX5_isGround_4 ?_
  refine V_iconst (pc := 7) 1 dX5_isGround_7 (by decide) ?_
  refine V_isubR (pc := 8) dX5_isGround_8 ?_
  refine V_i2l (pc := 9) dX5_isGround_9 rfl ?_
  refine V_callS_I (pc := 10) ff_X5_in ml_X5_65 (c_X5_inC hc (by omega)) dX5_isGround_10 rfl rfl (by decide) (by decide) (Nat.le_of_ble_eq_true rfl) ?_
  exact hret _ _ _ _ dX5_isGround_13 (by first | decide | omega | (split <;> omega)) (dI_mk rfl rfl)
set_option maxHeartbeats 4000000 in
set_option maxRecDepth 100000 in
theorem c_X5_isChild {B : Bk} {σ : St} {c : Nat} (hc : c < 2 ^ 32) (hn : σ 0 2 ≤ 6) : MC yX5_isChild cX5_isChild 2 (some .boolean) 1 B [.ref (B.1 0), .int (nI c)] σ (dI (if c < σ 0 2 then 1 else 0) σ) := by
  refine MC_bool RX5 [some (.ref (B.1 0)), some (.int (nI c))] 0 (by decide +kernel) rfl rfl (Nat.le_of_ble_eq_true rfl) (fun E Q hret => ?_)
  refine V_iload_n (pc := 0) dX5_isChild_0 rfl ?_
  refine V_i2l (pc := 1) dX5_isChild_1 rfl ?_
  refine V_lconst (pc := 2) (v := lN 0) dX5_isChild_2 rfl ?_
  refine V_aload_n (pc := 3) dX5_isChild_3 rfl ?_
  refine G_X5_children (pc := 4) (by first | rfl | assumption) fl_X5_114 dX5_isChild_4 ?_
  refine V_iconst (pc := 7) 1 dX5_isChild_7 (by decide) ?_
  refine V_isubR (pc := 8) dX5_isChild_8 ?_
  refine V_i2l (pc := 9) dX5_isChild_9 rfl ?_
  refine V_callS_I (pc := 10) ff_X5_in ml_X5_65 (c_X5_inC hc (by omega)) dX5_isChild_10 rfl rfl (by decide) (by decide) (Nat.le_of_ble_eq_true rfl) ?_
  exact hret _ _ _ _ dX5_isChild_13 (by first | decide | omega | (split <;> omega)) (dI_mk rfl rfl)
set_option maxHeartbeats 4000000 in
set_option maxRecDepth 100000 in
theorem c_X5_isCell {B : Bk} {σ : St} {c : Nat} (hc : c < 2 ^ 32) : MC yX5_isCell cX5_isCell 1 (some .boolean) 1 B [.int (nI c)] σ (dI (if c < 12 then 1 else 0) σ) := by
  refine MC_bool RX5 [some (.int (nI c))] 0 (by decide +kernel) rfl rfl (Nat.le_of_ble_eq_true rfl) (fun E Q hret => ?_)
  refine V_iload_n (pc := 0) dX5_isCell_0 rfl ?_
  refine V_i2l (pc := 1) dX5_isCell_1 rfl ?_
  refine V_lconst (pc := 2) (v := lN 0) dX5_isCell_2 rfl ?_
  refine V_ldc2N (pc := 3) (m := 11) kl_X5_78 rfl dX5_isCell_3 ?_
  refine V_callS_I (pc := 6) ff_X5_in ml_X5_65 (c_X5_inI hc (by decide) (by decide)) dX5_isCell_6 rfl rfl (by decide) (by decide) (Nat.le_of_ble_eq_true rfl) ?_
  exact hret _ _ _ _ dX5_isCell_9 (by first | decide | omega | (split <;> omega)) (dI_mk (by grind) rfl)
set_option maxHeartbeats 4000000 in
set_option maxRecDepth 100000 in
theorem c_X5_isSubject {B : Bk} {σ : St} {c : Nat} (hc : c < 2 ^ 32) : MC yX5_isSubject cX5_isSubject 1 (some .boolean) 1 B [.int (nI c)] σ (dI (if c < 5 then 1 else 0) σ) := by
  refine MC_bool RX5 [some (.int (nI c))] 0 (by decide +kernel) rfl rfl (Nat.le_of_ble_eq_true rfl) (fun E Q hret => ?_)
  refine V_iload_n (pc := 0) dX5_isSubject_0 rfl ?_
  refine V_i2l (pc := 1) dX5_isSubject_1 rfl ?_
  refine V_lconst (pc := 2) (v := lN 0) dX5_isSubject_2 rfl ?_
  refine V_ldc2N (pc := 3) (m := 4) kl_X5_120 rfl dX5_isSubject_3 ?_
  refine V_callS_I (pc := 6) ff_X5_in ml_X5_65 (c_X5_inI hc (by decide) (by decide)) dX5_isSubject_6 rfl rfl (by decide) (by decide) (Nat.le_of_ble_eq_true rfl) ?_
  exact hret _ _ _ _ dX5_isSubject_9 (by first | decide | omega | (split <;> omega)) (dI_mk (by grind) rfl)
