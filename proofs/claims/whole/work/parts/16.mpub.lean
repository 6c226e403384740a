/-! the model's calls, as pure functions of the store: answer, store -/
def dP (r : Nat × St) : Option Value → St → Prop := dI r.1 r.2
def wrM (σ : St) (x : Nat) : Nat × St := if x ≤ 255 then (if σ 0 17 = 48 then (4294967292, σ) else (σ 0 17 + 1, pt (pt σ 10 (σ 0 17) x) 0 17 (σ 0 17 + 1))) else (4294967294, σ)
set_option maxHeartbeats 4000000 in
set_option maxRecDepth 100000 in
theorem c_X5_write {B : Bk} {σ : St} {x : Nat} (hx : x < 2 ^ 32) (hl : σ 0 17 ≤ 48) : MC yX5_write cX5_write 2 (some .int) 1 B [.ref (B.1 0), .int (nI x)] σ (dP (wrM σ x)) := by
  refine MC_int RX5 [some (.ref (B.1 0)), some (.int (nI x))] 0 (by decide +kernel) rfl rfl (Nat.le_of_ble_eq_true rfl) (fun E Q hret => ?_)
  refine V_iload_n (pc := 0) dX5_write_0 rfl ?_
  refine V_i2l (pc := 1) dX5_write_1 rfl ?_
  refine V_lconst (pc := 2) (v := lN 0) dX5_write_2 rfl ?_
  refine V_ldc2N (pc := 3) (m := 255) kl_X5_63 rfl dX5_write_3 ?_
  refine V_callS_I (pc := 6) ff_X5_in ml_X5_65 (c_X5_inI (by first | omega | assumption | exact and1_lt _ | exact nb_p) (by decide) (by decide)) dX5_write_6 rfl rfl (by decide) (by decide) (Nat.le_of_ble_eq_true rfl) ?_
  refine V_ifb_ne (pc := 9) 15 dX5_write_9 (by decide) (fun h_9 => ?_) (fun h_9 => ?_)
  · skip
    refine V_aload_n (pc := 15) dX5_write_15 rfl ?_
    refine G_X5_length (pc := 16) (by first | rfl | assumption) fl_X5_69 dX5_write_16 ?_
    refine V_bipush (pc := 19) 48 dX5_write_19 (by decide) ?_
    refine V_icmp_ne (pc := 21) 27 dX5_write_21 (by decide) (by first | omega | assumption | exact and1_lt _ | exact nb_p) (by first | omega | assumption | exact and1_lt _ | exact nb_p) (fun h_21 => ?_) (fun h_21 => ?_)
    · skip
      refine V_aload_n (pc := 27) dX5_write_27 rfl ?_
      refine G_X5_text (pc := 28) (by first | rfl | assumption) fl_X5_37 dX5_write_28 ?_
      refine V_aload_n (pc := 31) dX5_write_31 rfl ?_
      refine G_X5_length (pc := 32) (by first | rfl | assumption) fl_X5_69 dX5_write_32 ?_
      refine V_iload_n (pc := 35) dX5_write_35 rfl ?_
      refine V_iast (pc := 36) (by first | rfl | assumption) (by first | omega | assumption | exact and1_lt _ | exact nb_p) dX5_write_36 ?_
      refine V_aload_n (pc := 37) dX5_write_37 rfl ?_
      refine V_dup (pc := 38) dX5_write_38 rfl ?_
      refine G_X5_length (pc := 39) (by first | rfl | assumption) fl_X5_69 dX5_write_39 ?_
      rw [pt_ne (by omega)]
      refine V_iconst (pc := 42) 1 dX5_write_42 (by decide) ?_
      refine V_iadd (pc := 43) dX5_write_43 ?_
      refine P_X5_length (pc := 44) (by first | rfl | assumption) fl_X5_69 dX5_write_44 ?_
      refine V_aload_n (pc := 47) dX5_write_47 rfl ?_
      refine G_X5_length (pc := 48) (by first | rfl | assumption) fl_X5_69 dX5_write_48 ?_
      rw [pt_at]
      exact hret _ _ _ _ dX5_write_51 (by unfold wrM; (repeat' split) <;> first | (exfalso; omega) | exact ⟨rfl, rfl⟩)
    · skip
      refine V_bipush (pc := 24) 4294967292 dX5_write_24 (by decide) ?_
      exact hret _ _ _ _ dX5_write_26 (by unfold wrM; (repeat' split) <;> first | (exfalso; omega) | exact ⟨rfl, rfl⟩)
  · skip
    refine V_bipush (pc := 12) 4294967294 dX5_write_12 (by decide) ?_
    exact hret _ _ _ _ dX5_write_14 (by unfold wrM; (repeat' split) <;> first | (exfalso; omega) | exact ⟨rfl, rfl⟩)
def wiM (σ : St) : Nat × St := (σ 0 17, pt σ 0 17 0)
set_option maxHeartbeats 4000000 in
set_option maxRecDepth 100000 in
theorem c_X5_wipe {B : Bk} {σ : St} : MC yX5_wipe cX5_wipe 2 (some .int) 0 B [.ref (B.1 0)] σ (dP (wiM σ)) := by
  refine MC_int RX5 [some (.ref (B.1 0)), none] 1 (by decide +kernel) rfl rfl (Nat.le_of_ble_eq_true rfl) (fun E Q hret => ?_)
  refine V_aload_n (pc := 0) dX5_wipe_0 rfl ?_
  refine G_X5_length (pc := 1) (by first | rfl | assumption) fl_X5_69 dX5_wipe_1 ?_
  refine V_istore_n (pc := 4) dX5_wipe_4 (by decide) rfl ?_
  refine V_aload_n (pc := 5) dX5_wipe_5 rfl ?_
  refine V_iconst (pc := 6) 0 dX5_wipe_6 (by decide) ?_
  refine P_X5_length (pc := 7) (by first | rfl | assumption) fl_X5_69 dX5_wipe_7 ?_
  refine V_iload_n (pc := 10) dX5_wipe_10 rfl ?_
  exact hret _ _ _ _ dX5_wipe_11 ⟨rfl, rfl⟩
def foM (σ : St) : Nat × St := (σ 0 24, pt σ 0 24 0)
set_option maxHeartbeats 4000000 in
set_option maxRecDepth 100000 in
theorem c_X5_forget {B : Bk} {σ : St} : MC yX5_forget cX5_forget 2 (some .int) 0 B [.ref (B.1 0)] σ (dP (foM σ)) := by
  refine MC_int RX5 [some (.ref (B.1 0)), none] 1 (by decide +kernel) rfl rfl (Nat.le_of_ble_eq_true rfl) (fun E Q hret => ?_)
  refine V_aload_n (pc := 0) dX5_forget_0 rfl ?_
  refine G_X5_known (pc := 1) (by first | rfl | assumption) fl_X5_206 dX5_forget_1 ?_
  refine V_istore_n (pc := 4) dX5_forget_4 (by decide) rfl ?_
  refine V_aload_n (pc := 5) dX5_forget_5 rfl ?_
  refine V_iconst (pc := 6) 0 dX5_forget_6 (by decide) ?_
  refine P_X5_known (pc := 7) (by first | rfl | assumption) fl_X5_206 dX5_forget_7 ?_
  refine V_iload_n (pc := 10) dX5_forget_10 rfl ?_
  exact hret _ _ _ _ dX5_forget_11 ⟨rfl, rfl⟩
def grM (σ : St) (g w : Nat) : Nat := if g < σ 0 1 then (if w = 0 then σ 2 g else if w = 1 then σ 3 g else if w = 2 then σ 4 g else if w = 3 then chA (pM σ 0) (σ 2 g) (σ 0 2) else 4294967294) else 4294967295
set_option maxHeartbeats 4000000 in
set_option maxRecDepth 100000 in
theorem c_X5_ground {B : Bk} {σ : St} {g w : Nat} (hg : g < 2 ^ 32) (hw : w < 2 ^ 32) (o : OKK σ) (hp : OKP (pM σ 0)) : MC yX5_ground cX5_ground 3 (some .int) 2 B [.ref (B.1 0), .int (nI g), .int (nI w)] σ (dI (grM σ g w) σ) := by
  obtain ⟨o0, o1, o2, o3, o4, o5⟩ := id o
  refine MC_int RX5 [some (.ref (B.1 0)), some (.int (nI g)), some (.int (nI w))] 0 (by decide +kernel) rfl rfl (Nat.le_of_ble_eq_true rfl) (fun E Q hret => ?_)
  refine V_aload_n (pc := 0) dX5_ground_0 rfl ?_
  refine V_iload_n (pc := 1) dX5_ground_1 rfl ?_
  refine V_callV_I (pc := 2) ff_X5_isGround ml_X5_146 (by first | rfl | assumption) rfl rfl (c_X5_isGround (by first | omega | assumption | exact and1_lt _ | exact nb_p) (by first | omega | assumption | exact and1_lt _ | exact nb_p)) dX5_ground_2 rfl rfl (by decide) (by decide) (Nat.le_of_ble_eq_true rfl) ?_
  refine V_ifb_ne (pc := 5) 10 dX5_ground_5 (by decide) (fun h_5 => ?_) (fun h_5 => ?_)
  · skip
    refine V_iload_n (pc := 10) dX5_ground_10 rfl ?_
    by_cases hs_11_0 : w = 0
    · skip
      refine V_tabK (pc := 11) (m := 0) 40 dX5_ground_11 hs_11_0 (by decide) (by decide) rfl (by decide) ?_
      refine V_aload_n (pc := 40) dX5_ground_40 rfl ?_
      refine G_X5_groundCell (pc := 41) (by first | rfl | assumption) fl_X5_13 dX5_ground_41 ?_
      refine V_iload_n (pc := 44) dX5_ground_44 rfl ?_
      refine V_iald (pc := 45) (by first | rfl | assumption) (by first | omega | assumption | exact and1_lt _ | exact nb_p) dX5_ground_45 ?_
      exact hret _ _ _ _ dX5_ground_46 (by unfold grM; (repeat' split) <;> first | (exfalso; omega) | exact ⟨rfl, rfl⟩)
    by_cases hs_11_1 : w = 1
    · skip
      refine V_tabK (pc := 11) (m := 1) 47 dX5_ground_11 hs_11_1 (by decide) (by decide) rfl (by decide) ?_
      refine V_aload_n (pc := 47) dX5_ground_47 rfl ?_
      refine G_X5_groundSubject (pc := 48) (by first | rfl | assumption) fl_X5_16 dX5_ground_48 ?_
      refine V_iload_n (pc := 51) dX5_ground_51 rfl ?_
      refine V_iald (pc := 52) (by first | rfl | assumption) (by first | omega | assumption | exact and1_lt _ | exact nb_p) dX5_ground_52 ?_
      exact hret _ _ _ _ dX5_ground_53 (by unfold grM; (repeat' split) <;> first | (exfalso; omega) | exact ⟨rfl, rfl⟩)
    by_cases hs_11_2 : w = 2
    · skip
      refine V_tabK (pc := 11) (m := 2) 54 dX5_ground_11 hs_11_2 (by decide) (by decide) rfl (by decide) ?_
      refine V_aload_n (pc := 54) dX5_ground_54 rfl ?_
      refine G_X5_groundKind (pc := 55) (by first | rfl | assumption) fl_X5_19 dX5_ground_55 ?_
      refine V_iload_n (pc := 58) dX5_ground_58 rfl ?_
      refine V_iald (pc := 59) (by first | rfl | assumption) (by first | omega | assumption | exact and1_lt _ | exact nb_p) dX5_ground_59 ?_
      exact hret _ _ _ _ dX5_ground_60 (by unfold grM; (repeat' split) <;> first | (exfalso; omega) | exact ⟨rfl, rfl⟩)
    by_cases hs_11_3 : w = 3
    · skip
      refine V_tabK (pc := 11) (m := 3) 61 dX5_ground_11 hs_11_3 (by decide) (by decide) rfl (by decide) ?_
      refine V_aload_n (pc := 61) dX5_ground_61 rfl ?_
      refine V_aload_n (pc := 62) dX5_ground_62 rfl ?_
      refine G_X5_groundCell (pc := 63) (by first | rfl | assumption) fl_X5_13 dX5_ground_63 ?_
      refine V_iload_n (pc := 66) dX5_ground_66 rfl ?_
      refine V_iald (pc := 67) (by first | rfl | assumption) (by first | omega | assumption | exact and1_lt _ | exact nb_p) dX5_ground_67 ?_
      refine V_callV_I (pc := 68) ff_X5_childrenAt ml_X5_150 (by first | rfl | assumption) rfl rfl (c_X5_childrenAt o2 (by have := (o4 g h_5).1; omega) hp.1) dX5_ground_68 rfl rfl (by decide) (by decide) (Nat.le_of_ble_eq_true rfl) ?_
      exact hret _ _ _ _ dX5_ground_71 (by unfold grM; (repeat' split) <;> first | (exfalso; omega) | exact ⟨rfl, rfl⟩)
    refine V_tabO (pc := 11) 72 dX5_ground_11 (by first | omega | assumption | exact and1_lt _ | exact nb_p) (by omega) (by decide) (by decide) ?_
    refine V_bipush (pc := 72) 4294967294 dX5_ground_72 (by decide) ?_
    exact hret _ _ _ _ dX5_ground_74 (by unfold grM; (repeat' split) <;> first | (exfalso; omega) | exact ⟨rfl, rfl⟩)
  · skip
    refine V_iconst (pc := 8) 4294967295 dX5_ground_8 (by decide) ?_
    exact hret _ _ _ _ dX5_ground_9 (by unfold grM; (repeat' split) <;> first | (exfalso; omega) | exact ⟨rfl, rfl⟩)
def chM (σ : St) (c w : Nat) : Nat := if c < σ 0 2 then (if w = 0 then σ 6 c else if w = 1 then σ 5 c else if w = 2 then σ 6 5 / 2 ^ c &&& 1 else if w = 3 then wtF (pM σ 0) c 5 else if w = 4 then grA σ (σ 0 20) (σ 6 c) else 4294967294) else 4294967295
theorem pM0 (σ : St) (i : Nat) : pM σ 0 i = σ 6 i := by unfold pM; rw [Nat.mul_zero, Nat.zero_add]
set_option maxHeartbeats 4000000 in
set_option maxRecDepth 100000 in
theorem c_X5_child {B : Bk} {σ : St} {c w : Nat} (hc : c < 2 ^ 32) (hw : w < 2 ^ 32) (o : OKK σ) (ht : σ 0 20 < 64) (hp : OKP (pM σ 0)) : MC yX5_child cX5_child 3 (some .int) 2 B [.ref (B.1 0), .int (nI c), .int (nI w)] σ (dI (chM σ c w) σ) := by
  obtain ⟨o0, o1, o2, o3, o4, o5⟩ := id o
  have hp5 := hp.2.1
  rw [pM0] at hp5
  refine MC_int RX5 [some (.ref (B.1 0)), some (.int (nI c)), some (.int (nI w))] 0 (by decide +kernel) rfl rfl (Nat.le_of_ble_eq_true rfl) (fun E Q hret => ?_)
  refine V_aload_n (pc := 0) dX5_child_0 rfl ?_
  refine V_iload_n (pc := 1) dX5_child_1 rfl ?_
  refine V_callV_I (pc := 2) ff_X5_isChild ml_X5_153 (by first | rfl | assumption) rfl rfl (c_X5_isChild (by first | omega | assumption | exact and1_lt _ | exact nb_p) (by first | omega | assumption | exact and1_lt _ | exact nb_p)) dX5_child_2 rfl rfl (by decide) (by decide) (Nat.le_of_ble_eq_true rfl) ?_
  refine V_ifb_ne (pc := 5) 10 dX5_child_5 (by decide) (fun h_5 => ?_) (fun h_5 => ?_)
  · skip
    refine V_iload_n (pc := 10) dX5_child_10 rfl ?_
    by_cases hs_11_0 : w = 0
    · skip
      refine V_tabK (pc := 11) (m := 0) 44 dX5_child_11 hs_11_0 (by decide) (by decide) rfl (by decide) ?_
      refine V_aload_n (pc := 44) dX5_child_44 rfl ?_
      refine G_X5_now (pc := 45) (by first | rfl | assumption) fl_X5_25 dX5_child_45 ?_
      refine V_iload_n (pc := 48) dX5_child_48 rfl ?_
      refine V_iald (pc := 49) (by first | rfl | assumption) (by first | omega | assumption | exact and1_lt _ | exact nb_p) dX5_child_49 ?_
      exact hret _ _ _ _ dX5_child_50 (by unfold chM; (repeat' split) <;> first | (exfalso; omega) | exact ⟨rfl, rfl⟩)
    by_cases hs_11_1 : w = 1
    · skip
      refine V_tabK (pc := 11) (m := 1) 51 dX5_child_11 hs_11_1 (by decide) (by decide) rfl (by decide) ?_
      refine V_aload_n (pc := 51) dX5_child_51 rfl ?_
      refine G_X5_kind (pc := 52) (by first | rfl | assumption) fl_X5_22 dX5_child_52 ?_
      refine V_iload_n (pc := 55) dX5_child_55 rfl ?_
      refine V_iald (pc := 56) (by first | rfl | assumption) (by first | omega | assumption | exact and1_lt _ | exact nb_p) dX5_child_56 ?_
      exact hret _ _ _ _ dX5_child_57 (by unfold chM; (repeat' split) <;> first | (exfalso; omega) | exact ⟨rfl, rfl⟩)
    by_cases hs_11_2 : w = 2
    · skip
      refine V_tabK (pc := 11) (m := 2) 58 dX5_child_11 hs_11_2 (by decide) (by decide) rfl (by decide) ?_
      refine V_aload_n (pc := 58) dX5_child_58 rfl ?_
      refine G_X5_now (pc := 59) (by first | rfl | assumption) fl_X5_25 dX5_child_59 ?_
      refine V_iconst (pc := 62) 5 dX5_child_62 (by decide) ?_
      refine V_iald (pc := 63) (by first | rfl | assumption) (by first | omega | assumption | exact and1_lt _ | exact nb_p) dX5_child_63 ?_
      refine V_iload_n (pc := 64) dX5_child_64 rfl ?_
      refine V_ishr (pc := 65) dX5_child_65 (by first | omega | assumption | exact and1_lt _ | exact nb_p) (by first | omega | assumption | exact and1_lt _ | exact nb_p) ?_
      refine V_iconst (pc := 66) 1 dX5_child_66 (by decide) ?_
      refine V_iand (pc := 67) dX5_child_67 ?_
      exact hret _ _ _ _ dX5_child_68 (by unfold chM; (repeat' split) <;> first | (exfalso; omega) | exact ⟨rfl, rfl⟩)
    by_cases hs_11_3 : w = 3
    · skip
      refine V_tabK (pc := 11) (m := 3) 69 dX5_child_11 hs_11_3 (by decide) (by decide) rfl (by decide) ?_
      refine V_aload_n (pc := 69) dX5_child_69 rfl ?_
      refine V_iconst (pc := 70) 0 dX5_child_70 (by decide) ?_
      refine V_iload_n (pc := 71) dX5_child_71 rfl ?_
      refine V_callV_I (pc := 72) ff_X5_weightOn ml_X5_143 (by first | rfl | assumption) rfl rfl (c_X5_weightOn (by first | omega | assumption) (by first | omega | assumption)) dX5_child_72 rfl rfl (by decide) (by decide) (Nat.le_of_ble_eq_true rfl) ?_
      exact hret _ _ _ _ dX5_child_75 (by unfold chM; (repeat' split) <;> first | (exfalso; omega) | exact ⟨rfl, rfl⟩)
    by_cases hs_11_4 : w = 4
    · skip
      refine V_tabK (pc := 11) (m := 4) 76 dX5_child_11 hs_11_4 (by decide) (by decide) rfl (by decide) ?_
      refine V_aload_n (pc := 76) dX5_child_76 rfl ?_
      refine V_aload_n (pc := 77) dX5_child_77 rfl ?_
      refine G_X5_now (pc := 78) (by first | rfl | assumption) fl_X5_25 dX5_child_78 ?_
      refine V_iload_n (pc := 81) dX5_child_81 rfl ?_
      refine V_iald (pc := 82) (by first | rfl | assumption) (by first | omega | assumption | exact and1_lt _ | exact nb_p) dX5_child_82 ?_
      refine V_callV_I (pc := 83) ff_X5_groundAt ml_X5_122 (by first | rfl | assumption) rfl rfl (c_X5_groundAt o ht (by have := hp.1 c (by omega); rw [pM0] at this; omega)) dX5_child_83 rfl rfl (by decide) (by decide) (Nat.le_of_ble_eq_true rfl) ?_
      exact hret _ _ _ _ dX5_child_86 (by unfold chM; (repeat' split) <;> first | (exfalso; omega) | exact ⟨rfl, rfl⟩)
    refine V_tabO (pc := 11) 87 dX5_child_11 (by first | omega | assumption | exact and1_lt _ | exact nb_p) (by omega) (by decide) (by decide) ?_
    refine V_bipush (pc := 87) 4294967294 dX5_child_87 (by decide) ?_
    exact hret _ _ _ _ dX5_child_89 (by unfold chM; (repeat' split) <;> first | (exfalso; omega) | exact ⟨rfl, rfl⟩)
  · skip
    refine V_iconst (pc := 8) 4294967295 dX5_child_8 (by decide) ?_
    exact hret _ _ _ _ dX5_child_9 (by unfold chM; (repeat' split) <;> first | (exfalso; omega) | exact ⟨rfl, rfl⟩)
def knM (σ : St) (c s : Nat) : Nat := if c < σ 0 2 ∧ s < 5 then σ 6 (6 + 5 * c + s) else 4294967295
set_option maxHeartbeats 4000000 in
set_option maxRecDepth 100000 in
theorem c_X5_knows {B : Bk} {σ : St} {c s : Nat} (hc : c < 2 ^ 32) (hs : s < 2 ^ 32) (o2 : σ 0 2 ≤ 5) : MC yX5_knows cX5_knows 3 (some .int) 2 B [.ref (B.1 0), .int (nI c), .int (nI s)] σ (dI (knM σ c s) σ) := by
  refine MC_int RX5 [some (.ref (B.1 0)), some (.int (nI c)), some (.int (nI s))] 0 (by decide +kernel) rfl rfl (Nat.le_of_ble_eq_true rfl) (fun E Q hret => ?_)
  refine V_aload_n (pc := 0) dX5_knows_0 rfl ?_
  refine V_iload_n (pc := 1) dX5_knows_1 rfl ?_
  refine V_callV_I (pc := 2) ff_X5_isChild ml_X5_153 (by first | rfl | assumption) rfl rfl (c_X5_isChild (by first | omega | assumption | exact and1_lt _ | exact nb_p) (by first | omega | assumption | exact and1_lt _ | exact nb_p)) dX5_knows_2 rfl rfl (by decide) (by decide) (Nat.le_of_ble_eq_true rfl) ?_
  refine V_ifb_eq (pc := 5) 31 dX5_knows_5 (by decide) (fun h_5 => ?_) (fun h_5 => ?_)
  · skip
    refine V_iconst (pc := 31) 4294967295 dX5_knows_31 (by decide) ?_
    exact hret _ _ _ _ dX5_knows_32 (dI_mk (by unfold knM; first | rw [if_pos ⟨by assumption, by assumption⟩] | rw [if_neg (by omega)]) rfl)
  · skip
    refine V_iload_n (pc := 8) dX5_knows_8 rfl ?_
    refine V_callS_I (pc := 9) ff_X5_isSubject ml_X5_156 (c_X5_isSubject (by first | omega | assumption | exact and1_lt _ | exact nb_p)) dX5_knows_9 rfl rfl (by decide) (by decide) (Nat.le_of_ble_eq_true rfl) ?_
    refine V_ifb_eq (pc := 12) 31 dX5_knows_12 (by decide) (fun h_12 => ?_) (fun h_12 => ?_)
    · skip
      refine V_iconst (pc := 31) 4294967295 dX5_knows_31 (by decide) ?_
      exact hret _ _ _ _ dX5_knows_32 (dI_mk (by unfold knM; first | rw [if_pos ⟨by assumption, by assumption⟩] | rw [if_neg (by omega)]) rfl)
    · skip
      refine V_aload_n (pc := 15) dX5_knows_15 rfl ?_
      refine G_X5_now (pc := 16) (by first | rfl | assumption) fl_X5_25 dX5_knows_16 ?_
      refine V_bipush (pc := 19) 6 dX5_knows_19 (by decide) ?_
      refine V_iconst (pc := 21) 5 dX5_knows_21 (by decide) ?_
      refine V_iload_n (pc := 22) dX5_knows_22 rfl ?_
      refine V_imul (pc := 23) dX5_knows_23 ?_
      refine V_iadd (pc := 24) dX5_knows_24 ?_
      refine V_iload_n (pc := 25) dX5_knows_25 rfl ?_
      refine V_iadd (pc := 26) dX5_knows_26 ?_
      refine V_iald (pc := 27) (by first | rfl | assumption) (by first | omega | assumption | exact and1_lt _ | exact nb_p) dX5_knows_27 ?_
      refine V_goto (pc := 28) 32 dX5_knows_28 (by decide) ?_
      exact hret _ _ _ _ dX5_knows_32 (dI_mk (by unfold knM; first | rw [if_pos ⟨by assumption, by assumption⟩] | rw [if_neg (by omega)]) rfl)
theorem kpA_o {σ : St} {k i : Nat} (h : k ≠ 11) (h2 : k ≠ 0 ∨ (i ≠ 21 ∧ i ≠ 22)) : kpA σ k i = σ k i := by
  unfold kpA
  rw [pt_ne (by omega), pt_ne (by omega), cpy_o h]
theorem kpA_f {σ : St} {k : Nat} (h : k ≠ 11) (h2 : k ≠ 0) : kpA σ k = σ k := by
  funext i
  exact kpA_o h (Or.inl h2)
theorem KEq_kpA (σ : St) : KEq (kpA σ) σ := ⟨kpA_o (by omega) (by omega), kpA_o (by omega) (by omega), kpA_o (by omega) (by omega), fun k h1 h2 => kpA_f (by omega) (by omega)⟩
theorem pM_kpA (σ : St) (L : Nat) : pM (kpA σ) L = pM σ L := by
  funext i
  exact kpA_o (by omega) (by omega)
def dyM (σ : St) : Nat × St := (wtS (pd σ (σ 0 20) (pM σ 0)) (σ 0 2), stM (kpA σ) 0 (pd σ (σ 0 20) (pM σ 0)))
set_option maxHeartbeats 4000000 in
set_option maxRecDepth 100000 in
theorem c_X5_day {B : Bk} {σ : St} (o : OKK σ) (ht : σ 0 20 < 64) (hn : σ 0 22 < 14) (ha : σ 0 21 ≤ 14) (hp : OKP (pM σ 0)) (hd : pM σ 0 31 + 1 < 2 ^ 31) : MC yX5_day cX5_day 1 (some .int) 4 B [.ref (B.1 0)] σ (dP (dyM σ)) := by
  obtain ⟨o0, o1, o2, o3, o4, o5⟩ := id o
  refine MC_int RX5 [some (.ref (B.1 0))] 0 (by decide +kernel) rfl rfl (Nat.le_of_ble_eq_true rfl) (fun E Q hret => ?_)
  refine V_aload_n (pc := 0) dX5_day_0 rfl ?_
  refine V_callV_V (pc := 1) ff_X5_keepAct ml_X5_162 (by first | rfl | assumption) rfl rfl (c_X5_keepAct (by omega) (by omega)) dX5_day_1 rfl rfl (by decide) (by decide) (Nat.le_of_ble_eq_true rfl) ?_
  refine V_aload_n (pc := 4) dX5_day_4 rfl ?_
  refine V_iconst (pc := 5) 0 dX5_day_5 (by decide) ?_
  refine V_iconst (pc := 6) 1 dX5_day_6 (by decide) ?_
  refine V_callV_V (pc := 7) ff_X5_passOn ml_X5_165 (by first | rfl | assumption) rfl rfl (c_X5_passOn (z := 1) (OKK_K (KEq_kpA σ).symm o) (by rw [kpA_o (by omega) (by omega)]; exact ht) (by decide) (by decide) (by rw [pM_kpA]; exact hp) (by rw [pM_kpA]; exact hd)) dX5_day_7 rfl rfl (by decide) (by decide) (Nat.le_of_ble_eq_true rfl) ?_
  rw [pM_kpA, psn_K (KEq_kpA σ), wyO_K (KEq_kpA σ), kpA_o (by omega) (by omega), if_pos rfl]
  refine V_aload_n (pc := 10) dX5_day_10 rfl ?_
  refine V_iconst (pc := 11) 0 dX5_day_11 (by decide) ?_
  refine V_callV_I (pc := 12) ff_X5_weightsOn ml_X5_169 (by first | rfl | assumption) rfl rfl (c_X5_weightsOn (by decide) (by rw [stM_o (by decide), kpA_o (by omega) (by omega)]; exact o2)) dX5_day_12 rfl rfl (by decide) (by decide) (Nat.le_of_ble_eq_true rfl) ?_
  exact hret _ _ _ _ dX5_day_15 (dI_mk (by rw [pM_stM, stM_o (by decide), kpA_o (by omega) (by omega)]; rfl) rfl)
def seM (σ : St) (c x : Nat) : Nat × St := if c < σ 0 2 ∧ x < 12 then (if σ 6 c = x then (4294967293, σ) else (σ 6 c, pt (kpA σ) 6 c x)) else (4294967295, σ)
set_option maxHeartbeats 4000000 in
set_option maxRecDepth 100000 in
theorem c_X5_set {B : Bk} {σ : St} {c x : Nat} (hc : c < 2 ^ 32) (hx : x < 2 ^ 32) (o2 : σ 0 2 ≤ 5) (hn : σ 0 22 < 14) (ha : σ 0 21 ≤ 14) (hp : OKP (pM σ 0)) : MC yX5_set cX5_set 4 (some .int) 2 B [.ref (B.1 0), .int (nI c), .int (nI x)] σ (dP (seM σ c x)) := by
  refine MC_int RX5 [some (.ref (B.1 0)), some (.int (nI c)), some (.int (nI x)), none] 1 (by decide +kernel) rfl rfl (Nat.le_of_ble_eq_true rfl) (fun E Q hret => ?_)
  refine V_aload_n (pc := 0) dX5_set_0 rfl ?_
  refine V_iload_n (pc := 1) dX5_set_1 rfl ?_
  refine V_callV_I (pc := 2) ff_X5_isChild ml_X5_153 (by first | rfl | assumption) rfl rfl (c_X5_isChild (by first | omega | assumption | exact and1_lt _ | exact nb_p) (by first | omega | assumption | exact and1_lt _ | exact nb_p)) dX5_set_2 rfl rfl (by decide) (by decide) (Nat.le_of_ble_eq_true rfl) ?_
  refine V_ifb_eq (pc := 5) 15 dX5_set_5 (by decide) (fun h_5 => ?_) (fun h_5 => ?_)
  · skip
    refine V_iconst (pc := 15) 4294967295 dX5_set_15 (by decide) ?_
    exact hret _ _ _ _ dX5_set_16 (by unfold seM; (repeat' split) <;> first | (exfalso; omega) | exact ⟨rfl, rfl⟩)
  · skip
    refine V_iload_n (pc := 8) dX5_set_8 rfl ?_
    refine V_callS_I (pc := 9) ff_X5_isCell ml_X5_172 (c_X5_isCell (by first | omega | assumption | exact and1_lt _ | exact nb_p)) dX5_set_9 rfl rfl (by decide) (by decide) (Nat.le_of_ble_eq_true rfl) ?_
    refine V_ifb_ne (pc := 12) 17 dX5_set_12 (by decide) (fun h_12 => ?_) (fun h_12 => ?_)
    · skip
      refine V_aload_n (pc := 17) dX5_set_17 rfl ?_
      refine G_X5_now (pc := 18) (by first | rfl | assumption) fl_X5_25 dX5_set_18 ?_
      refine V_iload_n (pc := 21) dX5_set_21 rfl ?_
      refine V_iald (pc := 22) (by first | rfl | assumption) (by first | omega | assumption | exact and1_lt _ | exact nb_p) dX5_set_22 ?_
      refine V_iload_n (pc := 23) dX5_set_23 rfl ?_
      refine V_icmp_ne (pc := 24) 30 dX5_set_24 (by decide) (by have := hp.1 c (by omega); rw [pM0] at this; omega) (by omega) (fun h_24 => ?_) (fun h_24 => ?_)
      · skip
        refine V_aload_n (pc := 30) dX5_set_30 rfl ?_
        refine V_callV_V (pc := 31) ff_X5_keepAct ml_X5_162 (by first | rfl | assumption) rfl rfl (c_X5_keepAct (by omega) (by omega)) dX5_set_31 rfl rfl (by decide) (by decide) (Nat.le_of_ble_eq_true rfl) ?_
        refine V_aload_n (pc := 34) dX5_set_34 rfl ?_
        refine G_X5_now (pc := 35) (by first | rfl | assumption) fl_X5_25 dX5_set_35 ?_
        refine V_iload_n (pc := 38) dX5_set_38 rfl ?_
        refine V_iald (pc := 39) (by first | rfl | assumption) (by first | omega | assumption | exact and1_lt _ | exact nb_p) dX5_set_39 ?_
        rw [kpA_o (by omega) (by omega)]
        refine V_istore_n (pc := 40) dX5_set_40 (by decide) rfl ?_
        refine V_aload_n (pc := 41) dX5_set_41 rfl ?_
        refine G_X5_now (pc := 42) (by first | rfl | assumption) fl_X5_25 dX5_set_42 ?_
        refine V_iload_n (pc := 45) dX5_set_45 rfl ?_
        refine V_iload_n (pc := 46) dX5_set_46 rfl ?_
        refine V_iast (pc := 47) (by first | rfl | assumption) (by first | omega | assumption | exact and1_lt _ | exact nb_p) dX5_set_47 ?_
        refine V_iload_n (pc := 48) dX5_set_48 rfl ?_
        exact hret _ _ _ _ dX5_set_49 (by unfold seM; (repeat' split) <;> first | (exfalso; omega) | exact ⟨rfl, rfl⟩)
      · skip
        refine V_bipush (pc := 27) 4294967293 dX5_set_27 (by decide) ?_
        exact hret _ _ _ _ dX5_set_29 (by unfold seM; (repeat' split) <;> first | (exfalso; omega) | exact ⟨rfl, rfl⟩)
    · skip
      refine V_iconst (pc := 15) 4294967295 dX5_set_15 (by decide) ?_
      exact hret _ _ _ _ dX5_set_16 (by unfold seM; (repeat' split) <;> first | (exfalso; omega) | exact ⟨rfl, rfl⟩)
def moM (σ : St) (c : Nat) : Nat × St := if c < σ 0 2 then ((σ 6 5 ^^^ 1 * 2 ^ c) / 2 ^ c &&& 1, pt (kpA σ) 6 5 (σ 6 5 ^^^ 1 * 2 ^ c)) else (4294967295, σ)
theorem xor_lt {a c : Nat} (h : a < 32) (hc : c < 5) : a ^^^ 1 * 2 ^ c < 32 := by
  have : 1 * 2 ^ c < 2 ^ 5 := by
    rw [Nat.one_mul]
    exact Nat.pow_lt_pow_right (by decide) hc
  exact Nat.xor_lt_two_pow (n := 5) h this
set_option maxHeartbeats 4000000 in
set_option maxRecDepth 100000 in
theorem c_X5_moor {B : Bk} {σ : St} {c : Nat} (hc : c < 2 ^ 32) (o2 : σ 0 2 ≤ 5) (hn : σ 0 22 < 14) (ha : σ 0 21 ≤ 14) (hp : OKP (pM σ 0)) : MC yX5_moor cX5_moor 2 (some .int) 2 B [.ref (B.1 0), .int (nI c)] σ (dP (moM σ c)) := by
  have hp5 := hp.2.1
  rw [pM0] at hp5
  refine MC_int RX5 [some (.ref (B.1 0)), some (.int (nI c))] 0 (by decide +kernel) rfl rfl (Nat.le_of_ble_eq_true rfl) (fun E Q hret => ?_)
  refine V_aload_n (pc := 0) dX5_moor_0 rfl ?_
  refine V_iload_n (pc := 1) dX5_moor_1 rfl ?_
  refine V_callV_I (pc := 2) ff_X5_isChild ml_X5_153 (by first | rfl | assumption) rfl rfl (c_X5_isChild (by first | omega | assumption | exact and1_lt _ | exact nb_p) (by first | omega | assumption | exact and1_lt _ | exact nb_p)) dX5_moor_2 rfl rfl (by decide) (by decide) (Nat.le_of_ble_eq_true rfl) ?_
  refine V_ifb_ne (pc := 5) 10 dX5_moor_5 (by decide) (fun h_5 => ?_) (fun h_5 => ?_)
  · skip
    refine V_aload_n (pc := 10) dX5_moor_10 rfl ?_
    refine V_callV_V (pc := 11) ff_X5_keepAct ml_X5_162 (by first | rfl | assumption) rfl rfl (c_X5_keepAct (by omega) (by omega)) dX5_moor_11 rfl rfl (by decide) (by decide) (Nat.le_of_ble_eq_true rfl) ?_
    refine V_aload_n (pc := 14) dX5_moor_14 rfl ?_
    refine G_X5_now (pc := 15) (by first | rfl | assumption) fl_X5_25 dX5_moor_15 ?_
    refine V_iconst (pc := 18) 5 dX5_moor_18 (by decide) ?_
    refine V_dup2 (pc := 19) dX5_moor_19 rfl rfl ?_
    refine V_iald (pc := 20) (by first | rfl | assumption) (by first | omega | assumption | exact and1_lt _ | exact nb_p) dX5_moor_20 ?_
    rw [kpA_o (by omega) (by omega)]
    refine V_iconst (pc := 21) 1 dX5_moor_21 (by decide) ?_
    refine V_iload_n (pc := 22) dX5_moor_22 rfl ?_
    refine V_ishl (pc := 23) dX5_moor_23 (by first | omega | assumption | exact and1_lt _ | exact nb_p) ?_
    refine V_ixor (pc := 24) dX5_moor_24 ?_
    refine V_iast (pc := 25) (by first | rfl | assumption) (by first | omega | assumption | exact and1_lt _ | exact nb_p) dX5_moor_25 ?_
    refine V_aload_n (pc := 26) dX5_moor_26 rfl ?_
    refine G_X5_now (pc := 27) (by first | rfl | assumption) fl_X5_25 dX5_moor_27 ?_
    refine V_iconst (pc := 30) 5 dX5_moor_30 (by decide) ?_
    refine V_iald (pc := 31) (by first | rfl | assumption) (by first | omega | assumption | exact and1_lt _ | exact nb_p) dX5_moor_31 ?_
    rw [pt_at]
    refine V_iload_n (pc := 32) dX5_moor_32 rfl ?_
    refine V_ishr (pc := 33) dX5_moor_33 (by have := xor_lt hp5 (show c < 5 by omega); omega) (by omega) ?_
    refine V_iconst (pc := 34) 1 dX5_moor_34 (by decide) ?_
    refine V_iand (pc := 35) dX5_moor_35 ?_
    exact hret _ _ _ _ dX5_moor_36 (by unfold moM; (repeat' split) <;> first | (exfalso; omega) | exact ⟨rfl, rfl⟩)
  · skip
    refine V_iconst (pc := 8) 4294967295 dX5_moor_8 (by decide) ?_
    exact hret _ _ _ _ dX5_moor_9 (by unfold moM; (repeat' split) <;> first | (exfalso; omega) | exact ⟨rfl, rfl⟩)
def puM (σ : St) (c : Nat) : Nat × St := if c < σ 0 2 then (if wtF (pM σ 0) c 5 = 0 then (4294967293, σ) else (wtF (pM σ 0) c 5, stM (kpA σ) 0 (unl (pM σ 0) c 5))) else (4294967295, σ)
set_option maxHeartbeats 4000000 in
set_option maxRecDepth 100000 in
theorem c_X5_put {B : Bk} {σ : St} {c : Nat} (hc : c < 2 ^ 32) (o2 : σ 0 2 ≤ 5) (hn : σ 0 22 < 14) (ha : σ 0 21 ≤ 14) (hp : OKP (pM σ 0)) : MC yX5_put cX5_put 3 (some .int) 2 B [.ref (B.1 0), .int (nI c)] σ (dP (puM σ c)) := by
  refine MC_int RX5 [some (.ref (B.1 0)), some (.int (nI c)), none] 1 (by decide +kernel) rfl rfl (Nat.le_of_ble_eq_true rfl) (fun E Q hret => ?_)
  refine V_aload_n (pc := 0) dX5_put_0 rfl ?_
  refine V_iload_n (pc := 1) dX5_put_1 rfl ?_
  refine V_callV_I (pc := 2) ff_X5_isChild ml_X5_153 (by first | rfl | assumption) rfl rfl (c_X5_isChild (by first | omega | assumption | exact and1_lt _ | exact nb_p) (by first | omega | assumption | exact and1_lt _ | exact nb_p)) dX5_put_2 rfl rfl (by decide) (by decide) (Nat.le_of_ble_eq_true rfl) ?_
  refine V_ifb_ne (pc := 5) 10 dX5_put_5 (by decide) (fun h_5 => ?_) (fun h_5 => ?_)
  · skip
    refine V_aload_n (pc := 10) dX5_put_10 rfl ?_
    refine V_iconst (pc := 11) 0 dX5_put_11 (by decide) ?_
    refine V_iload_n (pc := 12) dX5_put_12 rfl ?_
    refine V_callV_I (pc := 13) ff_X5_weightOn ml_X5_143 (by first | rfl | assumption) rfl rfl (c_X5_weightOn (by first | omega | assumption) (by first | omega | assumption)) dX5_put_13 rfl rfl (by decide) (by decide) (Nat.le_of_ble_eq_true rfl) ?_
    refine V_istore_n (pc := 16) dX5_put_16 (by decide) rfl ?_
    refine V_iload_n (pc := 17) dX5_put_17 rfl ?_
    refine V_if_ne (pc := 18) 24 dX5_put_18 (by decide) (by have := wtF_le hp (show c < 5 by omega) 5 (by omega); omega) (fun h_18 => ?_) (fun h_18 => ?_)
    · skip
      refine V_aload_n (pc := 24) dX5_put_24 rfl ?_
      refine V_callV_V (pc := 25) ff_X5_keepAct ml_X5_162 (by first | rfl | assumption) rfl rfl (c_X5_keepAct (by omega) (by omega)) dX5_put_25 rfl rfl (by decide) (by decide) (Nat.le_of_ble_eq_true rfl) ?_
      refine V_aload_n (pc := 28) dX5_put_28 rfl ?_
      refine V_iconst (pc := 29) 0 dX5_put_29 (by decide) ?_
      refine V_iload_n (pc := 30) dX5_put_30 rfl ?_
      refine V_callV_V (pc := 31) ff_X5_putOn ml_X5_175 (by first | rfl | assumption) rfl rfl (c_X5_putOn (by first | omega | assumption) (by first | omega | assumption)) dX5_put_31 rfl rfl (by decide) (by decide) (Nat.le_of_ble_eq_true rfl) ?_
      rw [pM_kpA]
      refine V_iload_n (pc := 34) dX5_put_34 rfl ?_
      exact hret _ _ _ _ dX5_put_35 (by unfold puM; (repeat' split) <;> first | (exfalso; omega) | exact ⟨rfl, rfl⟩)
    · skip
      refine V_bipush (pc := 21) 4294967293 dX5_put_21 (by decide) ?_
      exact hret _ _ _ _ dX5_put_23 (by unfold puM; (repeat' split) <;> first | (exfalso; omega) | exact ⟨rfl, rfl⟩)
  · skip
    refine V_iconst (pc := 8) 4294967295 dX5_put_8 (by decide) ?_
    exact hret _ _ _ _ dX5_put_9 (by unfold puM; (repeat' split) <;> first | (exfalso; omega) | exact ⟨rfl, rfl⟩)
def unM (σ : St) : Nat × St := if σ 0 21 = 0 then (4294967293, σ) else (σ 0 21 - 1, cpy (pt (pt σ 0 21 (σ 0 21 - 1)) 0 22 ((σ 0 22 + 13) % 14)) 6 0 11 (32 * ((σ 0 22 + 13) % 14)) 32)
set_option maxHeartbeats 4000000 in
set_option maxRecDepth 100000 in
theorem c_X5_undo {B : Bk} {σ : St} (hn : σ 0 22 < 14) (ha : σ 0 21 ≤ 14) : MC yX5_undo cX5_undo 2 (some .int) 0 B [.ref (B.1 0)] σ (dP (unM σ)) := by
  have hm := Nat.mod_lt (σ 0 22 + 13) (show 0 < 14 by decide)
  refine MC_int RX5 [some (.ref (B.1 0)), none] 1 (by decide +kernel) rfl rfl (Nat.le_of_ble_eq_true rfl) (fun E Q hret => ?_)
  refine V_aload_n (pc := 0) dX5_undo_0 rfl ?_
  refine G_X5_acts (pc := 1) (by first | rfl | assumption) fl_X5_117 dX5_undo_1 ?_
  refine V_if_ne (pc := 4) 10 dX5_undo_4 (by decide) (by first | omega | assumption | exact and1_lt _ | exact nb_p) (fun h_4 => ?_) (fun h_4 => ?_)
  · skip
    refine V_aload_n (pc := 10) dX5_undo_10 rfl ?_
    refine V_dup (pc := 11) dX5_undo_11 rfl ?_
    refine G_X5_acts (pc := 12) (by first | rfl | assumption) fl_X5_117 dX5_undo_12 ?_
    refine V_iconst (pc := 15) 1 dX5_undo_15 (by decide) ?_
    refine V_isub (pc := 16) dX5_undo_16 (by omega) ?_
    refine P_X5_acts (pc := 17) (by first | rfl | assumption) fl_X5_117 dX5_undo_17 ?_
    refine V_aload_n (pc := 20) dX5_undo_20 rfl ?_
    refine V_aload_n (pc := 21) dX5_undo_21 rfl ?_
    refine G_X5_next (pc := 22) (by first | rfl | assumption) fl_X5_159 dX5_undo_22 ?_
    rw [pt_ne (by omega)]
    refine V_bipush (pc := 25) 13 dX5_undo_25 (by decide) ?_
    refine V_iadd (pc := 27) dX5_undo_27 ?_
    refine V_bipush (pc := 28) 14 dX5_undo_28 (by decide) ?_
    refine V_irem (pc := 30) dX5_undo_30 (by first | omega | assumption | exact and1_lt _ | exact nb_p) (by first | omega | assumption | exact and1_lt _ | exact nb_p) (by first | omega | assumption | exact and1_lt _ | exact nb_p) ?_
    refine P_X5_next (pc := 31) (by first | rfl | assumption) fl_X5_159 dX5_undo_31 ?_
    refine V_iconst (pc := 34) 0 dX5_undo_34 (by decide) ?_
    refine V_istore_n (pc := 35) dX5_undo_35 (by decide) rfl ?_
    have L_36 : ∀ (m : Nat) (i : Nat), 32 - i = m → i ≤ 32 → V E B RX5 cX5_undo 2 0 Q 36 [some (.ref (B.1 0)), some (.int (nI i))] [] (cpy (pt (pt σ 0 21 (σ 0 21 - 1)) 0 22 ((σ 0 22 + 13) % 14)) 6 0 11 (32 * ((σ 0 22 + 13) % 14)) i) := by
      intro m
      induction m using Nat.strongRecOn with
      | _ m ih =>
        intro i hm hi
        refine V_iload_n (pc := 36) dX5_undo_36 rfl ?_
        refine V_bipush (pc := 37) 32 dX5_undo_37 (by decide) ?_
        refine V_icmp_ge (pc := 39) 68 dX5_undo_39 (by decide) (by first | omega | assumption | exact and1_lt _ | exact nb_p) (by first | omega | assumption | exact and1_lt _ | exact nb_p) (fun h_39 => ?_) (fun h_39 => ?_)
        · skip
          refine V_aload_n (pc := 68) dX5_undo_68 rfl ?_
          refine G_X5_acts (pc := 69) (by first | rfl | assumption) fl_X5_117 dX5_undo_69 ?_
          rw [cpy_o (by decide), pt_ne (by omega), pt_at, show i = 32 by omega]
          exact hret _ _ _ _ dX5_undo_72 (by unfold unM; (repeat' split) <;> first | (exfalso; omega) | exact ⟨rfl, rfl⟩)
        · skip
          refine V_aload_n (pc := 42) dX5_undo_42 rfl ?_
          refine G_X5_now (pc := 43) (by first | rfl | assumption) fl_X5_25 dX5_undo_43 ?_
          refine V_iload_n (pc := 46) dX5_undo_46 rfl ?_
          refine V_aload_n (pc := 47) dX5_undo_47 rfl ?_
          refine G_X5_row (pc := 48) (by first | rfl | assumption) fl_X5_44 dX5_undo_48 ?_
          refine V_bipush (pc := 51) 32 dX5_undo_51 (by decide) ?_
          refine V_aload_n (pc := 53) dX5_undo_53 rfl ?_
          refine G_X5_next (pc := 54) (by first | rfl | assumption) fl_X5_159 dX5_undo_54 ?_
          rw [cpy_o (by decide), pt_at]
          refine V_imul (pc := 57) dX5_undo_57 ?_
          refine V_iload_n (pc := 58) dX5_undo_58 rfl ?_
          refine V_iadd (pc := 59) dX5_undo_59 ?_
          refine V_iald (pc := 60) (by first | rfl | assumption) (by first | omega | assumption | exact and1_lt _ | exact nb_p) dX5_undo_60 ?_
          refine V_iast (pc := 61) (by first | rfl | assumption) (by first | omega | assumption | exact and1_lt _ | exact nb_p) dX5_undo_61 ?_
          refine V_iinc (pc := 62) 1 dX5_undo_62 (by decide) rfl (by decide) rfl ?_
          refine V_goto (pc := 65) 36 dX5_undo_65 (by decide) ?_
          rw [cpy_s (by omega) (by omega) (by omega)]
          exact ih _ (by omega) (i + 1) rfl (by omega)
    have e := L_36 _ 0 rfl (by omega)
    rw [cpy_0] at e
    exact e
  · skip
    refine V_bipush (pc := 7) 4294967293 dX5_undo_7 (by decide) ?_
    exact hret _ _ _ _ dX5_undo_9 (by unfold unM; (repeat' split) <;> first | (exfalso; omega) | exact ⟨rfl, rfl⟩)
def kwM (σ : St) (s n v : Nat) : Nat × St := if s < 5 then (if n ≤ 9 ∧ v ≤ 9 then (if σ 0 24 = 6 then (4294967292, σ) else (σ 0 24 + 1, pt (pt (pt (pt σ 12 (σ 0 24) s) 13 (σ 0 24) n) 14 (σ 0 24) v) 0 24 (σ 0 24 + 1))) else (4294967294, σ)) else (4294967295, σ)
set_option maxHeartbeats 4000000 in
set_option maxRecDepth 100000 in
theorem c_X5_knew {B : Bk} {σ : St} {s n v : Nat} (hs : s < 2 ^ 32) (hn : n < 2 ^ 32) (hv : v < 2 ^ 32) (hk : σ 0 24 ≤ 6) : MC yX5_knew cX5_knew 4 (some .int) 2 B [.ref (B.1 0), .int (nI s), .int (nI n), .int (nI v)] σ (dP (kwM σ s n v)) := by
  refine MC_int RX5 [some (.ref (B.1 0)), some (.int (nI s)), some (.int (nI n)), some (.int (nI v))] 0 (by decide +kernel) rfl rfl (Nat.le_of_ble_eq_true rfl) (fun E Q hret => ?_)
  refine V_iload_n (pc := 0) dX5_knew_0 rfl ?_
  refine V_callS_I (pc := 1) ff_X5_isSubject ml_X5_156 (c_X5_isSubject (by first | omega | assumption | exact and1_lt _ | exact nb_p)) dX5_knew_1 rfl rfl (by decide) (by decide) (Nat.le_of_ble_eq_true rfl) ?_
  refine V_ifb_ne (pc := 4) 9 dX5_knew_4 (by decide) (fun h_4 => ?_) (fun h_4 => ?_)
  · skip
    refine V_iload_n (pc := 9) dX5_knew_9 rfl ?_
    refine V_i2l (pc := 10) dX5_knew_10 rfl ?_
    refine V_lconst (pc := 11) (v := lN 0) dX5_knew_11 rfl ?_
    refine V_ldc2N (pc := 12) (m := 9) kl_X5_186 rfl dX5_knew_12 ?_
    refine V_callS_I (pc := 15) ff_X5_in ml_X5_65 (c_X5_inI (by first | omega | assumption | exact and1_lt _ | exact nb_p) (by decide) (by decide)) dX5_knew_15 rfl rfl (by decide) (by decide) (Nat.le_of_ble_eq_true rfl) ?_
    refine V_ifb_eq (pc := 18) 33 dX5_knew_18 (by decide) (fun h_18 => ?_) (fun h_18 => ?_)
    · skip
      refine V_bipush (pc := 33) 4294967294 dX5_knew_33 (by decide) ?_
      exact hret _ _ _ _ dX5_knew_35 (by unfold kwM; (repeat' split) <;> first | (exfalso; omega) | exact ⟨rfl, rfl⟩)
    · skip
      refine V_iload_n (pc := 21) dX5_knew_21 rfl ?_
      refine V_i2l (pc := 22) dX5_knew_22 rfl ?_
      refine V_lconst (pc := 23) (v := lN 0) dX5_knew_23 rfl ?_
      refine V_ldc2N (pc := 24) (m := 9) kl_X5_186 rfl dX5_knew_24 ?_
      refine V_callS_I (pc := 27) ff_X5_in ml_X5_65 (c_X5_inI (by first | omega | assumption | exact and1_lt _ | exact nb_p) (by decide) (by decide)) dX5_knew_27 rfl rfl (by decide) (by decide) (Nat.le_of_ble_eq_true rfl) ?_
      refine V_ifb_ne (pc := 30) 36 dX5_knew_30 (by decide) (fun h_30 => ?_) (fun h_30 => ?_)
      · skip
        refine V_aload_n (pc := 36) dX5_knew_36 rfl ?_
        refine G_X5_known (pc := 37) (by first | rfl | assumption) fl_X5_206 dX5_knew_37 ?_
        refine V_bipush (pc := 40) 6 dX5_knew_40 (by decide) ?_
        refine V_icmp_ne (pc := 42) 48 dX5_knew_42 (by decide) (by first | omega | assumption | exact and1_lt _ | exact nb_p) (by first | omega | assumption | exact and1_lt _ | exact nb_p) (fun h_42 => ?_) (fun h_42 => ?_)
        · skip
          refine V_aload_n (pc := 48) dX5_knew_48 rfl ?_
          refine G_X5_knownSubject (pc := 49) (by first | rfl | assumption) fl_X5_47 dX5_knew_49 ?_
          refine V_aload_n (pc := 52) dX5_knew_52 rfl ?_
          refine G_X5_known (pc := 53) (by first | rfl | assumption) fl_X5_206 dX5_knew_53 ?_
          refine V_iload_n (pc := 56) dX5_knew_56 rfl ?_
          refine V_iast (pc := 57) (by first | rfl | assumption) (by first | omega | assumption | exact and1_lt _ | exact nb_p) dX5_knew_57 ?_
          refine V_aload_n (pc := 58) dX5_knew_58 rfl ?_
          refine G_X5_knownDays (pc := 59) (by first | rfl | assumption) fl_X5_50 dX5_knew_59 ?_
          refine V_aload_n (pc := 62) dX5_knew_62 rfl ?_
          refine G_X5_known (pc := 63) (by first | rfl | assumption) fl_X5_206 dX5_knew_63 ?_
          rw [pt_ne (by omega)]
          refine V_iload_n (pc := 66) dX5_knew_66 rfl ?_
          refine V_iast (pc := 67) (by first | rfl | assumption) (by first | omega | assumption | exact and1_lt _ | exact nb_p) dX5_knew_67 ?_
          refine V_aload_n (pc := 68) dX5_knew_68 rfl ?_
          refine G_X5_knownMuch (pc := 69) (by first | rfl | assumption) fl_X5_53 dX5_knew_69 ?_
          refine V_aload_n (pc := 72) dX5_knew_72 rfl ?_
          refine G_X5_known (pc := 73) (by first | rfl | assumption) fl_X5_206 dX5_knew_73 ?_
          rw [pt_ne (by omega), pt_ne (by omega)]
          refine V_iload_n (pc := 76) dX5_knew_76 rfl ?_
          refine V_iast (pc := 77) (by first | rfl | assumption) (by first | omega | assumption | exact and1_lt _ | exact nb_p) dX5_knew_77 ?_
          refine V_aload_n (pc := 78) dX5_knew_78 rfl ?_
          refine V_dup (pc := 79) dX5_knew_79 rfl ?_
          refine G_X5_known (pc := 80) (by first | rfl | assumption) fl_X5_206 dX5_knew_80 ?_
          rw [pt_ne (by omega), pt_ne (by omega), pt_ne (by omega)]
          refine V_iconst (pc := 83) 1 dX5_knew_83 (by decide) ?_
          refine V_iadd (pc := 84) dX5_knew_84 ?_
          refine P_X5_known (pc := 85) (by first | rfl | assumption) fl_X5_206 dX5_knew_85 ?_
          refine V_aload_n (pc := 88) dX5_knew_88 rfl ?_
          refine G_X5_known (pc := 89) (by first | rfl | assumption) fl_X5_206 dX5_knew_89 ?_
          rw [pt_at]
          exact hret _ _ _ _ dX5_knew_92 (by unfold kwM; (repeat' split) <;> first | (exfalso; omega) | exact ⟨rfl, rfl⟩)
        · skip
          refine V_bipush (pc := 45) 4294967292 dX5_knew_45 (by decide) ?_
          exact hret _ _ _ _ dX5_knew_47 (by unfold kwM; (repeat' split) <;> first | (exfalso; omega) | exact ⟨rfl, rfl⟩)
      · skip
        refine V_bipush (pc := 33) 4294967294 dX5_knew_33 (by decide) ?_
        exact hret _ _ _ _ dX5_knew_35 (by unfold kwM; (repeat' split) <;> first | (exfalso; omega) | exact ⟨rfl, rfl⟩)
  · skip
    refine V_iconst (pc := 7) 4294967295 dX5_knew_7 (by decide) ?_
    exact hret _ _ _ _ dX5_knew_8 (by unfold kwM; (repeat' split) <;> first | (exfalso; omega) | exact ⟨rfl, rfl⟩)
def keM (σ : St) (s : Nat) : Nat × St := if s ≤ 1 then (σ 6 31, cpy (pt σ 15 s 1) 16 (32 * s) 6 0 32) else (4294967295, σ)
set_option maxHeartbeats 4000000 in
set_option maxRecDepth 100000 in
theorem c_X5_keep {B : Bk} {σ : St} {s : Nat} (hs : s < 2 ^ 32) : MC yX5_keep cX5_keep 3 (some .int) 1 B [.ref (B.1 0), .int (nI s)] σ (dP (keM σ s)) := by
  refine MC_int RX5 [some (.ref (B.1 0)), some (.int (nI s)), none] 1 (by decide +kernel) rfl rfl (Nat.le_of_ble_eq_true rfl) (fun E Q hret => ?_)
  refine V_iload_n (pc := 0) dX5_keep_0 rfl ?_
  refine V_i2l (pc := 1) dX5_keep_1 rfl ?_
  refine V_lconst (pc := 2) (v := lN 0) dX5_keep_2 rfl ?_
  refine V_lconst (pc := 3) (v := lN 1) dX5_keep_3 rfl ?_
  refine V_callS_I (pc := 4) ff_X5_in ml_X5_65 (c_X5_inI (by first | omega | assumption | exact and1_lt _ | exact nb_p) (by decide) (by decide)) dX5_keep_4 rfl rfl (by decide) (by decide) (Nat.le_of_ble_eq_true rfl) ?_
  refine V_ifb_ne (pc := 7) 12 dX5_keep_7 (by decide) (fun h_7 => ?_) (fun h_7 => ?_)
  · skip
    refine V_aload_n (pc := 12) dX5_keep_12 rfl ?_
    refine G_X5_isKept (pc := 13) (by first | rfl | assumption) fl_X5_56 dX5_keep_13 ?_
    refine V_iload_n (pc := 16) dX5_keep_16 rfl ?_
    refine V_iconst (pc := 17) 1 dX5_keep_17 (by decide) ?_
    refine V_zast (pc := 18) (by first | rfl | assumption) (by first | omega | assumption | exact and1_lt _ | exact nb_p) (by decide) dX5_keep_18 ?_
    refine V_iconst (pc := 19) 0 dX5_keep_19 (by decide) ?_
    refine V_istore_n (pc := 20) dX5_keep_20 (by decide) rfl ?_
    have L_21 : ∀ (m : Nat) (i : Nat), 32 - i = m → i ≤ 32 → V E B RX5 cX5_keep 3 1 Q 21 [some (.ref (B.1 0)), some (.int (nI s)), some (.int (nI i))] [] (cpy (pt σ 15 s 1) 16 (32 * s) 6 0 i) := by
      intro m
      induction m using Nat.strongRecOn with
      | _ m ih =>
        intro i hm hi
        refine V_iload_n (pc := 21) dX5_keep_21 rfl ?_
        refine V_bipush (pc := 22) 32 dX5_keep_22 (by decide) ?_
        refine V_icmp_ge (pc := 24) 50 dX5_keep_24 (by decide) (by first | omega | assumption | exact and1_lt _ | exact nb_p) (by first | omega | assumption | exact and1_lt _ | exact nb_p) (fun h_24 => ?_) (fun h_24 => ?_)
        · skip
          refine V_aload_n (pc := 50) dX5_keep_50 rfl ?_
          refine G_X5_now (pc := 51) (by first | rfl | assumption) fl_X5_25 dX5_keep_51 ?_
          refine V_bipush (pc := 54) 31 dX5_keep_54 (by decide) ?_
          refine V_iald (pc := 56) (by first | rfl | assumption) (by first | omega | assumption | exact and1_lt _ | exact nb_p) dX5_keep_56 ?_
          rw [cpy_o (by decide), pt_ne (by omega), show i = 32 by omega]
          exact hret _ _ _ _ dX5_keep_57 (by unfold keM; (repeat' split) <;> first | (exfalso; omega) | exact ⟨rfl, rfl⟩)
        · skip
          refine V_aload_n (pc := 27) dX5_keep_27 rfl ?_
          refine G_X5_kept (pc := 28) (by first | rfl | assumption) fl_X5_60 dX5_keep_28 ?_
          refine V_bipush (pc := 31) 32 dX5_keep_31 (by decide) ?_
          refine V_iload_n (pc := 33) dX5_keep_33 rfl ?_
          refine V_imul (pc := 34) dX5_keep_34 ?_
          refine V_iload_n (pc := 35) dX5_keep_35 rfl ?_
          refine V_iadd (pc := 36) dX5_keep_36 ?_
          refine V_aload_n (pc := 37) dX5_keep_37 rfl ?_
          refine G_X5_now (pc := 38) (by first | rfl | assumption) fl_X5_25 dX5_keep_38 ?_
          refine V_iload_n (pc := 41) dX5_keep_41 rfl ?_
          refine V_iald (pc := 42) (by first | rfl | assumption) (by first | omega | assumption | exact and1_lt _ | exact nb_p) dX5_keep_42 ?_
          refine V_iast (pc := 43) (by first | rfl | assumption) (by first | omega | assumption | exact and1_lt _ | exact nb_p) dX5_keep_43 ?_
          refine V_iinc (pc := 44) 1 dX5_keep_44 (by decide) rfl (by decide) rfl ?_
          refine V_goto (pc := 47) 21 dX5_keep_47 (by decide) ?_
          rw [cpy_s (by omega) (by omega) (by omega)]
          exact ih _ (by omega) (i + 1) rfl (by omega)
    have e := L_21 _ 0 rfl (by omega)
    rw [cpy_0] at e
    exact e
  · skip
    refine V_iconst (pc := 10) 4294967295 dX5_keep_10 (by decide) ?_
    exact hret _ _ _ _ dX5_keep_11 (by unfold keM; (repeat' split) <;> first | (exfalso; omega) | exact ⟨rfl, rfl⟩)
def agM (σ : St) (s : Nat) : Nat × St := if s ≤ 1 then (if σ 15 s = 0 then (4294967293, σ) else (σ 16 (32 * s + 31), pt (cpy σ 6 0 16 (32 * s) 32) 0 21 0)) else (4294967295, σ)
set_option maxHeartbeats 4000000 in
set_option maxRecDepth 100000 in
theorem c_X5_again {B : Bk} {σ : St} {s : Nat} (hs : s < 2 ^ 32) (hk : ∀ i, σ 15 i < 2) : MC yX5_again cX5_again 3 (some .int) 1 B [.ref (B.1 0), .int (nI s)] σ (dP (agM σ s)) := by
  refine MC_int RX5 [some (.ref (B.1 0)), some (.int (nI s)), none] 1 (by decide +kernel) rfl rfl (Nat.le_of_ble_eq_true rfl) (fun E Q hret => ?_)
  refine V_iload_n (pc := 0) dX5_again_0 rfl ?_
  refine V_i2l (pc := 1) dX5_again_1 rfl ?_
  refine V_lconst (pc := 2) (v := lN 0) dX5_again_2 rfl ?_
  refine V_lconst (pc := 3) (v := lN 1) dX5_again_3 rfl ?_
  refine V_callS_I (pc := 4) ff_X5_in ml_X5_65 (c_X5_inI (by first | omega | assumption | exact and1_lt _ | exact nb_p) (by decide) (by decide)) dX5_again_4 rfl rfl (by decide) (by decide) (Nat.le_of_ble_eq_true rfl) ?_
  refine V_ifb_ne (pc := 7) 12 dX5_again_7 (by decide) (fun h_7 => ?_) (fun h_7 => ?_)
  · skip
    refine V_aload_n (pc := 12) dX5_again_12 rfl ?_
    refine G_X5_isKept (pc := 13) (by first | rfl | assumption) fl_X5_56 dX5_again_13 ?_
    refine V_iload_n (pc := 16) dX5_again_16 rfl ?_
    refine V_zald (pc := 17) (by first | rfl | assumption) (by first | omega | assumption | exact and1_lt _ | exact nb_p) dX5_again_17 ?_
    refine V_if_ne (pc := 18) 24 dX5_again_18 (by decide) (by have := hk s; omega) (fun h_18 => ?_) (fun h_18 => ?_)
    · skip
      refine V_iconst (pc := 24) 0 dX5_again_24 (by decide) ?_
      refine V_istore_n (pc := 25) dX5_again_25 (by decide) rfl ?_
      have L_26 : ∀ (m : Nat) (i : Nat), 32 - i = m → i ≤ 32 → V E B RX5 cX5_again 3 1 Q 26 [some (.ref (B.1 0)), some (.int (nI s)), some (.int (nI i))] [] (cpy σ 6 0 16 (32 * s) i) := by
        intro m
        induction m using Nat.strongRecOn with
        | _ m ih =>
          intro i hm hi
          refine V_iload_n (pc := 26) dX5_again_26 rfl ?_
          refine V_bipush (pc := 27) 32 dX5_again_27 (by decide) ?_
          refine V_icmp_ge (pc := 29) 55 dX5_again_29 (by decide) (by first | omega | assumption | exact and1_lt _ | exact nb_p) (by first | omega | assumption | exact and1_lt _ | exact nb_p) (fun h_29 => ?_) (fun h_29 => ?_)
          · skip
            refine V_aload_n (pc := 55) dX5_again_55 rfl ?_
            refine V_iconst (pc := 56) 0 dX5_again_56 (by decide) ?_
            refine P_X5_acts (pc := 57) (by first | rfl | assumption) fl_X5_117 dX5_again_57 ?_
            refine V_aload_n (pc := 60) dX5_again_60 rfl ?_
            refine G_X5_now (pc := 61) (by first | rfl | assumption) fl_X5_25 dX5_again_61 ?_
            refine V_bipush (pc := 64) 31 dX5_again_64 (by decide) ?_
            refine V_iald (pc := 66) (by first | rfl | assumption) (by first | omega | assumption | exact and1_lt _ | exact nb_p) dX5_again_66 ?_
            rw [pt_ne (by omega), show i = 32 by omega, show cpy σ 6 0 16 (32 * s) 32 6 31 = σ 16 (32 * s + 31) by unfold cpy; rw [if_pos (by omega)]]
            exact hret _ _ _ _ dX5_again_67 (by unfold agM; (repeat' split) <;> first | (exfalso; omega) | exact ⟨rfl, rfl⟩)
          · skip
            refine V_aload_n (pc := 32) dX5_again_32 rfl ?_
            refine G_X5_now (pc := 33) (by first | rfl | assumption) fl_X5_25 dX5_again_33 ?_
            refine V_iload_n (pc := 36) dX5_again_36 rfl ?_
            refine V_aload_n (pc := 37) dX5_again_37 rfl ?_
            refine G_X5_kept (pc := 38) (by first | rfl | assumption) fl_X5_60 dX5_again_38 ?_
            refine V_bipush (pc := 41) 32 dX5_again_41 (by decide) ?_
            refine V_iload_n (pc := 43) dX5_again_43 rfl ?_
            refine V_imul (pc := 44) dX5_again_44 ?_
            refine V_iload_n (pc := 45) dX5_again_45 rfl ?_
            refine V_iadd (pc := 46) dX5_again_46 ?_
            refine V_iald (pc := 47) (by first | rfl | assumption) (by first | omega | assumption | exact and1_lt _ | exact nb_p) dX5_again_47 ?_
            refine V_iast (pc := 48) (by first | rfl | assumption) (by first | omega | assumption | exact and1_lt _ | exact nb_p) dX5_again_48 ?_
            refine V_iinc (pc := 49) 1 dX5_again_49 (by decide) rfl (by decide) rfl ?_
            refine V_goto (pc := 52) 26 dX5_again_52 (by decide) ?_
            rw [cpy_s (by omega) (by omega) (by omega)]
            exact ih _ (by omega) (i + 1) rfl (by omega)
      have e := L_26 _ 0 rfl (by omega)
      rw [cpy_0] at e
      exact e
    · skip
      refine V_bipush (pc := 21) 4294967293 dX5_again_21 (by decide) ?_
      exact hret _ _ _ _ dX5_again_23 (by unfold agM; (repeat' split) <;> first | (exfalso; omega) | exact ⟨rfl, rfl⟩)
  · skip
    refine V_iconst (pc := 10) 4294967295 dX5_again_10 (by decide) ?_
    exact hret _ _ _ _ dX5_again_11 (by unfold agM; (repeat' split) <;> first | (exfalso; omega) | exact ⟨rfl, rfl⟩)
set_option maxHeartbeats 4000000 in
set_option maxRecDepth 100000 in
theorem c_X5_seed {B : Bk} {σ : St} {v : Nat} : MC yX5_seed cX5_seed 5 (some .long) 0 B [.ref (B.1 0), .long (lN v)] σ (dJ (lN (σ 0 28)) (pt σ 0 28 v)) := by
  refine MC_long RX5 [some (.ref (B.1 0)), some (.long (lN v)), none, none, none] 2 (by decide +kernel) rfl rfl (Nat.le_of_ble_eq_true rfl) (fun E Q hret => ?_)
  refine V_aload_n (pc := 0) dX5_seed_0 rfl ?_
  refine G_X5_seed (pc := 1) (by first | rfl | assumption) fl_X5_237 dX5_seed_1 ?_
  refine V_lstore_n (pc := 4) dX5_seed_4 (by decide) rfl ?_
  refine V_aload_n (pc := 5) dX5_seed_5 rfl ?_
  refine V_lload_n (pc := 6) dX5_seed_6 rfl ?_
  refine P_X5_seed (pc := 7) (by first | rfl | assumption) fl_X5_237 dX5_seed_7 ?_
  refine V_lload_n (pc := 10) dX5_seed_10 rfl ?_
  exact hret _ _ _ _ dX5_seed_11 ⟨rfl, rfl⟩
def cbF (f : Nat → Nat) : Nat → Nat
  | 0 => 0
  | n + 1 => cbF f n ||| 1 * 2 ^ (f n)
set_option maxHeartbeats 4000000 in
set_option maxRecDepth 100000 in
theorem c_X5_cellsOf {B : Bk} {σ : St} {z : Nat} (hz : z < 2) (o : OKK σ) (hp : OKP (pM σ 0)) : MC yX5_cellsOf cX5_cellsOf 4 (some .int) 0 B [.ref (B.1 0), .int (nI z)] σ (dI (if z = 1 then cbF (pM σ 0) (σ 0 2) else cbF (σ 2) (σ 0 1)) σ) := by
  obtain ⟨o0, o1, o2, o3, o4, o5⟩ := id o
  refine MC_int RX5 [some (.ref (B.1 0)), some (.int (nI z)), none, none] 2 (by decide +kernel) rfl rfl (Nat.le_of_ble_eq_true rfl) (fun E Q hret => ?_)
  have N_ : (if z = 1 then σ 0 2 else σ 0 1) ≤ 6 := by split <;> omega
  refine V_iconst (pc := 0) 0 dX5_cellsOf_0 (by decide) ?_
  refine V_istore_n (pc := 1) dX5_cellsOf_1 (by decide) rfl ?_
  refine V_iconst (pc := 2) 0 dX5_cellsOf_2 (by decide) ?_
  refine V_istore_n (pc := 3) dX5_cellsOf_3 (by decide) rfl ?_
  have L_4 : ∀ (m : Nat) (i s : Nat), (if z = 1 then σ 0 2 else σ 0 1) - i = m → i ≤ (if z = 1 then σ 0 2 else σ 0 1) → s = (if z = 1 then cbF (pM σ 0) i else cbF (σ 2) i) → V E B RX5 cX5_cellsOf 4 0 Q 4 [some (.ref (B.1 0)), some (.int (nI z)), some (.int (nI s)), some (.int (nI i))] [] (σ) := by
    intro m
    induction m using Nat.strongRecOn with
    | _ m ih =>
      intro i s hm hi hs
      refine V_iload_n (pc := 4) dX5_cellsOf_4 rfl ?_
      refine V_iload_n (pc := 5) dX5_cellsOf_5 rfl ?_
      refine V_if_eq (pc := 6) 16 dX5_cellsOf_6 (by decide) (by first | omega | assumption | exact and1_lt _ | exact nb_p) (fun h_6 => ?_) (fun h_6 => ?_)
      · skip
        refine V_aload_n (pc := 16) dX5_cellsOf_16 rfl ?_
        refine G_X5_grounds (pc := 17) (by first | rfl | assumption) fl_X5_111 dX5_cellsOf_17 ?_
        refine V_icmp_ge (pc := 20) 53 dX5_cellsOf_20 (by decide) (by first | omega | assumption | exact and1_lt _ | exact nb_p) (by first | omega | assumption | exact and1_lt _ | exact nb_p) (fun h_20 => ?_) (fun h_20 => ?_)
        · skip
          refine V_iload_n (pc := 53) dX5_cellsOf_53 rfl ?_
          exact hret _ _ _ _ dX5_cellsOf_54 (dI_mk (by rw [hs]; first | (rw [if_pos (by omega), if_pos (by omega)] ; congr 1; rw [if_pos (by omega)] at hi; omega) | (rw [if_neg (by omega), if_neg (by omega)]; congr 1; rw [if_neg (by omega)] at hi; omega)) rfl)
        · skip
          refine V_iload_n (pc := 23) dX5_cellsOf_23 rfl ?_
          refine V_iconst (pc := 24) 1 dX5_cellsOf_24 (by decide) ?_
          refine V_iload_n (pc := 25) dX5_cellsOf_25 rfl ?_
          refine V_if_eq (pc := 26) 38 dX5_cellsOf_26 (by decide) (by first | omega | assumption | exact and1_lt _ | exact nb_p) (fun h_26 => ?_) (fun h_26 => ?_)
          · skip
            refine V_aload_n (pc := 38) dX5_cellsOf_38 rfl ?_
            refine G_X5_groundCell (pc := 39) (by first | rfl | assumption) fl_X5_13 dX5_cellsOf_39 ?_
            refine V_iload_n (pc := 42) dX5_cellsOf_42 rfl ?_
            refine V_iald (pc := 43) (by first | rfl | assumption) (by first | omega | assumption | exact and1_lt _ | exact nb_p) dX5_cellsOf_43 ?_
            refine V_ishl (pc := 44) dX5_cellsOf_44 (by first | (have := hp.1 i (by omega); rw [pM0] at this; omega) | (have := (o4 i (by omega)).1; omega)) ?_
            refine V_ior (pc := 45) dX5_cellsOf_45 ?_
            refine V_istore_n (pc := 46) dX5_cellsOf_46 (by decide) rfl ?_
            refine V_iinc (pc := 47) 1 dX5_cellsOf_47 (by decide) rfl (by decide) rfl ?_
            refine V_goto (pc := 50) 4 dX5_cellsOf_50 (by decide) ?_
            first | (exfalso; omega) | exact ih _ (by (first | rw [if_pos (by omega)] at * | rw [if_neg (by omega)] at *); omega) (i + 1) _ rfl (by (repeat' split) <;> (repeat' split at hi) <;> omega) (by rw [hs]; first | (rw [if_pos (by omega), if_pos (by omega), cbF, pM0]) | (rw [if_neg (by omega), if_neg (by omega), cbF]))
          · skip
            refine V_aload_n (pc := 29) dX5_cellsOf_29 rfl ?_
            refine G_X5_now (pc := 30) (by first | rfl | assumption) fl_X5_25 dX5_cellsOf_30 ?_
            refine V_iload_n (pc := 33) dX5_cellsOf_33 rfl ?_
            refine V_iald (pc := 34) (by first | rfl | assumption) (by first | omega | assumption | exact and1_lt _ | exact nb_p) dX5_cellsOf_34 ?_
            refine V_goto (pc := 35) 44 dX5_cellsOf_35 (by decide) ?_
            refine V_ishl (pc := 44) dX5_cellsOf_44 (by first | (have := hp.1 i (by omega); rw [pM0] at this; omega) | (have := (o4 i (by omega)).1; omega)) ?_
            refine V_ior (pc := 45) dX5_cellsOf_45 ?_
            refine V_istore_n (pc := 46) dX5_cellsOf_46 (by decide) rfl ?_
            refine V_iinc (pc := 47) 1 dX5_cellsOf_47 (by decide) rfl (by decide) rfl ?_
            refine V_goto (pc := 50) 4 dX5_cellsOf_50 (by decide) ?_
            first | (exfalso; omega) | exact ih _ (by (first | rw [if_pos (by omega)] at * | rw [if_neg (by omega)] at *); omega) (i + 1) _ rfl (by (repeat' split) <;> (repeat' split at hi) <;> omega) (by rw [hs]; first | (rw [if_pos (by omega), if_pos (by omega), cbF, pM0]) | (rw [if_neg (by omega), if_neg (by omega), cbF]))
      · skip
        refine V_aload_n (pc := 9) dX5_cellsOf_9 rfl ?_
        refine G_X5_children (pc := 10) (by first | rfl | assumption) fl_X5_114 dX5_cellsOf_10 ?_
        refine V_goto (pc := 13) 20 dX5_cellsOf_13 (by decide) ?_
        refine V_icmp_ge (pc := 20) 53 dX5_cellsOf_20 (by decide) (by first | omega | assumption | exact and1_lt _ | exact nb_p) (by first | omega | assumption | exact and1_lt _ | exact nb_p) (fun h_20 => ?_) (fun h_20 => ?_)
        · skip
          refine V_iload_n (pc := 53) dX5_cellsOf_53 rfl ?_
          exact hret _ _ _ _ dX5_cellsOf_54 (dI_mk (by rw [hs]; first | (rw [if_pos (by omega), if_pos (by omega)] ; congr 1; rw [if_pos (by omega)] at hi; omega) | (rw [if_neg (by omega), if_neg (by omega)]; congr 1; rw [if_neg (by omega)] at hi; omega)) rfl)
        · skip
          refine V_iload_n (pc := 23) dX5_cellsOf_23 rfl ?_
          refine V_iconst (pc := 24) 1 dX5_cellsOf_24 (by decide) ?_
          refine V_iload_n (pc := 25) dX5_cellsOf_25 rfl ?_
          refine V_if_eq (pc := 26) 38 dX5_cellsOf_26 (by decide) (by first | omega | assumption | exact and1_lt _ | exact nb_p) (fun h_26 => ?_) (fun h_26 => ?_)
          · skip
            refine V_aload_n (pc := 38) dX5_cellsOf_38 rfl ?_
            refine G_X5_groundCell (pc := 39) (by first | rfl | assumption) fl_X5_13 dX5_cellsOf_39 ?_
            refine V_iload_n (pc := 42) dX5_cellsOf_42 rfl ?_
            refine V_iald (pc := 43) (by first | rfl | assumption) (by first | omega | assumption | exact and1_lt _ | exact nb_p) dX5_cellsOf_43 ?_
            refine V_ishl (pc := 44) dX5_cellsOf_44 (by first | (have := hp.1 i (by omega); rw [pM0] at this; omega) | (have := (o4 i (by omega)).1; omega)) ?_
            refine V_ior (pc := 45) dX5_cellsOf_45 ?_
            refine V_istore_n (pc := 46) dX5_cellsOf_46 (by decide) rfl ?_
            refine V_iinc (pc := 47) 1 dX5_cellsOf_47 (by decide) rfl (by decide) rfl ?_
            refine V_goto (pc := 50) 4 dX5_cellsOf_50 (by decide) ?_
            first | (exfalso; omega) | exact ih _ (by (first | rw [if_pos (by omega)] at * | rw [if_neg (by omega)] at *); omega) (i + 1) _ rfl (by (repeat' split) <;> (repeat' split at hi) <;> omega) (by rw [hs]; first | (rw [if_pos (by omega), if_pos (by omega), cbF, pM0]) | (rw [if_neg (by omega), if_neg (by omega), cbF]))
          · skip
            refine V_aload_n (pc := 29) dX5_cellsOf_29 rfl ?_
            refine G_X5_now (pc := 30) (by first | rfl | assumption) fl_X5_25 dX5_cellsOf_30 ?_
            refine V_iload_n (pc := 33) dX5_cellsOf_33 rfl ?_
            refine V_iald (pc := 34) (by first | rfl | assumption) (by first | omega | assumption | exact and1_lt _ | exact nb_p) dX5_cellsOf_34 ?_
            refine V_goto (pc := 35) 44 dX5_cellsOf_35 (by decide) ?_
            refine V_ishl (pc := 44) dX5_cellsOf_44 (by first | (have := hp.1 i (by omega); rw [pM0] at this; omega) | (have := (o4 i (by omega)).1; omega)) ?_
            refine V_ior (pc := 45) dX5_cellsOf_45 ?_
            refine V_istore_n (pc := 46) dX5_cellsOf_46 (by decide) rfl ?_
            refine V_iinc (pc := 47) 1 dX5_cellsOf_47 (by decide) rfl (by decide) rfl ?_
            refine V_goto (pc := 50) 4 dX5_cellsOf_50 (by decide) ?_
            first | (exfalso; omega) | exact ih _ (by (first | rw [if_pos (by omega)] at * | rw [if_neg (by omega)] at *); omega) (i + 1) _ rfl (by (repeat' split) <;> (repeat' split at hi) <;> omega) (by rw [hs]; first | (rw [if_pos (by omega), if_pos (by omega), cbF, pM0]) | (rw [if_neg (by omega), if_neg (by omega), cbF]))
  exact L_4 _ 0 _ rfl (by omega) (by split <;> rfl)
def cnM (σ : St) (w : Nat) : Nat := if w = 0 then σ 0 17 else if w = 1 then σ 0 0 else if w = 2 then σ 0 1 else if w = 3 then σ 0 2 else if w = 4 then σ 6 31 else if w = 5 then cbF (σ 2) (σ 0 1) else if w = 6 then cbF (pM σ 0) (σ 0 2) else if w = 7 then σ 6 5 else if w = 8 then wtS (pM σ 0) (σ 0 2) else if w = 9 then wyO σ (σ 6 31) else if w = 10 then σ 0 21 else if w = 11 then σ 0 24 else 4294967294
set_option maxHeartbeats 4000000 in
set_option maxRecDepth 100000 in
theorem c_X5_count {B : Bk} {σ : St} {w : Nat} (hw : w < 2 ^ 32) (o : OKK σ) (hp : OKP (pM σ 0)) (hd : pM σ 0 31 < 2 ^ 31) : MC yX5_count cX5_count 2 (some .int) 2 B [.ref (B.1 0), .int (nI w)] σ (dI (cnM σ w) σ) := by
  obtain ⟨o0, o1, o2, o3, o4, o5⟩ := id o
  rw [pM0] at hd
  refine MC_int RX5 [some (.ref (B.1 0)), some (.int (nI w))] 0 (by decide +kernel) rfl rfl (Nat.le_of_ble_eq_true rfl) (fun E Q hret => ?_)
  refine V_iload_n (pc := 0) dX5_count_0 rfl ?_
  by_cases hs_1_0 : w = 0
  · skip
    refine V_tabK (pc := 1) (m := 0) 64 dX5_count_1 hs_1_0 (by decide) (by decide) rfl (by decide) ?_
    refine V_aload_n (pc := 64) dX5_count_64 rfl ?_
    refine G_X5_length (pc := 65) (by first | rfl | assumption) fl_X5_69 dX5_count_65 ?_
    exact hret _ _ _ _ dX5_count_68 (by unfold cnM; (repeat' split) <;> first | (exfalso; omega) | exact ⟨rfl, rfl⟩)
  by_cases hs_1_1 : w = 1
  · skip
    refine V_tabK (pc := 1) (m := 1) 69 dX5_count_1 hs_1_1 (by decide) (by decide) rfl (by decide) ?_
    refine V_aload_n (pc := 69) dX5_count_69 rfl ?_
    refine G_X5_tides (pc := 70) (by first | rfl | assumption) fl_X5_108 dX5_count_70 ?_
    exact hret _ _ _ _ dX5_count_73 (by unfold cnM; (repeat' split) <;> first | (exfalso; omega) | exact ⟨rfl, rfl⟩)
  by_cases hs_1_2 : w = 2
  · skip
    refine V_tabK (pc := 1) (m := 2) 74 dX5_count_1 hs_1_2 (by decide) (by decide) rfl (by decide) ?_
    refine V_aload_n (pc := 74) dX5_count_74 rfl ?_
    refine G_X5_grounds (pc := 75) (by first | rfl | assumption) fl_X5_111 dX5_count_75 ?_
    exact hret _ _ _ _ dX5_count_78 (by unfold cnM; (repeat' split) <;> first | (exfalso; omega) | exact ⟨rfl, rfl⟩)
  by_cases hs_1_3 : w = 3
  · skip
    refine V_tabK (pc := 1) (m := 3) 79 dX5_count_1 hs_1_3 (by decide) (by decide) rfl (by decide) ?_
    refine V_aload_n (pc := 79) dX5_count_79 rfl ?_
    refine G_X5_children (pc := 80) (by first | rfl | assumption) fl_X5_114 dX5_count_80 ?_
    exact hret _ _ _ _ dX5_count_83 (by unfold cnM; (repeat' split) <;> first | (exfalso; omega) | exact ⟨rfl, rfl⟩)
  by_cases hs_1_4 : w = 4
  · skip
    refine V_tabK (pc := 1) (m := 4) 84 dX5_count_1 hs_1_4 (by decide) (by decide) rfl (by decide) ?_
    refine V_aload_n (pc := 84) dX5_count_84 rfl ?_
    refine G_X5_now (pc := 85) (by first | rfl | assumption) fl_X5_25 dX5_count_85 ?_
    refine V_bipush (pc := 88) 31 dX5_count_88 (by decide) ?_
    refine V_iald (pc := 90) (by first | rfl | assumption) (by first | omega | assumption | exact and1_lt _ | exact nb_p) dX5_count_90 ?_
    exact hret _ _ _ _ dX5_count_91 (by unfold cnM; (repeat' split) <;> first | (exfalso; omega) | exact ⟨rfl, rfl⟩)
  by_cases hs_1_5 : w = 5
  · skip
    refine V_tabK (pc := 1) (m := 5) 92 dX5_count_1 hs_1_5 (by decide) (by decide) rfl (by decide) ?_
    refine V_aload_n (pc := 92) dX5_count_92 rfl ?_
    refine V_iconst (pc := 93) 0 dX5_count_93 (by decide) ?_
    refine V_callV_I (pc := 94) ff_X5_cellsOf ml_X5_249 (by first | rfl | assumption) rfl rfl (c_X5_cellsOf (z := 0) (by decide) o hp) dX5_count_94 rfl rfl (by decide) (by decide) (Nat.le_of_ble_eq_true rfl) ?_
    exact hret _ _ _ _ dX5_count_97 (by unfold cnM; (repeat' split) <;> first | (exfalso; omega) | exact ⟨rfl, rfl⟩)
  by_cases hs_1_6 : w = 6
  · skip
    refine V_tabK (pc := 1) (m := 6) 98 dX5_count_1 hs_1_6 (by decide) (by decide) rfl (by decide) ?_
    refine V_aload_n (pc := 98) dX5_count_98 rfl ?_
    refine V_iconst (pc := 99) 1 dX5_count_99 (by decide) ?_
    refine V_callV_I (pc := 100) ff_X5_cellsOf ml_X5_249 (by first | rfl | assumption) rfl rfl (c_X5_cellsOf (z := 1) (by decide) o hp) dX5_count_100 rfl rfl (by decide) (by decide) (Nat.le_of_ble_eq_true rfl) ?_
    exact hret _ _ _ _ dX5_count_103 (by unfold cnM; (repeat' split) <;> first | (exfalso; omega) | exact ⟨rfl, rfl⟩)
  by_cases hs_1_7 : w = 7
  · skip
    refine V_tabK (pc := 1) (m := 7) 104 dX5_count_1 hs_1_7 (by decide) (by decide) rfl (by decide) ?_
    refine V_aload_n (pc := 104) dX5_count_104 rfl ?_
    refine G_X5_now (pc := 105) (by first | rfl | assumption) fl_X5_25 dX5_count_105 ?_
    refine V_iconst (pc := 108) 5 dX5_count_108 (by decide) ?_
    refine V_iald (pc := 109) (by first | rfl | assumption) (by first | omega | assumption | exact and1_lt _ | exact nb_p) dX5_count_109 ?_
    exact hret _ _ _ _ dX5_count_110 (by unfold cnM; (repeat' split) <;> first | (exfalso; omega) | exact ⟨rfl, rfl⟩)
  by_cases hs_1_8 : w = 8
  · skip
    refine V_tabK (pc := 1) (m := 8) 111 dX5_count_1 hs_1_8 (by decide) (by decide) rfl (by decide) ?_
    refine V_aload_n (pc := 111) dX5_count_111 rfl ?_
    refine V_iconst (pc := 112) 0 dX5_count_112 (by decide) ?_
    refine V_callV_I (pc := 113) ff_X5_weightsOn ml_X5_169 (by first | rfl | assumption) rfl rfl (c_X5_weightsOn (by first | omega | assumption) (by first | omega | assumption)) dX5_count_113 rfl rfl (by decide) (by decide) (Nat.le_of_ble_eq_true rfl) ?_
    exact hret _ _ _ _ dX5_count_116 (by unfold cnM; (repeat' split) <;> first | (exfalso; omega) | exact ⟨rfl, rfl⟩)
  by_cases hs_1_9 : w = 9
  · skip
    refine V_tabK (pc := 1) (m := 9) 117 dX5_count_1 hs_1_9 (by decide) (by decide) rfl (by decide) ?_
    refine V_aload_n (pc := 117) dX5_count_117 rfl ?_
    refine V_aload_n (pc := 118) dX5_count_118 rfl ?_
    refine G_X5_now (pc := 119) (by first | rfl | assumption) fl_X5_25 dX5_count_119 ?_
    refine V_bipush (pc := 122) 31 dX5_count_122 (by decide) ?_
    refine V_iald (pc := 124) (by first | rfl | assumption) (by first | omega | assumption | exact and1_lt _ | exact nb_p) dX5_count_124 ?_
    refine V_callV_I (pc := 125) ff_X5_wayOf ml_X5_133 (by first | rfl | assumption) rfl rfl (c_X5_wayOf (by assumption) (by first | omega | assumption)) dX5_count_125 rfl rfl (by decide) (by decide) (Nat.le_of_ble_eq_true rfl) ?_
    exact hret _ _ _ _ dX5_count_128 (by unfold cnM; (repeat' split) <;> first | (exfalso; omega) | exact ⟨rfl, rfl⟩)
  by_cases hs_1_10 : w = 10
  · skip
    refine V_tabK (pc := 1) (m := 10) 129 dX5_count_1 hs_1_10 (by decide) (by decide) rfl (by decide) ?_
    refine V_aload_n (pc := 129) dX5_count_129 rfl ?_
    refine G_X5_acts (pc := 130) (by first | rfl | assumption) fl_X5_117 dX5_count_130 ?_
    exact hret _ _ _ _ dX5_count_133 (by unfold cnM; (repeat' split) <;> first | (exfalso; omega) | exact ⟨rfl, rfl⟩)
  by_cases hs_1_11 : w = 11
  · skip
    refine V_tabK (pc := 1) (m := 11) 134 dX5_count_1 hs_1_11 (by decide) (by decide) rfl (by decide) ?_
    refine V_aload_n (pc := 134) dX5_count_134 rfl ?_
    refine G_X5_known (pc := 135) (by first | rfl | assumption) fl_X5_206 dX5_count_135 ?_
    exact hret _ _ _ _ dX5_count_138 (by unfold cnM; (repeat' split) <;> first | (exfalso; omega) | exact ⟨rfl, rfl⟩)
  refine V_tabO (pc := 1) 139 dX5_count_1 (by first | omega | assumption | exact and1_lt _ | exact nb_p) (by omega) (by decide) (by decide) ?_
  refine V_bipush (pc := 139) 4294967294 dX5_count_139 (by decide) ?_
  exact hret _ _ _ _ dX5_count_141 (by unfold cnM; (repeat' split) <;> first | (exfalso; omega) | exact ⟨rfl, rfl⟩)
