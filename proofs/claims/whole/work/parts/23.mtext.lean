/-! THE TEXT, read: one letter after the other; what is due: 0 S, 1 a part, 2 a way, 3 a ground's cell, 4 its subject, 5 its kind, 6 a child's cell, 7 its kind. K 6 are the children's cells. -/
def stp (d x : Nat) (K : St) : Option (Nat × St) :=
  if d = 0 then (if x = 83 then some (1, K) else none)
  else if d = 1 then (if x = 84 ∧ K 0 0 < 4 then some (2, K) else if x = 71 ∧ K 0 1 < 6 then some (3, K) else if x = 67 ∧ K 0 2 < 5 then some (6, K) else none)
  else if d = 2 then (if 48 ≤ x ∧ x ≤ 52 then some (1, pt (pt K 1 (K 0 0) (x - 48)) 0 0 (K 0 0 + 1)) else none)
  else if d = 3 then (if 97 ≤ x ∧ x ≤ 108 ∧ ∀ g, g < K 0 1 → K 2 g ≠ x - 97 then some (4, pt K 2 (K 0 1) (x - 97)) else none)
  else if d = 4 then (if 48 ≤ x ∧ x ≤ 52 then some (5, pt K 3 (K 0 1) (x - 48)) else none)
  else if d = 5 then (if 48 ≤ x ∧ x ≤ 51 then some (1, pt (pt K 4 (K 0 1) (x - 48)) 0 1 (K 0 1 + 1)) else none)
  else if d = 6 then (if 97 ≤ x ∧ x ≤ 108 then some (7, pt K 6 (K 0 2) (x - 97)) else none)
  else (if 48 ≤ x ∧ x ≤ 51 then some (1, pt (pt K 5 (K 0 2) (x - 48)) 0 2 (K 0 2 + 1)) else none)
/-- n letters are left, from place i on: the fault (the machine's -9: none), and the coast -/
def rs (tx : Nat → Nat) : Nat → Nat → Nat → St → Nat × St
  | 0, d, i, K => (if d = 1 then 4294967287 else i, K)
  | n + 1, d, i, K => match stp d (tx i) K with
    | some q => rs tx n q.1 (i + 1) q.2
    | none => (i, K)
theorem rs_some {tx : Nat → Nat} {n d i : Nat} {K K' : St} {d' : Nat} (h : stp d (tx i) K = some (d', K')) : rs tx (n + 1) d i K = rs tx n d' (i + 1) K' := by
  rw [rs, h]
theorem rs_none {tx : Nat → Nat} {n d i : Nat} {K : St} (h : stp d (tx i) K = none) : rs tx (n + 1) d i K = (i, K) := by
  rw [rs, h]
def K00 : St := fun _ _ => 0
def tdC (σ : St) (z al : Nat) : Prop := σ 0 19 = 4294967287 ∧ σ 0 18 < σ 0 17 ∧ z ≤ σ 10 (σ 0 18) ∧ σ 10 (σ 0 18) - z ≤ 11 ∧ al.testBit (σ 10 (σ 0 18) - z) = true
noncomputable def tdM (σ : St) (z al : Nat) : Nat × St := match Classical.propDecidable (tdC σ z al) with
  | .isTrue _ => (σ 10 (σ 0 18) - z, pt σ 0 18 (σ 0 18 + 1))
  | .isFalse _ => (0, if σ 0 19 = 4294967287 then pt σ 0 19 (σ 0 18) else σ)
theorem tdM_t {σ : St} {z al : Nat} (h : tdC σ z al) : tdM σ z al = (σ 10 (σ 0 18) - z, pt σ 0 18 (σ 0 18 + 1)) := by
  unfold tdM
  cases Classical.propDecidable (tdC σ z al) with
  | isTrue _ => rfl
  | isFalse q => exact absurd h q
theorem tdM_f {σ : St} {z al : Nat} (h : ¬ tdC σ z al) : tdM σ z al = (0, if σ 0 19 = 4294967287 then pt σ 0 19 (σ 0 18) else σ) := by
  unfold tdM
  cases Classical.propDecidable (tdC σ z al) with
  | isTrue q => exact absurd q h
  | isFalse _ => rfl
theorem nI_subw {a b : Nat} (h : b ≤ 4294967296) : nI a - nI b = nI (a + (4294967296 - b)) := by
  have e : nI (a + (4294967296 - b)) + nI b = nI a := by
    rw [nI_add, show a + (4294967296 - b) + b = a + 4294967296 by omega]
    apply Int32.toBitVec_inj.1
    apply BitVec.eq_of_toNat_eq
    show (BitVec.ofNat 32 _).toNat = (BitVec.ofNat 32 _).toNat
    rw [BitVec.toNat_ofNat, BitVec.toNat_ofNat]
    omega
  rw [← e, Int32.add_sub_cancel]
section SW
variable {E : EE} {B : Bk} {own : String} {cc : ByteArray} {nL d : Nat} {Q : State → Prop} {pc : Nat} {lv : List (Option Value)} {st : List Value} {σ : St}
theorem V_isubW {a b : Nat} (hd : decode cc pc = .ok (.isub, 1)) (h : b ≤ 4294967296) (k : V E B own cc nL d Q (pc + 1) lv (.int (nI (a + (4294967296 - b))) :: st) σ) : V E B own cc nL d Q pc lv (.int (nI b) :: .int (nI a) :: st) σ := V_isubR hd (by rw [nI_subw h]; exact k)
end SW
theorem td_lt {σ : St} {z al : Nat} : (tdM σ z al).1 ≤ 11 := by
  by_cases h : tdC σ z al
  · rw [tdM_t h]; exact h.2.2.2.1
  · rw [tdM_f h]; exact Nat.zero_le _
theorem td_o {σ : St} {z al k i : Nat} (h : k ≠ 0 ∨ (i ≠ 18 ∧ i ≠ 19)) : (tdM σ z al).2 k i = σ k i := by
  by_cases c : tdC σ z al
  · rw [tdM_t c]; exact pt_ne (by omega)
  · rw [tdM_f c]
    show (if σ 0 19 = 4294967287 then pt σ 0 19 (σ 0 18) else σ) k i = σ k i
    split
    · exact pt_ne (by omega)
    · rfl
/-- what the text's reading needs of the store -/
def TX (σ : St) : Prop := σ 0 17 ≤ 48 ∧ (∀ i, i < 48 → σ 10 i < 256) ∧ (σ 0 18 ≤ 48) ∧ (σ 0 19 = 4294967287 ∨ σ 0 19 ≤ 48)
theorem dI2 {r : Nat × St} {x : Nat} {τ : St} (h : r = (x, τ)) : dP r (some (.int (nI x))) τ := by rw [h]; exact ⟨rfl, rfl⟩
set_option maxHeartbeats 4000000 in
set_option maxRecDepth 100000 in
theorem c_X5_toldBy {B : Bk} {σ : St} {z al : Nat} (hz : z < 256) (hal : al < 2 ^ 31) (tx : TX σ) : MC yX5_toldBy cX5_toldBy 5 (some .int) 1 B [.ref (B.1 0), .int (nI z), .int (nI al)] σ (dP (tdM σ z al)) := by
  obtain ⟨t1, t2, t3, t4⟩ := id tx
  refine MC_int RX5 [some (.ref (B.1 0)), some (.int (nI z)), some (.int (nI al)), none, none] 2 (by decide +kernel) rfl rfl (Nat.le_of_ble_eq_true rfl) (fun E Q hret => ?_)
  have J_73 : ∀ (x y : Option Value), ¬ tdC σ z al → V E B RX5 cX5_toldBy 5 1 Q 73 [some (.ref (B.1 0)), some (.int (nI z)), some (.int (nI al)), x, y] [] (σ) := by
    intro x y hnot
    refine V_aload_n (pc := 73) dX5_toldBy_73 rfl ?_
    refine V_aload_n (pc := 74) dX5_toldBy_74 rfl ?_
    refine G_X5_faultAt (pc := 75) (by first | rfl | assumption) fl_X5_72 dX5_toldBy_75 ?_
    refine V_bipush (pc := 78) 4294967287 dX5_toldBy_78 (by decide) ?_
    refine V_icmp_ne (pc := 80) 90 dX5_toldBy_80 (by decide) (by omega) (by omega) (fun h_80 => ?_) (fun h_80 => ?_)
    · skip
      refine V_aload_n (pc := 90) dX5_toldBy_90 rfl ?_
      refine G_X5_faultAt (pc := 91) (by first | rfl | assumption) fl_X5_72 dX5_toldBy_91 ?_
      refine P_X5_faultAt (pc := 94) (by first | rfl | assumption) fl_X5_72 dX5_toldBy_94 ?_
      refine V_iconst (pc := 97) 0 dX5_toldBy_97 (by decide) ?_
      exact hret _ _ _ _ dX5_toldBy_98 (dI2 (by rw [tdM_f hnot]; first | (rw [if_pos (by omega)]; done) | (rw [if_neg (by omega), pt_id rfl])))
    · skip
      refine V_aload_n (pc := 83) dX5_toldBy_83 rfl ?_
      refine G_X5_at (pc := 84) (by first | rfl | assumption) fl_X5_75 dX5_toldBy_84 ?_
      refine V_goto (pc := 87) 94 dX5_toldBy_87 (by decide) ?_
      refine P_X5_faultAt (pc := 94) (by first | rfl | assumption) fl_X5_72 dX5_toldBy_94 ?_
      refine V_iconst (pc := 97) 0 dX5_toldBy_97 (by decide) ?_
      exact hret _ _ _ _ dX5_toldBy_98 (dI2 (by rw [tdM_f hnot]; first | (rw [if_pos (by omega)]; done) | (rw [if_neg (by omega), pt_id rfl])))
  have J_47 : ∀ (v : Nat), v < 2 ^ 32 → σ 0 19 = 4294967287 → σ 0 18 < σ 0 17 → (v ≤ 11 ↔ z ≤ σ 10 (σ 0 18) ∧ σ 10 (σ 0 18) - z ≤ 11) → (v ≤ 11 → v = σ 10 (σ 0 18) - z) → V E B RX5 cX5_toldBy 5 1 Q 47 [some (.ref (B.1 0)), some (.int (nI z)), some (.int (nI al)), some (.int (nI 1)), some (.int (nI v))] [] σ := by
    intro v hv e1 e2 e3 e4
    refine V_iload_n (pc := 47) dX5_toldBy_47 rfl ?_
    refine V_if_eq (pc := 48) 73 dX5_toldBy_48 (by decide) (by first | omega | assumption | exact and1_lt _ | exact nb_p) (fun h_48 => absurd h_48 (by omega)) (fun h_48 => ?_)
    refine V_iload (pc := 51) dX5_toldBy_51 rfl ?_
    refine V_i2l (pc := 53) dX5_toldBy_53 rfl ?_
    refine V_lconst (pc := 54) (v := lN 0) dX5_toldBy_54 rfl ?_
    refine V_ldc2N (pc := 55) (m := 11) kl_X5_78 rfl dX5_toldBy_55 ?_
    refine V_callS_I (pc := 58) ff_X5_in ml_X5_65 (c_X5_inI (by first | omega | assumption | exact and1_lt _ | exact nb_p) (by decide) (by decide)) dX5_toldBy_58 rfl rfl (by decide) (by decide) (Nat.le_of_ble_eq_true rfl) ?_
    refine V_ifb_eq (pc := 61) 73 dX5_toldBy_61 (by decide) (fun h_61 => ?_) (fun h_61 => ?_)
    · skip
      exact J_73 _ _ (fun q => by
        obtain ⟨q1, q2, q3, q4, q5⟩ := q
        first
        | exact absurd (And.intro (Nat.zero_le v) (e3.mpr ⟨q3, q4⟩)) h_61
        | (rw [e4 h_61.2] at h_70; exact h_70 q5))
    · skip
      refine V_iload_n (pc := 64) dX5_toldBy_64 rfl ?_
      refine V_iload (pc := 65) dX5_toldBy_65 rfl ?_
      refine V_callS_I (pc := 67) ff_X5_has ml_X5_80 (c_X5_has hal (by omega)) dX5_toldBy_67 rfl rfl (by decide) (by decide) (Nat.le_of_ble_eq_true rfl) ?_
      refine V_ifb_ne (pc := 70) 99 dX5_toldBy_70 (by decide) (fun h_70 => ?_) (fun h_70 => ?_)
      · skip
        refine V_aload_n (pc := 99) dX5_toldBy_99 rfl ?_
        refine V_dup (pc := 100) dX5_toldBy_100 rfl ?_
        refine G_X5_at (pc := 101) (by first | rfl | assumption) fl_X5_75 dX5_toldBy_101 ?_
        refine V_iconst (pc := 104) 1 dX5_toldBy_104 (by decide) ?_
        refine V_iadd (pc := 105) dX5_toldBy_105 ?_
        refine P_X5_at (pc := 106) (by first | rfl | assumption) fl_X5_75 dX5_toldBy_106 ?_
        refine V_iload (pc := 109) dX5_toldBy_109 rfl ?_
        exact hret _ _ _ _ dX5_toldBy_111 (dI2 (by rw [tdM_t ⟨e1, e2, (e3.mp h_61.2).1, (e3.mp h_61.2).2, by rw [← e4 h_61.2]; exact h_70⟩, ← e4 h_61.2]))
      · skip
        exact J_73 _ _ (fun q => by
          obtain ⟨q1, q2, q3, q4, q5⟩ := q
          first
          | exact absurd (And.intro (Nat.zero_le v) (e3.mpr ⟨q3, q4⟩)) h_61
          | (rw [e4 h_61.2] at h_70; exact h_70 q5))
  refine V_aload_n (pc := 0) dX5_toldBy_0 rfl ?_
  refine G_X5_faultAt (pc := 1) (by first | rfl | assumption) fl_X5_72 dX5_toldBy_1 ?_
  refine V_bipush (pc := 4) 4294967287 dX5_toldBy_4 (by decide) ?_
  refine V_icmp_ne (pc := 6) 24 dX5_toldBy_6 (by decide) (by omega) (by omega) (fun h_6 => ?_) (fun h_6 => ?_)
  · skip
    refine V_iconst (pc := 24) 0 dX5_toldBy_24 (by decide) ?_
    refine V_istore_n (pc := 25) dX5_toldBy_25 (by decide) rfl ?_
    refine V_iload_n (pc := 26) dX5_toldBy_26 rfl ?_
    refine V_if_eq (pc := 27) 44 dX5_toldBy_27 (by decide) (by first | omega | assumption | exact and1_lt _ | exact nb_p) (fun h_27 => ?_) (fun h_27 => ?_)
    · skip
      refine V_iconst (pc := 44) 0 dX5_toldBy_44 (by decide) ?_
      refine V_istore (pc := 45) dX5_toldBy_45 (by decide) rfl ?_
      refine V_iload_n (pc := 47) dX5_toldBy_47 rfl ?_
      refine V_if_eq (pc := 48) 73 dX5_toldBy_48 (by decide) (by first | omega | assumption | exact and1_lt _ | exact nb_p) (fun h_48 => ?_) (fun h_48 => absurd h_48 (by omega))
      exact J_73 _ _ (fun q => by
        obtain ⟨q1, q2, q3, q4, q5⟩ := q
        omega)
    · skip
      refine V_aload_n (pc := 30) dX5_toldBy_30 rfl ?_
      refine G_X5_text (pc := 31) (by first | rfl | assumption) fl_X5_37 dX5_toldBy_31 ?_
      refine V_aload_n (pc := 34) dX5_toldBy_34 rfl ?_
      refine G_X5_at (pc := 35) (by first | rfl | assumption) fl_X5_75 dX5_toldBy_35 ?_
      refine V_iald (pc := 38) (by first | rfl | assumption) (by first | omega | assumption | exact and1_lt _ | exact nb_p) dX5_toldBy_38 ?_
      refine V_iload_n (pc := 39) dX5_toldBy_39 rfl ?_
      have hx := t2 (σ 0 18) (by omega)
      by_cases hzx : z ≤ σ 10 (σ 0 18)
      · skip
        refine V_isub (pc := 40) dX5_toldBy_40 hzx ?_
        refine V_goto (pc := 41) 45 dX5_toldBy_41 (by decide) ?_
        refine V_istore (pc := 45) dX5_toldBy_45 (by decide) rfl ?_
        first | (exfalso; omega) | exact J_47 _ (by omega) (by omega) (by omega) (by omega) (by omega)
      · skip
        refine V_isubW (pc := 40) dX5_toldBy_40 (by omega) ?_
        refine V_goto (pc := 41) 45 dX5_toldBy_41 (by decide) ?_
        refine V_istore (pc := 45) dX5_toldBy_45 (by decide) rfl ?_
        first | (exfalso; omega) | exact J_47 _ (by omega) (by omega) (by omega) (by omega) (by omega)
  · skip
    refine V_aload_n (pc := 9) dX5_toldBy_9 rfl ?_
    refine G_X5_at (pc := 10) (by first | rfl | assumption) fl_X5_75 dX5_toldBy_10 ?_
    refine V_aload_n (pc := 13) dX5_toldBy_13 rfl ?_
    refine G_X5_length (pc := 14) (by first | rfl | assumption) fl_X5_69 dX5_toldBy_14 ?_
    refine V_icmp_ge (pc := 17) 24 dX5_toldBy_17 (by decide) (by first | omega | assumption | exact and1_lt _ | exact nb_p) (by first | omega | assumption | exact and1_lt _ | exact nb_p) (fun h_17 => ?_) (fun h_17 => ?_)
    · skip
      refine V_iconst (pc := 24) 0 dX5_toldBy_24 (by decide) ?_
      refine V_istore_n (pc := 25) dX5_toldBy_25 (by decide) rfl ?_
      refine V_iload_n (pc := 26) dX5_toldBy_26 rfl ?_
      refine V_if_eq (pc := 27) 44 dX5_toldBy_27 (by decide) (by first | omega | assumption | exact and1_lt _ | exact nb_p) (fun h_27 => ?_) (fun h_27 => ?_)
      · skip
        refine V_iconst (pc := 44) 0 dX5_toldBy_44 (by decide) ?_
        refine V_istore (pc := 45) dX5_toldBy_45 (by decide) rfl ?_
        refine V_iload_n (pc := 47) dX5_toldBy_47 rfl ?_
        refine V_if_eq (pc := 48) 73 dX5_toldBy_48 (by decide) (by first | omega | assumption | exact and1_lt _ | exact nb_p) (fun h_48 => ?_) (fun h_48 => absurd h_48 (by omega))
        exact J_73 _ _ (fun q => by
          obtain ⟨q1, q2, q3, q4, q5⟩ := q
          omega)
      · skip
        refine V_aload_n (pc := 30) dX5_toldBy_30 rfl ?_
        refine G_X5_text (pc := 31) (by first | rfl | assumption) fl_X5_37 dX5_toldBy_31 ?_
        refine V_aload_n (pc := 34) dX5_toldBy_34 rfl ?_
        refine G_X5_at (pc := 35) (by first | rfl | assumption) fl_X5_75 dX5_toldBy_35 ?_
        refine V_iald (pc := 38) (by first | rfl | assumption) (by first | omega | assumption | exact and1_lt _ | exact nb_p) dX5_toldBy_38 ?_
        refine V_iload_n (pc := 39) dX5_toldBy_39 rfl ?_
        have hx := t2 (σ 0 18) (by omega)
        by_cases hzx : z ≤ σ 10 (σ 0 18)
        · skip
          refine V_isub (pc := 40) dX5_toldBy_40 hzx ?_
          refine V_goto (pc := 41) 45 dX5_toldBy_41 (by decide) ?_
          refine V_istore (pc := 45) dX5_toldBy_45 (by decide) rfl ?_
          first | (exfalso; omega) | exact J_47 _ (by omega) (by omega) (by omega) (by omega) (by omega)
        · skip
          refine V_isubW (pc := 40) dX5_toldBy_40 (by omega) ?_
          refine V_goto (pc := 41) 45 dX5_toldBy_41 (by decide) ?_
          refine V_istore (pc := 45) dX5_toldBy_45 (by decide) rfl ?_
          first | (exfalso; omega) | exact J_47 _ (by omega) (by omega) (by omega) (by omega) (by omega)
    · skip
      refine V_iconst (pc := 20) 1 dX5_toldBy_20 (by decide) ?_
      refine V_goto (pc := 21) 25 dX5_toldBy_21 (by decide) ?_
      refine V_istore_n (pc := 25) dX5_toldBy_25 (by decide) rfl ?_
      refine V_iload_n (pc := 26) dX5_toldBy_26 rfl ?_
      refine V_if_eq (pc := 27) 44 dX5_toldBy_27 (by decide) (by first | omega | assumption | exact and1_lt _ | exact nb_p) (fun h_27 => ?_) (fun h_27 => ?_)
      · skip
        refine V_iconst (pc := 44) 0 dX5_toldBy_44 (by decide) ?_
        refine V_istore (pc := 45) dX5_toldBy_45 (by decide) rfl ?_
        refine V_iload_n (pc := 47) dX5_toldBy_47 rfl ?_
        refine V_if_eq (pc := 48) 73 dX5_toldBy_48 (by decide) (by first | omega | assumption | exact and1_lt _ | exact nb_p) (fun h_48 => ?_) (fun h_48 => absurd h_48 (by omega))
        exact J_73 _ _ (fun q => by
          obtain ⟨q1, q2, q3, q4, q5⟩ := q
          omega)
      · skip
        refine V_aload_n (pc := 30) dX5_toldBy_30 rfl ?_
        refine G_X5_text (pc := 31) (by first | rfl | assumption) fl_X5_37 dX5_toldBy_31 ?_
        refine V_aload_n (pc := 34) dX5_toldBy_34 rfl ?_
        refine G_X5_at (pc := 35) (by first | rfl | assumption) fl_X5_75 dX5_toldBy_35 ?_
        refine V_iald (pc := 38) (by first | rfl | assumption) (by first | omega | assumption | exact and1_lt _ | exact nb_p) dX5_toldBy_38 ?_
        refine V_iload_n (pc := 39) dX5_toldBy_39 rfl ?_
        have hx := t2 (σ 0 18) (by omega)
        by_cases hzx : z ≤ σ 10 (σ 0 18)
        · skip
          refine V_isub (pc := 40) dX5_toldBy_40 hzx ?_
          refine V_goto (pc := 41) 45 dX5_toldBy_41 (by decide) ?_
          refine V_istore (pc := 45) dX5_toldBy_45 (by decide) rfl ?_
          first | (exfalso; omega) | exact J_47 _ (by omega) (by omega) (by omega) (by omega) (by omega)
        · skip
          refine V_isubW (pc := 40) dX5_toldBy_40 (by omega) ?_
          refine V_goto (pc := 41) 45 dX5_toldBy_41 (by decide) ?_
          refine V_istore (pc := 45) dX5_toldBy_45 (by decide) rfl ?_
          first | (exfalso; omega) | exact J_47 _ (by omega) (by omega) (by omega) (by omega) (by omega)
noncomputable def rpT (σ : St) : St := pt (pt (tdM (pt σ 0 18 (σ 0 18 + 1)) 48 31).2 7 (σ 0 12) (tdM (pt σ 0 18 (σ 0 18 + 1)) 48 31).1) 0 12 (σ 0 12 + 1)
def rg0 (σ : St) : St := pt σ 0 18 (σ 0 18 + 1)
noncomputable def rg1 (σ : St) : Nat × St := tdM (rg0 σ) 97 (4095 &&& (σ 0 15 ^^^ 4294967295))
noncomputable def rg2 (σ : St) : Nat × St := tdM (pt (rg1 σ).2 8 (3 * σ 0 13) (rg1 σ).1) 48 31
noncomputable def rg3 (σ : St) : Nat × St := tdM (pt (rg2 σ).2 8 (3 * σ 0 13 + 1) (rg2 σ).1) 48 15
noncomputable def rpG (σ : St) : St := pt (pt (pt (rg3 σ).2 8 (3 * σ 0 13 + 2) (rg3 σ).1) 0 15 (σ 0 15 ||| 1 * 2 ^ (rg1 σ).1)) 0 13 (σ 0 13 + 1)
noncomputable def rc1 (σ : St) : Nat × St := tdM (rg0 σ) 97 4095
noncomputable def rc2 (σ : St) : Nat × St := tdM (pt (rc1 σ).2 9 (2 * σ 0 14) (rc1 σ).1) 48 15
noncomputable def rpC (σ : St) : St := pt (pt (rc2 σ).2 9 (2 * σ 0 14 + 1) (rc2 σ).1) 0 14 (σ 0 14 + 1)
noncomputable def rpM (σ : St) (x : Nat) : St := if x = 84 ∧ σ 0 12 < 4 then rpT σ else if x = 71 ∧ σ 0 13 < 6 then rpG σ else if x = 67 ∧ σ 0 14 < 5 then rpC σ else pt σ 0 19 (σ 0 18)
theorem TX_at {σ : St} (h : TX σ) (hl : σ 0 18 < σ 0 17) : TX (rg0 σ) := by
  obtain ⟨t1, t2, t3, t4⟩ := h
  unfold rg0
  refine ⟨by rw [pt_ne (by omega)]; exact t1, fun i hi => by rw [pt_ne (by omega)]; exact t2 i hi, by rw [pt_at]; omega, by rw [pt_ne (by omega)]; exact t4⟩
theorem TX_td {σ : St} {z al : Nat} (h : TX σ) : TX (tdM σ z al).2 := by
  obtain ⟨t1, t2, t3, t4⟩ := h
  refine ⟨by rw [td_o (by omega)]; exact t1, fun i hi => by rw [td_o (by omega)]; exact t2 i hi, ?_, ?_⟩
  · by_cases c : tdC σ z al
    · rw [tdM_t c]
      show pt σ 0 18 (σ 0 18 + 1) 0 18 ≤ 48
      rw [pt_at]; have := c.2.1; omega
    · rw [tdM_f c]
      show (if σ 0 19 = 4294967287 then pt σ 0 19 (σ 0 18) else σ) 0 18 ≤ 48
      split
      · rw [pt_ne (by omega)]; exact t3
      · exact t3
  · by_cases c : tdC σ z al
    · rw [tdM_t c]
      show pt σ 0 18 (σ 0 18 + 1) 0 19 = 4294967287 ∨ pt σ 0 18 (σ 0 18 + 1) 0 19 ≤ 48
      rw [pt_ne (by omega)]; exact t4
    · rw [tdM_f c]
      show (if σ 0 19 = 4294967287 then pt σ 0 19 (σ 0 18) else σ) 0 19 = _ ∨ (if σ 0 19 = 4294967287 then pt σ 0 19 (σ 0 18) else σ) 0 19 ≤ 48
      split
      · rw [pt_at]; exact Or.inr t3
      · exact t4
theorem TX_pt {σ : St} {k i x : Nat} (h : TX σ) (hk : k ≠ 0 ∨ (i ≠ 17 ∧ i ≠ 18 ∧ i ≠ 19)) (hk2 : k ≠ 10) : TX (pt σ k i x) := by
  obtain ⟨t1, t2, t3, t4⟩ := h
  exact ⟨by rw [pt_ne (by omega)]; exact t1, fun i hi => by rw [pt_ne (by omega)]; exact t2 i hi, by rw [pt_ne (by omega)]; exact t3, by rw [pt_ne (by omega)]; exact t4⟩
theorem al_lt (x : Nat) : 4095 &&& x < 2 ^ 31 := Nat.lt_of_le_of_lt Nat.and_le_left (by decide)
set_option maxHeartbeats 4000000 in
set_option maxRecDepth 100000 in
theorem c_X5_readPart {B : Bk} {σ : St} {x : Nat} (hx : x < 256) (h12 : σ 0 12 ≤ 4) (h13 : σ 0 13 ≤ 6) (h14 : σ 0 14 ≤ 5) (tx : TX σ) (hl : σ 0 18 < σ 0 17) : MC yX5_readPart cX5_readPart 3 none 2 B [.ref (B.1 0), .int (nI x)] σ (dV (rpM σ x)) := by
  have tx0 := TX_at tx hl
  have txg := TX_td (z := 97) (al := 4095 &&& (σ 0 15 ^^^ 4294967295)) tx0
  have txc := TX_td (z := 97) (al := 4095) tx0
  have lg := td_lt (σ := rg0 σ) (z := 97) (al := 4095 &&& (σ 0 15 ^^^ 4294967295))
  refine MC_void RX5 [some (.ref (B.1 0)), some (.int (nI x)), none] 1 (by decide +kernel) rfl rfl (Nat.le_of_ble_eq_true rfl) (fun E Q hret => ?_)
  refine V_iload_n (pc := 0) dX5_readPart_0 rfl ?_
  refine V_bipush (pc := 1) 84 dX5_readPart_1 (by decide) ?_
  refine V_icmp_ne (pc := 3) 54 dX5_readPart_3 (by decide) (by first | omega | assumption | exact and1_lt _ | exact nb_p) (by first | omega | assumption | exact and1_lt _ | exact nb_p) (fun h_3 => ?_) (fun h_3 => ?_)
  · skip
    refine V_iload_n (pc := 54) dX5_readPart_54 rfl ?_
    refine V_bipush (pc := 55) 71 dX5_readPart_55 (by decide) ?_
    refine V_icmp_ne (pc := 57) 170 dX5_readPart_57 (by decide) (by first | omega | assumption | exact and1_lt _ | exact nb_p) (by first | omega | assumption | exact and1_lt _ | exact nb_p) (fun h_57 => ?_) (fun h_57 => ?_)
    · skip
      refine V_iload_n (pc := 170) dX5_readPart_170 rfl ?_
      refine V_bipush (pc := 171) 67 dX5_readPart_171 (by decide) ?_
      refine V_icmp_ne (pc := 173) 248 dX5_readPart_173 (by decide) (by first | omega | assumption | exact and1_lt _ | exact nb_p) (by first | omega | assumption | exact and1_lt _ | exact nb_p) (fun h_173 => ?_) (fun h_173 => ?_)
      · skip
        refine V_aload_n (pc := 248) dX5_readPart_248 rfl ?_
        refine V_aload_n (pc := 249) dX5_readPart_249 rfl ?_
        refine G_X5_at (pc := 250) (by first | rfl | assumption) fl_X5_75 dX5_readPart_250 ?_
        refine P_X5_faultAt (pc := 253) (by first | rfl | assumption) fl_X5_72 dX5_readPart_253 ?_
        exact hret _ _ _ dX5_readPart_256 (dV_mk (by unfold rpM; (repeat' split) <;> first | (exfalso; omega) | rfl))
      · skip
        refine V_aload_n (pc := 176) dX5_readPart_176 rfl ?_
        refine G_X5_readChildren (pc := 177) (by first | rfl | assumption) fl_X5_90 dX5_readPart_177 ?_
        refine V_iconst (pc := 180) 5 dX5_readPart_180 (by decide) ?_
        refine V_icmp_ge (pc := 181) 248 dX5_readPart_181 (by decide) (by first | omega | assumption | exact and1_lt _ | exact nb_p) (by first | omega | assumption | exact and1_lt _ | exact nb_p) (fun h_181 => ?_) (fun h_181 => ?_)
        · skip
          refine V_aload_n (pc := 248) dX5_readPart_248 rfl ?_
          refine V_aload_n (pc := 249) dX5_readPart_249 rfl ?_
          refine G_X5_at (pc := 250) (by first | rfl | assumption) fl_X5_75 dX5_readPart_250 ?_
          refine P_X5_faultAt (pc := 253) (by first | rfl | assumption) fl_X5_72 dX5_readPart_253 ?_
          exact hret _ _ _ dX5_readPart_256 (dV_mk (by unfold rpM; (repeat' split) <;> first | (exfalso; omega) | rfl))
        · skip
          refine V_aload_n (pc := 184) dX5_readPart_184 rfl ?_
          refine V_dup (pc := 185) dX5_readPart_185 rfl ?_
          refine G_X5_at (pc := 186) (by first | rfl | assumption) fl_X5_75 dX5_readPart_186 ?_
          refine V_iconst (pc := 189) 1 dX5_readPart_189 (by decide) ?_
          refine V_iadd (pc := 190) dX5_readPart_190 ?_
          refine P_X5_at (pc := 191) (by first | rfl | assumption) fl_X5_75 dX5_readPart_191 ?_
          rw [show pt σ 0 18 (σ 0 18 + 1) = rg0 σ from rfl]
          refine V_aload_n (pc := 194) dX5_readPart_194 rfl ?_
          refine G_X5_readChild (pc := 195) (by first | rfl | assumption) fl_X5_34 dX5_readPart_195 ?_
          refine V_iconst (pc := 198) 2 dX5_readPart_198 (by decide) ?_
          refine V_aload_n (pc := 199) dX5_readPart_199 rfl ?_
          refine G_X5_readChildren (pc := 200) (by first | rfl | assumption) fl_X5_90 dX5_readPart_200 ?_
          rw [show rg0 σ 0 14 = σ 0 14 from pt_ne (by omega)]
          refine V_imul (pc := 203) dX5_readPart_203 ?_
          refine V_aload_n (pc := 204) dX5_readPart_204 rfl ?_
          refine V_bipush (pc := 205) 97 dX5_readPart_205 (by decide) ?_
          refine V_sipush (pc := 207) 4095 dX5_readPart_207 (by decide) ?_
          refine V_callV_I (pc := 210) ff_X5_toldBy ml_X5_100 (by first | rfl | assumption) rfl rfl (c_X5_toldBy (by decide) (by decide) tx0) dX5_readPart_210 rfl rfl (by decide) (by decide) (Nat.le_of_ble_eq_true rfl) ?_
          refine V_iast (pc := 213) (by first | rfl | assumption) (by first | omega | assumption | exact and1_lt _ | exact nb_p) dX5_readPart_213 ?_
          refine V_aload_n (pc := 214) dX5_readPart_214 rfl ?_
          refine G_X5_readChild (pc := 215) (by first | rfl | assumption) fl_X5_34 dX5_readPart_215 ?_
          refine V_iconst (pc := 218) 2 dX5_readPart_218 (by decide) ?_
          refine V_aload_n (pc := 219) dX5_readPart_219 rfl ?_
          refine G_X5_readChildren (pc := 220) (by first | rfl | assumption) fl_X5_90 dX5_readPart_220 ?_
          rw [pt_ne (by omega), td_o (by omega), show rg0 σ 0 14 = σ 0 14 from pt_ne (by omega)]
          refine V_imul (pc := 223) dX5_readPart_223 ?_
          refine V_iconst (pc := 224) 1 dX5_readPart_224 (by decide) ?_
          refine V_iadd (pc := 225) dX5_readPart_225 ?_
          refine V_aload_n (pc := 226) dX5_readPart_226 rfl ?_
          refine V_bipush (pc := 227) 48 dX5_readPart_227 (by decide) ?_
          refine V_bipush (pc := 229) 15 dX5_readPart_229 (by decide) ?_
          refine V_callV_I (pc := 231) ff_X5_toldBy ml_X5_100 (by first | rfl | assumption) rfl rfl (c_X5_toldBy (by decide) (by decide) (TX_pt txc (by omega) (by omega))) dX5_readPart_231 rfl rfl (by decide) (by decide) (Nat.le_of_ble_eq_true rfl) ?_
          refine V_iast (pc := 234) (by first | rfl | assumption) (by first | omega | assumption | exact and1_lt _ | exact nb_p) dX5_readPart_234 ?_
          refine V_aload_n (pc := 235) dX5_readPart_235 rfl ?_
          refine V_dup (pc := 236) dX5_readPart_236 rfl ?_
          refine G_X5_readChildren (pc := 237) (by first | rfl | assumption) fl_X5_90 dX5_readPart_237 ?_
          rw [pt_ne (by omega), td_o (by omega), pt_ne (by omega), td_o (by omega), show rg0 σ 0 14 = σ 0 14 from pt_ne (by omega)]
          refine V_iconst (pc := 240) 1 dX5_readPart_240 (by decide) ?_
          refine V_iadd (pc := 241) dX5_readPart_241 ?_
          refine P_X5_readChildren (pc := 242) (by first | rfl | assumption) fl_X5_90 dX5_readPart_242 ?_
          refine V_goto (pc := 245) 256 dX5_readPart_245 (by decide) ?_
          exact hret _ _ _ dX5_readPart_256 (dV_mk (by unfold rpM; (repeat' split) <;> first | (exfalso; omega) | rfl))
    · skip
      refine V_aload_n (pc := 60) dX5_readPart_60 rfl ?_
      refine G_X5_readGrounds (pc := 61) (by first | rfl | assumption) fl_X5_87 dX5_readPart_61 ?_
      refine V_bipush (pc := 64) 6 dX5_readPart_64 (by decide) ?_
      refine V_icmp_ge (pc := 66) 170 dX5_readPart_66 (by decide) (by first | omega | assumption | exact and1_lt _ | exact nb_p) (by first | omega | assumption | exact and1_lt _ | exact nb_p) (fun h_66 => ?_) (fun h_66 => ?_)
      · skip
        refine V_iload_n (pc := 170) dX5_readPart_170 rfl ?_
        refine V_bipush (pc := 171) 67 dX5_readPart_171 (by decide) ?_
        refine V_icmp_ne (pc := 173) 248 dX5_readPart_173 (by decide) (by first | omega | assumption | exact and1_lt _ | exact nb_p) (by first | omega | assumption | exact and1_lt _ | exact nb_p) (fun h_173 => ?_) (fun h_173 => ?_)
        · skip
          refine V_aload_n (pc := 248) dX5_readPart_248 rfl ?_
          refine V_aload_n (pc := 249) dX5_readPart_249 rfl ?_
          refine G_X5_at (pc := 250) (by first | rfl | assumption) fl_X5_75 dX5_readPart_250 ?_
          refine P_X5_faultAt (pc := 253) (by first | rfl | assumption) fl_X5_72 dX5_readPart_253 ?_
          exact hret _ _ _ dX5_readPart_256 (dV_mk (by unfold rpM; (repeat' split) <;> first | (exfalso; omega) | rfl))
        · skip
          refine V_aload_n (pc := 176) dX5_readPart_176 rfl ?_
          refine G_X5_readChildren (pc := 177) (by first | rfl | assumption) fl_X5_90 dX5_readPart_177 ?_
          refine V_iconst (pc := 180) 5 dX5_readPart_180 (by decide) ?_
          refine V_icmp_ge (pc := 181) 248 dX5_readPart_181 (by decide) (by first | omega | assumption | exact and1_lt _ | exact nb_p) (by first | omega | assumption | exact and1_lt _ | exact nb_p) (fun h_181 => ?_) (fun h_181 => ?_)
          · skip
            refine V_aload_n (pc := 248) dX5_readPart_248 rfl ?_
            refine V_aload_n (pc := 249) dX5_readPart_249 rfl ?_
            refine G_X5_at (pc := 250) (by first | rfl | assumption) fl_X5_75 dX5_readPart_250 ?_
            refine P_X5_faultAt (pc := 253) (by first | rfl | assumption) fl_X5_72 dX5_readPart_253 ?_
            exact hret _ _ _ dX5_readPart_256 (dV_mk (by unfold rpM; (repeat' split) <;> first | (exfalso; omega) | rfl))
          · skip
            refine V_aload_n (pc := 184) dX5_readPart_184 rfl ?_
            refine V_dup (pc := 185) dX5_readPart_185 rfl ?_
            refine G_X5_at (pc := 186) (by first | rfl | assumption) fl_X5_75 dX5_readPart_186 ?_
            refine V_iconst (pc := 189) 1 dX5_readPart_189 (by decide) ?_
            refine V_iadd (pc := 190) dX5_readPart_190 ?_
            refine P_X5_at (pc := 191) (by first | rfl | assumption) fl_X5_75 dX5_readPart_191 ?_
            rw [show pt σ 0 18 (σ 0 18 + 1) = rg0 σ from rfl]
            refine V_aload_n (pc := 194) dX5_readPart_194 rfl ?_
            refine G_X5_readChild (pc := 195) (by first | rfl | assumption) fl_X5_34 dX5_readPart_195 ?_
            refine V_iconst (pc := 198) 2 dX5_readPart_198 (by decide) ?_
            refine V_aload_n (pc := 199) dX5_readPart_199 rfl ?_
            refine G_X5_readChildren (pc := 200) (by first | rfl | assumption) fl_X5_90 dX5_readPart_200 ?_
            rw [show rg0 σ 0 14 = σ 0 14 from pt_ne (by omega)]
            refine V_imul (pc := 203) dX5_readPart_203 ?_
            refine V_aload_n (pc := 204) dX5_readPart_204 rfl ?_
            refine V_bipush (pc := 205) 97 dX5_readPart_205 (by decide) ?_
            refine V_sipush (pc := 207) 4095 dX5_readPart_207 (by decide) ?_
            refine V_callV_I (pc := 210) ff_X5_toldBy ml_X5_100 (by first | rfl | assumption) rfl rfl (c_X5_toldBy (by decide) (by decide) tx0) dX5_readPart_210 rfl rfl (by decide) (by decide) (Nat.le_of_ble_eq_true rfl) ?_
            refine V_iast (pc := 213) (by first | rfl | assumption) (by first | omega | assumption | exact and1_lt _ | exact nb_p) dX5_readPart_213 ?_
            refine V_aload_n (pc := 214) dX5_readPart_214 rfl ?_
            refine G_X5_readChild (pc := 215) (by first | rfl | assumption) fl_X5_34 dX5_readPart_215 ?_
            refine V_iconst (pc := 218) 2 dX5_readPart_218 (by decide) ?_
            refine V_aload_n (pc := 219) dX5_readPart_219 rfl ?_
            refine G_X5_readChildren (pc := 220) (by first | rfl | assumption) fl_X5_90 dX5_readPart_220 ?_
            rw [pt_ne (by omega), td_o (by omega), show rg0 σ 0 14 = σ 0 14 from pt_ne (by omega)]
            refine V_imul (pc := 223) dX5_readPart_223 ?_
            refine V_iconst (pc := 224) 1 dX5_readPart_224 (by decide) ?_
            refine V_iadd (pc := 225) dX5_readPart_225 ?_
            refine V_aload_n (pc := 226) dX5_readPart_226 rfl ?_
            refine V_bipush (pc := 227) 48 dX5_readPart_227 (by decide) ?_
            refine V_bipush (pc := 229) 15 dX5_readPart_229 (by decide) ?_
            refine V_callV_I (pc := 231) ff_X5_toldBy ml_X5_100 (by first | rfl | assumption) rfl rfl (c_X5_toldBy (by decide) (by decide) (TX_pt txc (by omega) (by omega))) dX5_readPart_231 rfl rfl (by decide) (by decide) (Nat.le_of_ble_eq_true rfl) ?_
            refine V_iast (pc := 234) (by first | rfl | assumption) (by first | omega | assumption | exact and1_lt _ | exact nb_p) dX5_readPart_234 ?_
            refine V_aload_n (pc := 235) dX5_readPart_235 rfl ?_
            refine V_dup (pc := 236) dX5_readPart_236 rfl ?_
            refine G_X5_readChildren (pc := 237) (by first | rfl | assumption) fl_X5_90 dX5_readPart_237 ?_
            rw [pt_ne (by omega), td_o (by omega), pt_ne (by omega), td_o (by omega), show rg0 σ 0 14 = σ 0 14 from pt_ne (by omega)]
            refine V_iconst (pc := 240) 1 dX5_readPart_240 (by decide) ?_
            refine V_iadd (pc := 241) dX5_readPart_241 ?_
            refine P_X5_readChildren (pc := 242) (by first | rfl | assumption) fl_X5_90 dX5_readPart_242 ?_
            refine V_goto (pc := 245) 256 dX5_readPart_245 (by decide) ?_
            exact hret _ _ _ dX5_readPart_256 (dV_mk (by unfold rpM; (repeat' split) <;> first | (exfalso; omega) | rfl))
      · skip
        refine V_aload_n (pc := 69) dX5_readPart_69 rfl ?_
        refine V_dup (pc := 70) dX5_readPart_70 rfl ?_
        refine G_X5_at (pc := 71) (by first | rfl | assumption) fl_X5_75 dX5_readPart_71 ?_
        refine V_iconst (pc := 74) 1 dX5_readPart_74 (by decide) ?_
        refine V_iadd (pc := 75) dX5_readPart_75 ?_
        refine P_X5_at (pc := 76) (by first | rfl | assumption) fl_X5_75 dX5_readPart_76 ?_
        rw [show pt σ 0 18 (σ 0 18 + 1) = rg0 σ from rfl]
        refine V_iconst (pc := 79) 3 dX5_readPart_79 (by decide) ?_
        refine V_aload_n (pc := 80) dX5_readPart_80 rfl ?_
        refine G_X5_readGrounds (pc := 81) (by first | rfl | assumption) fl_X5_87 dX5_readPart_81 ?_
        rw [show rg0 σ 0 13 = σ 0 13 from pt_ne (by omega)]
        refine V_imul (pc := 84) dX5_readPart_84 ?_
        refine V_istore_n (pc := 85) dX5_readPart_85 (by decide) rfl ?_
        refine V_aload_n (pc := 86) dX5_readPart_86 rfl ?_
        refine G_X5_readGround (pc := 87) (by first | rfl | assumption) fl_X5_31 dX5_readPart_87 ?_
        refine V_iload_n (pc := 90) dX5_readPart_90 rfl ?_
        refine V_aload_n (pc := 91) dX5_readPart_91 rfl ?_
        refine V_bipush (pc := 92) 97 dX5_readPart_92 (by decide) ?_
        refine V_sipush (pc := 94) 4095 dX5_readPart_94 (by decide) ?_
        refine V_aload_n (pc := 97) dX5_readPart_97 rfl ?_
        refine G_X5_readCells (pc := 98) (by first | rfl | assumption) fl_X5_93 dX5_readPart_98 ?_
        rw [show rg0 σ 0 15 = σ 0 15 from pt_ne (by omega)]
        refine V_iconst (pc := 101) 4294967295 dX5_readPart_101 (by decide) ?_
        refine V_ixor (pc := 102) dX5_readPart_102 ?_
        refine V_iand (pc := 103) dX5_readPart_103 ?_
        refine V_callV_I (pc := 104) ff_X5_toldBy ml_X5_100 (by first | rfl | assumption) rfl rfl (c_X5_toldBy (by decide) (al_lt _) tx0) dX5_readPart_104 rfl rfl (by decide) (by decide) (Nat.le_of_ble_eq_true rfl) ?_
        refine V_iast (pc := 107) (by first | rfl | assumption) (by first | omega | assumption | exact and1_lt _ | exact nb_p) dX5_readPart_107 ?_
        refine V_aload_n (pc := 108) dX5_readPart_108 rfl ?_
        refine G_X5_readGround (pc := 109) (by first | rfl | assumption) fl_X5_31 dX5_readPart_109 ?_
        refine V_iload_n (pc := 112) dX5_readPart_112 rfl ?_
        refine V_iconst (pc := 113) 1 dX5_readPart_113 (by decide) ?_
        refine V_iadd (pc := 114) dX5_readPart_114 ?_
        refine V_aload_n (pc := 115) dX5_readPart_115 rfl ?_
        refine V_bipush (pc := 116) 48 dX5_readPart_116 (by decide) ?_
        refine V_bipush (pc := 118) 31 dX5_readPart_118 (by decide) ?_
        refine V_callV_I (pc := 120) ff_X5_toldBy ml_X5_100 (by first | rfl | assumption) rfl rfl (c_X5_toldBy (by decide) (by decide) (TX_pt txg (by omega) (by omega))) dX5_readPart_120 rfl rfl (by decide) (by decide) (Nat.le_of_ble_eq_true rfl) ?_
        refine V_iast (pc := 123) (by first | rfl | assumption) (by first | omega | assumption | exact and1_lt _ | exact nb_p) dX5_readPart_123 ?_
        refine V_aload_n (pc := 124) dX5_readPart_124 rfl ?_
        refine G_X5_readGround (pc := 125) (by first | rfl | assumption) fl_X5_31 dX5_readPart_125 ?_
        refine V_iload_n (pc := 128) dX5_readPart_128 rfl ?_
        refine V_iconst (pc := 129) 2 dX5_readPart_129 (by decide) ?_
        refine V_iadd (pc := 130) dX5_readPart_130 ?_
        refine V_aload_n (pc := 131) dX5_readPart_131 rfl ?_
        refine V_bipush (pc := 132) 48 dX5_readPart_132 (by decide) ?_
        refine V_bipush (pc := 134) 15 dX5_readPart_134 (by decide) ?_
        refine V_callV_I (pc := 136) ff_X5_toldBy ml_X5_100 (by first | rfl | assumption) rfl rfl (c_X5_toldBy (by decide) (by decide) (TX_pt (TX_td (TX_pt txg (by omega) (by omega))) (by omega) (by omega))) dX5_readPart_136 rfl rfl (by decide) (by decide) (Nat.le_of_ble_eq_true rfl) ?_
        refine V_iast (pc := 139) (by first | rfl | assumption) (by first | omega | assumption | exact and1_lt _ | exact nb_p) dX5_readPart_139 ?_
        refine V_aload_n (pc := 140) dX5_readPart_140 rfl ?_
        refine V_dup (pc := 141) dX5_readPart_141 rfl ?_
        refine G_X5_readCells (pc := 142) (by first | rfl | assumption) fl_X5_93 dX5_readPart_142 ?_
        rw [pt_ne (by omega), td_o (by omega), pt_ne (by omega), td_o (by omega), pt_ne (by omega), td_o (by omega), show rg0 σ 0 15 = σ 0 15 from pt_ne (by omega)]
        refine V_iconst (pc := 145) 1 dX5_readPart_145 (by decide) ?_
        refine V_aload_n (pc := 146) dX5_readPart_146 rfl ?_
        refine G_X5_readGround (pc := 147) (by first | rfl | assumption) fl_X5_31 dX5_readPart_147 ?_
        refine V_iload_n (pc := 150) dX5_readPart_150 rfl ?_
        refine V_iald (pc := 151) (by first | rfl | assumption) (by first | omega | assumption | exact and1_lt _ | exact nb_p) dX5_readPart_151 ?_
        rw [pt_ne (by omega), td_o (by omega), pt_ne (by omega), td_o (by omega), pt_at]
        refine V_ishl (pc := 152) dX5_readPart_152 (by first | omega | assumption | exact and1_lt _ | exact nb_p) ?_
        refine V_ior (pc := 153) dX5_readPart_153 ?_
        refine P_X5_readCells (pc := 154) (by first | rfl | assumption) fl_X5_93 dX5_readPart_154 ?_
        refine V_aload_n (pc := 157) dX5_readPart_157 rfl ?_
        refine V_dup (pc := 158) dX5_readPart_158 rfl ?_
        refine G_X5_readGrounds (pc := 159) (by first | rfl | assumption) fl_X5_87 dX5_readPart_159 ?_
        rw [pt_ne (by omega), pt_ne (by omega), td_o (by omega), pt_ne (by omega), td_o (by omega), pt_ne (by omega), td_o (by omega), show rg0 σ 0 13 = σ 0 13 from pt_ne (by omega)]
        refine V_iconst (pc := 162) 1 dX5_readPart_162 (by decide) ?_
        refine V_iadd (pc := 163) dX5_readPart_163 ?_
        refine P_X5_readGrounds (pc := 164) (by first | rfl | assumption) fl_X5_87 dX5_readPart_164 ?_
        refine V_goto (pc := 167) 256 dX5_readPart_167 (by decide) ?_
        exact hret _ _ _ dX5_readPart_256 (dV_mk (by unfold rpM; (repeat' split) <;> first | (exfalso; omega) | rfl))
  · skip
    refine V_aload_n (pc := 6) dX5_readPart_6 rfl ?_
    refine G_X5_readTides (pc := 7) (by first | rfl | assumption) fl_X5_84 dX5_readPart_7 ?_
    refine V_iconst (pc := 10) 4 dX5_readPart_10 (by decide) ?_
    refine V_icmp_ge (pc := 11) 54 dX5_readPart_11 (by decide) (by first | omega | assumption | exact and1_lt _ | exact nb_p) (by first | omega | assumption | exact and1_lt _ | exact nb_p) (fun h_11 => ?_) (fun h_11 => ?_)
    · skip
      refine V_iload_n (pc := 54) dX5_readPart_54 rfl ?_
      refine V_bipush (pc := 55) 71 dX5_readPart_55 (by decide) ?_
      refine V_icmp_ne (pc := 57) 170 dX5_readPart_57 (by decide) (by first | omega | assumption | exact and1_lt _ | exact nb_p) (by first | omega | assumption | exact and1_lt _ | exact nb_p) (fun h_57 => ?_) (fun h_57 => ?_)
      · skip
        refine V_iload_n (pc := 170) dX5_readPart_170 rfl ?_
        refine V_bipush (pc := 171) 67 dX5_readPart_171 (by decide) ?_
        refine V_icmp_ne (pc := 173) 248 dX5_readPart_173 (by decide) (by first | omega | assumption | exact and1_lt _ | exact nb_p) (by first | omega | assumption | exact and1_lt _ | exact nb_p) (fun h_173 => ?_) (fun h_173 => ?_)
        · skip
          refine V_aload_n (pc := 248) dX5_readPart_248 rfl ?_
          refine V_aload_n (pc := 249) dX5_readPart_249 rfl ?_
          refine G_X5_at (pc := 250) (by first | rfl | assumption) fl_X5_75 dX5_readPart_250 ?_
          refine P_X5_faultAt (pc := 253) (by first | rfl | assumption) fl_X5_72 dX5_readPart_253 ?_
          exact hret _ _ _ dX5_readPart_256 (dV_mk (by unfold rpM; (repeat' split) <;> first | (exfalso; omega) | rfl))
        · skip
          refine V_aload_n (pc := 176) dX5_readPart_176 rfl ?_
          refine G_X5_readChildren (pc := 177) (by first | rfl | assumption) fl_X5_90 dX5_readPart_177 ?_
          refine V_iconst (pc := 180) 5 dX5_readPart_180 (by decide) ?_
          refine V_icmp_ge (pc := 181) 248 dX5_readPart_181 (by decide) (by first | omega | assumption | exact and1_lt _ | exact nb_p) (by first | omega | assumption | exact and1_lt _ | exact nb_p) (fun h_181 => ?_) (fun h_181 => ?_)
          · skip
            refine V_aload_n (pc := 248) dX5_readPart_248 rfl ?_
            refine V_aload_n (pc := 249) dX5_readPart_249 rfl ?_
            refine G_X5_at (pc := 250) (by first | rfl | assumption) fl_X5_75 dX5_readPart_250 ?_
            refine P_X5_faultAt (pc := 253) (by first | rfl | assumption) fl_X5_72 dX5_readPart_253 ?_
            exact hret _ _ _ dX5_readPart_256 (dV_mk (by unfold rpM; (repeat' split) <;> first | (exfalso; omega) | rfl))
          · skip
            refine V_aload_n (pc := 184) dX5_readPart_184 rfl ?_
            refine V_dup (pc := 185) dX5_readPart_185 rfl ?_
            refine G_X5_at (pc := 186) (by first | rfl | assumption) fl_X5_75 dX5_readPart_186 ?_
            refine V_iconst (pc := 189) 1 dX5_readPart_189 (by decide) ?_
            refine V_iadd (pc := 190) dX5_readPart_190 ?_
            refine P_X5_at (pc := 191) (by first | rfl | assumption) fl_X5_75 dX5_readPart_191 ?_
            rw [show pt σ 0 18 (σ 0 18 + 1) = rg0 σ from rfl]
            refine V_aload_n (pc := 194) dX5_readPart_194 rfl ?_
            refine G_X5_readChild (pc := 195) (by first | rfl | assumption) fl_X5_34 dX5_readPart_195 ?_
            refine V_iconst (pc := 198) 2 dX5_readPart_198 (by decide) ?_
            refine V_aload_n (pc := 199) dX5_readPart_199 rfl ?_
            refine G_X5_readChildren (pc := 200) (by first | rfl | assumption) fl_X5_90 dX5_readPart_200 ?_
            rw [show rg0 σ 0 14 = σ 0 14 from pt_ne (by omega)]
            refine V_imul (pc := 203) dX5_readPart_203 ?_
            refine V_aload_n (pc := 204) dX5_readPart_204 rfl ?_
            refine V_bipush (pc := 205) 97 dX5_readPart_205 (by decide) ?_
            refine V_sipush (pc := 207) 4095 dX5_readPart_207 (by decide) ?_
            refine V_callV_I (pc := 210) ff_X5_toldBy ml_X5_100 (by first | rfl | assumption) rfl rfl (c_X5_toldBy (by decide) (by decide) tx0) dX5_readPart_210 rfl rfl (by decide) (by decide) (Nat.le_of_ble_eq_true rfl) ?_
            refine V_iast (pc := 213) (by first | rfl | assumption) (by first | omega | assumption | exact and1_lt _ | exact nb_p) dX5_readPart_213 ?_
            refine V_aload_n (pc := 214) dX5_readPart_214 rfl ?_
            refine G_X5_readChild (pc := 215) (by first | rfl | assumption) fl_X5_34 dX5_readPart_215 ?_
            refine V_iconst (pc := 218) 2 dX5_readPart_218 (by decide) ?_
            refine V_aload_n (pc := 219) dX5_readPart_219 rfl ?_
            refine G_X5_readChildren (pc := 220) (by first | rfl | assumption) fl_X5_90 dX5_readPart_220 ?_
            rw [pt_ne (by omega), td_o (by omega), show rg0 σ 0 14 = σ 0 14 from pt_ne (by omega)]
            refine V_imul (pc := 223) dX5_readPart_223 ?_
            refine V_iconst (pc := 224) 1 dX5_readPart_224 (by decide) ?_
            refine V_iadd (pc := 225) dX5_readPart_225 ?_
            refine V_aload_n (pc := 226) dX5_readPart_226 rfl ?_
            refine V_bipush (pc := 227) 48 dX5_readPart_227 (by decide) ?_
            refine V_bipush (pc := 229) 15 dX5_readPart_229 (by decide) ?_
            refine V_callV_I (pc := 231) ff_X5_toldBy ml_X5_100 (by first | rfl | assumption) rfl rfl (c_X5_toldBy (by decide) (by decide) (TX_pt txc (by omega) (by omega))) dX5_readPart_231 rfl rfl (by decide) (by decide) (Nat.le_of_ble_eq_true rfl) ?_
            refine V_iast (pc := 234) (by first | rfl | assumption) (by first | omega | assumption | exact and1_lt _ | exact nb_p) dX5_readPart_234 ?_
            refine V_aload_n (pc := 235) dX5_readPart_235 rfl ?_
            refine V_dup (pc := 236) dX5_readPart_236 rfl ?_
            refine G_X5_readChildren (pc := 237) (by first | rfl | assumption) fl_X5_90 dX5_readPart_237 ?_
            rw [pt_ne (by omega), td_o (by omega), pt_ne (by omega), td_o (by omega), show rg0 σ 0 14 = σ 0 14 from pt_ne (by omega)]
            refine V_iconst (pc := 240) 1 dX5_readPart_240 (by decide) ?_
            refine V_iadd (pc := 241) dX5_readPart_241 ?_
            refine P_X5_readChildren (pc := 242) (by first | rfl | assumption) fl_X5_90 dX5_readPart_242 ?_
            refine V_goto (pc := 245) 256 dX5_readPart_245 (by decide) ?_
            exact hret _ _ _ dX5_readPart_256 (dV_mk (by unfold rpM; (repeat' split) <;> first | (exfalso; omega) | rfl))
      · skip
        refine V_aload_n (pc := 60) dX5_readPart_60 rfl ?_
        refine G_X5_readGrounds (pc := 61) (by first | rfl | assumption) fl_X5_87 dX5_readPart_61 ?_
        refine V_bipush (pc := 64) 6 dX5_readPart_64 (by decide) ?_
        refine V_icmp_ge (pc := 66) 170 dX5_readPart_66 (by decide) (by first | omega | assumption | exact and1_lt _ | exact nb_p) (by first | omega | assumption | exact and1_lt _ | exact nb_p) (fun h_66 => ?_) (fun h_66 => ?_)
        · skip
          refine V_iload_n (pc := 170) dX5_readPart_170 rfl ?_
          refine V_bipush (pc := 171) 67 dX5_readPart_171 (by decide) ?_
          refine V_icmp_ne (pc := 173) 248 dX5_readPart_173 (by decide) (by first | omega | assumption | exact and1_lt _ | exact nb_p) (by first | omega | assumption | exact and1_lt _ | exact nb_p) (fun h_173 => ?_) (fun h_173 => ?_)
          · skip
            refine V_aload_n (pc := 248) dX5_readPart_248 rfl ?_
            refine V_aload_n (pc := 249) dX5_readPart_249 rfl ?_
            refine G_X5_at (pc := 250) (by first | rfl | assumption) fl_X5_75 dX5_readPart_250 ?_
            refine P_X5_faultAt (pc := 253) (by first | rfl | assumption) fl_X5_72 dX5_readPart_253 ?_
            exact hret _ _ _ dX5_readPart_256 (dV_mk (by unfold rpM; (repeat' split) <;> first | (exfalso; omega) | rfl))
          · skip
            refine V_aload_n (pc := 176) dX5_readPart_176 rfl ?_
            refine G_X5_readChildren (pc := 177) (by first | rfl | assumption) fl_X5_90 dX5_readPart_177 ?_
            refine V_iconst (pc := 180) 5 dX5_readPart_180 (by decide) ?_
            refine V_icmp_ge (pc := 181) 248 dX5_readPart_181 (by decide) (by first | omega | assumption | exact and1_lt _ | exact nb_p) (by first | omega | assumption | exact and1_lt _ | exact nb_p) (fun h_181 => ?_) (fun h_181 => ?_)
            · skip
              refine V_aload_n (pc := 248) dX5_readPart_248 rfl ?_
              refine V_aload_n (pc := 249) dX5_readPart_249 rfl ?_
              refine G_X5_at (pc := 250) (by first | rfl | assumption) fl_X5_75 dX5_readPart_250 ?_
              refine P_X5_faultAt (pc := 253) (by first | rfl | assumption) fl_X5_72 dX5_readPart_253 ?_
              exact hret _ _ _ dX5_readPart_256 (dV_mk (by unfold rpM; (repeat' split) <;> first | (exfalso; omega) | rfl))
            · skip
              refine V_aload_n (pc := 184) dX5_readPart_184 rfl ?_
              refine V_dup (pc := 185) dX5_readPart_185 rfl ?_
              refine G_X5_at (pc := 186) (by first | rfl | assumption) fl_X5_75 dX5_readPart_186 ?_
              refine V_iconst (pc := 189) 1 dX5_readPart_189 (by decide) ?_
              refine V_iadd (pc := 190) dX5_readPart_190 ?_
              refine P_X5_at (pc := 191) (by first | rfl | assumption) fl_X5_75 dX5_readPart_191 ?_
              rw [show pt σ 0 18 (σ 0 18 + 1) = rg0 σ from rfl]
              refine V_aload_n (pc := 194) dX5_readPart_194 rfl ?_
              refine G_X5_readChild (pc := 195) (by first | rfl | assumption) fl_X5_34 dX5_readPart_195 ?_
              refine V_iconst (pc := 198) 2 dX5_readPart_198 (by decide) ?_
              refine V_aload_n (pc := 199) dX5_readPart_199 rfl ?_
              refine G_X5_readChildren (pc := 200) (by first | rfl | assumption) fl_X5_90 dX5_readPart_200 ?_
              rw [show rg0 σ 0 14 = σ 0 14 from pt_ne (by omega)]
              refine V_imul (pc := 203) dX5_readPart_203 ?_
              refine V_aload_n (pc := 204) dX5_readPart_204 rfl ?_
              refine V_bipush (pc := 205) 97 dX5_readPart_205 (by decide) ?_
              refine V_sipush (pc := 207) 4095 dX5_readPart_207 (by decide) ?_
              refine V_callV_I (pc := 210) ff_X5_toldBy ml_X5_100 (by first | rfl | assumption) rfl rfl (c_X5_toldBy (by decide) (by decide) tx0) dX5_readPart_210 rfl rfl (by decide) (by decide) (Nat.le_of_ble_eq_true rfl) ?_
              refine V_iast (pc := 213) (by first | rfl | assumption) (by first | omega | assumption | exact and1_lt _ | exact nb_p) dX5_readPart_213 ?_
              refine V_aload_n (pc := 214) dX5_readPart_214 rfl ?_
              refine G_X5_readChild (pc := 215) (by first | rfl | assumption) fl_X5_34 dX5_readPart_215 ?_
              refine V_iconst (pc := 218) 2 dX5_readPart_218 (by decide) ?_
              refine V_aload_n (pc := 219) dX5_readPart_219 rfl ?_
              refine G_X5_readChildren (pc := 220) (by first | rfl | assumption) fl_X5_90 dX5_readPart_220 ?_
              rw [pt_ne (by omega), td_o (by omega), show rg0 σ 0 14 = σ 0 14 from pt_ne (by omega)]
              refine V_imul (pc := 223) dX5_readPart_223 ?_
              refine V_iconst (pc := 224) 1 dX5_readPart_224 (by decide) ?_
              refine V_iadd (pc := 225) dX5_readPart_225 ?_
              refine V_aload_n (pc := 226) dX5_readPart_226 rfl ?_
              refine V_bipush (pc := 227) 48 dX5_readPart_227 (by decide) ?_
              refine V_bipush (pc := 229) 15 dX5_readPart_229 (by decide) ?_
              refine V_callV_I (pc := 231) ff_X5_toldBy ml_X5_100 (by first | rfl | assumption) rfl rfl (c_X5_toldBy (by decide) (by decide) (TX_pt txc (by omega) (by omega))) dX5_readPart_231 rfl rfl (by decide) (by decide) (Nat.le_of_ble_eq_true rfl) ?_
              refine V_iast (pc := 234) (by first | rfl | assumption) (by first | omega | assumption | exact and1_lt _ | exact nb_p) dX5_readPart_234 ?_
              refine V_aload_n (pc := 235) dX5_readPart_235 rfl ?_
              refine V_dup (pc := 236) dX5_readPart_236 rfl ?_
              refine G_X5_readChildren (pc := 237) (by first | rfl | assumption) fl_X5_90 dX5_readPart_237 ?_
              rw [pt_ne (by omega), td_o (by omega), pt_ne (by omega), td_o (by omega), show rg0 σ 0 14 = σ 0 14 from pt_ne (by omega)]
              refine V_iconst (pc := 240) 1 dX5_readPart_240 (by decide) ?_
              refine V_iadd (pc := 241) dX5_readPart_241 ?_
              refine P_X5_readChildren (pc := 242) (by first | rfl | assumption) fl_X5_90 dX5_readPart_242 ?_
              refine V_goto (pc := 245) 256 dX5_readPart_245 (by decide) ?_
              exact hret _ _ _ dX5_readPart_256 (dV_mk (by unfold rpM; (repeat' split) <;> first | (exfalso; omega) | rfl))
        · skip
          refine V_aload_n (pc := 69) dX5_readPart_69 rfl ?_
          refine V_dup (pc := 70) dX5_readPart_70 rfl ?_
          refine G_X5_at (pc := 71) (by first | rfl | assumption) fl_X5_75 dX5_readPart_71 ?_
          refine V_iconst (pc := 74) 1 dX5_readPart_74 (by decide) ?_
          refine V_iadd (pc := 75) dX5_readPart_75 ?_
          refine P_X5_at (pc := 76) (by first | rfl | assumption) fl_X5_75 dX5_readPart_76 ?_
          rw [show pt σ 0 18 (σ 0 18 + 1) = rg0 σ from rfl]
          refine V_iconst (pc := 79) 3 dX5_readPart_79 (by decide) ?_
          refine V_aload_n (pc := 80) dX5_readPart_80 rfl ?_
          refine G_X5_readGrounds (pc := 81) (by first | rfl | assumption) fl_X5_87 dX5_readPart_81 ?_
          rw [show rg0 σ 0 13 = σ 0 13 from pt_ne (by omega)]
          refine V_imul (pc := 84) dX5_readPart_84 ?_
          refine V_istore_n (pc := 85) dX5_readPart_85 (by decide) rfl ?_
          refine V_aload_n (pc := 86) dX5_readPart_86 rfl ?_
          refine G_X5_readGround (pc := 87) (by first | rfl | assumption) fl_X5_31 dX5_readPart_87 ?_
          refine V_iload_n (pc := 90) dX5_readPart_90 rfl ?_
          refine V_aload_n (pc := 91) dX5_readPart_91 rfl ?_
          refine V_bipush (pc := 92) 97 dX5_readPart_92 (by decide) ?_
          refine V_sipush (pc := 94) 4095 dX5_readPart_94 (by decide) ?_
          refine V_aload_n (pc := 97) dX5_readPart_97 rfl ?_
          refine G_X5_readCells (pc := 98) (by first | rfl | assumption) fl_X5_93 dX5_readPart_98 ?_
          rw [show rg0 σ 0 15 = σ 0 15 from pt_ne (by omega)]
          refine V_iconst (pc := 101) 4294967295 dX5_readPart_101 (by decide) ?_
          refine V_ixor (pc := 102) dX5_readPart_102 ?_
          refine V_iand (pc := 103) dX5_readPart_103 ?_
          refine V_callV_I (pc := 104) ff_X5_toldBy ml_X5_100 (by first | rfl | assumption) rfl rfl (c_X5_toldBy (by decide) (al_lt _) tx0) dX5_readPart_104 rfl rfl (by decide) (by decide) (Nat.le_of_ble_eq_true rfl) ?_
          refine V_iast (pc := 107) (by first | rfl | assumption) (by first | omega | assumption | exact and1_lt _ | exact nb_p) dX5_readPart_107 ?_
          refine V_aload_n (pc := 108) dX5_readPart_108 rfl ?_
          refine G_X5_readGround (pc := 109) (by first | rfl | assumption) fl_X5_31 dX5_readPart_109 ?_
          refine V_iload_n (pc := 112) dX5_readPart_112 rfl ?_
          refine V_iconst (pc := 113) 1 dX5_readPart_113 (by decide) ?_
          refine V_iadd (pc := 114) dX5_readPart_114 ?_
          refine V_aload_n (pc := 115) dX5_readPart_115 rfl ?_
          refine V_bipush (pc := 116) 48 dX5_readPart_116 (by decide) ?_
          refine V_bipush (pc := 118) 31 dX5_readPart_118 (by decide) ?_
          refine V_callV_I (pc := 120) ff_X5_toldBy ml_X5_100 (by first | rfl | assumption) rfl rfl (c_X5_toldBy (by decide) (by decide) (TX_pt txg (by omega) (by omega))) dX5_readPart_120 rfl rfl (by decide) (by decide) (Nat.le_of_ble_eq_true rfl) ?_
          refine V_iast (pc := 123) (by first | rfl | assumption) (by first | omega | assumption | exact and1_lt _ | exact nb_p) dX5_readPart_123 ?_
          refine V_aload_n (pc := 124) dX5_readPart_124 rfl ?_
          refine G_X5_readGround (pc := 125) (by first | rfl | assumption) fl_X5_31 dX5_readPart_125 ?_
          refine V_iload_n (pc := 128) dX5_readPart_128 rfl ?_
          refine V_iconst (pc := 129) 2 dX5_readPart_129 (by decide) ?_
          refine V_iadd (pc := 130) dX5_readPart_130 ?_
          refine V_aload_n (pc := 131) dX5_readPart_131 rfl ?_
          refine V_bipush (pc := 132) 48 dX5_readPart_132 (by decide) ?_
          refine V_bipush (pc := 134) 15 dX5_readPart_134 (by decide) ?_
          refine V_callV_I (pc := 136) ff_X5_toldBy ml_X5_100 (by first | rfl | assumption) rfl rfl (c_X5_toldBy (by decide) (by decide) (TX_pt (TX_td (TX_pt txg (by omega) (by omega))) (by omega) (by omega))) dX5_readPart_136 rfl rfl (by decide) (by decide) (Nat.le_of_ble_eq_true rfl) ?_
          refine V_iast (pc := 139) (by first | rfl | assumption) (by first | omega | assumption | exact and1_lt _ | exact nb_p) dX5_readPart_139 ?_
          refine V_aload_n (pc := 140) dX5_readPart_140 rfl ?_
          refine V_dup (pc := 141) dX5_readPart_141 rfl ?_
          refine G_X5_readCells (pc := 142) (by first | rfl | assumption) fl_X5_93 dX5_readPart_142 ?_
          rw [pt_ne (by omega), td_o (by omega), pt_ne (by omega), td_o (by omega), pt_ne (by omega), td_o (by omega), show rg0 σ 0 15 = σ 0 15 from pt_ne (by omega)]
          refine V_iconst (pc := 145) 1 dX5_readPart_145 (by decide) ?_
          refine V_aload_n (pc := 146) dX5_readPart_146 rfl ?_
          refine G_X5_readGround (pc := 147) (by first | rfl | assumption) fl_X5_31 dX5_readPart_147 ?_
          refine V_iload_n (pc := 150) dX5_readPart_150 rfl ?_
          refine V_iald (pc := 151) (by first | rfl | assumption) (by first | omega | assumption | exact and1_lt _ | exact nb_p) dX5_readPart_151 ?_
          rw [pt_ne (by omega), td_o (by omega), pt_ne (by omega), td_o (by omega), pt_at]
          refine V_ishl (pc := 152) dX5_readPart_152 (by first | omega | assumption | exact and1_lt _ | exact nb_p) ?_
          refine V_ior (pc := 153) dX5_readPart_153 ?_
          refine P_X5_readCells (pc := 154) (by first | rfl | assumption) fl_X5_93 dX5_readPart_154 ?_
          refine V_aload_n (pc := 157) dX5_readPart_157 rfl ?_
          refine V_dup (pc := 158) dX5_readPart_158 rfl ?_
          refine G_X5_readGrounds (pc := 159) (by first | rfl | assumption) fl_X5_87 dX5_readPart_159 ?_
          rw [pt_ne (by omega), pt_ne (by omega), td_o (by omega), pt_ne (by omega), td_o (by omega), pt_ne (by omega), td_o (by omega), show rg0 σ 0 13 = σ 0 13 from pt_ne (by omega)]
          refine V_iconst (pc := 162) 1 dX5_readPart_162 (by decide) ?_
          refine V_iadd (pc := 163) dX5_readPart_163 ?_
          refine P_X5_readGrounds (pc := 164) (by first | rfl | assumption) fl_X5_87 dX5_readPart_164 ?_
          refine V_goto (pc := 167) 256 dX5_readPart_167 (by decide) ?_
          exact hret _ _ _ dX5_readPart_256 (dV_mk (by unfold rpM; (repeat' split) <;> first | (exfalso; omega) | rfl))
    · skip
      refine V_aload_n (pc := 14) dX5_readPart_14 rfl ?_
      refine V_dup (pc := 15) dX5_readPart_15 rfl ?_
      refine G_X5_at (pc := 16) (by first | rfl | assumption) fl_X5_75 dX5_readPart_16 ?_
      refine V_iconst (pc := 19) 1 dX5_readPart_19 (by decide) ?_
      refine V_iadd (pc := 20) dX5_readPart_20 ?_
      refine P_X5_at (pc := 21) (by first | rfl | assumption) fl_X5_75 dX5_readPart_21 ?_
      rw [show pt σ 0 18 (σ 0 18 + 1) = rg0 σ from rfl]
      refine V_aload_n (pc := 24) dX5_readPart_24 rfl ?_
      refine G_X5_readTide (pc := 25) (by first | rfl | assumption) fl_X5_28 dX5_readPart_25 ?_
      refine V_aload_n (pc := 28) dX5_readPart_28 rfl ?_
      refine G_X5_readTides (pc := 29) (by first | rfl | assumption) fl_X5_84 dX5_readPart_29 ?_
      rw [show rg0 σ 0 12 = σ 0 12 from pt_ne (by omega)]
      refine V_aload_n (pc := 32) dX5_readPart_32 rfl ?_
      refine V_bipush (pc := 33) 48 dX5_readPart_33 (by decide) ?_
      refine V_bipush (pc := 35) 31 dX5_readPart_35 (by decide) ?_
      refine V_callV_I (pc := 37) ff_X5_toldBy ml_X5_100 (by first | rfl | assumption) rfl rfl (c_X5_toldBy (by decide) (by first | decide | assumption) (by assumption)) dX5_readPart_37 rfl rfl (by decide) (by decide) (Nat.le_of_ble_eq_true rfl) ?_
      refine V_iast (pc := 40) (by first | rfl | assumption) (by first | omega | assumption | exact and1_lt _ | exact nb_p) dX5_readPart_40 ?_
      refine V_aload_n (pc := 41) dX5_readPart_41 rfl ?_
      refine V_dup (pc := 42) dX5_readPart_42 rfl ?_
      refine G_X5_readTides (pc := 43) (by first | rfl | assumption) fl_X5_84 dX5_readPart_43 ?_
      rw [pt_ne (by omega), td_o (by omega), show rg0 σ 0 12 = σ 0 12 from pt_ne (by omega)]
      refine V_iconst (pc := 46) 1 dX5_readPart_46 (by decide) ?_
      refine V_iadd (pc := 47) dX5_readPart_47 ?_
      refine P_X5_readTides (pc := 48) (by first | rfl | assumption) fl_X5_84 dX5_readPart_48 ?_
      refine V_goto (pc := 51) 256 dX5_readPart_51 (by decide) ?_
      exact hret _ _ _ dX5_readPart_256 (dV_mk (by unfold rpM; (repeat' split) <;> first | (exfalso; omega) | rfl))
