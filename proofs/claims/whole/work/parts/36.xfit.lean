/-! the best of all, of the class -/
def mxN (a b : Nat) : Nat := if a = 4294967287 then b else if b = 4294967287 then a else if a < b then b else a
def mfL (f : Nat → Nat) (used : Nat) : Nat → Nat
  | 0 => 4294967287
  | g + 1 => if used.testBit g = true then mfL f used g else mxN (mfL f used g) (f g)
def mf (K : St) : Nat → Nat → Nat → (Nat → Nat) → Nat
  | 0, _, _, P => wtS (itr K 63 P 4) 5
  | n + 1, c, used, P => mfL (fun g => mf K n (c + 1) (used ||| 1 * 2 ^ g) (fup P c (K 2 g))) used (K 0 1)
def v225 (a : Nat) : Prop := a = 4294967287 ∨ a ≤ 225
theorem mx_225 {a b : Nat} (ha : v225 a) (hb : v225 b) : v225 (mxN a b) := by
  unfold v225 mxN at *
  (repeat' split) <;> omega
theorem mx_I {a b : Nat} (ha : v225 a) (hb : v225 b) : (if nI a < nI b then nI b else nI a) = nI (mxN a b) := by
  unfold mxN
  rcases ha with rfl | ha
  · rw [if_pos (show (4294967287 : Nat) = 4294967287 from rfl)]
    rcases hb with rfl | hb
    · split <;> rfl
    · rw [if_pos (show nI 4294967287 < nI b by rw [Int32.lt_iff_toInt_lt, nI_toInt (show b < 2 ^ 31 by omega), nz_neg (by decide) (by decide)]; omega)]
  · rw [if_neg (show ¬ a = 4294967287 by omega)]
    rcases hb with rfl | hb
    · rw [if_pos (show (4294967287 : Nat) = 4294967287 from rfl), if_neg (show ¬ nI a < nI 4294967287 by rw [Int32.lt_iff_toInt_lt, nI_toInt (show a < 2 ^ 31 by omega), nz_neg (by decide) (by decide)]; omega)]
    · rw [if_neg (show ¬ b = 4294967287 by omega)]
      by_cases q : a < b
      · rw [if_pos (show nI a < nI b from (nI_ltI (by omega) (by omega)).mpr q), if_pos q]
      · rw [if_neg (show ¬ nI a < nI b from fun z => q ((nI_ltI (by omega) (by omega)).mp z)), if_neg q]
theorem mfL_225 {f : Nat → Nat} {used : Nat} (h : ∀ g, v225 (f g)) : ∀ n, v225 (mfL f used n)
  | 0 => Or.inl rfl
  | n + 1 => by
    unfold mfL
    split
    · exact mfL_225 h n
    · exact mx_225 (mfL_225 h n) (h n)
theorem mfL_225' {f : Nat → Nat} {used : Nat} : ∀ n, (∀ g, g < n → v225 (f g)) → v225 (mfL f used n)
  | 0, _ => Or.inl rfl
  | n + 1, h => by
    unfold mfL
    split
    · exact mfL_225' n (fun g hg => h g (by omega))
    · exact mx_225 (mfL_225' n (fun g hg => h g (by omega))) (h n (by omega))
theorem mf_225 {K : St} (o : OKK K) : ∀ (n c used : Nat) (P : Nat → Nat), c + n ≤ 5 → OKP P → v225 (mf K n c used P)
  | 0, _, _, P, _, hp => by
    have := wtS_le (OKP_itr o hp 63 4) 5 (by omega)
    exact Or.inr (by unfold mf; omega)
  | n + 1, c, used, P, hc, hp => by
    unfold mf
    exact mfL_225' _ (fun g hg => mf_225 o n (c + 1) _ _ (by omega) (OKP_fup hp (fun _ => (o.2.2.2.2.1 g hg).1) (by omega) (by omega)))
/-- all but the cells from c on, below e, is the same -/
def QE (c e : Nat) (S S' : Nat → Nat) : Prop := ∀ j, (j < c ∨ e ≤ j) → S j = S' j
theorem mfL_cong {f f' : Nat → Nat} {used : Nat} : ∀ n, (∀ g, g < n → f g = f' g) → mfL f used n = mfL f' used n
  | 0, _ => rfl
  | n + 1, h => by
    unfold mfL
    rw [mfL_cong n (fun g hg => h g (by omega)), h n (by omega)]
theorem mf_QE {K : St} : ∀ (n c used : Nat) {S S' : Nat → Nat}, QE c (c + n) S S' → mf K n c used S = mf K n c used S'
  | 0, c, _, S, S', h => by
    rw [show S = S' from funext fun j => h j (by omega)]
  | n + 1, c, used, S, S', h => by
    unfold mf
    refine mfL_cong _ (fun g _ => mf_QE n (c + 1) _ ?_)
    intro j hj
    by_cases q : j = c
    · rw [q, fup_s, fup_s]
    · rw [fup_o q, fup_o q]; exact h j (by omega)
def mfP (σ : St) (c n : Nat) (S : Nat → Nat) (x : Nat) : Option Value → St → Prop := fun v u => v = some (.int (nI x)) ∧ ∃ T' S', OKP T' ∧ Z32 T' ∧ OKP S' ∧ Z32 S' ∧ QE c (c + n) S S' ∧ u = stX (stX σ 48 T') 51 S'
theorem st_sw (σ : St) (T S : Nat → Nat) : stX (stX σ 48 T) 51 S = stX (stX σ 51 S) 48 T := by
  funext k i
  unfold stX
  (repeat' split) <;> first | rfl | (exfalso; omega)
theorem take_ts {B : Bk} {σ : St} {T S : Nat → Nat} (hz : Z32 S) : MC yX3_take cX3_take 3 none 1 B [.ref (B.1 48), .ref (B.1 51)] (stX (stX σ 48 T) 51 S) (dV (stX (stX σ 48 S) 51 S)) := by
  have h := c_X3_take (B := B) (σ := stX (stX σ 48 T) 51 S) (k := 48) (j := 51) rfl rfl (by decide)
  rw [pX_stX _ _ hz, show stX (stX (stX σ 48 T) 51 S) 48 S = stX (stX σ 48 S) 51 S by rw [st_sw σ T S, stX_stX, ← st_sw]] at h
  exact h
theorem ts_o {σ : St} {T S : Nat → Nat} {k : Nat} (h : k < 48) : stX (stX σ 48 T) 51 S k = σ k := by
  rw [stX_o (by omega) (by omega) (by omega), stX_o (by omega) (by omega) (by omega)]
theorem ts_p {σ : St} {T S : Nat → Nat} (hz : Z32 T) : pX (stX (stX σ 48 T) 51 S) 48 = T := by
  rw [st_sw, pX_stX _ _ hz]
set_option maxHeartbeats 4000000 in
set_option maxRecDepth 100000 in
theorem c_mf_0 {B : Bk} {σ : St} {c used : Nat} {T S : Nat → Nat} (g : GX σ) (hc : c = σ (σ 17 2) 9) (hT : OKP T) (hzT : Z32 T) (hS : OKP S) (hzS : Z32 S) (h31 : S 31 ≤ 2 ^ 20) : MC yX4_mostFrom cX4_mostFrom 8 (some .int) 5 B [.int (nI c), .int (nI used), .ref (B.1 (σ 17 2)), .ref (B.1 51), .ref (B.1 48)] (stX (stX σ 48 T) 51 S) (mfP σ c 0 S (mf (KX σ (σ 17 2)) 0 c used S)) := by
  obtain ⟨hx, hp, hd⟩ := id g
  have hb := hx.1
  obtain ⟨b1, b2, b3, b4, b5, b6, b7, b8⟩ := kd3' hb
  obtain ⟨o0, o1, o2, o3, o4, o5⟩ := id hx.2.1.1
  have n7 : σ (σ 17 2) 7 ≤ 4 := o0
  have n8 : σ (σ 17 2) 8 ≤ 6 := o1
  have n9 : σ (σ 17 2) 9 ≤ 5 := o2
  have hc5 : ∀ i, i < 5 → σ (45 + 1) i < 12 := fun i h => by have := hp.1 i h; rw [pX_c h] at this; exact this
  have hm5 : σ 45 2 < 32 := hp.2.1
  have hd3 : σ 45 3 ≤ 2 ^ 20 := hd
  have hgc : ∀ i, i < σ (σ 17 2) 8 → σ (σ 17 2 + 2) i < 12 := fun i h => (o4 i h).1
  have e02 : KX σ (σ 17 2) 0 2 = σ (σ 17 2) 9 := rfl
  have e01 : KX σ (σ 17 2) 0 1 = σ (σ 17 2) 8 := rfl
  have o : OKK (KX σ (σ 17 2)) := hx.2.1.1
  have s17 : ∀ {T : Nat → Nat}, stX σ 48 T 17 = σ 17 := fun {T} => stX_o (by decide) (by decide) (by decide)
  refine MC_int RX4 [some (.int (nI c)), some (.int (nI used)), some (.ref (B.1 (σ 17 2))), some (.ref (B.1 51)), some (.ref (B.1 48)), none, none, none] 3 (by decide +kernel) rfl rfl (Nat.le_of_ble_eq_true rfl) (fun E Q hret => ?_)
  refine V_iload_n (pc := 0) dX4_mostFrom_0 rfl ?_
  refine V_aload_n (pc := 1) dX4_mostFrom_1 rfl ?_
  refine G_X0_children (pc := 2) hb fl_X4_91 dX4_mostFrom_2 ?_
  rw [ts_o (by omega)]
  refine V_icmp_ge (pc := 5) 13 dX4_mostFrom_5 (by decide) (by first | omega | assumption | exact and1_lt _ | exact nb_p) (by first | omega | assumption | exact and1_lt _ | exact nb_p) (fun h_5 => ?_) (fun h_5 => absurd h_5 (by omega))
  refine V_aload (pc := 13) dX4_mostFrom_13 rfl ?_
  refine V_aload_n (pc := 15) dX4_mostFrom_15 rfl ?_
  refine V_callV_V (pc := 16) ff_X3_take ml_X4_170 (by first | rfl | assumption) rfl rfl (take_ts hzS) dX4_mostFrom_16 rfl rfl (by decide) (by decide) (Nat.le_of_ble_eq_true rfl) ?_
  refine V_aload (pc := 19) dX4_mostFrom_19 rfl ?_
  refine V_aload_n (pc := 21) dX4_mostFrom_21 rfl ?_
  refine V_iconst (pc := 22) 4 dX4_mostFrom_22 (by decide) ?_
  rw [st_sw]
  refine V_callV_V (pc := 23) ff_X3_passDays ml_X4_173 (by first | rfl | assumption) rfl rfl (c_X3_passDays2 (σ := stX σ 51 S) (k := 48) rfl (OKX_stX rfl hx) hzS hS (by omega)) dX4_mostFrom_23 rfl rfl (by decide) (by decide) (Nat.le_of_ble_eq_true rfl) ?_
  rw [KX_stX rfl hb]
  refine V_aload (pc := 26) dX4_mostFrom_26 rfl ?_
  refine V_callV_I (pc := 28) ff_X3_weights ml_X4_148 (by first | rfl | assumption) rfl rfl (c_X3_weights (k := 48) rfl) dX4_mostFrom_28 rfl rfl (by decide) (by decide) (Nat.le_of_ble_eq_true rfl) ?_
  rw [pX_stX _ _ (Z_itr o hzS 63 4)]
  exact hret _ _ _ _ dX4_mostFrom_31 ⟨rfl, _, S, OKP_itr o hS 63 4, Z_itr o hzS 63 4, hS, hzS, fun _ _ => rfl, (st_sw _ _ _).symm⟩
set_option maxHeartbeats 4000000 in
set_option maxRecDepth 100000 in
theorem c_mf_s {B : Bk} {σ : St} {n c used : Nat} {T S : Nat → Nat} (g : GX σ) (hc : c + (n + 1) = σ (σ 17 2) 9) (hu64 : used < 64) (hT : OKP T) (hzT : Z32 T) (hS : OKP S) (hzS : Z32 S) (h31 : S 31 ≤ 2 ^ 20) (ihM : (∀ (c used : Nat) (T S : Nat → Nat), c + n = σ (σ 17 2) 9 → used < 64 → OKP T → Z32 T → OKP S → Z32 S → S 31 ≤ 2 ^ 20 → MC yX4_mostFrom cX4_mostFrom 8 (some .int) (5 + n) B [.int (nI c), .int (nI used), .ref (B.1 (σ 17 2)), .ref (B.1 51), .ref (B.1 48)] (stX (stX σ 48 T) 51 S) (mfP σ c n S (mf (KX σ (σ 17 2)) n c used S)))) : MC yX4_mostFrom cX4_mostFrom 8 (some .int) (5 + (n + 1)) B [.int (nI c), .int (nI used), .ref (B.1 (σ 17 2)), .ref (B.1 51), .ref (B.1 48)] (stX (stX σ 48 T) 51 S) (mfP σ c (n + 1) S (mf (KX σ (σ 17 2)) (n + 1) c used S)) := by
  obtain ⟨hx, hp, hd⟩ := id g
  have hb := hx.1
  obtain ⟨b1, b2, b3, b4, b5, b6, b7, b8⟩ := kd3' hb
  obtain ⟨o0, o1, o2, o3, o4, o5⟩ := id hx.2.1.1
  have n7 : σ (σ 17 2) 7 ≤ 4 := o0
  have n8 : σ (σ 17 2) 8 ≤ 6 := o1
  have n9 : σ (σ 17 2) 9 ≤ 5 := o2
  have hc5 : ∀ i, i < 5 → σ (45 + 1) i < 12 := fun i h => by have := hp.1 i h; rw [pX_c h] at this; exact this
  have hm5 : σ 45 2 < 32 := hp.2.1
  have hd3 : σ 45 3 ≤ 2 ^ 20 := hd
  have hgc : ∀ i, i < σ (σ 17 2) 8 → σ (σ 17 2 + 2) i < 12 := fun i h => (o4 i h).1
  have e02 : KX σ (σ 17 2) 0 2 = σ (σ 17 2) 9 := rfl
  have e01 : KX σ (σ 17 2) 0 1 = σ (σ 17 2) 8 := rfl
  have o : OKK (KX σ (σ 17 2)) := hx.2.1.1
  have s17 : ∀ {T : Nat → Nat}, stX σ 48 T 17 = σ 17 := fun {T} => stX_o (by decide) (by decide) (by decide)
  refine MC_int RX4 [some (.int (nI c)), some (.int (nI used)), some (.ref (B.1 (σ 17 2))), some (.ref (B.1 51)), some (.ref (B.1 48)), none, none, none] 3 (by decide +kernel) rfl rfl (Nat.le_of_ble_eq_true rfl) (fun E Q hret => ?_)
  refine V_iload_n (pc := 0) dX4_mostFrom_0 rfl ?_
  refine V_aload_n (pc := 1) dX4_mostFrom_1 rfl ?_
  refine G_X0_children (pc := 2) hb fl_X4_91 dX4_mostFrom_2 ?_
  rw [ts_o (by omega)]
  refine V_icmp_ge (pc := 5) 13 dX4_mostFrom_5 (by decide) (by first | omega | assumption | exact and1_lt _ | exact nb_p) (by first | omega | assumption | exact and1_lt _ | exact nb_p) (fun h_5 => absurd h_5 (by omega)) (fun h_5 => ?_)
  refine V_iload_n (pc := 8) dX4_mostFrom_8 rfl ?_
  refine V_iconst (pc := 9) 5 dX4_mostFrom_9 (by decide) ?_
  refine V_icmp_lt (pc := 10) 32 dX4_mostFrom_10 (by decide) (by first | omega | assumption | exact and1_lt _ | exact nb_p) (by first | omega | assumption | exact and1_lt _ | exact nb_p) (fun h_10 => ?_) (fun h_10 => absurd h_10 (by omega))
  refine V_bipush (pc := 32) 4294967287 dX4_mostFrom_32 (by decide) ?_
  refine V_istore (pc := 34) dX4_mostFrom_34 (by decide) rfl ?_
  refine V_iconst (pc := 36) 0 dX4_mostFrom_36 (by decide) ?_
  refine V_istore (pc := 37) dX4_mostFrom_37 (by decide) rfl ?_
  have L_39 : ∀ (m : Nat) (i mo : Nat) (z : Option Value) (T1 S1 : Nat → Nat), σ (σ 17 2) 8 - i = m → i ≤ σ (σ 17 2) 8 → mo = mfL (fun g => mf (KX σ (σ 17 2)) n (c + 1) (used ||| 1 * 2 ^ g) (fup S c ((KX σ (σ 17 2)) 2 g))) used i → OKP T1 → Z32 T1 → OKP S1 → Z32 S1 → QE c (c + (n + 1)) S S1 → okS [some (.int 0), z] 1 = true → V E B RX4 cX4_mostFrom 8 (5 + (n + 1)) Q 39 [some (.int (nI c)), some (.int (nI used)), some (.ref (B.1 (σ 17 2))), some (.ref (B.1 51)), some (.ref (B.1 48)), some (.int (nI mo)), some (.int (nI i)), z] [] (stX (stX σ 48 T1) 51 S1) := by
    intro m
    induction m using Nat.strongRecOn with
    | _ m ih =>
      intro i mo z T1 S1 hm hi hmo hT1 hzT1 hS1 hzS1 hQ hz
      have hmv : v225 mo := by
        rw [hmo]
        exact mfL_225' i (fun g hg => mf_225 o n (c + 1) _ _ (by omega) (OKP_fup hS (fun _ => hgc g (by omega)) (by omega) (by omega)))
      refine V_iload (pc := 39) dX4_mostFrom_39 rfl ?_
      refine V_aload_n (pc := 41) dX4_mostFrom_41 rfl ?_
      refine G_X0_grounds (pc := 42) hb fl_X4_88 dX4_mostFrom_42 ?_
      rw [ts_o (by omega)]
      refine V_icmp_ge (pc := 45) 107 dX4_mostFrom_45 (by decide) (by first | omega | assumption | exact and1_lt _ | exact nb_p) (by first | omega | assumption | exact and1_lt _ | exact nb_p) (fun h_45 => ?_) (fun h_45 => ?_)
      · skip
        refine V_iload (pc := 107) dX4_mostFrom_107 rfl ?_
        exact hret _ _ _ _ dX4_mostFrom_109 ⟨by rw [hmo, show i = σ (σ 17 2) 8 by omega]; rfl, T1, S1, hT1, hzT1, hS1, hzS1, hQ, rfl⟩
      · skip
        refine V_iload_n (pc := 48) dX4_mostFrom_48 rfl ?_
        refine V_iload (pc := 49) dX4_mostFrom_49 rfl ?_
        refine V_ishr (pc := 51) dX4_mostFrom_51 (by first | omega | assumption | exact and1_lt _ | exact nb_p) (by first | omega | assumption | exact and1_lt _ | exact nb_p) ?_
        refine V_iconst (pc := 52) 1 dX4_mostFrom_52 (by decide) ?_
        refine V_iand (pc := 53) dX4_mostFrom_53 ?_
        refine V_if_ne (pc := 54) 101 dX4_mostFrom_54 (by decide) (Nat.lt_trans (and1_lt _) (by decide)) (fun h_54 => ?_) (fun h_54 => ?_)
        · skip
          have hbit : used.testBit i = true := tb_and.mp (by have := and1_z (used / 2 ^ i); omega)
          refine V_iinc (pc := 101) 1 dX4_mostFrom_101 (by decide) rfl (by decide) rfl ?_
          refine V_goto (pc := 104) 39 dX4_mostFrom_104 (by decide) ?_
          first
          | exact ih _ (by omega) (i + 1) _ _ T1 S1 rfl (by omega) (by rw [mfL, if_pos hbit]; exact hmo) hT1 hzT1 hS1 hzS1 hQ hz
          | exact ih _ (by omega) (i + 1) _ _ T2 S2 rfl (by omega) (by rw [mfL, if_neg hbit, ← hmo]) hT2 hzT2 hS2 hzS2 hQ3 rfl
        · skip
          have hbit : ¬ used.testBit i = true := fun z => by have := tb_and.mpr z; omega
          have hci := hgc i (by omega)
          refine V_aload_n (pc := 57) dX4_mostFrom_57 rfl ?_
          refine G_X3_cells (pc := 58) (by first | rfl | assumption) fl_X4_118 dX4_mostFrom_58 ?_
          refine V_iload_n (pc := 61) dX4_mostFrom_61 rfl ?_
          refine V_aload_n (pc := 62) dX4_mostFrom_62 rfl ?_
          refine G_X0_groundCells (pc := 63) hb fl_X4_98 dX4_mostFrom_63 ?_
          refine V_iload (pc := 66) dX4_mostFrom_66 rfl ?_
          refine V_callS_I (pc := 68) ff_X4_at ml_X4_101 (c_X4_atI b2 (by omega)) dX4_mostFrom_68 rfl rfl (by omega) (by decide) (Nat.le_of_ble_eq_true rfl) ?_
          rw [ts_o (by omega)]
          refine V_callS_V (pc := 71) ff_X4_lay ml_X4_67 (c_X4_layI (n := 5) rfl (by omega)) dX4_mostFrom_71 rfl rfl (by omega) (by decide) (Nat.le_of_ble_eq_true rfl) ?_
          rw [stX_pc _ _ _ _ (by omega)]
          refine V_iload_n (pc := 74) dX4_mostFrom_74 rfl ?_
          refine V_iconst (pc := 75) 1 dX4_mostFrom_75 (by decide) ?_
          refine V_iadd (pc := 76) dX4_mostFrom_76 ?_
          refine V_iload_n (pc := 77) dX4_mostFrom_77 rfl ?_
          refine V_iconst (pc := 78) 1 dX4_mostFrom_78 (by decide) ?_
          refine V_iload (pc := 79) dX4_mostFrom_79 rfl ?_
          refine V_ishl (pc := 81) dX4_mostFrom_81 (by first | omega | assumption | exact and1_lt _ | exact nb_p) ?_
          refine V_ior (pc := 82) dX4_mostFrom_82 ?_
          refine V_aload_n (pc := 83) dX4_mostFrom_83 rfl ?_
          refine V_aload_n (pc := 84) dX4_mostFrom_84 rfl ?_
          refine V_aload (pc := 85) dX4_mostFrom_85 rfl ?_
          refine V_callS (pc := 87) ff_X4_mostFrom ml_X4_177 (ihM (c + 1) (used ||| 1 * 2 ^ i) T1 (fup S1 c (σ (σ 17 2 + 2) i)) (by omega) (Nat.or_lt_two_pow (n := 6) hu64 (by rw [Nat.one_mul]; exact Nat.pow_lt_pow_right (by decide) (by omega))) hT1 hzT1 (OKP_fup hS1 (fun _ => hci) (by omega) (by omega)) (Z_fup hzS1 (by omega)) (by rw [fup_o (by omega), ← hQ 31 (by omega)]; exact h31)) dX4_mostFrom_87 rfl rfl (by omega) (by decide) (Nat.le_of_ble_eq_true rfl) (fun v u hu => ?_)
          obtain ⟨rfl, T2, S2, hT2, hzT2, hS2, hzS2, hQ2, rfl⟩ := hu
          simp only [Option.toList, List.cons_append, List.nil_append]
          rw [show mf (KX σ (σ 17 2)) n (c + 1) (used ||| 1 * 2 ^ i) (fup S1 c (σ (σ 17 2 + 2) i)) = (fun g => mf (KX σ (σ 17 2)) n (c + 1) (used ||| 1 * 2 ^ g) (fup S c ((KX σ (σ 17 2)) 2 g))) i from mf_QE n (c + 1) _ (fun j hj => by
            by_cases q : j = c
            · rw [q, fup_s, fup_s]; rfl
            · rw [fup_o q, fup_o q]; exact (hQ j (by omega)).symm)]
          have hv2 : v225 ((fun g => mf (KX σ (σ 17 2)) n (c + 1) (used ||| 1 * 2 ^ g) (fup S c ((KX σ (σ 17 2)) 2 g))) i) := mf_225 o n (c + 1) _ _ (by omega) (OKP_fup hS (fun _ => hci) (by omega) (by omega))
          have hQ3 : QE c (c + (n + 1)) S S2 := fun j hj => by
            have q2 := hQ2 j (by omega)
            rw [fup_o (by omega)] at q2
            exact (hQ j hj).trans q2
          refine V_istore (pc := 90) dX4_mostFrom_90 (by decide) rfl ?_
          refine V_iload (pc := 92) dX4_mostFrom_92 rfl ?_
          refine V_iload (pc := 94) dX4_mostFrom_94 rfl ?_
          refine V_mmax (pc := 96) ml_X4_263 dX4_mostFrom_96 (by omega) (Nat.le_of_ble_eq_true rfl) ?_
          rw [mx_I hmv hv2]
          refine V_istore (pc := 99) dX4_mostFrom_99 (by decide) rfl ?_
          refine V_iinc (pc := 101) 1 dX4_mostFrom_101 (by decide) rfl (by decide) rfl ?_
          refine V_goto (pc := 104) 39 dX4_mostFrom_104 (by decide) ?_
          first
          | exact ih _ (by omega) (i + 1) _ _ T1 S1 rfl (by omega) (by rw [mfL, if_pos hbit]; exact hmo) hT1 hzT1 hS1 hzS1 hQ hz
          | exact ih _ (by omega) (i + 1) _ _ T2 S2 rfl (by omega) (by rw [mfL, if_neg hbit, ← hmo]) hT2 hzT2 hS2 hzS2 hQ3 rfl
  exact L_39 _ 0 _ none T S rfl (by omega) rfl hT hzT hS hzS (fun _ _ => rfl) rfl
theorem c_mf {B : Bk} {σ : St} (g : GX σ) : ∀ (n c used : Nat) (T S : Nat → Nat), c + n = σ (σ 17 2) 9 → used < 64 → OKP T → Z32 T → OKP S → Z32 S → S 31 ≤ 2 ^ 20 → MC yX4_mostFrom cX4_mostFrom 8 (some .int) (5 + n) B [.int (nI c), .int (nI used), .ref (B.1 (σ 17 2)), .ref (B.1 51), .ref (B.1 48)] (stX (stX σ 48 T) 51 S) (mfP σ c n S (mf (KX σ (σ 17 2)) n c used S))
  | 0, c, used, T, S, h1, _, h3, h4, h5, h6, h7 => c_mf_0 g h1 h3 h4 h5 h6 h7
  | n + 1, c, used, T, S, h1, h2, h3, h4, h5, h6, h7 => c_mf_s g h1 h2 h3 h4 h5 h6 h7 (c_mf g n)
def fiG (K : St) (P : Nat → Nat) : Nat := if K 0 1 < K 0 2 then 4294967287 else mf K (K 0 2) 0 0 P
def TS (σ u : St) : Prop := ∃ T S, OKP T ∧ Z32 T ∧ u = stX (stX σ 48 T) 51 S
theorem TS.rf {σ : St} (h : OKP (pX σ 48)) : TS σ σ := ⟨_, pX σ 51, h, Z_pX σ 48, by rw [stX_self]; exact (stX_self σ 51).symm⟩
set_option maxHeartbeats 4000000 in
set_option maxRecDepth 100000 in
theorem c_X4_fit {B : Bk} {σ : St} (g : GX σ) (h48 : OKP (pX σ 48)) : MC yX4_fit cX4_fit 1 (some .int) 11 B [.ref (B.1 17)] σ (rI (fiG (KX σ (σ 17 2)) (pX σ 45)) (TS σ)) := by
  obtain ⟨hx, hp, hd⟩ := id g
  have hb := hx.1
  obtain ⟨b1, b2, b3, b4, b5, b6, b7, b8⟩ := kd3' hb
  obtain ⟨o0, o1, o2, o3, o4, o5⟩ := id hx.2.1.1
  have n7 : σ (σ 17 2) 7 ≤ 4 := o0
  have n8 : σ (σ 17 2) 8 ≤ 6 := o1
  have n9 : σ (σ 17 2) 9 ≤ 5 := o2
  have hc5 : ∀ i, i < 5 → σ (45 + 1) i < 12 := fun i h => by have := hp.1 i h; rw [pX_c h] at this; exact this
  have hm5 : σ 45 2 < 32 := hp.2.1
  have hd3 : σ 45 3 ≤ 2 ^ 20 := hd
  have hgc : ∀ i, i < σ (σ 17 2) 8 → σ (σ 17 2 + 2) i < 12 := fun i h => (o4 i h).1
  have e02 : KX σ (σ 17 2) 0 2 = σ (σ 17 2) 9 := rfl
  have e01 : KX σ (σ 17 2) 0 1 = σ (σ 17 2) 8 := rfl
  have o : OKK (KX σ (σ 17 2)) := hx.2.1.1
  have s17 : ∀ {T : Nat → Nat}, stX σ 48 T 17 = σ 17 := fun {T} => stX_o (by decide) (by decide) (by decide)
  refine MC_int RX4 [some (.ref (B.1 17))] 0 (by decide +kernel) rfl rfl (Nat.le_of_ble_eq_true rfl) (fun E Q hret => ?_)
  refine V_aload_n (pc := 0) dX4_fit_0 rfl ?_
  refine G_X4_shore (pc := 1) (by first | rfl | assumption) fl_X4_16 dX4_fit_1 ?_
  refine G_X0_grounds (pc := 4) (by first | rfl | assumption) fl_X4_88 dX4_fit_4 ?_
  refine V_aload_n (pc := 7) dX4_fit_7 rfl ?_
  refine G_X4_shore (pc := 8) (by first | rfl | assumption) fl_X4_16 dX4_fit_8 ?_
  refine G_X0_children (pc := 11) (by first | rfl | assumption) fl_X4_91 dX4_fit_11 ?_
  refine V_icmp_ge (pc := 14) 20 dX4_fit_14 (by decide) (by first | omega | assumption | exact and1_lt _ | exact nb_p) (by first | omega | assumption | exact and1_lt _ | exact nb_p) (fun h_14 => ?_) (fun h_14 => ?_)
  · skip
    refine V_aload_n (pc := 20) dX4_fit_20 rfl ?_
    refine G_X4_start (pc := 21) (by first | rfl | assumption) fl_X4_33 dX4_fit_21 ?_
    refine V_aload_n (pc := 24) dX4_fit_24 rfl ?_
    refine G_X4_now (pc := 25) (by first | rfl | assumption) fl_X4_26 dX4_fit_25 ?_
    refine V_callV_V (pc := 28) ff_X3_take ml_X4_170 (by first | rfl | assumption) rfl rfl (c_X3_take (k := 51) (j := 45) rfl rfl (by decide)) dX4_fit_28 rfl rfl (by decide) (by decide) (Nat.le_of_ble_eq_true rfl) ?_
    refine V_iconst (pc := 31) 0 dX4_fit_31 (by decide) ?_
    refine V_iconst (pc := 32) 0 dX4_fit_32 (by decide) ?_
    refine V_aload_n (pc := 33) dX4_fit_33 rfl ?_
    refine G_X4_shore (pc := 34) (by first | rfl | assumption) fl_X4_16 dX4_fit_34 ?_
    rw [show stX σ 51 (pX σ 45) = stX (stX σ 48 (pX σ 48)) 51 (pX σ 45) by rw [stX_self], ts_o (by decide)]
    refine V_aload_n (pc := 37) dX4_fit_37 rfl ?_
    refine G_X4_start (pc := 38) (by first | rfl | assumption) fl_X4_33 dX4_fit_38 ?_
    refine V_aload_n (pc := 41) dX4_fit_41 rfl ?_
    refine G_X4_trial (pc := 42) (by first | rfl | assumption) fl_X4_30 dX4_fit_42 ?_
    refine V_callS (pc := 45) ff_X4_mostFrom ml_X4_177 (c_mf g (σ (σ 17 2) 9) 0 0 (pX σ 48) (pX σ 45) (by omega) (by decide) h48 (Z_pX σ 48) hp (Z_pX σ 45) hd) dX4_fit_45 rfl rfl (by omega) (by decide) (Nat.le_of_ble_eq_true rfl) (fun v u hu => ?_)
    obtain ⟨rfl, T2, S2, hT2, hzT2, hS2, hzS2, hQ2, rfl⟩ := hu
    simp only [Option.toList, List.cons_append, List.nil_append]
    exact hret _ _ _ _ dX4_fit_48 (rI_mk (by unfold fiG; rw [if_neg (by omega), e02]) ⟨T2, S2, hT2, hzT2, rfl⟩)
  · skip
    refine V_bipush (pc := 17) 4294967287 dX4_fit_17 (by decide) ?_
    exact hret _ _ _ _ dX4_fit_19 (rI_mk (by unfold fiG; rw [if_pos (by omega)]) (TS.rf h48))
